section
-- ===== PART A: goes FIRST, ahead of the names: the tables' words, and 'selects' of the private methods out of them =====
/-- a private method of a class that the tables say can be made, by its rows of tables_1 -/
def lw_okq (q : MethodName × Nat) : Prop := (q.1.cls ≠ "java/lang/invoke/MethodHandle" ∧ q.1.cls ≠ "java/lang/invoke/VarHandle") ∧ Cond.instantiable q.1.cls q.2 ∈ tables_1 ∧ Cond.privateMethod q.1 ∈ tables_1 ∧ Cond.instanceMethod q.1 ∈ tables_1
theorem lw_p0 : lw_okq (⟨"LeafSigner$Hashes", "startTagged", "(I[II)V"⟩, 6) := ⟨⟨by decide +kernel, by decide +kernel⟩, List.mem_of_getElem? (i := 112) (by decide +kernel), List.mem_of_getElem? (i := 261) (by decide +kernel), List.mem_of_getElem? (i := 262) (by decide +kernel)⟩
theorem lw_p1 : lw_okq (⟨"LeafSigner", "isWrongCount", "(I)Z"⟩, 8) := ⟨⟨by decide +kernel, by decide +kernel⟩, List.mem_of_getElem? (i := 14) (by decide +kernel), List.mem_of_getElem? (i := 329) (by decide +kernel), List.mem_of_getElem? (i := 330) (by decide +kernel)⟩
theorem lw_p2 : lw_okq (⟨"LeafSigner$Machine", "reserveMore", "()Z"⟩, 7) := ⟨⟨by decide +kernel, by decide +kernel⟩, List.mem_of_getElem? (i := 71) (by decide +kernel), List.mem_of_getElem? (i := 337) (by decide +kernel), List.mem_of_getElem? (i := 338) (by decide +kernel)⟩
theorem lw_p3 : lw_okq (⟨"LeafSigner$Disk", "writeByte", "(II)Z"⟩, 3) := ⟨⟨by decide +kernel, by decide +kernel⟩, List.mem_of_getElem? (i := 46) (by decide +kernel), List.mem_of_getElem? (i := 349) (by decide +kernel), List.mem_of_getElem? (i := 350) (by decide +kernel)⟩
theorem lw_p4 : lw_okq (⟨"LeafSigner$Hashes", "drawFromSeed", "(I[I)V"⟩, 6) := ⟨⟨by decide +kernel, by decide +kernel⟩, List.mem_of_getElem? (i := 112) (by decide +kernel), List.mem_of_getElem? (i := 395) (by decide +kernel), List.mem_of_getElem? (i := 396) (by decide +kernel)⟩
theorem lw_p5 : lw_okq (⟨"LeafSigner", "wasNeverKeyed", "()Z"⟩, 8) := ⟨⟨by decide +kernel, by decide +kernel⟩, List.mem_of_getElem? (i := 14) (by decide +kernel), List.mem_of_getElem? (i := 478) (by decide +kernel), List.mem_of_getElem? (i := 479) (by decide +kernel)⟩
theorem lw_p6 : lw_okq (⟨"LeafSigner$Tree", "isRoot", "([I)Z"⟩, 11) := ⟨⟨by decide +kernel, by decide +kernel⟩, List.mem_of_getElem? (i := 103) (by decide +kernel), List.mem_of_getElem? (i := 494) (by decide +kernel), List.mem_of_getElem? (i := 495) (by decide +kernel)⟩
theorem lw_p7 : lw_okq (⟨"LeafSignerModel", "feedOne", "(I)V"⟩, 40) := ⟨⟨by decide +kernel, by decide +kernel⟩, List.mem_of_getElem? (i := 530) (by decide +kernel), List.mem_of_getElem? (i := 738) (by decide +kernel), List.mem_of_getElem? (i := 739) (by decide +kernel)⟩
theorem lw_p8 : lw_okq (⟨"LeafSignerModel", "grows", "()V"⟩, 40) := ⟨⟨by decide +kernel, by decide +kernel⟩, List.mem_of_getElem? (i := 530) (by decide +kernel), List.mem_of_getElem? (i := 746) (by decide +kernel), List.mem_of_getElem? (i := 747) (by decide +kernel)⟩
theorem lw_p9 : lw_okq (⟨"LeafSignerModel", "begun", "(I)V"⟩, 40) := ⟨⟨by decide +kernel, by decide +kernel⟩, List.mem_of_getElem? (i := 530) (by decide +kernel), List.mem_of_getElem? (i := 750) (by decide +kernel), List.mem_of_getElem? (i := 751) (by decide +kernel)⟩
theorem lw_p10 : lw_okq (⟨"LeafSignerModel", "derives", "([BI[BI)V"⟩, 40) := ⟨⟨by decide +kernel, by decide +kernel⟩, List.mem_of_getElem? (i := 530) (by decide +kernel), List.mem_of_getElem? (i := 754) (by decide +kernel), List.mem_of_getElem? (i := 755) (by decide +kernel)⟩
theorem lw_p11 : lw_okq (⟨"LeafSignerModel", "begins", "(I)V"⟩, 40) := ⟨⟨by decide +kernel, by decide +kernel⟩, List.mem_of_getElem? (i := 530) (by decide +kernel), List.mem_of_getElem? (i := 758) (by decide +kernel), List.mem_of_getElem? (i := 759) (by decide +kernel)⟩
theorem lw_p12 : lw_okq (⟨"LeafSignerModel", "putNumber", "(II)V"⟩, 40) := ⟨⟨by decide +kernel, by decide +kernel⟩, List.mem_of_getElem? (i := 530) (by decide +kernel), List.mem_of_getElem? (i := 762) (by decide +kernel), List.mem_of_getElem? (i := 763) (by decide +kernel)⟩
theorem lw_p13 : lw_okq (⟨"LeafSignerModel", "put", "(I)V"⟩, 40) := ⟨⟨by decide +kernel, by decide +kernel⟩, List.mem_of_getElem? (i := 530) (by decide +kernel), List.mem_of_getElem? (i := 766) (by decide +kernel), List.mem_of_getElem? (i := 767) (by decide +kernel)⟩
theorem lw_p14 : lw_okq (⟨"LeafSignerModel", "putRow", "([BII)V"⟩, 40) := ⟨⟨by decide +kernel, by decide +kernel⟩, List.mem_of_getElem? (i := 530) (by decide +kernel), List.mem_of_getElem? (i := 770) (by decide +kernel), List.mem_of_getElem? (i := 771) (by decide +kernel)⟩
theorem lw_p15 : lw_okq (⟨"LeafSignerModel", "sums", "([BI)V"⟩, 40) := ⟨⟨by decide +kernel, by decide +kernel⟩, List.mem_of_getElem? (i := 530) (by decide +kernel), List.mem_of_getElem? (i := 774) (by decide +kernel), List.mem_of_getElem? (i := 775) (by decide +kernel)⟩
def lw_privs_1 : List (MethodName × Nat) := [(⟨"LeafSigner$Hashes", "startTagged", "(I[II)V"⟩, 6), (⟨"LeafSigner", "isWrongCount", "(I)Z"⟩, 8), (⟨"LeafSigner$Machine", "reserveMore", "()Z"⟩, 7), (⟨"LeafSigner$Disk", "writeByte", "(II)Z"⟩, 3), (⟨"LeafSigner$Hashes", "drawFromSeed", "(I[I)V"⟩, 6), (⟨"LeafSigner", "wasNeverKeyed", "()Z"⟩, 8), (⟨"LeafSigner$Tree", "isRoot", "([I)Z"⟩, 11), (⟨"LeafSignerModel", "feedOne", "(I)V"⟩, 40), (⟨"LeafSignerModel", "grows", "()V"⟩, 40), (⟨"LeafSignerModel", "begun", "(I)V"⟩, 40), (⟨"LeafSignerModel", "derives", "([BI[BI)V"⟩, 40), (⟨"LeafSignerModel", "begins", "(I)V"⟩, 40), (⟨"LeafSignerModel", "putNumber", "(II)V"⟩, 40), (⟨"LeafSignerModel", "put", "(I)V"⟩, 40), (⟨"LeafSignerModel", "putRow", "([BII)V"⟩, 40), (⟨"LeafSignerModel", "sums", "([BI)V"⟩, 40)]
theorem lw_r1 : ∀ q ∈ lw_privs_1, lw_okq q := List.forall_mem_cons.mpr ⟨lw_p0, List.forall_mem_cons.mpr ⟨lw_p1, List.forall_mem_cons.mpr ⟨lw_p2, List.forall_mem_cons.mpr ⟨lw_p3, List.forall_mem_cons.mpr ⟨lw_p4, List.forall_mem_cons.mpr ⟨lw_p5, List.forall_mem_cons.mpr ⟨lw_p6, List.forall_mem_cons.mpr ⟨lw_p7, List.forall_mem_cons.mpr ⟨lw_p8, List.forall_mem_cons.mpr ⟨lw_p9, List.forall_mem_cons.mpr ⟨lw_p10, List.forall_mem_cons.mpr ⟨lw_p11, List.forall_mem_cons.mpr ⟨lw_p12, List.forall_mem_cons.mpr ⟨lw_p13, List.forall_mem_cons.mpr ⟨lw_p14, List.forall_mem_cons.mpr ⟨lw_p15, fun _ h => absurd h List.not_mem_nil⟩⟩⟩⟩⟩⟩⟩⟩⟩⟩⟩⟩⟩⟩⟩⟩
theorem lw_p16 : lw_okq (⟨"LeafSignerModel", "block", "(I)V"⟩, 40) := ⟨⟨by decide +kernel, by decide +kernel⟩, List.mem_of_getElem? (i := 530) (by decide +kernel), List.mem_of_getElem? (i := 778) (by decide +kernel), List.mem_of_getElem? (i := 779) (by decide +kernel)⟩
theorem lw_p17 : lw_okq (⟨"LeafSignerModel", "goes", "(IZ)V"⟩, 40) := ⟨⟨by decide +kernel, by decide +kernel⟩, List.mem_of_getElem? (i := 530) (by decide +kernel), List.mem_of_getElem? (i := 785) (by decide +kernel), List.mem_of_getElem? (i := 786) (by decide +kernel)⟩
theorem lw_p18 : lw_okq (⟨"LeafSignerModel", "tells", "(II)V"⟩, 40) := ⟨⟨by decide +kernel, by decide +kernel⟩, List.mem_of_getElem? (i := 530) (by decide +kernel), List.mem_of_getElem? (i := 789) (by decide +kernel), List.mem_of_getElem? (i := 790) (by decide +kernel)⟩
theorem lw_p19 : lw_okq (⟨"LeafSignerModel", "tell", "(II)V"⟩, 40) := ⟨⟨by decide +kernel, by decide +kernel⟩, List.mem_of_getElem? (i := 530) (by decide +kernel), List.mem_of_getElem? (i := 793) (by decide +kernel), List.mem_of_getElem? (i := 794) (by decide +kernel)⟩
theorem lw_p20 : lw_okq (⟨"LeafSignerModel", "chains", "([BIII)V"⟩, 40) := ⟨⟨by decide +kernel, by decide +kernel⟩, List.mem_of_getElem? (i := 530) (by decide +kernel), List.mem_of_getElem? (i := 797) (by decide +kernel), List.mem_of_getElem? (i := 798) (by decide +kernel)⟩
theorem lw_p21 : lw_okq (⟨"LeafSignerModel", "uses", "(I[B)V"⟩, 40) := ⟨⟨by decide +kernel, by decide +kernel⟩, List.mem_of_getElem? (i := 530) (by decide +kernel), List.mem_of_getElem? (i := 801) (by decide +kernel), List.mem_of_getElem? (i := 802) (by decide +kernel)⟩
theorem lw_p22 : lw_okq (⟨"LeafSignerModel", "nodeAt", "(II)I"⟩, 40) := ⟨⟨by decide +kernel, by decide +kernel⟩, List.mem_of_getElem? (i := 530) (by decide +kernel), List.mem_of_getElem? (i := 805) (by decide +kernel), List.mem_of_getElem? (i := 806) (by decide +kernel)⟩
theorem lw_p23 : lw_okq (⟨"LeafSignerModel", "gathers", "(I[BI)V"⟩, 40) := ⟨⟨by decide +kernel, by decide +kernel⟩, List.mem_of_getElem? (i := 530) (by decide +kernel), List.mem_of_getElem? (i := 809) (by decide +kernel), List.mem_of_getElem? (i := 810) (by decide +kernel)⟩
theorem lw_p24 : lw_okq (⟨"LeafSignerModel", "joins", "([BI[BI[BI)V"⟩, 40) := ⟨⟨by decide +kernel, by decide +kernel⟩, List.mem_of_getElem? (i := 530) (by decide +kernel), List.mem_of_getElem? (i := 813) (by decide +kernel), List.mem_of_getElem? (i := 814) (by decide +kernel)⟩
theorem lw_p25 : lw_okq (⟨"LeafSignerModel", "reserves", "()Z"⟩, 40) := ⟨⟨by decide +kernel, by decide +kernel⟩, List.mem_of_getElem? (i := 530) (by decide +kernel), List.mem_of_getElem? (i := 824) (by decide +kernel), List.mem_of_getElem? (i := 825) (by decide +kernel)⟩
theorem lw_p26 : lw_okq (⟨"LeafSignerModel", "writes", "(II)Z"⟩, 40) := ⟨⟨by decide +kernel, by decide +kernel⟩, List.mem_of_getElem? (i := 530) (by decide +kernel), List.mem_of_getElem? (i := 828) (by decide +kernel), List.mem_of_getElem? (i := 829) (by decide +kernel)⟩
theorem lw_p27 : lw_okq (⟨"LeafSignerModel", "falls", "()V"⟩, 40) := ⟨⟨by decide +kernel, by decide +kernel⟩, List.mem_of_getElem? (i := 530) (by decide +kernel), List.mem_of_getElem? (i := 832) (by decide +kernel), List.mem_of_getElem? (i := 833) (by decide +kernel)⟩
theorem lw_p28 : lw_okq (⟨"LeafSignerModel", "reads", "([BIII)V"⟩, 40) := ⟨⟨by decide +kernel, by decide +kernel⟩, List.mem_of_getElem? (i := 530) (by decide +kernel), List.mem_of_getElem? (i := 836) (by decide +kernel), List.mem_of_getElem? (i := 837) (by decide +kernel)⟩
theorem lw_p29 : lw_okq (⟨"LeafSignerModel", "wholeOf", "(I)I"⟩, 40) := ⟨⟨by decide +kernel, by decide +kernel⟩, List.mem_of_getElem? (i := 530) (by decide +kernel), List.mem_of_getElem? (i := 852) (by decide +kernel), List.mem_of_getElem? (i := 853) (by decide +kernel)⟩
theorem lw_p30 : lw_okq (⟨"LeafSignerModel", "diskNumber", "(I)I"⟩, 40) := ⟨⟨by decide +kernel, by decide +kernel⟩, List.mem_of_getElem? (i := 530) (by decide +kernel), List.mem_of_getElem? (i := 856) (by decide +kernel), List.mem_of_getElem? (i := 857) (by decide +kernel)⟩
def lw_privs_2 : List (MethodName × Nat) := [(⟨"LeafSignerModel", "block", "(I)V"⟩, 40), (⟨"LeafSignerModel", "goes", "(IZ)V"⟩, 40), (⟨"LeafSignerModel", "tells", "(II)V"⟩, 40), (⟨"LeafSignerModel", "tell", "(II)V"⟩, 40), (⟨"LeafSignerModel", "chains", "([BIII)V"⟩, 40), (⟨"LeafSignerModel", "uses", "(I[B)V"⟩, 40), (⟨"LeafSignerModel", "nodeAt", "(II)I"⟩, 40), (⟨"LeafSignerModel", "gathers", "(I[BI)V"⟩, 40), (⟨"LeafSignerModel", "joins", "([BI[BI[BI)V"⟩, 40), (⟨"LeafSignerModel", "reserves", "()Z"⟩, 40), (⟨"LeafSignerModel", "writes", "(II)Z"⟩, 40), (⟨"LeafSignerModel", "falls", "()V"⟩, 40), (⟨"LeafSignerModel", "reads", "([BIII)V"⟩, 40), (⟨"LeafSignerModel", "wholeOf", "(I)I"⟩, 40), (⟨"LeafSignerModel", "diskNumber", "(I)I"⟩, 40)]
theorem lw_r2 : ∀ q ∈ lw_privs_2, lw_okq q := List.forall_mem_cons.mpr ⟨lw_p16, List.forall_mem_cons.mpr ⟨lw_p17, List.forall_mem_cons.mpr ⟨lw_p18, List.forall_mem_cons.mpr ⟨lw_p19, List.forall_mem_cons.mpr ⟨lw_p20, List.forall_mem_cons.mpr ⟨lw_p21, List.forall_mem_cons.mpr ⟨lw_p22, List.forall_mem_cons.mpr ⟨lw_p23, List.forall_mem_cons.mpr ⟨lw_p24, List.forall_mem_cons.mpr ⟨lw_p25, List.forall_mem_cons.mpr ⟨lw_p26, List.forall_mem_cons.mpr ⟨lw_p27, List.forall_mem_cons.mpr ⟨lw_p28, List.forall_mem_cons.mpr ⟨lw_p29, List.forall_mem_cons.mpr ⟨lw_p30, fun _ h => absurd h List.not_mem_nil⟩⟩⟩⟩⟩⟩⟩⟩⟩⟩⟩⟩⟩⟩⟩
def lw_privs : List (MethodName × Nat) := lw_privs_1 ++ (lw_privs_2)
def lw_tbl : List Cond := k2_sels lw_privs ++ tables_1
theorem lw_privs_ok : ∀ q ∈ lw_privs, lw_okq q := by
  show ∀ q ∈ lw_privs_1 ++ (lw_privs_2), lw_okq q
  exact List.forall_mem_append.mpr ⟨lw_r1, lw_r2⟩

def RX0 : String := "LeafSigner$ByteRow"
def TX0 : u_T := fun k => match k with
  | 0 => ("LeafSigner$ByteRow", "words", "[I", true)
  | _ => ("LeafSigner$ByteRow", "count", "I", false)
def tyX0 : Nat → FieldType := fun k => match k with
  | 0 => .array .int
  | _ => .int
abbrev wsX00 : List Cond := u_ws RX0 TX0 2
theorem nmX0 : ∀ a, a < 2 → ∀ b, b < 2 → a ≠ b → (TX0 a).2.1 ≠ (TX0 b).2.1 := by decide +kernel
theorem tyX0_ok : ∀ k, k < 2 → parseFieldDescriptor (TX0 k).2.2.1 = some (tyX0 k) := by decide +kernel
abbrev cX0_init : ByteArray := prog_2_method_1_code
def yX0_init : MethodName := ⟨RX0, "<init>", "(I)V"⟩
abbrev cX0_byteAt : ByteArray := prog_2_method_2_code
def yX0_byteAt : MethodName := ⟨RX0, "byteAt", "(I)I"⟩
abbrev cX0_flip : ByteArray := prog_2_method_3_code
def yX0_flip : MethodName := ⟨RX0, "flip", "(II)V"⟩
abbrev cX0_append : ByteArray := prog_2_method_4_code
def yX0_append : MethodName := ⟨RX0, "append", "(I)V"⟩
abbrev cX0_fill : ByteArray := prog_2_method_5_code
def yX0_fill : MethodName := ⟨RX0, "fill", "()V"⟩
abbrev cX0_isFull : ByteArray := prog_2_method_6_code
def yX0_isFull : MethodName := ⟨RX0, "isFull", "()Z"⟩
abbrev cX0_copyOf : ByteArray := prog_2_method_7_code
def yX0_copyOf : MethodName := ⟨RX0, "copyOf", "(LLeafSigner$ByteRow;)V"⟩
abbrev cX0_shiftOf : ByteArray := prog_2_method_8_code
def yX0_shiftOf : MethodName := ⟨RX0, "shiftOf", "(I)I"⟩
def RX1 : String := "LeafSigner$Disk"
def TX1 : u_T := fun k => match k with
  | 0 => ("LeafSigner$Disk", "bytes", "LLeafSigner$ByteRow;", true)
  | 1 => ("LeafSigner$Disk", "written", "I", false)
  | _ => ("LeafSigner$Disk", "fuseLeft", "I", false)
def tyX1 : Nat → FieldType := fun k => match k with
  | 0 => .object "LeafSigner$ByteRow"
  | 1 => .int
  | _ => .int
abbrev wsX10 : List Cond := u_ws RX1 TX1 3
theorem nmX1 : ∀ a, a < 3 → ∀ b, b < 3 → a ≠ b → (TX1 a).2.1 ≠ (TX1 b).2.1 := by decide +kernel
theorem tyX1_ok : ∀ k, k < 3 → parseFieldDescriptor (TX1 k).2.2.1 = some (tyX1 k) := by decide +kernel
abbrev cX1_init : ByteArray := prog_3_method_1_code
def yX1_init : MethodName := ⟨RX1, "<init>", "()V"⟩
abbrev cX1_erase : ByteArray := prog_3_method_2_code
def yX1_erase : MethodName := ⟨RX1, "erase", "()V"⟩
abbrev cX1_sequenceOf : ByteArray := prog_3_method_3_code
def yX1_sequenceOf : MethodName := ⟨RX1, "sequenceOf", "(I)I"⟩
abbrev cX1_limitOf : ByteArray := prog_3_method_4_code
def yX1_limitOf : MethodName := ⟨RX1, "limitOf", "(I)I"⟩
abbrev cX1_writeSlot : ByteArray := prog_3_method_5_code
def yX1_writeSlot : MethodName := ⟨RX1, "writeSlot", "(II)Z"⟩
abbrev cX1_writeByte : ByteArray := prog_3_method_6_code
def yX1_writeByte : MethodName := ⟨RX1, "writeByte", "(II)Z"⟩
def RX2 : String := "LeafSigner$Hashes"
def TX2 : u_T := fun k => match k with
  | 0 => ("LeafSigner$Hashes", "sha", "LLeafSigner$Sha256;", true)
  | 1 => ("LeafSigner$Hashes", "seedState", "[I", true)
  | 2 => ("LeafSigner$Hashes", "address", "[I", true)
  | 3 => ("LeafSigner$Hashes", "key", "[I", true)
  | 4 => ("LeafSigner$Hashes", "mask", "[I", true)
  | _ => ("LeafSigner$Hashes", "otherMask", "[I", true)
def tyX2 : Nat → FieldType := fun k => match k with
  | 0 => .object "LeafSigner$Sha256"
  | 1 => .array .int
  | 2 => .array .int
  | 3 => .array .int
  | 4 => .array .int
  | _ => .array .int
abbrev wsX20 : List Cond := u_ws RX2 TX2 6
theorem nmX2 : ∀ a, a < 6 → ∀ b, b < 6 → a ≠ b → (TX2 a).2.1 ≠ (TX2 b).2.1 := by decide +kernel
theorem tyX2_ok : ∀ k, k < 6 → parseFieldDescriptor (TX2 k).2.2.1 = some (tyX2 k) := by decide +kernel
abbrev cX2_init : ByteArray := prog_4_method_1_code
def yX2_init : MethodName := ⟨RX2, "<init>", "()V"⟩
abbrev cX2_takeSeed : ByteArray := prog_4_method_2_code
def yX2_takeSeed : MethodName := ⟨RX2, "takeSeed", "([II)V"⟩
abbrev cX2_address : ByteArray := prog_4_method_3_code
def yX2_address : MethodName := ⟨RX2, "address", "(IIII)V"⟩
abbrev cX2_derive : ByteArray := prog_4_method_4_code
def yX2_derive : MethodName := ⟨RX2, "derive", "([II[II)V"⟩
abbrev cX2_chain : ByteArray := prog_4_method_5_code
def yX2_chain : MethodName := ⟨RX2, "chain", "([IIII)V"⟩
abbrev cX2_join : ByteArray := prog_4_method_6_code
def yX2_join : MethodName := ⟨RX2, "join", "([II[II)V"⟩
abbrev cX2_digestMessage : ByteArray := prog_4_method_7_code
def yX2_digestMessage : MethodName := ⟨RX2, "digestMessage", "([I[I[II[I)V"⟩
abbrev cX2_drawFromSeed : ByteArray := prog_4_method_8_code
def yX2_drawFromSeed : MethodName := ⟨RX2, "drawFromSeed", "(I[I)V"⟩
abbrev cX2_startTagged : ByteArray := prog_4_method_9_code
def yX2_startTagged : MethodName := ⟨RX2, "startTagged", "(I[II)V"⟩
def RX3 : String := "LeafSigner$Machine"
def TX3 : u_T := fun k => match k with
  | 0 => ("LeafSigner$Machine", "fates", "[I", true)
  | 1 => ("LeafSigner$Machine", "reserve", "I", true)
  | 2 => ("LeafSigner$Machine", "disk", "LLeafSigner$Disk;", true)
  | 3 => ("LeafSigner$Machine", "state", "I", false)
  | 4 => ("LeafSigner$Machine", "next", "I", false)
  | 5 => ("LeafSigner$Machine", "end", "I", false)
  | _ => ("LeafSigner$Machine", "sequence", "I", false)
def tyX3 : Nat → FieldType := fun k => match k with
  | 0 => .array .int
  | 1 => .int
  | 2 => .object "LeafSigner$Disk"
  | 3 => .int
  | 4 => .int
  | 5 => .int
  | _ => .int
abbrev wsX30 : List Cond := u_ws RX3 TX3 7
theorem nmX3 : ∀ a, a < 7 → ∀ b, b < 7 → a ≠ b → (TX3 a).2.1 ≠ (TX3 b).2.1 := by decide +kernel
theorem tyX3_ok : ∀ k, k < 7 → parseFieldDescriptor (TX3 k).2.2.1 = some (tyX3 k) := by decide +kernel
abbrev cX3_init : ByteArray := prog_5_method_1_code
def yX3_init : MethodName := ⟨RX3, "<init>", "(IILLeafSigner$Disk;)V"⟩
abbrev cX3_begin : ByteArray := prog_5_method_2_code
def yX3_begin : MethodName := ⟨RX3, "begin", "()V"⟩
abbrev cX3_comeUp : ByteArray := prog_5_method_3_code
def yX3_comeUp : MethodName := ⟨RX3, "comeUp", "()V"⟩
abbrev cX3_goDown : ByteArray := prog_5_method_4_code
def yX3_goDown : MethodName := ⟨RX3, "goDown", "()V"⟩
abbrev cX3_release : ByteArray := prog_5_method_5_code
def yX3_release : MethodName := ⟨RX3, "release", "()I"⟩
abbrev cX3_reserveMore : ByteArray := prog_5_method_6_code
def yX3_reserveMore : MethodName := ⟨RX3, "reserveMore", "()Z"⟩
abbrev cX3_countOf : ByteArray := prog_5_method_7_code
def yX3_countOf : MethodName := ⟨RX3, "countOf", "(I)I"⟩
def RX4 : String := "LeafSigner$OneTime"
def TX4 : u_T := fun k => match k with
  | 0 => ("LeafSigner$OneTime", "hashes", "LLeafSigner$Hashes;", true)
  | 1 => ("LeafSigner$OneTime", "leafSecret", "[I", true)
  | 2 => ("LeafSigner$OneTime", "bottoms", "[I", true)
  | 3 => ("LeafSigner$OneTime", "digits", "[I", true)
  | _ => ("LeafSigner$OneTime", "tops", "[I", true)
def tyX4 : Nat → FieldType := fun k => match k with
  | 0 => .object "LeafSigner$Hashes"
  | 1 => .array .int
  | 2 => .array .int
  | 3 => .array .int
  | _ => .array .int
abbrev wsX40 : List Cond := u_ws RX4 TX4 5
theorem nmX4 : ∀ a, a < 5 → ∀ b, b < 5 → a ≠ b → (TX4 a).2.1 ≠ (TX4 b).2.1 := by decide +kernel
theorem tyX4_ok : ∀ k, k < 5 → parseFieldDescriptor (TX4 k).2.2.1 = some (tyX4 k) := by decide +kernel
abbrev cX4_init : ByteArray := prog_6_method_1_code
def yX4_init : MethodName := ⟨RX4, "<init>", "(LLeafSigner$Hashes;)V"⟩
abbrev cX4_writeSecrets : ByteArray := prog_6_method_2_code
def yX4_writeSecrets : MethodName := ⟨RX4, "writeSecrets", "([II[II)V"⟩
abbrev cX4_readDigits : ByteArray := prog_6_method_3_code
def yX4_readDigits : MethodName := ⟨RX4, "readDigits", "([I)V"⟩
abbrev cX4_walk : ByteArray := prog_6_method_4_code
def yX4_walk : MethodName := ⟨RX4, "walk", "(I[II[I[I)V"⟩
abbrev cX4_joinParts : ByteArray := prog_6_method_5_code
def yX4_joinParts : MethodName := ⟨RX4, "joinParts", "(I[I[II)V"⟩
def RX5 : String := "LeafSigner$Sha256"
def TX5 : u_T := fun k => match k with
  | 0 => ("LeafSigner$Sha256", "state", "[I", true)
  | _ => ("LeafSigner$Sha256", "words", "[I", true)
def tyX5 : Nat → FieldType := fun k => match k with
  | 0 => .array .int
  | _ => .array .int
abbrev wsX50 : List Cond := u_ws RX5 TX5 2
theorem nmX5 : ∀ a, a < 2 → ∀ b, b < 2 → a ≠ b → (TX5 a).2.1 ≠ (TX5 b).2.1 := by decide +kernel
theorem tyX5_ok : ∀ k, k < 2 → parseFieldDescriptor (TX5 k).2.2.1 = some (tyX5 k) := by decide +kernel
abbrev cX5_init : ByteArray := prog_7_method_1_code
def yX5_init : MethodName := ⟨RX5, "<init>", "()V"⟩
abbrev cX5_start : ByteArray := prog_7_method_2_code
def yX5_start : MethodName := ⟨RX5, "start", "()V"⟩
abbrev cX5_startFrom : ByteArray := prog_7_method_3_code
def yX5_startFrom : MethodName := ⟨RX5, "startFrom", "([I)V"⟩
abbrev cX5_copyTo : ByteArray := prog_7_method_4_code
def yX5_copyTo : MethodName := ⟨RX5, "copyTo", "([II)V"⟩
abbrev cX5_putRow : ByteArray := prog_7_method_5_code
def yX5_putRow : MethodName := ⟨RX5, "putRow", "(I[II)V"⟩
abbrev cX5_putMasked : ByteArray := prog_7_method_6_code
def yX5_putMasked : MethodName := ⟨RX5, "putMasked", "(I[II[I)V"⟩
abbrev cX5_putNumber : ByteArray := prog_7_method_7_code
def yX5_putNumber : MethodName := ⟨RX5, "putNumber", "(II)V"⟩
abbrev cX5_putEnd : ByteArray := prog_7_method_8_code
def yX5_putEnd : MethodName := ⟨RX5, "putEnd", "(II)V"⟩
abbrev cX5_finish : ByteArray := prog_7_method_9_code
def yX5_finish : MethodName := ⟨RX5, "finish", "([III)V"⟩
abbrev cX5_paddedWord : ByteArray := prog_7_method_10_code
def yX5_paddedWord : MethodName := ⟨RX5, "paddedWord", "([III)I"⟩
abbrev cX5_compress : ByteArray := prog_7_method_11_code
def yX5_compress : MethodName := ⟨RX5, "compress", "()V"⟩
abbrev cX5_mixEarly : ByteArray := prog_7_method_12_code
def yX5_mixEarly : MethodName := ⟨RX5, "mixEarly", "(I)I"⟩
abbrev cX5_mixLate : ByteArray := prog_7_method_13_code
def yX5_mixLate : MethodName := ⟨RX5, "mixLate", "(I)I"⟩
abbrev cX5_mixA : ByteArray := prog_7_method_14_code
def yX5_mixA : MethodName := ⟨RX5, "mixA", "(I)I"⟩
abbrev cX5_mixE : ByteArray := prog_7_method_15_code
def yX5_mixE : MethodName := ⟨RX5, "mixE", "(I)I"⟩
def RX6 : String := "LeafSigner$Tree"
def TX6 : u_T := fun k => match k with
  | 0 => ("LeafSigner$Tree", "height", "I", true)
  | 1 => ("LeafSigner$Tree", "leaves", "I", true)
  | 2 => ("LeafSigner$Tree", "nodes", "LLeafSigner$ByteRow;", true)
  | 3 => ("LeafSigner$Tree", "hashes", "LLeafSigner$Hashes;", true)
  | 4 => ("LeafSigner$Tree", "oneTime", "LLeafSigner$OneTime;", true)
  | 5 => ("LeafSigner$Tree", "secret", "[I", true)
  | 6 => ("LeafSigner$Tree", "randomKey", "[I", true)
  | 7 => ("LeafSigner$Tree", "digest", "[I", true)
  | 8 => ("LeafSigner$Tree", "parts", "[I", true)
  | 9 => ("LeafSigner$Tree", "pair", "[I", true)
  | _ => ("LeafSigner$Tree", "grown", "Z", false)
def tyX6 : Nat → FieldType := fun k => match k with
  | 0 => .int
  | 1 => .int
  | 2 => .object "LeafSigner$ByteRow"
  | 3 => .object "LeafSigner$Hashes"
  | 4 => .object "LeafSigner$OneTime"
  | 5 => .array .int
  | 6 => .array .int
  | 7 => .array .int
  | 8 => .array .int
  | 9 => .array .int
  | _ => .boolean
abbrev wsX60 : List Cond := u_ws RX6 TX6 11
theorem nmX6 : ∀ a, a < 11 → ∀ b, b < 11 → a ≠ b → (TX6 a).2.1 ≠ (TX6 b).2.1 := by decide +kernel
theorem tyX6_ok : ∀ k, k < 11 → parseFieldDescriptor (TX6 k).2.2.1 = some (tyX6 k) := by decide +kernel
abbrev cX6_init : ByteArray := prog_8_method_1_code
def yX6_init : MethodName := ⟨RX6, "<init>", "(I)V"⟩
abbrev cX6_plant : ByteArray := prog_8_method_2_code
def yX6_plant : MethodName := ⟨RX6, "plant", "([I)V"⟩
abbrev cX6_hasLeaf : ByteArray := prog_8_method_3_code
def yX6_hasLeaf : MethodName := ⟨RX6, "hasLeaf", "(I)Z"⟩
abbrev cX6_hasNode : ByteArray := prog_8_method_4_code
def yX6_hasNode : MethodName := ⟨RX6, "hasNode", "(II)Z"⟩
abbrev cX6_nodeAt : ByteArray := prog_8_method_5_code
def yX6_nodeAt : MethodName := ⟨RX6, "nodeAt", "(II)I"⟩
abbrev cX6_grow : ByteArray := prog_8_method_6_code
def yX6_grow : MethodName := ⟨RX6, "grow", "()V"⟩
abbrev cX6_writeSignature : ByteArray := prog_8_method_7_code
def yX6_writeSignature : MethodName := ⟨RX6, "writeSignature", "(I[II[I)V"⟩
abbrev cX6_leadsToRoot : ByteArray := prog_8_method_8_code
def yX6_leadsToRoot : MethodName := ⟨RX6, "leadsToRoot", "([I[II)Z"⟩
abbrev cX6_isRoot : ByteArray := prog_8_method_9_code
def yX6_isRoot : MethodName := ⟨RX6, "isRoot", "([I)Z"⟩
def RX7 : String := "LeafSigner"
def TX7 : u_T := fun k => match k with
  | 0 => ("LeafSigner", "height", "I", true)
  | 1 => ("LeafSigner", "reserve", "I", true)
  | 2 => ("LeafSigner", "tape", "LLeafSigner$ByteRow;", true)
  | 3 => ("LeafSigner", "output", "LLeafSigner$ByteRow;", true)
  | 4 => ("LeafSigner", "held", "LLeafSigner$ByteRow;", true)
  | 5 => ("LeafSigner", "store", "LLeafSigner$Disk;", true)
  | 6 => ("LeafSigner", "machine", "LLeafSigner$Machine;", true)
  | _ => ("LeafSigner", "tree", "LLeafSigner$Tree;", true)
def tyX7 : Nat → FieldType := fun k => match k with
  | 0 => .int
  | 1 => .int
  | 2 => .object "LeafSigner$ByteRow"
  | 3 => .object "LeafSigner$ByteRow"
  | 4 => .object "LeafSigner$ByteRow"
  | 5 => .object "LeafSigner$Disk"
  | 6 => .object "LeafSigner$Machine"
  | _ => .object "LeafSigner$Tree"
abbrev wsX70 : List Cond := u_ws RX7 TX7 8
theorem nmX7 : ∀ a, a < 8 → ∀ b, b < 8 → a ≠ b → (TX7 a).2.1 ≠ (TX7 b).2.1 := by decide +kernel
theorem tyX7_ok : ∀ k, k < 8 → parseFieldDescriptor (TX7 k).2.2.1 = some (tyX7 k) := by decide +kernel
abbrev cX7_init : ByteArray := prog_1_method_1_code
def yX7_init : MethodName := ⟨RX7, "<init>", "(II)V"⟩
abbrev cX7_feed : ByteArray := prog_1_method_2_code
def yX7_feed : MethodName := ⟨RX7, "feed", "(IIIII)I"⟩
abbrev cX7_keys : ByteArray := prog_1_method_3_code
def yX7_keys : MethodName := ⟨RX7, "keys", "()Z"⟩
abbrev cX7_sign : ByteArray := prog_1_method_4_code
def yX7_sign : MethodName := ⟨RX7, "sign", "(I)I"⟩
abbrev cX7_fuse : ByteArray := prog_1_method_5_code
def yX7_fuse : MethodName := ⟨RX7, "fuse", "(I)Z"⟩
abbrev cX7_fall : ByteArray := prog_1_method_6_code
def yX7_fall : MethodName := ⟨RX7, "fall", "()Z"⟩
abbrev cX7_rise : ByteArray := prog_1_method_7_code
def yX7_rise : MethodName := ⟨RX7, "rise", "()Z"⟩
abbrev cX7_hold : ByteArray := prog_1_method_8_code
def yX7_hold : MethodName := ⟨RX7, "hold", "()I"⟩
abbrev cX7_alter : ByteArray := prog_1_method_9_code
def yX7_alter : MethodName := ⟨RX7, "alter", "(II)I"⟩
abbrev cX7_verify : ByteArray := prog_1_method_10_code
def yX7_verify : MethodName := ⟨RX7, "verify", "(I)I"⟩
abbrev cX7_leaf : ByteArray := prog_1_method_11_code
def yX7_leaf : MethodName := ⟨RX7, "leaf", "(I)I"⟩
abbrev cX7_about : ByteArray := prog_1_method_12_code
def yX7_about : MethodName := ⟨RX7, "about", "(I)I"⟩
abbrev cX7_disk : ByteArray := prog_1_method_13_code
def yX7_disk : MethodName := ⟨RX7, "disk", "(I)I"⟩
abbrev cX7_node : ByteArray := prog_1_method_14_code
def yX7_node : MethodName := ⟨RX7, "node", "(III)I"⟩
abbrev cX7_out : ByteArray := prog_1_method_15_code
def yX7_out : MethodName := ⟨RX7, "out", "(I)I"⟩
abbrev cX7_isWrongCount : ByteArray := prog_1_method_16_code
def yX7_isWrongCount : MethodName := ⟨RX7, "isWrongCount", "(I)Z"⟩
abbrev cX7_wasNeverKeyed : ByteArray := prog_1_method_17_code
def yX7_wasNeverKeyed : MethodName := ⟨RX7, "wasNeverKeyed", "()Z"⟩
def RX8 : String := "LeafSignerModel"
def TX8 : u_T := fun k => match k with
  | 0 => ("LeafSignerModel", "high", "I", true)
  | 1 => ("LeafSignerModel", "reserve", "I", true)
  | 2 => ("LeafSignerModel", "leaves", "I", true)
  | 3 => ("LeafSignerModel", "k64", "[I", true)
  | 4 => ("LeafSignerModel", "begin", "[I", true)
  | 5 => ("LeafSignerModel", "w", "[I", true)
  | 6 => ("LeafSignerModel", "h", "[I", true)
  | 7 => ("LeafSignerModel", "v", "[I", true)
  | 8 => ("LeafSignerModel", "told", "[B", true)
  | 9 => ("LeafSignerModel", "size", "I", false)
  | 10 => ("LeafSignerModel", "address", "[B", true)
  | 11 => ("LeafSignerModel", "seed", "[B", true)
  | 12 => ("LeafSignerModel", "key", "[B", true)
  | 13 => ("LeafSignerModel", "mask", "[B", true)
  | 14 => ("LeafSignerModel", "other", "[B", true)
  | 15 => ("LeafSignerModel", "mixed", "[B", true)
  | 16 => ("LeafSignerModel", "secret", "[B", true)
  | 17 => ("LeafSignerModel", "random", "[B", true)
  | 18 => ("LeafSignerModel", "own", "[B", true)
  | 19 => ("LeafSignerModel", "parts", "[B", true)
  | 20 => ("LeafSignerModel", "digits", "[I", true)
  | 21 => ("LeafSignerModel", "tree", "[B", true)
  | 22 => ("LeafSignerModel", "hasKeys", "Z", false)
  | 23 => ("LeafSignerModel", "tape", "[B", true)
  | 24 => ("LeafSignerModel", "disk", "[B", true)
  | 25 => ("LeafSignerModel", "out", "[B", true)
  | 26 => ("LeafSignerModel", "kept", "[B", true)
  | 27 => ("LeafSignerModel", "signed", "[B", true)
  | 28 => ("LeafSignerModel", "taped", "I", false)
  | 29 => ("LeafSignerModel", "outs", "I", false)
  | 30 => ("LeafSignerModel", "keeps", "I", false)
  | 31 => ("LeafSignerModel", "state", "I", false)
  | 32 => ("LeafSignerModel", "next", "I", false)
  | 33 => ("LeafSignerModel", "end", "I", false)
  | 34 => ("LeafSignerModel", "seq", "I", false)
  | 35 => ("LeafSignerModel", "fuse", "I", false)
  | 36 => ("LeafSignerModel", "written", "I", false)
  | 37 => ("LeafSignerModel", "isReleased", "[Z", true)
  | 38 => ("LeafSignerModel", "isLost", "[Z", true)
  | _ => ("LeafSignerModel", "top", "[B", true)
def tyX8 : Nat → FieldType := fun k => match k with
  | 0 => .int
  | 1 => .int
  | 2 => .int
  | 3 => .array .int
  | 4 => .array .int
  | 5 => .array .int
  | 6 => .array .int
  | 7 => .array .int
  | 8 => .array .byte
  | 9 => .int
  | 10 => .array .byte
  | 11 => .array .byte
  | 12 => .array .byte
  | 13 => .array .byte
  | 14 => .array .byte
  | 15 => .array .byte
  | 16 => .array .byte
  | 17 => .array .byte
  | 18 => .array .byte
  | 19 => .array .byte
  | 20 => .array .int
  | 21 => .array .byte
  | 22 => .boolean
  | 23 => .array .byte
  | 24 => .array .byte
  | 25 => .array .byte
  | 26 => .array .byte
  | 27 => .array .byte
  | 28 => .int
  | 29 => .int
  | 30 => .int
  | 31 => .int
  | 32 => .int
  | 33 => .int
  | 34 => .int
  | 35 => .int
  | 36 => .int
  | 37 => .array .boolean
  | 38 => .array .boolean
  | _ => .array .byte
abbrev wsX80 : List Cond := u_ws RX8 TX8 40
theorem nmX8 : ∀ a, a < 40 → ∀ b, b < 40 → a ≠ b → (TX8 a).2.1 ≠ (TX8 b).2.1 := by decide +kernel
theorem tyX8_ok : ∀ k, k < 40 → parseFieldDescriptor (TX8 k).2.2.1 = some (tyX8 k) := by decide +kernel
abbrev cX8_held : ByteArray := prog_10_method_1_code
def yX8_held : MethodName := ⟨RX8, "held", "(III)I"⟩
abbrev cX8_in : ByteArray := prog_10_method_2_code
def yX8_in : MethodName := ⟨RX8, "in", "(III)Z"⟩
abbrev cX8_init : ByteArray := prog_10_method_3_code
def yX8_init : MethodName := ⟨RX8, "<init>", "(II)V"⟩
abbrev cX8_put : ByteArray := prog_10_method_4_code
def yX8_put : MethodName := ⟨RX8, "put", "(I)V"⟩
abbrev cX8_putRow : ByteArray := prog_10_method_5_code
def yX8_putRow : MethodName := ⟨RX8, "putRow", "([BII)V"⟩
abbrev cX8_putNumber : ByteArray := prog_10_method_6_code
def yX8_putNumber : MethodName := ⟨RX8, "putNumber", "(II)V"⟩
abbrev cX8_turned : ByteArray := prog_10_method_7_code
def yX8_turned : MethodName := ⟨RX8, "turned", "(II)I"⟩
abbrev cX8_begins : ByteArray := prog_10_method_8_code
def yX8_begins : MethodName := ⟨RX8, "begins", "(I)V"⟩
abbrev cX8_sums : ByteArray := prog_10_method_9_code
def yX8_sums : MethodName := ⟨RX8, "sums", "([BI)V"⟩
abbrev cX8_block : ByteArray := prog_10_method_10_code
def yX8_block : MethodName := ⟨RX8, "block", "(I)V"⟩
abbrev cX8_tell : ByteArray := prog_10_method_11_code
def yX8_tell : MethodName := ⟨RX8, "tell", "(II)V"⟩
abbrev cX8_tells : ByteArray := prog_10_method_12_code
def yX8_tells : MethodName := ⟨RX8, "tells", "(II)V"⟩
abbrev cX8_uses : ByteArray := prog_10_method_13_code
def yX8_uses : MethodName := ⟨RX8, "uses", "(I[B)V"⟩
abbrev cX8_chains : ByteArray := prog_10_method_14_code
def yX8_chains : MethodName := ⟨RX8, "chains", "([BIII)V"⟩
abbrev cX8_joins : ByteArray := prog_10_method_15_code
def yX8_joins : MethodName := ⟨RX8, "joins", "([BI[BI[BI)V"⟩
abbrev cX8_derives : ByteArray := prog_10_method_16_code
def yX8_derives : MethodName := ⟨RX8, "derives", "([BI[BI)V"⟩
abbrev cX8_begun : ByteArray := prog_10_method_17_code
def yX8_begun : MethodName := ⟨RX8, "begun", "(I)V"⟩
abbrev cX8_gathers : ByteArray := prog_10_method_18_code
def yX8_gathers : MethodName := ⟨RX8, "gathers", "(I[BI)V"⟩
abbrev cX8_goes : ByteArray := prog_10_method_19_code
def yX8_goes : MethodName := ⟨RX8, "goes", "(IZ)V"⟩
abbrev cX8_nodeAt : ByteArray := prog_10_method_20_code
def yX8_nodeAt : MethodName := ⟨RX8, "nodeAt", "(II)I"⟩
abbrev cX8_grows : ByteArray := prog_10_method_21_code
def yX8_grows : MethodName := ⟨RX8, "grows", "()V"⟩
abbrev cX8_feedOne : ByteArray := prog_10_method_22_code
def yX8_feedOne : MethodName := ⟨RX8, "feedOne", "(I)V"⟩
abbrev cX8_feed : ByteArray := prog_10_method_23_code
def yX8_feed : MethodName := ⟨RX8, "feed", "(IIIII)I"⟩
abbrev cX8_keys : ByteArray := prog_10_method_24_code
def yX8_keys : MethodName := ⟨RX8, "keys", "()Z"⟩
abbrev cX8_falls : ByteArray := prog_10_method_25_code
def yX8_falls : MethodName := ⟨RX8, "falls", "()V"⟩
abbrev cX8_writes : ByteArray := prog_10_method_26_code
def yX8_writes : MethodName := ⟨RX8, "writes", "(II)Z"⟩
abbrev cX8_reserves : ByteArray := prog_10_method_27_code
def yX8_reserves : MethodName := ⟨RX8, "reserves", "()Z"⟩
abbrev cX8_reads : ByteArray := prog_10_method_28_code
def yX8_reads : MethodName := ⟨RX8, "reads", "([BIII)V"⟩
abbrev cX8_sign : ByteArray := prog_10_method_29_code
def yX8_sign : MethodName := ⟨RX8, "sign", "(I)I"⟩
abbrev cX8_fuse : ByteArray := prog_10_method_30_code
def yX8_fuse : MethodName := ⟨RX8, "fuse", "(I)Z"⟩
abbrev cX8_fall : ByteArray := prog_10_method_31_code
def yX8_fall : MethodName := ⟨RX8, "fall", "()Z"⟩
abbrev cX8_diskNumber : ByteArray := prog_10_method_32_code
def yX8_diskNumber : MethodName := ⟨RX8, "diskNumber", "(I)I"⟩
abbrev cX8_wholeOf : ByteArray := prog_10_method_33_code
def yX8_wholeOf : MethodName := ⟨RX8, "wholeOf", "(I)I"⟩
abbrev cX8_rise : ByteArray := prog_10_method_34_code
def yX8_rise : MethodName := ⟨RX8, "rise", "()Z"⟩
abbrev cX8_hold : ByteArray := prog_10_method_35_code
def yX8_hold : MethodName := ⟨RX8, "hold", "()I"⟩
abbrev cX8_alter : ByteArray := prog_10_method_36_code
def yX8_alter : MethodName := ⟨RX8, "alter", "(II)I"⟩
abbrev cX8_verify : ByteArray := prog_10_method_37_code
def yX8_verify : MethodName := ⟨RX8, "verify", "(I)I"⟩
abbrev cX8_leaf : ByteArray := prog_10_method_38_code
def yX8_leaf : MethodName := ⟨RX8, "leaf", "(I)I"⟩
abbrev cX8_about : ByteArray := prog_10_method_39_code
def yX8_about : MethodName := ⟨RX8, "about", "(I)I"⟩
abbrev cX8_disk : ByteArray := prog_10_method_40_code
def yX8_disk : MethodName := ⟨RX8, "disk", "(I)I"⟩
abbrev cX8_node : ByteArray := prog_10_method_41_code
def yX8_node : MethodName := ⟨RX8, "node", "(III)I"⟩
abbrev cX8_out : ByteArray := prog_10_method_42_code
def yX8_out : MethodName := ⟨RX8, "out", "(I)I"⟩
def RJ9 : String := "java/lang/Math"
def TJ9 : u_T := fun k => match k with
  | _ => ("", "", "", false)
def tyJ9 : Nat → FieldType := fun k => match k with
  | _ => .int
abbrev wsJ90 : List Cond := u_ws RJ9 TJ9 0
theorem nmJ9 : ∀ a, a < 0 → ∀ b, b < 0 → a ≠ b → (TJ9 a).2.1 ≠ (TJ9 b).2.1 := by decide +kernel
theorem tyJ9_ok : ∀ k, k < 0 → parseFieldDescriptor (TJ9 k).2.2.1 = some (tyJ9 k) := by decide +kernel
abbrev cJ9_max_7cf53 : ByteArray := prog_11_method_65_code
def yJ9_max_7cf53 : MethodName := ⟨RJ9, "max", "(II)I"⟩
abbrev cJ9_min_7cf53 : ByteArray := prog_11_method_69_code
def yJ9_min_7cf53 : MethodName := ⟨RJ9, "min", "(II)I"⟩
def RJ10 : String := "java/lang/System"
def TJ10 : u_T := fun k => match k with
  | _ => ("", "", "", false)
def tyJ10 : Nat → FieldType := fun k => match k with
  | _ => .int
abbrev wsJ100 : List Cond := u_ws RJ10 TJ10 0
theorem nmJ10 : ∀ a, a < 0 → ∀ b, b < 0 → a ≠ b → (TJ10 a).2.1 ≠ (TJ10 b).2.1 := by decide +kernel
theorem tyJ10_ok : ∀ k, k < 0 → parseFieldDescriptor (TJ10 k).2.2.1 = some (tyJ10 k) := by decide +kernel
def RJ7 : String := "java/util/Arrays"
def TJ7 : u_T := fun k => match k with
  | _ => ("", "", "", false)
def tyJ7 : Nat → FieldType := fun k => match k with
  | _ => .int
abbrev wsJ70 : List Cond := u_ws RJ7 TJ7 0
theorem nmJ7 : ∀ a, a < 0 → ∀ b, b < 0 → a ≠ b → (TJ7 a).2.1 ≠ (TJ7 b).2.1 := by decide +kernel
theorem tyJ7_ok : ∀ k, k < 0 → parseFieldDescriptor (TJ7 k).2.2.1 = some (tyJ7 k) := by decide +kernel
abbrev cJ7_fill_53178 : ByteArray := prog_13_method_103_code
def yJ7_fill_53178 : MethodName := ⟨RJ7, "fill", "([II)V"⟩
def RL : String := "LeafSignerLaw"
abbrev cL_cell : ByteArray := method_2_code
def yL_cell : MethodName := ⟨RL, "cell", "([II)I"⟩
abbrev cL_law : ByteArray := code
def yL_law : MethodName := ⟨RL, "law", "([I)Z"⟩
abbrev classes : List vw_C := [(RX0, TX0, 2), (RX1, TX1, 3), (RX2, TX2, 6), (RX3, TX3, 7), (RX4, TX4, 5), (RX5, TX5, 2), (RX6, TX6, 11), (RX7, TX7, 8), (RX8, TX8, 40)]
end
section
theorem dJ7_fill_53178_0 : decode cJ7_fill_53178 0 = .ok (.iconst 0, 1) := by decide +kernel
theorem dJ7_fill_53178_1 : decode cJ7_fill_53178 1 = .ok (.istore_n 2, 1) := by decide +kernel
theorem dJ7_fill_53178_2 : decode cJ7_fill_53178 2 = .ok (.aload_n 0, 1) := by decide +kernel
theorem dJ7_fill_53178_3 : decode cJ7_fill_53178 3 = .ok (.arraylength, 1) := by decide +kernel
theorem dJ7_fill_53178_4 : decode cJ7_fill_53178 4 = .ok (.istore_n 3, 1) := by decide +kernel
theorem dJ7_fill_53178_5 : decode cJ7_fill_53178 5 = .ok (.iload_n 2, 1) := by decide +kernel
theorem dJ7_fill_53178_6 : decode cJ7_fill_53178 6 = .ok (.iload_n 3, 1) := by decide +kernel
theorem dJ7_fill_53178_7 : decode cJ7_fill_53178 7 = .ok (.if_icmp .ge 13, 3) := by decide +kernel
theorem dJ7_fill_53178_10 : decode cJ7_fill_53178 10 = .ok (.aload_n 0, 1) := by decide +kernel
theorem dJ7_fill_53178_11 : decode cJ7_fill_53178 11 = .ok (.iload_n 2, 1) := by decide +kernel
theorem dJ7_fill_53178_12 : decode cJ7_fill_53178 12 = .ok (.iload_n 1, 1) := by decide +kernel
theorem dJ7_fill_53178_13 : decode cJ7_fill_53178 13 = .ok (.iastore, 1) := by decide +kernel
theorem dJ7_fill_53178_14 : decode cJ7_fill_53178 14 = .ok (.iinc 2 1, 3) := by decide +kernel
theorem dJ7_fill_53178_17 : decode cJ7_fill_53178 17 = .ok (.goto (-12), 3) := by decide +kernel
theorem dJ7_fill_53178_20 : decode cJ7_fill_53178 20 = .ok (.return_, 1) := by decide +kernel
theorem dL_cell_0 : decode cL_cell 0 = .ok (.iload_n 1, 1) := by decide +kernel
theorem dL_cell_1 : decode cL_cell 1 = .ok (.aload_n 0, 1) := by decide +kernel
theorem dL_cell_2 : decode cL_cell 2 = .ok (.arraylength, 1) := by decide +kernel
theorem dL_cell_3 : decode cL_cell 3 = .ok (.if_icmp .ge 9, 3) := by decide +kernel
theorem dL_cell_6 : decode cL_cell 6 = .ok (.aload_n 0, 1) := by decide +kernel
theorem dL_cell_7 : decode cL_cell 7 = .ok (.iload_n 1, 1) := by decide +kernel
theorem dL_cell_8 : decode cL_cell 8 = .ok (.iaload, 1) := by decide +kernel
theorem dL_cell_9 : decode cL_cell 9 = .ok (.goto 4, 3) := by decide +kernel
theorem dL_cell_12 : decode cL_cell 12 = .ok (.iconst 0, 1) := by decide +kernel
theorem dL_cell_13 : decode cL_cell 13 = .ok (.ireturn, 1) := by decide +kernel
theorem dL_law_0 : decode cL_law 0 = .ok (.new 7, 3) := by decide +kernel
theorem dL_law_3 : decode cL_law 3 = .ok (.dup, 1) := by decide +kernel
theorem dL_law_4 : decode cL_law 4 = .ok (.aload_n 0, 1) := by decide +kernel
theorem dL_law_5 : decode cL_law 5 = .ok (.iconst 0, 1) := by decide +kernel
theorem dL_law_6 : decode cL_law 6 = .ok (.invokestatic 9, 3) := by decide +kernel
theorem dL_law_9 : decode cL_law 9 = .ok (.aload_n 0, 1) := by decide +kernel
theorem dL_law_10 : decode cL_law 10 = .ok (.iconst 1, 1) := by decide +kernel
theorem dL_law_11 : decode cL_law 11 = .ok (.invokestatic 9, 3) := by decide +kernel
theorem dL_law_14 : decode cL_law 14 = .ok (.invokespecial 15, 3) := by decide +kernel
theorem dL_law_17 : decode cL_law 17 = .ok (.astore_n 1, 1) := by decide +kernel
theorem dL_law_18 : decode cL_law 18 = .ok (.new 18, 3) := by decide +kernel
theorem dL_law_21 : decode cL_law 21 = .ok (.dup, 1) := by decide +kernel
theorem dL_law_22 : decode cL_law 22 = .ok (.aload_n 0, 1) := by decide +kernel
theorem dL_law_23 : decode cL_law 23 = .ok (.iconst 0, 1) := by decide +kernel
theorem dL_law_24 : decode cL_law 24 = .ok (.invokestatic 9, 3) := by decide +kernel
theorem dL_law_27 : decode cL_law 27 = .ok (.aload_n 0, 1) := by decide +kernel
theorem dL_law_28 : decode cL_law 28 = .ok (.iconst 1, 1) := by decide +kernel
theorem dL_law_29 : decode cL_law 29 = .ok (.invokestatic 9, 3) := by decide +kernel
theorem dL_law_32 : decode cL_law 32 = .ok (.invokespecial 20, 3) := by decide +kernel
theorem dL_law_35 : decode cL_law 35 = .ok (.astore_n 2, 1) := by decide +kernel
theorem dL_law_36 : decode cL_law 36 = .ok (.iconst 2, 1) := by decide +kernel
theorem dL_law_37 : decode cL_law 37 = .ok (.istore_n 3, 1) := by decide +kernel
theorem dL_law_38 : decode cL_law 38 = .ok (.iload_n 3, 1) := by decide +kernel
theorem dL_law_39 : decode cL_law 39 = .ok (.aload_n 0, 1) := by decide +kernel
theorem dL_law_40 : decode cL_law 40 = .ok (.arraylength, 1) := by decide +kernel
theorem dL_law_41 : decode cL_law 41 = .ok (.bipush 6, 2) := by decide +kernel
theorem dL_law_43 : decode cL_law 43 = .ok (.isub, 1) := by decide +kernel
theorem dL_law_44 : decode cL_law 44 = .ok (.if_icmp .gt 438, 3) := by decide +kernel
theorem dL_law_47 : decode cL_law 47 = .ok (.aload_n 0, 1) := by decide +kernel
theorem dL_law_48 : decode cL_law 48 = .ok (.iload_n 3, 1) := by decide +kernel
theorem dL_law_49 : decode cL_law 49 = .ok (.iaload, 1) := by decide +kernel
theorem dL_law_50 : decode cL_law 50 = .ok (.bipush 15, 2) := by decide +kernel
theorem dL_law_52 : decode cL_law 52 = .ok (.iand, 1) := by decide +kernel
theorem dL_law_53 : decode cL_law 53 = .ok (.tableswitch 423 0 13 #[71, 134, 147, 170, 193, 206, 219, 232, 265, 288, 311, 334, 357, 400], 71) := by decide +kernel
theorem dL_law_124 : decode cL_law 124 = .ok (.aload_n 1, 1) := by decide +kernel
theorem dL_law_125 : decode cL_law 125 = .ok (.aload_n 0, 1) := by decide +kernel
theorem dL_law_126 : decode cL_law 126 = .ok (.iload_n 3, 1) := by decide +kernel
theorem dL_law_127 : decode cL_law 127 = .ok (.iconst 1, 1) := by decide +kernel
theorem dL_law_128 : decode cL_law 128 = .ok (.iadd, 1) := by decide +kernel
theorem dL_law_129 : decode cL_law 129 = .ok (.iaload, 1) := by decide +kernel
theorem dL_law_130 : decode cL_law 130 = .ok (.aload_n 0, 1) := by decide +kernel
theorem dL_law_131 : decode cL_law 131 = .ok (.iload_n 3, 1) := by decide +kernel
theorem dL_law_132 : decode cL_law 132 = .ok (.iconst 2, 1) := by decide +kernel
theorem dL_law_133 : decode cL_law 133 = .ok (.iadd, 1) := by decide +kernel
theorem dL_law_134 : decode cL_law 134 = .ok (.iaload, 1) := by decide +kernel
theorem dL_law_135 : decode cL_law 135 = .ok (.aload_n 0, 1) := by decide +kernel
theorem dL_law_136 : decode cL_law 136 = .ok (.iload_n 3, 1) := by decide +kernel
theorem dL_law_137 : decode cL_law 137 = .ok (.iconst 3, 1) := by decide +kernel
theorem dL_law_138 : decode cL_law 138 = .ok (.iadd, 1) := by decide +kernel
theorem dL_law_139 : decode cL_law 139 = .ok (.iaload, 1) := by decide +kernel
theorem dL_law_140 : decode cL_law 140 = .ok (.aload_n 0, 1) := by decide +kernel
theorem dL_law_141 : decode cL_law 141 = .ok (.iload_n 3, 1) := by decide +kernel
theorem dL_law_142 : decode cL_law 142 = .ok (.iconst 4, 1) := by decide +kernel
theorem dL_law_143 : decode cL_law 143 = .ok (.iadd, 1) := by decide +kernel
theorem dL_law_144 : decode cL_law 144 = .ok (.iaload, 1) := by decide +kernel
theorem dL_law_145 : decode cL_law 145 = .ok (.aload_n 0, 1) := by decide +kernel
theorem dL_law_146 : decode cL_law 146 = .ok (.iload_n 3, 1) := by decide +kernel
theorem dL_law_147 : decode cL_law 147 = .ok (.iconst 5, 1) := by decide +kernel
theorem dL_law_148 : decode cL_law 148 = .ok (.iadd, 1) := by decide +kernel
theorem dL_law_149 : decode cL_law 149 = .ok (.iaload, 1) := by decide +kernel
theorem dL_law_150 : decode cL_law 150 = .ok (.invokevirtual 21, 3) := by decide +kernel
theorem dL_law_153 : decode cL_law 153 = .ok (.aload_n 2, 1) := by decide +kernel
theorem dL_law_154 : decode cL_law 154 = .ok (.aload_n 0, 1) := by decide +kernel
theorem dL_law_155 : decode cL_law 155 = .ok (.iload_n 3, 1) := by decide +kernel
theorem dL_law_156 : decode cL_law 156 = .ok (.iconst 1, 1) := by decide +kernel
theorem dL_law_157 : decode cL_law 157 = .ok (.iadd, 1) := by decide +kernel
theorem dL_law_158 : decode cL_law 158 = .ok (.iaload, 1) := by decide +kernel
theorem dL_law_159 : decode cL_law 159 = .ok (.aload_n 0, 1) := by decide +kernel
theorem dL_law_160 : decode cL_law 160 = .ok (.iload_n 3, 1) := by decide +kernel
theorem dL_law_161 : decode cL_law 161 = .ok (.iconst 2, 1) := by decide +kernel
theorem dL_law_162 : decode cL_law 162 = .ok (.iadd, 1) := by decide +kernel
theorem dL_law_163 : decode cL_law 163 = .ok (.iaload, 1) := by decide +kernel
theorem dL_law_164 : decode cL_law 164 = .ok (.aload_n 0, 1) := by decide +kernel
theorem dL_law_165 : decode cL_law 165 = .ok (.iload_n 3, 1) := by decide +kernel
theorem dL_law_166 : decode cL_law 166 = .ok (.iconst 3, 1) := by decide +kernel
theorem dL_law_167 : decode cL_law 167 = .ok (.iadd, 1) := by decide +kernel
theorem dL_law_168 : decode cL_law 168 = .ok (.iaload, 1) := by decide +kernel
theorem dL_law_169 : decode cL_law 169 = .ok (.aload_n 0, 1) := by decide +kernel
theorem dL_law_170 : decode cL_law 170 = .ok (.iload_n 3, 1) := by decide +kernel
theorem dL_law_171 : decode cL_law 171 = .ok (.iconst 4, 1) := by decide +kernel
theorem dL_law_172 : decode cL_law 172 = .ok (.iadd, 1) := by decide +kernel
theorem dL_law_173 : decode cL_law 173 = .ok (.iaload, 1) := by decide +kernel
theorem dL_law_174 : decode cL_law 174 = .ok (.aload_n 0, 1) := by decide +kernel
theorem dL_law_175 : decode cL_law 175 = .ok (.iload_n 3, 1) := by decide +kernel
theorem dL_law_176 : decode cL_law 176 = .ok (.iconst 5, 1) := by decide +kernel
theorem dL_law_177 : decode cL_law 177 = .ok (.iadd, 1) := by decide +kernel
theorem dL_law_178 : decode cL_law 178 = .ok (.iaload, 1) := by decide +kernel
theorem dL_law_179 : decode cL_law 179 = .ok (.invokevirtual 25, 3) := by decide +kernel
theorem dL_law_182 : decode cL_law 182 = .ok (.if_icmp .eq 294, 3) := by decide +kernel
theorem dL_law_187 : decode cL_law 187 = .ok (.aload_n 1, 1) := by decide +kernel
theorem dL_law_188 : decode cL_law 188 = .ok (.invokevirtual 26, 3) := by decide +kernel
theorem dL_law_191 : decode cL_law 191 = .ok (.aload_n 2, 1) := by decide +kernel
theorem dL_law_192 : decode cL_law 192 = .ok (.invokevirtual 30, 3) := by decide +kernel
theorem dL_law_195 : decode cL_law 195 = .ok (.if_icmp .eq 281, 3) := by decide +kernel
theorem dL_law_200 : decode cL_law 200 = .ok (.aload_n 1, 1) := by decide +kernel
theorem dL_law_201 : decode cL_law 201 = .ok (.aload_n 0, 1) := by decide +kernel
theorem dL_law_202 : decode cL_law 202 = .ok (.iload_n 3, 1) := by decide +kernel
theorem dL_law_203 : decode cL_law 203 = .ok (.iconst 1, 1) := by decide +kernel
theorem dL_law_204 : decode cL_law 204 = .ok (.iadd, 1) := by decide +kernel
theorem dL_law_205 : decode cL_law 205 = .ok (.iaload, 1) := by decide +kernel
theorem dL_law_206 : decode cL_law 206 = .ok (.invokevirtual 31, 3) := by decide +kernel
theorem dL_law_209 : decode cL_law 209 = .ok (.aload_n 2, 1) := by decide +kernel
theorem dL_law_210 : decode cL_law 210 = .ok (.aload_n 0, 1) := by decide +kernel
theorem dL_law_211 : decode cL_law 211 = .ok (.iload_n 3, 1) := by decide +kernel
theorem dL_law_212 : decode cL_law 212 = .ok (.iconst 1, 1) := by decide +kernel
theorem dL_law_213 : decode cL_law 213 = .ok (.iadd, 1) := by decide +kernel
theorem dL_law_214 : decode cL_law 214 = .ok (.iaload, 1) := by decide +kernel
theorem dL_law_215 : decode cL_law 215 = .ok (.invokevirtual 35, 3) := by decide +kernel
theorem dL_law_218 : decode cL_law 218 = .ok (.if_icmp .eq 258, 3) := by decide +kernel
theorem dL_law_223 : decode cL_law 223 = .ok (.aload_n 1, 1) := by decide +kernel
theorem dL_law_224 : decode cL_law 224 = .ok (.aload_n 0, 1) := by decide +kernel
theorem dL_law_225 : decode cL_law 225 = .ok (.iload_n 3, 1) := by decide +kernel
theorem dL_law_226 : decode cL_law 226 = .ok (.iconst 1, 1) := by decide +kernel
theorem dL_law_227 : decode cL_law 227 = .ok (.iadd, 1) := by decide +kernel
theorem dL_law_228 : decode cL_law 228 = .ok (.iaload, 1) := by decide +kernel
theorem dL_law_229 : decode cL_law 229 = .ok (.invokevirtual 36, 3) := by decide +kernel
theorem dL_law_232 : decode cL_law 232 = .ok (.aload_n 2, 1) := by decide +kernel
theorem dL_law_233 : decode cL_law 233 = .ok (.aload_n 0, 1) := by decide +kernel
theorem dL_law_234 : decode cL_law 234 = .ok (.iload_n 3, 1) := by decide +kernel
theorem dL_law_235 : decode cL_law 235 = .ok (.iconst 1, 1) := by decide +kernel
theorem dL_law_236 : decode cL_law 236 = .ok (.iadd, 1) := by decide +kernel
theorem dL_law_237 : decode cL_law 237 = .ok (.iaload, 1) := by decide +kernel
theorem dL_law_238 : decode cL_law 238 = .ok (.invokevirtual 40, 3) := by decide +kernel
theorem dL_law_241 : decode cL_law 241 = .ok (.if_icmp .eq 235, 3) := by decide +kernel
theorem dL_law_246 : decode cL_law 246 = .ok (.aload_n 1, 1) := by decide +kernel
theorem dL_law_247 : decode cL_law 247 = .ok (.invokevirtual 41, 3) := by decide +kernel
theorem dL_law_250 : decode cL_law 250 = .ok (.aload_n 2, 1) := by decide +kernel
theorem dL_law_251 : decode cL_law 251 = .ok (.invokevirtual 44, 3) := by decide +kernel
theorem dL_law_254 : decode cL_law 254 = .ok (.if_icmp .eq 222, 3) := by decide +kernel
theorem dL_law_259 : decode cL_law 259 = .ok (.aload_n 1, 1) := by decide +kernel
theorem dL_law_260 : decode cL_law 260 = .ok (.invokevirtual 45, 3) := by decide +kernel
theorem dL_law_263 : decode cL_law 263 = .ok (.aload_n 2, 1) := by decide +kernel
theorem dL_law_264 : decode cL_law 264 = .ok (.invokevirtual 48, 3) := by decide +kernel
theorem dL_law_267 : decode cL_law 267 = .ok (.if_icmp .eq 209, 3) := by decide +kernel
theorem dL_law_272 : decode cL_law 272 = .ok (.aload_n 1, 1) := by decide +kernel
theorem dL_law_273 : decode cL_law 273 = .ok (.invokevirtual 49, 3) := by decide +kernel
theorem dL_law_276 : decode cL_law 276 = .ok (.aload_n 2, 1) := by decide +kernel
theorem dL_law_277 : decode cL_law 277 = .ok (.invokevirtual 53, 3) := by decide +kernel
theorem dL_law_280 : decode cL_law 280 = .ok (.if_icmp .eq 196, 3) := by decide +kernel
theorem dL_law_285 : decode cL_law 285 = .ok (.aload_n 1, 1) := by decide +kernel
theorem dL_law_286 : decode cL_law 286 = .ok (.aload_n 0, 1) := by decide +kernel
theorem dL_law_287 : decode cL_law 287 = .ok (.iload_n 3, 1) := by decide +kernel
theorem dL_law_288 : decode cL_law 288 = .ok (.iconst 1, 1) := by decide +kernel
theorem dL_law_289 : decode cL_law 289 = .ok (.iadd, 1) := by decide +kernel
theorem dL_law_290 : decode cL_law 290 = .ok (.iaload, 1) := by decide +kernel
theorem dL_law_291 : decode cL_law 291 = .ok (.aload_n 0, 1) := by decide +kernel
theorem dL_law_292 : decode cL_law 292 = .ok (.iload_n 3, 1) := by decide +kernel
theorem dL_law_293 : decode cL_law 293 = .ok (.iconst 2, 1) := by decide +kernel
theorem dL_law_294 : decode cL_law 294 = .ok (.iadd, 1) := by decide +kernel
theorem dL_law_295 : decode cL_law 295 = .ok (.iaload, 1) := by decide +kernel
theorem dL_law_296 : decode cL_law 296 = .ok (.invokevirtual 54, 3) := by decide +kernel
theorem dL_law_299 : decode cL_law 299 = .ok (.aload_n 2, 1) := by decide +kernel
theorem dL_law_300 : decode cL_law 300 = .ok (.aload_n 0, 1) := by decide +kernel
theorem dL_law_301 : decode cL_law 301 = .ok (.iload_n 3, 1) := by decide +kernel
theorem dL_law_302 : decode cL_law 302 = .ok (.iconst 1, 1) := by decide +kernel
theorem dL_law_303 : decode cL_law 303 = .ok (.iadd, 1) := by decide +kernel
theorem dL_law_304 : decode cL_law 304 = .ok (.iaload, 1) := by decide +kernel
theorem dL_law_305 : decode cL_law 305 = .ok (.aload_n 0, 1) := by decide +kernel
theorem dL_law_306 : decode cL_law 306 = .ok (.iload_n 3, 1) := by decide +kernel
theorem dL_law_307 : decode cL_law 307 = .ok (.iconst 2, 1) := by decide +kernel
theorem dL_law_308 : decode cL_law 308 = .ok (.iadd, 1) := by decide +kernel
theorem dL_law_309 : decode cL_law 309 = .ok (.iaload, 1) := by decide +kernel
theorem dL_law_310 : decode cL_law 310 = .ok (.invokevirtual 58, 3) := by decide +kernel
theorem dL_law_313 : decode cL_law 313 = .ok (.if_icmp .eq 163, 3) := by decide +kernel
theorem dL_law_318 : decode cL_law 318 = .ok (.aload_n 1, 1) := by decide +kernel
theorem dL_law_319 : decode cL_law 319 = .ok (.aload_n 0, 1) := by decide +kernel
theorem dL_law_320 : decode cL_law 320 = .ok (.iload_n 3, 1) := by decide +kernel
theorem dL_law_321 : decode cL_law 321 = .ok (.iconst 1, 1) := by decide +kernel
theorem dL_law_322 : decode cL_law 322 = .ok (.iadd, 1) := by decide +kernel
theorem dL_law_323 : decode cL_law 323 = .ok (.iaload, 1) := by decide +kernel
theorem dL_law_324 : decode cL_law 324 = .ok (.invokevirtual 59, 3) := by decide +kernel
theorem dL_law_327 : decode cL_law 327 = .ok (.aload_n 2, 1) := by decide +kernel
theorem dL_law_328 : decode cL_law 328 = .ok (.aload_n 0, 1) := by decide +kernel
theorem dL_law_329 : decode cL_law 329 = .ok (.iload_n 3, 1) := by decide +kernel
theorem dL_law_330 : decode cL_law 330 = .ok (.iconst 1, 1) := by decide +kernel
theorem dL_law_331 : decode cL_law 331 = .ok (.iadd, 1) := by decide +kernel
theorem dL_law_332 : decode cL_law 332 = .ok (.iaload, 1) := by decide +kernel
theorem dL_law_333 : decode cL_law 333 = .ok (.invokevirtual 62, 3) := by decide +kernel
theorem dL_law_336 : decode cL_law 336 = .ok (.if_icmp .eq 140, 3) := by decide +kernel
theorem dL_law_341 : decode cL_law 341 = .ok (.aload_n 1, 1) := by decide +kernel
theorem dL_law_342 : decode cL_law 342 = .ok (.aload_n 0, 1) := by decide +kernel
theorem dL_law_343 : decode cL_law 343 = .ok (.iload_n 3, 1) := by decide +kernel
theorem dL_law_344 : decode cL_law 344 = .ok (.iconst 1, 1) := by decide +kernel
theorem dL_law_345 : decode cL_law 345 = .ok (.iadd, 1) := by decide +kernel
theorem dL_law_346 : decode cL_law 346 = .ok (.iaload, 1) := by decide +kernel
theorem dL_law_347 : decode cL_law 347 = .ok (.invokevirtual 63, 3) := by decide +kernel
theorem dL_law_350 : decode cL_law 350 = .ok (.aload_n 2, 1) := by decide +kernel
theorem dL_law_351 : decode cL_law 351 = .ok (.aload_n 0, 1) := by decide +kernel
theorem dL_law_352 : decode cL_law 352 = .ok (.iload_n 3, 1) := by decide +kernel
theorem dL_law_353 : decode cL_law 353 = .ok (.iconst 1, 1) := by decide +kernel
theorem dL_law_354 : decode cL_law 354 = .ok (.iadd, 1) := by decide +kernel
theorem dL_law_355 : decode cL_law 355 = .ok (.iaload, 1) := by decide +kernel
theorem dL_law_356 : decode cL_law 356 = .ok (.invokevirtual 66, 3) := by decide +kernel
theorem dL_law_359 : decode cL_law 359 = .ok (.if_icmp .eq 117, 3) := by decide +kernel
theorem dL_law_364 : decode cL_law 364 = .ok (.aload_n 1, 1) := by decide +kernel
theorem dL_law_365 : decode cL_law 365 = .ok (.aload_n 0, 1) := by decide +kernel
theorem dL_law_366 : decode cL_law 366 = .ok (.iload_n 3, 1) := by decide +kernel
theorem dL_law_367 : decode cL_law 367 = .ok (.iconst 1, 1) := by decide +kernel
theorem dL_law_368 : decode cL_law 368 = .ok (.iadd, 1) := by decide +kernel
theorem dL_law_369 : decode cL_law 369 = .ok (.iaload, 1) := by decide +kernel
theorem dL_law_370 : decode cL_law 370 = .ok (.invokevirtual 67, 3) := by decide +kernel
theorem dL_law_373 : decode cL_law 373 = .ok (.aload_n 2, 1) := by decide +kernel
theorem dL_law_374 : decode cL_law 374 = .ok (.aload_n 0, 1) := by decide +kernel
theorem dL_law_375 : decode cL_law 375 = .ok (.iload_n 3, 1) := by decide +kernel
theorem dL_law_376 : decode cL_law 376 = .ok (.iconst 1, 1) := by decide +kernel
theorem dL_law_377 : decode cL_law 377 = .ok (.iadd, 1) := by decide +kernel
theorem dL_law_378 : decode cL_law 378 = .ok (.iaload, 1) := by decide +kernel
theorem dL_law_379 : decode cL_law 379 = .ok (.invokevirtual 70, 3) := by decide +kernel
theorem dL_law_382 : decode cL_law 382 = .ok (.if_icmp .eq 94, 3) := by decide +kernel
theorem dL_law_387 : decode cL_law 387 = .ok (.aload_n 1, 1) := by decide +kernel
theorem dL_law_388 : decode cL_law 388 = .ok (.aload_n 0, 1) := by decide +kernel
theorem dL_law_389 : decode cL_law 389 = .ok (.iload_n 3, 1) := by decide +kernel
theorem dL_law_390 : decode cL_law 390 = .ok (.iconst 1, 1) := by decide +kernel
theorem dL_law_391 : decode cL_law 391 = .ok (.iadd, 1) := by decide +kernel
theorem dL_law_392 : decode cL_law 392 = .ok (.iaload, 1) := by decide +kernel
theorem dL_law_393 : decode cL_law 393 = .ok (.invokevirtual 71, 3) := by decide +kernel
theorem dL_law_396 : decode cL_law 396 = .ok (.aload_n 2, 1) := by decide +kernel
theorem dL_law_397 : decode cL_law 397 = .ok (.aload_n 0, 1) := by decide +kernel
theorem dL_law_398 : decode cL_law 398 = .ok (.iload_n 3, 1) := by decide +kernel
theorem dL_law_399 : decode cL_law 399 = .ok (.iconst 1, 1) := by decide +kernel
theorem dL_law_400 : decode cL_law 400 = .ok (.iadd, 1) := by decide +kernel
theorem dL_law_401 : decode cL_law 401 = .ok (.iaload, 1) := by decide +kernel
theorem dL_law_402 : decode cL_law 402 = .ok (.invokevirtual 74, 3) := by decide +kernel
theorem dL_law_405 : decode cL_law 405 = .ok (.if_icmp .eq 71, 3) := by decide +kernel
theorem dL_law_410 : decode cL_law 410 = .ok (.aload_n 1, 1) := by decide +kernel
theorem dL_law_411 : decode cL_law 411 = .ok (.aload_n 0, 1) := by decide +kernel
theorem dL_law_412 : decode cL_law 412 = .ok (.iload_n 3, 1) := by decide +kernel
theorem dL_law_413 : decode cL_law 413 = .ok (.iconst 1, 1) := by decide +kernel
theorem dL_law_414 : decode cL_law 414 = .ok (.iadd, 1) := by decide +kernel
theorem dL_law_415 : decode cL_law 415 = .ok (.iaload, 1) := by decide +kernel
theorem dL_law_416 : decode cL_law 416 = .ok (.aload_n 0, 1) := by decide +kernel
theorem dL_law_417 : decode cL_law 417 = .ok (.iload_n 3, 1) := by decide +kernel
theorem dL_law_418 : decode cL_law 418 = .ok (.iconst 2, 1) := by decide +kernel
theorem dL_law_419 : decode cL_law 419 = .ok (.iadd, 1) := by decide +kernel
theorem dL_law_420 : decode cL_law 420 = .ok (.iaload, 1) := by decide +kernel
theorem dL_law_421 : decode cL_law 421 = .ok (.aload_n 0, 1) := by decide +kernel
theorem dL_law_422 : decode cL_law 422 = .ok (.iload_n 3, 1) := by decide +kernel
theorem dL_law_423 : decode cL_law 423 = .ok (.iconst 3, 1) := by decide +kernel
theorem dL_law_424 : decode cL_law 424 = .ok (.iadd, 1) := by decide +kernel
theorem dL_law_425 : decode cL_law 425 = .ok (.iaload, 1) := by decide +kernel
theorem dL_law_426 : decode cL_law 426 = .ok (.invokevirtual 75, 3) := by decide +kernel
theorem dL_law_429 : decode cL_law 429 = .ok (.aload_n 2, 1) := by decide +kernel
theorem dL_law_430 : decode cL_law 430 = .ok (.aload_n 0, 1) := by decide +kernel
theorem dL_law_431 : decode cL_law 431 = .ok (.iload_n 3, 1) := by decide +kernel
theorem dL_law_432 : decode cL_law 432 = .ok (.iconst 1, 1) := by decide +kernel
theorem dL_law_433 : decode cL_law 433 = .ok (.iadd, 1) := by decide +kernel
theorem dL_law_434 : decode cL_law 434 = .ok (.iaload, 1) := by decide +kernel
theorem dL_law_435 : decode cL_law 435 = .ok (.aload_n 0, 1) := by decide +kernel
theorem dL_law_436 : decode cL_law 436 = .ok (.iload_n 3, 1) := by decide +kernel
theorem dL_law_437 : decode cL_law 437 = .ok (.iconst 2, 1) := by decide +kernel
theorem dL_law_438 : decode cL_law 438 = .ok (.iadd, 1) := by decide +kernel
theorem dL_law_439 : decode cL_law 439 = .ok (.iaload, 1) := by decide +kernel
theorem dL_law_440 : decode cL_law 440 = .ok (.aload_n 0, 1) := by decide +kernel
theorem dL_law_441 : decode cL_law 441 = .ok (.iload_n 3, 1) := by decide +kernel
theorem dL_law_442 : decode cL_law 442 = .ok (.iconst 3, 1) := by decide +kernel
theorem dL_law_443 : decode cL_law 443 = .ok (.iadd, 1) := by decide +kernel
theorem dL_law_444 : decode cL_law 444 = .ok (.iaload, 1) := by decide +kernel
theorem dL_law_445 : decode cL_law 445 = .ok (.invokevirtual 79, 3) := by decide +kernel
theorem dL_law_448 : decode cL_law 448 = .ok (.if_icmp .eq 28, 3) := by decide +kernel
theorem dL_law_453 : decode cL_law 453 = .ok (.aload_n 1, 1) := by decide +kernel
theorem dL_law_454 : decode cL_law 454 = .ok (.aload_n 0, 1) := by decide +kernel
theorem dL_law_455 : decode cL_law 455 = .ok (.iload_n 3, 1) := by decide +kernel
theorem dL_law_456 : decode cL_law 456 = .ok (.iconst 1, 1) := by decide +kernel
theorem dL_law_457 : decode cL_law 457 = .ok (.iadd, 1) := by decide +kernel
theorem dL_law_458 : decode cL_law 458 = .ok (.iaload, 1) := by decide +kernel
theorem dL_law_459 : decode cL_law 459 = .ok (.invokevirtual 80, 3) := by decide +kernel
theorem dL_law_462 : decode cL_law 462 = .ok (.aload_n 2, 1) := by decide +kernel
theorem dL_law_463 : decode cL_law 463 = .ok (.aload_n 0, 1) := by decide +kernel
theorem dL_law_464 : decode cL_law 464 = .ok (.iload_n 3, 1) := by decide +kernel
theorem dL_law_465 : decode cL_law 465 = .ok (.iconst 1, 1) := by decide +kernel
theorem dL_law_466 : decode cL_law 466 = .ok (.iadd, 1) := by decide +kernel
theorem dL_law_467 : decode cL_law 467 = .ok (.iaload, 1) := by decide +kernel
theorem dL_law_468 : decode cL_law 468 = .ok (.invokevirtual 83, 3) := by decide +kernel
theorem dL_law_471 : decode cL_law 471 = .ok (.if_icmp .eq 5, 3) := by decide +kernel
theorem dL_law_476 : decode cL_law 476 = .ok (.iinc 3 6, 3) := by decide +kernel
theorem dL_law_479 : decode cL_law 479 = .ok (.goto (-441), 3) := by decide +kernel
theorem dL_law_482 : decode cL_law 482 = .ok (.iconst 1, 1) := by decide +kernel
theorem dL_law_483 : decode cL_law 483 = .ok (.ireturn, 1) := by decide +kernel
theorem dX0_append_0 : decode cX0_append 0 = .ok (.aload_n 0, 1) := by decide +kernel
theorem dX0_append_1 : decode cX0_append 1 = .ok (.getfield 15, 3) := by decide +kernel
theorem dX0_append_4 : decode cX0_append 4 = .ok (.iconst 2, 1) := by decide +kernel
theorem dX0_append_5 : decode cX0_append 5 = .ok (.ishr, 1) := by decide +kernel
theorem dX0_append_6 : decode cX0_append 6 = .ok (.aload_n 0, 1) := by decide +kernel
theorem dX0_append_7 : decode cX0_append 7 = .ok (.getfield 9, 3) := by decide +kernel
theorem dX0_append_10 : decode cX0_append 10 = .ok (.arraylength, 1) := by decide +kernel
theorem dX0_append_11 : decode cX0_append 11 = .ok (.if_icmp .ge 25, 3) := by decide +kernel
theorem dX0_append_14 : decode cX0_append 14 = .ok (.aload_n 0, 1) := by decide +kernel
theorem dX0_append_15 : decode cX0_append 15 = .ok (.getfield 9, 3) := by decide +kernel
theorem dX0_append_18 : decode cX0_append 18 = .ok (.aload_n 0, 1) := by decide +kernel
theorem dX0_append_19 : decode cX0_append 19 = .ok (.getfield 15, 3) := by decide +kernel
theorem dX0_append_22 : decode cX0_append 22 = .ok (.iconst 2, 1) := by decide +kernel
theorem dX0_append_23 : decode cX0_append 23 = .ok (.ishr, 1) := by decide +kernel
theorem dX0_append_24 : decode cX0_append 24 = .ok (.iload_n 1, 1) := by decide +kernel
theorem dX0_append_25 : decode cX0_append 25 = .ok (.iastore, 1) := by decide +kernel
theorem dX0_append_26 : decode cX0_append 26 = .ok (.aload_n 0, 1) := by decide +kernel
theorem dX0_append_27 : decode cX0_append 27 = .ok (.dup, 1) := by decide +kernel
theorem dX0_append_28 : decode cX0_append 28 = .ok (.getfield 15, 3) := by decide +kernel
theorem dX0_append_31 : decode cX0_append 31 = .ok (.iconst 4, 1) := by decide +kernel
theorem dX0_append_32 : decode cX0_append 32 = .ok (.iadd, 1) := by decide +kernel
theorem dX0_append_33 : decode cX0_append 33 = .ok (.putfield 15, 3) := by decide +kernel
theorem dX0_append_36 : decode cX0_append 36 = .ok (.return_, 1) := by decide +kernel
theorem dX0_byteAt_0 : decode cX0_byteAt 0 = .ok (.iload_n 1, 1) := by decide +kernel
theorem dX0_byteAt_1 : decode cX0_byteAt 1 = .ok (.ifCond .lt 11, 3) := by decide +kernel
theorem dX0_byteAt_4 : decode cX0_byteAt 4 = .ok (.iload_n 1, 1) := by decide +kernel
theorem dX0_byteAt_5 : decode cX0_byteAt 5 = .ok (.aload_n 0, 1) := by decide +kernel
theorem dX0_byteAt_6 : decode cX0_byteAt 6 = .ok (.getfield 15, 3) := by decide +kernel
theorem dX0_byteAt_9 : decode cX0_byteAt 9 = .ok (.if_icmp .lt 7, 3) := by decide +kernel
theorem dX0_byteAt_12 : decode cX0_byteAt 12 = .ok (.iconst (-1), 1) := by decide +kernel
theorem dX0_byteAt_13 : decode cX0_byteAt 13 = .ok (.goto 20, 3) := by decide +kernel
theorem dX0_byteAt_16 : decode cX0_byteAt 16 = .ok (.aload_n 0, 1) := by decide +kernel
theorem dX0_byteAt_17 : decode cX0_byteAt 17 = .ok (.getfield 9, 3) := by decide +kernel
theorem dX0_byteAt_20 : decode cX0_byteAt 20 = .ok (.iload_n 1, 1) := by decide +kernel
theorem dX0_byteAt_21 : decode cX0_byteAt 21 = .ok (.iconst 2, 1) := by decide +kernel
theorem dX0_byteAt_22 : decode cX0_byteAt 22 = .ok (.ishr, 1) := by decide +kernel
theorem dX0_byteAt_23 : decode cX0_byteAt 23 = .ok (.iaload, 1) := by decide +kernel
theorem dX0_byteAt_24 : decode cX0_byteAt 24 = .ok (.iload_n 1, 1) := by decide +kernel
theorem dX0_byteAt_25 : decode cX0_byteAt 25 = .ok (.invokestatic 19, 3) := by decide +kernel
theorem dX0_byteAt_28 : decode cX0_byteAt 28 = .ok (.iushr, 1) := by decide +kernel
theorem dX0_byteAt_29 : decode cX0_byteAt 29 = .ok (.sipush 255, 3) := by decide +kernel
theorem dX0_byteAt_32 : decode cX0_byteAt 32 = .ok (.iand, 1) := by decide +kernel
theorem dX0_byteAt_33 : decode cX0_byteAt 33 = .ok (.ireturn, 1) := by decide +kernel
theorem dX0_copyOf_0 : decode cX0_copyOf 0 = .ok (.aload_n 0, 1) := by decide +kernel
theorem dX0_copyOf_1 : decode cX0_copyOf 1 = .ok (.getfield 9, 3) := by decide +kernel
theorem dX0_copyOf_4 : decode cX0_copyOf 4 = .ok (.arraylength, 1) := by decide +kernel
theorem dX0_copyOf_5 : decode cX0_copyOf 5 = .ok (.aload_n 1, 1) := by decide +kernel
theorem dX0_copyOf_6 : decode cX0_copyOf 6 = .ok (.getfield 9, 3) := by decide +kernel
theorem dX0_copyOf_9 : decode cX0_copyOf 9 = .ok (.arraylength, 1) := by decide +kernel
theorem dX0_copyOf_10 : decode cX0_copyOf 10 = .ok (.invokestatic 23, 3) := by decide +kernel
theorem dX0_copyOf_13 : decode cX0_copyOf 13 = .ok (.istore_n 2, 1) := by decide +kernel
theorem dX0_copyOf_14 : decode cX0_copyOf 14 = .ok (.aload_n 1, 1) := by decide +kernel
theorem dX0_copyOf_15 : decode cX0_copyOf 15 = .ok (.getfield 9, 3) := by decide +kernel
theorem dX0_copyOf_18 : decode cX0_copyOf 18 = .ok (.iconst 0, 1) := by decide +kernel
theorem dX0_copyOf_19 : decode cX0_copyOf 19 = .ok (.aload_n 0, 1) := by decide +kernel
theorem dX0_copyOf_20 : decode cX0_copyOf 20 = .ok (.getfield 9, 3) := by decide +kernel
theorem dX0_copyOf_23 : decode cX0_copyOf 23 = .ok (.iconst 0, 1) := by decide +kernel
theorem dX0_copyOf_24 : decode cX0_copyOf 24 = .ok (.iload_n 2, 1) := by decide +kernel
theorem dX0_copyOf_25 : decode cX0_copyOf 25 = .ok (.invokestatic 29, 3) := by decide +kernel
theorem dX0_copyOf_28 : decode cX0_copyOf 28 = .ok (.aload_n 0, 1) := by decide +kernel
theorem dX0_copyOf_29 : decode cX0_copyOf 29 = .ok (.iload_n 2, 1) := by decide +kernel
theorem dX0_copyOf_30 : decode cX0_copyOf 30 = .ok (.iconst 4, 1) := by decide +kernel
theorem dX0_copyOf_31 : decode cX0_copyOf 31 = .ok (.imul, 1) := by decide +kernel
theorem dX0_copyOf_32 : decode cX0_copyOf 32 = .ok (.aload_n 1, 1) := by decide +kernel
theorem dX0_copyOf_33 : decode cX0_copyOf 33 = .ok (.getfield 15, 3) := by decide +kernel
theorem dX0_copyOf_36 : decode cX0_copyOf 36 = .ok (.invokestatic 23, 3) := by decide +kernel
theorem dX0_copyOf_39 : decode cX0_copyOf 39 = .ok (.putfield 15, 3) := by decide +kernel
theorem dX0_copyOf_42 : decode cX0_copyOf 42 = .ok (.return_, 1) := by decide +kernel
theorem dX0_fill_0 : decode cX0_fill 0 = .ok (.aload_n 0, 1) := by decide +kernel
theorem dX0_fill_1 : decode cX0_fill 1 = .ok (.aload_n 0, 1) := by decide +kernel
theorem dX0_fill_2 : decode cX0_fill 2 = .ok (.getfield 9, 3) := by decide +kernel
theorem dX0_fill_5 : decode cX0_fill 5 = .ok (.arraylength, 1) := by decide +kernel
theorem dX0_fill_6 : decode cX0_fill 6 = .ok (.iconst 4, 1) := by decide +kernel
theorem dX0_fill_7 : decode cX0_fill 7 = .ok (.imul, 1) := by decide +kernel
theorem dX0_fill_8 : decode cX0_fill 8 = .ok (.putfield 15, 3) := by decide +kernel
theorem dX0_fill_11 : decode cX0_fill 11 = .ok (.return_, 1) := by decide +kernel
theorem dX0_flip_0 : decode cX0_flip 0 = .ok (.iload_n 1, 1) := by decide +kernel
theorem dX0_flip_1 : decode cX0_flip 1 = .ok (.ifCond .lt 32, 3) := by decide +kernel
theorem dX0_flip_4 : decode cX0_flip 4 = .ok (.iload_n 1, 1) := by decide +kernel
theorem dX0_flip_5 : decode cX0_flip 5 = .ok (.aload_n 0, 1) := by decide +kernel
theorem dX0_flip_6 : decode cX0_flip 6 = .ok (.getfield 15, 3) := by decide +kernel
theorem dX0_flip_9 : decode cX0_flip 9 = .ok (.if_icmp .ge 24, 3) := by decide +kernel
theorem dX0_flip_33 : decode cX0_flip 33 = .ok (.return_, 1) := by decide +kernel
theorem dX0_init_0 : decode cX0_init 0 = .ok (.aload_n 0, 1) := by decide +kernel
theorem dX0_init_1 : decode cX0_init 1 = .ok (.invokespecial 3, 3) := by decide +kernel
theorem dX0_init_4 : decode cX0_init 4 = .ok (.aload_n 0, 1) := by decide +kernel
theorem dX0_init_5 : decode cX0_init 5 = .ok (.iload_n 1, 1) := by decide +kernel
theorem dX0_init_6 : decode cX0_init 6 = .ok (.newarray .int, 2) := by decide +kernel
theorem dX0_init_8 : decode cX0_init 8 = .ok (.putfield 9, 3) := by decide +kernel
theorem dX0_init_11 : decode cX0_init 11 = .ok (.aload_n 0, 1) := by decide +kernel
theorem dX0_init_12 : decode cX0_init 12 = .ok (.iconst 0, 1) := by decide +kernel
theorem dX0_init_13 : decode cX0_init 13 = .ok (.putfield 15, 3) := by decide +kernel
theorem dX0_init_16 : decode cX0_init 16 = .ok (.return_, 1) := by decide +kernel
theorem dX0_shiftOf_0 : decode cX0_shiftOf 0 = .ok (.bipush 24, 2) := by decide +kernel
theorem dX0_shiftOf_2 : decode cX0_shiftOf 2 = .ok (.bipush 8, 2) := by decide +kernel
theorem dX0_shiftOf_4 : decode cX0_shiftOf 4 = .ok (.iload_n 0, 1) := by decide +kernel
theorem dX0_shiftOf_5 : decode cX0_shiftOf 5 = .ok (.iconst 3, 1) := by decide +kernel
theorem dX0_shiftOf_6 : decode cX0_shiftOf 6 = .ok (.iand, 1) := by decide +kernel
theorem dX0_shiftOf_7 : decode cX0_shiftOf 7 = .ok (.imul, 1) := by decide +kernel
theorem dX0_shiftOf_8 : decode cX0_shiftOf 8 = .ok (.isub, 1) := by decide +kernel
theorem dX0_shiftOf_9 : decode cX0_shiftOf 9 = .ok (.ireturn, 1) := by decide +kernel
theorem dX1_init_0 : decode cX1_init 0 = .ok (.aload_n 0, 1) := by decide +kernel
theorem dX1_init_1 : decode cX1_init 1 = .ok (.invokespecial 3, 3) := by decide +kernel
theorem dX1_init_4 : decode cX1_init 4 = .ok (.aload_n 0, 1) := by decide +kernel
theorem dX1_init_5 : decode cX1_init 5 = .ok (.new 9, 3) := by decide +kernel
theorem dX1_init_8 : decode cX1_init 8 = .ok (.dup, 1) := by decide +kernel
theorem dX1_init_9 : decode cX1_init 9 = .ok (.bipush 6, 2) := by decide +kernel
theorem dX1_init_11 : decode cX1_init 11 = .ok (.invokespecial 13, 3) := by decide +kernel
theorem dX1_init_14 : decode cX1_init 14 = .ok (.putfield 16, 3) := by decide +kernel
theorem dX1_init_17 : decode cX1_init 17 = .ok (.aload_n 0, 1) := by decide +kernel
theorem dX1_init_18 : decode cX1_init 18 = .ok (.getfield 16, 3) := by decide +kernel
theorem dX1_init_21 : decode cX1_init 21 = .ok (.invokevirtual 20, 3) := by decide +kernel
theorem dX1_init_24 : decode cX1_init 24 = .ok (.aload_n 0, 1) := by decide +kernel
theorem dX1_init_25 : decode cX1_init 25 = .ok (.iconst 0, 1) := by decide +kernel
theorem dX1_init_26 : decode cX1_init 26 = .ok (.putfield 23, 3) := by decide +kernel
theorem dX1_init_29 : decode cX1_init 29 = .ok (.aload_n 0, 1) := by decide +kernel
theorem dX1_init_30 : decode cX1_init 30 = .ok (.iconst (-1), 1) := by decide +kernel
theorem dX1_init_31 : decode cX1_init 31 = .ok (.putfield 27, 3) := by decide +kernel
theorem dX1_init_34 : decode cX1_init 34 = .ok (.return_, 1) := by decide +kernel
theorem dX2_init_0 : decode cX2_init 0 = .ok (.aload_n 0, 1) := by decide +kernel
theorem dX2_init_1 : decode cX2_init 1 = .ok (.invokespecial 3, 3) := by decide +kernel
theorem dX2_init_4 : decode cX2_init 4 = .ok (.aload_n 0, 1) := by decide +kernel
theorem dX2_init_5 : decode cX2_init 5 = .ok (.new 9, 3) := by decide +kernel
theorem dX2_init_8 : decode cX2_init 8 = .ok (.dup, 1) := by decide +kernel
theorem dX2_init_9 : decode cX2_init 9 = .ok (.invokespecial 11, 3) := by decide +kernel
theorem dX2_init_12 : decode cX2_init 12 = .ok (.putfield 12, 3) := by decide +kernel
theorem dX2_init_15 : decode cX2_init 15 = .ok (.aload_n 0, 1) := by decide +kernel
theorem dX2_init_16 : decode cX2_init 16 = .ok (.bipush 8, 2) := by decide +kernel
theorem dX2_init_18 : decode cX2_init 18 = .ok (.newarray .int, 2) := by decide +kernel
theorem dX2_init_20 : decode cX2_init 20 = .ok (.putfield 18, 3) := by decide +kernel
theorem dX2_init_23 : decode cX2_init 23 = .ok (.aload_n 0, 1) := by decide +kernel
theorem dX2_init_24 : decode cX2_init 24 = .ok (.bipush 8, 2) := by decide +kernel
theorem dX2_init_26 : decode cX2_init 26 = .ok (.newarray .int, 2) := by decide +kernel
theorem dX2_init_28 : decode cX2_init 28 = .ok (.putfield 22, 3) := by decide +kernel
theorem dX2_init_31 : decode cX2_init 31 = .ok (.aload_n 0, 1) := by decide +kernel
theorem dX2_init_32 : decode cX2_init 32 = .ok (.bipush 8, 2) := by decide +kernel
theorem dX2_init_34 : decode cX2_init 34 = .ok (.newarray .int, 2) := by decide +kernel
theorem dX2_init_36 : decode cX2_init 36 = .ok (.putfield 25, 3) := by decide +kernel
theorem dX2_init_39 : decode cX2_init 39 = .ok (.aload_n 0, 1) := by decide +kernel
theorem dX2_init_40 : decode cX2_init 40 = .ok (.bipush 8, 2) := by decide +kernel
theorem dX2_init_42 : decode cX2_init 42 = .ok (.newarray .int, 2) := by decide +kernel
theorem dX2_init_44 : decode cX2_init 44 = .ok (.putfield 28, 3) := by decide +kernel
theorem dX2_init_47 : decode cX2_init 47 = .ok (.aload_n 0, 1) := by decide +kernel
theorem dX2_init_48 : decode cX2_init 48 = .ok (.bipush 8, 2) := by decide +kernel
theorem dX2_init_50 : decode cX2_init 50 = .ok (.newarray .int, 2) := by decide +kernel
theorem dX2_init_52 : decode cX2_init 52 = .ok (.putfield 31, 3) := by decide +kernel
theorem dX2_init_55 : decode cX2_init 55 = .ok (.return_, 1) := by decide +kernel
theorem dX3_countOf_0 : decode cX3_countOf 0 = .ok (.iconst 0, 1) := by decide +kernel
theorem dX3_countOf_1 : decode cX3_countOf 1 = .ok (.istore_n 2, 1) := by decide +kernel
theorem dX3_countOf_2 : decode cX3_countOf 2 = .ok (.iconst 0, 1) := by decide +kernel
theorem dX3_countOf_3 : decode cX3_countOf 3 = .ok (.istore_n 3, 1) := by decide +kernel
theorem dX3_countOf_4 : decode cX3_countOf 4 = .ok (.iload_n 3, 1) := by decide +kernel
theorem dX3_countOf_5 : decode cX3_countOf 5 = .ok (.aload_n 0, 1) := by decide +kernel
theorem dX3_countOf_6 : decode cX3_countOf 6 = .ok (.getfield 7, 3) := by decide +kernel
theorem dX3_countOf_9 : decode cX3_countOf 9 = .ok (.arraylength, 1) := by decide +kernel
theorem dX3_countOf_10 : decode cX3_countOf 10 = .ok (.if_icmp .ge 22, 3) := by decide +kernel
theorem dX3_countOf_13 : decode cX3_countOf 13 = .ok (.aload_n 0, 1) := by decide +kernel
theorem dX3_countOf_14 : decode cX3_countOf 14 = .ok (.getfield 7, 3) := by decide +kernel
theorem dX3_countOf_17 : decode cX3_countOf 17 = .ok (.iload_n 3, 1) := by decide +kernel
theorem dX3_countOf_18 : decode cX3_countOf 18 = .ok (.iaload, 1) := by decide +kernel
theorem dX3_countOf_19 : decode cX3_countOf 19 = .ok (.iload_n 1, 1) := by decide +kernel
theorem dX3_countOf_20 : decode cX3_countOf 20 = .ok (.if_icmp .ne 6, 3) := by decide +kernel
theorem dX3_countOf_23 : decode cX3_countOf 23 = .ok (.iinc 2 1, 3) := by decide +kernel
theorem dX3_countOf_26 : decode cX3_countOf 26 = .ok (.iinc 3 1, 3) := by decide +kernel
theorem dX3_countOf_29 : decode cX3_countOf 29 = .ok (.goto (-25), 3) := by decide +kernel
theorem dX3_countOf_32 : decode cX3_countOf 32 = .ok (.iload_n 2, 1) := by decide +kernel
theorem dX3_countOf_33 : decode cX3_countOf 33 = .ok (.ireturn, 1) := by decide +kernel
theorem dX3_init_0 : decode cX3_init 0 = .ok (.aload_n 0, 1) := by decide +kernel
theorem dX3_init_1 : decode cX3_init 1 = .ok (.invokespecial 1, 3) := by decide +kernel
theorem dX3_init_4 : decode cX3_init 4 = .ok (.aload_n 0, 1) := by decide +kernel
theorem dX3_init_5 : decode cX3_init 5 = .ok (.iload_n 1, 1) := by decide +kernel
theorem dX3_init_6 : decode cX3_init 6 = .ok (.newarray .int, 2) := by decide +kernel
theorem dX3_init_8 : decode cX3_init 8 = .ok (.putfield 7, 3) := by decide +kernel
theorem dX3_init_11 : decode cX3_init 11 = .ok (.aload_n 0, 1) := by decide +kernel
theorem dX3_init_12 : decode cX3_init 12 = .ok (.iload_n 2, 1) := by decide +kernel
theorem dX3_init_13 : decode cX3_init 13 = .ok (.putfield 13, 3) := by decide +kernel
theorem dX3_init_16 : decode cX3_init 16 = .ok (.aload_n 0, 1) := by decide +kernel
theorem dX3_init_17 : decode cX3_init 17 = .ok (.aload_n 3, 1) := by decide +kernel
theorem dX3_init_18 : decode cX3_init 18 = .ok (.putfield 17, 3) := by decide +kernel
theorem dX3_init_21 : decode cX3_init 21 = .ok (.aload_n 0, 1) := by decide +kernel
theorem dX3_init_22 : decode cX3_init 22 = .ok (.iconst 0, 1) := by decide +kernel
theorem dX3_init_23 : decode cX3_init 23 = .ok (.putfield 21, 3) := by decide +kernel
theorem dX3_init_26 : decode cX3_init 26 = .ok (.aload_n 0, 1) := by decide +kernel
theorem dX3_init_27 : decode cX3_init 27 = .ok (.iconst 0, 1) := by decide +kernel
theorem dX3_init_28 : decode cX3_init 28 = .ok (.putfield 24, 3) := by decide +kernel
theorem dX3_init_31 : decode cX3_init 31 = .ok (.aload_n 0, 1) := by decide +kernel
theorem dX3_init_32 : decode cX3_init 32 = .ok (.iconst 0, 1) := by decide +kernel
theorem dX3_init_33 : decode cX3_init 33 = .ok (.putfield 27, 3) := by decide +kernel
theorem dX3_init_36 : decode cX3_init 36 = .ok (.aload_n 0, 1) := by decide +kernel
theorem dX3_init_37 : decode cX3_init 37 = .ok (.iconst 0, 1) := by decide +kernel
theorem dX3_init_38 : decode cX3_init 38 = .ok (.putfield 30, 3) := by decide +kernel
theorem dX3_init_41 : decode cX3_init 41 = .ok (.return_, 1) := by decide +kernel
theorem dX4_init_0 : decode cX4_init 0 = .ok (.aload_n 0, 1) := by decide +kernel
theorem dX4_init_1 : decode cX4_init 1 = .ok (.invokespecial 3, 3) := by decide +kernel
theorem dX4_init_4 : decode cX4_init 4 = .ok (.aload_n 0, 1) := by decide +kernel
theorem dX4_init_5 : decode cX4_init 5 = .ok (.aload_n 1, 1) := by decide +kernel
theorem dX4_init_6 : decode cX4_init 6 = .ok (.putfield 9, 3) := by decide +kernel
theorem dX4_init_9 : decode cX4_init 9 = .ok (.aload_n 0, 1) := by decide +kernel
theorem dX4_init_10 : decode cX4_init 10 = .ok (.bipush 8, 2) := by decide +kernel
theorem dX4_init_12 : decode cX4_init 12 = .ok (.newarray .int, 2) := by decide +kernel
theorem dX4_init_14 : decode cX4_init 14 = .ok (.putfield 15, 3) := by decide +kernel
theorem dX4_init_17 : decode cX4_init 17 = .ok (.aload_n 0, 1) := by decide +kernel
theorem dX4_init_18 : decode cX4_init 18 = .ok (.bipush 67, 2) := by decide +kernel
theorem dX4_init_20 : decode cX4_init 20 = .ok (.newarray .int, 2) := by decide +kernel
theorem dX4_init_22 : decode cX4_init 22 = .ok (.putfield 19, 3) := by decide +kernel
theorem dX4_init_25 : decode cX4_init 25 = .ok (.aload_n 0, 1) := by decide +kernel
theorem dX4_init_26 : decode cX4_init 26 = .ok (.bipush 67, 2) := by decide +kernel
theorem dX4_init_28 : decode cX4_init 28 = .ok (.newarray .int, 2) := by decide +kernel
theorem dX4_init_30 : decode cX4_init 30 = .ok (.putfield 22, 3) := by decide +kernel
theorem dX4_init_33 : decode cX4_init 33 = .ok (.aload_n 0, 1) := by decide +kernel
theorem dX4_init_34 : decode cX4_init 34 = .ok (.bipush 67, 2) := by decide +kernel
theorem dX4_init_36 : decode cX4_init 36 = .ok (.newarray .int, 2) := by decide +kernel
theorem dX4_init_38 : decode cX4_init 38 = .ok (.putfield 25, 3) := by decide +kernel
theorem dX4_init_41 : decode cX4_init 41 = .ok (.aload_n 0, 1) := by decide +kernel
theorem dX4_init_42 : decode cX4_init 42 = .ok (.getfield 25, 3) := by decide +kernel
theorem dX4_init_45 : decode cX4_init 45 = .ok (.bipush 15, 2) := by decide +kernel
theorem dX4_init_47 : decode cX4_init 47 = .ok (.invokestatic 28, 3) := by decide +kernel
theorem dX4_init_50 : decode cX4_init 50 = .ok (.return_, 1) := by decide +kernel
theorem dX5_init_0 : decode cX5_init 0 = .ok (.aload_n 0, 1) := by decide +kernel
theorem dX5_init_1 : decode cX5_init 1 = .ok (.invokespecial 3, 3) := by decide +kernel
theorem dX5_init_4 : decode cX5_init 4 = .ok (.aload_n 0, 1) := by decide +kernel
theorem dX5_init_5 : decode cX5_init 5 = .ok (.bipush 8, 2) := by decide +kernel
theorem dX5_init_7 : decode cX5_init 7 = .ok (.newarray .int, 2) := by decide +kernel
theorem dX5_init_9 : decode cX5_init 9 = .ok (.putfield 9, 3) := by decide +kernel
theorem dX5_init_12 : decode cX5_init 12 = .ok (.aload_n 0, 1) := by decide +kernel
theorem dX5_init_13 : decode cX5_init 13 = .ok (.bipush 64, 2) := by decide +kernel
theorem dX5_init_15 : decode cX5_init 15 = .ok (.newarray .int, 2) := by decide +kernel
theorem dX5_init_17 : decode cX5_init 17 = .ok (.putfield 15, 3) := by decide +kernel
theorem dX5_init_20 : decode cX5_init 20 = .ok (.return_, 1) := by decide +kernel
theorem dX6_init_0 : decode cX6_init 0 = .ok (.aload_n 0, 1) := by decide +kernel
theorem dX6_init_1 : decode cX6_init 1 = .ok (.invokespecial 3, 3) := by decide +kernel
theorem dX6_init_4 : decode cX6_init 4 = .ok (.aload_n 0, 1) := by decide +kernel
theorem dX6_init_5 : decode cX6_init 5 = .ok (.iload_n 1, 1) := by decide +kernel
theorem dX6_init_6 : decode cX6_init 6 = .ok (.putfield 9, 3) := by decide +kernel
theorem dX6_init_9 : decode cX6_init 9 = .ok (.aload_n 0, 1) := by decide +kernel
theorem dX6_init_10 : decode cX6_init 10 = .ok (.iconst 1, 1) := by decide +kernel
theorem dX6_init_11 : decode cX6_init 11 = .ok (.iload_n 1, 1) := by decide +kernel
theorem dX6_init_12 : decode cX6_init 12 = .ok (.ishl, 1) := by decide +kernel
theorem dX6_init_13 : decode cX6_init 13 = .ok (.putfield 15, 3) := by decide +kernel
theorem dX6_init_16 : decode cX6_init 16 = .ok (.aload_n 0, 1) := by decide +kernel
theorem dX6_init_17 : decode cX6_init 17 = .ok (.new 18, 3) := by decide +kernel
theorem dX6_init_20 : decode cX6_init 20 = .ok (.dup, 1) := by decide +kernel
theorem dX6_init_21 : decode cX6_init 21 = .ok (.iconst 2, 1) := by decide +kernel
theorem dX6_init_22 : decode cX6_init 22 = .ok (.aload_n 0, 1) := by decide +kernel
theorem dX6_init_23 : decode cX6_init 23 = .ok (.getfield 15, 3) := by decide +kernel
theorem dX6_init_26 : decode cX6_init 26 = .ok (.imul, 1) := by decide +kernel
theorem dX6_init_27 : decode cX6_init 27 = .ok (.bipush 8, 2) := by decide +kernel
theorem dX6_init_29 : decode cX6_init 29 = .ok (.imul, 1) := by decide +kernel
theorem dX6_init_30 : decode cX6_init 30 = .ok (.invokespecial 20, 3) := by decide +kernel
theorem dX6_init_33 : decode cX6_init 33 = .ok (.putfield 23, 3) := by decide +kernel
theorem dX6_init_36 : decode cX6_init 36 = .ok (.aload_n 0, 1) := by decide +kernel
theorem dX6_init_37 : decode cX6_init 37 = .ok (.getfield 23, 3) := by decide +kernel
theorem dX6_init_40 : decode cX6_init 40 = .ok (.invokevirtual 27, 3) := by decide +kernel
theorem dX6_init_43 : decode cX6_init 43 = .ok (.aload_n 0, 1) := by decide +kernel
theorem dX6_init_44 : decode cX6_init 44 = .ok (.new 30, 3) := by decide +kernel
theorem dX6_init_47 : decode cX6_init 47 = .ok (.dup, 1) := by decide +kernel
theorem dX6_init_48 : decode cX6_init 48 = .ok (.invokespecial 32, 3) := by decide +kernel
theorem dX6_init_51 : decode cX6_init 51 = .ok (.putfield 33, 3) := by decide +kernel
theorem dX6_init_54 : decode cX6_init 54 = .ok (.aload_n 0, 1) := by decide +kernel
theorem dX6_init_55 : decode cX6_init 55 = .ok (.new 37, 3) := by decide +kernel
theorem dX6_init_58 : decode cX6_init 58 = .ok (.dup, 1) := by decide +kernel
theorem dX6_init_59 : decode cX6_init 59 = .ok (.aload_n 0, 1) := by decide +kernel
theorem dX6_init_60 : decode cX6_init 60 = .ok (.getfield 33, 3) := by decide +kernel
theorem dX6_init_63 : decode cX6_init 63 = .ok (.invokespecial 39, 3) := by decide +kernel
theorem dX6_init_66 : decode cX6_init 66 = .ok (.putfield 42, 3) := by decide +kernel
theorem dX6_init_69 : decode cX6_init 69 = .ok (.aload_n 0, 1) := by decide +kernel
theorem dX6_init_70 : decode cX6_init 70 = .ok (.bipush 8, 2) := by decide +kernel
theorem dX6_init_72 : decode cX6_init 72 = .ok (.newarray .int, 2) := by decide +kernel
theorem dX6_init_74 : decode cX6_init 74 = .ok (.putfield 46, 3) := by decide +kernel
theorem dX6_init_77 : decode cX6_init 77 = .ok (.aload_n 0, 1) := by decide +kernel
theorem dX6_init_78 : decode cX6_init 78 = .ok (.bipush 8, 2) := by decide +kernel
theorem dX6_init_80 : decode cX6_init 80 = .ok (.newarray .int, 2) := by decide +kernel
theorem dX6_init_82 : decode cX6_init 82 = .ok (.putfield 50, 3) := by decide +kernel
theorem dX6_init_85 : decode cX6_init 85 = .ok (.aload_n 0, 1) := by decide +kernel
theorem dX6_init_86 : decode cX6_init 86 = .ok (.bipush 8, 2) := by decide +kernel
theorem dX6_init_88 : decode cX6_init 88 = .ok (.newarray .int, 2) := by decide +kernel
theorem dX6_init_90 : decode cX6_init 90 = .ok (.putfield 53, 3) := by decide +kernel
theorem dX6_init_93 : decode cX6_init 93 = .ok (.aload_n 0, 1) := by decide +kernel
theorem dX6_init_94 : decode cX6_init 94 = .ok (.sipush 536, 3) := by decide +kernel
theorem dX6_init_97 : decode cX6_init 97 = .ok (.newarray .int, 2) := by decide +kernel
theorem dX6_init_99 : decode cX6_init 99 = .ok (.putfield 56, 3) := by decide +kernel
theorem dX6_init_102 : decode cX6_init 102 = .ok (.aload_n 0, 1) := by decide +kernel
theorem dX6_init_103 : decode cX6_init 103 = .ok (.bipush 16, 2) := by decide +kernel
theorem dX6_init_105 : decode cX6_init 105 = .ok (.newarray .int, 2) := by decide +kernel
theorem dX6_init_107 : decode cX6_init 107 = .ok (.putfield 59, 3) := by decide +kernel
theorem dX6_init_110 : decode cX6_init 110 = .ok (.aload_n 0, 1) := by decide +kernel
theorem dX6_init_111 : decode cX6_init 111 = .ok (.iconst 0, 1) := by decide +kernel
theorem dX6_init_112 : decode cX6_init 112 = .ok (.putfield 62, 3) := by decide +kernel
theorem dX6_init_115 : decode cX6_init 115 = .ok (.return_, 1) := by decide +kernel
theorem dX7_about_0 : decode cX7_about 0 = .ok (.aload_n 0, 1) := by decide +kernel
theorem dX7_about_1 : decode cX7_about 1 = .ok (.getfield 52, 3) := by decide +kernel
theorem dX7_about_4 : decode cX7_about 4 = .ok (.getfield 84, 3) := by decide +kernel
theorem dX7_about_7 : decode cX7_about 7 = .ok (.iconst 1, 1) := by decide +kernel
theorem dX7_about_8 : decode cX7_about 8 = .ok (.if_icmp .ne 7, 3) := by decide +kernel
theorem dX7_about_15 : decode cX7_about 15 = .ok (.iconst 0, 1) := by decide +kernel
theorem dX7_about_16 : decode cX7_about 16 = .ok (.istore_n 2, 1) := by decide +kernel
theorem dX7_about_17 : decode cX7_about 17 = .ok (.iload_n 1, 1) := by decide +kernel
theorem dX7_about_18 : decode cX7_about 18 = .ok (.tableswitch 170 0 11 #[62, 70, 86, 102, 111, 120, 128, 136, 144, 152, 160, 165], 62) := by decide +kernel
theorem dX7_about_80 : decode cX7_about 80 = .ok (.aload_n 0, 1) := by decide +kernel
theorem dX7_about_81 : decode cX7_about 81 = .ok (.getfield 52, 3) := by decide +kernel
theorem dX7_about_84 : decode cX7_about 84 = .ok (.getfield 84, 3) := by decide +kernel
theorem dX7_about_87 : decode cX7_about 87 = .ok (.ireturn, 1) := by decide +kernel
theorem dX7_about_88 : decode cX7_about 88 = .ok (.iload_n 2, 1) := by decide +kernel
theorem dX7_about_89 : decode cX7_about 89 = .ok (.ifCond .eq 13, 3) := by decide +kernel
theorem dX7_about_102 : decode cX7_about 102 = .ok (.iconst (-1), 1) := by decide +kernel
theorem dX7_about_103 : decode cX7_about 103 = .ok (.ireturn, 1) := by decide +kernel
theorem dX7_about_104 : decode cX7_about 104 = .ok (.iload_n 2, 1) := by decide +kernel
theorem dX7_about_105 : decode cX7_about 105 = .ok (.ifCond .eq 13, 3) := by decide +kernel
theorem dX7_about_118 : decode cX7_about 118 = .ok (.iconst (-1), 1) := by decide +kernel
theorem dX7_about_119 : decode cX7_about 119 = .ok (.ireturn, 1) := by decide +kernel
theorem dX7_about_120 : decode cX7_about 120 = .ok (.aload_n 0, 1) := by decide +kernel
theorem dX7_about_121 : decode cX7_about 121 = .ok (.getfield 52, 3) := by decide +kernel
theorem dX7_about_124 : decode cX7_about 124 = .ok (.iconst 2, 1) := by decide +kernel
theorem dX7_about_125 : decode cX7_about 125 = .ok (.invokevirtual 145, 3) := by decide +kernel
theorem dX7_about_128 : decode cX7_about 128 = .ok (.ireturn, 1) := by decide +kernel
theorem dX7_about_129 : decode cX7_about 129 = .ok (.aload_n 0, 1) := by decide +kernel
theorem dX7_about_130 : decode cX7_about 130 = .ok (.getfield 52, 3) := by decide +kernel
theorem dX7_about_133 : decode cX7_about 133 = .ok (.iconst 3, 1) := by decide +kernel
theorem dX7_about_134 : decode cX7_about 134 = .ok (.invokevirtual 145, 3) := by decide +kernel
theorem dX7_about_137 : decode cX7_about 137 = .ok (.ireturn, 1) := by decide +kernel
theorem dX7_about_138 : decode cX7_about 138 = .ok (.aload_n 0, 1) := by decide +kernel
theorem dX7_about_139 : decode cX7_about 139 = .ok (.getfield 43, 3) := by decide +kernel
theorem dX7_about_142 : decode cX7_about 142 = .ok (.getfield 148, 3) := by decide +kernel
theorem dX7_about_145 : decode cX7_about 145 = .ok (.ireturn, 1) := by decide +kernel
theorem dX7_about_146 : decode cX7_about 146 = .ok (.aload_n 0, 1) := by decide +kernel
theorem dX7_about_147 : decode cX7_about 147 = .ok (.getfield 43, 3) := by decide +kernel
theorem dX7_about_150 : decode cX7_about 150 = .ok (.getfield 101, 3) := by decide +kernel
theorem dX7_about_153 : decode cX7_about 153 = .ok (.ireturn, 1) := by decide +kernel
theorem dX7_about_154 : decode cX7_about 154 = .ok (.aload_n 0, 1) := by decide +kernel
theorem dX7_about_155 : decode cX7_about 155 = .ok (.getfield 30, 3) := by decide +kernel
theorem dX7_about_158 : decode cX7_about 158 = .ok (.getfield 63, 3) := by decide +kernel
theorem dX7_about_161 : decode cX7_about 161 = .ok (.ireturn, 1) := by decide +kernel
theorem dX7_about_162 : decode cX7_about 162 = .ok (.aload_n 0, 1) := by decide +kernel
theorem dX7_about_163 : decode cX7_about 163 = .ok (.getfield 34, 3) := by decide +kernel
theorem dX7_about_166 : decode cX7_about 166 = .ok (.getfield 63, 3) := by decide +kernel
theorem dX7_about_169 : decode cX7_about 169 = .ok (.ireturn, 1) := by decide +kernel
theorem dX7_about_170 : decode cX7_about 170 = .ok (.aload_n 0, 1) := by decide +kernel
theorem dX7_about_171 : decode cX7_about 171 = .ok (.getfield 37, 3) := by decide +kernel
theorem dX7_about_174 : decode cX7_about 174 = .ok (.getfield 63, 3) := by decide +kernel
theorem dX7_about_177 : decode cX7_about 177 = .ok (.ireturn, 1) := by decide +kernel
theorem dX7_about_178 : decode cX7_about 178 = .ok (.aload_n 0, 1) := by decide +kernel
theorem dX7_about_179 : decode cX7_about 179 = .ok (.getfield 18, 3) := by decide +kernel
theorem dX7_about_182 : decode cX7_about 182 = .ok (.ireturn, 1) := by decide +kernel
theorem dX7_about_183 : decode cX7_about 183 = .ok (.aload_n 0, 1) := by decide +kernel
theorem dX7_about_184 : decode cX7_about 184 = .ok (.getfield 22, 3) := by decide +kernel
theorem dX7_about_187 : decode cX7_about 187 = .ok (.ireturn, 1) := by decide +kernel
theorem dX7_about_188 : decode cX7_about 188 = .ok (.iconst (-1), 1) := by decide +kernel
theorem dX7_about_189 : decode cX7_about 189 = .ok (.ireturn, 1) := by decide +kernel
theorem dX7_alter_0 : decode cX7_alter 0 = .ok (.aload_n 0, 1) := by decide +kernel
theorem dX7_alter_1 : decode cX7_alter 1 = .ok (.getfield 37, 3) := by decide +kernel
theorem dX7_alter_4 : decode cX7_alter 4 = .ok (.iload_n 1, 1) := by decide +kernel
theorem dX7_alter_5 : decode cX7_alter 5 = .ok (.iload_n 2, 1) := by decide +kernel
theorem dX7_alter_6 : decode cX7_alter 6 = .ok (.invokevirtual 114, 3) := by decide +kernel
theorem dX7_alter_9 : decode cX7_alter 9 = .ok (.aload_n 0, 1) := by decide +kernel
theorem dX7_alter_10 : decode cX7_alter 10 = .ok (.getfield 37, 3) := by decide +kernel
theorem dX7_alter_13 : decode cX7_alter 13 = .ok (.iload_n 1, 1) := by decide +kernel
theorem dX7_alter_14 : decode cX7_alter 14 = .ok (.invokevirtual 118, 3) := by decide +kernel
theorem dX7_alter_17 : decode cX7_alter 17 = .ok (.ireturn, 1) := by decide +kernel
theorem dX7_disk_0 : decode cX7_disk 0 = .ok (.aload_n 0, 1) := by decide +kernel
theorem dX7_disk_1 : decode cX7_disk 1 = .ok (.getfield 43, 3) := by decide +kernel
theorem dX7_disk_4 : decode cX7_disk 4 = .ok (.getfield 151, 3) := by decide +kernel
theorem dX7_disk_7 : decode cX7_disk 7 = .ok (.iload_n 1, 1) := by decide +kernel
theorem dX7_disk_8 : decode cX7_disk 8 = .ok (.invokevirtual 118, 3) := by decide +kernel
theorem dX7_disk_11 : decode cX7_disk 11 = .ok (.ireturn, 1) := by decide +kernel
theorem dX7_fall_0 : decode cX7_fall 0 = .ok (.aload_n 0, 1) := by decide +kernel
theorem dX7_fall_1 : decode cX7_fall 1 = .ok (.getfield 52, 3) := by decide +kernel
theorem dX7_fall_4 : decode cX7_fall 4 = .ok (.getfield 84, 3) := by decide +kernel
theorem dX7_fall_7 : decode cX7_fall 7 = .ok (.iconst 1, 1) := by decide +kernel
theorem dX7_fall_8 : decode cX7_fall 8 = .ok (.if_icmp .eq 5, 3) := by decide +kernel
theorem dX7_fall_11 : decode cX7_fall 11 = .ok (.iconst 0, 1) := by decide +kernel
theorem dX7_fall_12 : decode cX7_fall 12 = .ok (.ireturn, 1) := by decide +kernel
theorem dX7_feed_0 : decode cX7_feed 0 = .ok (.aload_n 0, 1) := by decide +kernel
theorem dX7_feed_1 : decode cX7_feed 1 = .ok (.getfield 30, 3) := by decide +kernel
theorem dX7_feed_4 : decode cX7_feed 4 = .ok (.getfield 63, 3) := by decide +kernel
theorem dX7_feed_7 : decode cX7_feed 7 = .ok (.sipush 180, 3) := by decide +kernel
theorem dX7_feed_10 : decode cX7_feed 10 = .ok (.if_icmp .le 5, 3) := by decide +kernel
theorem dX7_feed_15 : decode cX7_feed 15 = .ok (.aload_n 0, 1) := by decide +kernel
theorem dX7_feed_16 : decode cX7_feed 16 = .ok (.getfield 30, 3) := by decide +kernel
theorem dX7_feed_19 : decode cX7_feed 19 = .ok (.iload_n 1, 1) := by decide +kernel
theorem dX7_feed_20 : decode cX7_feed 20 = .ok (.invokevirtual 66, 3) := by decide +kernel
theorem dX7_feed_23 : decode cX7_feed 23 = .ok (.aload_n 0, 1) := by decide +kernel
theorem dX7_feed_24 : decode cX7_feed 24 = .ok (.getfield 30, 3) := by decide +kernel
theorem dX7_feed_27 : decode cX7_feed 27 = .ok (.iload_n 2, 1) := by decide +kernel
theorem dX7_feed_28 : decode cX7_feed 28 = .ok (.invokevirtual 66, 3) := by decide +kernel
theorem dX7_feed_31 : decode cX7_feed 31 = .ok (.aload_n 0, 1) := by decide +kernel
theorem dX7_feed_32 : decode cX7_feed 32 = .ok (.getfield 30, 3) := by decide +kernel
theorem dX7_feed_35 : decode cX7_feed 35 = .ok (.iload_n 3, 1) := by decide +kernel
theorem dX7_feed_36 : decode cX7_feed 36 = .ok (.invokevirtual 66, 3) := by decide +kernel
theorem dX7_feed_39 : decode cX7_feed 39 = .ok (.aload_n 0, 1) := by decide +kernel
theorem dX7_feed_40 : decode cX7_feed 40 = .ok (.getfield 30, 3) := by decide +kernel
theorem dX7_feed_43 : decode cX7_feed 43 = .ok (.iload 4, 2) := by decide +kernel
theorem dX7_feed_45 : decode cX7_feed 45 = .ok (.invokevirtual 66, 3) := by decide +kernel
theorem dX7_feed_48 : decode cX7_feed 48 = .ok (.aload_n 0, 1) := by decide +kernel
theorem dX7_feed_49 : decode cX7_feed 49 = .ok (.getfield 30, 3) := by decide +kernel
theorem dX7_feed_52 : decode cX7_feed 52 = .ok (.iload 5, 2) := by decide +kernel
theorem dX7_feed_54 : decode cX7_feed 54 = .ok (.invokevirtual 66, 3) := by decide +kernel
theorem dX7_feed_57 : decode cX7_feed 57 = .ok (.aload_n 0, 1) := by decide +kernel
theorem dX7_feed_58 : decode cX7_feed 58 = .ok (.getfield 30, 3) := by decide +kernel
theorem dX7_feed_61 : decode cX7_feed 61 = .ok (.getfield 63, 3) := by decide +kernel
theorem dX7_feed_64 : decode cX7_feed 64 = .ok (.ireturn, 1) := by decide +kernel
theorem dX7_fuse_0 : decode cX7_fuse 0 = .ok (.iload_n 1, 1) := by decide +kernel
theorem dX7_fuse_1 : decode cX7_fuse 1 = .ok (.iconst (-1), 1) := by decide +kernel
theorem dX7_fuse_2 : decode cX7_fuse 2 = .ok (.if_icmp .lt 10, 3) := by decide +kernel
theorem dX7_fuse_5 : decode cX7_fuse 5 = .ok (.iload_n 1, 1) := by decide +kernel
theorem dX7_fuse_6 : decode cX7_fuse 6 = .ok (.sipush 1000, 3) := by decide +kernel
theorem dX7_fuse_9 : decode cX7_fuse 9 = .ok (.if_icmp .le 5, 3) := by decide +kernel
theorem dX7_fuse_12 : decode cX7_fuse 12 = .ok (.iconst 0, 1) := by decide +kernel
theorem dX7_fuse_13 : decode cX7_fuse 13 = .ok (.ireturn, 1) := by decide +kernel
theorem dX7_fuse_14 : decode cX7_fuse 14 = .ok (.aload_n 0, 1) := by decide +kernel
theorem dX7_fuse_15 : decode cX7_fuse 15 = .ok (.getfield 43, 3) := by decide +kernel
theorem dX7_fuse_18 : decode cX7_fuse 18 = .ok (.iload_n 1, 1) := by decide +kernel
theorem dX7_fuse_19 : decode cX7_fuse 19 = .ok (.putfield 101, 3) := by decide +kernel
theorem dX7_fuse_22 : decode cX7_fuse 22 = .ok (.iconst 1, 1) := by decide +kernel
theorem dX7_fuse_23 : decode cX7_fuse 23 = .ok (.ireturn, 1) := by decide +kernel
theorem dX7_hold_0 : decode cX7_hold 0 = .ok (.aload_n 0, 1) := by decide +kernel
theorem dX7_hold_1 : decode cX7_hold 1 = .ok (.getfield 37, 3) := by decide +kernel
theorem dX7_hold_4 : decode cX7_hold 4 = .ok (.aload_n 0, 1) := by decide +kernel
theorem dX7_hold_5 : decode cX7_hold 5 = .ok (.getfield 34, 3) := by decide +kernel
theorem dX7_hold_8 : decode cX7_hold 8 = .ok (.invokevirtual 110, 3) := by decide +kernel
theorem dX7_hold_11 : decode cX7_hold 11 = .ok (.aload_n 0, 1) := by decide +kernel
theorem dX7_hold_12 : decode cX7_hold 12 = .ok (.getfield 37, 3) := by decide +kernel
theorem dX7_hold_15 : decode cX7_hold 15 = .ok (.getfield 63, 3) := by decide +kernel
theorem dX7_hold_18 : decode cX7_hold 18 = .ok (.ireturn, 1) := by decide +kernel
theorem dX7_init_0 : decode cX7_init 0 = .ok (.aload_n 0, 1) := by decide +kernel
theorem dX7_init_1 : decode cX7_init 1 = .ok (.invokespecial 3, 3) := by decide +kernel
theorem dX7_init_4 : decode cX7_init 4 = .ok (.aload_n 0, 1) := by decide +kernel
theorem dX7_init_5 : decode cX7_init 5 = .ok (.iconst 1, 1) := by decide +kernel
theorem dX7_init_6 : decode cX7_init 6 = .ok (.iconst 4, 1) := by decide +kernel
theorem dX7_init_7 : decode cX7_init 7 = .ok (.iload_n 1, 1) := by decide +kernel
theorem dX7_init_8 : decode cX7_init 8 = .ok (.invokestatic 9, 3) := by decide +kernel
theorem dX7_init_11 : decode cX7_init 11 = .ok (.invokestatic 15, 3) := by decide +kernel
theorem dX7_init_14 : decode cX7_init 14 = .ok (.putfield 18, 3) := by decide +kernel
theorem dX7_init_17 : decode cX7_init 17 = .ok (.aload_n 0, 1) := by decide +kernel
theorem dX7_init_18 : decode cX7_init 18 = .ok (.iconst 1, 1) := by decide +kernel
theorem dX7_init_19 : decode cX7_init 19 = .ok (.bipush 8, 2) := by decide +kernel
theorem dX7_init_21 : decode cX7_init 21 = .ok (.iload_n 2, 1) := by decide +kernel
theorem dX7_init_22 : decode cX7_init 22 = .ok (.invokestatic 9, 3) := by decide +kernel
theorem dX7_init_25 : decode cX7_init 25 = .ok (.invokestatic 15, 3) := by decide +kernel
theorem dX7_init_28 : decode cX7_init 28 = .ok (.putfield 22, 3) := by decide +kernel
theorem dX7_init_31 : decode cX7_init 31 = .ok (.sipush 545, 3) := by decide +kernel
theorem dX7_init_34 : decode cX7_init 34 = .ok (.aload_n 0, 1) := by decide +kernel
theorem dX7_init_35 : decode cX7_init 35 = .ok (.getfield 18, 3) := by decide +kernel
theorem dX7_init_38 : decode cX7_init 38 = .ok (.bipush 8, 2) := by decide +kernel
theorem dX7_init_40 : decode cX7_init 40 = .ok (.imul, 1) := by decide +kernel
theorem dX7_init_41 : decode cX7_init 41 = .ok (.iadd, 1) := by decide +kernel
theorem dX7_init_42 : decode cX7_init 42 = .ok (.istore_n 3, 1) := by decide +kernel
theorem dX7_init_43 : decode cX7_init 43 = .ok (.aload_n 0, 1) := by decide +kernel
theorem dX7_init_44 : decode cX7_init 44 = .ok (.new 25, 3) := by decide +kernel
theorem dX7_init_47 : decode cX7_init 47 = .ok (.dup, 1) := by decide +kernel
theorem dX7_init_48 : decode cX7_init 48 = .ok (.bipush 50, 2) := by decide +kernel
theorem dX7_init_50 : decode cX7_init 50 = .ok (.invokespecial 27, 3) := by decide +kernel
theorem dX7_init_53 : decode cX7_init 53 = .ok (.putfield 30, 3) := by decide +kernel
theorem dX7_init_56 : decode cX7_init 56 = .ok (.aload_n 0, 1) := by decide +kernel
theorem dX7_init_57 : decode cX7_init 57 = .ok (.new 25, 3) := by decide +kernel
theorem dX7_init_60 : decode cX7_init 60 = .ok (.dup, 1) := by decide +kernel
theorem dX7_init_61 : decode cX7_init 61 = .ok (.iload_n 3, 1) := by decide +kernel
theorem dX7_init_62 : decode cX7_init 62 = .ok (.invokespecial 27, 3) := by decide +kernel
theorem dX7_init_65 : decode cX7_init 65 = .ok (.putfield 34, 3) := by decide +kernel
theorem dX7_init_68 : decode cX7_init 68 = .ok (.aload_n 0, 1) := by decide +kernel
theorem dX7_init_69 : decode cX7_init 69 = .ok (.new 25, 3) := by decide +kernel
theorem dX7_init_72 : decode cX7_init 72 = .ok (.dup, 1) := by decide +kernel
theorem dX7_init_73 : decode cX7_init 73 = .ok (.iload_n 3, 1) := by decide +kernel
theorem dX7_init_74 : decode cX7_init 74 = .ok (.invokespecial 27, 3) := by decide +kernel
theorem dX7_init_77 : decode cX7_init 77 = .ok (.putfield 37, 3) := by decide +kernel
theorem dX7_init_80 : decode cX7_init 80 = .ok (.aload_n 0, 1) := by decide +kernel
theorem dX7_init_81 : decode cX7_init 81 = .ok (.new 40, 3) := by decide +kernel
theorem dX7_init_84 : decode cX7_init 84 = .ok (.dup, 1) := by decide +kernel
theorem dX7_init_85 : decode cX7_init 85 = .ok (.invokespecial 42, 3) := by decide +kernel
theorem dX7_init_88 : decode cX7_init 88 = .ok (.putfield 43, 3) := by decide +kernel
theorem dX7_init_91 : decode cX7_init 91 = .ok (.aload_n 0, 1) := by decide +kernel
theorem dX7_init_92 : decode cX7_init 92 = .ok (.new 47, 3) := by decide +kernel
theorem dX7_init_95 : decode cX7_init 95 = .ok (.dup, 1) := by decide +kernel
theorem dX7_init_96 : decode cX7_init 96 = .ok (.iconst 1, 1) := by decide +kernel
theorem dX7_init_97 : decode cX7_init 97 = .ok (.aload_n 0, 1) := by decide +kernel
theorem dX7_init_98 : decode cX7_init 98 = .ok (.getfield 18, 3) := by decide +kernel
theorem dX7_init_101 : decode cX7_init 101 = .ok (.ishl, 1) := by decide +kernel
theorem dX7_init_102 : decode cX7_init 102 = .ok (.aload_n 0, 1) := by decide +kernel
theorem dX7_init_103 : decode cX7_init 103 = .ok (.getfield 22, 3) := by decide +kernel
theorem dX7_init_106 : decode cX7_init 106 = .ok (.aload_n 0, 1) := by decide +kernel
theorem dX7_init_107 : decode cX7_init 107 = .ok (.getfield 43, 3) := by decide +kernel
theorem dX7_init_110 : decode cX7_init 110 = .ok (.invokespecial 49, 3) := by decide +kernel
theorem dX7_init_113 : decode cX7_init 113 = .ok (.putfield 52, 3) := by decide +kernel
theorem dX7_init_116 : decode cX7_init 116 = .ok (.aload_n 0, 1) := by decide +kernel
theorem dX7_init_117 : decode cX7_init 117 = .ok (.new 56, 3) := by decide +kernel
theorem dX7_init_120 : decode cX7_init 120 = .ok (.dup, 1) := by decide +kernel
theorem dX7_init_121 : decode cX7_init 121 = .ok (.aload_n 0, 1) := by decide +kernel
theorem dX7_init_122 : decode cX7_init 122 = .ok (.getfield 18, 3) := by decide +kernel
theorem dX7_init_125 : decode cX7_init 125 = .ok (.invokespecial 58, 3) := by decide +kernel
theorem dX7_init_128 : decode cX7_init 128 = .ok (.putfield 59, 3) := by decide +kernel
theorem dX7_init_131 : decode cX7_init 131 = .ok (.return_, 1) := by decide +kernel
theorem dX7_isWrongCount_0 : decode cX7_isWrongCount 0 = .ok (.iload_n 1, 1) := by decide +kernel
theorem dX7_isWrongCount_1 : decode cX7_isWrongCount 1 = .ok (.ifCond .lt 14, 3) := by decide +kernel
theorem dX7_isWrongCount_4 : decode cX7_isWrongCount 4 = .ok (.iload_n 1, 1) := by decide +kernel
theorem dX7_isWrongCount_5 : decode cX7_isWrongCount 5 = .ok (.aload_n 0, 1) := by decide +kernel
theorem dX7_isWrongCount_6 : decode cX7_isWrongCount 6 = .ok (.getfield 30, 3) := by decide +kernel
theorem dX7_isWrongCount_9 : decode cX7_isWrongCount 9 = .ok (.getfield 63, 3) := by decide +kernel
theorem dX7_isWrongCount_12 : decode cX7_isWrongCount 12 = .ok (.if_icmp .le 7, 3) := by decide +kernel
theorem dX7_isWrongCount_15 : decode cX7_isWrongCount 15 = .ok (.iconst 1, 1) := by decide +kernel
theorem dX7_isWrongCount_16 : decode cX7_isWrongCount 16 = .ok (.goto 4, 3) := by decide +kernel
theorem dX7_isWrongCount_19 : decode cX7_isWrongCount 19 = .ok (.iconst 0, 1) := by decide +kernel
theorem dX7_isWrongCount_20 : decode cX7_isWrongCount 20 = .ok (.ireturn, 1) := by decide +kernel
theorem dX7_keys_0 : decode cX7_keys 0 = .ok (.aload_n 0, 1) := by decide +kernel
theorem dX7_keys_1 : decode cX7_keys 1 = .ok (.getfield 30, 3) := by decide +kernel
theorem dX7_keys_4 : decode cX7_keys 4 = .ok (.getfield 63, 3) := by decide +kernel
theorem dX7_keys_7 : decode cX7_keys 7 = .ok (.bipush 96, 2) := by decide +kernel
theorem dX7_keys_9 : decode cX7_keys 9 = .ok (.if_icmp .ge 5, 3) := by decide +kernel
theorem dX7_keys_12 : decode cX7_keys 12 = .ok (.iconst 0, 1) := by decide +kernel
theorem dX7_keys_13 : decode cX7_keys 13 = .ok (.ireturn, 1) := by decide +kernel
theorem dX7_leaf_0 : decode cX7_leaf 0 = .ok (.aload_n 0, 1) := by decide +kernel
theorem dX7_leaf_1 : decode cX7_leaf 1 = .ok (.invokevirtual 122, 3) := by decide +kernel
theorem dX7_leaf_4 : decode cX7_leaf 4 = .ok (.ifCond .ne 14, 3) := by decide +kernel
theorem dX7_leaf_18 : decode cX7_leaf 18 = .ok (.iconst (-1), 1) := by decide +kernel
theorem dX7_leaf_19 : decode cX7_leaf 19 = .ok (.ireturn, 1) := by decide +kernel
theorem dX7_node_0 : decode cX7_node 0 = .ok (.aload_n 0, 1) := by decide +kernel
theorem dX7_node_1 : decode cX7_node 1 = .ok (.invokevirtual 122, 3) := by decide +kernel
theorem dX7_node_4 : decode cX7_node 4 = .ok (.ifCond .ne 25, 3) := by decide +kernel
theorem dX7_node_29 : decode cX7_node 29 = .ok (.iconst (-1), 1) := by decide +kernel
theorem dX7_node_30 : decode cX7_node 30 = .ok (.ireturn, 1) := by decide +kernel
theorem dX7_out_0 : decode cX7_out 0 = .ok (.aload_n 0, 1) := by decide +kernel
theorem dX7_out_1 : decode cX7_out 1 = .ok (.getfield 34, 3) := by decide +kernel
theorem dX7_out_4 : decode cX7_out 4 = .ok (.iload_n 1, 1) := by decide +kernel
theorem dX7_out_5 : decode cX7_out 5 = .ok (.invokevirtual 118, 3) := by decide +kernel
theorem dX7_out_8 : decode cX7_out 8 = .ok (.ireturn, 1) := by decide +kernel
theorem dX7_rise_0 : decode cX7_rise 0 = .ok (.aload_n 0, 1) := by decide +kernel
theorem dX7_rise_1 : decode cX7_rise 1 = .ok (.getfield 52, 3) := by decide +kernel
theorem dX7_rise_4 : decode cX7_rise 4 = .ok (.getfield 84, 3) := by decide +kernel
theorem dX7_rise_7 : decode cX7_rise 7 = .ok (.iconst 2, 1) := by decide +kernel
theorem dX7_rise_8 : decode cX7_rise 8 = .ok (.if_icmp .eq 5, 3) := by decide +kernel
theorem dX7_rise_11 : decode cX7_rise 11 = .ok (.iconst 0, 1) := by decide +kernel
theorem dX7_rise_12 : decode cX7_rise 12 = .ok (.ireturn, 1) := by decide +kernel
theorem dX7_sign_0 : decode cX7_sign 0 = .ok (.aload_n 0, 1) := by decide +kernel
theorem dX7_sign_1 : decode cX7_sign 1 = .ok (.iload_n 1, 1) := by decide +kernel
theorem dX7_sign_2 : decode cX7_sign 2 = .ok (.invokevirtual 80, 3) := by decide +kernel
theorem dX7_sign_5 : decode cX7_sign 5 = .ok (.ifCond .eq 6, 3) := by decide +kernel
theorem dX7_sign_8 : decode cX7_sign 8 = .ok (.bipush (-2), 2) := by decide +kernel
theorem dX7_sign_10 : decode cX7_sign 10 = .ok (.ireturn, 1) := by decide +kernel
theorem dX7_sign_11 : decode cX7_sign 11 = .ok (.aload_n 0, 1) := by decide +kernel
theorem dX7_sign_12 : decode cX7_sign 12 = .ok (.getfield 52, 3) := by decide +kernel
theorem dX7_sign_15 : decode cX7_sign 15 = .ok (.getfield 84, 3) := by decide +kernel
theorem dX7_sign_18 : decode cX7_sign 18 = .ok (.iconst 1, 1) := by decide +kernel
theorem dX7_sign_19 : decode cX7_sign 19 = .ok (.if_icmp .eq 6, 3) := by decide +kernel
theorem dX7_sign_22 : decode cX7_sign 22 = .ok (.bipush (-3), 2) := by decide +kernel
theorem dX7_sign_24 : decode cX7_sign 24 = .ok (.ireturn, 1) := by decide +kernel
theorem dX7_verify_0 : decode cX7_verify 0 = .ok (.aload_n 0, 1) := by decide +kernel
theorem dX7_verify_1 : decode cX7_verify 1 = .ok (.iload_n 1, 1) := by decide +kernel
theorem dX7_verify_2 : decode cX7_verify 2 = .ok (.invokevirtual 80, 3) := by decide +kernel
theorem dX7_verify_5 : decode cX7_verify 5 = .ok (.ifCond .eq 6, 3) := by decide +kernel
theorem dX7_verify_8 : decode cX7_verify 8 = .ok (.bipush (-2), 2) := by decide +kernel
theorem dX7_verify_10 : decode cX7_verify 10 = .ok (.ireturn, 1) := by decide +kernel
theorem dX7_verify_11 : decode cX7_verify 11 = .ok (.aload_n 0, 1) := by decide +kernel
theorem dX7_verify_12 : decode cX7_verify 12 = .ok (.invokevirtual 122, 3) := by decide +kernel
theorem dX7_verify_15 : decode cX7_verify 15 = .ok (.ifCond .eq 6, 3) := by decide +kernel
theorem dX7_verify_18 : decode cX7_verify 18 = .ok (.bipush (-3), 2) := by decide +kernel
theorem dX7_verify_20 : decode cX7_verify 20 = .ok (.ireturn, 1) := by decide +kernel
theorem dX7_wasNeverKeyed_0 : decode cX7_wasNeverKeyed 0 = .ok (.aload_n 0, 1) := by decide +kernel
theorem dX7_wasNeverKeyed_1 : decode cX7_wasNeverKeyed 1 = .ok (.getfield 52, 3) := by decide +kernel
theorem dX7_wasNeverKeyed_4 : decode cX7_wasNeverKeyed 4 = .ok (.getfield 84, 3) := by decide +kernel
theorem dX7_wasNeverKeyed_7 : decode cX7_wasNeverKeyed 7 = .ok (.ifCond .ne 7, 3) := by decide +kernel
theorem dX7_wasNeverKeyed_10 : decode cX7_wasNeverKeyed 10 = .ok (.iconst 1, 1) := by decide +kernel
theorem dX7_wasNeverKeyed_11 : decode cX7_wasNeverKeyed 11 = .ok (.goto 4, 3) := by decide +kernel
theorem dX7_wasNeverKeyed_15 : decode cX7_wasNeverKeyed 15 = .ok (.ireturn, 1) := by decide +kernel
theorem dX8_about_0 : decode cX8_about 0 = .ok (.iconst 0, 1) := by decide +kernel
theorem dX8_about_1 : decode cX8_about 1 = .ok (.istore_n 2, 1) := by decide +kernel
theorem dX8_about_2 : decode cX8_about 2 = .ok (.iconst 0, 1) := by decide +kernel
theorem dX8_about_3 : decode cX8_about 3 = .ok (.istore_n 3, 1) := by decide +kernel
theorem dX8_about_4 : decode cX8_about 4 = .ok (.iconst 0, 1) := by decide +kernel
theorem dX8_about_5 : decode cX8_about 5 = .ok (.istore 4, 2) := by decide +kernel
theorem dX8_about_7 : decode cX8_about 7 = .ok (.iload 4, 2) := by decide +kernel
theorem dX8_about_9 : decode cX8_about 9 = .ok (.bipush 16, 2) := by decide +kernel
theorem dX8_about_11 : decode cX8_about 11 = .ok (.if_icmp .ge 45, 3) := by decide +kernel
theorem dX8_about_14 : decode cX8_about 14 = .ok (.iload_n 2, 1) := by decide +kernel
theorem dX8_about_15 : decode cX8_about 15 = .ok (.aload_n 0, 1) := by decide +kernel
theorem dX8_about_16 : decode cX8_about 16 = .ok (.getfield 156, 3) := by decide +kernel
theorem dX8_about_19 : decode cX8_about 19 = .ok (.iload 4, 2) := by decide +kernel
theorem dX8_about_21 : decode cX8_about 21 = .ok (.baload, 1) := by decide +kernel
theorem dX8_about_22 : decode cX8_about 22 = .ok (.ifCond .eq 7, 3) := by decide +kernel
theorem dX8_about_29 : decode cX8_about 29 = .ok (.iconst 0, 1) := by decide +kernel
theorem dX8_about_30 : decode cX8_about 30 = .ok (.iadd, 1) := by decide +kernel
theorem dX8_about_31 : decode cX8_about 31 = .ok (.istore_n 2, 1) := by decide +kernel
theorem dX8_about_32 : decode cX8_about 32 = .ok (.iload_n 3, 1) := by decide +kernel
theorem dX8_about_33 : decode cX8_about 33 = .ok (.aload_n 0, 1) := by decide +kernel
theorem dX8_about_34 : decode cX8_about 34 = .ok (.getfield 160, 3) := by decide +kernel
theorem dX8_about_37 : decode cX8_about 37 = .ok (.iload 4, 2) := by decide +kernel
theorem dX8_about_39 : decode cX8_about 39 = .ok (.baload, 1) := by decide +kernel
theorem dX8_about_40 : decode cX8_about 40 = .ok (.ifCond .eq 7, 3) := by decide +kernel
theorem dX8_about_47 : decode cX8_about 47 = .ok (.iconst 0, 1) := by decide +kernel
theorem dX8_about_48 : decode cX8_about 48 = .ok (.iadd, 1) := by decide +kernel
theorem dX8_about_49 : decode cX8_about 49 = .ok (.istore_n 3, 1) := by decide +kernel
theorem dX8_about_50 : decode cX8_about 50 = .ok (.iinc 4 1, 3) := by decide +kernel
theorem dX8_about_53 : decode cX8_about 53 = .ok (.goto (-46), 3) := by decide +kernel
theorem dX8_about_56 : decode cX8_about 56 = .ok (.iload_n 1, 1) := by decide +kernel
theorem dX8_about_57 : decode cX8_about 57 = .ok (.tableswitch 141 0 11 #[63, 68, 85, 102, 104, 106, 111, 116, 121, 126, 131, 136], 63) := by decide +kernel
theorem dX8_about_120 : decode cX8_about 120 = .ok (.aload_n 0, 1) := by decide +kernel
theorem dX8_about_121 : decode cX8_about 121 = .ok (.getfield 257, 3) := by decide +kernel
theorem dX8_about_124 : decode cX8_about 124 = .ok (.ireturn, 1) := by decide +kernel
theorem dX8_about_125 : decode cX8_about 125 = .ok (.aload_n 0, 1) := by decide +kernel
theorem dX8_about_126 : decode cX8_about 126 = .ok (.getfield 257, 3) := by decide +kernel
theorem dX8_about_129 : decode cX8_about 129 = .ok (.iconst 1, 1) := by decide +kernel
theorem dX8_about_130 : decode cX8_about 130 = .ok (.if_icmp .ne 10, 3) := by decide +kernel
theorem dX8_about_140 : decode cX8_about 140 = .ok (.iconst (-1), 1) := by decide +kernel
theorem dX8_about_141 : decode cX8_about 141 = .ok (.ireturn, 1) := by decide +kernel
theorem dX8_about_142 : decode cX8_about 142 = .ok (.aload_n 0, 1) := by decide +kernel
theorem dX8_about_143 : decode cX8_about 143 = .ok (.getfield 257, 3) := by decide +kernel
theorem dX8_about_146 : decode cX8_about 146 = .ok (.iconst 1, 1) := by decide +kernel
theorem dX8_about_147 : decode cX8_about 147 = .ok (.if_icmp .ne 10, 3) := by decide +kernel
theorem dX8_about_157 : decode cX8_about 157 = .ok (.iconst (-1), 1) := by decide +kernel
theorem dX8_about_158 : decode cX8_about 158 = .ok (.ireturn, 1) := by decide +kernel
theorem dX8_about_159 : decode cX8_about 159 = .ok (.iload_n 2, 1) := by decide +kernel
theorem dX8_about_160 : decode cX8_about 160 = .ok (.ireturn, 1) := by decide +kernel
theorem dX8_about_161 : decode cX8_about 161 = .ok (.iload_n 3, 1) := by decide +kernel
theorem dX8_about_162 : decode cX8_about 162 = .ok (.ireturn, 1) := by decide +kernel
theorem dX8_about_163 : decode cX8_about 163 = .ok (.aload_n 0, 1) := by decide +kernel
theorem dX8_about_164 : decode cX8_about 164 = .ok (.getfield 272, 3) := by decide +kernel
theorem dX8_about_167 : decode cX8_about 167 = .ok (.ireturn, 1) := by decide +kernel
theorem dX8_about_168 : decode cX8_about 168 = .ok (.aload_n 0, 1) := by decide +kernel
theorem dX8_about_169 : decode cX8_about 169 = .ok (.getfield 152, 3) := by decide +kernel
theorem dX8_about_172 : decode cX8_about 172 = .ok (.ireturn, 1) := by decide +kernel
theorem dX8_about_173 : decode cX8_about 173 = .ok (.aload_n 0, 1) := by decide +kernel
theorem dX8_about_174 : decode cX8_about 174 = .ok (.getfield 244, 3) := by decide +kernel
theorem dX8_about_177 : decode cX8_about 177 = .ok (.ireturn, 1) := by decide +kernel
theorem dX8_about_178 : decode cX8_about 178 = .ok (.aload_n 0, 1) := by decide +kernel
theorem dX8_about_179 : decode cX8_about 179 = .ok (.getfield 290, 3) := by decide +kernel
theorem dX8_about_182 : decode cX8_about 182 = .ok (.ireturn, 1) := by decide +kernel
theorem dX8_about_183 : decode cX8_about 183 = .ok (.aload_n 0, 1) := by decide +kernel
theorem dX8_about_184 : decode cX8_about 184 = .ok (.getfield 300, 3) := by decide +kernel
theorem dX8_about_187 : decode cX8_about 187 = .ok (.ireturn, 1) := by decide +kernel
theorem dX8_about_188 : decode cX8_about 188 = .ok (.aload_n 0, 1) := by decide +kernel
theorem dX8_about_189 : decode cX8_about 189 = .ok (.getfield 170, 3) := by decide +kernel
theorem dX8_about_192 : decode cX8_about 192 = .ok (.ireturn, 1) := by decide +kernel
theorem dX8_about_193 : decode cX8_about 193 = .ok (.aload_n 0, 1) := by decide +kernel
theorem dX8_about_194 : decode cX8_about 194 = .ok (.getfield 173, 3) := by decide +kernel
theorem dX8_about_197 : decode cX8_about 197 = .ok (.ireturn, 1) := by decide +kernel
theorem dX8_about_198 : decode cX8_about 198 = .ok (.iconst (-1), 1) := by decide +kernel
theorem dX8_about_199 : decode cX8_about 199 = .ok (.ireturn, 1) := by decide +kernel
theorem dX8_alter_0 : decode cX8_alter 0 = .ok (.iload_n 1, 1) := by decide +kernel
theorem dX8_alter_1 : decode cX8_alter 1 = .ok (.iconst 0, 1) := by decide +kernel
theorem dX8_alter_2 : decode cX8_alter 2 = .ok (.aload_n 0, 1) := by decide +kernel
theorem dX8_alter_3 : decode cX8_alter 3 = .ok (.getfield 300, 3) := by decide +kernel
theorem dX8_alter_6 : decode cX8_alter 6 = .ok (.iconst 1, 1) := by decide +kernel
theorem dX8_alter_7 : decode cX8_alter 7 = .ok (.isub, 1) := by decide +kernel
theorem dX8_alter_8 : decode cX8_alter 8 = .ok (.invokestatic 279, 3) := by decide +kernel
theorem dX8_alter_11 : decode cX8_alter 11 = .ok (.ifCond .ne 5, 3) := by decide +kernel
theorem dX8_alter_14 : decode cX8_alter 14 = .ok (.iconst (-1), 1) := by decide +kernel
theorem dX8_alter_15 : decode cX8_alter 15 = .ok (.ireturn, 1) := by decide +kernel
theorem dX8_disk_0 : decode cX8_disk 0 = .ok (.iload_n 1, 1) := by decide +kernel
theorem dX8_disk_1 : decode cX8_disk 1 = .ok (.iconst 0, 1) := by decide +kernel
theorem dX8_disk_2 : decode cX8_disk 2 = .ok (.bipush 23, 2) := by decide +kernel
theorem dX8_disk_4 : decode cX8_disk 4 = .ok (.invokestatic 279, 3) := by decide +kernel
theorem dX8_disk_7 : decode cX8_disk 7 = .ok (.ifCond .eq 16, 3) := by decide +kernel
theorem dX8_disk_10 : decode cX8_disk 10 = .ok (.aload_n 0, 1) := by decide +kernel
theorem dX8_disk_11 : decode cX8_disk 11 = .ok (.getfield 140, 3) := by decide +kernel
theorem dX8_disk_14 : decode cX8_disk 14 = .ok (.iload_n 1, 1) := by decide +kernel
theorem dX8_disk_15 : decode cX8_disk 15 = .ok (.baload, 1) := by decide +kernel
theorem dX8_disk_16 : decode cX8_disk 16 = .ok (.sipush 255, 3) := by decide +kernel
theorem dX8_disk_19 : decode cX8_disk 19 = .ok (.iand, 1) := by decide +kernel
theorem dX8_disk_20 : decode cX8_disk 20 = .ok (.goto 4, 3) := by decide +kernel
theorem dX8_disk_23 : decode cX8_disk 23 = .ok (.iconst (-1), 1) := by decide +kernel
theorem dX8_disk_24 : decode cX8_disk 24 = .ok (.ireturn, 1) := by decide +kernel
theorem dX8_fall_0 : decode cX8_fall 0 = .ok (.aload_n 0, 1) := by decide +kernel
theorem dX8_fall_1 : decode cX8_fall 1 = .ok (.getfield 257, 3) := by decide +kernel
theorem dX8_fall_4 : decode cX8_fall 4 = .ok (.iconst 1, 1) := by decide +kernel
theorem dX8_fall_5 : decode cX8_fall 5 = .ok (.if_icmp .eq 5, 3) := by decide +kernel
theorem dX8_fall_8 : decode cX8_fall 8 = .ok (.iconst 0, 1) := by decide +kernel
theorem dX8_fall_9 : decode cX8_fall 9 = .ok (.ireturn, 1) := by decide +kernel
theorem dX8_feed_0 : decode cX8_feed 0 = .ok (.aload_n 0, 1) := by decide +kernel
theorem dX8_feed_1 : decode cX8_feed 1 = .ok (.getfield 244, 3) := by decide +kernel
theorem dX8_feed_4 : decode cX8_feed 4 = .ok (.bipush 20, 2) := by decide +kernel
theorem dX8_feed_6 : decode cX8_feed 6 = .ok (.iadd, 1) := by decide +kernel
theorem dX8_feed_7 : decode cX8_feed 7 = .ok (.sipush 200, 3) := by decide +kernel
theorem dX8_feed_10 : decode cX8_feed 10 = .ok (.if_icmp .le 5, 3) := by decide +kernel
theorem dX8_feed_15 : decode cX8_feed 15 = .ok (.aload_n 0, 1) := by decide +kernel
theorem dX8_feed_16 : decode cX8_feed 16 = .ok (.iload_n 1, 1) := by decide +kernel
theorem dX8_feed_17 : decode cX8_feed 17 = .ok (.invokevirtual 247, 3) := by decide +kernel
theorem dX8_feed_20 : decode cX8_feed 20 = .ok (.aload_n 0, 1) := by decide +kernel
theorem dX8_feed_21 : decode cX8_feed 21 = .ok (.iload_n 2, 1) := by decide +kernel
theorem dX8_feed_22 : decode cX8_feed 22 = .ok (.invokevirtual 247, 3) := by decide +kernel
theorem dX8_feed_25 : decode cX8_feed 25 = .ok (.aload_n 0, 1) := by decide +kernel
theorem dX8_feed_26 : decode cX8_feed 26 = .ok (.iload_n 3, 1) := by decide +kernel
theorem dX8_feed_27 : decode cX8_feed 27 = .ok (.invokevirtual 247, 3) := by decide +kernel
theorem dX8_feed_30 : decode cX8_feed 30 = .ok (.aload_n 0, 1) := by decide +kernel
theorem dX8_feed_31 : decode cX8_feed 31 = .ok (.iload 4, 2) := by decide +kernel
theorem dX8_feed_33 : decode cX8_feed 33 = .ok (.invokevirtual 247, 3) := by decide +kernel
theorem dX8_feed_36 : decode cX8_feed 36 = .ok (.aload_n 0, 1) := by decide +kernel
theorem dX8_feed_37 : decode cX8_feed 37 = .ok (.iload 5, 2) := by decide +kernel
theorem dX8_feed_39 : decode cX8_feed 39 = .ok (.invokevirtual 247, 3) := by decide +kernel
theorem dX8_feed_42 : decode cX8_feed 42 = .ok (.aload_n 0, 1) := by decide +kernel
theorem dX8_feed_43 : decode cX8_feed 43 = .ok (.getfield 244, 3) := by decide +kernel
theorem dX8_feed_46 : decode cX8_feed 46 = .ok (.ireturn, 1) := by decide +kernel
theorem dX8_feedOne_0 : decode cX8_feedOne 0 = .ok (.bipush 24, 2) := by decide +kernel
theorem dX8_feedOne_2 : decode cX8_feedOne 2 = .ok (.istore_n 2, 1) := by decide +kernel
theorem dX8_feedOne_3 : decode cX8_feedOne 3 = .ok (.iload_n 2, 1) := by decide +kernel
theorem dX8_feedOne_4 : decode cX8_feedOne 4 = .ok (.ifCond .lt 32, 3) := by decide +kernel
theorem dX8_feedOne_7 : decode cX8_feedOne 7 = .ok (.aload_n 0, 1) := by decide +kernel
theorem dX8_feedOne_8 : decode cX8_feedOne 8 = .ok (.getfield 137, 3) := by decide +kernel
theorem dX8_feedOne_11 : decode cX8_feedOne 11 = .ok (.aload_n 0, 1) := by decide +kernel
theorem dX8_feedOne_12 : decode cX8_feedOne 12 = .ok (.getfield 244, 3) := by decide +kernel
theorem dX8_feedOne_15 : decode cX8_feedOne 15 = .ok (.iload_n 1, 1) := by decide +kernel
theorem dX8_feedOne_16 : decode cX8_feedOne 16 = .ok (.iload_n 2, 1) := by decide +kernel
theorem dX8_feedOne_17 : decode cX8_feedOne 17 = .ok (.ishr, 1) := by decide +kernel
theorem dX8_feedOne_18 : decode cX8_feedOne 18 = .ok (.i2b, 1) := by decide +kernel
theorem dX8_feedOne_19 : decode cX8_feedOne 19 = .ok (.bastore, 1) := by decide +kernel
theorem dX8_feedOne_20 : decode cX8_feedOne 20 = .ok (.aload_n 0, 1) := by decide +kernel
theorem dX8_feedOne_21 : decode cX8_feedOne 21 = .ok (.dup, 1) := by decide +kernel
theorem dX8_feedOne_22 : decode cX8_feedOne 22 = .ok (.getfield 244, 3) := by decide +kernel
theorem dX8_feedOne_25 : decode cX8_feedOne 25 = .ok (.iconst 1, 1) := by decide +kernel
theorem dX8_feedOne_26 : decode cX8_feedOne 26 = .ok (.iadd, 1) := by decide +kernel
theorem dX8_feedOne_27 : decode cX8_feedOne 27 = .ok (.putfield 244, 3) := by decide +kernel
theorem dX8_feedOne_30 : decode cX8_feedOne 30 = .ok (.iinc 2 (-8), 3) := by decide +kernel
theorem dX8_feedOne_33 : decode cX8_feedOne 33 = .ok (.goto (-30), 3) := by decide +kernel
theorem dX8_feedOne_36 : decode cX8_feedOne 36 = .ok (.return_, 1) := by decide +kernel
theorem dX8_fuse_0 : decode cX8_fuse 0 = .ok (.iload_n 1, 1) := by decide +kernel
theorem dX8_fuse_1 : decode cX8_fuse 1 = .ok (.iconst (-1), 1) := by decide +kernel
theorem dX8_fuse_2 : decode cX8_fuse 2 = .ok (.sipush 1000, 3) := by decide +kernel
theorem dX8_fuse_5 : decode cX8_fuse 5 = .ok (.invokestatic 279, 3) := by decide +kernel
theorem dX8_fuse_8 : decode cX8_fuse 8 = .ok (.ifCond .ne 5, 3) := by decide +kernel
theorem dX8_fuse_11 : decode cX8_fuse 11 = .ok (.iconst 0, 1) := by decide +kernel
theorem dX8_fuse_12 : decode cX8_fuse 12 = .ok (.ireturn, 1) := by decide +kernel
theorem dX8_fuse_13 : decode cX8_fuse 13 = .ok (.aload_n 0, 1) := by decide +kernel
theorem dX8_fuse_14 : decode cX8_fuse 14 = .ok (.iload_n 1, 1) := by decide +kernel
theorem dX8_fuse_15 : decode cX8_fuse 15 = .ok (.putfield 152, 3) := by decide +kernel
theorem dX8_fuse_18 : decode cX8_fuse 18 = .ok (.iconst 1, 1) := by decide +kernel
theorem dX8_fuse_19 : decode cX8_fuse 19 = .ok (.ireturn, 1) := by decide +kernel
theorem dX8_held_0 : decode cX8_held 0 = .ok (.iload_n 0, 1) := by decide +kernel
theorem dX8_held_1 : decode cX8_held 1 = .ok (.iload_n 1, 1) := by decide +kernel
theorem dX8_held_2 : decode cX8_held 2 = .ok (.if_icmp .ge 7, 3) := by decide +kernel
theorem dX8_held_5 : decode cX8_held 5 = .ok (.iload_n 1, 1) := by decide +kernel
theorem dX8_held_6 : decode cX8_held 6 = .ok (.goto 13, 3) := by decide +kernel
theorem dX8_held_9 : decode cX8_held 9 = .ok (.iload_n 0, 1) := by decide +kernel
theorem dX8_held_10 : decode cX8_held 10 = .ok (.iload_n 2, 1) := by decide +kernel
theorem dX8_held_11 : decode cX8_held 11 = .ok (.if_icmp .le 7, 3) := by decide +kernel
theorem dX8_held_14 : decode cX8_held 14 = .ok (.iload_n 2, 1) := by decide +kernel
theorem dX8_held_15 : decode cX8_held 15 = .ok (.goto 4, 3) := by decide +kernel
theorem dX8_held_18 : decode cX8_held 18 = .ok (.iload_n 0, 1) := by decide +kernel
theorem dX8_held_19 : decode cX8_held 19 = .ok (.ireturn, 1) := by decide +kernel
theorem dX8_hold_0 : decode cX8_hold 0 = .ok (.iconst 0, 1) := by decide +kernel
theorem dX8_hold_1 : decode cX8_hold 1 = .ok (.istore_n 1, 1) := by decide +kernel
theorem dX8_hold_2 : decode cX8_hold 2 = .ok (.iload_n 1, 1) := by decide +kernel
theorem dX8_hold_3 : decode cX8_hold 3 = .ok (.aload_n 0, 1) := by decide +kernel
theorem dX8_hold_4 : decode cX8_hold 4 = .ok (.getfield 290, 3) := by decide +kernel
theorem dX8_hold_7 : decode cX8_hold 7 = .ok (.if_icmp .ge 21, 3) := by decide +kernel
theorem dX8_hold_28 : decode cX8_hold 28 = .ok (.aload_n 0, 1) := by decide +kernel
theorem dX8_hold_29 : decode cX8_hold 29 = .ok (.aload_n 0, 1) := by decide +kernel
theorem dX8_hold_30 : decode cX8_hold 30 = .ok (.getfield 290, 3) := by decide +kernel
theorem dX8_hold_33 : decode cX8_hold 33 = .ok (.putfield 300, 3) := by decide +kernel
theorem dX8_hold_36 : decode cX8_hold 36 = .ok (.aload_n 0, 1) := by decide +kernel
theorem dX8_hold_37 : decode cX8_hold 37 = .ok (.getfield 300, 3) := by decide +kernel
theorem dX8_hold_40 : decode cX8_hold 40 = .ok (.ireturn, 1) := by decide +kernel
theorem dX8_in_0 : decode cX8_in 0 = .ok (.iload_n 0, 1) := by decide +kernel
theorem dX8_in_1 : decode cX8_in 1 = .ok (.iload_n 1, 1) := by decide +kernel
theorem dX8_in_2 : decode cX8_in 2 = .ok (.if_icmp .lt 12, 3) := by decide +kernel
theorem dX8_in_5 : decode cX8_in 5 = .ok (.iload_n 0, 1) := by decide +kernel
theorem dX8_in_6 : decode cX8_in 6 = .ok (.iload_n 2, 1) := by decide +kernel
theorem dX8_in_7 : decode cX8_in 7 = .ok (.if_icmp .gt 7, 3) := by decide +kernel
theorem dX8_in_10 : decode cX8_in 10 = .ok (.iconst 1, 1) := by decide +kernel
theorem dX8_in_11 : decode cX8_in 11 = .ok (.goto 4, 3) := by decide +kernel
theorem dX8_in_14 : decode cX8_in 14 = .ok (.iconst 0, 1) := by decide +kernel
theorem dX8_in_15 : decode cX8_in 15 = .ok (.ireturn, 1) := by decide +kernel
theorem dX8_init_0 : decode cX8_init 0 = .ok (.aload_n 0, 1) := by decide +kernel
theorem dX8_init_1 : decode cX8_init 1 = .ok (.invokespecial 1, 3) := by decide +kernel
theorem dX8_init_4 : decode cX8_init 4 = .ok (.aload_n 0, 1) := by decide +kernel
theorem dX8_init_5 : decode cX8_init 5 = .ok (.bipush 64, 2) := by decide +kernel
theorem dX8_init_7 : decode cX8_init 7 = .ok (.newarray .int, 2) := by decide +kernel
theorem dX8_init_9 : decode cX8_init 9 = .ok (.dup, 1) := by decide +kernel
theorem dX8_init_10 : decode cX8_init 10 = .ok (.iconst 0, 1) := by decide +kernel
theorem dX8_init_11 : decode cX8_init 11 = .ok (.ldc 7, 2) := by decide +kernel
theorem dX8_init_13 : decode cX8_init 13 = .ok (.iastore, 1) := by decide +kernel
theorem dX8_init_14 : decode cX8_init 14 = .ok (.dup, 1) := by decide +kernel
theorem dX8_init_15 : decode cX8_init 15 = .ok (.iconst 1, 1) := by decide +kernel
theorem dX8_init_16 : decode cX8_init 16 = .ok (.ldc 8, 2) := by decide +kernel
theorem dX8_init_18 : decode cX8_init 18 = .ok (.iastore, 1) := by decide +kernel
theorem dX8_init_19 : decode cX8_init 19 = .ok (.dup, 1) := by decide +kernel
theorem dX8_init_20 : decode cX8_init 20 = .ok (.iconst 2, 1) := by decide +kernel
theorem dX8_init_21 : decode cX8_init 21 = .ok (.ldc 9, 2) := by decide +kernel
theorem dX8_init_23 : decode cX8_init 23 = .ok (.iastore, 1) := by decide +kernel
theorem dX8_init_24 : decode cX8_init 24 = .ok (.dup, 1) := by decide +kernel
theorem dX8_init_25 : decode cX8_init 25 = .ok (.iconst 3, 1) := by decide +kernel
theorem dX8_init_26 : decode cX8_init 26 = .ok (.ldc 10, 2) := by decide +kernel
theorem dX8_init_28 : decode cX8_init 28 = .ok (.iastore, 1) := by decide +kernel
theorem dX8_init_29 : decode cX8_init 29 = .ok (.dup, 1) := by decide +kernel
theorem dX8_init_30 : decode cX8_init 30 = .ok (.iconst 4, 1) := by decide +kernel
theorem dX8_init_31 : decode cX8_init 31 = .ok (.ldc 11, 2) := by decide +kernel
theorem dX8_init_33 : decode cX8_init 33 = .ok (.iastore, 1) := by decide +kernel
theorem dX8_init_34 : decode cX8_init 34 = .ok (.dup, 1) := by decide +kernel
theorem dX8_init_35 : decode cX8_init 35 = .ok (.iconst 5, 1) := by decide +kernel
theorem dX8_init_36 : decode cX8_init 36 = .ok (.ldc 12, 2) := by decide +kernel
theorem dX8_init_38 : decode cX8_init 38 = .ok (.iastore, 1) := by decide +kernel
theorem dX8_init_39 : decode cX8_init 39 = .ok (.dup, 1) := by decide +kernel
theorem dX8_init_40 : decode cX8_init 40 = .ok (.bipush 6, 2) := by decide +kernel
theorem dX8_init_42 : decode cX8_init 42 = .ok (.ldc 13, 2) := by decide +kernel
theorem dX8_init_44 : decode cX8_init 44 = .ok (.iastore, 1) := by decide +kernel
theorem dX8_init_45 : decode cX8_init 45 = .ok (.dup, 1) := by decide +kernel
theorem dX8_init_46 : decode cX8_init 46 = .ok (.bipush 7, 2) := by decide +kernel
theorem dX8_init_48 : decode cX8_init 48 = .ok (.ldc 14, 2) := by decide +kernel
theorem dX8_init_50 : decode cX8_init 50 = .ok (.iastore, 1) := by decide +kernel
theorem dX8_init_51 : decode cX8_init 51 = .ok (.dup, 1) := by decide +kernel
theorem dX8_init_52 : decode cX8_init 52 = .ok (.bipush 8, 2) := by decide +kernel
theorem dX8_init_54 : decode cX8_init 54 = .ok (.ldc 15, 2) := by decide +kernel
theorem dX8_init_56 : decode cX8_init 56 = .ok (.iastore, 1) := by decide +kernel
theorem dX8_init_57 : decode cX8_init 57 = .ok (.dup, 1) := by decide +kernel
theorem dX8_init_58 : decode cX8_init 58 = .ok (.bipush 9, 2) := by decide +kernel
theorem dX8_init_60 : decode cX8_init 60 = .ok (.ldc 16, 2) := by decide +kernel
theorem dX8_init_62 : decode cX8_init 62 = .ok (.iastore, 1) := by decide +kernel
theorem dX8_init_63 : decode cX8_init 63 = .ok (.dup, 1) := by decide +kernel
theorem dX8_init_64 : decode cX8_init 64 = .ok (.bipush 10, 2) := by decide +kernel
theorem dX8_init_66 : decode cX8_init 66 = .ok (.ldc 17, 2) := by decide +kernel
theorem dX8_init_68 : decode cX8_init 68 = .ok (.iastore, 1) := by decide +kernel
theorem dX8_init_69 : decode cX8_init 69 = .ok (.dup, 1) := by decide +kernel
theorem dX8_init_70 : decode cX8_init 70 = .ok (.bipush 11, 2) := by decide +kernel
theorem dX8_init_72 : decode cX8_init 72 = .ok (.ldc 18, 2) := by decide +kernel
theorem dX8_init_74 : decode cX8_init 74 = .ok (.iastore, 1) := by decide +kernel
theorem dX8_init_75 : decode cX8_init 75 = .ok (.dup, 1) := by decide +kernel
theorem dX8_init_76 : decode cX8_init 76 = .ok (.bipush 12, 2) := by decide +kernel
theorem dX8_init_78 : decode cX8_init 78 = .ok (.ldc 19, 2) := by decide +kernel
theorem dX8_init_80 : decode cX8_init 80 = .ok (.iastore, 1) := by decide +kernel
theorem dX8_init_81 : decode cX8_init 81 = .ok (.dup, 1) := by decide +kernel
theorem dX8_init_82 : decode cX8_init 82 = .ok (.bipush 13, 2) := by decide +kernel
theorem dX8_init_84 : decode cX8_init 84 = .ok (.ldc 20, 2) := by decide +kernel
theorem dX8_init_86 : decode cX8_init 86 = .ok (.iastore, 1) := by decide +kernel
theorem dX8_init_87 : decode cX8_init 87 = .ok (.dup, 1) := by decide +kernel
theorem dX8_init_88 : decode cX8_init 88 = .ok (.bipush 14, 2) := by decide +kernel
theorem dX8_init_90 : decode cX8_init 90 = .ok (.ldc 21, 2) := by decide +kernel
theorem dX8_init_92 : decode cX8_init 92 = .ok (.iastore, 1) := by decide +kernel
theorem dX8_init_93 : decode cX8_init 93 = .ok (.dup, 1) := by decide +kernel
theorem dX8_init_94 : decode cX8_init 94 = .ok (.bipush 15, 2) := by decide +kernel
theorem dX8_init_96 : decode cX8_init 96 = .ok (.ldc 22, 2) := by decide +kernel
theorem dX8_init_98 : decode cX8_init 98 = .ok (.iastore, 1) := by decide +kernel
theorem dX8_init_99 : decode cX8_init 99 = .ok (.dup, 1) := by decide +kernel
theorem dX8_init_100 : decode cX8_init 100 = .ok (.bipush 16, 2) := by decide +kernel
theorem dX8_init_102 : decode cX8_init 102 = .ok (.ldc 23, 2) := by decide +kernel
theorem dX8_init_104 : decode cX8_init 104 = .ok (.iastore, 1) := by decide +kernel
theorem dX8_init_105 : decode cX8_init 105 = .ok (.dup, 1) := by decide +kernel
theorem dX8_init_106 : decode cX8_init 106 = .ok (.bipush 17, 2) := by decide +kernel
theorem dX8_init_108 : decode cX8_init 108 = .ok (.ldc 24, 2) := by decide +kernel
theorem dX8_init_110 : decode cX8_init 110 = .ok (.iastore, 1) := by decide +kernel
theorem dX8_init_111 : decode cX8_init 111 = .ok (.dup, 1) := by decide +kernel
theorem dX8_init_112 : decode cX8_init 112 = .ok (.bipush 18, 2) := by decide +kernel
theorem dX8_init_114 : decode cX8_init 114 = .ok (.ldc 25, 2) := by decide +kernel
theorem dX8_init_116 : decode cX8_init 116 = .ok (.iastore, 1) := by decide +kernel
theorem dX8_init_117 : decode cX8_init 117 = .ok (.dup, 1) := by decide +kernel
theorem dX8_init_118 : decode cX8_init 118 = .ok (.bipush 19, 2) := by decide +kernel
theorem dX8_init_120 : decode cX8_init 120 = .ok (.ldc 26, 2) := by decide +kernel
theorem dX8_init_122 : decode cX8_init 122 = .ok (.iastore, 1) := by decide +kernel
theorem dX8_init_123 : decode cX8_init 123 = .ok (.dup, 1) := by decide +kernel
theorem dX8_init_124 : decode cX8_init 124 = .ok (.bipush 20, 2) := by decide +kernel
theorem dX8_init_126 : decode cX8_init 126 = .ok (.ldc 27, 2) := by decide +kernel
theorem dX8_init_128 : decode cX8_init 128 = .ok (.iastore, 1) := by decide +kernel
theorem dX8_init_129 : decode cX8_init 129 = .ok (.dup, 1) := by decide +kernel
theorem dX8_init_130 : decode cX8_init 130 = .ok (.bipush 21, 2) := by decide +kernel
theorem dX8_init_132 : decode cX8_init 132 = .ok (.ldc 28, 2) := by decide +kernel
theorem dX8_init_134 : decode cX8_init 134 = .ok (.iastore, 1) := by decide +kernel
theorem dX8_init_135 : decode cX8_init 135 = .ok (.dup, 1) := by decide +kernel
theorem dX8_init_136 : decode cX8_init 136 = .ok (.bipush 22, 2) := by decide +kernel
theorem dX8_init_138 : decode cX8_init 138 = .ok (.ldc 29, 2) := by decide +kernel
theorem dX8_init_140 : decode cX8_init 140 = .ok (.iastore, 1) := by decide +kernel
theorem dX8_init_141 : decode cX8_init 141 = .ok (.dup, 1) := by decide +kernel
theorem dX8_init_142 : decode cX8_init 142 = .ok (.bipush 23, 2) := by decide +kernel
theorem dX8_init_144 : decode cX8_init 144 = .ok (.ldc 30, 2) := by decide +kernel
theorem dX8_init_146 : decode cX8_init 146 = .ok (.iastore, 1) := by decide +kernel
theorem dX8_init_147 : decode cX8_init 147 = .ok (.dup, 1) := by decide +kernel
theorem dX8_init_148 : decode cX8_init 148 = .ok (.bipush 24, 2) := by decide +kernel
theorem dX8_init_150 : decode cX8_init 150 = .ok (.ldc 31, 2) := by decide +kernel
theorem dX8_init_152 : decode cX8_init 152 = .ok (.iastore, 1) := by decide +kernel
theorem dX8_init_153 : decode cX8_init 153 = .ok (.dup, 1) := by decide +kernel
theorem dX8_init_154 : decode cX8_init 154 = .ok (.bipush 25, 2) := by decide +kernel
theorem dX8_init_156 : decode cX8_init 156 = .ok (.ldc 32, 2) := by decide +kernel
theorem dX8_init_158 : decode cX8_init 158 = .ok (.iastore, 1) := by decide +kernel
theorem dX8_init_159 : decode cX8_init 159 = .ok (.dup, 1) := by decide +kernel
theorem dX8_init_160 : decode cX8_init 160 = .ok (.bipush 26, 2) := by decide +kernel
theorem dX8_init_162 : decode cX8_init 162 = .ok (.ldc 33, 2) := by decide +kernel
theorem dX8_init_164 : decode cX8_init 164 = .ok (.iastore, 1) := by decide +kernel
theorem dX8_init_165 : decode cX8_init 165 = .ok (.dup, 1) := by decide +kernel
theorem dX8_init_166 : decode cX8_init 166 = .ok (.bipush 27, 2) := by decide +kernel
theorem dX8_init_168 : decode cX8_init 168 = .ok (.ldc 34, 2) := by decide +kernel
theorem dX8_init_170 : decode cX8_init 170 = .ok (.iastore, 1) := by decide +kernel
theorem dX8_init_171 : decode cX8_init 171 = .ok (.dup, 1) := by decide +kernel
theorem dX8_init_172 : decode cX8_init 172 = .ok (.bipush 28, 2) := by decide +kernel
theorem dX8_init_174 : decode cX8_init 174 = .ok (.ldc 35, 2) := by decide +kernel
theorem dX8_init_176 : decode cX8_init 176 = .ok (.iastore, 1) := by decide +kernel
theorem dX8_init_177 : decode cX8_init 177 = .ok (.dup, 1) := by decide +kernel
theorem dX8_init_178 : decode cX8_init 178 = .ok (.bipush 29, 2) := by decide +kernel
theorem dX8_init_180 : decode cX8_init 180 = .ok (.ldc 36, 2) := by decide +kernel
theorem dX8_init_182 : decode cX8_init 182 = .ok (.iastore, 1) := by decide +kernel
theorem dX8_init_183 : decode cX8_init 183 = .ok (.dup, 1) := by decide +kernel
theorem dX8_init_184 : decode cX8_init 184 = .ok (.bipush 30, 2) := by decide +kernel
theorem dX8_init_186 : decode cX8_init 186 = .ok (.ldc 37, 2) := by decide +kernel
theorem dX8_init_188 : decode cX8_init 188 = .ok (.iastore, 1) := by decide +kernel
theorem dX8_init_189 : decode cX8_init 189 = .ok (.dup, 1) := by decide +kernel
theorem dX8_init_190 : decode cX8_init 190 = .ok (.bipush 31, 2) := by decide +kernel
theorem dX8_init_192 : decode cX8_init 192 = .ok (.ldc 38, 2) := by decide +kernel
theorem dX8_init_194 : decode cX8_init 194 = .ok (.iastore, 1) := by decide +kernel
theorem dX8_init_195 : decode cX8_init 195 = .ok (.dup, 1) := by decide +kernel
theorem dX8_init_196 : decode cX8_init 196 = .ok (.bipush 32, 2) := by decide +kernel
theorem dX8_init_198 : decode cX8_init 198 = .ok (.ldc 39, 2) := by decide +kernel
theorem dX8_init_200 : decode cX8_init 200 = .ok (.iastore, 1) := by decide +kernel
theorem dX8_init_201 : decode cX8_init 201 = .ok (.dup, 1) := by decide +kernel
theorem dX8_init_202 : decode cX8_init 202 = .ok (.bipush 33, 2) := by decide +kernel
theorem dX8_init_204 : decode cX8_init 204 = .ok (.ldc 40, 2) := by decide +kernel
theorem dX8_init_206 : decode cX8_init 206 = .ok (.iastore, 1) := by decide +kernel
theorem dX8_init_207 : decode cX8_init 207 = .ok (.dup, 1) := by decide +kernel
theorem dX8_init_208 : decode cX8_init 208 = .ok (.bipush 34, 2) := by decide +kernel
theorem dX8_init_210 : decode cX8_init 210 = .ok (.ldc 41, 2) := by decide +kernel
theorem dX8_init_212 : decode cX8_init 212 = .ok (.iastore, 1) := by decide +kernel
theorem dX8_init_213 : decode cX8_init 213 = .ok (.dup, 1) := by decide +kernel
theorem dX8_init_214 : decode cX8_init 214 = .ok (.bipush 35, 2) := by decide +kernel
theorem dX8_init_216 : decode cX8_init 216 = .ok (.ldc 42, 2) := by decide +kernel
theorem dX8_init_218 : decode cX8_init 218 = .ok (.iastore, 1) := by decide +kernel
theorem dX8_init_219 : decode cX8_init 219 = .ok (.dup, 1) := by decide +kernel
theorem dX8_init_220 : decode cX8_init 220 = .ok (.bipush 36, 2) := by decide +kernel
theorem dX8_init_222 : decode cX8_init 222 = .ok (.ldc 43, 2) := by decide +kernel
theorem dX8_init_224 : decode cX8_init 224 = .ok (.iastore, 1) := by decide +kernel
theorem dX8_init_225 : decode cX8_init 225 = .ok (.dup, 1) := by decide +kernel
theorem dX8_init_226 : decode cX8_init 226 = .ok (.bipush 37, 2) := by decide +kernel
theorem dX8_init_228 : decode cX8_init 228 = .ok (.ldc 44, 2) := by decide +kernel
theorem dX8_init_230 : decode cX8_init 230 = .ok (.iastore, 1) := by decide +kernel
theorem dX8_init_231 : decode cX8_init 231 = .ok (.dup, 1) := by decide +kernel
theorem dX8_init_232 : decode cX8_init 232 = .ok (.bipush 38, 2) := by decide +kernel
theorem dX8_init_234 : decode cX8_init 234 = .ok (.ldc 45, 2) := by decide +kernel
theorem dX8_init_236 : decode cX8_init 236 = .ok (.iastore, 1) := by decide +kernel
theorem dX8_init_237 : decode cX8_init 237 = .ok (.dup, 1) := by decide +kernel
theorem dX8_init_238 : decode cX8_init 238 = .ok (.bipush 39, 2) := by decide +kernel
theorem dX8_init_240 : decode cX8_init 240 = .ok (.ldc 46, 2) := by decide +kernel
theorem dX8_init_242 : decode cX8_init 242 = .ok (.iastore, 1) := by decide +kernel
theorem dX8_init_243 : decode cX8_init 243 = .ok (.dup, 1) := by decide +kernel
theorem dX8_init_244 : decode cX8_init 244 = .ok (.bipush 40, 2) := by decide +kernel
theorem dX8_init_246 : decode cX8_init 246 = .ok (.ldc 47, 2) := by decide +kernel
theorem dX8_init_248 : decode cX8_init 248 = .ok (.iastore, 1) := by decide +kernel
theorem dX8_init_249 : decode cX8_init 249 = .ok (.dup, 1) := by decide +kernel
theorem dX8_init_250 : decode cX8_init 250 = .ok (.bipush 41, 2) := by decide +kernel
theorem dX8_init_252 : decode cX8_init 252 = .ok (.ldc 48, 2) := by decide +kernel
theorem dX8_init_254 : decode cX8_init 254 = .ok (.iastore, 1) := by decide +kernel
theorem dX8_init_255 : decode cX8_init 255 = .ok (.dup, 1) := by decide +kernel
theorem dX8_init_256 : decode cX8_init 256 = .ok (.bipush 42, 2) := by decide +kernel
theorem dX8_init_258 : decode cX8_init 258 = .ok (.ldc 49, 2) := by decide +kernel
theorem dX8_init_260 : decode cX8_init 260 = .ok (.iastore, 1) := by decide +kernel
theorem dX8_init_261 : decode cX8_init 261 = .ok (.dup, 1) := by decide +kernel
theorem dX8_init_262 : decode cX8_init 262 = .ok (.bipush 43, 2) := by decide +kernel
theorem dX8_init_264 : decode cX8_init 264 = .ok (.ldc 50, 2) := by decide +kernel
theorem dX8_init_266 : decode cX8_init 266 = .ok (.iastore, 1) := by decide +kernel
theorem dX8_init_267 : decode cX8_init 267 = .ok (.dup, 1) := by decide +kernel
theorem dX8_init_268 : decode cX8_init 268 = .ok (.bipush 44, 2) := by decide +kernel
theorem dX8_init_270 : decode cX8_init 270 = .ok (.ldc 51, 2) := by decide +kernel
theorem dX8_init_272 : decode cX8_init 272 = .ok (.iastore, 1) := by decide +kernel
theorem dX8_init_273 : decode cX8_init 273 = .ok (.dup, 1) := by decide +kernel
theorem dX8_init_274 : decode cX8_init 274 = .ok (.bipush 45, 2) := by decide +kernel
theorem dX8_init_276 : decode cX8_init 276 = .ok (.ldc 52, 2) := by decide +kernel
theorem dX8_init_278 : decode cX8_init 278 = .ok (.iastore, 1) := by decide +kernel
theorem dX8_init_279 : decode cX8_init 279 = .ok (.dup, 1) := by decide +kernel
theorem dX8_init_280 : decode cX8_init 280 = .ok (.bipush 46, 2) := by decide +kernel
theorem dX8_init_282 : decode cX8_init 282 = .ok (.ldc 53, 2) := by decide +kernel
theorem dX8_init_284 : decode cX8_init 284 = .ok (.iastore, 1) := by decide +kernel
theorem dX8_init_285 : decode cX8_init 285 = .ok (.dup, 1) := by decide +kernel
theorem dX8_init_286 : decode cX8_init 286 = .ok (.bipush 47, 2) := by decide +kernel
theorem dX8_init_288 : decode cX8_init 288 = .ok (.ldc 54, 2) := by decide +kernel
theorem dX8_init_290 : decode cX8_init 290 = .ok (.iastore, 1) := by decide +kernel
theorem dX8_init_291 : decode cX8_init 291 = .ok (.dup, 1) := by decide +kernel
theorem dX8_init_292 : decode cX8_init 292 = .ok (.bipush 48, 2) := by decide +kernel
theorem dX8_init_294 : decode cX8_init 294 = .ok (.ldc 55, 2) := by decide +kernel
theorem dX8_init_296 : decode cX8_init 296 = .ok (.iastore, 1) := by decide +kernel
theorem dX8_init_297 : decode cX8_init 297 = .ok (.dup, 1) := by decide +kernel
theorem dX8_init_298 : decode cX8_init 298 = .ok (.bipush 49, 2) := by decide +kernel
theorem dX8_init_300 : decode cX8_init 300 = .ok (.ldc 56, 2) := by decide +kernel
theorem dX8_init_302 : decode cX8_init 302 = .ok (.iastore, 1) := by decide +kernel
theorem dX8_init_303 : decode cX8_init 303 = .ok (.dup, 1) := by decide +kernel
theorem dX8_init_304 : decode cX8_init 304 = .ok (.bipush 50, 2) := by decide +kernel
theorem dX8_init_306 : decode cX8_init 306 = .ok (.ldc 57, 2) := by decide +kernel
theorem dX8_init_308 : decode cX8_init 308 = .ok (.iastore, 1) := by decide +kernel
theorem dX8_init_309 : decode cX8_init 309 = .ok (.dup, 1) := by decide +kernel
theorem dX8_init_310 : decode cX8_init 310 = .ok (.bipush 51, 2) := by decide +kernel
theorem dX8_init_312 : decode cX8_init 312 = .ok (.ldc 58, 2) := by decide +kernel
theorem dX8_init_314 : decode cX8_init 314 = .ok (.iastore, 1) := by decide +kernel
theorem dX8_init_315 : decode cX8_init 315 = .ok (.dup, 1) := by decide +kernel
theorem dX8_init_316 : decode cX8_init 316 = .ok (.bipush 52, 2) := by decide +kernel
theorem dX8_init_318 : decode cX8_init 318 = .ok (.ldc 59, 2) := by decide +kernel
theorem dX8_init_320 : decode cX8_init 320 = .ok (.iastore, 1) := by decide +kernel
theorem dX8_init_321 : decode cX8_init 321 = .ok (.dup, 1) := by decide +kernel
theorem dX8_init_322 : decode cX8_init 322 = .ok (.bipush 53, 2) := by decide +kernel
theorem dX8_init_324 : decode cX8_init 324 = .ok (.ldc 60, 2) := by decide +kernel
theorem dX8_init_326 : decode cX8_init 326 = .ok (.iastore, 1) := by decide +kernel
theorem dX8_init_327 : decode cX8_init 327 = .ok (.dup, 1) := by decide +kernel
theorem dX8_init_328 : decode cX8_init 328 = .ok (.bipush 54, 2) := by decide +kernel
theorem dX8_init_330 : decode cX8_init 330 = .ok (.ldc 61, 2) := by decide +kernel
theorem dX8_init_332 : decode cX8_init 332 = .ok (.iastore, 1) := by decide +kernel
theorem dX8_init_333 : decode cX8_init 333 = .ok (.dup, 1) := by decide +kernel
theorem dX8_init_334 : decode cX8_init 334 = .ok (.bipush 55, 2) := by decide +kernel
theorem dX8_init_336 : decode cX8_init 336 = .ok (.ldc 62, 2) := by decide +kernel
theorem dX8_init_338 : decode cX8_init 338 = .ok (.iastore, 1) := by decide +kernel
theorem dX8_init_339 : decode cX8_init 339 = .ok (.dup, 1) := by decide +kernel
theorem dX8_init_340 : decode cX8_init 340 = .ok (.bipush 56, 2) := by decide +kernel
theorem dX8_init_342 : decode cX8_init 342 = .ok (.ldc 63, 2) := by decide +kernel
theorem dX8_init_344 : decode cX8_init 344 = .ok (.iastore, 1) := by decide +kernel
theorem dX8_init_345 : decode cX8_init 345 = .ok (.dup, 1) := by decide +kernel
theorem dX8_init_346 : decode cX8_init 346 = .ok (.bipush 57, 2) := by decide +kernel
theorem dX8_init_348 : decode cX8_init 348 = .ok (.ldc 64, 2) := by decide +kernel
theorem dX8_init_350 : decode cX8_init 350 = .ok (.iastore, 1) := by decide +kernel
theorem dX8_init_351 : decode cX8_init 351 = .ok (.dup, 1) := by decide +kernel
theorem dX8_init_352 : decode cX8_init 352 = .ok (.bipush 58, 2) := by decide +kernel
theorem dX8_init_354 : decode cX8_init 354 = .ok (.ldc 65, 2) := by decide +kernel
theorem dX8_init_356 : decode cX8_init 356 = .ok (.iastore, 1) := by decide +kernel
theorem dX8_init_357 : decode cX8_init 357 = .ok (.dup, 1) := by decide +kernel
theorem dX8_init_358 : decode cX8_init 358 = .ok (.bipush 59, 2) := by decide +kernel
theorem dX8_init_360 : decode cX8_init 360 = .ok (.ldc 66, 2) := by decide +kernel
theorem dX8_init_362 : decode cX8_init 362 = .ok (.iastore, 1) := by decide +kernel
theorem dX8_init_363 : decode cX8_init 363 = .ok (.dup, 1) := by decide +kernel
theorem dX8_init_364 : decode cX8_init 364 = .ok (.bipush 60, 2) := by decide +kernel
theorem dX8_init_366 : decode cX8_init 366 = .ok (.ldc 67, 2) := by decide +kernel
theorem dX8_init_368 : decode cX8_init 368 = .ok (.iastore, 1) := by decide +kernel
theorem dX8_init_369 : decode cX8_init 369 = .ok (.dup, 1) := by decide +kernel
theorem dX8_init_370 : decode cX8_init 370 = .ok (.bipush 61, 2) := by decide +kernel
theorem dX8_init_372 : decode cX8_init 372 = .ok (.ldc 68, 2) := by decide +kernel
theorem dX8_init_374 : decode cX8_init 374 = .ok (.iastore, 1) := by decide +kernel
theorem dX8_init_375 : decode cX8_init 375 = .ok (.dup, 1) := by decide +kernel
theorem dX8_init_376 : decode cX8_init 376 = .ok (.bipush 62, 2) := by decide +kernel
theorem dX8_init_378 : decode cX8_init 378 = .ok (.ldc 69, 2) := by decide +kernel
theorem dX8_init_380 : decode cX8_init 380 = .ok (.iastore, 1) := by decide +kernel
theorem dX8_init_381 : decode cX8_init 381 = .ok (.dup, 1) := by decide +kernel
theorem dX8_init_382 : decode cX8_init 382 = .ok (.bipush 63, 2) := by decide +kernel
theorem dX8_init_384 : decode cX8_init 384 = .ok (.ldc 70, 2) := by decide +kernel
theorem dX8_init_386 : decode cX8_init 386 = .ok (.iastore, 1) := by decide +kernel
theorem dX8_init_387 : decode cX8_init 387 = .ok (.putfield 71, 3) := by decide +kernel
theorem dX8_init_390 : decode cX8_init 390 = .ok (.aload_n 0, 1) := by decide +kernel
theorem dX8_init_391 : decode cX8_init 391 = .ok (.bipush 8, 2) := by decide +kernel
theorem dX8_init_393 : decode cX8_init 393 = .ok (.newarray .int, 2) := by decide +kernel
theorem dX8_init_395 : decode cX8_init 395 = .ok (.dup, 1) := by decide +kernel
theorem dX8_init_396 : decode cX8_init 396 = .ok (.iconst 0, 1) := by decide +kernel
theorem dX8_init_397 : decode cX8_init 397 = .ok (.ldc 77, 2) := by decide +kernel
theorem dX8_init_399 : decode cX8_init 399 = .ok (.iastore, 1) := by decide +kernel
theorem dX8_init_400 : decode cX8_init 400 = .ok (.dup, 1) := by decide +kernel
theorem dX8_init_401 : decode cX8_init 401 = .ok (.iconst 1, 1) := by decide +kernel
theorem dX8_init_402 : decode cX8_init 402 = .ok (.ldc 78, 2) := by decide +kernel
theorem dX8_init_404 : decode cX8_init 404 = .ok (.iastore, 1) := by decide +kernel
theorem dX8_init_405 : decode cX8_init 405 = .ok (.dup, 1) := by decide +kernel
theorem dX8_init_406 : decode cX8_init 406 = .ok (.iconst 2, 1) := by decide +kernel
theorem dX8_init_407 : decode cX8_init 407 = .ok (.ldc 79, 2) := by decide +kernel
theorem dX8_init_409 : decode cX8_init 409 = .ok (.iastore, 1) := by decide +kernel
theorem dX8_init_410 : decode cX8_init 410 = .ok (.dup, 1) := by decide +kernel
theorem dX8_init_411 : decode cX8_init 411 = .ok (.iconst 3, 1) := by decide +kernel
theorem dX8_init_412 : decode cX8_init 412 = .ok (.ldc 80, 2) := by decide +kernel
theorem dX8_init_414 : decode cX8_init 414 = .ok (.iastore, 1) := by decide +kernel
theorem dX8_init_415 : decode cX8_init 415 = .ok (.dup, 1) := by decide +kernel
theorem dX8_init_416 : decode cX8_init 416 = .ok (.iconst 4, 1) := by decide +kernel
theorem dX8_init_417 : decode cX8_init 417 = .ok (.ldc 81, 2) := by decide +kernel
theorem dX8_init_419 : decode cX8_init 419 = .ok (.iastore, 1) := by decide +kernel
theorem dX8_init_420 : decode cX8_init 420 = .ok (.dup, 1) := by decide +kernel
theorem dX8_init_421 : decode cX8_init 421 = .ok (.iconst 5, 1) := by decide +kernel
theorem dX8_init_422 : decode cX8_init 422 = .ok (.ldc 82, 2) := by decide +kernel
theorem dX8_init_424 : decode cX8_init 424 = .ok (.iastore, 1) := by decide +kernel
theorem dX8_init_425 : decode cX8_init 425 = .ok (.dup, 1) := by decide +kernel
theorem dX8_init_426 : decode cX8_init 426 = .ok (.bipush 6, 2) := by decide +kernel
theorem dX8_init_428 : decode cX8_init 428 = .ok (.ldc 83, 2) := by decide +kernel
theorem dX8_init_430 : decode cX8_init 430 = .ok (.iastore, 1) := by decide +kernel
theorem dX8_init_431 : decode cX8_init 431 = .ok (.dup, 1) := by decide +kernel
theorem dX8_init_432 : decode cX8_init 432 = .ok (.bipush 7, 2) := by decide +kernel
theorem dX8_init_434 : decode cX8_init 434 = .ok (.ldc 84, 2) := by decide +kernel
theorem dX8_init_436 : decode cX8_init 436 = .ok (.iastore, 1) := by decide +kernel
theorem dX8_init_437 : decode cX8_init 437 = .ok (.putfield 85, 3) := by decide +kernel
theorem dX8_init_440 : decode cX8_init 440 = .ok (.aload_n 0, 1) := by decide +kernel
theorem dX8_init_441 : decode cX8_init 441 = .ok (.bipush 64, 2) := by decide +kernel
theorem dX8_init_443 : decode cX8_init 443 = .ok (.newarray .int, 2) := by decide +kernel
theorem dX8_init_445 : decode cX8_init 445 = .ok (.putfield 88, 3) := by decide +kernel
theorem dX8_init_448 : decode cX8_init 448 = .ok (.aload_n 0, 1) := by decide +kernel
theorem dX8_init_449 : decode cX8_init 449 = .ok (.bipush 8, 2) := by decide +kernel
theorem dX8_init_451 : decode cX8_init 451 = .ok (.newarray .int, 2) := by decide +kernel
theorem dX8_init_453 : decode cX8_init 453 = .ok (.putfield 91, 3) := by decide +kernel
theorem dX8_init_456 : decode cX8_init 456 = .ok (.aload_n 0, 1) := by decide +kernel
theorem dX8_init_457 : decode cX8_init 457 = .ok (.bipush 8, 2) := by decide +kernel
theorem dX8_init_459 : decode cX8_init 459 = .ok (.newarray .int, 2) := by decide +kernel
theorem dX8_init_461 : decode cX8_init 461 = .ok (.putfield 94, 3) := by decide +kernel
theorem dX8_init_464 : decode cX8_init 464 = .ok (.aload_n 0, 1) := by decide +kernel
theorem dX8_init_465 : decode cX8_init 465 = .ok (.sipush 512, 3) := by decide +kernel
theorem dX8_init_468 : decode cX8_init 468 = .ok (.newarray .byte, 2) := by decide +kernel
theorem dX8_init_470 : decode cX8_init 470 = .ok (.putfield 97, 3) := by decide +kernel
theorem dX8_init_473 : decode cX8_init 473 = .ok (.aload_n 0, 1) := by decide +kernel
theorem dX8_init_474 : decode cX8_init 474 = .ok (.bipush 32, 2) := by decide +kernel
theorem dX8_init_476 : decode cX8_init 476 = .ok (.newarray .byte, 2) := by decide +kernel
theorem dX8_init_478 : decode cX8_init 478 = .ok (.putfield 101, 3) := by decide +kernel
theorem dX8_init_481 : decode cX8_init 481 = .ok (.aload_n 0, 1) := by decide +kernel
theorem dX8_init_482 : decode cX8_init 482 = .ok (.bipush 32, 2) := by decide +kernel
theorem dX8_init_484 : decode cX8_init 484 = .ok (.newarray .byte, 2) := by decide +kernel
theorem dX8_init_486 : decode cX8_init 486 = .ok (.putfield 104, 3) := by decide +kernel
theorem dX8_init_489 : decode cX8_init 489 = .ok (.aload_n 0, 1) := by decide +kernel
theorem dX8_init_490 : decode cX8_init 490 = .ok (.bipush 32, 2) := by decide +kernel
theorem dX8_init_492 : decode cX8_init 492 = .ok (.newarray .byte, 2) := by decide +kernel
theorem dX8_init_494 : decode cX8_init 494 = .ok (.putfield 107, 3) := by decide +kernel
theorem dX8_init_497 : decode cX8_init 497 = .ok (.aload_n 0, 1) := by decide +kernel
theorem dX8_init_498 : decode cX8_init 498 = .ok (.bipush 32, 2) := by decide +kernel
theorem dX8_init_500 : decode cX8_init 500 = .ok (.newarray .byte, 2) := by decide +kernel
theorem dX8_init_502 : decode cX8_init 502 = .ok (.putfield 110, 3) := by decide +kernel
theorem dX8_init_505 : decode cX8_init 505 = .ok (.aload_n 0, 1) := by decide +kernel
theorem dX8_init_506 : decode cX8_init 506 = .ok (.bipush 32, 2) := by decide +kernel
theorem dX8_init_508 : decode cX8_init 508 = .ok (.newarray .byte, 2) := by decide +kernel
theorem dX8_init_510 : decode cX8_init 510 = .ok (.putfield 113, 3) := by decide +kernel
theorem dX8_init_513 : decode cX8_init 513 = .ok (.aload_n 0, 1) := by decide +kernel
theorem dX8_init_514 : decode cX8_init 514 = .ok (.bipush 64, 2) := by decide +kernel
theorem dX8_init_516 : decode cX8_init 516 = .ok (.newarray .byte, 2) := by decide +kernel
theorem dX8_init_518 : decode cX8_init 518 = .ok (.putfield 116, 3) := by decide +kernel
theorem dX8_init_521 : decode cX8_init 521 = .ok (.aload_n 0, 1) := by decide +kernel
theorem dX8_init_522 : decode cX8_init 522 = .ok (.bipush 32, 2) := by decide +kernel
theorem dX8_init_524 : decode cX8_init 524 = .ok (.newarray .byte, 2) := by decide +kernel
theorem dX8_init_526 : decode cX8_init 526 = .ok (.putfield 119, 3) := by decide +kernel
theorem dX8_init_529 : decode cX8_init 529 = .ok (.aload_n 0, 1) := by decide +kernel
theorem dX8_init_530 : decode cX8_init 530 = .ok (.bipush 32, 2) := by decide +kernel
theorem dX8_init_532 : decode cX8_init 532 = .ok (.newarray .byte, 2) := by decide +kernel
theorem dX8_init_534 : decode cX8_init 534 = .ok (.putfield 122, 3) := by decide +kernel
theorem dX8_init_537 : decode cX8_init 537 = .ok (.aload_n 0, 1) := by decide +kernel
theorem dX8_init_538 : decode cX8_init 538 = .ok (.bipush 32, 2) := by decide +kernel
theorem dX8_init_540 : decode cX8_init 540 = .ok (.newarray .byte, 2) := by decide +kernel
theorem dX8_init_542 : decode cX8_init 542 = .ok (.putfield 125, 3) := by decide +kernel
theorem dX8_init_545 : decode cX8_init 545 = .ok (.aload_n 0, 1) := by decide +kernel
theorem dX8_init_546 : decode cX8_init 546 = .ok (.sipush 2144, 3) := by decide +kernel
theorem dX8_init_549 : decode cX8_init 549 = .ok (.newarray .byte, 2) := by decide +kernel
theorem dX8_init_551 : decode cX8_init 551 = .ok (.putfield 128, 3) := by decide +kernel
theorem dX8_init_554 : decode cX8_init 554 = .ok (.aload_n 0, 1) := by decide +kernel
theorem dX8_init_555 : decode cX8_init 555 = .ok (.bipush 67, 2) := by decide +kernel
theorem dX8_init_557 : decode cX8_init 557 = .ok (.newarray .int, 2) := by decide +kernel
theorem dX8_init_559 : decode cX8_init 559 = .ok (.putfield 131, 3) := by decide +kernel
theorem dX8_init_562 : decode cX8_init 562 = .ok (.aload_n 0, 1) := by decide +kernel
theorem dX8_init_563 : decode cX8_init 563 = .ok (.sipush 992, 3) := by decide +kernel
theorem dX8_init_566 : decode cX8_init 566 = .ok (.newarray .byte, 2) := by decide +kernel
theorem dX8_init_568 : decode cX8_init 568 = .ok (.putfield 134, 3) := by decide +kernel
theorem dX8_init_571 : decode cX8_init 571 = .ok (.aload_n 0, 1) := by decide +kernel
theorem dX8_init_572 : decode cX8_init 572 = .ok (.sipush 200, 3) := by decide +kernel
theorem dX8_init_575 : decode cX8_init 575 = .ok (.newarray .byte, 2) := by decide +kernel
theorem dX8_init_577 : decode cX8_init 577 = .ok (.putfield 137, 3) := by decide +kernel
theorem dX8_init_580 : decode cX8_init 580 = .ok (.aload_n 0, 1) := by decide +kernel
theorem dX8_init_581 : decode cX8_init 581 = .ok (.bipush 24, 2) := by decide +kernel
theorem dX8_init_583 : decode cX8_init 583 = .ok (.newarray .byte, 2) := by decide +kernel
theorem dX8_init_585 : decode cX8_init 585 = .ok (.putfield 140, 3) := by decide +kernel
theorem dX8_init_588 : decode cX8_init 588 = .ok (.aload_n 0, 1) := by decide +kernel
theorem dX8_init_589 : decode cX8_init 589 = .ok (.sipush 2308, 3) := by decide +kernel
theorem dX8_init_592 : decode cX8_init 592 = .ok (.newarray .byte, 2) := by decide +kernel
theorem dX8_init_594 : decode cX8_init 594 = .ok (.putfield 143, 3) := by decide +kernel
theorem dX8_init_597 : decode cX8_init 597 = .ok (.aload_n 0, 1) := by decide +kernel
theorem dX8_init_598 : decode cX8_init 598 = .ok (.sipush 2308, 3) := by decide +kernel
theorem dX8_init_601 : decode cX8_init 601 = .ok (.newarray .byte, 2) := by decide +kernel
theorem dX8_init_603 : decode cX8_init 603 = .ok (.putfield 146, 3) := by decide +kernel
theorem dX8_init_606 : decode cX8_init 606 = .ok (.aload_n 0, 1) := by decide +kernel
theorem dX8_init_607 : decode cX8_init 607 = .ok (.sipush 2308, 3) := by decide +kernel
theorem dX8_init_610 : decode cX8_init 610 = .ok (.newarray .byte, 2) := by decide +kernel
theorem dX8_init_612 : decode cX8_init 612 = .ok (.putfield 149, 3) := by decide +kernel
theorem dX8_init_615 : decode cX8_init 615 = .ok (.aload_n 0, 1) := by decide +kernel
theorem dX8_init_616 : decode cX8_init 616 = .ok (.iconst (-1), 1) := by decide +kernel
theorem dX8_init_617 : decode cX8_init 617 = .ok (.putfield 152, 3) := by decide +kernel
theorem dX8_init_620 : decode cX8_init 620 = .ok (.aload_n 0, 1) := by decide +kernel
theorem dX8_init_621 : decode cX8_init 621 = .ok (.bipush 16, 2) := by decide +kernel
theorem dX8_init_623 : decode cX8_init 623 = .ok (.newarray .boolean, 2) := by decide +kernel
theorem dX8_init_625 : decode cX8_init 625 = .ok (.putfield 156, 3) := by decide +kernel
theorem dX8_init_628 : decode cX8_init 628 = .ok (.aload_n 0, 1) := by decide +kernel
theorem dX8_init_629 : decode cX8_init 629 = .ok (.bipush 16, 2) := by decide +kernel
theorem dX8_init_631 : decode cX8_init 631 = .ok (.newarray .boolean, 2) := by decide +kernel
theorem dX8_init_633 : decode cX8_init 633 = .ok (.putfield 160, 3) := by decide +kernel
theorem dX8_init_636 : decode cX8_init 636 = .ok (.aload_n 0, 1) := by decide +kernel
theorem dX8_init_637 : decode cX8_init 637 = .ok (.bipush 32, 2) := by decide +kernel
theorem dX8_init_639 : decode cX8_init 639 = .ok (.newarray .byte, 2) := by decide +kernel
theorem dX8_init_641 : decode cX8_init 641 = .ok (.putfield 163, 3) := by decide +kernel
theorem dX8_init_644 : decode cX8_init 644 = .ok (.aload_n 0, 1) := by decide +kernel
theorem dX8_init_645 : decode cX8_init 645 = .ok (.iload_n 1, 1) := by decide +kernel
theorem dX8_init_646 : decode cX8_init 646 = .ok (.iconst 1, 1) := by decide +kernel
theorem dX8_init_647 : decode cX8_init 647 = .ok (.iconst 4, 1) := by decide +kernel
theorem dX8_init_648 : decode cX8_init 648 = .ok (.invokestatic 166, 3) := by decide +kernel
theorem dX8_init_651 : decode cX8_init 651 = .ok (.putfield 170, 3) := by decide +kernel
theorem dX8_init_654 : decode cX8_init 654 = .ok (.aload_n 0, 1) := by decide +kernel
theorem dX8_init_655 : decode cX8_init 655 = .ok (.iload_n 2, 1) := by decide +kernel
theorem dX8_init_656 : decode cX8_init 656 = .ok (.iconst 1, 1) := by decide +kernel
theorem dX8_init_657 : decode cX8_init 657 = .ok (.bipush 8, 2) := by decide +kernel
theorem dX8_init_659 : decode cX8_init 659 = .ok (.invokestatic 166, 3) := by decide +kernel
theorem dX8_init_662 : decode cX8_init 662 = .ok (.putfield 173, 3) := by decide +kernel
theorem dX8_init_665 : decode cX8_init 665 = .ok (.aload_n 0, 1) := by decide +kernel
theorem dX8_init_666 : decode cX8_init 666 = .ok (.iconst 1, 1) := by decide +kernel
theorem dX8_init_667 : decode cX8_init 667 = .ok (.aload_n 0, 1) := by decide +kernel
theorem dX8_init_668 : decode cX8_init 668 = .ok (.getfield 170, 3) := by decide +kernel
theorem dX8_init_671 : decode cX8_init 671 = .ok (.ishl, 1) := by decide +kernel
theorem dX8_init_672 : decode cX8_init 672 = .ok (.putfield 176, 3) := by decide +kernel
theorem dX8_init_675 : decode cX8_init 675 = .ok (.return_, 1) := by decide +kernel
theorem dX8_keys_0 : decode cX8_keys 0 = .ok (.aload_n 0, 1) := by decide +kernel
theorem dX8_keys_1 : decode cX8_keys 1 = .ok (.getfield 244, 3) := by decide +kernel
theorem dX8_keys_4 : decode cX8_keys 4 = .ok (.bipush 96, 2) := by decide +kernel
theorem dX8_keys_6 : decode cX8_keys 6 = .ok (.if_icmp .ge 5, 3) := by decide +kernel
theorem dX8_keys_9 : decode cX8_keys 9 = .ok (.iconst 0, 1) := by decide +kernel
theorem dX8_keys_10 : decode cX8_keys 10 = .ok (.ireturn, 1) := by decide +kernel
theorem dX8_leaf_0 : decode cX8_leaf 0 = .ok (.aload_n 0, 1) := by decide +kernel
theorem dX8_leaf_1 : decode cX8_leaf 1 = .ok (.getfield 250, 3) := by decide +kernel
theorem dX8_leaf_4 : decode cX8_leaf 4 = .ok (.ifCond .eq 17, 3) := by decide +kernel
theorem dX8_leaf_21 : decode cX8_leaf 21 = .ok (.iconst (-1), 1) := by decide +kernel
theorem dX8_leaf_22 : decode cX8_leaf 22 = .ok (.ireturn, 1) := by decide +kernel
theorem dX8_node_0 : decode cX8_node 0 = .ok (.aload_n 0, 1) := by decide +kernel
theorem dX8_node_1 : decode cX8_node 1 = .ok (.getfield 250, 3) := by decide +kernel
theorem dX8_node_4 : decode cX8_node 4 = .ok (.ifCond .eq 61, 3) := by decide +kernel
theorem dX8_node_65 : decode cX8_node 65 = .ok (.iconst (-1), 1) := by decide +kernel
theorem dX8_node_66 : decode cX8_node 66 = .ok (.ireturn, 1) := by decide +kernel
theorem dX8_out_0 : decode cX8_out 0 = .ok (.iload_n 1, 1) := by decide +kernel
theorem dX8_out_1 : decode cX8_out 1 = .ok (.iconst 0, 1) := by decide +kernel
theorem dX8_out_2 : decode cX8_out 2 = .ok (.aload_n 0, 1) := by decide +kernel
theorem dX8_out_3 : decode cX8_out 3 = .ok (.getfield 290, 3) := by decide +kernel
theorem dX8_out_6 : decode cX8_out 6 = .ok (.iconst 1, 1) := by decide +kernel
theorem dX8_out_7 : decode cX8_out 7 = .ok (.isub, 1) := by decide +kernel
theorem dX8_out_8 : decode cX8_out 8 = .ok (.invokestatic 279, 3) := by decide +kernel
theorem dX8_out_11 : decode cX8_out 11 = .ok (.ifCond .eq 16, 3) := by decide +kernel
theorem dX8_out_27 : decode cX8_out 27 = .ok (.iconst (-1), 1) := by decide +kernel
theorem dX8_out_28 : decode cX8_out 28 = .ok (.ireturn, 1) := by decide +kernel
theorem dX8_rise_0 : decode cX8_rise 0 = .ok (.aload_n 0, 1) := by decide +kernel
theorem dX8_rise_1 : decode cX8_rise 1 = .ok (.getfield 257, 3) := by decide +kernel
theorem dX8_rise_4 : decode cX8_rise 4 = .ok (.iconst 2, 1) := by decide +kernel
theorem dX8_rise_5 : decode cX8_rise 5 = .ok (.if_icmp .eq 5, 3) := by decide +kernel
theorem dX8_rise_8 : decode cX8_rise 8 = .ok (.iconst 0, 1) := by decide +kernel
theorem dX8_rise_9 : decode cX8_rise 9 = .ok (.ireturn, 1) := by decide +kernel
theorem dX8_sign_0 : decode cX8_sign 0 = .ok (.iload_n 1, 1) := by decide +kernel
theorem dX8_sign_1 : decode cX8_sign 1 = .ok (.iconst 0, 1) := by decide +kernel
theorem dX8_sign_2 : decode cX8_sign 2 = .ok (.aload_n 0, 1) := by decide +kernel
theorem dX8_sign_3 : decode cX8_sign 3 = .ok (.getfield 244, 3) := by decide +kernel
theorem dX8_sign_6 : decode cX8_sign 6 = .ok (.invokestatic 279, 3) := by decide +kernel
theorem dX8_sign_9 : decode cX8_sign 9 = .ok (.ifCond .ne 6, 3) := by decide +kernel
theorem dX8_sign_12 : decode cX8_sign 12 = .ok (.bipush (-2), 2) := by decide +kernel
theorem dX8_sign_14 : decode cX8_sign 14 = .ok (.ireturn, 1) := by decide +kernel
theorem dX8_sign_15 : decode cX8_sign 15 = .ok (.aload_n 0, 1) := by decide +kernel
theorem dX8_sign_16 : decode cX8_sign 16 = .ok (.getfield 257, 3) := by decide +kernel
theorem dX8_sign_19 : decode cX8_sign 19 = .ok (.iconst 1, 1) := by decide +kernel
theorem dX8_sign_20 : decode cX8_sign 20 = .ok (.if_icmp .eq 6, 3) := by decide +kernel
theorem dX8_sign_23 : decode cX8_sign 23 = .ok (.bipush (-3), 2) := by decide +kernel
theorem dX8_sign_25 : decode cX8_sign 25 = .ok (.ireturn, 1) := by decide +kernel
theorem dX8_verify_0 : decode cX8_verify 0 = .ok (.iload_n 1, 1) := by decide +kernel
theorem dX8_verify_1 : decode cX8_verify 1 = .ok (.iconst 0, 1) := by decide +kernel
theorem dX8_verify_2 : decode cX8_verify 2 = .ok (.aload_n 0, 1) := by decide +kernel
theorem dX8_verify_3 : decode cX8_verify 3 = .ok (.getfield 244, 3) := by decide +kernel
theorem dX8_verify_6 : decode cX8_verify 6 = .ok (.invokestatic 279, 3) := by decide +kernel
theorem dX8_verify_9 : decode cX8_verify 9 = .ok (.ifCond .ne 6, 3) := by decide +kernel
theorem dX8_verify_12 : decode cX8_verify 12 = .ok (.bipush (-2), 2) := by decide +kernel
theorem dX8_verify_14 : decode cX8_verify 14 = .ok (.ireturn, 1) := by decide +kernel
theorem dX8_verify_15 : decode cX8_verify 15 = .ok (.aload_n 0, 1) := by decide +kernel
theorem dX8_verify_16 : decode cX8_verify 16 = .ok (.getfield 250, 3) := by decide +kernel
theorem dX8_verify_19 : decode cX8_verify 19 = .ok (.ifCond .ne 6, 3) := by decide +kernel
theorem dX8_verify_22 : decode cX8_verify 22 = .ok (.bipush (-3), 2) := by decide +kernel
theorem dX8_verify_24 : decode cX8_verify 24 = .ok (.ireturn, 1) := by decide +kernel
end
section
section VX
variable {p : Program} {l : Launch} {e : Env} {R : Room} {s : State} {m : MethodId} {args : Array Value} {below : List Frame} {meth : Method} {c : Code} {H : Heap} {locs : List Loc} {cells slots : Nat} {Q : State → Prop}
variable {cc : ByteArray} {pc : Nat} {ls : Array Slot} {rest : List Value} {D : va_G} {cl : List vw_C} {tys : List (ClassId × FieldType)} {ws : va_W} {A : Nat → Prop} {H0 : Heap} {a : Nat}
theorem vx_topk {x : Int32} (v : Int32) (hv : x = v) (k : W p l e R s m args below meth c H locs cells slots Q (F0 m pc ls (.int v :: rest))) : W p l e R s m args below meth c H locs cells slots Q (F0 m pc ls (.int x :: rest)) := by
  subst hv; exact k
theorem vx_iast (hexec : p.tables.exec = Jvm.exec) (hb : c.code = cc) (hK : va_K D cl tys s) (hP : va_P D cl ws H) (hD : va_D A ws) (hS : va_S A H0 H locs) (q0 t0 : Nat) {cA : ClassId} {n : Nat} {f : Nat → Int32} (ha : ws[q0]? = some (a, .inl (cA, n, .inl f))) (ht : tys[t0]? = some (cA, .int)) {i : Int32} {x : Int32} (hin : vp_in i n) (hdg : decode cc pc = .ok (.iastore, 1))
    (kk : ∀ (H1 : Heap) (locs1 : List Loc) (f1 : Nat → Int32), va_P D cl (ws.set q0 (a, .inl (cA, n, .inl f1))) H1 → va_D A (ws.set q0 (a, .inl (cA, n, .inl f1))) → va_S A H0 H1 locs1 → W p l e R s m args below meth c H1 locs1 cells slots Q (F0 m (pc + 1) ls rest)) : W p l e R s m args below meth c H locs cells slots Q (F0 m pc ls (.int x :: .int i :: .ref a :: rest)) :=
  va_iast hexec hb hK hP hD hS q0 t0 ha ht hin hdg (fun H1 l1 h1 h2 h3 => kk H1 l1 _ h1 h2 h3)
theorem vx_bast (hexec : p.tables.exec = Jvm.exec) (hb : c.code = cc) (hK : va_K D cl tys s) (hP : va_P D cl ws H) (hD : va_D A ws) (hS : va_S A H0 H locs) (q0 t0 : Nat) {cA : ClassId} {n : Nat} {f : Nat → Int32} (ha : ws[q0]? = some (a, .inl (cA, n, .inl f))) (ht : tys[t0]? = some (cA, .byte)) {i : Int32} {x : Int32} (hin : vp_in i n) (hdg : decode cc pc = .ok (.bastore, 1))
    (kk : ∀ (H1 : Heap) (locs1 : List Loc) (f1 : Nat → Int32), va_P D cl (ws.set q0 (a, .inl (cA, n, .inl f1))) H1 → va_D A (ws.set q0 (a, .inl (cA, n, .inl f1))) → va_S A H0 H1 locs1 → W p l e R s m args below meth c H1 locs1 cells slots Q (F0 m (pc + 1) ls rest)) : W p l e R s m args below meth c H locs cells slots Q (F0 m pc ls (.int x :: .int i :: .ref a :: rest)) :=
  va_bast hexec hb hK hP hD hS q0 t0 ha ht hin hdg (fun H1 l1 h1 h2 h3 => kk H1 l1 _ h1 h2 h3)
theorem vx_P0 : va_P D cl [] H := fun k q h => by simp at h
theorem vx_D0 : va_D A [] := ⟨fun i j p q h => by simp at h, fun k q h => by simp at h⟩
end VX
theorem vx_in {i : Int32} {n : Nat} (h : ¬ (i < 0 ∨ n ≤ i.toNatClampNeg)) : vp_in i n := h
theorem vx_good {big : List Cond} (ws : List Cond) (ps : List Nat) (hp : ws = ps.filterMap (fun i => big[i]?)) (h : ws.all goodWord = true) : GoodIn big ws := by
  intro w hw
  have h1 := List.all_eq_true.mp h w hw
  rw [hp] at hw
  obtain ⟨i, -, hi⟩ := List.mem_filterMap.mp hw
  exact ⟨List.mem_of_getElem? hi, good_of_word h1⟩
-- the answers of a fresh object, as the class's and as the reference's code puts them
def ch_h (v : Int32) : Int32 := if 1 < (if v < 4 then v else 4) then (if v < 4 then v else 4) else 1
def ch_r (v : Int32) : Int32 := if 1 < (if v < 8 then v else 8) then (if v < 8 then v else 8) else 1
def ch_n (h : Int32) : Int32 := 545 + h * 8
def ch_N (h : Int32) : Nat := (ch_n h).toNatClampNeg
def ch_L (h : Int32) : Nat := ((1 : Int32) <<< (h &&& 31)).toNatClampNeg
def fk_held (v a b : Int32) : Int32 := if a ≤ v then (if v ≤ b then v else b) else a
def fk_in (v a b : Int32) : Int32 := if v < a then 0 else if b < v then 0 else 1
def fk_wrong (n : Int32) : Int32 := if n < 0 then 1 else if n ≤ 0 then 0 else 1
def fk_sign (n : Int32) : Int32 := if fk_wrong n = 0 then -3 else -2
def fm_sign (n : Int32) : Int32 := if ¬ fk_in n 0 0 = 0 then -3 else -2
def fk_fuse (k : Int32) : Int32 := if k < -1 then 0 else if k ≤ 1000 then 1 else 0
def fm_fuse (k : Int32) : Int32 := if ¬ fk_in k (-1) 1000 = 0 then 1 else 0
def fk_disk (k : Int32) : Int32 := if k < 0 then -1 else if k < 24 then 0 else -1
def fm_disk (k : Int32) : Int32 := if fk_in k 0 23 = 0 then -1 else 0
def fk_about (w h r : Int32) : Int32 := if w = 0 then 0 else if w = 1 then -1 else if w = 2 then -1 else if w = 3 then 0 else if w = 4 then 0 else if w = 5 then 0 else if w = 6 then -1 else if w = 7 then 0 else if w = 8 then 0 else if w = 9 then 0 else if w = 10 then h else if w = 11 then r else -1
theorem vx_toI (a b : Int32) : a < b ↔ a.toInt < b.toInt := Int32.lt_iff_toInt_lt
theorem vx_toL (a b : Int32) : a ≤ b ↔ a.toInt ≤ b.toInt := Int32.le_iff_toInt_le
theorem vx_of (a : Int32) (n : Int32) (h : a.toInt = n.toInt) : a = n := Int32.toInt_inj.mp h
theorem vx_l0 : (0 : Int32).toInt = 0 := by decide
theorem vx_l1 : (1 : Int32).toInt = 1 := by decide
theorem vx_l4 : (4 : Int32).toInt = 4 := by decide
theorem vx_l8 : (8 : Int32).toInt = 8 := by decide
theorem vx_l23 : (23 : Int32).toInt = 23 := by decide
theorem vx_l24 : (24 : Int32).toInt = 24 := by decide
theorem vx_l1000 : (1000 : Int32).toInt = 1000 := by decide
theorem vx_lm1 : (-1 : Int32).toInt = -1 := by decide
theorem vx_h4 (v : Int32) : ch_h v = 1 ∨ ch_h v = 2 ∨ ch_h v = 3 ∨ ch_h v = 4 := by
  have k : 1 ≤ (ch_h v).toInt ∧ (ch_h v).toInt ≤ 4 := by
    unfold ch_h
    have h1 := vx_l1; have h4 := vx_l4
    split
    · rename_i q
      rw [vx_toI, h4] at q
      split
      · rename_i z; rw [vx_toI, h1] at z; omega
      · rw [h1]; omega
    · decide
  rcases (show (ch_h v).toInt = 1 ∨ (ch_h v).toInt = 2 ∨ (ch_h v).toInt = 3 ∨ (ch_h v).toInt = 4 by omega) with q | q | q | q
  · exact Or.inl (vx_of _ 1 q)
  · exact Or.inr (Or.inl (vx_of _ 2 q))
  · exact Or.inr (Or.inr (Or.inl (vx_of _ 3 q)))
  · exact Or.inr (Or.inr (Or.inr (vx_of _ 4 q)))
theorem vx_n {h : Int32} (hh : h = 1 ∨ h = 2 ∨ h = 3 ∨ h = 4) : ¬ ch_n h < 0 ∧ (ch_N h = 553 ∨ ch_N h = 561 ∨ ch_N h = 569 ∨ ch_N h = 577) := by
  rcases hh with rfl | rfl | rfl | rfl <;> decide
theorem vx_nN {h : Int32} (hh : h = 1 ∨ h = 2 ∨ h = 3 ∨ h = 4) : ch_N h ≤ 577 := by
  have := (vx_n hh).2; omega
theorem vx_L {h : Int32} (hh : h = 1 ∨ h = 2 ∨ h = 3 ∨ h = 4) : ¬ ((1 : Int32) <<< (h &&& 31)) < 0 ∧ ch_L h ≤ 16 := by
  rcases hh with rfl | rfl | rfl | rfl <;> decide
theorem vx_T {h : Int32} (hh : h = 1 ∨ h = 2 ∨ h = 3 ∨ h = 4) : ¬ ((2 * ((1 : Int32) <<< (h &&& 31))) * 8) < 0 ∧ ((2 * ((1 : Int32) <<< (h &&& 31))) * 8).toNatClampNeg ≤ 256 := by
  rcases hh with rfl | rfl | rfl | rfl <;> decide
theorem vx_N3 {N : Nat} (h : N = 553 ∨ N = 561 ∨ N = 569 ∨ N = 577) : ¬ Int32.ofNat N < 0 ∧ (0 : Int32).toNatClampNeg + (Int32.ofNat N).toNatClampNeg ≤ N ∧ (if 0 < Int32.ofNat N * 4 then (0 : Int32) else Int32.ofNat N * 4) = 0 := by
  rcases h with rfl | rfl | rfl | rfl <;> decide
theorem vx_mm (x : Int32) : (if x < x then x else x) = x := by split <;> rfl
theorem vx_shr0 (y : UInt32) : ((0 : Int32).toUInt32 >>> y).toInt32 = 0 := by
  have : (0 : Int32).toUInt32 = 0 := by decide
  rw [this, UInt32.zero_shiftRight]; decide
theorem vx_d24 : ∀ j : Fin 24, ¬ ((nI j.val >>> (2 &&& 31)) < 0 ∨ 6 ≤ (nI j.val >>> (2 &&& 31)).toNatClampNeg) := by decide
theorem vx_disk {k : Int32} (h0 : ¬ k < 0) (h : k < 24) : vp_in (k >>> (2 &&& 31)) 6 := by
  obtain ⟨j, hj, rfl⟩ := vp_in_of (x := k) (n := 24) (vp_in_iff.mpr ⟨by rw [vx_toI, vx_l0] at h0; omega, by rw [vx_toI, vx_l24] at h; omega⟩) (by decide)
  exact vx_d24 ⟨j, hj⟩
theorem vx_in24 {k : Int32} (h : ¬ fk_in k 0 23 = 0) : vp_in k 24 := by
  unfold fk_in at h
  by_cases c1 : k < 0
  · rw [if_pos c1] at h; exact absurd rfl h
  · by_cases c2 : 23 < k
    · rw [if_neg c1, if_pos c2] at h; exact absurd rfl h
    · rw [vx_toI, vx_l0] at c1; rw [vx_toI, vx_l23] at c2
      exact vp_in_iff.mpr ⟨by omega, by omega⟩
theorem vx_in0 (k : Int32) : fk_in k 0 (-1) = 0 := by
  unfold fk_in
  split
  · rfl
  · rename_i c1
    split
    · rfl
    · rename_i c2
      rw [vx_toI, vx_l0] at c1; rw [vx_toI, vx_lm1] at c2
      omega
theorem vx_sign (n : Int32) : fk_sign n = fm_sign n := by
  unfold fk_sign fm_sign fk_wrong fk_in
  by_cases c1 : n < 0
  · simp [c1]
  · by_cases c2 : n ≤ 0
    · have c3 : ¬ 0 < n := Int32.not_lt.mpr c2
      simp [c1, c2, c3]
    · have c3 : 0 < n := Int32.not_le.mp c2
      simp [c1, c2, c3]
theorem vx_fuse (n : Int32) : fk_fuse n = fm_fuse n := by
  unfold fk_fuse fm_fuse fk_in
  by_cases c1 : n < -1
  · simp [c1]
  · by_cases c2 : n ≤ 1000
    · have c3 : ¬ 1000 < n := Int32.not_lt.mpr c2
      simp [c1, c2, c3]
    · have c3 : 1000 < n := Int32.not_le.mp c2
      simp [c1, c2, c3]
theorem vx_dk (n : Int32) : fk_disk n = fm_disk n := by
  unfold fk_disk fm_disk fk_in
  by_cases c1 : n < 0
  · simp [c1]
  · by_cases c2 : n < 24
    · have c3 : ¬ 23 < n := by rw [vx_toI, vx_l23]; rw [vx_toI, vx_l24] at c2; omega
      simp [c1, c2, c3]
    · have c3 : 23 < n := by rw [vx_toI, vx_l23]; rw [vx_toI, vx_l24] at c2; omega
      simp [c1, c2, c3]
theorem vx_hh (v : Int32) : ch_h v = fk_held v 1 4 := by
  unfold ch_h fk_held
  have h1 := vx_l1; have h4 := vx_l4
  by_cases c1 : v < 4
  · by_cases c2 : 1 ≤ v
    · have c3 : v ≤ 4 := by rw [vx_toI] at c1; rw [vx_toL]; omega
      simp only [if_pos c1, if_pos c2, if_pos c3]
      split
      · rfl
      · rename_i c4; rw [vx_toI] at c4; rw [vx_toL] at c2; exact (vx_of v 1 (by omega)).symm
    · have c3 : ¬ 1 < v := by rw [vx_toL] at c2; rw [vx_toI]; omega
      simp only [if_pos c1, if_neg c2, if_neg c3]
  · have c2 : 1 ≤ v := by rw [vx_toI] at c1; rw [vx_toL]; omega
    have c5 : (1 : Int32) < 4 := by decide
    simp only [if_neg c1, if_pos c2, if_pos c5]
    split
    · rename_i c4; rw [vx_toI] at c1; rw [vx_toL] at c4; exact (vx_of v 4 (by omega)).symm
    · rfl
theorem vx_hr (v : Int32) : ch_r v = fk_held v 1 8 := by
  unfold ch_r fk_held
  have h1 := vx_l1; have h4 := vx_l8
  by_cases c1 : v < 8
  · by_cases c2 : 1 ≤ v
    · have c3 : v ≤ 8 := by rw [vx_toI] at c1; rw [vx_toL]; omega
      simp only [if_pos c1, if_pos c2, if_pos c3]
      split
      · rfl
      · rename_i c4; rw [vx_toI] at c4; rw [vx_toL] at c2; exact (vx_of v 1 (by omega)).symm
    · have c3 : ¬ 1 < v := by rw [vx_toL] at c2; rw [vx_toI]; omega
      simp only [if_pos c1, if_neg c2, if_neg c3]
  · have c2 : 1 ≤ v := by rw [vx_toI] at c1; rw [vx_toL]; omega
    have c5 : (1 : Int32) < 8 := by decide
    simp only [if_neg c1, if_pos c2, if_pos c5]
    split
    · rename_i c4; rw [vx_toI] at c1; rw [vx_toL] at c4; exact (vx_of v 8 (by omega)).symm
    · rfl
theorem vx_out {w : Int32} (c0 : ¬ w = 0) (c1 : ¬ w = 1) (c2 : ¬ w = 2) (c3 : ¬ w = 3) (c4 : ¬ w = 4) (c5 : ¬ w = 5) (c6 : ¬ w = 6) (c7 : ¬ w = 7) (c8 : ¬ w = 8) (c9 : ¬ w = 9) (c10 : ¬ w = 10) (c11 : ¬ w = 11) : w.toInt < 0 ∨ 11 < w.toInt := by
  have h0 := lv_neT c0 (a := 0) (by decide); have h1 := lv_neT c1 (a := 1) (by decide); have h2 := lv_neT c2 (a := 2) (by decide)
  have h3 := lv_neT c3 (a := 3) (by decide); have h4 := lv_neT c4 (a := 4) (by decide); have h5 := lv_neT c5 (a := 5) (by decide)
  have h6 := lv_neT c6 (a := 6) (by decide); have h7 := lv_neT c7 (a := 7) (by decide); have h8 := lv_neT c8 (a := 8) (by decide)
  have h9 := lv_neT c9 (a := 9) (by decide); have h10 := lv_neT c10 (a := 10) (by decide); have h11 := lv_neT c11 (a := 11) (by decide)
  omega
theorem vx_out14 {w : Int32} (c0 : ¬ w = 0) (c1 : ¬ w = 1) (c2 : ¬ w = 2) (c3 : ¬ w = 3) (c4 : ¬ w = 4) (c5 : ¬ w = 5) (c6 : ¬ w = 6) (c7 : ¬ w = 7) (c8 : ¬ w = 8) (c9 : ¬ w = 9) (c10 : ¬ w = 10) (c11 : ¬ w = 11) (c12 : ¬ w = 12) (c13 : ¬ w = 13) : w.toInt < 0 ∨ 13 < w.toInt := by
  have h0 := lv_neT c0 (a := 0) (by decide); have h1 := lv_neT c1 (a := 1) (by decide); have h2 := lv_neT c2 (a := 2) (by decide)
  have h3 := lv_neT c3 (a := 3) (by decide); have h4 := lv_neT c4 (a := 4) (by decide); have h5 := lv_neT c5 (a := 5) (by decide)
  have h6 := lv_neT c6 (a := 6) (by decide); have h7 := lv_neT c7 (a := 7) (by decide); have h8 := lv_neT c8 (a := 8) (by decide)
  have h9 := lv_neT c9 (a := 9) (by decide); have h10 := lv_neT c10 (a := 10) (by decide); have h11 := lv_neT c11 (a := 11) (by decide)
  have h12 := lv_neT c12 (a := 12) (by decide); have h13 := lv_neT c13 (a := 13) (by decide)
  omega
end
section
def ww_X0_shiftOf : List Cond := .code yX0_shiftOf cX0_shiftOf 1 (some .int) :: ([])
set_option maxHeartbeats 4000000 in
set_option maxRecDepth 100000 in
theorem ct_shiftOf (l : Launch) (dC : Nat → ClassId) (dI : Nat → Nat → Nat) (sz : Nat) (k : Int32) : Met l yX0_shiftOf ww_X0_shiftOf ({ frames := 0, cells := 0, slots := 0, locals := 0 }) (va_Pc [.int k] (fun U => U.heap.size = sz ∧ va_P (dC, dI) classes [] U.heap ∧ va_K (dC, dI) classes [] U ∧ va_D (fun _ => True) [])) (va_Qi (fun (r : Int32) (_ : Unit) => r = 24 - 8 * (k &&& 3)) (fun (_ : Unit) (_ : State) => True) (va_A [] sz)) 0 0 (va_A [] sz) := by
  refine Met.ofW (cc := cX0_shiftOf) (maxL := 1) (ret := (some .int)) (by decide) rfl ?_
  intro p e s m args below meth c s₁ B hml hv
  obtain ⟨rfl, hsz, hP, hK, hD0⟩ := hv
  have hx := B.exec
  have hb := B.bytes
  have hr := B.returns
  have hts := atoms_spec (ws := ww_X0_shiftOf) B.pre
  have hown : s.vm.findClass RX0 = some m.cls := findClass_of_methodNamed B.named
  have hlocks := B.notSynchronized
  subst hsz
  have hD := hD0.self (sz := s.heap.size)
  generalize hAe : va_A [] s.heap.size = A at hD ⊢
  have hA : ∀ q : Nat, s.heap.size ≤ q → A q := fun q h => by rw [← hAe]; exact Or.inr h
  have hS : va_S A s.heap s.heap [] := va_S.rf
  have hP : va_P (dC, dI) classes [] s.heap := hP
  have hl := lv_entry ([.int k]) (n := 1) (Nat.le_of_ble_eq_true rfl)
  rw [lg_entry_eq]
  generalize (lg_sl ([.int k]) ++ List.replicate (1 - (lg_sl ([.int k])).length) Slot.unset).toArray = ls at hl ⊢
  have hl : lv_has ls 1 [(0, .int k)] := hl
  generalize hHe : s.heap = H at hP ⊢
  have hS : va_S A s.heap H [] := by rw [← hHe]; exact va_S.rf
  refine lv_bipush (v := 24) hx hb dX0_shiftOf_0 (by decide) ?_
  refine lv_bipush (v := 8) hx hb dX0_shiftOf_2 (by decide) ?_
  refine lv_iload_n hx hb dX0_shiftOf_4 rfl (lv_at hl 0 rfl) ?_
  refine lv_iconst (v := 3) hx hb dX0_shiftOf_5 (by decide) ?_
  refine lv_iand hx hb dX0_shiftOf_6 ?_
  refine lv_imul hx hb dX0_shiftOf_7 ?_
  refine lv_isub hx hb dX0_shiftOf_8 ?_
  refine W.widen (k := 0) (n := 0) (Nat.le_of_ble_eq_true rfl) (Nat.le_of_ble_eq_true rfl) ?_
  exact W.iret (v := ((24 : Int32) - ((8 : Int32) * (k &&& (3 : Int32))))) hx hb hr (fun t ht hW => ⟨⟨((24 : Int32) - ((8 : Int32) * (k &&& (3 : Int32)))), (), rfl, rfl, trivial⟩, hS.F ht⟩) hS.2.2 dX0_shiftOf_9
end
section
def ww_X0_byteAt : List Cond := .code yX0_byteAt cX0_byteAt 2 (some .int) :: ([.fieldLink RX0 15 "LeafSigner$ByteRow" "count" "I"] ++ (wsX00))
theorem iX0_byteAt_X0 : ∀ w ∈ wsX00, w ∈ ww_X0_byteAt := fun w h => List.mem_cons_of_mem _ (List.mem_append_right _ h)
set_option maxHeartbeats 4000000 in
set_option maxRecDepth 100000 in
theorem ct_byteAt0 (l : Launch) (dC : Nat → ClassId) (dI : Nat → Nat → Nat) (sz : Nat) (h0 : Nat) (k : Int32) (w : Nat) : Met l yX0_byteAt ww_X0_byteAt ({ frames := 0, cells := 0, slots := 0, locals := 0 }) (va_Pc [.ref h0, .int k] (fun U => U.heap.size = sz ∧ va_P (dC, dI) classes [(h0, .inr (0, [.ref w, .int 0]))] U.heap ∧ va_K (dC, dI) classes [] U ∧ va_D (fun _ => True) [(h0, .inr (0, [.ref w, .int 0]))])) (va_Qi (fun (r : Int32) (_ : Unit) => r = -1) (fun (_ : Unit) (_ : State) => True) (va_A [(h0, .inr (0, [.ref w, .int 0]))] sz)) 0 0 (va_A [(h0, .inr (0, [.ref w, .int 0]))] sz) := by
  refine Met.ofW (cc := cX0_byteAt) (maxL := 2) (ret := (some .int)) (by decide) rfl ?_
  intro p e s m args below meth c s₁ B hml hv
  obtain ⟨rfl, hsz, hP, hK, hD0⟩ := hv
  have hx := B.exec
  have hb := B.bytes
  have hr := B.returns
  have hts := atoms_spec (ws := ww_X0_byteAt) B.pre
  have hown : s.vm.findClass RX0 = some m.cls := findClass_of_methodNamed B.named
  have hlocks := B.notSynchronized
  subst hsz
  have hD := hD0.self (sz := s.heap.size)
  generalize hAe : va_A [(h0, .inr (0, [.ref w, .int 0]))] s.heap.size = A at hD ⊢
  have hA : ∀ q : Nat, s.heap.size ≤ q → A q := fun q h => by rw [← hAe]; exact Or.inr h
  have hS : va_S A s.heap s.heap [] := va_S.rf
  have hP : va_P (dC, dI) classes [(h0, .inr (0, [.ref w, .int 0]))] s.heap := hP
  have hl := lv_entry ([.ref h0, .int k]) (n := 2) (Nat.le_of_ble_eq_true rfl)
  rw [lg_entry_eq]
  generalize (lg_sl ([.ref h0, .int k]) ++ List.replicate (2 - (lg_sl ([.ref h0, .int k])).length) Slot.unset).toArray = ls at hl ⊢
  have hl : lv_has ls 2 [(0, .ref h0), (1, .int k)] := hl
  generalize hHe : s.heap = H at hP ⊢
  have hS : va_S A s.heap H [] := by rw [← hHe]; exact va_S.rf
  refine lv_iload_n hx hb dX0_byteAt_0 rfl (lv_at hl 1 rfl) ?_
  refine lv_if_lt (tgt := 12) hx hb dX0_byteAt_1 (by decide) (fun c1 => ?_) (fun c1 => ?_)
  · refine lv_iconst (v := (-1)) hx hb dX0_byteAt_12 (by decide) ?_
    refine lv_goto (tgt := 33) hx hb dX0_byteAt_13 (by decide) ?_
    refine W.widen (k := 0) (n := 0) (Nat.le_of_ble_eq_true rfl) (Nat.le_of_ble_eq_true rfl) ?_
    exact W.iret (v := (-1)) hx hb hr (fun t ht hW => ⟨⟨(-1), (), rfl, rfl, trivial⟩, hS.F ht⟩) hS.2.2 dX0_byteAt_33
  · refine lv_iload_n hx hb dX0_byteAt_4 rfl (lv_at hl 1 rfl) ?_
    refine lv_aload_n hx hb dX0_byteAt_5 rfl (lv_at hl 0 rfl) ?_
    refine va_get (D := (dC, dI)) (ci := 0) (v := .int 0) (C := RX0) (T := TX0) (N := 2) hx hb hts iX0_byteAt_X0 hown hK hP 0 rfl rfl 1 (by decide) (hts (.fieldLink RX0 15 "LeafSigner$ByteRow" "count" "I") (List.mem_of_getElem? (i := 1) rfl)) (fun _ h9 => h9) rfl dX0_byteAt_6 ?_
    refine lv_icmp_lt (tgt := 16) hx hb dX0_byteAt_9 (by decide) (fun c2 => absurd c2 c1) (fun c2 => ?_)
    refine lv_iconst (v := (-1)) hx hb dX0_byteAt_12 (by decide) ?_
    refine lv_goto (tgt := 33) hx hb dX0_byteAt_13 (by decide) ?_
    refine W.widen (k := 0) (n := 0) (Nat.le_of_ble_eq_true rfl) (Nat.le_of_ble_eq_true rfl) ?_
    exact W.iret (v := (-1)) hx hb hr (fun t ht hW => ⟨⟨(-1), (), rfl, rfl, trivial⟩, hS.F ht⟩) hS.2.2 dX0_byteAt_33
end
section
def ww_X0_byteAtD : List Cond := .code yX0_byteAt cX0_byteAt 2 (some .int) :: ([.fieldLink RX0 15 "LeafSigner$ByteRow" "count" "I", .fieldLink RX0 9 "LeafSigner$ByteRow" "words" "[I", .methodLink RX0 19 yX0_shiftOf, .static yX0_shiftOf, .initialized RX0, .code yX0_shiftOf cX0_shiftOf 1 (some .int)] ++ (wsX00))
theorem iX0_byteAtD_X0 : ∀ w ∈ wsX00, w ∈ ww_X0_byteAtD := fun w h => List.mem_cons_of_mem _ (List.mem_append_right _ h)
set_option maxRecDepth 20000 in
theorem gX0_byteAtD_X0_shiftOf_19 : GoodIn ww_X0_byteAtD (va_wsS RX0 19 yX0_shiftOf ww_X0_shiftOf) := vx_good _ [3, 4, 5, 6] rfl (by decide +kernel)
set_option maxHeartbeats 4000000 in
set_option maxRecDepth 100000 in
theorem ct_byteAtD (l : Launch) (dC : Nat → ClassId) (dI : Nat → Nat → Nat) (sz : Nat) (h0 : Nat) (k : Int32) (w : Nat) (cA : ClassId) : Met l yX0_byteAt ww_X0_byteAtD ({ frames := 1, cells := 0, slots := 0, locals := 20 }) (va_Pc [.ref h0, .int k] (fun U => U.heap.size = sz ∧ va_P (dC, dI) classes [(h0, .inr (0, [.ref w, .int 24])), (w, .inl (cA, 6, .inl (fun _ => 0)))] U.heap ∧ va_K (dC, dI) classes [(cA, .int)] U ∧ va_D (fun _ => True) [(h0, .inr (0, [.ref w, .int 24])), (w, .inl (cA, 6, .inl (fun _ => 0)))])) (va_Qi (fun (r : Int32) (_ : Unit) => r = fk_disk k) (fun (_ : Unit) (_ : State) => True) (va_A [(h0, .inr (0, [.ref w, .int 24])), (w, .inl (cA, 6, .inl (fun _ => 0)))] sz)) 0 0 (va_A [(h0, .inr (0, [.ref w, .int 24])), (w, .inl (cA, 6, .inl (fun _ => 0)))] sz) := by
  refine Met.ofW (cc := cX0_byteAt) (maxL := 2) (ret := (some .int)) (by decide) rfl ?_
  intro p e s m args below meth c s₁ B hml hv
  obtain ⟨rfl, hsz, hP, hK, hD0⟩ := hv
  have hx := B.exec
  have hb := B.bytes
  have hr := B.returns
  have hts := atoms_spec (ws := ww_X0_byteAtD) B.pre
  have hown : s.vm.findClass RX0 = some m.cls := findClass_of_methodNamed B.named
  have hlocks := B.notSynchronized
  subst hsz
  have hD := hD0.self (sz := s.heap.size)
  generalize hAe : va_A [(h0, .inr (0, [.ref w, .int 24])), (w, .inl (cA, 6, .inl (fun _ => 0)))] s.heap.size = A at hD ⊢
  have hA : ∀ q : Nat, s.heap.size ≤ q → A q := fun q h => by rw [← hAe]; exact Or.inr h
  have hS : va_S A s.heap s.heap [] := va_S.rf
  have hP : va_P (dC, dI) classes [(h0, .inr (0, [.ref w, .int 24])), (w, .inl (cA, 6, .inl (fun _ => 0)))] s.heap := hP
  have hl := lv_entry ([.ref h0, .int k]) (n := 2) (Nat.le_of_ble_eq_true rfl)
  rw [lg_entry_eq]
  generalize (lg_sl ([.ref h0, .int k]) ++ List.replicate (2 - (lg_sl ([.ref h0, .int k])).length) Slot.unset).toArray = ls at hl ⊢
  have hl : lv_has ls 2 [(0, .ref h0), (1, .int k)] := hl
  generalize hHe : s.heap = H at hP ⊢
  have hS : va_S A s.heap H [] := by rw [← hHe]; exact va_S.rf
  refine lv_iload_n hx hb dX0_byteAt_0 rfl (lv_at hl 1 rfl) ?_
  refine lv_if_lt (tgt := 12) hx hb dX0_byteAt_1 (by decide) (fun c3 => ?_) (fun c3 => ?_)
  · refine lv_iconst (v := (-1)) hx hb dX0_byteAt_12 (by decide) ?_
    refine lv_goto (tgt := 33) hx hb dX0_byteAt_13 (by decide) ?_
    refine W.widen (k := 0) (n := 0) (Nat.le_of_ble_eq_true rfl) (Nat.le_of_ble_eq_true rfl) ?_
    exact W.iret (v := (-1)) hx hb hr (fun t ht hW => ⟨⟨(-1), (), rfl, (by unfold fk_disk; rw [if_pos c3]), trivial⟩, hS.F ht⟩) hS.2.2 dX0_byteAt_33
  · refine lv_iload_n hx hb dX0_byteAt_4 rfl (lv_at hl 1 rfl) ?_
    refine lv_aload_n hx hb dX0_byteAt_5 rfl (lv_at hl 0 rfl) ?_
    refine va_get (D := (dC, dI)) (ci := 0) (v := .int 24) (C := RX0) (T := TX0) (N := 2) hx hb hts iX0_byteAtD_X0 hown hK hP 0 rfl rfl 1 (by decide) (hts (.fieldLink RX0 15 "LeafSigner$ByteRow" "count" "I") (List.mem_of_getElem? (i := 1) rfl)) (fun _ h9 => h9) rfl dX0_byteAt_6 ?_
    refine lv_icmp_lt (tgt := 16) hx hb dX0_byteAt_9 (by decide) (fun c4 => ?_) (fun c4 => ?_)
    · refine lv_aload_n hx hb dX0_byteAt_16 rfl (lv_at hl 0 rfl) ?_
      refine va_get (D := (dC, dI)) (ci := 0) (v := .ref w) (C := RX0) (T := TX0) (N := 2) hx hb hts iX0_byteAtD_X0 hown hK hP 0 rfl rfl 0 (by decide) (hts (.fieldLink RX0 9 "LeafSigner$ByteRow" "words" "[I") (List.mem_of_getElem? (i := 2) rfl)) (fun _ h9 => h9) rfl dX0_byteAt_17 ?_
      refine lv_iload_n hx hb dX0_byteAt_20 rfl (lv_at hl 1 rfl) ?_
      refine lv_iconst (v := 2) hx hb dX0_byteAt_21 (by decide) ?_
      refine lv_ishr hx hb dX0_byteAt_22 ?_
      refine va_iald hx hb hK hP 1 0 rfl rfl (vx_disk c3 c4) dX0_byteAt_23 ?_
      refine vx_topk 0 rfl ?_
      refine lv_iload_n hx hb dX0_byteAt_24 rfl (lv_at hl 1 rfl) ?_
      have hPc := hP.sub (ws' := []) [] rfl
      have hDc := hD.sub (ws' := []) [] (by decide) rfl
      have hKc := hK.sub (tys' := []) [] rfl
      have hFc := va_free (wc := []) hD hS hA [] rfl
      refine va_calli (va_runS (As := [.int k]) (rest := [.int 0]) ⟨hx, hb, hml, hown, hts⟩ (ct_shiftOf l dC dI H.size k) (va_cwS 1 hts gX0_byteAtD_X0_shiftOf_19 rfl rfl rfl (by decide +kernel) ⟨(Nat.le_of_ble_eq_true rfl), (Nat.le_of_ble_eq_true rfl)⟩) ⟨fun a U g mk q => by obtain ⟨q0, q1, qP, qK, qD⟩ := q; exact ⟨q0, q1, qP, va_K.moved (u := U) (U := U.calling g mk a) (Vm.Alike.refl U.vm) qK, qD⟩, fun U hU hW => ⟨rfl, by rw [hU], by rw [hU]; exact hPc, va_K.moved hW.alike hKc, hDc.weaken (fun _ _ _ _ => trivial)⟩⟩ rfl rfl hl.1 rfl (lv_room (Nat.le_of_ble_eq_true rfl)) dX0_byteAt_25 ⟨(Nat.le_of_ble_eq_true rfl), (Nat.le_of_ble_eq_true rfl)⟩) hS (fun q _ h => hFc q h) hFc (fun r5 u t H1 locs ht hvm hw hB hz1 hk1 hS => ?_)
      have hP1 : va_P (dC, dI) classes [] H1 := vx_P0
      have hD1 : va_D (va_A [] H.size) [] := vx_D0
      obtain ⟨hP, hD⟩ := va_join (wr := [(h0, .inr (0, [.ref w, .int 24])), (w, .inl (cA, 6, .inl (fun _ => 0)))]) (w1 := []) hP hD [] [0, 1] rfl rfl (by decide) (by decide) hk1 hFc hP1 hD1
      have hK := hK.sub (tys' := [(cA, .int)]) [0] rfl
      generalize H1 = H at hP hS ⊢
      have hP : va_P (dC, dI) classes [(h0, .inr (0, [.ref w, .int 24])), (w, .inl (cA, 6, .inl (fun _ => 0)))] H := hP
      have hD : va_D A [(h0, .inr (0, [.ref w, .int 24])), (w, .inl (cA, 6, .inl (fun _ => 0)))] := hD
      have hK : va_K (dC, dI) classes [(cA, .int)] s := hK
      refine W.widen (k := 0) (n := 0) (Nat.le_of_ble_eq_true rfl) (Nat.le_of_ble_eq_true rfl) ?_
      refine lv_iushr (v := 0) hx hb dX0_byteAt_28 (vx_shr0 _) ?_
      refine lv_sipush (v := 255) hx hb dX0_byteAt_29 (by decide) ?_
      refine lv_iand hx hb dX0_byteAt_32 ?_
      refine vx_topk 0 (by decide) ?_
      refine W.widen (k := 0) (n := 0) (Nat.le_of_ble_eq_true rfl) (Nat.le_of_ble_eq_true rfl) ?_
      exact W.iret (v := 0) hx hb hr (fun t ht hW => ⟨⟨0, (), rfl, (by unfold fk_disk; rw [if_neg c3, if_pos c4]), trivial⟩, hS.F ht⟩) hS.2.2 dX0_byteAt_33
    · refine lv_iconst (v := (-1)) hx hb dX0_byteAt_12 (by decide) ?_
      refine lv_goto (tgt := 33) hx hb dX0_byteAt_13 (by decide) ?_
      refine W.widen (k := 0) (n := 0) (Nat.le_of_ble_eq_true rfl) (Nat.le_of_ble_eq_true rfl) ?_
      exact W.iret (v := (-1)) hx hb hr (fun t ht hW => ⟨⟨(-1), (), rfl, (by unfold fk_disk; rw [if_neg c3, if_neg c4]), trivial⟩, hS.F ht⟩) hS.2.2 dX0_byteAt_33
end
section
def ww_X0_flip : List Cond := .code yX0_flip cX0_flip 3 none :: ([.fieldLink RX0 15 "LeafSigner$ByteRow" "count" "I"] ++ (wsX00))
theorem iX0_flip_X0 : ∀ w ∈ wsX00, w ∈ ww_X0_flip := fun w h => List.mem_cons_of_mem _ (List.mem_append_right _ h)
set_option maxHeartbeats 4000000 in
set_option maxRecDepth 100000 in
theorem ct_flip0 (l : Launch) (dC : Nat → ClassId) (dI : Nat → Nat → Nat) (sz : Nat) (h0 : Nat) (k : Int32) (z : Int32) (w : Nat) : Met l yX0_flip ww_X0_flip ({ frames := 0, cells := 0, slots := 0, locals := 0 }) (va_Pc [.ref h0, .int k, .int z] (fun U => U.heap.size = sz ∧ va_P (dC, dI) classes [(h0, .inr (0, [.ref w, .int 0]))] U.heap ∧ va_K (dC, dI) classes [] U ∧ va_D (fun _ => True) [(h0, .inr (0, [.ref w, .int 0]))])) (va_Qv (fun (_ : Unit) => True) (fun (_ : Unit) (t : State) => va_P (dC, dI) classes [(h0, .inr (0, [.ref w, .int 0]))] t.heap ∧ va_K (dC, dI) classes [] t ∧ va_D (va_A [(h0, .inr (0, [.ref w, .int 0]))] sz) [(h0, .inr (0, [.ref w, .int 0]))]) (va_A [(h0, .inr (0, [.ref w, .int 0]))] sz)) 0 0 (va_A [(h0, .inr (0, [.ref w, .int 0]))] sz) := by
  refine Met.ofW (cc := cX0_flip) (maxL := 3) (ret := none) (by decide) rfl ?_
  intro p e s m args below meth c s₁ B hml hv
  obtain ⟨rfl, hsz, hP, hK, hD0⟩ := hv
  have hx := B.exec
  have hb := B.bytes
  have hr := B.returns
  have hts := atoms_spec (ws := ww_X0_flip) B.pre
  have hown : s.vm.findClass RX0 = some m.cls := findClass_of_methodNamed B.named
  have hlocks := B.notSynchronized
  subst hsz
  have hD := hD0.self (sz := s.heap.size)
  generalize hAe : va_A [(h0, .inr (0, [.ref w, .int 0]))] s.heap.size = A at hD ⊢
  have hA : ∀ q : Nat, s.heap.size ≤ q → A q := fun q h => by rw [← hAe]; exact Or.inr h
  have hS : va_S A s.heap s.heap [] := va_S.rf
  have hP : va_P (dC, dI) classes [(h0, .inr (0, [.ref w, .int 0]))] s.heap := hP
  have hl := lv_entry ([.ref h0, .int k, .int z]) (n := 3) (Nat.le_of_ble_eq_true rfl)
  rw [lg_entry_eq]
  generalize (lg_sl ([.ref h0, .int k, .int z]) ++ List.replicate (3 - (lg_sl ([.ref h0, .int k, .int z])).length) Slot.unset).toArray = ls at hl ⊢
  have hl : lv_has ls 3 [(0, .ref h0), (1, .int k), (2, .int z)] := hl
  generalize hHe : s.heap = H at hP ⊢
  have hS : va_S A s.heap H [] := by rw [← hHe]; exact va_S.rf
  refine lv_iload_n hx hb dX0_flip_0 rfl (lv_at hl 1 rfl) ?_
  refine lv_if_lt (tgt := 33) hx hb dX0_flip_1 (by decide) (fun c6 => ?_) (fun c6 => ?_)
  · refine W.widen (k := 0) (n := 0) (Nat.le_of_ble_eq_true rfl) (Nat.le_of_ble_eq_true rfl) ?_
    have hP9 := hP.sub (ws' := [(h0, .inr (0, [.ref w, .int 0]))]) [0] rfl
    have hD9 := hD.sub (ws' := [(h0, .inr (0, [.ref w, .int 0]))]) [0] (by decide) rfl
    have hK9 := hK.sub (tys' := []) [] rfl
    exact W.vret hx hb hr (fun t ht hW => ⟨⟨(), rfl, trivial, ⟨by rw [ht]; exact hP9, va_K.moved hW.alike hK9, hD9⟩⟩, hS.F ht⟩) hS.2.2 dX0_flip_33
  · refine lv_iload_n hx hb dX0_flip_4 rfl (lv_at hl 1 rfl) ?_
    refine lv_aload_n hx hb dX0_flip_5 rfl (lv_at hl 0 rfl) ?_
    refine va_get (D := (dC, dI)) (ci := 0) (v := .int 0) (C := RX0) (T := TX0) (N := 2) hx hb hts iX0_flip_X0 hown hK hP 0 rfl rfl 1 (by decide) (hts (.fieldLink RX0 15 "LeafSigner$ByteRow" "count" "I") (List.mem_of_getElem? (i := 1) rfl)) (fun _ h9 => h9) rfl dX0_flip_6 ?_
    refine lv_icmp_ge (tgt := 33) hx hb dX0_flip_9 (by decide) (fun c7 => ?_) (fun c7 => absurd (Int32.not_lt.mp c6) c7)
    refine W.widen (k := 0) (n := 0) (Nat.le_of_ble_eq_true rfl) (Nat.le_of_ble_eq_true rfl) ?_
    have hP9 := hP.sub (ws' := [(h0, .inr (0, [.ref w, .int 0]))]) [0] rfl
    have hD9 := hD.sub (ws' := [(h0, .inr (0, [.ref w, .int 0]))]) [0] (by decide) rfl
    have hK9 := hK.sub (tys' := []) [] rfl
    exact W.vret hx hb hr (fun t ht hW => ⟨⟨(), rfl, trivial, ⟨by rw [ht]; exact hP9, va_K.moved hW.alike hK9, hD9⟩⟩, hS.F ht⟩) hS.2.2 dX0_flip_33
end
section
def ww_X0_append : List Cond := .code yX0_append cX0_append 2 none :: ([.fieldLink RX0 15 "LeafSigner$ByteRow" "count" "I", .fieldLink RX0 9 "LeafSigner$ByteRow" "words" "[I"] ++ (wsX00))
theorem iX0_append_X0 : ∀ w ∈ wsX00, w ∈ ww_X0_append := fun w h => List.mem_cons_of_mem _ (List.mem_append_right _ h)
set_option maxHeartbeats 4000000 in
set_option maxRecDepth 100000 in
theorem ct_append (l : Launch) (dC : Nat → ClassId) (dI : Nat → Nat → Nat) (sz : Nat) (h0 : Nat) (k : Int32) (w : Nat) (cnt : Int32) (cA : ClassId) (f : (Nat → Int32)) (cnt2 : Int32) (hc : ¬ (50 : Int32) ≤ (cnt >>> (2 &&& 31))) (hix : vp_in (cnt >>> (2 &&& 31)) 50) (h2 : cnt + 4 = cnt2) : Met l yX0_append ww_X0_append ({ frames := 0, cells := 0, slots := 0, locals := 0 }) (va_Pc [.ref h0, .int k] (fun U => U.heap.size = sz ∧ va_P (dC, dI) classes [(h0, .inr (0, [.ref w, .int cnt])), (w, .inl (cA, 50, .inl f))] U.heap ∧ va_K (dC, dI) classes [(cA, .int)] U ∧ va_D (fun _ => True) [(h0, .inr (0, [.ref w, .int cnt])), (w, .inl (cA, 50, .inl f))])) (va_Qv (fun (_ : Unit) => True) (fun (_ : Unit) (t : State) => ∃ f2 : (Nat → Int32), va_P (dC, dI) classes [(h0, .inr (0, [.ref w, .int cnt2])), (w, .inl (cA, 50, .inl f2))] t.heap ∧ va_K (dC, dI) classes [(cA, .int)] t ∧ va_D (va_A [(h0, .inr (0, [.ref w, .int cnt])), (w, .inl (cA, 50, .inl f))] sz) [(h0, .inr (0, [.ref w, .int cnt2])), (w, .inl (cA, 50, .inl f2))]) (va_A [(h0, .inr (0, [.ref w, .int cnt])), (w, .inl (cA, 50, .inl f))] sz)) 0 0 (va_A [(h0, .inr (0, [.ref w, .int cnt])), (w, .inl (cA, 50, .inl f))] sz) := by
  refine Met.ofW (cc := cX0_append) (maxL := 2) (ret := none) (by decide) rfl ?_
  intro p e s m args below meth c s₁ B hml hv
  obtain ⟨rfl, hsz, hP, hK, hD0⟩ := hv
  have hx := B.exec
  have hb := B.bytes
  have hr := B.returns
  have hts := atoms_spec (ws := ww_X0_append) B.pre
  have hown : s.vm.findClass RX0 = some m.cls := findClass_of_methodNamed B.named
  have hlocks := B.notSynchronized
  subst hsz
  have hD := hD0.self (sz := s.heap.size)
  generalize hAe : va_A [(h0, .inr (0, [.ref w, .int cnt])), (w, .inl (cA, 50, .inl f))] s.heap.size = A at hD ⊢
  have hA : ∀ q : Nat, s.heap.size ≤ q → A q := fun q h => by rw [← hAe]; exact Or.inr h
  have hS : va_S A s.heap s.heap [] := va_S.rf
  have hP : va_P (dC, dI) classes [(h0, .inr (0, [.ref w, .int cnt])), (w, .inl (cA, 50, .inl f))] s.heap := hP
  have hl := lv_entry ([.ref h0, .int k]) (n := 2) (Nat.le_of_ble_eq_true rfl)
  rw [lg_entry_eq]
  generalize (lg_sl ([.ref h0, .int k]) ++ List.replicate (2 - (lg_sl ([.ref h0, .int k])).length) Slot.unset).toArray = ls at hl ⊢
  have hl : lv_has ls 2 [(0, .ref h0), (1, .int k)] := hl
  generalize hHe : s.heap = H at hP ⊢
  have hS : va_S A s.heap H [] := by rw [← hHe]; exact va_S.rf
  refine lv_aload_n hx hb dX0_append_0 rfl (lv_at hl 0 rfl) ?_
  refine va_get (D := (dC, dI)) (ci := 0) (v := .int cnt) (C := RX0) (T := TX0) (N := 2) hx hb hts iX0_append_X0 hown hK hP 0 rfl rfl 1 (by decide) (hts (.fieldLink RX0 15 "LeafSigner$ByteRow" "count" "I") (List.mem_of_getElem? (i := 1) rfl)) (fun _ h9 => h9) rfl dX0_append_1 ?_
  refine lv_iconst (v := 2) hx hb dX0_append_4 (by decide) ?_
  refine lv_ishr hx hb dX0_append_5 ?_
  refine lv_aload_n hx hb dX0_append_6 rfl (lv_at hl 0 rfl) ?_
  refine va_get (D := (dC, dI)) (ci := 0) (v := .ref w) (C := RX0) (T := TX0) (N := 2) hx hb hts iX0_append_X0 hown hK hP 0 rfl rfl 0 (by decide) (hts (.fieldLink RX0 9 "LeafSigner$ByteRow" "words" "[I") (List.mem_of_getElem? (i := 2) rfl)) (fun _ h9 => h9) rfl dX0_append_7 ?_
  refine va_alen (v := 50) hx hb hK hP 1 0 rfl rfl rfl dX0_append_10 ?_
  refine lv_icmp_ge (tgt := 36) hx hb dX0_append_11 (by decide) (fun c8 => absurd c8 hc) (fun c8 => ?_)
  refine lv_aload_n hx hb dX0_append_14 rfl (lv_at hl 0 rfl) ?_
  refine va_get (D := (dC, dI)) (ci := 0) (v := .ref w) (C := RX0) (T := TX0) (N := 2) hx hb hts iX0_append_X0 hown hK hP 0 rfl rfl 0 (by decide) (hts (.fieldLink RX0 9 "LeafSigner$ByteRow" "words" "[I") (List.mem_of_getElem? (i := 2) rfl)) (fun _ h9 => h9) rfl dX0_append_15 ?_
  refine lv_aload_n hx hb dX0_append_18 rfl (lv_at hl 0 rfl) ?_
  refine va_get (D := (dC, dI)) (ci := 0) (v := .int cnt) (C := RX0) (T := TX0) (N := 2) hx hb hts iX0_append_X0 hown hK hP 0 rfl rfl 1 (by decide) (hts (.fieldLink RX0 15 "LeafSigner$ByteRow" "count" "I") (List.mem_of_getElem? (i := 1) rfl)) (fun _ h9 => h9) rfl dX0_append_19 ?_
  refine lv_iconst (v := 2) hx hb dX0_append_22 (by decide) ?_
  refine lv_ishr hx hb dX0_append_23 ?_
  refine lv_iload_n hx hb dX0_append_24 rfl (lv_at hl 1 rfl) ?_
  refine vx_iast hx hb hK hP hD hS 1 0 rfl rfl hix dX0_append_25 (fun H locs f9 hP hD hS => ?_)
  have hP : va_P (dC, dI) classes [(h0, .inr (0, [.ref w, .int cnt])), (w, .inl (cA, 50, .inl f9))] H := hP
  have hD : va_D A [(h0, .inr (0, [.ref w, .int cnt])), (w, .inl (cA, 50, .inl f9))] := hD
  refine lv_aload_n hx hb dX0_append_26 rfl (lv_at hl 0 rfl) ?_
  refine lv_dup hx hb dX0_append_27 rfl ?_
  refine va_get (D := (dC, dI)) (ci := 0) (v := .int cnt) (C := RX0) (T := TX0) (N := 2) hx hb hts iX0_append_X0 hown hK hP 0 rfl rfl 1 (by decide) (hts (.fieldLink RX0 15 "LeafSigner$ByteRow" "count" "I") (List.mem_of_getElem? (i := 1) rfl)) (fun _ h9 => h9) rfl dX0_append_28 ?_
  refine lv_iconst (v := 4) hx hb dX0_append_31 (by decide) ?_
  refine lv_iadd hx hb dX0_append_32 ?_
  refine vx_topk cnt2 h2 ?_
  refine va_put (D := (dC, dI)) (ci := 0) (v := .int cnt2) (ty := .int) (C := RX0) (T := TX0) (N := 2) hx hb hts iX0_append_X0 tyX0 tyX0_ok nmX0 hown hK hP hD hS 0 rfl rfl 1 (by decide) (hts (.fieldLink RX0 15 "LeafSigner$ByteRow" "count" "I") (List.mem_of_getElem? (i := 1) rfl)) (fun _ h9 => h9) rfl (by decide +kernel) rfl rfl (Nat.le_of_ble_eq_true rfl) dX0_append_33 (fun H locs hP hD hS => ?_)
  have hP : va_P (dC, dI) classes [(h0, .inr (0, [.ref w, .int cnt2])), (w, .inl (cA, 50, .inl f9))] H := hP
  have hD : va_D A [(h0, .inr (0, [.ref w, .int cnt2])), (w, .inl (cA, 50, .inl f9))] := hD
  refine W.widen (k := 0) (n := 0) (Nat.le_of_ble_eq_true rfl) (Nat.le_of_ble_eq_true rfl) ?_
  have hP9 := hP.sub (ws' := [(h0, .inr (0, [.ref w, .int cnt2])), (w, .inl (cA, 50, .inl f9))]) [0, 1] rfl
  have hD9 := hD.sub (ws' := [(h0, .inr (0, [.ref w, .int cnt2])), (w, .inl (cA, 50, .inl f9))]) [0, 1] (by decide) rfl
  have hK9 := hK.sub (tys' := [(cA, .int)]) [0] rfl
  exact W.vret hx hb hr (fun t ht hW => ⟨⟨(), rfl, trivial, ⟨f9, by rw [ht]; exact hP9, va_K.moved hW.alike hK9, hD9⟩⟩, hS.F ht⟩) hS.2.2 dX0_append_36
end
section
def ww_X0_fill : List Cond := .code yX0_fill cX0_fill 1 none :: ([.fieldLink RX0 9 "LeafSigner$ByteRow" "words" "[I", .fieldLink RX0 15 "LeafSigner$ByteRow" "count" "I"] ++ (wsX00))
theorem iX0_fill_X0 : ∀ w ∈ wsX00, w ∈ ww_X0_fill := fun w h => List.mem_cons_of_mem _ (List.mem_append_right _ h)
set_option maxHeartbeats 4000000 in
set_option maxRecDepth 100000 in
theorem ct_fill (l : Launch) (dC : Nat → ClassId) (dI : Nat → Nat → Nat) (sz : Nat) (h0 : Nat) (w : Nat) (c0 : Int32) (cA : ClassId) (N : Nat) (f : (Nat → Int32)) (v : Int32) (hv : Int32.ofNat N * 4 = v) : Met l yX0_fill ww_X0_fill ({ frames := 0, cells := 0, slots := 0, locals := 0 }) (va_Pc [.ref h0] (fun U => U.heap.size = sz ∧ va_P (dC, dI) classes [(h0, .inr (0, [.ref w, .int c0])), (w, .inl (cA, N, .inl f))] U.heap ∧ va_K (dC, dI) classes [(cA, .int)] U ∧ va_D (fun _ => True) [(h0, .inr (0, [.ref w, .int c0])), (w, .inl (cA, N, .inl f))])) (va_Qv (fun (_ : Unit) => True) (fun (_ : Unit) (t : State) => va_P (dC, dI) classes [(h0, .inr (0, [.ref w, .int v])), (w, .inl (cA, N, .inl f))] t.heap ∧ va_K (dC, dI) classes [(cA, .int)] t ∧ va_D (va_A [(h0, .inr (0, [.ref w, .int c0])), (w, .inl (cA, N, .inl f))] sz) [(h0, .inr (0, [.ref w, .int v])), (w, .inl (cA, N, .inl f))]) (va_A [(h0, .inr (0, [.ref w, .int c0])), (w, .inl (cA, N, .inl f))] sz)) 0 0 (va_A [(h0, .inr (0, [.ref w, .int c0])), (w, .inl (cA, N, .inl f))] sz) := by
  refine Met.ofW (cc := cX0_fill) (maxL := 1) (ret := none) (by decide) rfl ?_
  intro p e s m args below meth c s₁ B hml hv
  obtain ⟨rfl, hsz, hP, hK, hD0⟩ := hv
  have hx := B.exec
  have hb := B.bytes
  have hr := B.returns
  have hts := atoms_spec (ws := ww_X0_fill) B.pre
  have hown : s.vm.findClass RX0 = some m.cls := findClass_of_methodNamed B.named
  have hlocks := B.notSynchronized
  subst hsz
  have hD := hD0.self (sz := s.heap.size)
  generalize hAe : va_A [(h0, .inr (0, [.ref w, .int c0])), (w, .inl (cA, N, .inl f))] s.heap.size = A at hD ⊢
  have hA : ∀ q : Nat, s.heap.size ≤ q → A q := fun q h => by rw [← hAe]; exact Or.inr h
  have hS : va_S A s.heap s.heap [] := va_S.rf
  have hP : va_P (dC, dI) classes [(h0, .inr (0, [.ref w, .int c0])), (w, .inl (cA, N, .inl f))] s.heap := hP
  have hl := lv_entry ([.ref h0]) (n := 1) (Nat.le_of_ble_eq_true rfl)
  rw [lg_entry_eq]
  generalize (lg_sl ([.ref h0]) ++ List.replicate (1 - (lg_sl ([.ref h0])).length) Slot.unset).toArray = ls at hl ⊢
  have hl : lv_has ls 1 [(0, .ref h0)] := hl
  generalize hHe : s.heap = H at hP ⊢
  have hS : va_S A s.heap H [] := by rw [← hHe]; exact va_S.rf
  refine lv_aload_n hx hb dX0_fill_0 rfl (lv_at hl 0 rfl) ?_
  refine lv_aload_n hx hb dX0_fill_1 rfl (lv_at hl 0 rfl) ?_
  refine va_get (D := (dC, dI)) (ci := 0) (v := .ref w) (C := RX0) (T := TX0) (N := 2) hx hb hts iX0_fill_X0 hown hK hP 0 rfl rfl 0 (by decide) (hts (.fieldLink RX0 9 "LeafSigner$ByteRow" "words" "[I") (List.mem_of_getElem? (i := 1) rfl)) (fun _ h9 => h9) rfl dX0_fill_2 ?_
  refine va_alen (v := (Int32.ofNat N)) hx hb hK hP 1 0 rfl rfl rfl dX0_fill_5 ?_
  refine lv_iconst (v := 4) hx hb dX0_fill_6 (by decide) ?_
  refine lv_imul hx hb dX0_fill_7 ?_
  refine vx_topk v hv ?_
  refine va_put (D := (dC, dI)) (ci := 0) (v := .int v) (ty := .int) (C := RX0) (T := TX0) (N := 2) hx hb hts iX0_fill_X0 tyX0 tyX0_ok nmX0 hown hK hP hD hS 0 rfl rfl 1 (by decide) (hts (.fieldLink RX0 15 "LeafSigner$ByteRow" "count" "I") (List.mem_of_getElem? (i := 2) rfl)) (fun _ h9 => h9) rfl (by decide +kernel) rfl rfl (Nat.le_of_ble_eq_true rfl) dX0_fill_8 (fun H locs hP hD hS => ?_)
  have hP : va_P (dC, dI) classes [(h0, .inr (0, [.ref w, .int v])), (w, .inl (cA, N, .inl f))] H := hP
  have hD : va_D A [(h0, .inr (0, [.ref w, .int v])), (w, .inl (cA, N, .inl f))] := hD
  refine W.widen (k := 0) (n := 0) (Nat.le_of_ble_eq_true rfl) (Nat.le_of_ble_eq_true rfl) ?_
  have hP9 := hP.sub (ws' := [(h0, .inr (0, [.ref w, .int v])), (w, .inl (cA, N, .inl f))]) [0, 1] rfl
  have hD9 := hD.sub (ws' := [(h0, .inr (0, [.ref w, .int v])), (w, .inl (cA, N, .inl f))]) [0, 1] (by decide) rfl
  have hK9 := hK.sub (tys' := [(cA, .int)]) [0] rfl
  exact W.vret hx hb hr (fun t ht hW => ⟨⟨(), rfl, trivial, ⟨by rw [ht]; exact hP9, va_K.moved hW.alike hK9, hD9⟩⟩, hS.F ht⟩) hS.2.2 dX0_fill_11
end
section
def ww_X0_copyOf : List Cond := .code yX0_copyOf cX0_copyOf 3 none :: ([.fieldLink RX0 9 "LeafSigner$ByteRow" "words" "[I", .methodLink RX0 23 Lib.Math.min.name, .static Lib.Math.min.name, .initialized "java/lang/Math", .code Lib.Math.min.name Lib.Math.min.code 2 (some .int), .methodLink RX0 29 arraycopyName, .native arraycopyName, .static arraycopyName, .initialized "java/lang/System", .fieldLink RX0 15 "LeafSigner$ByteRow" "count" "I"] ++ (wsX00))
theorem iX0_copyOf_X0 : ∀ w ∈ wsX00, w ∈ ww_X0_copyOf := fun w h => List.mem_cons_of_mem _ (List.mem_append_right _ h)
set_option maxHeartbeats 4000000 in
set_option maxRecDepth 100000 in
theorem ct_copyOf (l : Launch) (dC : Nat → ClassId) (dI : Nat → Nat → Nat) (sz : Nat) (h0 : Nat) (h1 : Nat) (w : Nat) (cA : ClassId) (N : Nat) (f : (Nat → Int32)) (w1 : Nat) (cB : ClassId) (f1 : (Nat → Int32)) (hN : N = 553 ∨ N = 561 ∨ N = 569 ∨ N = 577) : Met l yX0_copyOf ww_X0_copyOf ({ frames := 1, cells := 0, slots := 0, locals := 60 }) (va_Pc [.ref h0, .ref h1] (fun U => U.heap.size = sz ∧ va_P (dC, dI) classes [(h0, .inr (0, [.ref w, .int 0])), (w, .inl (cA, N, .inl f)), (h1, .inr (0, [.ref w1, .int 0])), (w1, .inl (cB, N, .inl f1))] U.heap ∧ va_K (dC, dI) classes [(cA, .int), (cB, .int)] U ∧ va_D (fun _ => True) [(h0, .inr (0, [.ref w, .int 0])), (w, .inl (cA, N, .inl f)), (h1, .inr (0, [.ref w1, .int 0])), (w1, .inl (cB, N, .inl f1))])) (va_Qv (fun (_ : Unit) => True) (fun (_ : Unit) (t : State) => va_P (dC, dI) classes [(h0, .inr (0, [.ref w, .int 0]))] t.heap ∧ va_K (dC, dI) classes [] t ∧ va_D (va_A [(h0, .inr (0, [.ref w, .int 0])), (w, .inl (cA, N, .inl f)), (h1, .inr (0, [.ref w1, .int 0])), (w1, .inl (cB, N, .inl f1))] sz) [(h0, .inr (0, [.ref w, .int 0]))]) (va_A [(h0, .inr (0, [.ref w, .int 0])), (w, .inl (cA, N, .inl f)), (h1, .inr (0, [.ref w1, .int 0])), (w1, .inl (cB, N, .inl f1))] sz)) 0 0 (va_A [(h0, .inr (0, [.ref w, .int 0])), (w, .inl (cA, N, .inl f)), (h1, .inr (0, [.ref w1, .int 0])), (w1, .inl (cB, N, .inl f1))] sz) := by
  refine Met.ofW (cc := cX0_copyOf) (maxL := 3) (ret := none) (by decide) rfl ?_
  intro p e s m args below meth c s₁ B hml hv
  obtain ⟨rfl, hsz, hP, hK, hD0⟩ := hv
  have hx := B.exec
  have hb := B.bytes
  have hr := B.returns
  have hts := atoms_spec (ws := ww_X0_copyOf) B.pre
  have hown : s.vm.findClass RX0 = some m.cls := findClass_of_methodNamed B.named
  have hlocks := B.notSynchronized
  subst hsz
  have hD := hD0.self (sz := s.heap.size)
  generalize hAe : va_A [(h0, .inr (0, [.ref w, .int 0])), (w, .inl (cA, N, .inl f)), (h1, .inr (0, [.ref w1, .int 0])), (w1, .inl (cB, N, .inl f1))] s.heap.size = A at hD ⊢
  have hA : ∀ q : Nat, s.heap.size ≤ q → A q := fun q h => by rw [← hAe]; exact Or.inr h
  have hS : va_S A s.heap s.heap [] := va_S.rf
  have hP : va_P (dC, dI) classes [(h0, .inr (0, [.ref w, .int 0])), (w, .inl (cA, N, .inl f)), (h1, .inr (0, [.ref w1, .int 0])), (w1, .inl (cB, N, .inl f1))] s.heap := hP
  have hl := lv_entry ([.ref h0, .ref h1]) (n := 3) (Nat.le_of_ble_eq_true rfl)
  rw [lg_entry_eq]
  generalize (lg_sl ([.ref h0, .ref h1]) ++ List.replicate (3 - (lg_sl ([.ref h0, .ref h1])).length) Slot.unset).toArray = ls at hl ⊢
  have hl : lv_has ls 3 [(0, .ref h0), (1, .ref h1)] := hl
  generalize hHe : s.heap = H at hP ⊢
  have hS : va_S A s.heap H [] := by rw [← hHe]; exact va_S.rf
  refine lv_aload_n hx hb dX0_copyOf_0 rfl (lv_at hl 0 rfl) ?_
  refine va_get (D := (dC, dI)) (ci := 0) (v := .ref w) (C := RX0) (T := TX0) (N := 2) hx hb hts iX0_copyOf_X0 hown hK hP 0 rfl rfl 0 (by decide) (hts (.fieldLink RX0 9 "LeafSigner$ByteRow" "words" "[I") (List.mem_of_getElem? (i := 1) rfl)) (fun _ h9 => h9) rfl dX0_copyOf_1 ?_
  refine va_alen (v := (Int32.ofNat N)) hx hb hK hP 1 0 rfl rfl rfl dX0_copyOf_4 ?_
  refine lv_aload_n hx hb dX0_copyOf_5 rfl (lv_at hl 1 rfl) ?_
  refine va_get (D := (dC, dI)) (ci := 0) (v := .ref w1) (C := RX0) (T := TX0) (N := 2) hx hb hts iX0_copyOf_X0 hown hK hP 2 rfl rfl 0 (by decide) (hts (.fieldLink RX0 9 "LeafSigner$ByteRow" "words" "[I") (List.mem_of_getElem? (i := 1) rfl)) (fun _ h9 => h9) rfl dX0_copyOf_6 ?_
  refine va_alen (v := (Int32.ofNat N)) hx hb hK hP 3 1 rfl rfl rfl dX0_copyOf_9 ?_
  refine va_mmin hx hb (hml.trans hl.1.symm) hown (hts (.methodLink RX0 23 Lib.Math.min.name) (List.mem_of_getElem? (i := 2) rfl)) (hts (.static Lib.Math.min.name) (List.mem_of_getElem? (i := 3) rfl)) (hts (.initialized "java/lang/Math") (List.mem_of_getElem? (i := 4) rfl)) (hts (.code Lib.Math.min.name Lib.Math.min.code 2 (some .int)) (List.mem_of_getElem? (i := 5) rfl)) (Nat.le_of_ble_eq_true rfl) (Nat.le_of_ble_eq_true rfl) (Nat.le_of_ble_eq_true rfl) (Nat.le_of_ble_eq_true rfl) dX0_copyOf_10 ?_
  refine vx_topk (Int32.ofNat N) (vx_mm _) ?_
  refine lv_istore_n (lv' := [(2, .int (Int32.ofNat N)), (0, .ref h0), (1, .ref h1)]) hx hb dX0_copyOf_13 rfl hl (by decide) rfl (fun ls hl => ?_)
  refine lv_aload_n hx hb dX0_copyOf_14 rfl (lv_at hl 2 rfl) ?_
  refine va_get (D := (dC, dI)) (ci := 0) (v := .ref w1) (C := RX0) (T := TX0) (N := 2) hx hb hts iX0_copyOf_X0 hown hK hP 2 rfl rfl 0 (by decide) (hts (.fieldLink RX0 9 "LeafSigner$ByteRow" "words" "[I") (List.mem_of_getElem? (i := 1) rfl)) (fun _ h9 => h9) rfl dX0_copyOf_15 ?_
  refine lv_iconst (v := 0) hx hb dX0_copyOf_18 (by decide) ?_
  refine lv_aload_n hx hb dX0_copyOf_19 rfl (lv_at hl 1 rfl) ?_
  refine va_get (D := (dC, dI)) (ci := 0) (v := .ref w) (C := RX0) (T := TX0) (N := 2) hx hb hts iX0_copyOf_X0 hown hK hP 0 rfl rfl 0 (by decide) (hts (.fieldLink RX0 9 "LeafSigner$ByteRow" "words" "[I") (List.mem_of_getElem? (i := 1) rfl)) (fun _ h9 => h9) rfl dX0_copyOf_20 ?_
  refine lv_iconst (v := 0) hx hb dX0_copyOf_23 (by decide) ?_
  refine lv_iload_n hx hb dX0_copyOf_24 rfl (lv_at hl 0 rfl) ?_
  refine va_copyi hx hb (hml.trans hl.1.symm) hown (hts (.methodLink RX0 29 arraycopyName) (List.mem_of_getElem? (i := 6) rfl)) (hts (.native arraycopyName) (List.mem_of_getElem? (i := 7) rfl)) (hts (.static arraycopyName) (List.mem_of_getElem? (i := 8) rfl)) (hts (.initialized "java/lang/System") (List.mem_of_getElem? (i := 9) rfl)) hK hP hD hS 3 1 1 0 rfl rfl rfl rfl rfl (by decide) (by decide) (vx_N3 hN).1 (vx_N3 hN).2.1 (vx_N3 hN).2.1 (fun _ _ => rfl) (Nat.le_of_ble_eq_true rfl) (Nat.le_of_ble_eq_true rfl) dX0_copyOf_25 (fun H locs hP hD hS => ?_)
  have hP : va_P (dC, dI) classes [(h0, .inr (0, [.ref w, .int 0])), (w, .inl (cA, N, .inl (va_cpy f1 f (0 : Int32).toNatClampNeg (0 : Int32).toNatClampNeg (Int32.ofNat N).toNatClampNeg))), (h1, .inr (0, [.ref w1, .int 0])), (w1, .inl (cB, N, .inl f1))] H := hP
  have hD : va_D A [(h0, .inr (0, [.ref w, .int 0])), (w, .inl (cA, N, .inl (va_cpy f1 f (0 : Int32).toNatClampNeg (0 : Int32).toNatClampNeg (Int32.ofNat N).toNatClampNeg))), (h1, .inr (0, [.ref w1, .int 0])), (w1, .inl (cB, N, .inl f1))] := hD
  refine lv_aload_n hx hb dX0_copyOf_28 rfl (lv_at hl 1 rfl) ?_
  refine lv_iload_n hx hb dX0_copyOf_29 rfl (lv_at hl 0 rfl) ?_
  refine lv_iconst (v := 4) hx hb dX0_copyOf_30 (by decide) ?_
  refine lv_imul hx hb dX0_copyOf_31 ?_
  refine lv_aload_n hx hb dX0_copyOf_32 rfl (lv_at hl 2 rfl) ?_
  refine va_get (D := (dC, dI)) (ci := 0) (v := .int 0) (C := RX0) (T := TX0) (N := 2) hx hb hts iX0_copyOf_X0 hown hK hP 2 rfl rfl 1 (by decide) (hts (.fieldLink RX0 15 "LeafSigner$ByteRow" "count" "I") (List.mem_of_getElem? (i := 10) rfl)) (fun _ h9 => h9) rfl dX0_copyOf_33 ?_
  refine va_mmin hx hb (hml.trans hl.1.symm) hown (hts (.methodLink RX0 23 Lib.Math.min.name) (List.mem_of_getElem? (i := 2) rfl)) (hts (.static Lib.Math.min.name) (List.mem_of_getElem? (i := 3) rfl)) (hts (.initialized "java/lang/Math") (List.mem_of_getElem? (i := 4) rfl)) (hts (.code Lib.Math.min.name Lib.Math.min.code 2 (some .int)) (List.mem_of_getElem? (i := 5) rfl)) (Nat.le_of_ble_eq_true rfl) (Nat.le_of_ble_eq_true rfl) (Nat.le_of_ble_eq_true rfl) (Nat.le_of_ble_eq_true rfl) dX0_copyOf_36 ?_
  refine vx_topk 0 (vx_N3 hN).2.2 ?_
  refine va_put (D := (dC, dI)) (ci := 0) (v := .int 0) (ty := .int) (C := RX0) (T := TX0) (N := 2) hx hb hts iX0_copyOf_X0 tyX0 tyX0_ok nmX0 hown hK hP hD hS 0 rfl rfl 1 (by decide) (hts (.fieldLink RX0 15 "LeafSigner$ByteRow" "count" "I") (List.mem_of_getElem? (i := 10) rfl)) (fun _ h9 => h9) rfl (by decide +kernel) rfl rfl (Nat.le_of_ble_eq_true rfl) dX0_copyOf_39 (fun H locs hP hD hS => ?_)
  have hP : va_P (dC, dI) classes [(h0, .inr (0, [.ref w, .int 0])), (w, .inl (cA, N, .inl (va_cpy f1 f (0 : Int32).toNatClampNeg (0 : Int32).toNatClampNeg (Int32.ofNat N).toNatClampNeg))), (h1, .inr (0, [.ref w1, .int 0])), (w1, .inl (cB, N, .inl f1))] H := hP
  have hD : va_D A [(h0, .inr (0, [.ref w, .int 0])), (w, .inl (cA, N, .inl (va_cpy f1 f (0 : Int32).toNatClampNeg (0 : Int32).toNatClampNeg (Int32.ofNat N).toNatClampNeg))), (h1, .inr (0, [.ref w1, .int 0])), (w1, .inl (cB, N, .inl f1))] := hD
  refine W.widen (k := 0) (n := 0) (Nat.le_of_ble_eq_true rfl) (Nat.le_of_ble_eq_true rfl) ?_
  have hP9 := hP.sub (ws' := [(h0, .inr (0, [.ref w, .int 0]))]) [0] rfl
  have hD9 := hD.sub (ws' := [(h0, .inr (0, [.ref w, .int 0]))]) [0] (by decide) rfl
  have hK9 := hK.sub (tys' := []) [] rfl
  exact W.vret hx hb hr (fun t ht hW => ⟨⟨(), rfl, trivial, ⟨by rw [ht]; exact hP9, va_K.moved hW.alike hK9, hD9⟩⟩, hS.F ht⟩) hS.2.2 dX0_copyOf_42
end
section
def ww_X0_init : List Cond := .code yX0_init cX0_init 2 none :: ([.methodLink RX0 3 objectInit, .instanceMethod objectInit, .code objectInit ⟨#[0xb1]⟩ 1 none, .arrayClass .int, .fieldLink RX0 9 "LeafSigner$ByteRow" "words" "[I", .fieldLink RX0 15 "LeafSigner$ByteRow" "count" "I"] ++ (wsX00))
theorem iX0_init_X0 : ∀ w ∈ wsX00, w ∈ ww_X0_init := fun w h => List.mem_cons_of_mem _ (List.mem_append_right _ h)
set_option maxHeartbeats 4000000 in
set_option maxRecDepth 100000 in
theorem ct_ByteRow (l : Launch) (dC : Nat → ClassId) (dI : Nat → Nat → Nat) (sz : Nat) (h0 : Nat) (n : Int32) (N : Nat) (MS : Nat) (hn : ¬ n < 0) (hN : n.toNatClampNeg = N) (hM : N ≤ MS) (hB : N ≤ 100000) : Met l yX0_init ww_X0_init ({ frames := 1, cells := 1, slots := MS, locals := 20 }) (va_Pc [.ref h0, .int n] (fun U => U.heap.size = sz ∧ va_P (dC, dI) classes [(h0, .inr (0, [.null, .int 0]))] U.heap ∧ va_K (dC, dI) classes [] U ∧ va_D (fun _ => True) [(h0, .inr (0, [.null, .int 0]))])) (va_Qv (fun (_ : Unit) => True) (fun (_ : Unit) (t : State) => ∃ qw0 : Nat, ∃ cA0 : ClassId, va_P (dC, dI) classes [(h0, .inr (0, [.ref qw0, .int 0])), (qw0, .inl (cA0, N, .inl (fun _ => 0)))] t.heap ∧ va_K (dC, dI) classes [(cA0, .int)] t ∧ va_D (va_A [(h0, .inr (0, [.null, .int 0]))] sz) [(h0, .inr (0, [.ref qw0, .int 0])), (qw0, .inl (cA0, N, .inl (fun _ => 0)))]) (va_A [(h0, .inr (0, [.null, .int 0]))] sz)) 1 MS (va_A [(h0, .inr (0, [.null, .int 0]))] sz) := by
  refine Met.ofW (cc := cX0_init) (maxL := 2) (ret := none) (by decide) rfl ?_
  intro p e s m args below meth c s₁ B hml hv
  obtain ⟨rfl, hsz, hP, hK, hD0⟩ := hv
  have hx := B.exec
  have hb := B.bytes
  have hr := B.returns
  have hts := atoms_spec (ws := ww_X0_init) B.pre
  have hown : s.vm.findClass RX0 = some m.cls := findClass_of_methodNamed B.named
  have hlocks := B.notSynchronized
  have hin : meth.name = "<init>" := (name_of_methodNamed B.named B.method).1
  subst hsz
  have hD := hD0.self (sz := s.heap.size)
  generalize hAe : va_A [(h0, .inr (0, [.null, .int 0]))] s.heap.size = A at hD ⊢
  have hA : ∀ q : Nat, s.heap.size ≤ q → A q := fun q h => by rw [← hAe]; exact Or.inr h
  have hS : va_S A s.heap s.heap [] := va_S.rf
  have hP : va_P (dC, dI) classes [(h0, .inr (0, [.null, .int 0]))] s.heap := hP
  have hl := lv_entry ([.ref h0, .int n]) (n := 2) (Nat.le_of_ble_eq_true rfl)
  rw [lg_entry_eq]
  generalize (lg_sl ([.ref h0, .int n]) ++ List.replicate (2 - (lg_sl ([.ref h0, .int n])).length) Slot.unset).toArray = ls at hl ⊢
  have hl : lv_has ls 2 [(0, .ref h0), (1, .int n)] := hl
  generalize hHe : s.heap = H at hP ⊢
  have hS : va_S A s.heap H [] := by rw [← hHe]; exact va_S.rf
  refine lv_aload_n hx hb dX0_init_0 rfl (lv_at hl 0 rfl) ?_
  refine W.objInit hx hb hown (hts (.methodLink RX0 3 objectInit) (List.mem_of_getElem? (i := 1) rfl)) (hts (.instanceMethod objectInit) (List.mem_of_getElem? (i := 2) rfl)) (hts (.code objectInit ⟨#[0xb1]⟩ 1 none) (List.mem_of_getElem? (i := 3) rfl)) rfl (by rw [hml]; exact hl.1) rfl dX0_init_1 (Nat.le_of_ble_eq_true rfl) (Nat.le_of_ble_eq_true rfl) ?_
  refine W.eq (g2 := F0 m 4 ls []) rfl ?_
  refine lv_aload_n hx hb dX0_init_4 rfl (lv_at hl 0 rfl) ?_
  refine lv_iload_n hx hb dX0_init_5 rfl (lv_at hl 1 rfl) ?_
  refine va_newa (atype := .int) (ty := .int) (a0 := (N, .inl (fun _ => 0))) hx hb (hts (.arrayClass .int) (List.mem_of_getElem? (i := 4) rfl)) rfl hK hP hD hS hA (fun _ => rfl) hn hN (by show N * 4 ≤ 536870912; omega) (Nat.le_of_ble_eq_true rfl) (by show 0 + N ≤ MS; omega) dX0_init_6 (fun q10 cA11 H hK hP hD hS => ?_)
  have hK : va_K (dC, dI) classes [(cA11, .int)] s := hK
  have hP : va_P (dC, dI) classes [(h0, .inr (0, [.null, .int 0])), (q10, .inl (cA11, N, .inl (fun _ => 0)))] H := hP
  have hD : va_D A [(h0, .inr (0, [.null, .int 0])), (q10, .inl (cA11, N, .inl (fun _ => 0)))] := hD
  refine va_putF (D := (dC, dI)) (ci := 0) (v := .ref q10) (ty := .array .int) (C := RX0) (T := TX0) (N := 2) hx hb hts iX0_init_X0 tyX0 tyX0_ok nmX0 hown hK hP hD hS 0 rfl rfl 0 (by decide) (hts (.fieldLink RX0 9 "LeafSigner$ByteRow" "words" "[I") (List.mem_of_getElem? (i := 5) rfl)) (fun _ h9 => h9) rfl hin rfl (by decide +kernel) rfl rfl (Nat.le_of_ble_eq_true rfl) dX0_init_8 (fun H locs hP hD hS => ?_)
  have hP : va_P (dC, dI) classes [(h0, .inr (0, [.ref q10, .int 0])), (q10, .inl (cA11, N, .inl (fun _ => 0)))] H := hP
  have hD : va_D A [(h0, .inr (0, [.ref q10, .int 0])), (q10, .inl (cA11, N, .inl (fun _ => 0)))] := hD
  refine lv_aload_n hx hb dX0_init_11 rfl (lv_at hl 0 rfl) ?_
  refine lv_iconst (v := 0) hx hb dX0_init_12 (by decide) ?_
  refine va_put (D := (dC, dI)) (ci := 0) (v := .int 0) (ty := .int) (C := RX0) (T := TX0) (N := 2) hx hb hts iX0_init_X0 tyX0 tyX0_ok nmX0 hown hK hP hD hS 0 rfl rfl 1 (by decide) (hts (.fieldLink RX0 15 "LeafSigner$ByteRow" "count" "I") (List.mem_of_getElem? (i := 6) rfl)) (fun _ h9 => h9) rfl (by decide +kernel) rfl rfl (Nat.le_of_ble_eq_true rfl) dX0_init_13 (fun H locs hP hD hS => ?_)
  have hP : va_P (dC, dI) classes [(h0, .inr (0, [.ref q10, .int 0])), (q10, .inl (cA11, N, .inl (fun _ => 0)))] H := hP
  have hD : va_D A [(h0, .inr (0, [.ref q10, .int 0])), (q10, .inl (cA11, N, .inl (fun _ => 0)))] := hD
  refine W.widen (k := 1) (n := MS) (Nat.le_of_ble_eq_true rfl) (by show 0 + N ≤ MS; omega) ?_
  have hP9 := hP.sub (ws' := [(h0, .inr (0, [.ref q10, .int 0])), (q10, .inl (cA11, N, .inl (fun _ => 0)))]) [0, 1] rfl
  have hD9 := hD.sub (ws' := [(h0, .inr (0, [.ref q10, .int 0])), (q10, .inl (cA11, N, .inl (fun _ => 0)))]) [0, 1] (by decide) rfl
  have hK9 := hK.sub (tys' := [(cA11, .int)]) [0] rfl
  exact W.vret hx hb hr (fun t ht hW => ⟨⟨(), rfl, trivial, ⟨q10, cA11, by rw [ht]; exact hP9, va_K.moved hW.alike hK9, hD9⟩⟩, hS.F ht⟩) hS.2.2 dX0_init_16
end
section
def ww_X1_init : List Cond := .code yX1_init cX1_init 1 none :: ([.methodLink RX1 3 objectInit, .instanceMethod objectInit, .code objectInit ⟨#[0xb1]⟩ 1 none, .classLink RX1 9 RX0, .instantiable RX0 2, .initialized RX0, .code yX0_init cX0_init 2 none, .methodLink RX0 3 objectInit, .arrayClass .int, .fieldLink RX0 9 "LeafSigner$ByteRow" "words" "[I", .fieldLink RX0 15 "LeafSigner$ByteRow" "count" "I", .methodLink RX1 13 yX0_init, .instanceMethod yX0_init, .fieldLink RX1 16 "LeafSigner$Disk" "bytes" "LLeafSigner$ByteRow;", .methodLink RX1 20 yX0_fill, .instanceMethod yX0_fill, .selects RX0 yX0_fill yX0_fill, .code yX0_fill cX0_fill 1 none, .fieldLink RX1 23 "LeafSigner$Disk" "written" "I", .fieldLink RX1 27 "LeafSigner$Disk" "fuseLeft" "I"] ++ (wsX00 ++ wsX10))
theorem iX1_init_X0 : ∀ w ∈ wsX00, w ∈ ww_X1_init := fun w h => List.mem_cons_of_mem _ (List.mem_append_right _ (List.mem_append_left _ h))
theorem iX1_init_X1 : ∀ w ∈ wsX10, w ∈ ww_X1_init := fun w h => List.mem_cons_of_mem _ (List.mem_append_right _ (List.mem_append_right _ h))
set_option maxRecDepth 20000 in
theorem gX1_init_X0_init_13 : GoodIn ww_X1_init ww_X0_init := vx_good _ [7, 8, 2, 3, 9, 10, 11, 21, 22] rfl (by decide +kernel)
set_option maxRecDepth 20000 in
theorem gX1_init_X0_fill_20 : GoodIn ww_X1_init (wsV RX1 20 RX0 yX0_fill ww_X0_fill) := vx_good _ [15, 16, 17, 6, 18, 10, 11, 21, 22] rfl (by decide +kernel)
set_option maxHeartbeats 4000000 in
set_option maxRecDepth 100000 in
theorem ct_Disk (l : Launch) (dC : Nat → ClassId) (dI : Nat → Nat → Nat) (sz : Nat) (h0 : Nat) : Met l yX1_init ww_X1_init ({ frames := 2, cells := 2, slots := 8, locals := 41 }) (va_Pc [.ref h0] (fun U => U.heap.size = sz ∧ va_P (dC, dI) classes [(h0, .inr (1, [.null, .int 0, .int 0]))] U.heap ∧ va_K (dC, dI) classes [] U ∧ va_D (fun _ => True) [(h0, .inr (1, [.null, .int 0, .int 0]))])) (va_Qv (fun (_ : Unit) => True) (fun (_ : Unit) (t : State) => ∃ qb0 : Nat, ∃ qw0 : Nat, ∃ cA0 : ClassId, va_P (dC, dI) classes [(h0, .inr (1, [.ref qb0, .int 0, .int (-1)])), (qb0, .inr (0, [.ref qw0, .int 24])), (qw0, .inl (cA0, 6, .inl (fun _ => 0)))] t.heap ∧ va_K (dC, dI) classes [(cA0, .int)] t ∧ va_D (va_A [(h0, .inr (1, [.null, .int 0, .int 0]))] sz) [(h0, .inr (1, [.ref qb0, .int 0, .int (-1)])), (qb0, .inr (0, [.ref qw0, .int 24])), (qw0, .inl (cA0, 6, .inl (fun _ => 0)))]) (va_A [(h0, .inr (1, [.null, .int 0, .int 0]))] sz)) 2 8 (va_A [(h0, .inr (1, [.null, .int 0, .int 0]))] sz) := by
  refine Met.ofW (cc := cX1_init) (maxL := 1) (ret := none) (by decide) rfl ?_
  intro p e s m args below meth c s₁ B hml hv
  obtain ⟨rfl, hsz, hP, hK, hD0⟩ := hv
  have hx := B.exec
  have hb := B.bytes
  have hr := B.returns
  have hts := atoms_spec (ws := ww_X1_init) B.pre
  have hown : s.vm.findClass RX1 = some m.cls := findClass_of_methodNamed B.named
  have hlocks := B.notSynchronized
  have hin : meth.name = "<init>" := (name_of_methodNamed B.named B.method).1
  subst hsz
  have hD := hD0.self (sz := s.heap.size)
  generalize hAe : va_A [(h0, .inr (1, [.null, .int 0, .int 0]))] s.heap.size = A at hD ⊢
  have hA : ∀ q : Nat, s.heap.size ≤ q → A q := fun q h => by rw [← hAe]; exact Or.inr h
  have hS : va_S A s.heap s.heap [] := va_S.rf
  have hP : va_P (dC, dI) classes [(h0, .inr (1, [.null, .int 0, .int 0]))] s.heap := hP
  have hl := lv_entry ([.ref h0]) (n := 1) (Nat.le_of_ble_eq_true rfl)
  rw [lg_entry_eq]
  generalize (lg_sl ([.ref h0]) ++ List.replicate (1 - (lg_sl ([.ref h0])).length) Slot.unset).toArray = ls at hl ⊢
  have hl : lv_has ls 1 [(0, .ref h0)] := hl
  generalize hHe : s.heap = H at hP ⊢
  have hS : va_S A s.heap H [] := by rw [← hHe]; exact va_S.rf
  refine lv_aload_n hx hb dX1_init_0 rfl (lv_at hl 0 rfl) ?_
  refine W.objInit hx hb hown (hts (.methodLink RX1 3 objectInit) (List.mem_of_getElem? (i := 1) rfl)) (hts (.instanceMethod objectInit) (List.mem_of_getElem? (i := 2) rfl)) (hts (.code objectInit ⟨#[0xb1]⟩ 1 none) (List.mem_of_getElem? (i := 3) rfl)) rfl (by rw [hml]; exact hl.1) rfl dX1_init_1 (Nat.le_of_ble_eq_true rfl) (Nat.le_of_ble_eq_true rfl) ?_
  refine W.eq (g2 := F0 m 4 ls []) rfl ?_
  refine lv_aload_n hx hb dX1_init_4 rfl (lv_at hl 0 rfl) ?_
  refine va_new (ci := 0) (fs := [.null, .int 0]) (C := RX0) (T := TX0) (N := 2) hx hb hts iX1_init_X0 tyX0 tyX0_ok hown (hts (.classLink RX1 9 RX0) (List.mem_of_getElem? (i := 4) rfl)) (hts (.instantiable RX0 2) (List.mem_of_getElem? (i := 5) rfl)) (hts (.initialized RX0) (List.mem_of_getElem? (i := 6) rfl)) hK hP hD hS hA rfl (by decide) (Nat.le_of_ble_eq_true rfl) (Nat.le_of_ble_eq_true rfl) dX1_init_5 (fun q12 H hP hD hS => ?_)
  have hP : va_P (dC, dI) classes [(h0, .inr (1, [.null, .int 0, .int 0])), (q12, .inr (0, [.null, .int 0]))] H := hP
  have hD : va_D A [(h0, .inr (1, [.null, .int 0, .int 0])), (q12, .inr (0, [.null, .int 0]))] := hD
  refine W.widen (k := 1) (n := 2) (Nat.le_of_ble_eq_true rfl) (Nat.le_of_ble_eq_true rfl) ?_
  refine lv_dup hx hb dX1_init_8 rfl ?_
  refine lv_bipush (v := 6) hx hb dX1_init_9 (by decide) ?_
  have hPc := hP.sub (ws' := [(q12, .inr (0, [.null, .int 0]))]) [1] rfl
  have hDc := hD.sub (ws' := [(q12, .inr (0, [.null, .int 0]))]) [1] (by decide) rfl
  have hKc := hK.sub (tys' := []) [] rfl
  have hFc := va_free (wc := [(q12, .inr (0, [.null, .int 0]))]) hD hS hA [1] rfl
  refine va_callv (va_runI (As := [.int 6]) (rest := [.ref q12, .ref h0]) ⟨hx, hb, hml, hown, hts⟩ (ct_ByteRow l dC dI H.size q12 6 6 6 (by decide) (by decide) (by decide) (by decide)) (cwI 1 hts gX1_init_X0_init_13 rfl rfl rfl (hts (.initialized RX0) (List.mem_of_getElem? (i := 6) rfl)) (hts (.methodLink RX1 13 yX0_init) (List.mem_of_getElem? (i := 12) rfl)) (hts (.instanceMethod yX0_init) (List.mem_of_getElem? (i := 13) rfl)) rfl (by decide +kernel) ⟨(Nat.le_of_ble_eq_true rfl), (Nat.le_of_ble_eq_true rfl)⟩) ⟨fun a U g mk q => by obtain ⟨q0, q1, qP, qK, qD⟩ := q; exact ⟨q0, q1, qP, va_K.moved (u := U) (U := U.calling g mk a) (Vm.Alike.refl U.vm) qK, qD⟩, fun U hU hW => ⟨rfl, by rw [hU], by rw [hU]; exact hPc, va_K.moved hW.alike hKc, hDc.weaken (fun _ _ _ _ => trivial)⟩⟩ rfl rfl hl.1 rfl (lv_room (Nat.le_of_ble_eq_true rfl)) dX1_init_11 ⟨(Nat.le_of_ble_eq_true rfl), (Nat.le_of_ble_eq_true rfl)⟩) hS (fun q _ h => hFc q h) hFc (fun u t H1 locs ht hvm hw hB hz1 hk1 hS => ?_)
  obtain ⟨qw_14, cA_15, hP1, hK1, hD1⟩ := hB
  rw [ht] at hP1
  have hK1 := va_K.moved hvm.symm hK1
  obtain ⟨hP, hD⟩ := va_join (wr := [(h0, .inr (1, [.null, .int 0, .int 0]))]) (w1 := [(q12, .inr (0, [.ref qw_14, .int 0])), (qw_14, .inl (cA_15, 6, .inl (fun _ => 0)))]) hP hD [1] [0] rfl rfl (by decide) (by decide) hk1 hFc hP1 hD1
  have hK := hK.sub (tys' := []) [] rfl
  have hK := hK.app hK1
  generalize H1 = H at hP hS ⊢
  have hP : va_P (dC, dI) classes [(h0, .inr (1, [.null, .int 0, .int 0])), (q12, .inr (0, [.ref qw_14, .int 0])), (qw_14, .inl (cA_15, 6, .inl (fun _ => 0)))] H := hP
  have hD : va_D A [(h0, .inr (1, [.null, .int 0, .int 0])), (q12, .inr (0, [.ref qw_14, .int 0])), (qw_14, .inl (cA_15, 6, .inl (fun _ => 0)))] := hD
  have hK : va_K (dC, dI) classes [(cA_15, .int)] s := hK
  refine W.widen (k := 2) (n := 8) (Nat.le_of_ble_eq_true rfl) (Nat.le_of_ble_eq_true rfl) ?_
  refine va_putF (D := (dC, dI)) (ci := 1) (v := .ref q12) (ty := .object "LeafSigner$ByteRow") (C := RX1) (T := TX1) (N := 3) hx hb hts iX1_init_X1 tyX1 tyX1_ok nmX1 hown hK hP hD hS 0 rfl rfl 0 (by decide) (hts (.fieldLink RX1 16 "LeafSigner$Disk" "bytes" "LLeafSigner$ByteRow;") (List.mem_of_getElem? (i := 14) rfl)) (fun _ h9 => h9) rfl hin rfl (by decide +kernel) rfl rfl (Nat.le_of_ble_eq_true rfl) dX1_init_14 (fun H locs hP hD hS => ?_)
  have hP : va_P (dC, dI) classes [(h0, .inr (1, [.ref q12, .int 0, .int 0])), (q12, .inr (0, [.ref qw_14, .int 0])), (qw_14, .inl (cA_15, 6, .inl (fun _ => 0)))] H := hP
  have hD : va_D A [(h0, .inr (1, [.ref q12, .int 0, .int 0])), (q12, .inr (0, [.ref qw_14, .int 0])), (qw_14, .inl (cA_15, 6, .inl (fun _ => 0)))] := hD
  refine lv_aload_n hx hb dX1_init_17 rfl (lv_at hl 0 rfl) ?_
  refine va_get (D := (dC, dI)) (ci := 1) (v := .ref q12) (C := RX1) (T := TX1) (N := 3) hx hb hts iX1_init_X1 hown hK hP 0 rfl rfl 0 (by decide) (hts (.fieldLink RX1 16 "LeafSigner$Disk" "bytes" "LLeafSigner$ByteRow;") (List.mem_of_getElem? (i := 14) rfl)) (fun _ h9 => h9) rfl dX1_init_18 ?_
  have hPc := hP.sub (ws' := [(q12, .inr (0, [.ref qw_14, .int 0])), (qw_14, .inl (cA_15, 6, .inl (fun _ => 0)))]) [1, 2] rfl
  have hDc := hD.sub (ws' := [(q12, .inr (0, [.ref qw_14, .int 0])), (qw_14, .inl (cA_15, 6, .inl (fun _ => 0)))]) [1, 2] (by decide) rfl
  have hKc := hK.sub (tys' := [(cA_15, .int)]) [0] rfl
  have hFc := va_free (wc := [(q12, .inr (0, [.ref qw_14, .int 0])), (qw_14, .inl (cA_15, 6, .inl (fun _ => 0)))]) hD hS hA [1, 2] rfl
  refine va_callv (va_runV (As := []) (rest := []) ⟨hx, hb, hml, hown, hts⟩ (ct_fill l dC dI H.size q12 qw_14 0 cA_15 6 (fun _ => 0) 24 (by decide)) (cwV 0 hts gX1_init_X0_fill_20 rfl rfl rfl (by decide +kernel) ⟨(Nat.le_of_ble_eq_true rfl), (Nat.le_of_ble_eq_true rfl)⟩) ⟨fun a U g mk q => by obtain ⟨q0, q1, qP, qK, qD⟩ := q; exact ⟨q0, q1, qP, va_K.moved (u := U) (U := U.calling g mk a) (Vm.Alike.refl U.vm) qK, qD⟩, va_recv hKc hPc (ci := 0) (q0 := 0) rfl rfl, fun U hU hW => ⟨rfl, by rw [hU], by rw [hU]; exact hPc, va_K.moved hW.alike hKc, hDc.weaken (fun _ _ _ _ => trivial)⟩⟩ rfl rfl hl.1 rfl (lv_room (Nat.le_of_ble_eq_true rfl)) dX1_init_21 ⟨(Nat.le_of_ble_eq_true rfl), (Nat.le_of_ble_eq_true rfl)⟩) hS (fun q _ h => hFc q h) hFc (fun u t H1 locs ht hvm hw hB hz1 hk1 hS => ?_)
  obtain ⟨hP1, hK1, hD1⟩ := hB
  rw [ht] at hP1
  have hK1 := va_K.moved hvm.symm hK1
  obtain ⟨hP, hD⟩ := va_join (wr := [(h0, .inr (1, [.ref q12, .int 0, .int 0]))]) (w1 := [(q12, .inr (0, [.ref qw_14, .int 24])), (qw_14, .inl (cA_15, 6, .inl (fun _ => 0)))]) hP hD [1, 2] [0] rfl rfl (by decide) (by decide) hk1 hFc hP1 hD1
  have hK := hK.sub (tys' := []) [] rfl
  have hK := hK.app hK1
  generalize H1 = H at hP hS ⊢
  have hP : va_P (dC, dI) classes [(h0, .inr (1, [.ref q12, .int 0, .int 0])), (q12, .inr (0, [.ref qw_14, .int 24])), (qw_14, .inl (cA_15, 6, .inl (fun _ => 0)))] H := hP
  have hD : va_D A [(h0, .inr (1, [.ref q12, .int 0, .int 0])), (q12, .inr (0, [.ref qw_14, .int 24])), (qw_14, .inl (cA_15, 6, .inl (fun _ => 0)))] := hD
  have hK : va_K (dC, dI) classes [(cA_15, .int)] s := hK
  refine W.widen (k := 2) (n := 8) (Nat.le_of_ble_eq_true rfl) (Nat.le_of_ble_eq_true rfl) ?_
  refine lv_aload_n hx hb dX1_init_24 rfl (lv_at hl 0 rfl) ?_
  refine lv_iconst (v := 0) hx hb dX1_init_25 (by decide) ?_
  refine va_put (D := (dC, dI)) (ci := 1) (v := .int 0) (ty := .int) (C := RX1) (T := TX1) (N := 3) hx hb hts iX1_init_X1 tyX1 tyX1_ok nmX1 hown hK hP hD hS 0 rfl rfl 1 (by decide) (hts (.fieldLink RX1 23 "LeafSigner$Disk" "written" "I") (List.mem_of_getElem? (i := 19) rfl)) (fun _ h9 => h9) rfl (by decide +kernel) rfl rfl (Nat.le_of_ble_eq_true rfl) dX1_init_26 (fun H locs hP hD hS => ?_)
  have hP : va_P (dC, dI) classes [(h0, .inr (1, [.ref q12, .int 0, .int 0])), (q12, .inr (0, [.ref qw_14, .int 24])), (qw_14, .inl (cA_15, 6, .inl (fun _ => 0)))] H := hP
  have hD : va_D A [(h0, .inr (1, [.ref q12, .int 0, .int 0])), (q12, .inr (0, [.ref qw_14, .int 24])), (qw_14, .inl (cA_15, 6, .inl (fun _ => 0)))] := hD
  refine lv_aload_n hx hb dX1_init_29 rfl (lv_at hl 0 rfl) ?_
  refine lv_iconst (v := (-1)) hx hb dX1_init_30 (by decide) ?_
  refine va_put (D := (dC, dI)) (ci := 1) (v := .int (-1)) (ty := .int) (C := RX1) (T := TX1) (N := 3) hx hb hts iX1_init_X1 tyX1 tyX1_ok nmX1 hown hK hP hD hS 0 rfl rfl 2 (by decide) (hts (.fieldLink RX1 27 "LeafSigner$Disk" "fuseLeft" "I") (List.mem_of_getElem? (i := 20) rfl)) (fun _ h9 => h9) rfl (by decide +kernel) rfl rfl (Nat.le_of_ble_eq_true rfl) dX1_init_31 (fun H locs hP hD hS => ?_)
  have hP : va_P (dC, dI) classes [(h0, .inr (1, [.ref q12, .int 0, .int (-1)])), (q12, .inr (0, [.ref qw_14, .int 24])), (qw_14, .inl (cA_15, 6, .inl (fun _ => 0)))] H := hP
  have hD : va_D A [(h0, .inr (1, [.ref q12, .int 0, .int (-1)])), (q12, .inr (0, [.ref qw_14, .int 24])), (qw_14, .inl (cA_15, 6, .inl (fun _ => 0)))] := hD
  refine W.widen (k := 2) (n := 8) (Nat.le_of_ble_eq_true rfl) (Nat.le_of_ble_eq_true rfl) ?_
  have hP9 := hP.sub (ws' := [(h0, .inr (1, [.ref q12, .int 0, .int (-1)])), (q12, .inr (0, [.ref qw_14, .int 24])), (qw_14, .inl (cA_15, 6, .inl (fun _ => 0)))]) [0, 1, 2] rfl
  have hD9 := hD.sub (ws' := [(h0, .inr (1, [.ref q12, .int 0, .int (-1)])), (q12, .inr (0, [.ref qw_14, .int 24])), (qw_14, .inl (cA_15, 6, .inl (fun _ => 0)))]) [0, 1, 2] (by decide) rfl
  have hK9 := hK.sub (tys' := [(cA_15, .int)]) [0] rfl
  exact W.vret hx hb hr (fun t ht hW => ⟨⟨(), rfl, trivial, ⟨q12, qw_14, cA_15, by rw [ht]; exact hP9, va_K.moved hW.alike hK9, hD9⟩⟩, hS.F ht⟩) hS.2.2 dX1_init_34
end
section
def ww_X3_init : List Cond := .code yX3_init cX3_init 4 none :: ([.methodLink RX3 1 objectInit, .instanceMethod objectInit, .code objectInit ⟨#[0xb1]⟩ 1 none, .arrayClass .int, .fieldLink RX3 7 "LeafSigner$Machine" "fates" "[I", .fieldLink RX3 13 "LeafSigner$Machine" "reserve" "I", .fieldLink RX3 17 "LeafSigner$Machine" "disk" "LLeafSigner$Disk;", .fieldLink RX3 21 "LeafSigner$Machine" "state" "I", .fieldLink RX3 24 "LeafSigner$Machine" "next" "I", .fieldLink RX3 27 "LeafSigner$Machine" "end" "I", .fieldLink RX3 30 "LeafSigner$Machine" "sequence" "I"] ++ (wsX30))
theorem iX3_init_X3 : ∀ w ∈ wsX30, w ∈ ww_X3_init := fun w h => List.mem_cons_of_mem _ (List.mem_append_right _ h)
set_option maxHeartbeats 4000000 in
set_option maxRecDepth 100000 in
theorem ct_Machine (l : Launch) (dC : Nat → ClassId) (dI : Nat → Nat → Nat) (sz : Nat) (h0 : Nat) (n : Int32) (k : Int32) (dq : Nat) (N : Nat) (hn : ¬ n < 0) (hN : n.toNatClampNeg = N) (hB : N ≤ 16) : Met l yX3_init ww_X3_init ({ frames := 1, cells := 1, slots := 16, locals := 20 }) (va_Pc [.ref h0, .int n, .int k, .ref dq] (fun U => U.heap.size = sz ∧ va_P (dC, dI) classes [(h0, .inr (3, [.null, .int 0, .null, .int 0, .int 0, .int 0, .int 0]))] U.heap ∧ va_K (dC, dI) classes [] U ∧ va_D (fun _ => True) [(h0, .inr (3, [.null, .int 0, .null, .int 0, .int 0, .int 0, .int 0]))])) (va_Qv (fun (_ : Unit) => True) (fun (_ : Unit) (t : State) => ∃ qf0 : Nat, ∃ cA0 : ClassId, va_P (dC, dI) classes [(h0, .inr (3, [.ref qf0, .int k, .ref dq, .int 0, .int 0, .int 0, .int 0])), (qf0, .inl (cA0, N, .inl (fun _ => 0)))] t.heap ∧ va_K (dC, dI) classes [(cA0, .int)] t ∧ va_D (va_A [(h0, .inr (3, [.null, .int 0, .null, .int 0, .int 0, .int 0, .int 0]))] sz) [(h0, .inr (3, [.ref qf0, .int k, .ref dq, .int 0, .int 0, .int 0, .int 0])), (qf0, .inl (cA0, N, .inl (fun _ => 0)))]) (va_A [(h0, .inr (3, [.null, .int 0, .null, .int 0, .int 0, .int 0, .int 0]))] sz)) 1 16 (va_A [(h0, .inr (3, [.null, .int 0, .null, .int 0, .int 0, .int 0, .int 0]))] sz) := by
  refine Met.ofW (cc := cX3_init) (maxL := 4) (ret := none) (by decide) rfl ?_
  intro p e s m args below meth c s₁ B hml hv
  obtain ⟨rfl, hsz, hP, hK, hD0⟩ := hv
  have hx := B.exec
  have hb := B.bytes
  have hr := B.returns
  have hts := atoms_spec (ws := ww_X3_init) B.pre
  have hown : s.vm.findClass RX3 = some m.cls := findClass_of_methodNamed B.named
  have hlocks := B.notSynchronized
  have hin : meth.name = "<init>" := (name_of_methodNamed B.named B.method).1
  subst hsz
  have hD := hD0.self (sz := s.heap.size)
  generalize hAe : va_A [(h0, .inr (3, [.null, .int 0, .null, .int 0, .int 0, .int 0, .int 0]))] s.heap.size = A at hD ⊢
  have hA : ∀ q : Nat, s.heap.size ≤ q → A q := fun q h => by rw [← hAe]; exact Or.inr h
  have hS : va_S A s.heap s.heap [] := va_S.rf
  have hP : va_P (dC, dI) classes [(h0, .inr (3, [.null, .int 0, .null, .int 0, .int 0, .int 0, .int 0]))] s.heap := hP
  have hl := lv_entry ([.ref h0, .int n, .int k, .ref dq]) (n := 4) (Nat.le_of_ble_eq_true rfl)
  rw [lg_entry_eq]
  generalize (lg_sl ([.ref h0, .int n, .int k, .ref dq]) ++ List.replicate (4 - (lg_sl ([.ref h0, .int n, .int k, .ref dq])).length) Slot.unset).toArray = ls at hl ⊢
  have hl : lv_has ls 4 [(0, .ref h0), (1, .int n), (2, .int k), (3, .ref dq)] := hl
  generalize hHe : s.heap = H at hP ⊢
  have hS : va_S A s.heap H [] := by rw [← hHe]; exact va_S.rf
  refine lv_aload_n hx hb dX3_init_0 rfl (lv_at hl 0 rfl) ?_
  refine W.objInit hx hb hown (hts (.methodLink RX3 1 objectInit) (List.mem_of_getElem? (i := 1) rfl)) (hts (.instanceMethod objectInit) (List.mem_of_getElem? (i := 2) rfl)) (hts (.code objectInit ⟨#[0xb1]⟩ 1 none) (List.mem_of_getElem? (i := 3) rfl)) rfl (by rw [hml]; exact hl.1) rfl dX3_init_1 (Nat.le_of_ble_eq_true rfl) (Nat.le_of_ble_eq_true rfl) ?_
  refine W.eq (g2 := F0 m 4 ls []) rfl ?_
  refine lv_aload_n hx hb dX3_init_4 rfl (lv_at hl 0 rfl) ?_
  refine lv_iload_n hx hb dX3_init_5 rfl (lv_at hl 1 rfl) ?_
  refine va_newa (atype := .int) (ty := .int) (a0 := (N, .inl (fun _ => 0))) hx hb (hts (.arrayClass .int) (List.mem_of_getElem? (i := 4) rfl)) rfl hK hP hD hS hA (fun _ => rfl) hn hN (by show N * 4 ≤ 536870912; omega) (Nat.le_of_ble_eq_true rfl) (by show 0 + N ≤ 16; omega) dX3_init_6 (fun q17 cA18 H hK hP hD hS => ?_)
  have hK : va_K (dC, dI) classes [(cA18, .int)] s := hK
  have hP : va_P (dC, dI) classes [(h0, .inr (3, [.null, .int 0, .null, .int 0, .int 0, .int 0, .int 0])), (q17, .inl (cA18, N, .inl (fun _ => 0)))] H := hP
  have hD : va_D A [(h0, .inr (3, [.null, .int 0, .null, .int 0, .int 0, .int 0, .int 0])), (q17, .inl (cA18, N, .inl (fun _ => 0)))] := hD
  refine W.widen (k := 1) (n := 16) (Nat.le_of_ble_eq_true rfl) (by show 0 + N ≤ 16; omega) ?_
  refine va_putF (D := (dC, dI)) (ci := 3) (v := .ref q17) (ty := .array .int) (C := RX3) (T := TX3) (N := 7) hx hb hts iX3_init_X3 tyX3 tyX3_ok nmX3 hown hK hP hD hS 0 rfl rfl 0 (by decide) (hts (.fieldLink RX3 7 "LeafSigner$Machine" "fates" "[I") (List.mem_of_getElem? (i := 5) rfl)) (fun _ h9 => h9) rfl hin rfl (by decide +kernel) rfl rfl (Nat.le_of_ble_eq_true rfl) dX3_init_8 (fun H locs hP hD hS => ?_)
  have hP : va_P (dC, dI) classes [(h0, .inr (3, [.ref q17, .int 0, .null, .int 0, .int 0, .int 0, .int 0])), (q17, .inl (cA18, N, .inl (fun _ => 0)))] H := hP
  have hD : va_D A [(h0, .inr (3, [.ref q17, .int 0, .null, .int 0, .int 0, .int 0, .int 0])), (q17, .inl (cA18, N, .inl (fun _ => 0)))] := hD
  refine lv_aload_n hx hb dX3_init_11 rfl (lv_at hl 0 rfl) ?_
  refine lv_iload_n hx hb dX3_init_12 rfl (lv_at hl 2 rfl) ?_
  refine va_putF (D := (dC, dI)) (ci := 3) (v := .int k) (ty := .int) (C := RX3) (T := TX3) (N := 7) hx hb hts iX3_init_X3 tyX3 tyX3_ok nmX3 hown hK hP hD hS 0 rfl rfl 1 (by decide) (hts (.fieldLink RX3 13 "LeafSigner$Machine" "reserve" "I") (List.mem_of_getElem? (i := 6) rfl)) (fun _ h9 => h9) rfl hin rfl (by decide +kernel) rfl rfl (Nat.le_of_ble_eq_true rfl) dX3_init_13 (fun H locs hP hD hS => ?_)
  have hP : va_P (dC, dI) classes [(h0, .inr (3, [.ref q17, .int k, .null, .int 0, .int 0, .int 0, .int 0])), (q17, .inl (cA18, N, .inl (fun _ => 0)))] H := hP
  have hD : va_D A [(h0, .inr (3, [.ref q17, .int k, .null, .int 0, .int 0, .int 0, .int 0])), (q17, .inl (cA18, N, .inl (fun _ => 0)))] := hD
  refine lv_aload_n hx hb dX3_init_16 rfl (lv_at hl 0 rfl) ?_
  refine lv_aload_n hx hb dX3_init_17 rfl (lv_at hl 3 rfl) ?_
  refine va_putF (D := (dC, dI)) (ci := 3) (v := .ref dq) (ty := .object "LeafSigner$Disk") (C := RX3) (T := TX3) (N := 7) hx hb hts iX3_init_X3 tyX3 tyX3_ok nmX3 hown hK hP hD hS 0 rfl rfl 2 (by decide) (hts (.fieldLink RX3 17 "LeafSigner$Machine" "disk" "LLeafSigner$Disk;") (List.mem_of_getElem? (i := 7) rfl)) (fun _ h9 => h9) rfl hin rfl (by decide +kernel) rfl rfl (Nat.le_of_ble_eq_true rfl) dX3_init_18 (fun H locs hP hD hS => ?_)
  have hP : va_P (dC, dI) classes [(h0, .inr (3, [.ref q17, .int k, .ref dq, .int 0, .int 0, .int 0, .int 0])), (q17, .inl (cA18, N, .inl (fun _ => 0)))] H := hP
  have hD : va_D A [(h0, .inr (3, [.ref q17, .int k, .ref dq, .int 0, .int 0, .int 0, .int 0])), (q17, .inl (cA18, N, .inl (fun _ => 0)))] := hD
  refine lv_aload_n hx hb dX3_init_21 rfl (lv_at hl 0 rfl) ?_
  refine lv_iconst (v := 0) hx hb dX3_init_22 (by decide) ?_
  refine va_put (D := (dC, dI)) (ci := 3) (v := .int 0) (ty := .int) (C := RX3) (T := TX3) (N := 7) hx hb hts iX3_init_X3 tyX3 tyX3_ok nmX3 hown hK hP hD hS 0 rfl rfl 3 (by decide) (hts (.fieldLink RX3 21 "LeafSigner$Machine" "state" "I") (List.mem_of_getElem? (i := 8) rfl)) (fun _ h9 => h9) rfl (by decide +kernel) rfl rfl (Nat.le_of_ble_eq_true rfl) dX3_init_23 (fun H locs hP hD hS => ?_)
  have hP : va_P (dC, dI) classes [(h0, .inr (3, [.ref q17, .int k, .ref dq, .int 0, .int 0, .int 0, .int 0])), (q17, .inl (cA18, N, .inl (fun _ => 0)))] H := hP
  have hD : va_D A [(h0, .inr (3, [.ref q17, .int k, .ref dq, .int 0, .int 0, .int 0, .int 0])), (q17, .inl (cA18, N, .inl (fun _ => 0)))] := hD
  refine lv_aload_n hx hb dX3_init_26 rfl (lv_at hl 0 rfl) ?_
  refine lv_iconst (v := 0) hx hb dX3_init_27 (by decide) ?_
  refine va_put (D := (dC, dI)) (ci := 3) (v := .int 0) (ty := .int) (C := RX3) (T := TX3) (N := 7) hx hb hts iX3_init_X3 tyX3 tyX3_ok nmX3 hown hK hP hD hS 0 rfl rfl 4 (by decide) (hts (.fieldLink RX3 24 "LeafSigner$Machine" "next" "I") (List.mem_of_getElem? (i := 9) rfl)) (fun _ h9 => h9) rfl (by decide +kernel) rfl rfl (Nat.le_of_ble_eq_true rfl) dX3_init_28 (fun H locs hP hD hS => ?_)
  have hP : va_P (dC, dI) classes [(h0, .inr (3, [.ref q17, .int k, .ref dq, .int 0, .int 0, .int 0, .int 0])), (q17, .inl (cA18, N, .inl (fun _ => 0)))] H := hP
  have hD : va_D A [(h0, .inr (3, [.ref q17, .int k, .ref dq, .int 0, .int 0, .int 0, .int 0])), (q17, .inl (cA18, N, .inl (fun _ => 0)))] := hD
  refine lv_aload_n hx hb dX3_init_31 rfl (lv_at hl 0 rfl) ?_
  refine lv_iconst (v := 0) hx hb dX3_init_32 (by decide) ?_
  refine va_put (D := (dC, dI)) (ci := 3) (v := .int 0) (ty := .int) (C := RX3) (T := TX3) (N := 7) hx hb hts iX3_init_X3 tyX3 tyX3_ok nmX3 hown hK hP hD hS 0 rfl rfl 5 (by decide) (hts (.fieldLink RX3 27 "LeafSigner$Machine" "end" "I") (List.mem_of_getElem? (i := 10) rfl)) (fun _ h9 => h9) rfl (by decide +kernel) rfl rfl (Nat.le_of_ble_eq_true rfl) dX3_init_33 (fun H locs hP hD hS => ?_)
  have hP : va_P (dC, dI) classes [(h0, .inr (3, [.ref q17, .int k, .ref dq, .int 0, .int 0, .int 0, .int 0])), (q17, .inl (cA18, N, .inl (fun _ => 0)))] H := hP
  have hD : va_D A [(h0, .inr (3, [.ref q17, .int k, .ref dq, .int 0, .int 0, .int 0, .int 0])), (q17, .inl (cA18, N, .inl (fun _ => 0)))] := hD
  refine lv_aload_n hx hb dX3_init_36 rfl (lv_at hl 0 rfl) ?_
  refine lv_iconst (v := 0) hx hb dX3_init_37 (by decide) ?_
  refine va_put (D := (dC, dI)) (ci := 3) (v := .int 0) (ty := .int) (C := RX3) (T := TX3) (N := 7) hx hb hts iX3_init_X3 tyX3 tyX3_ok nmX3 hown hK hP hD hS 0 rfl rfl 6 (by decide) (hts (.fieldLink RX3 30 "LeafSigner$Machine" "sequence" "I") (List.mem_of_getElem? (i := 11) rfl)) (fun _ h9 => h9) rfl (by decide +kernel) rfl rfl (Nat.le_of_ble_eq_true rfl) dX3_init_38 (fun H locs hP hD hS => ?_)
  have hP : va_P (dC, dI) classes [(h0, .inr (3, [.ref q17, .int k, .ref dq, .int 0, .int 0, .int 0, .int 0])), (q17, .inl (cA18, N, .inl (fun _ => 0)))] H := hP
  have hD : va_D A [(h0, .inr (3, [.ref q17, .int k, .ref dq, .int 0, .int 0, .int 0, .int 0])), (q17, .inl (cA18, N, .inl (fun _ => 0)))] := hD
  refine W.widen (k := 1) (n := 16) (Nat.le_of_ble_eq_true rfl) (Nat.le_of_ble_eq_true rfl) ?_
  have hP9 := hP.sub (ws' := [(h0, .inr (3, [.ref q17, .int k, .ref dq, .int 0, .int 0, .int 0, .int 0])), (q17, .inl (cA18, N, .inl (fun _ => 0)))]) [0, 1] rfl
  have hD9 := hD.sub (ws' := [(h0, .inr (3, [.ref q17, .int k, .ref dq, .int 0, .int 0, .int 0, .int 0])), (q17, .inl (cA18, N, .inl (fun _ => 0)))]) [0, 1] (by decide) rfl
  have hK9 := hK.sub (tys' := [(cA18, .int)]) [0] rfl
  exact W.vret hx hb hr (fun t ht hW => ⟨⟨(), rfl, trivial, ⟨q17, cA18, by rw [ht]; exact hP9, va_K.moved hW.alike hK9, hD9⟩⟩, hS.F ht⟩) hS.2.2 dX3_init_41
end
section
def ww_X5_init : List Cond := .code yX5_init cX5_init 1 none :: ([.methodLink RX5 3 objectInit, .instanceMethod objectInit, .code objectInit ⟨#[0xb1]⟩ 1 none, .arrayClass .int, .fieldLink RX5 9 "LeafSigner$Sha256" "state" "[I", .fieldLink RX5 15 "LeafSigner$Sha256" "words" "[I"] ++ (wsX50))
theorem iX5_init_X5 : ∀ w ∈ wsX50, w ∈ ww_X5_init := fun w h => List.mem_cons_of_mem _ (List.mem_append_right _ h)
set_option maxHeartbeats 4000000 in
set_option maxRecDepth 100000 in
theorem ct_Sha (l : Launch) (dC : Nat → ClassId) (dI : Nat → Nat → Nat) (sz : Nat) (h0 : Nat) : Met l yX5_init ww_X5_init ({ frames := 1, cells := 2, slots := 72, locals := 20 }) (va_Pc [.ref h0] (fun U => U.heap.size = sz ∧ va_P (dC, dI) classes [(h0, .inr (5, [.null, .null]))] U.heap ∧ va_K (dC, dI) classes [] U ∧ va_D (fun _ => True) [(h0, .inr (5, [.null, .null]))])) (va_Qv (fun (_ : Unit) => True) (fun (_ : Unit) (_ : State) => True) (va_A [(h0, .inr (5, [.null, .null]))] sz)) 2 72 (va_A [(h0, .inr (5, [.null, .null]))] sz) := by
  refine Met.ofW (cc := cX5_init) (maxL := 1) (ret := none) (by decide) rfl ?_
  intro p e s m args below meth c s₁ B hml hv
  obtain ⟨rfl, hsz, hP, hK, hD0⟩ := hv
  have hx := B.exec
  have hb := B.bytes
  have hr := B.returns
  have hts := atoms_spec (ws := ww_X5_init) B.pre
  have hown : s.vm.findClass RX5 = some m.cls := findClass_of_methodNamed B.named
  have hlocks := B.notSynchronized
  have hin : meth.name = "<init>" := (name_of_methodNamed B.named B.method).1
  subst hsz
  have hD := hD0.self (sz := s.heap.size)
  generalize hAe : va_A [(h0, .inr (5, [.null, .null]))] s.heap.size = A at hD ⊢
  have hA : ∀ q : Nat, s.heap.size ≤ q → A q := fun q h => by rw [← hAe]; exact Or.inr h
  have hS : va_S A s.heap s.heap [] := va_S.rf
  have hP : va_P (dC, dI) classes [(h0, .inr (5, [.null, .null]))] s.heap := hP
  have hl := lv_entry ([.ref h0]) (n := 1) (Nat.le_of_ble_eq_true rfl)
  rw [lg_entry_eq]
  generalize (lg_sl ([.ref h0]) ++ List.replicate (1 - (lg_sl ([.ref h0])).length) Slot.unset).toArray = ls at hl ⊢
  have hl : lv_has ls 1 [(0, .ref h0)] := hl
  generalize hHe : s.heap = H at hP ⊢
  have hS : va_S A s.heap H [] := by rw [← hHe]; exact va_S.rf
  refine lv_aload_n hx hb dX5_init_0 rfl (lv_at hl 0 rfl) ?_
  refine W.objInit hx hb hown (hts (.methodLink RX5 3 objectInit) (List.mem_of_getElem? (i := 1) rfl)) (hts (.instanceMethod objectInit) (List.mem_of_getElem? (i := 2) rfl)) (hts (.code objectInit ⟨#[0xb1]⟩ 1 none) (List.mem_of_getElem? (i := 3) rfl)) rfl (by rw [hml]; exact hl.1) rfl dX5_init_1 (Nat.le_of_ble_eq_true rfl) (Nat.le_of_ble_eq_true rfl) ?_
  refine W.eq (g2 := F0 m 4 ls []) rfl ?_
  refine lv_aload_n hx hb dX5_init_4 rfl (lv_at hl 0 rfl) ?_
  refine lv_bipush (v := 8) hx hb dX5_init_5 (by decide) ?_
  refine va_newa (atype := .int) (ty := .int) (a0 := (8, .inl (fun _ => 0))) hx hb (hts (.arrayClass .int) (List.mem_of_getElem? (i := 4) rfl)) rfl hK hP hD hS hA (fun _ => rfl) (by decide) (by decide) (by decide) (Nat.le_of_ble_eq_true rfl) (Nat.le_of_ble_eq_true rfl) dX5_init_7 (fun q19 cA20 H hK hP hD hS => ?_)
  have hK : va_K (dC, dI) classes [(cA20, .int)] s := hK
  have hP : va_P (dC, dI) classes [(h0, .inr (5, [.null, .null])), (q19, .inl (cA20, 8, .inl (fun _ => 0)))] H := hP
  have hD : va_D A [(h0, .inr (5, [.null, .null])), (q19, .inl (cA20, 8, .inl (fun _ => 0)))] := hD
  refine W.widen (k := 1) (n := 8) (Nat.le_of_ble_eq_true rfl) (Nat.le_of_ble_eq_true rfl) ?_
  refine va_putF (D := (dC, dI)) (ci := 5) (v := .ref q19) (ty := .array .int) (C := RX5) (T := TX5) (N := 2) hx hb hts iX5_init_X5 tyX5 tyX5_ok nmX5 hown hK hP hD hS 0 rfl rfl 0 (by decide) (hts (.fieldLink RX5 9 "LeafSigner$Sha256" "state" "[I") (List.mem_of_getElem? (i := 5) rfl)) (fun _ h9 => h9) rfl hin rfl (by decide +kernel) rfl rfl (Nat.le_of_ble_eq_true rfl) dX5_init_9 (fun H locs hP hD hS => ?_)
  have hP : va_P (dC, dI) classes [(h0, .inr (5, [.ref q19, .null])), (q19, .inl (cA20, 8, .inl (fun _ => 0)))] H := hP
  have hD : va_D A [(h0, .inr (5, [.ref q19, .null])), (q19, .inl (cA20, 8, .inl (fun _ => 0)))] := hD
  refine lv_aload_n hx hb dX5_init_12 rfl (lv_at hl 0 rfl) ?_
  refine lv_bipush (v := 64) hx hb dX5_init_13 (by decide) ?_
  refine va_newa (atype := .int) (ty := .int) (a0 := (64, .inl (fun _ => 0))) hx hb (hts (.arrayClass .int) (List.mem_of_getElem? (i := 4) rfl)) rfl hK hP hD hS hA (fun _ => rfl) (by decide) (by decide) (by decide) (Nat.le_of_ble_eq_true rfl) (Nat.le_of_ble_eq_true rfl) dX5_init_15 (fun q21 cA22 H hK hP hD hS => ?_)
  have hK : va_K (dC, dI) classes [(cA20, .int), (cA22, .int)] s := hK
  have hP : va_P (dC, dI) classes [(h0, .inr (5, [.ref q19, .null])), (q19, .inl (cA20, 8, .inl (fun _ => 0))), (q21, .inl (cA22, 64, .inl (fun _ => 0)))] H := hP
  have hD : va_D A [(h0, .inr (5, [.ref q19, .null])), (q19, .inl (cA20, 8, .inl (fun _ => 0))), (q21, .inl (cA22, 64, .inl (fun _ => 0)))] := hD
  refine W.widen (k := 2) (n := 72) (Nat.le_of_ble_eq_true rfl) (Nat.le_of_ble_eq_true rfl) ?_
  refine va_putF (D := (dC, dI)) (ci := 5) (v := .ref q21) (ty := .array .int) (C := RX5) (T := TX5) (N := 2) hx hb hts iX5_init_X5 tyX5 tyX5_ok nmX5 hown hK hP hD hS 0 rfl rfl 1 (by decide) (hts (.fieldLink RX5 15 "LeafSigner$Sha256" "words" "[I") (List.mem_of_getElem? (i := 6) rfl)) (fun _ h9 => h9) rfl hin rfl (by decide +kernel) rfl rfl (Nat.le_of_ble_eq_true rfl) dX5_init_17 (fun H locs hP hD hS => ?_)
  have hP : va_P (dC, dI) classes [(h0, .inr (5, [.ref q19, .ref q21])), (q19, .inl (cA20, 8, .inl (fun _ => 0))), (q21, .inl (cA22, 64, .inl (fun _ => 0)))] H := hP
  have hD : va_D A [(h0, .inr (5, [.ref q19, .ref q21])), (q19, .inl (cA20, 8, .inl (fun _ => 0))), (q21, .inl (cA22, 64, .inl (fun _ => 0)))] := hD
  refine W.widen (k := 2) (n := 72) (Nat.le_of_ble_eq_true rfl) (Nat.le_of_ble_eq_true rfl) ?_
  exact W.vret hx hb hr (fun t ht hW => ⟨⟨(), rfl, trivial, trivial⟩, hS.F ht⟩) hS.2.2 dX5_init_20
end
section
def ww_X2_init : List Cond := .code yX2_init cX2_init 1 none :: ([.methodLink RX2 3 objectInit, .instanceMethod objectInit, .code objectInit ⟨#[0xb1]⟩ 1 none, .classLink RX2 9 RX5, .instantiable RX5 2, .initialized RX5, .code yX5_init cX5_init 1 none, .methodLink RX5 3 objectInit, .arrayClass .int, .fieldLink RX5 9 "LeafSigner$Sha256" "state" "[I", .fieldLink RX5 15 "LeafSigner$Sha256" "words" "[I", .methodLink RX2 11 yX5_init, .instanceMethod yX5_init, .fieldLink RX2 12 "LeafSigner$Hashes" "sha" "LLeafSigner$Sha256;", .fieldLink RX2 18 "LeafSigner$Hashes" "seedState" "[I", .fieldLink RX2 22 "LeafSigner$Hashes" "address" "[I", .fieldLink RX2 25 "LeafSigner$Hashes" "key" "[I", .fieldLink RX2 28 "LeafSigner$Hashes" "mask" "[I", .fieldLink RX2 31 "LeafSigner$Hashes" "otherMask" "[I"] ++ (wsX50 ++ wsX20))
theorem iX2_init_X5 : ∀ w ∈ wsX50, w ∈ ww_X2_init := fun w h => List.mem_cons_of_mem _ (List.mem_append_right _ (List.mem_append_left _ h))
theorem iX2_init_X2 : ∀ w ∈ wsX20, w ∈ ww_X2_init := fun w h => List.mem_cons_of_mem _ (List.mem_append_right _ (List.mem_append_right _ h))
set_option maxRecDepth 20000 in
theorem gX2_init_X5_init_11 : GoodIn ww_X2_init ww_X5_init := vx_good _ [7, 8, 2, 3, 9, 10, 11, 20, 21] rfl (by decide +kernel)
set_option maxHeartbeats 4000000 in
set_option maxRecDepth 100000 in
theorem ct_Hashes (l : Launch) (dC : Nat → ClassId) (dI : Nat → Nat → Nat) (sz : Nat) (h0 : Nat) : Met l yX2_init ww_X2_init ({ frames := 2, cells := 8, slots := 114, locals := 40 }) (va_Pc [.ref h0] (fun U => U.heap.size = sz ∧ va_P (dC, dI) classes [(h0, .inr (2, [.null, .null, .null, .null, .null, .null]))] U.heap ∧ va_K (dC, dI) classes [] U ∧ va_D (fun _ => True) [(h0, .inr (2, [.null, .null, .null, .null, .null, .null]))])) (va_Qv (fun (_ : Unit) => True) (fun (_ : Unit) (_ : State) => True) (va_A [(h0, .inr (2, [.null, .null, .null, .null, .null, .null]))] sz)) 8 114 (va_A [(h0, .inr (2, [.null, .null, .null, .null, .null, .null]))] sz) := by
  refine Met.ofW (cc := cX2_init) (maxL := 1) (ret := none) (by decide) rfl ?_
  intro p e s m args below meth c s₁ B hml hv
  obtain ⟨rfl, hsz, hP, hK, hD0⟩ := hv
  have hx := B.exec
  have hb := B.bytes
  have hr := B.returns
  have hts := atoms_spec (ws := ww_X2_init) B.pre
  have hown : s.vm.findClass RX2 = some m.cls := findClass_of_methodNamed B.named
  have hlocks := B.notSynchronized
  have hin : meth.name = "<init>" := (name_of_methodNamed B.named B.method).1
  subst hsz
  have hD := hD0.self (sz := s.heap.size)
  generalize hAe : va_A [(h0, .inr (2, [.null, .null, .null, .null, .null, .null]))] s.heap.size = A at hD ⊢
  have hA : ∀ q : Nat, s.heap.size ≤ q → A q := fun q h => by rw [← hAe]; exact Or.inr h
  have hS : va_S A s.heap s.heap [] := va_S.rf
  have hP : va_P (dC, dI) classes [(h0, .inr (2, [.null, .null, .null, .null, .null, .null]))] s.heap := hP
  have hl := lv_entry ([.ref h0]) (n := 1) (Nat.le_of_ble_eq_true rfl)
  rw [lg_entry_eq]
  generalize (lg_sl ([.ref h0]) ++ List.replicate (1 - (lg_sl ([.ref h0])).length) Slot.unset).toArray = ls at hl ⊢
  have hl : lv_has ls 1 [(0, .ref h0)] := hl
  generalize hHe : s.heap = H at hP ⊢
  have hS : va_S A s.heap H [] := by rw [← hHe]; exact va_S.rf
  refine lv_aload_n hx hb dX2_init_0 rfl (lv_at hl 0 rfl) ?_
  refine W.objInit hx hb hown (hts (.methodLink RX2 3 objectInit) (List.mem_of_getElem? (i := 1) rfl)) (hts (.instanceMethod objectInit) (List.mem_of_getElem? (i := 2) rfl)) (hts (.code objectInit ⟨#[0xb1]⟩ 1 none) (List.mem_of_getElem? (i := 3) rfl)) rfl (by rw [hml]; exact hl.1) rfl dX2_init_1 (Nat.le_of_ble_eq_true rfl) (Nat.le_of_ble_eq_true rfl) ?_
  refine W.eq (g2 := F0 m 4 ls []) rfl ?_
  refine lv_aload_n hx hb dX2_init_4 rfl (lv_at hl 0 rfl) ?_
  refine va_new (ci := 5) (fs := [.null, .null]) (C := RX5) (T := TX5) (N := 2) hx hb hts iX2_init_X5 tyX5 tyX5_ok hown (hts (.classLink RX2 9 RX5) (List.mem_of_getElem? (i := 4) rfl)) (hts (.instantiable RX5 2) (List.mem_of_getElem? (i := 5) rfl)) (hts (.initialized RX5) (List.mem_of_getElem? (i := 6) rfl)) hK hP hD hS hA rfl (by decide) (Nat.le_of_ble_eq_true rfl) (Nat.le_of_ble_eq_true rfl) dX2_init_5 (fun q23 H hP hD hS => ?_)
  have hP : va_P (dC, dI) classes [(h0, .inr (2, [.null, .null, .null, .null, .null, .null])), (q23, .inr (5, [.null, .null]))] H := hP
  have hD : va_D A [(h0, .inr (2, [.null, .null, .null, .null, .null, .null])), (q23, .inr (5, [.null, .null]))] := hD
  refine W.widen (k := 1) (n := 2) (Nat.le_of_ble_eq_true rfl) (Nat.le_of_ble_eq_true rfl) ?_
  refine lv_dup hx hb dX2_init_8 rfl ?_
  have hPc := hP.sub (ws' := [(q23, .inr (5, [.null, .null]))]) [1] rfl
  have hDc := hD.sub (ws' := [(q23, .inr (5, [.null, .null]))]) [1] (by decide) rfl
  have hKc := hK.sub (tys' := []) [] rfl
  have hFc := va_free (wc := [(q23, .inr (5, [.null, .null]))]) hD hS hA [1] rfl
  refine va_callv (va_runI (As := []) (rest := [.ref q23, .ref h0]) ⟨hx, hb, hml, hown, hts⟩ (ct_Sha l dC dI H.size q23) (cwI 0 hts gX2_init_X5_init_11 rfl rfl rfl (hts (.initialized RX5) (List.mem_of_getElem? (i := 6) rfl)) (hts (.methodLink RX2 11 yX5_init) (List.mem_of_getElem? (i := 12) rfl)) (hts (.instanceMethod yX5_init) (List.mem_of_getElem? (i := 13) rfl)) rfl (by decide +kernel) ⟨(Nat.le_of_ble_eq_true rfl), (Nat.le_of_ble_eq_true rfl)⟩) ⟨fun a U g mk q => by obtain ⟨q0, q1, qP, qK, qD⟩ := q; exact ⟨q0, q1, qP, va_K.moved (u := U) (U := U.calling g mk a) (Vm.Alike.refl U.vm) qK, qD⟩, fun U hU hW => ⟨rfl, by rw [hU], by rw [hU]; exact hPc, va_K.moved hW.alike hKc, hDc.weaken (fun _ _ _ _ => trivial)⟩⟩ rfl rfl hl.1 rfl (lv_room (Nat.le_of_ble_eq_true rfl)) dX2_init_9 ⟨(Nat.le_of_ble_eq_true rfl), (Nat.le_of_ble_eq_true rfl)⟩) hS (fun q _ h => hFc q h) hFc (fun u t H1 locs ht hvm hw hB hz1 hk1 hS => ?_)
  have hP1 : va_P (dC, dI) classes [] H1 := vx_P0
  have hD1 : va_D (va_A [(q23, .inr (5, [.null, .null]))] H.size) [] := vx_D0
  obtain ⟨hP, hD⟩ := va_join (wr := [(h0, .inr (2, [.null, .null, .null, .null, .null, .null]))]) (w1 := []) hP hD [1] [0] rfl rfl (by decide) (by decide) hk1 hFc hP1 hD1
  have hK := hK.sub (tys' := []) [] rfl
  generalize H1 = H at hP hS ⊢
  have hP : va_P (dC, dI) classes [(h0, .inr (2, [.null, .null, .null, .null, .null, .null]))] H := hP
  have hD : va_D A [(h0, .inr (2, [.null, .null, .null, .null, .null, .null]))] := hD
  have hK : va_K (dC, dI) classes [] s := hK
  refine W.widen (k := 3) (n := 74) (Nat.le_of_ble_eq_true rfl) (Nat.le_of_ble_eq_true rfl) ?_
  refine va_putF (D := (dC, dI)) (ci := 2) (v := .ref q23) (ty := .object "LeafSigner$Sha256") (C := RX2) (T := TX2) (N := 6) hx hb hts iX2_init_X2 tyX2 tyX2_ok nmX2 hown hK hP hD hS 0 rfl rfl 0 (by decide) (hts (.fieldLink RX2 12 "LeafSigner$Hashes" "sha" "LLeafSigner$Sha256;") (List.mem_of_getElem? (i := 14) rfl)) (fun _ h9 => h9) rfl hin rfl (by decide +kernel) rfl rfl (Nat.le_of_ble_eq_true rfl) dX2_init_12 (fun H locs hP hD hS => ?_)
  have hP : va_P (dC, dI) classes [(h0, .inr (2, [.ref q23, .null, .null, .null, .null, .null]))] H := hP
  have hD : va_D A [(h0, .inr (2, [.ref q23, .null, .null, .null, .null, .null]))] := hD
  refine lv_aload_n hx hb dX2_init_15 rfl (lv_at hl 0 rfl) ?_
  refine lv_bipush (v := 8) hx hb dX2_init_16 (by decide) ?_
  refine va_newa (atype := .int) (ty := .int) (a0 := (8, .inl (fun _ => 0))) hx hb (hts (.arrayClass .int) (List.mem_of_getElem? (i := 9) rfl)) rfl hK hP hD hS hA (fun _ => rfl) (by decide) (by decide) (by decide) (Nat.le_of_ble_eq_true rfl) (Nat.le_of_ble_eq_true rfl) dX2_init_18 (fun q25 cA26 H hK hP hD hS => ?_)
  have hK : va_K (dC, dI) classes [(cA26, .int)] s := hK
  have hP : va_P (dC, dI) classes [(h0, .inr (2, [.ref q23, .null, .null, .null, .null, .null])), (q25, .inl (cA26, 8, .inl (fun _ => 0)))] H := hP
  have hD : va_D A [(h0, .inr (2, [.ref q23, .null, .null, .null, .null, .null])), (q25, .inl (cA26, 8, .inl (fun _ => 0)))] := hD
  refine W.widen (k := 4) (n := 82) (Nat.le_of_ble_eq_true rfl) (Nat.le_of_ble_eq_true rfl) ?_
  refine va_putF (D := (dC, dI)) (ci := 2) (v := .ref q25) (ty := .array .int) (C := RX2) (T := TX2) (N := 6) hx hb hts iX2_init_X2 tyX2 tyX2_ok nmX2 hown hK hP hD hS 0 rfl rfl 1 (by decide) (hts (.fieldLink RX2 18 "LeafSigner$Hashes" "seedState" "[I") (List.mem_of_getElem? (i := 15) rfl)) (fun _ h9 => h9) rfl hin rfl (by decide +kernel) rfl rfl (Nat.le_of_ble_eq_true rfl) dX2_init_20 (fun H locs hP hD hS => ?_)
  have hP : va_P (dC, dI) classes [(h0, .inr (2, [.ref q23, .ref q25, .null, .null, .null, .null])), (q25, .inl (cA26, 8, .inl (fun _ => 0)))] H := hP
  have hD : va_D A [(h0, .inr (2, [.ref q23, .ref q25, .null, .null, .null, .null])), (q25, .inl (cA26, 8, .inl (fun _ => 0)))] := hD
  have hP := hP.sub (ws' := [(h0, .inr (2, [.ref q23, .ref q25, .null, .null, .null, .null]))]) [0] rfl
  have hD := hD.sub (ws' := [(h0, .inr (2, [.ref q23, .ref q25, .null, .null, .null, .null]))]) [0] (by decide) rfl
  have hK := hK.sub (tys' := []) [] rfl
  refine lv_aload_n hx hb dX2_init_23 rfl (lv_at hl 0 rfl) ?_
  refine lv_bipush (v := 8) hx hb dX2_init_24 (by decide) ?_
  refine va_newa (atype := .int) (ty := .int) (a0 := (8, .inl (fun _ => 0))) hx hb (hts (.arrayClass .int) (List.mem_of_getElem? (i := 9) rfl)) rfl hK hP hD hS hA (fun _ => rfl) (by decide) (by decide) (by decide) (Nat.le_of_ble_eq_true rfl) (Nat.le_of_ble_eq_true rfl) dX2_init_26 (fun q27 cA28 H hK hP hD hS => ?_)
  have hK : va_K (dC, dI) classes [(cA28, .int)] s := hK
  have hP : va_P (dC, dI) classes [(h0, .inr (2, [.ref q23, .ref q25, .null, .null, .null, .null])), (q27, .inl (cA28, 8, .inl (fun _ => 0)))] H := hP
  have hD : va_D A [(h0, .inr (2, [.ref q23, .ref q25, .null, .null, .null, .null])), (q27, .inl (cA28, 8, .inl (fun _ => 0)))] := hD
  refine W.widen (k := 5) (n := 90) (Nat.le_of_ble_eq_true rfl) (Nat.le_of_ble_eq_true rfl) ?_
  refine va_putF (D := (dC, dI)) (ci := 2) (v := .ref q27) (ty := .array .int) (C := RX2) (T := TX2) (N := 6) hx hb hts iX2_init_X2 tyX2 tyX2_ok nmX2 hown hK hP hD hS 0 rfl rfl 2 (by decide) (hts (.fieldLink RX2 22 "LeafSigner$Hashes" "address" "[I") (List.mem_of_getElem? (i := 16) rfl)) (fun _ h9 => h9) rfl hin rfl (by decide +kernel) rfl rfl (Nat.le_of_ble_eq_true rfl) dX2_init_28 (fun H locs hP hD hS => ?_)
  have hP : va_P (dC, dI) classes [(h0, .inr (2, [.ref q23, .ref q25, .ref q27, .null, .null, .null])), (q27, .inl (cA28, 8, .inl (fun _ => 0)))] H := hP
  have hD : va_D A [(h0, .inr (2, [.ref q23, .ref q25, .ref q27, .null, .null, .null])), (q27, .inl (cA28, 8, .inl (fun _ => 0)))] := hD
  have hP := hP.sub (ws' := [(h0, .inr (2, [.ref q23, .ref q25, .ref q27, .null, .null, .null]))]) [0] rfl
  have hD := hD.sub (ws' := [(h0, .inr (2, [.ref q23, .ref q25, .ref q27, .null, .null, .null]))]) [0] (by decide) rfl
  have hK := hK.sub (tys' := []) [] rfl
  refine lv_aload_n hx hb dX2_init_31 rfl (lv_at hl 0 rfl) ?_
  refine lv_bipush (v := 8) hx hb dX2_init_32 (by decide) ?_
  refine va_newa (atype := .int) (ty := .int) (a0 := (8, .inl (fun _ => 0))) hx hb (hts (.arrayClass .int) (List.mem_of_getElem? (i := 9) rfl)) rfl hK hP hD hS hA (fun _ => rfl) (by decide) (by decide) (by decide) (Nat.le_of_ble_eq_true rfl) (Nat.le_of_ble_eq_true rfl) dX2_init_34 (fun q29 cA30 H hK hP hD hS => ?_)
  have hK : va_K (dC, dI) classes [(cA30, .int)] s := hK
  have hP : va_P (dC, dI) classes [(h0, .inr (2, [.ref q23, .ref q25, .ref q27, .null, .null, .null])), (q29, .inl (cA30, 8, .inl (fun _ => 0)))] H := hP
  have hD : va_D A [(h0, .inr (2, [.ref q23, .ref q25, .ref q27, .null, .null, .null])), (q29, .inl (cA30, 8, .inl (fun _ => 0)))] := hD
  refine W.widen (k := 6) (n := 98) (Nat.le_of_ble_eq_true rfl) (Nat.le_of_ble_eq_true rfl) ?_
  refine va_putF (D := (dC, dI)) (ci := 2) (v := .ref q29) (ty := .array .int) (C := RX2) (T := TX2) (N := 6) hx hb hts iX2_init_X2 tyX2 tyX2_ok nmX2 hown hK hP hD hS 0 rfl rfl 3 (by decide) (hts (.fieldLink RX2 25 "LeafSigner$Hashes" "key" "[I") (List.mem_of_getElem? (i := 17) rfl)) (fun _ h9 => h9) rfl hin rfl (by decide +kernel) rfl rfl (Nat.le_of_ble_eq_true rfl) dX2_init_36 (fun H locs hP hD hS => ?_)
  have hP : va_P (dC, dI) classes [(h0, .inr (2, [.ref q23, .ref q25, .ref q27, .ref q29, .null, .null])), (q29, .inl (cA30, 8, .inl (fun _ => 0)))] H := hP
  have hD : va_D A [(h0, .inr (2, [.ref q23, .ref q25, .ref q27, .ref q29, .null, .null])), (q29, .inl (cA30, 8, .inl (fun _ => 0)))] := hD
  have hP := hP.sub (ws' := [(h0, .inr (2, [.ref q23, .ref q25, .ref q27, .ref q29, .null, .null]))]) [0] rfl
  have hD := hD.sub (ws' := [(h0, .inr (2, [.ref q23, .ref q25, .ref q27, .ref q29, .null, .null]))]) [0] (by decide) rfl
  have hK := hK.sub (tys' := []) [] rfl
  refine lv_aload_n hx hb dX2_init_39 rfl (lv_at hl 0 rfl) ?_
  refine lv_bipush (v := 8) hx hb dX2_init_40 (by decide) ?_
  refine va_newa (atype := .int) (ty := .int) (a0 := (8, .inl (fun _ => 0))) hx hb (hts (.arrayClass .int) (List.mem_of_getElem? (i := 9) rfl)) rfl hK hP hD hS hA (fun _ => rfl) (by decide) (by decide) (by decide) (Nat.le_of_ble_eq_true rfl) (Nat.le_of_ble_eq_true rfl) dX2_init_42 (fun q31 cA32 H hK hP hD hS => ?_)
  have hK : va_K (dC, dI) classes [(cA32, .int)] s := hK
  have hP : va_P (dC, dI) classes [(h0, .inr (2, [.ref q23, .ref q25, .ref q27, .ref q29, .null, .null])), (q31, .inl (cA32, 8, .inl (fun _ => 0)))] H := hP
  have hD : va_D A [(h0, .inr (2, [.ref q23, .ref q25, .ref q27, .ref q29, .null, .null])), (q31, .inl (cA32, 8, .inl (fun _ => 0)))] := hD
  refine W.widen (k := 7) (n := 106) (Nat.le_of_ble_eq_true rfl) (Nat.le_of_ble_eq_true rfl) ?_
  refine va_putF (D := (dC, dI)) (ci := 2) (v := .ref q31) (ty := .array .int) (C := RX2) (T := TX2) (N := 6) hx hb hts iX2_init_X2 tyX2 tyX2_ok nmX2 hown hK hP hD hS 0 rfl rfl 4 (by decide) (hts (.fieldLink RX2 28 "LeafSigner$Hashes" "mask" "[I") (List.mem_of_getElem? (i := 18) rfl)) (fun _ h9 => h9) rfl hin rfl (by decide +kernel) rfl rfl (Nat.le_of_ble_eq_true rfl) dX2_init_44 (fun H locs hP hD hS => ?_)
  have hP : va_P (dC, dI) classes [(h0, .inr (2, [.ref q23, .ref q25, .ref q27, .ref q29, .ref q31, .null])), (q31, .inl (cA32, 8, .inl (fun _ => 0)))] H := hP
  have hD : va_D A [(h0, .inr (2, [.ref q23, .ref q25, .ref q27, .ref q29, .ref q31, .null])), (q31, .inl (cA32, 8, .inl (fun _ => 0)))] := hD
  have hP := hP.sub (ws' := [(h0, .inr (2, [.ref q23, .ref q25, .ref q27, .ref q29, .ref q31, .null]))]) [0] rfl
  have hD := hD.sub (ws' := [(h0, .inr (2, [.ref q23, .ref q25, .ref q27, .ref q29, .ref q31, .null]))]) [0] (by decide) rfl
  have hK := hK.sub (tys' := []) [] rfl
  refine lv_aload_n hx hb dX2_init_47 rfl (lv_at hl 0 rfl) ?_
  refine lv_bipush (v := 8) hx hb dX2_init_48 (by decide) ?_
  refine va_newa (atype := .int) (ty := .int) (a0 := (8, .inl (fun _ => 0))) hx hb (hts (.arrayClass .int) (List.mem_of_getElem? (i := 9) rfl)) rfl hK hP hD hS hA (fun _ => rfl) (by decide) (by decide) (by decide) (Nat.le_of_ble_eq_true rfl) (Nat.le_of_ble_eq_true rfl) dX2_init_50 (fun q33 cA34 H hK hP hD hS => ?_)
  have hK : va_K (dC, dI) classes [(cA34, .int)] s := hK
  have hP : va_P (dC, dI) classes [(h0, .inr (2, [.ref q23, .ref q25, .ref q27, .ref q29, .ref q31, .null])), (q33, .inl (cA34, 8, .inl (fun _ => 0)))] H := hP
  have hD : va_D A [(h0, .inr (2, [.ref q23, .ref q25, .ref q27, .ref q29, .ref q31, .null])), (q33, .inl (cA34, 8, .inl (fun _ => 0)))] := hD
  refine W.widen (k := 8) (n := 114) (Nat.le_of_ble_eq_true rfl) (Nat.le_of_ble_eq_true rfl) ?_
  refine va_putF (D := (dC, dI)) (ci := 2) (v := .ref q33) (ty := .array .int) (C := RX2) (T := TX2) (N := 6) hx hb hts iX2_init_X2 tyX2 tyX2_ok nmX2 hown hK hP hD hS 0 rfl rfl 5 (by decide) (hts (.fieldLink RX2 31 "LeafSigner$Hashes" "otherMask" "[I") (List.mem_of_getElem? (i := 19) rfl)) (fun _ h9 => h9) rfl hin rfl (by decide +kernel) rfl rfl (Nat.le_of_ble_eq_true rfl) dX2_init_52 (fun H locs hP hD hS => ?_)
  have hP : va_P (dC, dI) classes [(h0, .inr (2, [.ref q23, .ref q25, .ref q27, .ref q29, .ref q31, .ref q33])), (q33, .inl (cA34, 8, .inl (fun _ => 0)))] H := hP
  have hD : va_D A [(h0, .inr (2, [.ref q23, .ref q25, .ref q27, .ref q29, .ref q31, .ref q33])), (q33, .inl (cA34, 8, .inl (fun _ => 0)))] := hD
  refine W.widen (k := 8) (n := 114) (Nat.le_of_ble_eq_true rfl) (Nat.le_of_ble_eq_true rfl) ?_
  exact W.vret hx hb hr (fun t ht hW => ⟨⟨(), rfl, trivial, trivial⟩, hS.F ht⟩) hS.2.2 dX2_init_55
set_option maxHeartbeats 4000000 in
set_option maxRecDepth 100000 in
/-- Arrays.fill's loop; what is behind it is a premise -/
theorem lp_fill {p : Program} {l : Launch} {e : Env} {R : Room} {s : State} {m : MethodId} {args : Array Value} {below : List Frame} {meth : Method} {c : Code} {Q : State → Prop} {A : Nat → Prop} {dC : Nat → ClassId} {dI : Nat → Nat → Nat} {a : Nat} {cA : ClassId} {N : Nat} {v : Int32} {cells slots : Nat} (hx : p.tables.exec = Jvm.exec) (hb : c.code = cJ7_fill_53178) (hK : va_K (dC, dI) classes [(cA, .int)] s) (hN : N < 2 ^ 31)
    (kend : ∀ (H : Heap) (locs : List Loc) (ls : Array Slot), va_S A s.heap H locs → W p l e R s m args below meth c H locs cells slots Q (F0 m 20 ls [])) :
    ∀ (n j : Nat) (x : Int32), j + n = N → x = nI j → ∀ (f : Nat → Int32) (H : Heap) (locs : List Loc) (ls : Array Slot), va_P (dC, dI) classes [(a, .inl (cA, N, .inl f))] H → va_D A [(a, .inl (cA, N, .inl f))] → va_S A s.heap H locs → lv_has ls 4 [(2, .int x), (3, .int (Int32.ofNat N)), (0, .ref a), (1, .int v)] → W p l e R s m args below meth c H locs cells slots Q (F0 m 5 ls []) := by
  intro n
  induction n with
  | zero =>
    intro j x hj ex f H locs ls hP hD hS hl
    refine lv_iload_n hx hb dJ7_fill_53178_5 rfl (lv_at hl 0 rfl) ?_
    refine lv_iload_n hx hb dJ7_fill_53178_6 rfl (lv_at hl 1 rfl) ?_
    refine lv_icmp_ge (tgt := 20) hx hb dJ7_fill_53178_7 (by decide) (fun c1 => ?_) (fun c1 => absurd (by rw [ex]; exact nI_le (show N ≤ j by omega) (by omega)) c1)
    exact kend H locs ls hS
  | succ n ih =>
    intro j x hj ex f H locs ls hP hD hS hl
    refine lv_iload_n hx hb dJ7_fill_53178_5 rfl (lv_at hl 0 rfl) ?_
    refine lv_iload_n hx hb dJ7_fill_53178_6 rfl (lv_at hl 1 rfl) ?_
    refine lv_icmp_ge (tgt := 20) hx hb dJ7_fill_53178_7 (by decide) (fun c1 => absurd c1 (by rw [ex]; exact nI_ge (show j < N by omega) hN)) (fun c1 => ?_)
    refine lv_aload_n hx hb dJ7_fill_53178_10 rfl (lv_at hl 2 rfl) ?_
    refine lv_iload_n hx hb dJ7_fill_53178_11 rfl (lv_at hl 0 rfl) ?_
    refine lv_iload_n hx hb dJ7_fill_53178_12 rfl (lv_at hl 3 rfl) ?_
    refine vx_iast hx hb hK hP hD hS 0 0 rfl rfl (by rw [ex]; exact vp_in_nI (show j < N by omega) hN) dJ7_fill_53178_13 (fun H locs f1 hP hD hS => ?_)
    have hP : va_P (dC, dI) classes [(a, .inl (cA, N, .inl f1))] H := hP
    have hD : va_D A [(a, .inl (cA, N, .inl f1))] := hD
    obtain ⟨x1, ex1⟩ : ∃ y : Int32, y = x + 1 := ⟨_, rfl⟩
    refine lv_iinc (v := x1) (lv' := [(2, .int x1), (3, .int (Int32.ofNat N)), (0, .ref a), (1, .int v)]) hx hb dJ7_fill_53178_14 hl (k := 0) rfl (by rw [ex1]; rfl) (by decide) rfl (fun ls hl => ?_)
    refine lv_goto (tgt := 5) hx hb dJ7_fill_53178_17 (by decide) ?_
    exact ih (j + 1) x1 (by omega) (by rw [ex1, ex]; exact nI_1 j) f1 H locs ls hP hD hS hl
end
section
def ww_J7_fill_53178 : List Cond := .code yJ7_fill_53178 cJ7_fill_53178 4 none :: ([])
set_option maxHeartbeats 4000000 in
set_option maxRecDepth 100000 in
theorem ct_afill (l : Launch) (dC : Nat → ClassId) (dI : Nat → Nat → Nat) (sz : Nat) (a : Nat) (v : Int32) (cA : ClassId) (N : Nat) (f : (Nat → Int32)) (hN : N < 2 ^ 31) : Met l yJ7_fill_53178 ww_J7_fill_53178 ({ frames := 0, cells := 0, slots := 0, locals := 0 }) (va_Pc [.ref a, .int v] (fun U => U.heap.size = sz ∧ va_P (dC, dI) classes [(a, .inl (cA, N, .inl f))] U.heap ∧ va_K (dC, dI) classes [(cA, .int)] U ∧ va_D (fun _ => True) [(a, .inl (cA, N, .inl f))])) (va_Qv (fun (_ : Unit) => True) (fun (_ : Unit) (_ : State) => True) (va_A [(a, .inl (cA, N, .inl f))] sz)) 0 0 (va_A [(a, .inl (cA, N, .inl f))] sz) := by
  refine Met.ofW (cc := cJ7_fill_53178) (maxL := 4) (ret := none) (by decide) rfl ?_
  intro p e s m args below meth c s₁ B hml hv
  obtain ⟨rfl, hsz, hP, hK, hD0⟩ := hv
  have hx := B.exec
  have hb := B.bytes
  have hr := B.returns
  have hts := atoms_spec (ws := ww_J7_fill_53178) B.pre
  have hown : s.vm.findClass RJ7 = some m.cls := findClass_of_methodNamed B.named
  have hlocks := B.notSynchronized
  subst hsz
  have hD := hD0.self (sz := s.heap.size)
  generalize hAe : va_A [(a, .inl (cA, N, .inl f))] s.heap.size = A at hD ⊢
  have hA : ∀ q : Nat, s.heap.size ≤ q → A q := fun q h => by rw [← hAe]; exact Or.inr h
  have hS : va_S A s.heap s.heap [] := va_S.rf
  have hP : va_P (dC, dI) classes [(a, .inl (cA, N, .inl f))] s.heap := hP
  have hl := lv_entry ([.ref a, .int v]) (n := 4) (Nat.le_of_ble_eq_true rfl)
  rw [lg_entry_eq]
  generalize (lg_sl ([.ref a, .int v]) ++ List.replicate (4 - (lg_sl ([.ref a, .int v])).length) Slot.unset).toArray = ls at hl ⊢
  have hl : lv_has ls 4 [(0, .ref a), (1, .int v)] := hl
  generalize hHe : s.heap = H at hP ⊢
  have hS : va_S A s.heap H [] := by rw [← hHe]; exact va_S.rf
  refine lv_iconst (v := 0) hx hb dJ7_fill_53178_0 (by decide) ?_
  refine lv_istore_n (lv' := [(2, .int 0), (0, .ref a), (1, .int v)]) hx hb dJ7_fill_53178_1 rfl hl (by decide) rfl (fun ls hl => ?_)
  refine lv_aload_n hx hb dJ7_fill_53178_2 rfl (lv_at hl 1 rfl) ?_
  refine va_alen (v := (Int32.ofNat N)) hx hb hK hP 0 0 rfl rfl rfl dJ7_fill_53178_3 ?_
  refine lv_istore_n (lv' := [(3, .int (Int32.ofNat N)), (2, .int 0), (0, .ref a), (1, .int v)]) hx hb dJ7_fill_53178_4 rfl hl (by decide) rfl (fun ls hl => ?_)
  refine lp_fill hx hb hK hN (fun H locs ls hS => ?_) N 0 0 (by omega) nI_0.symm f H _ ls hP hD hS (lv_sub hl [1, 0, 2, 3] rfl)
  refine W.widen (k := 0) (n := 0) (Nat.le_of_ble_eq_true rfl) (Nat.le_of_ble_eq_true rfl) ?_
  exact W.vret hx hb hr (fun t ht hW => ⟨⟨(), rfl, trivial, trivial⟩, hS.F ht⟩) hS.2.2 dJ7_fill_53178_20
end
section
def ww_X4_init : List Cond := .code yX4_init cX4_init 2 none :: ([.methodLink RX4 3 objectInit, .instanceMethod objectInit, .code objectInit ⟨#[0xb1]⟩ 1 none, .fieldLink RX4 9 "LeafSigner$OneTime" "hashes" "LLeafSigner$Hashes;", .arrayClass .int, .fieldLink RX4 15 "LeafSigner$OneTime" "leafSecret" "[I", .fieldLink RX4 19 "LeafSigner$OneTime" "bottoms" "[I", .fieldLink RX4 22 "LeafSigner$OneTime" "digits" "[I", .fieldLink RX4 25 "LeafSigner$OneTime" "tops" "[I", .methodLink RX4 28 yJ7_fill_53178, .static yJ7_fill_53178, .initialized RJ7, .code yJ7_fill_53178 cJ7_fill_53178 4 none] ++ (wsX40))
theorem iX4_init_X4 : ∀ w ∈ wsX40, w ∈ ww_X4_init := fun w h => List.mem_cons_of_mem _ (List.mem_append_right _ h)
set_option maxRecDepth 20000 in
theorem gX4_init_J7_fill_53178_28 : GoodIn ww_X4_init (va_wsS RX4 28 yJ7_fill_53178 ww_J7_fill_53178) := vx_good _ [10, 11, 12, 13] rfl (by decide +kernel)
set_option maxHeartbeats 4000000 in
set_option maxRecDepth 100000 in
theorem ct_OneTime (l : Launch) (dC : Nat → ClassId) (dI : Nat → Nat → Nat) (sz : Nat) (h0 : Nat) (hq : Nat) : Met l yX4_init ww_X4_init ({ frames := 1, cells := 4, slots := 209, locals := 23 }) (va_Pc [.ref h0, .ref hq] (fun U => U.heap.size = sz ∧ va_P (dC, dI) classes [(h0, .inr (4, [.null, .null, .null, .null, .null]))] U.heap ∧ va_K (dC, dI) classes [] U ∧ va_D (fun _ => True) [(h0, .inr (4, [.null, .null, .null, .null, .null]))])) (va_Qv (fun (_ : Unit) => True) (fun (_ : Unit) (_ : State) => True) (va_A [(h0, .inr (4, [.null, .null, .null, .null, .null]))] sz)) 4 209 (va_A [(h0, .inr (4, [.null, .null, .null, .null, .null]))] sz) := by
  refine Met.ofW (cc := cX4_init) (maxL := 2) (ret := none) (by decide) rfl ?_
  intro p e s m args below meth c s₁ B hml hv
  obtain ⟨rfl, hsz, hP, hK, hD0⟩ := hv
  have hx := B.exec
  have hb := B.bytes
  have hr := B.returns
  have hts := atoms_spec (ws := ww_X4_init) B.pre
  have hown : s.vm.findClass RX4 = some m.cls := findClass_of_methodNamed B.named
  have hlocks := B.notSynchronized
  have hin : meth.name = "<init>" := (name_of_methodNamed B.named B.method).1
  subst hsz
  have hD := hD0.self (sz := s.heap.size)
  generalize hAe : va_A [(h0, .inr (4, [.null, .null, .null, .null, .null]))] s.heap.size = A at hD ⊢
  have hA : ∀ q : Nat, s.heap.size ≤ q → A q := fun q h => by rw [← hAe]; exact Or.inr h
  have hS : va_S A s.heap s.heap [] := va_S.rf
  have hP : va_P (dC, dI) classes [(h0, .inr (4, [.null, .null, .null, .null, .null]))] s.heap := hP
  have hl := lv_entry ([.ref h0, .ref hq]) (n := 2) (Nat.le_of_ble_eq_true rfl)
  rw [lg_entry_eq]
  generalize (lg_sl ([.ref h0, .ref hq]) ++ List.replicate (2 - (lg_sl ([.ref h0, .ref hq])).length) Slot.unset).toArray = ls at hl ⊢
  have hl : lv_has ls 2 [(0, .ref h0), (1, .ref hq)] := hl
  generalize hHe : s.heap = H at hP ⊢
  have hS : va_S A s.heap H [] := by rw [← hHe]; exact va_S.rf
  refine lv_aload_n hx hb dX4_init_0 rfl (lv_at hl 0 rfl) ?_
  refine W.objInit hx hb hown (hts (.methodLink RX4 3 objectInit) (List.mem_of_getElem? (i := 1) rfl)) (hts (.instanceMethod objectInit) (List.mem_of_getElem? (i := 2) rfl)) (hts (.code objectInit ⟨#[0xb1]⟩ 1 none) (List.mem_of_getElem? (i := 3) rfl)) rfl (by rw [hml]; exact hl.1) rfl dX4_init_1 (Nat.le_of_ble_eq_true rfl) (Nat.le_of_ble_eq_true rfl) ?_
  refine W.eq (g2 := F0 m 4 ls []) rfl ?_
  refine lv_aload_n hx hb dX4_init_4 rfl (lv_at hl 0 rfl) ?_
  refine lv_aload_n hx hb dX4_init_5 rfl (lv_at hl 1 rfl) ?_
  refine va_putF (D := (dC, dI)) (ci := 4) (v := .ref hq) (ty := .object "LeafSigner$Hashes") (C := RX4) (T := TX4) (N := 5) hx hb hts iX4_init_X4 tyX4 tyX4_ok nmX4 hown hK hP hD hS 0 rfl rfl 0 (by decide) (hts (.fieldLink RX4 9 "LeafSigner$OneTime" "hashes" "LLeafSigner$Hashes;") (List.mem_of_getElem? (i := 4) rfl)) (fun _ h9 => h9) rfl hin rfl (by decide +kernel) rfl rfl (Nat.le_of_ble_eq_true rfl) dX4_init_6 (fun H locs hP hD hS => ?_)
  have hP : va_P (dC, dI) classes [(h0, .inr (4, [.ref hq, .null, .null, .null, .null]))] H := hP
  have hD : va_D A [(h0, .inr (4, [.ref hq, .null, .null, .null, .null]))] := hD
  refine lv_aload_n hx hb dX4_init_9 rfl (lv_at hl 0 rfl) ?_
  refine lv_bipush (v := 8) hx hb dX4_init_10 (by decide) ?_
  refine va_newa (atype := .int) (ty := .int) (a0 := (8, .inl (fun _ => 0))) hx hb (hts (.arrayClass .int) (List.mem_of_getElem? (i := 5) rfl)) rfl hK hP hD hS hA (fun _ => rfl) (by decide) (by decide) (by decide) (Nat.le_of_ble_eq_true rfl) (Nat.le_of_ble_eq_true rfl) dX4_init_12 (fun q35 cA36 H hK hP hD hS => ?_)
  have hK : va_K (dC, dI) classes [(cA36, .int)] s := hK
  have hP : va_P (dC, dI) classes [(h0, .inr (4, [.ref hq, .null, .null, .null, .null])), (q35, .inl (cA36, 8, .inl (fun _ => 0)))] H := hP
  have hD : va_D A [(h0, .inr (4, [.ref hq, .null, .null, .null, .null])), (q35, .inl (cA36, 8, .inl (fun _ => 0)))] := hD
  refine W.widen (k := 1) (n := 8) (Nat.le_of_ble_eq_true rfl) (Nat.le_of_ble_eq_true rfl) ?_
  refine va_putF (D := (dC, dI)) (ci := 4) (v := .ref q35) (ty := .array .int) (C := RX4) (T := TX4) (N := 5) hx hb hts iX4_init_X4 tyX4 tyX4_ok nmX4 hown hK hP hD hS 0 rfl rfl 1 (by decide) (hts (.fieldLink RX4 15 "LeafSigner$OneTime" "leafSecret" "[I") (List.mem_of_getElem? (i := 6) rfl)) (fun _ h9 => h9) rfl hin rfl (by decide +kernel) rfl rfl (Nat.le_of_ble_eq_true rfl) dX4_init_14 (fun H locs hP hD hS => ?_)
  have hP : va_P (dC, dI) classes [(h0, .inr (4, [.ref hq, .ref q35, .null, .null, .null])), (q35, .inl (cA36, 8, .inl (fun _ => 0)))] H := hP
  have hD : va_D A [(h0, .inr (4, [.ref hq, .ref q35, .null, .null, .null])), (q35, .inl (cA36, 8, .inl (fun _ => 0)))] := hD
  have hP := hP.sub (ws' := [(h0, .inr (4, [.ref hq, .ref q35, .null, .null, .null]))]) [0] rfl
  have hD := hD.sub (ws' := [(h0, .inr (4, [.ref hq, .ref q35, .null, .null, .null]))]) [0] (by decide) rfl
  have hK := hK.sub (tys' := []) [] rfl
  refine lv_aload_n hx hb dX4_init_17 rfl (lv_at hl 0 rfl) ?_
  refine lv_bipush (v := 67) hx hb dX4_init_18 (by decide) ?_
  refine va_newa (atype := .int) (ty := .int) (a0 := (67, .inl (fun _ => 0))) hx hb (hts (.arrayClass .int) (List.mem_of_getElem? (i := 5) rfl)) rfl hK hP hD hS hA (fun _ => rfl) (by decide) (by decide) (by decide) (Nat.le_of_ble_eq_true rfl) (Nat.le_of_ble_eq_true rfl) dX4_init_20 (fun q37 cA38 H hK hP hD hS => ?_)
  have hK : va_K (dC, dI) classes [(cA38, .int)] s := hK
  have hP : va_P (dC, dI) classes [(h0, .inr (4, [.ref hq, .ref q35, .null, .null, .null])), (q37, .inl (cA38, 67, .inl (fun _ => 0)))] H := hP
  have hD : va_D A [(h0, .inr (4, [.ref hq, .ref q35, .null, .null, .null])), (q37, .inl (cA38, 67, .inl (fun _ => 0)))] := hD
  refine W.widen (k := 2) (n := 75) (Nat.le_of_ble_eq_true rfl) (Nat.le_of_ble_eq_true rfl) ?_
  refine va_putF (D := (dC, dI)) (ci := 4) (v := .ref q37) (ty := .array .int) (C := RX4) (T := TX4) (N := 5) hx hb hts iX4_init_X4 tyX4 tyX4_ok nmX4 hown hK hP hD hS 0 rfl rfl 2 (by decide) (hts (.fieldLink RX4 19 "LeafSigner$OneTime" "bottoms" "[I") (List.mem_of_getElem? (i := 7) rfl)) (fun _ h9 => h9) rfl hin rfl (by decide +kernel) rfl rfl (Nat.le_of_ble_eq_true rfl) dX4_init_22 (fun H locs hP hD hS => ?_)
  have hP : va_P (dC, dI) classes [(h0, .inr (4, [.ref hq, .ref q35, .ref q37, .null, .null])), (q37, .inl (cA38, 67, .inl (fun _ => 0)))] H := hP
  have hD : va_D A [(h0, .inr (4, [.ref hq, .ref q35, .ref q37, .null, .null])), (q37, .inl (cA38, 67, .inl (fun _ => 0)))] := hD
  have hP := hP.sub (ws' := [(h0, .inr (4, [.ref hq, .ref q35, .ref q37, .null, .null]))]) [0] rfl
  have hD := hD.sub (ws' := [(h0, .inr (4, [.ref hq, .ref q35, .ref q37, .null, .null]))]) [0] (by decide) rfl
  have hK := hK.sub (tys' := []) [] rfl
  refine lv_aload_n hx hb dX4_init_25 rfl (lv_at hl 0 rfl) ?_
  refine lv_bipush (v := 67) hx hb dX4_init_26 (by decide) ?_
  refine va_newa (atype := .int) (ty := .int) (a0 := (67, .inl (fun _ => 0))) hx hb (hts (.arrayClass .int) (List.mem_of_getElem? (i := 5) rfl)) rfl hK hP hD hS hA (fun _ => rfl) (by decide) (by decide) (by decide) (Nat.le_of_ble_eq_true rfl) (Nat.le_of_ble_eq_true rfl) dX4_init_28 (fun q39 cA40 H hK hP hD hS => ?_)
  have hK : va_K (dC, dI) classes [(cA40, .int)] s := hK
  have hP : va_P (dC, dI) classes [(h0, .inr (4, [.ref hq, .ref q35, .ref q37, .null, .null])), (q39, .inl (cA40, 67, .inl (fun _ => 0)))] H := hP
  have hD : va_D A [(h0, .inr (4, [.ref hq, .ref q35, .ref q37, .null, .null])), (q39, .inl (cA40, 67, .inl (fun _ => 0)))] := hD
  refine W.widen (k := 3) (n := 142) (Nat.le_of_ble_eq_true rfl) (Nat.le_of_ble_eq_true rfl) ?_
  refine va_putF (D := (dC, dI)) (ci := 4) (v := .ref q39) (ty := .array .int) (C := RX4) (T := TX4) (N := 5) hx hb hts iX4_init_X4 tyX4 tyX4_ok nmX4 hown hK hP hD hS 0 rfl rfl 3 (by decide) (hts (.fieldLink RX4 22 "LeafSigner$OneTime" "digits" "[I") (List.mem_of_getElem? (i := 8) rfl)) (fun _ h9 => h9) rfl hin rfl (by decide +kernel) rfl rfl (Nat.le_of_ble_eq_true rfl) dX4_init_30 (fun H locs hP hD hS => ?_)
  have hP : va_P (dC, dI) classes [(h0, .inr (4, [.ref hq, .ref q35, .ref q37, .ref q39, .null])), (q39, .inl (cA40, 67, .inl (fun _ => 0)))] H := hP
  have hD : va_D A [(h0, .inr (4, [.ref hq, .ref q35, .ref q37, .ref q39, .null])), (q39, .inl (cA40, 67, .inl (fun _ => 0)))] := hD
  have hP := hP.sub (ws' := [(h0, .inr (4, [.ref hq, .ref q35, .ref q37, .ref q39, .null]))]) [0] rfl
  have hD := hD.sub (ws' := [(h0, .inr (4, [.ref hq, .ref q35, .ref q37, .ref q39, .null]))]) [0] (by decide) rfl
  have hK := hK.sub (tys' := []) [] rfl
  refine lv_aload_n hx hb dX4_init_33 rfl (lv_at hl 0 rfl) ?_
  refine lv_bipush (v := 67) hx hb dX4_init_34 (by decide) ?_
  refine va_newa (atype := .int) (ty := .int) (a0 := (67, .inl (fun _ => 0))) hx hb (hts (.arrayClass .int) (List.mem_of_getElem? (i := 5) rfl)) rfl hK hP hD hS hA (fun _ => rfl) (by decide) (by decide) (by decide) (Nat.le_of_ble_eq_true rfl) (Nat.le_of_ble_eq_true rfl) dX4_init_36 (fun q41 cA42 H hK hP hD hS => ?_)
  have hK : va_K (dC, dI) classes [(cA42, .int)] s := hK
  have hP : va_P (dC, dI) classes [(h0, .inr (4, [.ref hq, .ref q35, .ref q37, .ref q39, .null])), (q41, .inl (cA42, 67, .inl (fun _ => 0)))] H := hP
  have hD : va_D A [(h0, .inr (4, [.ref hq, .ref q35, .ref q37, .ref q39, .null])), (q41, .inl (cA42, 67, .inl (fun _ => 0)))] := hD
  refine W.widen (k := 4) (n := 209) (Nat.le_of_ble_eq_true rfl) (Nat.le_of_ble_eq_true rfl) ?_
  refine va_putF (D := (dC, dI)) (ci := 4) (v := .ref q41) (ty := .array .int) (C := RX4) (T := TX4) (N := 5) hx hb hts iX4_init_X4 tyX4 tyX4_ok nmX4 hown hK hP hD hS 0 rfl rfl 4 (by decide) (hts (.fieldLink RX4 25 "LeafSigner$OneTime" "tops" "[I") (List.mem_of_getElem? (i := 9) rfl)) (fun _ h9 => h9) rfl hin rfl (by decide +kernel) rfl rfl (Nat.le_of_ble_eq_true rfl) dX4_init_38 (fun H locs hP hD hS => ?_)
  have hP : va_P (dC, dI) classes [(h0, .inr (4, [.ref hq, .ref q35, .ref q37, .ref q39, .ref q41])), (q41, .inl (cA42, 67, .inl (fun _ => 0)))] H := hP
  have hD : va_D A [(h0, .inr (4, [.ref hq, .ref q35, .ref q37, .ref q39, .ref q41])), (q41, .inl (cA42, 67, .inl (fun _ => 0)))] := hD
  refine lv_aload_n hx hb dX4_init_41 rfl (lv_at hl 0 rfl) ?_
  refine va_get (D := (dC, dI)) (ci := 4) (v := .ref q41) (C := RX4) (T := TX4) (N := 5) hx hb hts iX4_init_X4 hown hK hP 0 rfl rfl 4 (by decide) (hts (.fieldLink RX4 25 "LeafSigner$OneTime" "tops" "[I") (List.mem_of_getElem? (i := 9) rfl)) (fun _ h9 => h9) rfl dX4_init_42 ?_
  refine lv_bipush (v := 15) hx hb dX4_init_45 (by decide) ?_
  have hPc := hP.sub (ws' := [(q41, .inl (cA42, 67, .inl (fun _ => 0)))]) [1] rfl
  have hDc := hD.sub (ws' := [(q41, .inl (cA42, 67, .inl (fun _ => 0)))]) [1] (by decide) rfl
  have hKc := hK.sub (tys' := [(cA42, .int)]) [0] rfl
  have hFc := va_free (wc := [(q41, .inl (cA42, 67, .inl (fun _ => 0)))]) hD hS hA [1] rfl
  refine va_callv (va_runS (As := [.ref q41, .int 15]) (rest := []) ⟨hx, hb, hml, hown, hts⟩ (ct_afill l dC dI H.size q41 15 cA42 67 (fun _ => 0) (by decide)) (va_cwS 2 hts gX4_init_J7_fill_53178_28 rfl rfl rfl (by decide +kernel) ⟨(Nat.le_of_ble_eq_true rfl), (Nat.le_of_ble_eq_true rfl)⟩) ⟨fun a U g mk q => by obtain ⟨q0, q1, qP, qK, qD⟩ := q; exact ⟨q0, q1, qP, va_K.moved (u := U) (U := U.calling g mk a) (Vm.Alike.refl U.vm) qK, qD⟩, fun U hU hW => ⟨rfl, by rw [hU], by rw [hU]; exact hPc, va_K.moved hW.alike hKc, hDc.weaken (fun _ _ _ _ => trivial)⟩⟩ rfl rfl hl.1 rfl (lv_room (Nat.le_of_ble_eq_true rfl)) dX4_init_47 ⟨(Nat.le_of_ble_eq_true rfl), (Nat.le_of_ble_eq_true rfl)⟩) hS (fun q _ h => hFc q h) hFc (fun u t H1 locs ht hvm hw hB hz1 hk1 hS => ?_)
  have hP1 : va_P (dC, dI) classes [] H1 := vx_P0
  have hD1 : va_D (va_A [(q41, .inl (cA42, 67, .inl (fun _ => 0)))] H.size) [] := vx_D0
  obtain ⟨hP, hD⟩ := va_join (wr := [(h0, .inr (4, [.ref hq, .ref q35, .ref q37, .ref q39, .ref q41]))]) (w1 := []) hP hD [1] [0] rfl rfl (by decide) (by decide) hk1 hFc hP1 hD1
  have hK := hK.sub (tys' := []) [] rfl
  generalize H1 = H at hP hS ⊢
  have hP : va_P (dC, dI) classes [(h0, .inr (4, [.ref hq, .ref q35, .ref q37, .ref q39, .ref q41]))] H := hP
  have hD : va_D A [(h0, .inr (4, [.ref hq, .ref q35, .ref q37, .ref q39, .ref q41]))] := hD
  have hK : va_K (dC, dI) classes [] s := hK
  refine W.widen (k := 4) (n := 209) (Nat.le_of_ble_eq_true rfl) (Nat.le_of_ble_eq_true rfl) ?_
  refine W.widen (k := 4) (n := 209) (Nat.le_of_ble_eq_true rfl) (Nat.le_of_ble_eq_true rfl) ?_
  exact W.vret hx hb hr (fun t ht hW => ⟨⟨(), rfl, trivial, trivial⟩, hS.F ht⟩) hS.2.2 dX4_init_50
end
section
def ww_X6_init : List Cond := .code yX6_init cX6_init 2 none :: ([.methodLink RX6 3 objectInit, .instanceMethod objectInit, .code objectInit ⟨#[0xb1]⟩ 1 none, .fieldLink RX6 9 "LeafSigner$Tree" "height" "I", .fieldLink RX6 15 "LeafSigner$Tree" "leaves" "I", .classLink RX6 18 RX0, .instantiable RX0 2, .initialized RX0, .code yX0_init cX0_init 2 none, .methodLink RX0 3 objectInit, .arrayClass .int, .fieldLink RX0 9 "LeafSigner$ByteRow" "words" "[I", .fieldLink RX0 15 "LeafSigner$ByteRow" "count" "I", .methodLink RX6 20 yX0_init, .instanceMethod yX0_init, .fieldLink RX6 23 "LeafSigner$Tree" "nodes" "LLeafSigner$ByteRow;", .methodLink RX6 27 yX0_fill, .instanceMethod yX0_fill, .selects RX0 yX0_fill yX0_fill, .code yX0_fill cX0_fill 1 none, .classLink RX6 30 RX2, .instantiable RX2 6, .initialized RX2, .code yX2_init cX2_init 1 none, .methodLink RX2 3 objectInit, .classLink RX2 9 RX5, .instantiable RX5 2, .initialized RX5, .code yX5_init cX5_init 1 none, .methodLink RX5 3 objectInit, .fieldLink RX5 9 "LeafSigner$Sha256" "state" "[I", .fieldLink RX5 15 "LeafSigner$Sha256" "words" "[I", .methodLink RX2 11 yX5_init, .instanceMethod yX5_init, .fieldLink RX2 12 "LeafSigner$Hashes" "sha" "LLeafSigner$Sha256;", .fieldLink RX2 18 "LeafSigner$Hashes" "seedState" "[I", .fieldLink RX2 22 "LeafSigner$Hashes" "address" "[I", .fieldLink RX2 25 "LeafSigner$Hashes" "key" "[I", .fieldLink RX2 28 "LeafSigner$Hashes" "mask" "[I", .fieldLink RX2 31 "LeafSigner$Hashes" "otherMask" "[I", .methodLink RX6 32 yX2_init, .instanceMethod yX2_init, .fieldLink RX6 33 "LeafSigner$Tree" "hashes" "LLeafSigner$Hashes;", .classLink RX6 37 RX4, .instantiable RX4 5, .initialized RX4, .code yX4_init cX4_init 2 none, .methodLink RX4 3 objectInit, .fieldLink RX4 9 "LeafSigner$OneTime" "hashes" "LLeafSigner$Hashes;", .fieldLink RX4 15 "LeafSigner$OneTime" "leafSecret" "[I", .fieldLink RX4 19 "LeafSigner$OneTime" "bottoms" "[I", .fieldLink RX4 22 "LeafSigner$OneTime" "digits" "[I", .fieldLink RX4 25 "LeafSigner$OneTime" "tops" "[I", .methodLink RX4 28 yJ7_fill_53178, .static yJ7_fill_53178, .initialized RJ7, .code yJ7_fill_53178 cJ7_fill_53178 4 none, .methodLink RX6 39 yX4_init, .instanceMethod yX4_init, .fieldLink RX6 42 "LeafSigner$Tree" "oneTime" "LLeafSigner$OneTime;", .fieldLink RX6 46 "LeafSigner$Tree" "secret" "[I", .fieldLink RX6 50 "LeafSigner$Tree" "randomKey" "[I", .fieldLink RX6 53 "LeafSigner$Tree" "digest" "[I", .fieldLink RX6 56 "LeafSigner$Tree" "parts" "[I", .fieldLink RX6 59 "LeafSigner$Tree" "pair" "[I", .fieldLink RX6 62 "LeafSigner$Tree" "grown" "Z"] ++ (wsX60 ++ wsX00 ++ wsX20 ++ wsX50 ++ wsX40))
theorem iX6_init_X6 : ∀ w ∈ wsX60, w ∈ ww_X6_init := fun w h => List.mem_cons_of_mem _ (List.mem_append_right _ (List.mem_append_left _ (List.mem_append_left _ (List.mem_append_left _ (List.mem_append_left _ h)))))
theorem iX6_init_X0 : ∀ w ∈ wsX00, w ∈ ww_X6_init := fun w h => List.mem_cons_of_mem _ (List.mem_append_right _ (List.mem_append_left _ (List.mem_append_left _ (List.mem_append_left _ (List.mem_append_right _ h)))))
theorem iX6_init_X2 : ∀ w ∈ wsX20, w ∈ ww_X6_init := fun w h => List.mem_cons_of_mem _ (List.mem_append_right _ (List.mem_append_left _ (List.mem_append_left _ (List.mem_append_right _ h))))
theorem iX6_init_X5 : ∀ w ∈ wsX50, w ∈ ww_X6_init := fun w h => List.mem_cons_of_mem _ (List.mem_append_right _ (List.mem_append_left _ (List.mem_append_right _ h)))
theorem iX6_init_X4 : ∀ w ∈ wsX40, w ∈ ww_X6_init := fun w h => List.mem_cons_of_mem _ (List.mem_append_right _ (List.mem_append_right _ h))
set_option maxRecDepth 20000 in
theorem gX6_init_X0_init_20 : GoodIn ww_X6_init ww_X0_init := vx_good _ [9, 10, 2, 3, 11, 12, 13, 78, 79] rfl (by decide +kernel)
set_option maxRecDepth 20000 in
theorem gX6_init_X0_fill_27 : GoodIn ww_X6_init (wsV RX6 27 RX0 yX0_fill ww_X0_fill) := vx_good _ [17, 18, 19, 8, 20, 12, 13, 78, 79] rfl (by decide +kernel)
set_option maxRecDepth 20000 in
theorem gX6_init_X2_init_32 : GoodIn ww_X6_init ww_X2_init := vx_good _ [24, 25, 2, 3, 26, 27, 28, 29, 30, 11, 31, 32, 33, 34, 35, 36, 37, 38, 39, 40, 86, 87, 80, 81, 82, 83, 84, 85] rfl (by decide +kernel)
set_option maxRecDepth 20000 in
theorem gX6_init_X4_init_39 : GoodIn ww_X6_init ww_X4_init := vx_good _ [47, 48, 2, 3, 49, 11, 50, 51, 52, 53, 54, 55, 56, 57, 88, 89, 90, 91, 92] rfl (by decide +kernel)
set_option maxHeartbeats 4000000 in
set_option maxRecDepth 100000 in
theorem ct_Tree (l : Launch) (dC : Nat → ClassId) (dI : Nat → Nat → Nat) (sz : Nat) (h0 : Nat) (h : Int32) (hh : h = 1 ∨ h = 2 ∨ h = 3 ∨ h = 4) : Met l yX6_init ww_X6_init ({ frames := 3, cells := 21, slots := 1168, locals := 60 }) (va_Pc [.ref h0, .int h] (fun U => U.heap.size = sz ∧ va_P (dC, dI) classes [(h0, .inr (6, [.int 0, .int 0, .null, .null, .null, .null, .null, .null, .null, .null, .int 0]))] U.heap ∧ va_K (dC, dI) classes [] U ∧ va_D (fun _ => True) [(h0, .inr (6, [.int 0, .int 0, .null, .null, .null, .null, .null, .null, .null, .null, .int 0]))])) (va_Qv (fun (_ : Unit) => True) (fun (_ : Unit) (_ : State) => True) (va_A [(h0, .inr (6, [.int 0, .int 0, .null, .null, .null, .null, .null, .null, .null, .null, .int 0]))] sz)) 21 1168 (va_A [(h0, .inr (6, [.int 0, .int 0, .null, .null, .null, .null, .null, .null, .null, .null, .int 0]))] sz) := by
  refine Met.ofW (cc := cX6_init) (maxL := 2) (ret := none) (by decide) rfl ?_
  intro p e s m args below meth c s₁ B hml hv
  obtain ⟨rfl, hsz, hP, hK, hD0⟩ := hv
  have hx := B.exec
  have hb := B.bytes
  have hr := B.returns
  have hts := atoms_spec (ws := ww_X6_init) B.pre
  have hown : s.vm.findClass RX6 = some m.cls := findClass_of_methodNamed B.named
  have hlocks := B.notSynchronized
  have hin : meth.name = "<init>" := (name_of_methodNamed B.named B.method).1
  subst hsz
  have hD := hD0.self (sz := s.heap.size)
  generalize hAe : va_A [(h0, .inr (6, [.int 0, .int 0, .null, .null, .null, .null, .null, .null, .null, .null, .int 0]))] s.heap.size = A at hD ⊢
  have hA : ∀ q : Nat, s.heap.size ≤ q → A q := fun q h => by rw [← hAe]; exact Or.inr h
  have hS : va_S A s.heap s.heap [] := va_S.rf
  have hP : va_P (dC, dI) classes [(h0, .inr (6, [.int 0, .int 0, .null, .null, .null, .null, .null, .null, .null, .null, .int 0]))] s.heap := hP
  have hl := lv_entry ([.ref h0, .int h]) (n := 2) (Nat.le_of_ble_eq_true rfl)
  rw [lg_entry_eq]
  generalize (lg_sl ([.ref h0, .int h]) ++ List.replicate (2 - (lg_sl ([.ref h0, .int h])).length) Slot.unset).toArray = ls at hl ⊢
  have hl : lv_has ls 2 [(0, .ref h0), (1, .int h)] := hl
  generalize hHe : s.heap = H at hP ⊢
  have hS : va_S A s.heap H [] := by rw [← hHe]; exact va_S.rf
  refine lv_aload_n hx hb dX6_init_0 rfl (lv_at hl 0 rfl) ?_
  refine W.objInit hx hb hown (hts (.methodLink RX6 3 objectInit) (List.mem_of_getElem? (i := 1) rfl)) (hts (.instanceMethod objectInit) (List.mem_of_getElem? (i := 2) rfl)) (hts (.code objectInit ⟨#[0xb1]⟩ 1 none) (List.mem_of_getElem? (i := 3) rfl)) rfl (by rw [hml]; exact hl.1) rfl dX6_init_1 (Nat.le_of_ble_eq_true rfl) (Nat.le_of_ble_eq_true rfl) ?_
  refine W.eq (g2 := F0 m 4 ls []) rfl ?_
  refine lv_aload_n hx hb dX6_init_4 rfl (lv_at hl 0 rfl) ?_
  refine lv_iload_n hx hb dX6_init_5 rfl (lv_at hl 1 rfl) ?_
  refine va_putF (D := (dC, dI)) (ci := 6) (v := .int h) (ty := .int) (C := RX6) (T := TX6) (N := 11) hx hb hts iX6_init_X6 tyX6 tyX6_ok nmX6 hown hK hP hD hS 0 rfl rfl 0 (by decide) (hts (.fieldLink RX6 9 "LeafSigner$Tree" "height" "I") (List.mem_of_getElem? (i := 4) rfl)) (fun _ h9 => h9) rfl hin rfl (by decide +kernel) rfl rfl (Nat.le_of_ble_eq_true rfl) dX6_init_6 (fun H locs hP hD hS => ?_)
  have hP : va_P (dC, dI) classes [(h0, .inr (6, [.int h, .int 0, .null, .null, .null, .null, .null, .null, .null, .null, .int 0]))] H := hP
  have hD : va_D A [(h0, .inr (6, [.int h, .int 0, .null, .null, .null, .null, .null, .null, .null, .null, .int 0]))] := hD
  refine lv_aload_n hx hb dX6_init_9 rfl (lv_at hl 0 rfl) ?_
  refine lv_iconst (v := 1) hx hb dX6_init_10 (by decide) ?_
  refine lv_iload_n hx hb dX6_init_11 rfl (lv_at hl 1 rfl) ?_
  refine lv_ishl hx hb dX6_init_12 ?_
  refine va_putF (D := (dC, dI)) (ci := 6) (v := .int ((1 : Int32) <<< (h &&& 31))) (ty := .int) (C := RX6) (T := TX6) (N := 11) hx hb hts iX6_init_X6 tyX6 tyX6_ok nmX6 hown hK hP hD hS 0 rfl rfl 1 (by decide) (hts (.fieldLink RX6 15 "LeafSigner$Tree" "leaves" "I") (List.mem_of_getElem? (i := 5) rfl)) (fun _ h9 => h9) rfl hin rfl (by decide +kernel) rfl rfl (Nat.le_of_ble_eq_true rfl) dX6_init_13 (fun H locs hP hD hS => ?_)
  have hP : va_P (dC, dI) classes [(h0, .inr (6, [.int h, .int ((1 : Int32) <<< (h &&& 31)), .null, .null, .null, .null, .null, .null, .null, .null, .int 0]))] H := hP
  have hD : va_D A [(h0, .inr (6, [.int h, .int ((1 : Int32) <<< (h &&& 31)), .null, .null, .null, .null, .null, .null, .null, .null, .int 0]))] := hD
  refine lv_aload_n hx hb dX6_init_16 rfl (lv_at hl 0 rfl) ?_
  refine va_new (ci := 0) (fs := [.null, .int 0]) (C := RX0) (T := TX0) (N := 2) hx hb hts iX6_init_X0 tyX0 tyX0_ok hown (hts (.classLink RX6 18 RX0) (List.mem_of_getElem? (i := 6) rfl)) (hts (.instantiable RX0 2) (List.mem_of_getElem? (i := 7) rfl)) (hts (.initialized RX0) (List.mem_of_getElem? (i := 8) rfl)) hK hP hD hS hA rfl (by decide) (Nat.le_of_ble_eq_true rfl) (Nat.le_of_ble_eq_true rfl) dX6_init_17 (fun q44 H hP hD hS => ?_)
  have hP : va_P (dC, dI) classes [(h0, .inr (6, [.int h, .int ((1 : Int32) <<< (h &&& 31)), .null, .null, .null, .null, .null, .null, .null, .null, .int 0])), (q44, .inr (0, [.null, .int 0]))] H := hP
  have hD : va_D A [(h0, .inr (6, [.int h, .int ((1 : Int32) <<< (h &&& 31)), .null, .null, .null, .null, .null, .null, .null, .null, .int 0])), (q44, .inr (0, [.null, .int 0]))] := hD
  refine W.widen (k := 1) (n := 2) (Nat.le_of_ble_eq_true rfl) (Nat.le_of_ble_eq_true rfl) ?_
  refine lv_dup hx hb dX6_init_20 rfl ?_
  refine lv_iconst (v := 2) hx hb dX6_init_21 (by decide) ?_
  refine lv_aload_n hx hb dX6_init_22 rfl (lv_at hl 0 rfl) ?_
  refine va_get (D := (dC, dI)) (ci := 6) (v := .int ((1 : Int32) <<< (h &&& 31))) (C := RX6) (T := TX6) (N := 11) hx hb hts iX6_init_X6 hown hK hP 0 rfl rfl 1 (by decide) (hts (.fieldLink RX6 15 "LeafSigner$Tree" "leaves" "I") (List.mem_of_getElem? (i := 5) rfl)) (fun _ h9 => h9) rfl dX6_init_23 ?_
  refine lv_imul hx hb dX6_init_26 ?_
  refine lv_bipush (v := 8) hx hb dX6_init_27 (by decide) ?_
  refine lv_imul hx hb dX6_init_29 ?_
  have hPc := hP.sub (ws' := [(q44, .inr (0, [.null, .int 0]))]) [1] rfl
  have hDc := hD.sub (ws' := [(q44, .inr (0, [.null, .int 0]))]) [1] (by decide) rfl
  have hKc := hK.sub (tys' := []) [] rfl
  have hFc := va_free (wc := [(q44, .inr (0, [.null, .int 0]))]) hD hS hA [1] rfl
  refine va_callv (va_runI (As := [.int (((2 : Int32) * ((1 : Int32) <<< (h &&& 31))) * (8 : Int32))]) (rest := [.ref q44, .ref h0]) ⟨hx, hb, hml, hown, hts⟩ (ct_ByteRow l dC dI H.size q44 (((2 : Int32) * ((1 : Int32) <<< (h &&& 31))) * (8 : Int32)) (((2 : Int32) * ((1 : Int32) <<< (h &&& 31))) * (8 : Int32)).toNatClampNeg 256 (vx_T hh).1 rfl (vx_T hh).2 (Nat.le_trans (vx_T hh).2 (by decide))) (cwI 1 hts gX6_init_X0_init_20 rfl rfl rfl (hts (.initialized RX0) (List.mem_of_getElem? (i := 8) rfl)) (hts (.methodLink RX6 20 yX0_init) (List.mem_of_getElem? (i := 14) rfl)) (hts (.instanceMethod yX0_init) (List.mem_of_getElem? (i := 15) rfl)) rfl (by decide +kernel) ⟨(Nat.le_of_ble_eq_true rfl), (Nat.le_of_ble_eq_true rfl)⟩) ⟨fun a U g mk q => by obtain ⟨q0, q1, qP, qK, qD⟩ := q; exact ⟨q0, q1, qP, va_K.moved (u := U) (U := U.calling g mk a) (Vm.Alike.refl U.vm) qK, qD⟩, fun U hU hW => ⟨rfl, by rw [hU], by rw [hU]; exact hPc, va_K.moved hW.alike hKc, hDc.weaken (fun _ _ _ _ => trivial)⟩⟩ rfl rfl hl.1 rfl (lv_room (Nat.le_of_ble_eq_true rfl)) dX6_init_30 ⟨(Nat.le_of_ble_eq_true rfl), (Nat.le_of_ble_eq_true rfl)⟩) hS (fun q _ h => hFc q h) hFc (fun u t H1 locs ht hvm hw hB hz1 hk1 hS => ?_)
  obtain ⟨qw_46, cA_47, hP1, hK1, hD1⟩ := hB
  rw [ht] at hP1
  have hK1 := va_K.moved hvm.symm hK1
  obtain ⟨hP, hD⟩ := va_join (wr := [(h0, .inr (6, [.int h, .int ((1 : Int32) <<< (h &&& 31)), .null, .null, .null, .null, .null, .null, .null, .null, .int 0]))]) (w1 := [(q44, .inr (0, [.ref qw_46, .int 0])), (qw_46, .inl (cA_47, (((2 : Int32) * ((1 : Int32) <<< (h &&& 31))) * (8 : Int32)).toNatClampNeg, .inl (fun _ => 0)))]) hP hD [1] [0] rfl rfl (by decide) (by decide) hk1 hFc hP1 hD1
  have hK := hK.sub (tys' := []) [] rfl
  have hK := hK.app hK1
  generalize H1 = H at hP hS ⊢
  have hP : va_P (dC, dI) classes [(h0, .inr (6, [.int h, .int ((1 : Int32) <<< (h &&& 31)), .null, .null, .null, .null, .null, .null, .null, .null, .int 0])), (q44, .inr (0, [.ref qw_46, .int 0])), (qw_46, .inl (cA_47, (((2 : Int32) * ((1 : Int32) <<< (h &&& 31))) * (8 : Int32)).toNatClampNeg, .inl (fun _ => 0)))] H := hP
  have hD : va_D A [(h0, .inr (6, [.int h, .int ((1 : Int32) <<< (h &&& 31)), .null, .null, .null, .null, .null, .null, .null, .null, .int 0])), (q44, .inr (0, [.ref qw_46, .int 0])), (qw_46, .inl (cA_47, (((2 : Int32) * ((1 : Int32) <<< (h &&& 31))) * (8 : Int32)).toNatClampNeg, .inl (fun _ => 0)))] := hD
  have hK : va_K (dC, dI) classes [(cA_47, .int)] s := hK
  refine W.widen (k := 2) (n := 258) (Nat.le_of_ble_eq_true rfl) (Nat.le_of_ble_eq_true rfl) ?_
  refine va_putF (D := (dC, dI)) (ci := 6) (v := .ref q44) (ty := .object "LeafSigner$ByteRow") (C := RX6) (T := TX6) (N := 11) hx hb hts iX6_init_X6 tyX6 tyX6_ok nmX6 hown hK hP hD hS 0 rfl rfl 2 (by decide) (hts (.fieldLink RX6 23 "LeafSigner$Tree" "nodes" "LLeafSigner$ByteRow;") (List.mem_of_getElem? (i := 16) rfl)) (fun _ h9 => h9) rfl hin rfl (by decide +kernel) rfl rfl (Nat.le_of_ble_eq_true rfl) dX6_init_33 (fun H locs hP hD hS => ?_)
  have hP : va_P (dC, dI) classes [(h0, .inr (6, [.int h, .int ((1 : Int32) <<< (h &&& 31)), .ref q44, .null, .null, .null, .null, .null, .null, .null, .int 0])), (q44, .inr (0, [.ref qw_46, .int 0])), (qw_46, .inl (cA_47, (((2 : Int32) * ((1 : Int32) <<< (h &&& 31))) * (8 : Int32)).toNatClampNeg, .inl (fun _ => 0)))] H := hP
  have hD : va_D A [(h0, .inr (6, [.int h, .int ((1 : Int32) <<< (h &&& 31)), .ref q44, .null, .null, .null, .null, .null, .null, .null, .int 0])), (q44, .inr (0, [.ref qw_46, .int 0])), (qw_46, .inl (cA_47, (((2 : Int32) * ((1 : Int32) <<< (h &&& 31))) * (8 : Int32)).toNatClampNeg, .inl (fun _ => 0)))] := hD
  refine lv_aload_n hx hb dX6_init_36 rfl (lv_at hl 0 rfl) ?_
  refine va_get (D := (dC, dI)) (ci := 6) (v := .ref q44) (C := RX6) (T := TX6) (N := 11) hx hb hts iX6_init_X6 hown hK hP 0 rfl rfl 2 (by decide) (hts (.fieldLink RX6 23 "LeafSigner$Tree" "nodes" "LLeafSigner$ByteRow;") (List.mem_of_getElem? (i := 16) rfl)) (fun _ h9 => h9) rfl dX6_init_37 ?_
  have hPc := hP.sub (ws' := [(q44, .inr (0, [.ref qw_46, .int 0])), (qw_46, .inl (cA_47, (((2 : Int32) * ((1 : Int32) <<< (h &&& 31))) * (8 : Int32)).toNatClampNeg, .inl (fun _ => 0)))]) [1, 2] rfl
  have hDc := hD.sub (ws' := [(q44, .inr (0, [.ref qw_46, .int 0])), (qw_46, .inl (cA_47, (((2 : Int32) * ((1 : Int32) <<< (h &&& 31))) * (8 : Int32)).toNatClampNeg, .inl (fun _ => 0)))]) [1, 2] (by decide) rfl
  have hKc := hK.sub (tys' := [(cA_47, .int)]) [0] rfl
  have hFc := va_free (wc := [(q44, .inr (0, [.ref qw_46, .int 0])), (qw_46, .inl (cA_47, (((2 : Int32) * ((1 : Int32) <<< (h &&& 31))) * (8 : Int32)).toNatClampNeg, .inl (fun _ => 0)))]) hD hS hA [1, 2] rfl
  refine va_callv (va_runV (As := []) (rest := []) ⟨hx, hb, hml, hown, hts⟩ (ct_fill l dC dI H.size q44 qw_46 0 cA_47 (((2 : Int32) * ((1 : Int32) <<< (h &&& 31))) * (8 : Int32)).toNatClampNeg (fun _ => 0) (Int32.ofNat (((2 : Int32) * ((1 : Int32) <<< (h &&& 31))) * (8 : Int32)).toNatClampNeg * 4) rfl) (cwV 0 hts gX6_init_X0_fill_27 rfl rfl rfl (by decide +kernel) ⟨(Nat.le_of_ble_eq_true rfl), (Nat.le_of_ble_eq_true rfl)⟩) ⟨fun a U g mk q => by obtain ⟨q0, q1, qP, qK, qD⟩ := q; exact ⟨q0, q1, qP, va_K.moved (u := U) (U := U.calling g mk a) (Vm.Alike.refl U.vm) qK, qD⟩, va_recv hKc hPc (ci := 0) (q0 := 0) rfl rfl, fun U hU hW => ⟨rfl, by rw [hU], by rw [hU]; exact hPc, va_K.moved hW.alike hKc, hDc.weaken (fun _ _ _ _ => trivial)⟩⟩ rfl rfl hl.1 rfl (lv_room (Nat.le_of_ble_eq_true rfl)) dX6_init_40 ⟨(Nat.le_of_ble_eq_true rfl), (Nat.le_of_ble_eq_true rfl)⟩) hS (fun q _ h => hFc q h) hFc (fun u t H1 locs ht hvm hw hB hz1 hk1 hS => ?_)
  obtain ⟨hP1, hK1, hD1⟩ := hB
  rw [ht] at hP1
  have hK1 := va_K.moved hvm.symm hK1
  obtain ⟨hP, hD⟩ := va_join (wr := [(h0, .inr (6, [.int h, .int ((1 : Int32) <<< (h &&& 31)), .ref q44, .null, .null, .null, .null, .null, .null, .null, .int 0]))]) (w1 := [(q44, .inr (0, [.ref qw_46, .int (Int32.ofNat (((2 : Int32) * ((1 : Int32) <<< (h &&& 31))) * (8 : Int32)).toNatClampNeg * 4)])), (qw_46, .inl (cA_47, (((2 : Int32) * ((1 : Int32) <<< (h &&& 31))) * (8 : Int32)).toNatClampNeg, .inl (fun _ => 0)))]) hP hD [1, 2] [0] rfl rfl (by decide) (by decide) hk1 hFc hP1 hD1
  have hK := hK.sub (tys' := []) [] rfl
  have hK := hK.app hK1
  generalize H1 = H at hP hS ⊢
  have hP : va_P (dC, dI) classes [(h0, .inr (6, [.int h, .int ((1 : Int32) <<< (h &&& 31)), .ref q44, .null, .null, .null, .null, .null, .null, .null, .int 0])), (q44, .inr (0, [.ref qw_46, .int (Int32.ofNat (((2 : Int32) * ((1 : Int32) <<< (h &&& 31))) * (8 : Int32)).toNatClampNeg * 4)])), (qw_46, .inl (cA_47, (((2 : Int32) * ((1 : Int32) <<< (h &&& 31))) * (8 : Int32)).toNatClampNeg, .inl (fun _ => 0)))] H := hP
  have hD : va_D A [(h0, .inr (6, [.int h, .int ((1 : Int32) <<< (h &&& 31)), .ref q44, .null, .null, .null, .null, .null, .null, .null, .int 0])), (q44, .inr (0, [.ref qw_46, .int (Int32.ofNat (((2 : Int32) * ((1 : Int32) <<< (h &&& 31))) * (8 : Int32)).toNatClampNeg * 4)])), (qw_46, .inl (cA_47, (((2 : Int32) * ((1 : Int32) <<< (h &&& 31))) * (8 : Int32)).toNatClampNeg, .inl (fun _ => 0)))] := hD
  have hK : va_K (dC, dI) classes [(cA_47, .int)] s := hK
  refine W.widen (k := 2) (n := 258) (Nat.le_of_ble_eq_true rfl) (Nat.le_of_ble_eq_true rfl) ?_
  have hP := hP.sub (ws' := [(h0, .inr (6, [.int h, .int ((1 : Int32) <<< (h &&& 31)), .ref q44, .null, .null, .null, .null, .null, .null, .null, .int 0]))]) [0] rfl
  have hD := hD.sub (ws' := [(h0, .inr (6, [.int h, .int ((1 : Int32) <<< (h &&& 31)), .ref q44, .null, .null, .null, .null, .null, .null, .null, .int 0]))]) [0] (by decide) rfl
  have hK := hK.sub (tys' := []) [] rfl
  refine lv_aload_n hx hb dX6_init_43 rfl (lv_at hl 0 rfl) ?_
  refine va_new (ci := 2) (fs := [.null, .null, .null, .null, .null, .null]) (C := RX2) (T := TX2) (N := 6) hx hb hts iX6_init_X2 tyX2 tyX2_ok hown (hts (.classLink RX6 30 RX2) (List.mem_of_getElem? (i := 21) rfl)) (hts (.instantiable RX2 6) (List.mem_of_getElem? (i := 22) rfl)) (hts (.initialized RX2) (List.mem_of_getElem? (i := 23) rfl)) hK hP hD hS hA rfl (by decide) (Nat.le_of_ble_eq_true rfl) (Nat.le_of_ble_eq_true rfl) dX6_init_44 (fun q49 H hP hD hS => ?_)
  have hP : va_P (dC, dI) classes [(h0, .inr (6, [.int h, .int ((1 : Int32) <<< (h &&& 31)), .ref q44, .null, .null, .null, .null, .null, .null, .null, .int 0])), (q49, .inr (2, [.null, .null, .null, .null, .null, .null]))] H := hP
  have hD : va_D A [(h0, .inr (6, [.int h, .int ((1 : Int32) <<< (h &&& 31)), .ref q44, .null, .null, .null, .null, .null, .null, .null, .int 0])), (q49, .inr (2, [.null, .null, .null, .null, .null, .null]))] := hD
  refine W.widen (k := 3) (n := 264) (Nat.le_of_ble_eq_true rfl) (Nat.le_of_ble_eq_true rfl) ?_
  refine lv_dup hx hb dX6_init_47 rfl ?_
  have hPc := hP.sub (ws' := [(q49, .inr (2, [.null, .null, .null, .null, .null, .null]))]) [1] rfl
  have hDc := hD.sub (ws' := [(q49, .inr (2, [.null, .null, .null, .null, .null, .null]))]) [1] (by decide) rfl
  have hKc := hK.sub (tys' := []) [] rfl
  have hFc := va_free (wc := [(q49, .inr (2, [.null, .null, .null, .null, .null, .null]))]) hD hS hA [1] rfl
  refine va_callv (va_runI (As := []) (rest := [.ref q49, .ref h0]) ⟨hx, hb, hml, hown, hts⟩ (ct_Hashes l dC dI H.size q49) (cwI 0 hts gX6_init_X2_init_32 rfl rfl rfl (hts (.initialized RX2) (List.mem_of_getElem? (i := 23) rfl)) (hts (.methodLink RX6 32 yX2_init) (List.mem_of_getElem? (i := 41) rfl)) (hts (.instanceMethod yX2_init) (List.mem_of_getElem? (i := 42) rfl)) rfl (by decide +kernel) ⟨(Nat.le_of_ble_eq_true rfl), (Nat.le_of_ble_eq_true rfl)⟩) ⟨fun a U g mk q => by obtain ⟨q0, q1, qP, qK, qD⟩ := q; exact ⟨q0, q1, qP, va_K.moved (u := U) (U := U.calling g mk a) (Vm.Alike.refl U.vm) qK, qD⟩, fun U hU hW => ⟨rfl, by rw [hU], by rw [hU]; exact hPc, va_K.moved hW.alike hKc, hDc.weaken (fun _ _ _ _ => trivial)⟩⟩ rfl rfl hl.1 rfl (lv_room (Nat.le_of_ble_eq_true rfl)) dX6_init_48 ⟨(Nat.le_of_ble_eq_true rfl), (Nat.le_of_ble_eq_true rfl)⟩) hS (fun q _ h => hFc q h) hFc (fun u t H1 locs ht hvm hw hB hz1 hk1 hS => ?_)
  have hP1 : va_P (dC, dI) classes [] H1 := vx_P0
  have hD1 : va_D (va_A [(q49, .inr (2, [.null, .null, .null, .null, .null, .null]))] H.size) [] := vx_D0
  obtain ⟨hP, hD⟩ := va_join (wr := [(h0, .inr (6, [.int h, .int ((1 : Int32) <<< (h &&& 31)), .ref q44, .null, .null, .null, .null, .null, .null, .null, .int 0]))]) (w1 := []) hP hD [1] [0] rfl rfl (by decide) (by decide) hk1 hFc hP1 hD1
  have hK := hK.sub (tys' := []) [] rfl
  generalize H1 = H at hP hS ⊢
  have hP : va_P (dC, dI) classes [(h0, .inr (6, [.int h, .int ((1 : Int32) <<< (h &&& 31)), .ref q44, .null, .null, .null, .null, .null, .null, .null, .int 0]))] H := hP
  have hD : va_D A [(h0, .inr (6, [.int h, .int ((1 : Int32) <<< (h &&& 31)), .ref q44, .null, .null, .null, .null, .null, .null, .null, .int 0]))] := hD
  have hK : va_K (dC, dI) classes [] s := hK
  refine W.widen (k := 11) (n := 378) (Nat.le_of_ble_eq_true rfl) (Nat.le_of_ble_eq_true rfl) ?_
  refine va_putF (D := (dC, dI)) (ci := 6) (v := .ref q49) (ty := .object "LeafSigner$Hashes") (C := RX6) (T := TX6) (N := 11) hx hb hts iX6_init_X6 tyX6 tyX6_ok nmX6 hown hK hP hD hS 0 rfl rfl 3 (by decide) (hts (.fieldLink RX6 33 "LeafSigner$Tree" "hashes" "LLeafSigner$Hashes;") (List.mem_of_getElem? (i := 43) rfl)) (fun _ h9 => h9) rfl hin rfl (by decide +kernel) rfl rfl (Nat.le_of_ble_eq_true rfl) dX6_init_51 (fun H locs hP hD hS => ?_)
  have hP : va_P (dC, dI) classes [(h0, .inr (6, [.int h, .int ((1 : Int32) <<< (h &&& 31)), .ref q44, .ref q49, .null, .null, .null, .null, .null, .null, .int 0]))] H := hP
  have hD : va_D A [(h0, .inr (6, [.int h, .int ((1 : Int32) <<< (h &&& 31)), .ref q44, .ref q49, .null, .null, .null, .null, .null, .null, .int 0]))] := hD
  refine lv_aload_n hx hb dX6_init_54 rfl (lv_at hl 0 rfl) ?_
  refine va_new (ci := 4) (fs := [.null, .null, .null, .null, .null]) (C := RX4) (T := TX4) (N := 5) hx hb hts iX6_init_X4 tyX4 tyX4_ok hown (hts (.classLink RX6 37 RX4) (List.mem_of_getElem? (i := 44) rfl)) (hts (.instantiable RX4 5) (List.mem_of_getElem? (i := 45) rfl)) (hts (.initialized RX4) (List.mem_of_getElem? (i := 46) rfl)) hK hP hD hS hA rfl (by decide) (Nat.le_of_ble_eq_true rfl) (Nat.le_of_ble_eq_true rfl) dX6_init_55 (fun q51 H hP hD hS => ?_)
  have hP : va_P (dC, dI) classes [(h0, .inr (6, [.int h, .int ((1 : Int32) <<< (h &&& 31)), .ref q44, .ref q49, .null, .null, .null, .null, .null, .null, .int 0])), (q51, .inr (4, [.null, .null, .null, .null, .null]))] H := hP
  have hD : va_D A [(h0, .inr (6, [.int h, .int ((1 : Int32) <<< (h &&& 31)), .ref q44, .ref q49, .null, .null, .null, .null, .null, .null, .int 0])), (q51, .inr (4, [.null, .null, .null, .null, .null]))] := hD
  refine W.widen (k := 12) (n := 383) (Nat.le_of_ble_eq_true rfl) (Nat.le_of_ble_eq_true rfl) ?_
  refine lv_dup hx hb dX6_init_58 rfl ?_
  refine lv_aload_n hx hb dX6_init_59 rfl (lv_at hl 0 rfl) ?_
  refine va_get (D := (dC, dI)) (ci := 6) (v := .ref q49) (C := RX6) (T := TX6) (N := 11) hx hb hts iX6_init_X6 hown hK hP 0 rfl rfl 3 (by decide) (hts (.fieldLink RX6 33 "LeafSigner$Tree" "hashes" "LLeafSigner$Hashes;") (List.mem_of_getElem? (i := 43) rfl)) (fun _ h9 => h9) rfl dX6_init_60 ?_
  have hPc := hP.sub (ws' := [(q51, .inr (4, [.null, .null, .null, .null, .null]))]) [1] rfl
  have hDc := hD.sub (ws' := [(q51, .inr (4, [.null, .null, .null, .null, .null]))]) [1] (by decide) rfl
  have hKc := hK.sub (tys' := []) [] rfl
  have hFc := va_free (wc := [(q51, .inr (4, [.null, .null, .null, .null, .null]))]) hD hS hA [1] rfl
  refine va_callv (va_runI (As := [.ref q49]) (rest := [.ref q51, .ref h0]) ⟨hx, hb, hml, hown, hts⟩ (ct_OneTime l dC dI H.size q51 q49) (cwI 1 hts gX6_init_X4_init_39 rfl rfl rfl (hts (.initialized RX4) (List.mem_of_getElem? (i := 46) rfl)) (hts (.methodLink RX6 39 yX4_init) (List.mem_of_getElem? (i := 58) rfl)) (hts (.instanceMethod yX4_init) (List.mem_of_getElem? (i := 59) rfl)) rfl (by decide +kernel) ⟨(Nat.le_of_ble_eq_true rfl), (Nat.le_of_ble_eq_true rfl)⟩) ⟨fun a U g mk q => by obtain ⟨q0, q1, qP, qK, qD⟩ := q; exact ⟨q0, q1, qP, va_K.moved (u := U) (U := U.calling g mk a) (Vm.Alike.refl U.vm) qK, qD⟩, fun U hU hW => ⟨rfl, by rw [hU], by rw [hU]; exact hPc, va_K.moved hW.alike hKc, hDc.weaken (fun _ _ _ _ => trivial)⟩⟩ rfl rfl hl.1 rfl (lv_room (Nat.le_of_ble_eq_true rfl)) dX6_init_63 ⟨(Nat.le_of_ble_eq_true rfl), (Nat.le_of_ble_eq_true rfl)⟩) hS (fun q _ h => hFc q h) hFc (fun u t H1 locs ht hvm hw hB hz1 hk1 hS => ?_)
  have hP1 : va_P (dC, dI) classes [] H1 := vx_P0
  have hD1 : va_D (va_A [(q51, .inr (4, [.null, .null, .null, .null, .null]))] H.size) [] := vx_D0
  obtain ⟨hP, hD⟩ := va_join (wr := [(h0, .inr (6, [.int h, .int ((1 : Int32) <<< (h &&& 31)), .ref q44, .ref q49, .null, .null, .null, .null, .null, .null, .int 0]))]) (w1 := []) hP hD [1] [0] rfl rfl (by decide) (by decide) hk1 hFc hP1 hD1
  have hK := hK.sub (tys' := []) [] rfl
  generalize H1 = H at hP hS ⊢
  have hP : va_P (dC, dI) classes [(h0, .inr (6, [.int h, .int ((1 : Int32) <<< (h &&& 31)), .ref q44, .ref q49, .null, .null, .null, .null, .null, .null, .int 0]))] H := hP
  have hD : va_D A [(h0, .inr (6, [.int h, .int ((1 : Int32) <<< (h &&& 31)), .ref q44, .ref q49, .null, .null, .null, .null, .null, .null, .int 0]))] := hD
  have hK : va_K (dC, dI) classes [] s := hK
  refine W.widen (k := 16) (n := 592) (Nat.le_of_ble_eq_true rfl) (Nat.le_of_ble_eq_true rfl) ?_
  refine va_putF (D := (dC, dI)) (ci := 6) (v := .ref q51) (ty := .object "LeafSigner$OneTime") (C := RX6) (T := TX6) (N := 11) hx hb hts iX6_init_X6 tyX6 tyX6_ok nmX6 hown hK hP hD hS 0 rfl rfl 4 (by decide) (hts (.fieldLink RX6 42 "LeafSigner$Tree" "oneTime" "LLeafSigner$OneTime;") (List.mem_of_getElem? (i := 60) rfl)) (fun _ h9 => h9) rfl hin rfl (by decide +kernel) rfl rfl (Nat.le_of_ble_eq_true rfl) dX6_init_66 (fun H locs hP hD hS => ?_)
  have hP : va_P (dC, dI) classes [(h0, .inr (6, [.int h, .int ((1 : Int32) <<< (h &&& 31)), .ref q44, .ref q49, .ref q51, .null, .null, .null, .null, .null, .int 0]))] H := hP
  have hD : va_D A [(h0, .inr (6, [.int h, .int ((1 : Int32) <<< (h &&& 31)), .ref q44, .ref q49, .ref q51, .null, .null, .null, .null, .null, .int 0]))] := hD
  refine lv_aload_n hx hb dX6_init_69 rfl (lv_at hl 0 rfl) ?_
  refine lv_bipush (v := 8) hx hb dX6_init_70 (by decide) ?_
  refine va_newa (atype := .int) (ty := .int) (a0 := (8, .inl (fun _ => 0))) hx hb (hts (.arrayClass .int) (List.mem_of_getElem? (i := 11) rfl)) rfl hK hP hD hS hA (fun _ => rfl) (by decide) (by decide) (by decide) (Nat.le_of_ble_eq_true rfl) (Nat.le_of_ble_eq_true rfl) dX6_init_72 (fun q53 cA54 H hK hP hD hS => ?_)
  have hK : va_K (dC, dI) classes [(cA54, .int)] s := hK
  have hP : va_P (dC, dI) classes [(h0, .inr (6, [.int h, .int ((1 : Int32) <<< (h &&& 31)), .ref q44, .ref q49, .ref q51, .null, .null, .null, .null, .null, .int 0])), (q53, .inl (cA54, 8, .inl (fun _ => 0)))] H := hP
  have hD : va_D A [(h0, .inr (6, [.int h, .int ((1 : Int32) <<< (h &&& 31)), .ref q44, .ref q49, .ref q51, .null, .null, .null, .null, .null, .int 0])), (q53, .inl (cA54, 8, .inl (fun _ => 0)))] := hD
  refine W.widen (k := 17) (n := 600) (Nat.le_of_ble_eq_true rfl) (Nat.le_of_ble_eq_true rfl) ?_
  refine va_putF (D := (dC, dI)) (ci := 6) (v := .ref q53) (ty := .array .int) (C := RX6) (T := TX6) (N := 11) hx hb hts iX6_init_X6 tyX6 tyX6_ok nmX6 hown hK hP hD hS 0 rfl rfl 5 (by decide) (hts (.fieldLink RX6 46 "LeafSigner$Tree" "secret" "[I") (List.mem_of_getElem? (i := 61) rfl)) (fun _ h9 => h9) rfl hin rfl (by decide +kernel) rfl rfl (Nat.le_of_ble_eq_true rfl) dX6_init_74 (fun H locs hP hD hS => ?_)
  have hP : va_P (dC, dI) classes [(h0, .inr (6, [.int h, .int ((1 : Int32) <<< (h &&& 31)), .ref q44, .ref q49, .ref q51, .ref q53, .null, .null, .null, .null, .int 0])), (q53, .inl (cA54, 8, .inl (fun _ => 0)))] H := hP
  have hD : va_D A [(h0, .inr (6, [.int h, .int ((1 : Int32) <<< (h &&& 31)), .ref q44, .ref q49, .ref q51, .ref q53, .null, .null, .null, .null, .int 0])), (q53, .inl (cA54, 8, .inl (fun _ => 0)))] := hD
  have hP := hP.sub (ws' := [(h0, .inr (6, [.int h, .int ((1 : Int32) <<< (h &&& 31)), .ref q44, .ref q49, .ref q51, .ref q53, .null, .null, .null, .null, .int 0]))]) [0] rfl
  have hD := hD.sub (ws' := [(h0, .inr (6, [.int h, .int ((1 : Int32) <<< (h &&& 31)), .ref q44, .ref q49, .ref q51, .ref q53, .null, .null, .null, .null, .int 0]))]) [0] (by decide) rfl
  have hK := hK.sub (tys' := []) [] rfl
  refine lv_aload_n hx hb dX6_init_77 rfl (lv_at hl 0 rfl) ?_
  refine lv_bipush (v := 8) hx hb dX6_init_78 (by decide) ?_
  refine va_newa (atype := .int) (ty := .int) (a0 := (8, .inl (fun _ => 0))) hx hb (hts (.arrayClass .int) (List.mem_of_getElem? (i := 11) rfl)) rfl hK hP hD hS hA (fun _ => rfl) (by decide) (by decide) (by decide) (Nat.le_of_ble_eq_true rfl) (Nat.le_of_ble_eq_true rfl) dX6_init_80 (fun q55 cA56 H hK hP hD hS => ?_)
  have hK : va_K (dC, dI) classes [(cA56, .int)] s := hK
  have hP : va_P (dC, dI) classes [(h0, .inr (6, [.int h, .int ((1 : Int32) <<< (h &&& 31)), .ref q44, .ref q49, .ref q51, .ref q53, .null, .null, .null, .null, .int 0])), (q55, .inl (cA56, 8, .inl (fun _ => 0)))] H := hP
  have hD : va_D A [(h0, .inr (6, [.int h, .int ((1 : Int32) <<< (h &&& 31)), .ref q44, .ref q49, .ref q51, .ref q53, .null, .null, .null, .null, .int 0])), (q55, .inl (cA56, 8, .inl (fun _ => 0)))] := hD
  refine W.widen (k := 18) (n := 608) (Nat.le_of_ble_eq_true rfl) (Nat.le_of_ble_eq_true rfl) ?_
  refine va_putF (D := (dC, dI)) (ci := 6) (v := .ref q55) (ty := .array .int) (C := RX6) (T := TX6) (N := 11) hx hb hts iX6_init_X6 tyX6 tyX6_ok nmX6 hown hK hP hD hS 0 rfl rfl 6 (by decide) (hts (.fieldLink RX6 50 "LeafSigner$Tree" "randomKey" "[I") (List.mem_of_getElem? (i := 62) rfl)) (fun _ h9 => h9) rfl hin rfl (by decide +kernel) rfl rfl (Nat.le_of_ble_eq_true rfl) dX6_init_82 (fun H locs hP hD hS => ?_)
  have hP : va_P (dC, dI) classes [(h0, .inr (6, [.int h, .int ((1 : Int32) <<< (h &&& 31)), .ref q44, .ref q49, .ref q51, .ref q53, .ref q55, .null, .null, .null, .int 0])), (q55, .inl (cA56, 8, .inl (fun _ => 0)))] H := hP
  have hD : va_D A [(h0, .inr (6, [.int h, .int ((1 : Int32) <<< (h &&& 31)), .ref q44, .ref q49, .ref q51, .ref q53, .ref q55, .null, .null, .null, .int 0])), (q55, .inl (cA56, 8, .inl (fun _ => 0)))] := hD
  have hP := hP.sub (ws' := [(h0, .inr (6, [.int h, .int ((1 : Int32) <<< (h &&& 31)), .ref q44, .ref q49, .ref q51, .ref q53, .ref q55, .null, .null, .null, .int 0]))]) [0] rfl
  have hD := hD.sub (ws' := [(h0, .inr (6, [.int h, .int ((1 : Int32) <<< (h &&& 31)), .ref q44, .ref q49, .ref q51, .ref q53, .ref q55, .null, .null, .null, .int 0]))]) [0] (by decide) rfl
  have hK := hK.sub (tys' := []) [] rfl
  refine lv_aload_n hx hb dX6_init_85 rfl (lv_at hl 0 rfl) ?_
  refine lv_bipush (v := 8) hx hb dX6_init_86 (by decide) ?_
  refine va_newa (atype := .int) (ty := .int) (a0 := (8, .inl (fun _ => 0))) hx hb (hts (.arrayClass .int) (List.mem_of_getElem? (i := 11) rfl)) rfl hK hP hD hS hA (fun _ => rfl) (by decide) (by decide) (by decide) (Nat.le_of_ble_eq_true rfl) (Nat.le_of_ble_eq_true rfl) dX6_init_88 (fun q57 cA58 H hK hP hD hS => ?_)
  have hK : va_K (dC, dI) classes [(cA58, .int)] s := hK
  have hP : va_P (dC, dI) classes [(h0, .inr (6, [.int h, .int ((1 : Int32) <<< (h &&& 31)), .ref q44, .ref q49, .ref q51, .ref q53, .ref q55, .null, .null, .null, .int 0])), (q57, .inl (cA58, 8, .inl (fun _ => 0)))] H := hP
  have hD : va_D A [(h0, .inr (6, [.int h, .int ((1 : Int32) <<< (h &&& 31)), .ref q44, .ref q49, .ref q51, .ref q53, .ref q55, .null, .null, .null, .int 0])), (q57, .inl (cA58, 8, .inl (fun _ => 0)))] := hD
  refine W.widen (k := 19) (n := 616) (Nat.le_of_ble_eq_true rfl) (Nat.le_of_ble_eq_true rfl) ?_
  refine va_putF (D := (dC, dI)) (ci := 6) (v := .ref q57) (ty := .array .int) (C := RX6) (T := TX6) (N := 11) hx hb hts iX6_init_X6 tyX6 tyX6_ok nmX6 hown hK hP hD hS 0 rfl rfl 7 (by decide) (hts (.fieldLink RX6 53 "LeafSigner$Tree" "digest" "[I") (List.mem_of_getElem? (i := 63) rfl)) (fun _ h9 => h9) rfl hin rfl (by decide +kernel) rfl rfl (Nat.le_of_ble_eq_true rfl) dX6_init_90 (fun H locs hP hD hS => ?_)
  have hP : va_P (dC, dI) classes [(h0, .inr (6, [.int h, .int ((1 : Int32) <<< (h &&& 31)), .ref q44, .ref q49, .ref q51, .ref q53, .ref q55, .ref q57, .null, .null, .int 0])), (q57, .inl (cA58, 8, .inl (fun _ => 0)))] H := hP
  have hD : va_D A [(h0, .inr (6, [.int h, .int ((1 : Int32) <<< (h &&& 31)), .ref q44, .ref q49, .ref q51, .ref q53, .ref q55, .ref q57, .null, .null, .int 0])), (q57, .inl (cA58, 8, .inl (fun _ => 0)))] := hD
  have hP := hP.sub (ws' := [(h0, .inr (6, [.int h, .int ((1 : Int32) <<< (h &&& 31)), .ref q44, .ref q49, .ref q51, .ref q53, .ref q55, .ref q57, .null, .null, .int 0]))]) [0] rfl
  have hD := hD.sub (ws' := [(h0, .inr (6, [.int h, .int ((1 : Int32) <<< (h &&& 31)), .ref q44, .ref q49, .ref q51, .ref q53, .ref q55, .ref q57, .null, .null, .int 0]))]) [0] (by decide) rfl
  have hK := hK.sub (tys' := []) [] rfl
  refine lv_aload_n hx hb dX6_init_93 rfl (lv_at hl 0 rfl) ?_
  refine lv_sipush (v := 536) hx hb dX6_init_94 (by decide) ?_
  refine va_newa (atype := .int) (ty := .int) (a0 := (536, .inl (fun _ => 0))) hx hb (hts (.arrayClass .int) (List.mem_of_getElem? (i := 11) rfl)) rfl hK hP hD hS hA (fun _ => rfl) (by decide) (by decide) (by decide) (Nat.le_of_ble_eq_true rfl) (Nat.le_of_ble_eq_true rfl) dX6_init_97 (fun q59 cA60 H hK hP hD hS => ?_)
  have hK : va_K (dC, dI) classes [(cA60, .int)] s := hK
  have hP : va_P (dC, dI) classes [(h0, .inr (6, [.int h, .int ((1 : Int32) <<< (h &&& 31)), .ref q44, .ref q49, .ref q51, .ref q53, .ref q55, .ref q57, .null, .null, .int 0])), (q59, .inl (cA60, 536, .inl (fun _ => 0)))] H := hP
  have hD : va_D A [(h0, .inr (6, [.int h, .int ((1 : Int32) <<< (h &&& 31)), .ref q44, .ref q49, .ref q51, .ref q53, .ref q55, .ref q57, .null, .null, .int 0])), (q59, .inl (cA60, 536, .inl (fun _ => 0)))] := hD
  refine W.widen (k := 20) (n := 1152) (Nat.le_of_ble_eq_true rfl) (Nat.le_of_ble_eq_true rfl) ?_
  refine va_putF (D := (dC, dI)) (ci := 6) (v := .ref q59) (ty := .array .int) (C := RX6) (T := TX6) (N := 11) hx hb hts iX6_init_X6 tyX6 tyX6_ok nmX6 hown hK hP hD hS 0 rfl rfl 8 (by decide) (hts (.fieldLink RX6 56 "LeafSigner$Tree" "parts" "[I") (List.mem_of_getElem? (i := 64) rfl)) (fun _ h9 => h9) rfl hin rfl (by decide +kernel) rfl rfl (Nat.le_of_ble_eq_true rfl) dX6_init_99 (fun H locs hP hD hS => ?_)
  have hP : va_P (dC, dI) classes [(h0, .inr (6, [.int h, .int ((1 : Int32) <<< (h &&& 31)), .ref q44, .ref q49, .ref q51, .ref q53, .ref q55, .ref q57, .ref q59, .null, .int 0])), (q59, .inl (cA60, 536, .inl (fun _ => 0)))] H := hP
  have hD : va_D A [(h0, .inr (6, [.int h, .int ((1 : Int32) <<< (h &&& 31)), .ref q44, .ref q49, .ref q51, .ref q53, .ref q55, .ref q57, .ref q59, .null, .int 0])), (q59, .inl (cA60, 536, .inl (fun _ => 0)))] := hD
  have hP := hP.sub (ws' := [(h0, .inr (6, [.int h, .int ((1 : Int32) <<< (h &&& 31)), .ref q44, .ref q49, .ref q51, .ref q53, .ref q55, .ref q57, .ref q59, .null, .int 0]))]) [0] rfl
  have hD := hD.sub (ws' := [(h0, .inr (6, [.int h, .int ((1 : Int32) <<< (h &&& 31)), .ref q44, .ref q49, .ref q51, .ref q53, .ref q55, .ref q57, .ref q59, .null, .int 0]))]) [0] (by decide) rfl
  have hK := hK.sub (tys' := []) [] rfl
  refine lv_aload_n hx hb dX6_init_102 rfl (lv_at hl 0 rfl) ?_
  refine lv_bipush (v := 16) hx hb dX6_init_103 (by decide) ?_
  refine va_newa (atype := .int) (ty := .int) (a0 := (16, .inl (fun _ => 0))) hx hb (hts (.arrayClass .int) (List.mem_of_getElem? (i := 11) rfl)) rfl hK hP hD hS hA (fun _ => rfl) (by decide) (by decide) (by decide) (Nat.le_of_ble_eq_true rfl) (Nat.le_of_ble_eq_true rfl) dX6_init_105 (fun q61 cA62 H hK hP hD hS => ?_)
  have hK : va_K (dC, dI) classes [(cA62, .int)] s := hK
  have hP : va_P (dC, dI) classes [(h0, .inr (6, [.int h, .int ((1 : Int32) <<< (h &&& 31)), .ref q44, .ref q49, .ref q51, .ref q53, .ref q55, .ref q57, .ref q59, .null, .int 0])), (q61, .inl (cA62, 16, .inl (fun _ => 0)))] H := hP
  have hD : va_D A [(h0, .inr (6, [.int h, .int ((1 : Int32) <<< (h &&& 31)), .ref q44, .ref q49, .ref q51, .ref q53, .ref q55, .ref q57, .ref q59, .null, .int 0])), (q61, .inl (cA62, 16, .inl (fun _ => 0)))] := hD
  refine W.widen (k := 21) (n := 1168) (Nat.le_of_ble_eq_true rfl) (Nat.le_of_ble_eq_true rfl) ?_
  refine va_putF (D := (dC, dI)) (ci := 6) (v := .ref q61) (ty := .array .int) (C := RX6) (T := TX6) (N := 11) hx hb hts iX6_init_X6 tyX6 tyX6_ok nmX6 hown hK hP hD hS 0 rfl rfl 9 (by decide) (hts (.fieldLink RX6 59 "LeafSigner$Tree" "pair" "[I") (List.mem_of_getElem? (i := 65) rfl)) (fun _ h9 => h9) rfl hin rfl (by decide +kernel) rfl rfl (Nat.le_of_ble_eq_true rfl) dX6_init_107 (fun H locs hP hD hS => ?_)
  have hP : va_P (dC, dI) classes [(h0, .inr (6, [.int h, .int ((1 : Int32) <<< (h &&& 31)), .ref q44, .ref q49, .ref q51, .ref q53, .ref q55, .ref q57, .ref q59, .ref q61, .int 0])), (q61, .inl (cA62, 16, .inl (fun _ => 0)))] H := hP
  have hD : va_D A [(h0, .inr (6, [.int h, .int ((1 : Int32) <<< (h &&& 31)), .ref q44, .ref q49, .ref q51, .ref q53, .ref q55, .ref q57, .ref q59, .ref q61, .int 0])), (q61, .inl (cA62, 16, .inl (fun _ => 0)))] := hD
  have hP := hP.sub (ws' := [(h0, .inr (6, [.int h, .int ((1 : Int32) <<< (h &&& 31)), .ref q44, .ref q49, .ref q51, .ref q53, .ref q55, .ref q57, .ref q59, .ref q61, .int 0]))]) [0] rfl
  have hD := hD.sub (ws' := [(h0, .inr (6, [.int h, .int ((1 : Int32) <<< (h &&& 31)), .ref q44, .ref q49, .ref q51, .ref q53, .ref q55, .ref q57, .ref q59, .ref q61, .int 0]))]) [0] (by decide) rfl
  have hK := hK.sub (tys' := []) [] rfl
  refine lv_aload_n hx hb dX6_init_110 rfl (lv_at hl 0 rfl) ?_
  refine lv_iconst (v := 0) hx hb dX6_init_111 (by decide) ?_
  refine va_put (D := (dC, dI)) (ci := 6) (v := .int 0) (ty := .boolean) (C := RX6) (T := TX6) (N := 11) hx hb hts iX6_init_X6 tyX6 tyX6_ok nmX6 hown hK hP hD hS 0 rfl rfl 10 (by decide) (hts (.fieldLink RX6 62 "LeafSigner$Tree" "grown" "Z") (List.mem_of_getElem? (i := 66) rfl)) (fun _ h9 => h9) rfl (by decide +kernel) rfl rfl (Nat.le_of_ble_eq_true rfl) dX6_init_112 (fun H locs hP hD hS => ?_)
  have hP : va_P (dC, dI) classes [(h0, .inr (6, [.int h, .int ((1 : Int32) <<< (h &&& 31)), .ref q44, .ref q49, .ref q51, .ref q53, .ref q55, .ref q57, .ref q59, .ref q61, .int 0]))] H := hP
  have hD : va_D A [(h0, .inr (6, [.int h, .int ((1 : Int32) <<< (h &&& 31)), .ref q44, .ref q49, .ref q51, .ref q53, .ref q55, .ref q57, .ref q59, .ref q61, .int 0]))] := hD
  refine W.widen (k := 21) (n := 1168) (Nat.le_of_ble_eq_true rfl) (Nat.le_of_ble_eq_true rfl) ?_
  exact W.vret hx hb hr (fun t ht hW => ⟨⟨(), rfl, trivial, trivial⟩, hS.F ht⟩) hS.2.2 dX6_init_115
end
section
def ww_X7_init : List Cond := .code yX7_init cX7_init 4 none :: ([.methodLink RX7 3 objectInit, .instanceMethod objectInit, .code objectInit ⟨#[0xb1]⟩ 1 none, .methodLink RX7 9 Lib.Math.min.name, .static Lib.Math.min.name, .initialized "java/lang/Math", .code Lib.Math.min.name Lib.Math.min.code 2 (some .int), .methodLink RX7 15 Lib.Math.max.name, .static Lib.Math.max.name, .code Lib.Math.max.name Lib.Math.max.code 2 (some .int), .fieldLink RX7 18 "LeafSigner" "height" "I", .fieldLink RX7 22 "LeafSigner" "reserve" "I", .classLink RX7 25 RX0, .instantiable RX0 2, .initialized RX0, .code yX0_init cX0_init 2 none, .methodLink RX0 3 objectInit, .arrayClass .int, .fieldLink RX0 9 "LeafSigner$ByteRow" "words" "[I", .fieldLink RX0 15 "LeafSigner$ByteRow" "count" "I", .methodLink RX7 27 yX0_init, .instanceMethod yX0_init, .fieldLink RX7 30 "LeafSigner" "tape" "LLeafSigner$ByteRow;", .fieldLink RX7 34 "LeafSigner" "output" "LLeafSigner$ByteRow;", .fieldLink RX7 37 "LeafSigner" "held" "LLeafSigner$ByteRow;", .classLink RX7 40 RX1, .instantiable RX1 3, .initialized RX1, .code yX1_init cX1_init 1 none, .methodLink RX1 3 objectInit, .classLink RX1 9 RX0, .methodLink RX1 13 yX0_init, .fieldLink RX1 16 "LeafSigner$Disk" "bytes" "LLeafSigner$ByteRow;", .methodLink RX1 20 yX0_fill, .instanceMethod yX0_fill, .selects RX0 yX0_fill yX0_fill, .code yX0_fill cX0_fill 1 none, .fieldLink RX1 23 "LeafSigner$Disk" "written" "I", .fieldLink RX1 27 "LeafSigner$Disk" "fuseLeft" "I", .methodLink RX7 42 yX1_init, .instanceMethod yX1_init, .fieldLink RX7 43 "LeafSigner" "store" "LLeafSigner$Disk;", .classLink RX7 47 RX3, .instantiable RX3 7, .initialized RX3, .code yX3_init cX3_init 4 none, .methodLink RX3 1 objectInit, .fieldLink RX3 7 "LeafSigner$Machine" "fates" "[I", .fieldLink RX3 13 "LeafSigner$Machine" "reserve" "I", .fieldLink RX3 17 "LeafSigner$Machine" "disk" "LLeafSigner$Disk;", .fieldLink RX3 21 "LeafSigner$Machine" "state" "I", .fieldLink RX3 24 "LeafSigner$Machine" "next" "I", .fieldLink RX3 27 "LeafSigner$Machine" "end" "I", .fieldLink RX3 30 "LeafSigner$Machine" "sequence" "I", .methodLink RX7 49 yX3_init, .instanceMethod yX3_init, .fieldLink RX7 52 "LeafSigner" "machine" "LLeafSigner$Machine;", .classLink RX7 56 RX6, .instantiable RX6 11, .initialized RX6, .code yX6_init cX6_init 2 none, .methodLink RX6 3 objectInit, .fieldLink RX6 9 "LeafSigner$Tree" "height" "I", .fieldLink RX6 15 "LeafSigner$Tree" "leaves" "I", .classLink RX6 18 RX0, .methodLink RX6 20 yX0_init, .fieldLink RX6 23 "LeafSigner$Tree" "nodes" "LLeafSigner$ByteRow;", .methodLink RX6 27 yX0_fill, .classLink RX6 30 RX2, .instantiable RX2 6, .initialized RX2, .code yX2_init cX2_init 1 none, .methodLink RX2 3 objectInit, .classLink RX2 9 RX5, .instantiable RX5 2, .initialized RX5, .code yX5_init cX5_init 1 none, .methodLink RX5 3 objectInit, .fieldLink RX5 9 "LeafSigner$Sha256" "state" "[I", .fieldLink RX5 15 "LeafSigner$Sha256" "words" "[I", .methodLink RX2 11 yX5_init, .instanceMethod yX5_init, .fieldLink RX2 12 "LeafSigner$Hashes" "sha" "LLeafSigner$Sha256;", .fieldLink RX2 18 "LeafSigner$Hashes" "seedState" "[I", .fieldLink RX2 22 "LeafSigner$Hashes" "address" "[I", .fieldLink RX2 25 "LeafSigner$Hashes" "key" "[I", .fieldLink RX2 28 "LeafSigner$Hashes" "mask" "[I", .fieldLink RX2 31 "LeafSigner$Hashes" "otherMask" "[I", .methodLink RX6 32 yX2_init, .instanceMethod yX2_init, .fieldLink RX6 33 "LeafSigner$Tree" "hashes" "LLeafSigner$Hashes;", .classLink RX6 37 RX4, .instantiable RX4 5, .initialized RX4, .code yX4_init cX4_init 2 none, .methodLink RX4 3 objectInit, .fieldLink RX4 9 "LeafSigner$OneTime" "hashes" "LLeafSigner$Hashes;", .fieldLink RX4 15 "LeafSigner$OneTime" "leafSecret" "[I", .fieldLink RX4 19 "LeafSigner$OneTime" "bottoms" "[I", .fieldLink RX4 22 "LeafSigner$OneTime" "digits" "[I", .fieldLink RX4 25 "LeafSigner$OneTime" "tops" "[I", .methodLink RX4 28 yJ7_fill_53178, .static yJ7_fill_53178, .initialized RJ7, .code yJ7_fill_53178 cJ7_fill_53178 4 none, .methodLink RX6 39 yX4_init, .instanceMethod yX4_init, .fieldLink RX6 42 "LeafSigner$Tree" "oneTime" "LLeafSigner$OneTime;", .fieldLink RX6 46 "LeafSigner$Tree" "secret" "[I", .fieldLink RX6 50 "LeafSigner$Tree" "randomKey" "[I", .fieldLink RX6 53 "LeafSigner$Tree" "digest" "[I", .fieldLink RX6 56 "LeafSigner$Tree" "parts" "[I", .fieldLink RX6 59 "LeafSigner$Tree" "pair" "[I", .fieldLink RX6 62 "LeafSigner$Tree" "grown" "Z", .methodLink RX7 58 yX6_init, .instanceMethod yX6_init, .fieldLink RX7 59 "LeafSigner" "tree" "LLeafSigner$Tree;"] ++ (wsX70 ++ wsX00 ++ wsX10 ++ wsX30 ++ wsX60 ++ wsX20 ++ wsX50 ++ wsX40))
theorem iX7_init_X7 : ∀ w ∈ wsX70, w ∈ ww_X7_init := fun w h => List.mem_cons_of_mem _ (List.mem_append_right _ (List.mem_append_left _ (List.mem_append_left _ (List.mem_append_left _ (List.mem_append_left _ (List.mem_append_left _ (List.mem_append_left _ (List.mem_append_left _ h))))))))
theorem iX7_init_X0 : ∀ w ∈ wsX00, w ∈ ww_X7_init := fun w h => List.mem_cons_of_mem _ (List.mem_append_right _ (List.mem_append_left _ (List.mem_append_left _ (List.mem_append_left _ (List.mem_append_left _ (List.mem_append_left _ (List.mem_append_left _ (List.mem_append_right _ h))))))))
theorem iX7_init_X1 : ∀ w ∈ wsX10, w ∈ ww_X7_init := fun w h => List.mem_cons_of_mem _ (List.mem_append_right _ (List.mem_append_left _ (List.mem_append_left _ (List.mem_append_left _ (List.mem_append_left _ (List.mem_append_left _ (List.mem_append_right _ h)))))))
theorem iX7_init_X3 : ∀ w ∈ wsX30, w ∈ ww_X7_init := fun w h => List.mem_cons_of_mem _ (List.mem_append_right _ (List.mem_append_left _ (List.mem_append_left _ (List.mem_append_left _ (List.mem_append_left _ (List.mem_append_right _ h))))))
theorem iX7_init_X6 : ∀ w ∈ wsX60, w ∈ ww_X7_init := fun w h => List.mem_cons_of_mem _ (List.mem_append_right _ (List.mem_append_left _ (List.mem_append_left _ (List.mem_append_left _ (List.mem_append_right _ h)))))
theorem iX7_init_X2 : ∀ w ∈ wsX20, w ∈ ww_X7_init := fun w h => List.mem_cons_of_mem _ (List.mem_append_right _ (List.mem_append_left _ (List.mem_append_left _ (List.mem_append_right _ h))))
theorem iX7_init_X5 : ∀ w ∈ wsX50, w ∈ ww_X7_init := fun w h => List.mem_cons_of_mem _ (List.mem_append_right _ (List.mem_append_left _ (List.mem_append_right _ h)))
theorem iX7_init_X4 : ∀ w ∈ wsX40, w ∈ ww_X7_init := fun w h => List.mem_cons_of_mem _ (List.mem_append_right _ (List.mem_append_right _ h))
set_option maxRecDepth 20000 in
theorem gX7_init_X0_init_27 : GoodIn ww_X7_init ww_X0_init := vx_good _ [16, 17, 2, 3, 18, 19, 20, 126, 127] rfl (by decide +kernel)
set_option maxRecDepth 20000 in
theorem gX7_init_X1_init_42 : GoodIn ww_X7_init ww_X1_init := vx_good _ [29, 30, 2, 3, 31, 14, 15, 16, 17, 18, 19, 20, 32, 22, 33, 34, 35, 36, 37, 38, 39, 126, 127, 128, 129, 130] rfl (by decide +kernel)
set_option maxRecDepth 20000 in
theorem gX7_init_X3_init_49 : GoodIn ww_X7_init ww_X3_init := vx_good _ [46, 47, 2, 3, 18, 48, 49, 50, 51, 52, 53, 54, 131, 132, 133, 134, 135, 136, 137] rfl (by decide +kernel)
set_option maxRecDepth 20000 in
theorem gX7_init_X6_init_58 : GoodIn ww_X7_init ww_X6_init := vx_good _ [61, 62, 2, 3, 63, 64, 65, 14, 15, 16, 17, 18, 19, 20, 66, 22, 67, 68, 35, 36, 37, 69, 70, 71, 72, 73, 74, 75, 76, 77, 78, 79, 80, 81, 82, 83, 84, 85, 86, 87, 88, 89, 90, 91, 92, 93, 94, 95, 96, 97, 98, 99, 100, 101, 102, 103, 104, 105, 106, 107, 108, 109, 110, 111, 112, 113, 114, 138, 139, 140, 141, 142, 143, 144, 145, 146, 147, 148, 126, 127, 149, 150, 151, 152, 153, 154, 155, 156, 157, 158, 159, 160, 161] rfl (by decide +kernel)
set_option maxHeartbeats 4000000 in
set_option maxRecDepth 100000 in
theorem ct_Signer (l : Launch) (dC : Nat → ClassId) (dI : Nat → Nat → Nat) (sz : Nat) (h0 : Nat) (k1 : Int32) (k2 : Int32) : Met l yX7_init ww_X7_init ({ frames := 4, cells := 33, slots := 2423, locals := 81 }) (va_Pc [.ref h0, .int k1, .int k2] (fun U => U.heap.size = sz ∧ va_P (dC, dI) classes [(h0, .inr (7, [.int 0, .int 0, .null, .null, .null, .null, .null, .null]))] U.heap ∧ va_K (dC, dI) classes [] U ∧ va_D (fun _ => True) [(h0, .inr (7, [.int 0, .int 0, .null, .null, .null, .null, .null, .null]))])) (va_Qv (fun (_ : Unit) => True) (fun (_ : Unit) (t : State) => ∃ xt : Nat, ∃ xo : Nat, ∃ xh : Nat, ∃ xs : Nat, ∃ xm : Nat, ∃ xq : Nat, ∃ xtw : Nat, ∃ xow : Nat, ∃ xhw : Nat, ∃ xb : Nat, ∃ xbw : Nat, ∃ xf : Nat, ∃ cT : ClassId, ∃ cO : ClassId, ∃ cH : ClassId, ∃ cB : ClassId, ∃ cF : ClassId, va_P (dC, dI) classes [(h0, .inr (7, [.int (ch_h k1), .int (ch_r k2), .ref xt, .ref xo, .ref xh, .ref xs, .ref xm, .ref xq])), (xt, .inr (0, [.ref xtw, .int 0])), (xtw, .inl (cT, 50, .inl (fun _ => 0))), (xo, .inr (0, [.ref xow, .int 0])), (xow, .inl (cO, (ch_N (ch_h k1)), .inl (fun _ => 0))), (xh, .inr (0, [.ref xhw, .int 0])), (xhw, .inl (cH, (ch_N (ch_h k1)), .inl (fun _ => 0))), (xs, .inr (1, [.ref xb, .int 0, .int (-1)])), (xb, .inr (0, [.ref xbw, .int 24])), (xbw, .inl (cB, 6, .inl (fun _ => 0))), (xm, .inr (3, [.ref xf, .int (ch_r k2), .ref xs, .int 0, .int 0, .int 0, .int 0])), (xf, .inl (cF, (ch_L (ch_h k1)), .inl (fun _ => 0)))] t.heap ∧ va_K (dC, dI) classes [(cT, .int), (cO, .int), (cH, .int), (cB, .int), (cF, .int)] t ∧ va_D (va_A [(h0, .inr (7, [.int 0, .int 0, .null, .null, .null, .null, .null, .null]))] sz) [(h0, .inr (7, [.int (ch_h k1), .int (ch_r k2), .ref xt, .ref xo, .ref xh, .ref xs, .ref xm, .ref xq])), (xt, .inr (0, [.ref xtw, .int 0])), (xtw, .inl (cT, 50, .inl (fun _ => 0))), (xo, .inr (0, [.ref xow, .int 0])), (xow, .inl (cO, (ch_N (ch_h k1)), .inl (fun _ => 0))), (xh, .inr (0, [.ref xhw, .int 0])), (xhw, .inl (cH, (ch_N (ch_h k1)), .inl (fun _ => 0))), (xs, .inr (1, [.ref xb, .int 0, .int (-1)])), (xb, .inr (0, [.ref xbw, .int 24])), (xbw, .inl (cB, 6, .inl (fun _ => 0))), (xm, .inr (3, [.ref xf, .int (ch_r k2), .ref xs, .int 0, .int 0, .int 0, .int 0])), (xf, .inl (cF, (ch_L (ch_h k1)), .inl (fun _ => 0)))]) (va_A [(h0, .inr (7, [.int 0, .int 0, .null, .null, .null, .null, .null, .null]))] sz)) 33 2423 (va_A [(h0, .inr (7, [.int 0, .int 0, .null, .null, .null, .null, .null, .null]))] sz) := by
  refine Met.ofW (cc := cX7_init) (maxL := 4) (ret := none) (by decide) rfl ?_
  intro p e s m args below meth c s₁ B hml hv
  obtain ⟨rfl, hsz, hP, hK, hD0⟩ := hv
  have hx := B.exec
  have hb := B.bytes
  have hr := B.returns
  have hts := atoms_spec (ws := ww_X7_init) B.pre
  have hown : s.vm.findClass RX7 = some m.cls := findClass_of_methodNamed B.named
  have hlocks := B.notSynchronized
  have hin : meth.name = "<init>" := (name_of_methodNamed B.named B.method).1
  subst hsz
  have hD := hD0.self (sz := s.heap.size)
  generalize hAe : va_A [(h0, .inr (7, [.int 0, .int 0, .null, .null, .null, .null, .null, .null]))] s.heap.size = A at hD ⊢
  have hA : ∀ q : Nat, s.heap.size ≤ q → A q := fun q h => by rw [← hAe]; exact Or.inr h
  have hS : va_S A s.heap s.heap [] := va_S.rf
  have hP : va_P (dC, dI) classes [(h0, .inr (7, [.int 0, .int 0, .null, .null, .null, .null, .null, .null]))] s.heap := hP
  have hl := lv_entry ([.ref h0, .int k1, .int k2]) (n := 4) (Nat.le_of_ble_eq_true rfl)
  rw [lg_entry_eq]
  generalize (lg_sl ([.ref h0, .int k1, .int k2]) ++ List.replicate (4 - (lg_sl ([.ref h0, .int k1, .int k2])).length) Slot.unset).toArray = ls at hl ⊢
  have hl : lv_has ls 4 [(0, .ref h0), (1, .int k1), (2, .int k2)] := hl
  generalize hHe : s.heap = H at hP ⊢
  have hS : va_S A s.heap H [] := by rw [← hHe]; exact va_S.rf
  refine lv_aload_n hx hb dX7_init_0 rfl (lv_at hl 0 rfl) ?_
  refine W.objInit hx hb hown (hts (.methodLink RX7 3 objectInit) (List.mem_of_getElem? (i := 1) rfl)) (hts (.instanceMethod objectInit) (List.mem_of_getElem? (i := 2) rfl)) (hts (.code objectInit ⟨#[0xb1]⟩ 1 none) (List.mem_of_getElem? (i := 3) rfl)) rfl (by rw [hml]; exact hl.1) rfl dX7_init_1 (Nat.le_of_ble_eq_true rfl) (Nat.le_of_ble_eq_true rfl) ?_
  refine W.eq (g2 := F0 m 4 ls []) rfl ?_
  refine lv_aload_n hx hb dX7_init_4 rfl (lv_at hl 0 rfl) ?_
  refine lv_iconst (v := 1) hx hb dX7_init_5 (by decide) ?_
  refine lv_iconst (v := 4) hx hb dX7_init_6 (by decide) ?_
  refine lv_iload_n hx hb dX7_init_7 rfl (lv_at hl 1 rfl) ?_
  refine va_mmin hx hb (hml.trans hl.1.symm) hown (hts (.methodLink RX7 9 Lib.Math.min.name) (List.mem_of_getElem? (i := 4) rfl)) (hts (.static Lib.Math.min.name) (List.mem_of_getElem? (i := 5) rfl)) (hts (.initialized "java/lang/Math") (List.mem_of_getElem? (i := 6) rfl)) (hts (.code Lib.Math.min.name Lib.Math.min.code 2 (some .int)) (List.mem_of_getElem? (i := 7) rfl)) (Nat.le_of_ble_eq_true rfl) (Nat.le_of_ble_eq_true rfl) (Nat.le_of_ble_eq_true rfl) (Nat.le_of_ble_eq_true rfl) dX7_init_8 ?_
  refine va_mmax hx hb (hml.trans hl.1.symm) hown (hts (.methodLink RX7 15 Lib.Math.max.name) (List.mem_of_getElem? (i := 8) rfl)) (hts (.static Lib.Math.max.name) (List.mem_of_getElem? (i := 9) rfl)) (hts (.initialized "java/lang/Math") (List.mem_of_getElem? (i := 6) rfl)) (hts (.code Lib.Math.max.name Lib.Math.max.code 2 (some .int)) (List.mem_of_getElem? (i := 10) rfl)) (Nat.le_of_ble_eq_true rfl) (Nat.le_of_ble_eq_true rfl) (Nat.le_of_ble_eq_true rfl) (Nat.le_of_ble_eq_true rfl) dX7_init_11 ?_
  refine vx_topk (ch_h k1) rfl ?_
  refine va_putF (D := (dC, dI)) (ci := 7) (v := .int (ch_h k1)) (ty := .int) (C := RX7) (T := TX7) (N := 8) hx hb hts iX7_init_X7 tyX7 tyX7_ok nmX7 hown hK hP hD hS 0 rfl rfl 0 (by decide) (hts (.fieldLink RX7 18 "LeafSigner" "height" "I") (List.mem_of_getElem? (i := 11) rfl)) (fun _ h9 => h9) rfl hin rfl (by decide +kernel) rfl rfl (Nat.le_of_ble_eq_true rfl) dX7_init_14 (fun H locs hP hD hS => ?_)
  have hP : va_P (dC, dI) classes [(h0, .inr (7, [.int (ch_h k1), .int 0, .null, .null, .null, .null, .null, .null]))] H := hP
  have hD : va_D A [(h0, .inr (7, [.int (ch_h k1), .int 0, .null, .null, .null, .null, .null, .null]))] := hD
  refine lv_aload_n hx hb dX7_init_17 rfl (lv_at hl 0 rfl) ?_
  refine lv_iconst (v := 1) hx hb dX7_init_18 (by decide) ?_
  refine lv_bipush (v := 8) hx hb dX7_init_19 (by decide) ?_
  refine lv_iload_n hx hb dX7_init_21 rfl (lv_at hl 2 rfl) ?_
  refine va_mmin hx hb (hml.trans hl.1.symm) hown (hts (.methodLink RX7 9 Lib.Math.min.name) (List.mem_of_getElem? (i := 4) rfl)) (hts (.static Lib.Math.min.name) (List.mem_of_getElem? (i := 5) rfl)) (hts (.initialized "java/lang/Math") (List.mem_of_getElem? (i := 6) rfl)) (hts (.code Lib.Math.min.name Lib.Math.min.code 2 (some .int)) (List.mem_of_getElem? (i := 7) rfl)) (Nat.le_of_ble_eq_true rfl) (Nat.le_of_ble_eq_true rfl) (Nat.le_of_ble_eq_true rfl) (Nat.le_of_ble_eq_true rfl) dX7_init_22 ?_
  refine va_mmax hx hb (hml.trans hl.1.symm) hown (hts (.methodLink RX7 15 Lib.Math.max.name) (List.mem_of_getElem? (i := 8) rfl)) (hts (.static Lib.Math.max.name) (List.mem_of_getElem? (i := 9) rfl)) (hts (.initialized "java/lang/Math") (List.mem_of_getElem? (i := 6) rfl)) (hts (.code Lib.Math.max.name Lib.Math.max.code 2 (some .int)) (List.mem_of_getElem? (i := 10) rfl)) (Nat.le_of_ble_eq_true rfl) (Nat.le_of_ble_eq_true rfl) (Nat.le_of_ble_eq_true rfl) (Nat.le_of_ble_eq_true rfl) dX7_init_25 ?_
  refine vx_topk (ch_r k2) rfl ?_
  refine va_putF (D := (dC, dI)) (ci := 7) (v := .int (ch_r k2)) (ty := .int) (C := RX7) (T := TX7) (N := 8) hx hb hts iX7_init_X7 tyX7 tyX7_ok nmX7 hown hK hP hD hS 0 rfl rfl 1 (by decide) (hts (.fieldLink RX7 22 "LeafSigner" "reserve" "I") (List.mem_of_getElem? (i := 12) rfl)) (fun _ h9 => h9) rfl hin rfl (by decide +kernel) rfl rfl (Nat.le_of_ble_eq_true rfl) dX7_init_28 (fun H locs hP hD hS => ?_)
  have hP : va_P (dC, dI) classes [(h0, .inr (7, [.int (ch_h k1), .int (ch_r k2), .null, .null, .null, .null, .null, .null]))] H := hP
  have hD : va_D A [(h0, .inr (7, [.int (ch_h k1), .int (ch_r k2), .null, .null, .null, .null, .null, .null]))] := hD
  refine lv_sipush (v := 545) hx hb dX7_init_31 (by decide) ?_
  refine lv_aload_n hx hb dX7_init_34 rfl (lv_at hl 0 rfl) ?_
  refine va_get (D := (dC, dI)) (ci := 7) (v := .int (ch_h k1)) (C := RX7) (T := TX7) (N := 8) hx hb hts iX7_init_X7 hown hK hP 0 rfl rfl 0 (by decide) (hts (.fieldLink RX7 18 "LeafSigner" "height" "I") (List.mem_of_getElem? (i := 11) rfl)) (fun _ h9 => h9) rfl dX7_init_35 ?_
  refine lv_bipush (v := 8) hx hb dX7_init_38 (by decide) ?_
  refine lv_imul hx hb dX7_init_40 ?_
  refine lv_iadd hx hb dX7_init_41 ?_
  refine vx_topk (ch_n (ch_h k1)) rfl ?_
  refine lv_istore_n (lv' := [(3, .int (ch_n (ch_h k1))), (0, .ref h0), (1, .int k1), (2, .int k2)]) hx hb dX7_init_42 rfl hl (by decide) rfl (fun ls hl => ?_)
  refine lv_aload_n hx hb dX7_init_43 rfl (lv_at hl 1 rfl) ?_
  refine va_new (ci := 0) (fs := [.null, .int 0]) (C := RX0) (T := TX0) (N := 2) hx hb hts iX7_init_X0 tyX0 tyX0_ok hown (hts (.classLink RX7 25 RX0) (List.mem_of_getElem? (i := 13) rfl)) (hts (.instantiable RX0 2) (List.mem_of_getElem? (i := 14) rfl)) (hts (.initialized RX0) (List.mem_of_getElem? (i := 15) rfl)) hK hP hD hS hA rfl (by decide) (Nat.le_of_ble_eq_true rfl) (Nat.le_of_ble_eq_true rfl) dX7_init_44 (fun q63 H hP hD hS => ?_)
  have hP : va_P (dC, dI) classes [(h0, .inr (7, [.int (ch_h k1), .int (ch_r k2), .null, .null, .null, .null, .null, .null])), (q63, .inr (0, [.null, .int 0]))] H := hP
  have hD : va_D A [(h0, .inr (7, [.int (ch_h k1), .int (ch_r k2), .null, .null, .null, .null, .null, .null])), (q63, .inr (0, [.null, .int 0]))] := hD
  refine W.widen (k := 1) (n := 2) (Nat.le_of_ble_eq_true rfl) (Nat.le_of_ble_eq_true rfl) ?_
  refine lv_dup hx hb dX7_init_47 rfl ?_
  refine lv_bipush (v := 50) hx hb dX7_init_48 (by decide) ?_
  have hh := vx_h4 k1
  have hPc := hP.sub (ws' := [(q63, .inr (0, [.null, .int 0]))]) [1] rfl
  have hDc := hD.sub (ws' := [(q63, .inr (0, [.null, .int 0]))]) [1] (by decide) rfl
  have hKc := hK.sub (tys' := []) [] rfl
  have hFc := va_free (wc := [(q63, .inr (0, [.null, .int 0]))]) hD hS hA [1] rfl
  refine va_callv (va_runI (As := [.int 50]) (rest := [.ref q63, .ref h0]) ⟨hx, hb, hml, hown, hts⟩ (ct_ByteRow l dC dI H.size q63 50 50 50 (by decide) (by decide) (by decide) (by decide)) (cwI 1 hts gX7_init_X0_init_27 rfl rfl rfl (hts (.initialized RX0) (List.mem_of_getElem? (i := 15) rfl)) (hts (.methodLink RX7 27 yX0_init) (List.mem_of_getElem? (i := 21) rfl)) (hts (.instanceMethod yX0_init) (List.mem_of_getElem? (i := 22) rfl)) rfl (by decide +kernel) ⟨(Nat.le_of_ble_eq_true rfl), (Nat.le_of_ble_eq_true rfl)⟩) ⟨fun a U g mk q => by obtain ⟨q0, q1, qP, qK, qD⟩ := q; exact ⟨q0, q1, qP, va_K.moved (u := U) (U := U.calling g mk a) (Vm.Alike.refl U.vm) qK, qD⟩, fun U hU hW => ⟨rfl, by rw [hU], by rw [hU]; exact hPc, va_K.moved hW.alike hKc, hDc.weaken (fun _ _ _ _ => trivial)⟩⟩ rfl rfl hl.1 rfl (lv_room (Nat.le_of_ble_eq_true rfl)) dX7_init_50 ⟨(Nat.le_of_ble_eq_true rfl), (Nat.le_of_ble_eq_true rfl)⟩) hS (fun q _ h => hFc q h) hFc (fun u t H1 locs ht hvm hw hB hz1 hk1 hS => ?_)
  obtain ⟨qw_65, cA_66, hP1, hK1, hD1⟩ := hB
  rw [ht] at hP1
  have hK1 := va_K.moved hvm.symm hK1
  obtain ⟨hP, hD⟩ := va_join (wr := [(h0, .inr (7, [.int (ch_h k1), .int (ch_r k2), .null, .null, .null, .null, .null, .null]))]) (w1 := [(q63, .inr (0, [.ref qw_65, .int 0])), (qw_65, .inl (cA_66, 50, .inl (fun _ => 0)))]) hP hD [1] [0] rfl rfl (by decide) (by decide) hk1 hFc hP1 hD1
  have hK := hK.sub (tys' := []) [] rfl
  have hK := hK.app hK1
  generalize H1 = H at hP hS ⊢
  have hP : va_P (dC, dI) classes [(h0, .inr (7, [.int (ch_h k1), .int (ch_r k2), .null, .null, .null, .null, .null, .null])), (q63, .inr (0, [.ref qw_65, .int 0])), (qw_65, .inl (cA_66, 50, .inl (fun _ => 0)))] H := hP
  have hD : va_D A [(h0, .inr (7, [.int (ch_h k1), .int (ch_r k2), .null, .null, .null, .null, .null, .null])), (q63, .inr (0, [.ref qw_65, .int 0])), (qw_65, .inl (cA_66, 50, .inl (fun _ => 0)))] := hD
  have hK : va_K (dC, dI) classes [(cA_66, .int)] s := hK
  refine W.widen (k := 2) (n := 52) (Nat.le_of_ble_eq_true rfl) (Nat.le_of_ble_eq_true rfl) ?_
  refine va_putF (D := (dC, dI)) (ci := 7) (v := .ref q63) (ty := .object "LeafSigner$ByteRow") (C := RX7) (T := TX7) (N := 8) hx hb hts iX7_init_X7 tyX7 tyX7_ok nmX7 hown hK hP hD hS 0 rfl rfl 2 (by decide) (hts (.fieldLink RX7 30 "LeafSigner" "tape" "LLeafSigner$ByteRow;") (List.mem_of_getElem? (i := 23) rfl)) (fun _ h9 => h9) rfl hin rfl (by decide +kernel) rfl rfl (Nat.le_of_ble_eq_true rfl) dX7_init_53 (fun H locs hP hD hS => ?_)
  have hP : va_P (dC, dI) classes [(h0, .inr (7, [.int (ch_h k1), .int (ch_r k2), .ref q63, .null, .null, .null, .null, .null])), (q63, .inr (0, [.ref qw_65, .int 0])), (qw_65, .inl (cA_66, 50, .inl (fun _ => 0)))] H := hP
  have hD : va_D A [(h0, .inr (7, [.int (ch_h k1), .int (ch_r k2), .ref q63, .null, .null, .null, .null, .null])), (q63, .inr (0, [.ref qw_65, .int 0])), (qw_65, .inl (cA_66, 50, .inl (fun _ => 0)))] := hD
  refine lv_aload_n hx hb dX7_init_56 rfl (lv_at hl 1 rfl) ?_
  refine va_new (ci := 0) (fs := [.null, .int 0]) (C := RX0) (T := TX0) (N := 2) hx hb hts iX7_init_X0 tyX0 tyX0_ok hown (hts (.classLink RX7 25 RX0) (List.mem_of_getElem? (i := 13) rfl)) (hts (.instantiable RX0 2) (List.mem_of_getElem? (i := 14) rfl)) (hts (.initialized RX0) (List.mem_of_getElem? (i := 15) rfl)) hK hP hD hS hA rfl (by decide) (Nat.le_of_ble_eq_true rfl) (Nat.le_of_ble_eq_true rfl) dX7_init_57 (fun q67 H hP hD hS => ?_)
  have hP : va_P (dC, dI) classes [(h0, .inr (7, [.int (ch_h k1), .int (ch_r k2), .ref q63, .null, .null, .null, .null, .null])), (q63, .inr (0, [.ref qw_65, .int 0])), (qw_65, .inl (cA_66, 50, .inl (fun _ => 0))), (q67, .inr (0, [.null, .int 0]))] H := hP
  have hD : va_D A [(h0, .inr (7, [.int (ch_h k1), .int (ch_r k2), .ref q63, .null, .null, .null, .null, .null])), (q63, .inr (0, [.ref qw_65, .int 0])), (qw_65, .inl (cA_66, 50, .inl (fun _ => 0))), (q67, .inr (0, [.null, .int 0]))] := hD
  refine W.widen (k := 3) (n := 54) (Nat.le_of_ble_eq_true rfl) (Nat.le_of_ble_eq_true rfl) ?_
  refine lv_dup hx hb dX7_init_60 rfl ?_
  refine lv_iload_n hx hb dX7_init_61 rfl (lv_at hl 0 rfl) ?_
  have hPc := hP.sub (ws' := [(q67, .inr (0, [.null, .int 0]))]) [3] rfl
  have hDc := hD.sub (ws' := [(q67, .inr (0, [.null, .int 0]))]) [3] (by decide) rfl
  have hKc := hK.sub (tys' := []) [] rfl
  have hFc := va_free (wc := [(q67, .inr (0, [.null, .int 0]))]) hD hS hA [3] rfl
  refine va_callv (va_runI (As := [.int (ch_n (ch_h k1))]) (rest := [.ref q67, .ref h0]) ⟨hx, hb, hml, hown, hts⟩ (ct_ByteRow l dC dI H.size q67 (ch_n (ch_h k1)) (ch_N (ch_h k1)) 577 (vx_n hh).1 rfl (vx_nN hh) (Nat.le_trans (vx_nN hh) (by decide))) (cwI 1 hts gX7_init_X0_init_27 rfl rfl rfl (hts (.initialized RX0) (List.mem_of_getElem? (i := 15) rfl)) (hts (.methodLink RX7 27 yX0_init) (List.mem_of_getElem? (i := 21) rfl)) (hts (.instanceMethod yX0_init) (List.mem_of_getElem? (i := 22) rfl)) rfl (by decide +kernel) ⟨(Nat.le_of_ble_eq_true rfl), (Nat.le_of_ble_eq_true rfl)⟩) ⟨fun a U g mk q => by obtain ⟨q0, q1, qP, qK, qD⟩ := q; exact ⟨q0, q1, qP, va_K.moved (u := U) (U := U.calling g mk a) (Vm.Alike.refl U.vm) qK, qD⟩, fun U hU hW => ⟨rfl, by rw [hU], by rw [hU]; exact hPc, va_K.moved hW.alike hKc, hDc.weaken (fun _ _ _ _ => trivial)⟩⟩ rfl rfl hl.1 rfl (lv_room (Nat.le_of_ble_eq_true rfl)) dX7_init_62 ⟨(Nat.le_of_ble_eq_true rfl), (Nat.le_of_ble_eq_true rfl)⟩) hS (fun q _ h => hFc q h) hFc (fun u t H1 locs ht hvm hw hB hz1 hk1 hS => ?_)
  obtain ⟨qw_69, cA_70, hP1, hK1, hD1⟩ := hB
  rw [ht] at hP1
  have hK1 := va_K.moved hvm.symm hK1
  obtain ⟨hP, hD⟩ := va_join (wr := [(h0, .inr (7, [.int (ch_h k1), .int (ch_r k2), .ref q63, .null, .null, .null, .null, .null])), (q63, .inr (0, [.ref qw_65, .int 0])), (qw_65, .inl (cA_66, 50, .inl (fun _ => 0)))]) (w1 := [(q67, .inr (0, [.ref qw_69, .int 0])), (qw_69, .inl (cA_70, (ch_N (ch_h k1)), .inl (fun _ => 0)))]) hP hD [3] [0, 1, 2] rfl rfl (by decide) (by decide) hk1 hFc hP1 hD1
  have hK := hK.sub (tys' := [(cA_66, .int)]) [0] rfl
  have hK := hK.app hK1
  generalize H1 = H at hP hS ⊢
  have hP : va_P (dC, dI) classes [(h0, .inr (7, [.int (ch_h k1), .int (ch_r k2), .ref q63, .null, .null, .null, .null, .null])), (q63, .inr (0, [.ref qw_65, .int 0])), (qw_65, .inl (cA_66, 50, .inl (fun _ => 0))), (q67, .inr (0, [.ref qw_69, .int 0])), (qw_69, .inl (cA_70, (ch_N (ch_h k1)), .inl (fun _ => 0)))] H := hP
  have hD : va_D A [(h0, .inr (7, [.int (ch_h k1), .int (ch_r k2), .ref q63, .null, .null, .null, .null, .null])), (q63, .inr (0, [.ref qw_65, .int 0])), (qw_65, .inl (cA_66, 50, .inl (fun _ => 0))), (q67, .inr (0, [.ref qw_69, .int 0])), (qw_69, .inl (cA_70, (ch_N (ch_h k1)), .inl (fun _ => 0)))] := hD
  have hK : va_K (dC, dI) classes [(cA_66, .int), (cA_70, .int)] s := hK
  refine W.widen (k := 4) (n := 631) (Nat.le_of_ble_eq_true rfl) (Nat.le_of_ble_eq_true rfl) ?_
  refine va_putF (D := (dC, dI)) (ci := 7) (v := .ref q67) (ty := .object "LeafSigner$ByteRow") (C := RX7) (T := TX7) (N := 8) hx hb hts iX7_init_X7 tyX7 tyX7_ok nmX7 hown hK hP hD hS 0 rfl rfl 3 (by decide) (hts (.fieldLink RX7 34 "LeafSigner" "output" "LLeafSigner$ByteRow;") (List.mem_of_getElem? (i := 24) rfl)) (fun _ h9 => h9) rfl hin rfl (by decide +kernel) rfl rfl (Nat.le_of_ble_eq_true rfl) dX7_init_65 (fun H locs hP hD hS => ?_)
  have hP : va_P (dC, dI) classes [(h0, .inr (7, [.int (ch_h k1), .int (ch_r k2), .ref q63, .ref q67, .null, .null, .null, .null])), (q63, .inr (0, [.ref qw_65, .int 0])), (qw_65, .inl (cA_66, 50, .inl (fun _ => 0))), (q67, .inr (0, [.ref qw_69, .int 0])), (qw_69, .inl (cA_70, (ch_N (ch_h k1)), .inl (fun _ => 0)))] H := hP
  have hD : va_D A [(h0, .inr (7, [.int (ch_h k1), .int (ch_r k2), .ref q63, .ref q67, .null, .null, .null, .null])), (q63, .inr (0, [.ref qw_65, .int 0])), (qw_65, .inl (cA_66, 50, .inl (fun _ => 0))), (q67, .inr (0, [.ref qw_69, .int 0])), (qw_69, .inl (cA_70, (ch_N (ch_h k1)), .inl (fun _ => 0)))] := hD
  refine lv_aload_n hx hb dX7_init_68 rfl (lv_at hl 1 rfl) ?_
  refine va_new (ci := 0) (fs := [.null, .int 0]) (C := RX0) (T := TX0) (N := 2) hx hb hts iX7_init_X0 tyX0 tyX0_ok hown (hts (.classLink RX7 25 RX0) (List.mem_of_getElem? (i := 13) rfl)) (hts (.instantiable RX0 2) (List.mem_of_getElem? (i := 14) rfl)) (hts (.initialized RX0) (List.mem_of_getElem? (i := 15) rfl)) hK hP hD hS hA rfl (by decide) (Nat.le_of_ble_eq_true rfl) (Nat.le_of_ble_eq_true rfl) dX7_init_69 (fun q71 H hP hD hS => ?_)
  have hP : va_P (dC, dI) classes [(h0, .inr (7, [.int (ch_h k1), .int (ch_r k2), .ref q63, .ref q67, .null, .null, .null, .null])), (q63, .inr (0, [.ref qw_65, .int 0])), (qw_65, .inl (cA_66, 50, .inl (fun _ => 0))), (q67, .inr (0, [.ref qw_69, .int 0])), (qw_69, .inl (cA_70, (ch_N (ch_h k1)), .inl (fun _ => 0))), (q71, .inr (0, [.null, .int 0]))] H := hP
  have hD : va_D A [(h0, .inr (7, [.int (ch_h k1), .int (ch_r k2), .ref q63, .ref q67, .null, .null, .null, .null])), (q63, .inr (0, [.ref qw_65, .int 0])), (qw_65, .inl (cA_66, 50, .inl (fun _ => 0))), (q67, .inr (0, [.ref qw_69, .int 0])), (qw_69, .inl (cA_70, (ch_N (ch_h k1)), .inl (fun _ => 0))), (q71, .inr (0, [.null, .int 0]))] := hD
  refine W.widen (k := 5) (n := 633) (Nat.le_of_ble_eq_true rfl) (Nat.le_of_ble_eq_true rfl) ?_
  refine lv_dup hx hb dX7_init_72 rfl ?_
  refine lv_iload_n hx hb dX7_init_73 rfl (lv_at hl 0 rfl) ?_
  have hPc := hP.sub (ws' := [(q71, .inr (0, [.null, .int 0]))]) [5] rfl
  have hDc := hD.sub (ws' := [(q71, .inr (0, [.null, .int 0]))]) [5] (by decide) rfl
  have hKc := hK.sub (tys' := []) [] rfl
  have hFc := va_free (wc := [(q71, .inr (0, [.null, .int 0]))]) hD hS hA [5] rfl
  refine va_callv (va_runI (As := [.int (ch_n (ch_h k1))]) (rest := [.ref q71, .ref h0]) ⟨hx, hb, hml, hown, hts⟩ (ct_ByteRow l dC dI H.size q71 (ch_n (ch_h k1)) (ch_N (ch_h k1)) 577 (vx_n hh).1 rfl (vx_nN hh) (Nat.le_trans (vx_nN hh) (by decide))) (cwI 1 hts gX7_init_X0_init_27 rfl rfl rfl (hts (.initialized RX0) (List.mem_of_getElem? (i := 15) rfl)) (hts (.methodLink RX7 27 yX0_init) (List.mem_of_getElem? (i := 21) rfl)) (hts (.instanceMethod yX0_init) (List.mem_of_getElem? (i := 22) rfl)) rfl (by decide +kernel) ⟨(Nat.le_of_ble_eq_true rfl), (Nat.le_of_ble_eq_true rfl)⟩) ⟨fun a U g mk q => by obtain ⟨q0, q1, qP, qK, qD⟩ := q; exact ⟨q0, q1, qP, va_K.moved (u := U) (U := U.calling g mk a) (Vm.Alike.refl U.vm) qK, qD⟩, fun U hU hW => ⟨rfl, by rw [hU], by rw [hU]; exact hPc, va_K.moved hW.alike hKc, hDc.weaken (fun _ _ _ _ => trivial)⟩⟩ rfl rfl hl.1 rfl (lv_room (Nat.le_of_ble_eq_true rfl)) dX7_init_74 ⟨(Nat.le_of_ble_eq_true rfl), (Nat.le_of_ble_eq_true rfl)⟩) hS (fun q _ h => hFc q h) hFc (fun u t H1 locs ht hvm hw hB hz1 hk1 hS => ?_)
  obtain ⟨qw_73, cA_74, hP1, hK1, hD1⟩ := hB
  rw [ht] at hP1
  have hK1 := va_K.moved hvm.symm hK1
  obtain ⟨hP, hD⟩ := va_join (wr := [(h0, .inr (7, [.int (ch_h k1), .int (ch_r k2), .ref q63, .ref q67, .null, .null, .null, .null])), (q63, .inr (0, [.ref qw_65, .int 0])), (qw_65, .inl (cA_66, 50, .inl (fun _ => 0))), (q67, .inr (0, [.ref qw_69, .int 0])), (qw_69, .inl (cA_70, (ch_N (ch_h k1)), .inl (fun _ => 0)))]) (w1 := [(q71, .inr (0, [.ref qw_73, .int 0])), (qw_73, .inl (cA_74, (ch_N (ch_h k1)), .inl (fun _ => 0)))]) hP hD [5] [0, 1, 2, 3, 4] rfl rfl (by decide) (by decide) hk1 hFc hP1 hD1
  have hK := hK.sub (tys' := [(cA_66, .int), (cA_70, .int)]) [0, 1] rfl
  have hK := hK.app hK1
  generalize H1 = H at hP hS ⊢
  have hP : va_P (dC, dI) classes [(h0, .inr (7, [.int (ch_h k1), .int (ch_r k2), .ref q63, .ref q67, .null, .null, .null, .null])), (q63, .inr (0, [.ref qw_65, .int 0])), (qw_65, .inl (cA_66, 50, .inl (fun _ => 0))), (q67, .inr (0, [.ref qw_69, .int 0])), (qw_69, .inl (cA_70, (ch_N (ch_h k1)), .inl (fun _ => 0))), (q71, .inr (0, [.ref qw_73, .int 0])), (qw_73, .inl (cA_74, (ch_N (ch_h k1)), .inl (fun _ => 0)))] H := hP
  have hD : va_D A [(h0, .inr (7, [.int (ch_h k1), .int (ch_r k2), .ref q63, .ref q67, .null, .null, .null, .null])), (q63, .inr (0, [.ref qw_65, .int 0])), (qw_65, .inl (cA_66, 50, .inl (fun _ => 0))), (q67, .inr (0, [.ref qw_69, .int 0])), (qw_69, .inl (cA_70, (ch_N (ch_h k1)), .inl (fun _ => 0))), (q71, .inr (0, [.ref qw_73, .int 0])), (qw_73, .inl (cA_74, (ch_N (ch_h k1)), .inl (fun _ => 0)))] := hD
  have hK : va_K (dC, dI) classes [(cA_66, .int), (cA_70, .int), (cA_74, .int)] s := hK
  refine W.widen (k := 6) (n := 1210) (Nat.le_of_ble_eq_true rfl) (Nat.le_of_ble_eq_true rfl) ?_
  refine va_putF (D := (dC, dI)) (ci := 7) (v := .ref q71) (ty := .object "LeafSigner$ByteRow") (C := RX7) (T := TX7) (N := 8) hx hb hts iX7_init_X7 tyX7 tyX7_ok nmX7 hown hK hP hD hS 0 rfl rfl 4 (by decide) (hts (.fieldLink RX7 37 "LeafSigner" "held" "LLeafSigner$ByteRow;") (List.mem_of_getElem? (i := 25) rfl)) (fun _ h9 => h9) rfl hin rfl (by decide +kernel) rfl rfl (Nat.le_of_ble_eq_true rfl) dX7_init_77 (fun H locs hP hD hS => ?_)
  have hP : va_P (dC, dI) classes [(h0, .inr (7, [.int (ch_h k1), .int (ch_r k2), .ref q63, .ref q67, .ref q71, .null, .null, .null])), (q63, .inr (0, [.ref qw_65, .int 0])), (qw_65, .inl (cA_66, 50, .inl (fun _ => 0))), (q67, .inr (0, [.ref qw_69, .int 0])), (qw_69, .inl (cA_70, (ch_N (ch_h k1)), .inl (fun _ => 0))), (q71, .inr (0, [.ref qw_73, .int 0])), (qw_73, .inl (cA_74, (ch_N (ch_h k1)), .inl (fun _ => 0)))] H := hP
  have hD : va_D A [(h0, .inr (7, [.int (ch_h k1), .int (ch_r k2), .ref q63, .ref q67, .ref q71, .null, .null, .null])), (q63, .inr (0, [.ref qw_65, .int 0])), (qw_65, .inl (cA_66, 50, .inl (fun _ => 0))), (q67, .inr (0, [.ref qw_69, .int 0])), (qw_69, .inl (cA_70, (ch_N (ch_h k1)), .inl (fun _ => 0))), (q71, .inr (0, [.ref qw_73, .int 0])), (qw_73, .inl (cA_74, (ch_N (ch_h k1)), .inl (fun _ => 0)))] := hD
  refine lv_aload_n hx hb dX7_init_80 rfl (lv_at hl 1 rfl) ?_
  refine va_new (ci := 1) (fs := [.null, .int 0, .int 0]) (C := RX1) (T := TX1) (N := 3) hx hb hts iX7_init_X1 tyX1 tyX1_ok hown (hts (.classLink RX7 40 RX1) (List.mem_of_getElem? (i := 26) rfl)) (hts (.instantiable RX1 3) (List.mem_of_getElem? (i := 27) rfl)) (hts (.initialized RX1) (List.mem_of_getElem? (i := 28) rfl)) hK hP hD hS hA rfl (by decide) (Nat.le_of_ble_eq_true rfl) (Nat.le_of_ble_eq_true rfl) dX7_init_81 (fun q75 H hP hD hS => ?_)
  have hP : va_P (dC, dI) classes [(h0, .inr (7, [.int (ch_h k1), .int (ch_r k2), .ref q63, .ref q67, .ref q71, .null, .null, .null])), (q63, .inr (0, [.ref qw_65, .int 0])), (qw_65, .inl (cA_66, 50, .inl (fun _ => 0))), (q67, .inr (0, [.ref qw_69, .int 0])), (qw_69, .inl (cA_70, (ch_N (ch_h k1)), .inl (fun _ => 0))), (q71, .inr (0, [.ref qw_73, .int 0])), (qw_73, .inl (cA_74, (ch_N (ch_h k1)), .inl (fun _ => 0))), (q75, .inr (1, [.null, .int 0, .int 0]))] H := hP
  have hD : va_D A [(h0, .inr (7, [.int (ch_h k1), .int (ch_r k2), .ref q63, .ref q67, .ref q71, .null, .null, .null])), (q63, .inr (0, [.ref qw_65, .int 0])), (qw_65, .inl (cA_66, 50, .inl (fun _ => 0))), (q67, .inr (0, [.ref qw_69, .int 0])), (qw_69, .inl (cA_70, (ch_N (ch_h k1)), .inl (fun _ => 0))), (q71, .inr (0, [.ref qw_73, .int 0])), (qw_73, .inl (cA_74, (ch_N (ch_h k1)), .inl (fun _ => 0))), (q75, .inr (1, [.null, .int 0, .int 0]))] := hD
  refine W.widen (k := 7) (n := 1213) (Nat.le_of_ble_eq_true rfl) (Nat.le_of_ble_eq_true rfl) ?_
  refine lv_dup hx hb dX7_init_84 rfl ?_
  have hPc := hP.sub (ws' := [(q75, .inr (1, [.null, .int 0, .int 0]))]) [7] rfl
  have hDc := hD.sub (ws' := [(q75, .inr (1, [.null, .int 0, .int 0]))]) [7] (by decide) rfl
  have hKc := hK.sub (tys' := []) [] rfl
  have hFc := va_free (wc := [(q75, .inr (1, [.null, .int 0, .int 0]))]) hD hS hA [7] rfl
  refine va_callv (va_runI (As := []) (rest := [.ref q75, .ref h0]) ⟨hx, hb, hml, hown, hts⟩ (ct_Disk l dC dI H.size q75) (cwI 0 hts gX7_init_X1_init_42 rfl rfl rfl (hts (.initialized RX1) (List.mem_of_getElem? (i := 28) rfl)) (hts (.methodLink RX7 42 yX1_init) (List.mem_of_getElem? (i := 40) rfl)) (hts (.instanceMethod yX1_init) (List.mem_of_getElem? (i := 41) rfl)) rfl (by decide +kernel) ⟨(Nat.le_of_ble_eq_true rfl), (Nat.le_of_ble_eq_true rfl)⟩) ⟨fun a U g mk q => by obtain ⟨q0, q1, qP, qK, qD⟩ := q; exact ⟨q0, q1, qP, va_K.moved (u := U) (U := U.calling g mk a) (Vm.Alike.refl U.vm) qK, qD⟩, fun U hU hW => ⟨rfl, by rw [hU], by rw [hU]; exact hPc, va_K.moved hW.alike hKc, hDc.weaken (fun _ _ _ _ => trivial)⟩⟩ rfl rfl hl.1 rfl (lv_room (Nat.le_of_ble_eq_true rfl)) dX7_init_85 ⟨(Nat.le_of_ble_eq_true rfl), (Nat.le_of_ble_eq_true rfl)⟩) hS (fun q _ h => hFc q h) hFc (fun u t H1 locs ht hvm hw hB hz1 hk1 hS => ?_)
  obtain ⟨qb_77, qw_78, cA_79, hP1, hK1, hD1⟩ := hB
  rw [ht] at hP1
  have hK1 := va_K.moved hvm.symm hK1
  obtain ⟨hP, hD⟩ := va_join (wr := [(h0, .inr (7, [.int (ch_h k1), .int (ch_r k2), .ref q63, .ref q67, .ref q71, .null, .null, .null])), (q63, .inr (0, [.ref qw_65, .int 0])), (qw_65, .inl (cA_66, 50, .inl (fun _ => 0))), (q67, .inr (0, [.ref qw_69, .int 0])), (qw_69, .inl (cA_70, (ch_N (ch_h k1)), .inl (fun _ => 0))), (q71, .inr (0, [.ref qw_73, .int 0])), (qw_73, .inl (cA_74, (ch_N (ch_h k1)), .inl (fun _ => 0)))]) (w1 := [(q75, .inr (1, [.ref qb_77, .int 0, .int (-1)])), (qb_77, .inr (0, [.ref qw_78, .int 24])), (qw_78, .inl (cA_79, 6, .inl (fun _ => 0)))]) hP hD [7] [0, 1, 2, 3, 4, 5, 6] rfl rfl (by decide) (by decide) hk1 hFc hP1 hD1
  have hK := hK.sub (tys' := [(cA_66, .int), (cA_70, .int), (cA_74, .int)]) [0, 1, 2] rfl
  have hK := hK.app hK1
  generalize H1 = H at hP hS ⊢
  have hP : va_P (dC, dI) classes [(h0, .inr (7, [.int (ch_h k1), .int (ch_r k2), .ref q63, .ref q67, .ref q71, .null, .null, .null])), (q63, .inr (0, [.ref qw_65, .int 0])), (qw_65, .inl (cA_66, 50, .inl (fun _ => 0))), (q67, .inr (0, [.ref qw_69, .int 0])), (qw_69, .inl (cA_70, (ch_N (ch_h k1)), .inl (fun _ => 0))), (q71, .inr (0, [.ref qw_73, .int 0])), (qw_73, .inl (cA_74, (ch_N (ch_h k1)), .inl (fun _ => 0))), (q75, .inr (1, [.ref qb_77, .int 0, .int (-1)])), (qb_77, .inr (0, [.ref qw_78, .int 24])), (qw_78, .inl (cA_79, 6, .inl (fun _ => 0)))] H := hP
  have hD : va_D A [(h0, .inr (7, [.int (ch_h k1), .int (ch_r k2), .ref q63, .ref q67, .ref q71, .null, .null, .null])), (q63, .inr (0, [.ref qw_65, .int 0])), (qw_65, .inl (cA_66, 50, .inl (fun _ => 0))), (q67, .inr (0, [.ref qw_69, .int 0])), (qw_69, .inl (cA_70, (ch_N (ch_h k1)), .inl (fun _ => 0))), (q71, .inr (0, [.ref qw_73, .int 0])), (qw_73, .inl (cA_74, (ch_N (ch_h k1)), .inl (fun _ => 0))), (q75, .inr (1, [.ref qb_77, .int 0, .int (-1)])), (qb_77, .inr (0, [.ref qw_78, .int 24])), (qw_78, .inl (cA_79, 6, .inl (fun _ => 0)))] := hD
  have hK : va_K (dC, dI) classes [(cA_66, .int), (cA_70, .int), (cA_74, .int), (cA_79, .int)] s := hK
  refine W.widen (k := 9) (n := 1221) (Nat.le_of_ble_eq_true rfl) (Nat.le_of_ble_eq_true rfl) ?_
  refine va_putF (D := (dC, dI)) (ci := 7) (v := .ref q75) (ty := .object "LeafSigner$Disk") (C := RX7) (T := TX7) (N := 8) hx hb hts iX7_init_X7 tyX7 tyX7_ok nmX7 hown hK hP hD hS 0 rfl rfl 5 (by decide) (hts (.fieldLink RX7 43 "LeafSigner" "store" "LLeafSigner$Disk;") (List.mem_of_getElem? (i := 42) rfl)) (fun _ h9 => h9) rfl hin rfl (by decide +kernel) rfl rfl (Nat.le_of_ble_eq_true rfl) dX7_init_88 (fun H locs hP hD hS => ?_)
  have hP : va_P (dC, dI) classes [(h0, .inr (7, [.int (ch_h k1), .int (ch_r k2), .ref q63, .ref q67, .ref q71, .ref q75, .null, .null])), (q63, .inr (0, [.ref qw_65, .int 0])), (qw_65, .inl (cA_66, 50, .inl (fun _ => 0))), (q67, .inr (0, [.ref qw_69, .int 0])), (qw_69, .inl (cA_70, (ch_N (ch_h k1)), .inl (fun _ => 0))), (q71, .inr (0, [.ref qw_73, .int 0])), (qw_73, .inl (cA_74, (ch_N (ch_h k1)), .inl (fun _ => 0))), (q75, .inr (1, [.ref qb_77, .int 0, .int (-1)])), (qb_77, .inr (0, [.ref qw_78, .int 24])), (qw_78, .inl (cA_79, 6, .inl (fun _ => 0)))] H := hP
  have hD : va_D A [(h0, .inr (7, [.int (ch_h k1), .int (ch_r k2), .ref q63, .ref q67, .ref q71, .ref q75, .null, .null])), (q63, .inr (0, [.ref qw_65, .int 0])), (qw_65, .inl (cA_66, 50, .inl (fun _ => 0))), (q67, .inr (0, [.ref qw_69, .int 0])), (qw_69, .inl (cA_70, (ch_N (ch_h k1)), .inl (fun _ => 0))), (q71, .inr (0, [.ref qw_73, .int 0])), (qw_73, .inl (cA_74, (ch_N (ch_h k1)), .inl (fun _ => 0))), (q75, .inr (1, [.ref qb_77, .int 0, .int (-1)])), (qb_77, .inr (0, [.ref qw_78, .int 24])), (qw_78, .inl (cA_79, 6, .inl (fun _ => 0)))] := hD
  refine lv_aload_n hx hb dX7_init_91 rfl (lv_at hl 1 rfl) ?_
  refine va_new (ci := 3) (fs := [.null, .int 0, .null, .int 0, .int 0, .int 0, .int 0]) (C := RX3) (T := TX3) (N := 7) hx hb hts iX7_init_X3 tyX3 tyX3_ok hown (hts (.classLink RX7 47 RX3) (List.mem_of_getElem? (i := 43) rfl)) (hts (.instantiable RX3 7) (List.mem_of_getElem? (i := 44) rfl)) (hts (.initialized RX3) (List.mem_of_getElem? (i := 45) rfl)) hK hP hD hS hA rfl (by decide) (Nat.le_of_ble_eq_true rfl) (Nat.le_of_ble_eq_true rfl) dX7_init_92 (fun q80 H hP hD hS => ?_)
  have hP : va_P (dC, dI) classes [(h0, .inr (7, [.int (ch_h k1), .int (ch_r k2), .ref q63, .ref q67, .ref q71, .ref q75, .null, .null])), (q63, .inr (0, [.ref qw_65, .int 0])), (qw_65, .inl (cA_66, 50, .inl (fun _ => 0))), (q67, .inr (0, [.ref qw_69, .int 0])), (qw_69, .inl (cA_70, (ch_N (ch_h k1)), .inl (fun _ => 0))), (q71, .inr (0, [.ref qw_73, .int 0])), (qw_73, .inl (cA_74, (ch_N (ch_h k1)), .inl (fun _ => 0))), (q75, .inr (1, [.ref qb_77, .int 0, .int (-1)])), (qb_77, .inr (0, [.ref qw_78, .int 24])), (qw_78, .inl (cA_79, 6, .inl (fun _ => 0))), (q80, .inr (3, [.null, .int 0, .null, .int 0, .int 0, .int 0, .int 0]))] H := hP
  have hD : va_D A [(h0, .inr (7, [.int (ch_h k1), .int (ch_r k2), .ref q63, .ref q67, .ref q71, .ref q75, .null, .null])), (q63, .inr (0, [.ref qw_65, .int 0])), (qw_65, .inl (cA_66, 50, .inl (fun _ => 0))), (q67, .inr (0, [.ref qw_69, .int 0])), (qw_69, .inl (cA_70, (ch_N (ch_h k1)), .inl (fun _ => 0))), (q71, .inr (0, [.ref qw_73, .int 0])), (qw_73, .inl (cA_74, (ch_N (ch_h k1)), .inl (fun _ => 0))), (q75, .inr (1, [.ref qb_77, .int 0, .int (-1)])), (qb_77, .inr (0, [.ref qw_78, .int 24])), (qw_78, .inl (cA_79, 6, .inl (fun _ => 0))), (q80, .inr (3, [.null, .int 0, .null, .int 0, .int 0, .int 0, .int 0]))] := hD
  refine W.widen (k := 10) (n := 1228) (Nat.le_of_ble_eq_true rfl) (Nat.le_of_ble_eq_true rfl) ?_
  refine lv_dup hx hb dX7_init_95 rfl ?_
  refine lv_iconst (v := 1) hx hb dX7_init_96 (by decide) ?_
  refine lv_aload_n hx hb dX7_init_97 rfl (lv_at hl 1 rfl) ?_
  refine va_get (D := (dC, dI)) (ci := 7) (v := .int (ch_h k1)) (C := RX7) (T := TX7) (N := 8) hx hb hts iX7_init_X7 hown hK hP 0 rfl rfl 0 (by decide) (hts (.fieldLink RX7 18 "LeafSigner" "height" "I") (List.mem_of_getElem? (i := 11) rfl)) (fun _ h9 => h9) rfl dX7_init_98 ?_
  refine lv_ishl hx hb dX7_init_101 ?_
  refine lv_aload_n hx hb dX7_init_102 rfl (lv_at hl 1 rfl) ?_
  refine va_get (D := (dC, dI)) (ci := 7) (v := .int (ch_r k2)) (C := RX7) (T := TX7) (N := 8) hx hb hts iX7_init_X7 hown hK hP 0 rfl rfl 1 (by decide) (hts (.fieldLink RX7 22 "LeafSigner" "reserve" "I") (List.mem_of_getElem? (i := 12) rfl)) (fun _ h9 => h9) rfl dX7_init_103 ?_
  refine lv_aload_n hx hb dX7_init_106 rfl (lv_at hl 1 rfl) ?_
  refine va_get (D := (dC, dI)) (ci := 7) (v := .ref q75) (C := RX7) (T := TX7) (N := 8) hx hb hts iX7_init_X7 hown hK hP 0 rfl rfl 5 (by decide) (hts (.fieldLink RX7 43 "LeafSigner" "store" "LLeafSigner$Disk;") (List.mem_of_getElem? (i := 42) rfl)) (fun _ h9 => h9) rfl dX7_init_107 ?_
  have hPc := hP.sub (ws' := [(q80, .inr (3, [.null, .int 0, .null, .int 0, .int 0, .int 0, .int 0]))]) [10] rfl
  have hDc := hD.sub (ws' := [(q80, .inr (3, [.null, .int 0, .null, .int 0, .int 0, .int 0, .int 0]))]) [10] (by decide) rfl
  have hKc := hK.sub (tys' := []) [] rfl
  have hFc := va_free (wc := [(q80, .inr (3, [.null, .int 0, .null, .int 0, .int 0, .int 0, .int 0]))]) hD hS hA [10] rfl
  refine va_callv (va_runI (As := [.int ((1 : Int32) <<< ((ch_h k1) &&& 31)), .int (ch_r k2), .ref q75]) (rest := [.ref q80, .ref h0]) ⟨hx, hb, hml, hown, hts⟩ (ct_Machine l dC dI H.size q80 ((1 : Int32) <<< ((ch_h k1) &&& 31)) (ch_r k2) q75 (ch_L (ch_h k1)) (vx_L hh).1 rfl (vx_L hh).2) (cwI 3 hts gX7_init_X3_init_49 rfl rfl rfl (hts (.initialized RX3) (List.mem_of_getElem? (i := 45) rfl)) (hts (.methodLink RX7 49 yX3_init) (List.mem_of_getElem? (i := 55) rfl)) (hts (.instanceMethod yX3_init) (List.mem_of_getElem? (i := 56) rfl)) rfl (by decide +kernel) ⟨(Nat.le_of_ble_eq_true rfl), (Nat.le_of_ble_eq_true rfl)⟩) ⟨fun a U g mk q => by obtain ⟨q0, q1, qP, qK, qD⟩ := q; exact ⟨q0, q1, qP, va_K.moved (u := U) (U := U.calling g mk a) (Vm.Alike.refl U.vm) qK, qD⟩, fun U hU hW => ⟨rfl, by rw [hU], by rw [hU]; exact hPc, va_K.moved hW.alike hKc, hDc.weaken (fun _ _ _ _ => trivial)⟩⟩ rfl rfl hl.1 rfl (lv_room (Nat.le_of_ble_eq_true rfl)) dX7_init_110 ⟨(Nat.le_of_ble_eq_true rfl), (Nat.le_of_ble_eq_true rfl)⟩) hS (fun q _ h => hFc q h) hFc (fun u t H1 locs ht hvm hw hB hz1 hk1 hS => ?_)
  obtain ⟨qf_82, cA_83, hP1, hK1, hD1⟩ := hB
  rw [ht] at hP1
  have hK1 := va_K.moved hvm.symm hK1
  obtain ⟨hP, hD⟩ := va_join (wr := [(h0, .inr (7, [.int (ch_h k1), .int (ch_r k2), .ref q63, .ref q67, .ref q71, .ref q75, .null, .null])), (q63, .inr (0, [.ref qw_65, .int 0])), (qw_65, .inl (cA_66, 50, .inl (fun _ => 0))), (q67, .inr (0, [.ref qw_69, .int 0])), (qw_69, .inl (cA_70, (ch_N (ch_h k1)), .inl (fun _ => 0))), (q71, .inr (0, [.ref qw_73, .int 0])), (qw_73, .inl (cA_74, (ch_N (ch_h k1)), .inl (fun _ => 0))), (q75, .inr (1, [.ref qb_77, .int 0, .int (-1)])), (qb_77, .inr (0, [.ref qw_78, .int 24])), (qw_78, .inl (cA_79, 6, .inl (fun _ => 0)))]) (w1 := [(q80, .inr (3, [.ref qf_82, .int (ch_r k2), .ref q75, .int 0, .int 0, .int 0, .int 0])), (qf_82, .inl (cA_83, (ch_L (ch_h k1)), .inl (fun _ => 0)))]) hP hD [10] [0, 1, 2, 3, 4, 5, 6, 7, 8, 9] rfl rfl (by decide) (by decide) hk1 hFc hP1 hD1
  have hK := hK.sub (tys' := [(cA_66, .int), (cA_70, .int), (cA_74, .int), (cA_79, .int)]) [0, 1, 2, 3] rfl
  have hK := hK.app hK1
  generalize H1 = H at hP hS ⊢
  have hP : va_P (dC, dI) classes [(h0, .inr (7, [.int (ch_h k1), .int (ch_r k2), .ref q63, .ref q67, .ref q71, .ref q75, .null, .null])), (q63, .inr (0, [.ref qw_65, .int 0])), (qw_65, .inl (cA_66, 50, .inl (fun _ => 0))), (q67, .inr (0, [.ref qw_69, .int 0])), (qw_69, .inl (cA_70, (ch_N (ch_h k1)), .inl (fun _ => 0))), (q71, .inr (0, [.ref qw_73, .int 0])), (qw_73, .inl (cA_74, (ch_N (ch_h k1)), .inl (fun _ => 0))), (q75, .inr (1, [.ref qb_77, .int 0, .int (-1)])), (qb_77, .inr (0, [.ref qw_78, .int 24])), (qw_78, .inl (cA_79, 6, .inl (fun _ => 0))), (q80, .inr (3, [.ref qf_82, .int (ch_r k2), .ref q75, .int 0, .int 0, .int 0, .int 0])), (qf_82, .inl (cA_83, (ch_L (ch_h k1)), .inl (fun _ => 0)))] H := hP
  have hD : va_D A [(h0, .inr (7, [.int (ch_h k1), .int (ch_r k2), .ref q63, .ref q67, .ref q71, .ref q75, .null, .null])), (q63, .inr (0, [.ref qw_65, .int 0])), (qw_65, .inl (cA_66, 50, .inl (fun _ => 0))), (q67, .inr (0, [.ref qw_69, .int 0])), (qw_69, .inl (cA_70, (ch_N (ch_h k1)), .inl (fun _ => 0))), (q71, .inr (0, [.ref qw_73, .int 0])), (qw_73, .inl (cA_74, (ch_N (ch_h k1)), .inl (fun _ => 0))), (q75, .inr (1, [.ref qb_77, .int 0, .int (-1)])), (qb_77, .inr (0, [.ref qw_78, .int 24])), (qw_78, .inl (cA_79, 6, .inl (fun _ => 0))), (q80, .inr (3, [.ref qf_82, .int (ch_r k2), .ref q75, .int 0, .int 0, .int 0, .int 0])), (qf_82, .inl (cA_83, (ch_L (ch_h k1)), .inl (fun _ => 0)))] := hD
  have hK : va_K (dC, dI) classes [(cA_66, .int), (cA_70, .int), (cA_74, .int), (cA_79, .int), (cA_83, .int)] s := hK
  refine W.widen (k := 11) (n := 1244) (Nat.le_of_ble_eq_true rfl) (Nat.le_of_ble_eq_true rfl) ?_
  refine va_putF (D := (dC, dI)) (ci := 7) (v := .ref q80) (ty := .object "LeafSigner$Machine") (C := RX7) (T := TX7) (N := 8) hx hb hts iX7_init_X7 tyX7 tyX7_ok nmX7 hown hK hP hD hS 0 rfl rfl 6 (by decide) (hts (.fieldLink RX7 52 "LeafSigner" "machine" "LLeafSigner$Machine;") (List.mem_of_getElem? (i := 57) rfl)) (fun _ h9 => h9) rfl hin rfl (by decide +kernel) rfl rfl (Nat.le_of_ble_eq_true rfl) dX7_init_113 (fun H locs hP hD hS => ?_)
  have hP : va_P (dC, dI) classes [(h0, .inr (7, [.int (ch_h k1), .int (ch_r k2), .ref q63, .ref q67, .ref q71, .ref q75, .ref q80, .null])), (q63, .inr (0, [.ref qw_65, .int 0])), (qw_65, .inl (cA_66, 50, .inl (fun _ => 0))), (q67, .inr (0, [.ref qw_69, .int 0])), (qw_69, .inl (cA_70, (ch_N (ch_h k1)), .inl (fun _ => 0))), (q71, .inr (0, [.ref qw_73, .int 0])), (qw_73, .inl (cA_74, (ch_N (ch_h k1)), .inl (fun _ => 0))), (q75, .inr (1, [.ref qb_77, .int 0, .int (-1)])), (qb_77, .inr (0, [.ref qw_78, .int 24])), (qw_78, .inl (cA_79, 6, .inl (fun _ => 0))), (q80, .inr (3, [.ref qf_82, .int (ch_r k2), .ref q75, .int 0, .int 0, .int 0, .int 0])), (qf_82, .inl (cA_83, (ch_L (ch_h k1)), .inl (fun _ => 0)))] H := hP
  have hD : va_D A [(h0, .inr (7, [.int (ch_h k1), .int (ch_r k2), .ref q63, .ref q67, .ref q71, .ref q75, .ref q80, .null])), (q63, .inr (0, [.ref qw_65, .int 0])), (qw_65, .inl (cA_66, 50, .inl (fun _ => 0))), (q67, .inr (0, [.ref qw_69, .int 0])), (qw_69, .inl (cA_70, (ch_N (ch_h k1)), .inl (fun _ => 0))), (q71, .inr (0, [.ref qw_73, .int 0])), (qw_73, .inl (cA_74, (ch_N (ch_h k1)), .inl (fun _ => 0))), (q75, .inr (1, [.ref qb_77, .int 0, .int (-1)])), (qb_77, .inr (0, [.ref qw_78, .int 24])), (qw_78, .inl (cA_79, 6, .inl (fun _ => 0))), (q80, .inr (3, [.ref qf_82, .int (ch_r k2), .ref q75, .int 0, .int 0, .int 0, .int 0])), (qf_82, .inl (cA_83, (ch_L (ch_h k1)), .inl (fun _ => 0)))] := hD
  refine lv_aload_n hx hb dX7_init_116 rfl (lv_at hl 1 rfl) ?_
  refine va_new (ci := 6) (fs := [.int 0, .int 0, .null, .null, .null, .null, .null, .null, .null, .null, .int 0]) (C := RX6) (T := TX6) (N := 11) hx hb hts iX7_init_X6 tyX6 tyX6_ok hown (hts (.classLink RX7 56 RX6) (List.mem_of_getElem? (i := 58) rfl)) (hts (.instantiable RX6 11) (List.mem_of_getElem? (i := 59) rfl)) (hts (.initialized RX6) (List.mem_of_getElem? (i := 60) rfl)) hK hP hD hS hA rfl (by decide) (Nat.le_of_ble_eq_true rfl) (Nat.le_of_ble_eq_true rfl) dX7_init_117 (fun q84 H hP hD hS => ?_)
  have hP : va_P (dC, dI) classes [(h0, .inr (7, [.int (ch_h k1), .int (ch_r k2), .ref q63, .ref q67, .ref q71, .ref q75, .ref q80, .null])), (q63, .inr (0, [.ref qw_65, .int 0])), (qw_65, .inl (cA_66, 50, .inl (fun _ => 0))), (q67, .inr (0, [.ref qw_69, .int 0])), (qw_69, .inl (cA_70, (ch_N (ch_h k1)), .inl (fun _ => 0))), (q71, .inr (0, [.ref qw_73, .int 0])), (qw_73, .inl (cA_74, (ch_N (ch_h k1)), .inl (fun _ => 0))), (q75, .inr (1, [.ref qb_77, .int 0, .int (-1)])), (qb_77, .inr (0, [.ref qw_78, .int 24])), (qw_78, .inl (cA_79, 6, .inl (fun _ => 0))), (q80, .inr (3, [.ref qf_82, .int (ch_r k2), .ref q75, .int 0, .int 0, .int 0, .int 0])), (qf_82, .inl (cA_83, (ch_L (ch_h k1)), .inl (fun _ => 0))), (q84, .inr (6, [.int 0, .int 0, .null, .null, .null, .null, .null, .null, .null, .null, .int 0]))] H := hP
  have hD : va_D A [(h0, .inr (7, [.int (ch_h k1), .int (ch_r k2), .ref q63, .ref q67, .ref q71, .ref q75, .ref q80, .null])), (q63, .inr (0, [.ref qw_65, .int 0])), (qw_65, .inl (cA_66, 50, .inl (fun _ => 0))), (q67, .inr (0, [.ref qw_69, .int 0])), (qw_69, .inl (cA_70, (ch_N (ch_h k1)), .inl (fun _ => 0))), (q71, .inr (0, [.ref qw_73, .int 0])), (qw_73, .inl (cA_74, (ch_N (ch_h k1)), .inl (fun _ => 0))), (q75, .inr (1, [.ref qb_77, .int 0, .int (-1)])), (qb_77, .inr (0, [.ref qw_78, .int 24])), (qw_78, .inl (cA_79, 6, .inl (fun _ => 0))), (q80, .inr (3, [.ref qf_82, .int (ch_r k2), .ref q75, .int 0, .int 0, .int 0, .int 0])), (qf_82, .inl (cA_83, (ch_L (ch_h k1)), .inl (fun _ => 0))), (q84, .inr (6, [.int 0, .int 0, .null, .null, .null, .null, .null, .null, .null, .null, .int 0]))] := hD
  refine W.widen (k := 12) (n := 1255) (Nat.le_of_ble_eq_true rfl) (Nat.le_of_ble_eq_true rfl) ?_
  refine lv_dup hx hb dX7_init_120 rfl ?_
  refine lv_aload_n hx hb dX7_init_121 rfl (lv_at hl 1 rfl) ?_
  refine va_get (D := (dC, dI)) (ci := 7) (v := .int (ch_h k1)) (C := RX7) (T := TX7) (N := 8) hx hb hts iX7_init_X7 hown hK hP 0 rfl rfl 0 (by decide) (hts (.fieldLink RX7 18 "LeafSigner" "height" "I") (List.mem_of_getElem? (i := 11) rfl)) (fun _ h9 => h9) rfl dX7_init_122 ?_
  have hPc := hP.sub (ws' := [(q84, .inr (6, [.int 0, .int 0, .null, .null, .null, .null, .null, .null, .null, .null, .int 0]))]) [12] rfl
  have hDc := hD.sub (ws' := [(q84, .inr (6, [.int 0, .int 0, .null, .null, .null, .null, .null, .null, .null, .null, .int 0]))]) [12] (by decide) rfl
  have hKc := hK.sub (tys' := []) [] rfl
  have hFc := va_free (wc := [(q84, .inr (6, [.int 0, .int 0, .null, .null, .null, .null, .null, .null, .null, .null, .int 0]))]) hD hS hA [12] rfl
  refine va_callv (va_runI (As := [.int (ch_h k1)]) (rest := [.ref q84, .ref h0]) ⟨hx, hb, hml, hown, hts⟩ (ct_Tree l dC dI H.size q84 (ch_h k1) hh) (cwI 1 hts gX7_init_X6_init_58 rfl rfl rfl (hts (.initialized RX6) (List.mem_of_getElem? (i := 60) rfl)) (hts (.methodLink RX7 58 yX6_init) (List.mem_of_getElem? (i := 115) rfl)) (hts (.instanceMethod yX6_init) (List.mem_of_getElem? (i := 116) rfl)) rfl (by decide +kernel) ⟨(Nat.le_of_ble_eq_true rfl), (Nat.le_of_ble_eq_true rfl)⟩) ⟨fun a U g mk q => by obtain ⟨q0, q1, qP, qK, qD⟩ := q; exact ⟨q0, q1, qP, va_K.moved (u := U) (U := U.calling g mk a) (Vm.Alike.refl U.vm) qK, qD⟩, fun U hU hW => ⟨rfl, by rw [hU], by rw [hU]; exact hPc, va_K.moved hW.alike hKc, hDc.weaken (fun _ _ _ _ => trivial)⟩⟩ rfl rfl hl.1 rfl (lv_room (Nat.le_of_ble_eq_true rfl)) dX7_init_125 ⟨(Nat.le_of_ble_eq_true rfl), (Nat.le_of_ble_eq_true rfl)⟩) hS (fun q _ h => hFc q h) hFc (fun u t H1 locs ht hvm hw hB hz1 hk1 hS => ?_)
  have hP1 : va_P (dC, dI) classes [] H1 := vx_P0
  have hD1 : va_D (va_A [(q84, .inr (6, [.int 0, .int 0, .null, .null, .null, .null, .null, .null, .null, .null, .int 0]))] H.size) [] := vx_D0
  obtain ⟨hP, hD⟩ := va_join (wr := [(h0, .inr (7, [.int (ch_h k1), .int (ch_r k2), .ref q63, .ref q67, .ref q71, .ref q75, .ref q80, .null])), (q63, .inr (0, [.ref qw_65, .int 0])), (qw_65, .inl (cA_66, 50, .inl (fun _ => 0))), (q67, .inr (0, [.ref qw_69, .int 0])), (qw_69, .inl (cA_70, (ch_N (ch_h k1)), .inl (fun _ => 0))), (q71, .inr (0, [.ref qw_73, .int 0])), (qw_73, .inl (cA_74, (ch_N (ch_h k1)), .inl (fun _ => 0))), (q75, .inr (1, [.ref qb_77, .int 0, .int (-1)])), (qb_77, .inr (0, [.ref qw_78, .int 24])), (qw_78, .inl (cA_79, 6, .inl (fun _ => 0))), (q80, .inr (3, [.ref qf_82, .int (ch_r k2), .ref q75, .int 0, .int 0, .int 0, .int 0])), (qf_82, .inl (cA_83, (ch_L (ch_h k1)), .inl (fun _ => 0)))]) (w1 := []) hP hD [12] [0, 1, 2, 3, 4, 5, 6, 7, 8, 9, 10, 11] rfl rfl (by decide) (by decide) hk1 hFc hP1 hD1
  have hK := hK.sub (tys' := [(cA_66, .int), (cA_70, .int), (cA_74, .int), (cA_79, .int), (cA_83, .int)]) [0, 1, 2, 3, 4] rfl
  generalize H1 = H at hP hS ⊢
  have hP : va_P (dC, dI) classes [(h0, .inr (7, [.int (ch_h k1), .int (ch_r k2), .ref q63, .ref q67, .ref q71, .ref q75, .ref q80, .null])), (q63, .inr (0, [.ref qw_65, .int 0])), (qw_65, .inl (cA_66, 50, .inl (fun _ => 0))), (q67, .inr (0, [.ref qw_69, .int 0])), (qw_69, .inl (cA_70, (ch_N (ch_h k1)), .inl (fun _ => 0))), (q71, .inr (0, [.ref qw_73, .int 0])), (qw_73, .inl (cA_74, (ch_N (ch_h k1)), .inl (fun _ => 0))), (q75, .inr (1, [.ref qb_77, .int 0, .int (-1)])), (qb_77, .inr (0, [.ref qw_78, .int 24])), (qw_78, .inl (cA_79, 6, .inl (fun _ => 0))), (q80, .inr (3, [.ref qf_82, .int (ch_r k2), .ref q75, .int 0, .int 0, .int 0, .int 0])), (qf_82, .inl (cA_83, (ch_L (ch_h k1)), .inl (fun _ => 0)))] H := hP
  have hD : va_D A [(h0, .inr (7, [.int (ch_h k1), .int (ch_r k2), .ref q63, .ref q67, .ref q71, .ref q75, .ref q80, .null])), (q63, .inr (0, [.ref qw_65, .int 0])), (qw_65, .inl (cA_66, 50, .inl (fun _ => 0))), (q67, .inr (0, [.ref qw_69, .int 0])), (qw_69, .inl (cA_70, (ch_N (ch_h k1)), .inl (fun _ => 0))), (q71, .inr (0, [.ref qw_73, .int 0])), (qw_73, .inl (cA_74, (ch_N (ch_h k1)), .inl (fun _ => 0))), (q75, .inr (1, [.ref qb_77, .int 0, .int (-1)])), (qb_77, .inr (0, [.ref qw_78, .int 24])), (qw_78, .inl (cA_79, 6, .inl (fun _ => 0))), (q80, .inr (3, [.ref qf_82, .int (ch_r k2), .ref q75, .int 0, .int 0, .int 0, .int 0])), (qf_82, .inl (cA_83, (ch_L (ch_h k1)), .inl (fun _ => 0)))] := hD
  have hK : va_K (dC, dI) classes [(cA_66, .int), (cA_70, .int), (cA_74, .int), (cA_79, .int), (cA_83, .int)] s := hK
  refine W.widen (k := 33) (n := 2423) (Nat.le_of_ble_eq_true rfl) (Nat.le_of_ble_eq_true rfl) ?_
  refine va_putF (D := (dC, dI)) (ci := 7) (v := .ref q84) (ty := .object "LeafSigner$Tree") (C := RX7) (T := TX7) (N := 8) hx hb hts iX7_init_X7 tyX7 tyX7_ok nmX7 hown hK hP hD hS 0 rfl rfl 7 (by decide) (hts (.fieldLink RX7 59 "LeafSigner" "tree" "LLeafSigner$Tree;") (List.mem_of_getElem? (i := 117) rfl)) (fun _ h9 => h9) rfl hin rfl (by decide +kernel) rfl rfl (Nat.le_of_ble_eq_true rfl) dX7_init_128 (fun H locs hP hD hS => ?_)
  have hP : va_P (dC, dI) classes [(h0, .inr (7, [.int (ch_h k1), .int (ch_r k2), .ref q63, .ref q67, .ref q71, .ref q75, .ref q80, .ref q84])), (q63, .inr (0, [.ref qw_65, .int 0])), (qw_65, .inl (cA_66, 50, .inl (fun _ => 0))), (q67, .inr (0, [.ref qw_69, .int 0])), (qw_69, .inl (cA_70, (ch_N (ch_h k1)), .inl (fun _ => 0))), (q71, .inr (0, [.ref qw_73, .int 0])), (qw_73, .inl (cA_74, (ch_N (ch_h k1)), .inl (fun _ => 0))), (q75, .inr (1, [.ref qb_77, .int 0, .int (-1)])), (qb_77, .inr (0, [.ref qw_78, .int 24])), (qw_78, .inl (cA_79, 6, .inl (fun _ => 0))), (q80, .inr (3, [.ref qf_82, .int (ch_r k2), .ref q75, .int 0, .int 0, .int 0, .int 0])), (qf_82, .inl (cA_83, (ch_L (ch_h k1)), .inl (fun _ => 0)))] H := hP
  have hD : va_D A [(h0, .inr (7, [.int (ch_h k1), .int (ch_r k2), .ref q63, .ref q67, .ref q71, .ref q75, .ref q80, .ref q84])), (q63, .inr (0, [.ref qw_65, .int 0])), (qw_65, .inl (cA_66, 50, .inl (fun _ => 0))), (q67, .inr (0, [.ref qw_69, .int 0])), (qw_69, .inl (cA_70, (ch_N (ch_h k1)), .inl (fun _ => 0))), (q71, .inr (0, [.ref qw_73, .int 0])), (qw_73, .inl (cA_74, (ch_N (ch_h k1)), .inl (fun _ => 0))), (q75, .inr (1, [.ref qb_77, .int 0, .int (-1)])), (qb_77, .inr (0, [.ref qw_78, .int 24])), (qw_78, .inl (cA_79, 6, .inl (fun _ => 0))), (q80, .inr (3, [.ref qf_82, .int (ch_r k2), .ref q75, .int 0, .int 0, .int 0, .int 0])), (qf_82, .inl (cA_83, (ch_L (ch_h k1)), .inl (fun _ => 0)))] := hD
  refine W.widen (k := 33) (n := 2423) (Nat.le_of_ble_eq_true rfl) (Nat.le_of_ble_eq_true rfl) ?_
  have hP9 := hP.sub (ws' := [(h0, .inr (7, [.int (ch_h k1), .int (ch_r k2), .ref q63, .ref q67, .ref q71, .ref q75, .ref q80, .ref q84])), (q63, .inr (0, [.ref qw_65, .int 0])), (qw_65, .inl (cA_66, 50, .inl (fun _ => 0))), (q67, .inr (0, [.ref qw_69, .int 0])), (qw_69, .inl (cA_70, (ch_N (ch_h k1)), .inl (fun _ => 0))), (q71, .inr (0, [.ref qw_73, .int 0])), (qw_73, .inl (cA_74, (ch_N (ch_h k1)), .inl (fun _ => 0))), (q75, .inr (1, [.ref qb_77, .int 0, .int (-1)])), (qb_77, .inr (0, [.ref qw_78, .int 24])), (qw_78, .inl (cA_79, 6, .inl (fun _ => 0))), (q80, .inr (3, [.ref qf_82, .int (ch_r k2), .ref q75, .int 0, .int 0, .int 0, .int 0])), (qf_82, .inl (cA_83, (ch_L (ch_h k1)), .inl (fun _ => 0)))]) [0, 1, 2, 3, 4, 5, 6, 7, 8, 9, 10, 11] rfl
  have hD9 := hD.sub (ws' := [(h0, .inr (7, [.int (ch_h k1), .int (ch_r k2), .ref q63, .ref q67, .ref q71, .ref q75, .ref q80, .ref q84])), (q63, .inr (0, [.ref qw_65, .int 0])), (qw_65, .inl (cA_66, 50, .inl (fun _ => 0))), (q67, .inr (0, [.ref qw_69, .int 0])), (qw_69, .inl (cA_70, (ch_N (ch_h k1)), .inl (fun _ => 0))), (q71, .inr (0, [.ref qw_73, .int 0])), (qw_73, .inl (cA_74, (ch_N (ch_h k1)), .inl (fun _ => 0))), (q75, .inr (1, [.ref qb_77, .int 0, .int (-1)])), (qb_77, .inr (0, [.ref qw_78, .int 24])), (qw_78, .inl (cA_79, 6, .inl (fun _ => 0))), (q80, .inr (3, [.ref qf_82, .int (ch_r k2), .ref q75, .int 0, .int 0, .int 0, .int 0])), (qf_82, .inl (cA_83, (ch_L (ch_h k1)), .inl (fun _ => 0)))]) [0, 1, 2, 3, 4, 5, 6, 7, 8, 9, 10, 11] (by decide) rfl
  have hK9 := hK.sub (tys' := [(cA_66, .int), (cA_70, .int), (cA_74, .int), (cA_79, .int), (cA_83, .int)]) [0, 1, 2, 3, 4] rfl
  exact W.vret hx hb hr (fun t ht hW => ⟨⟨(), rfl, trivial, ⟨q63, q67, q71, q75, q80, q84, qw_65, qw_69, qw_73, qb_77, qw_78, qf_82, cA_66, cA_70, cA_74, cA_79, cA_83, by rw [ht]; exact hP9, va_K.moved hW.alike hK9, hD9⟩⟩, hS.F ht⟩) hS.2.2 dX7_init_131
end
section
def ww_X7_isWrongCount : List Cond := .code yX7_isWrongCount cX7_isWrongCount 2 (some .boolean) :: ([.fieldLink RX7 30 "LeafSigner" "tape" "LLeafSigner$ByteRow;", .fieldLink RX7 63 "LeafSigner$ByteRow" "count" "I"] ++ (wsX70 ++ wsX00))
theorem iX7_isWrongCount_X7 : ∀ w ∈ wsX70, w ∈ ww_X7_isWrongCount := fun w h => List.mem_cons_of_mem _ (List.mem_append_right _ (List.mem_append_left _ h))
theorem iX7_isWrongCount_X0 : ∀ w ∈ wsX00, w ∈ ww_X7_isWrongCount := fun w h => List.mem_cons_of_mem _ (List.mem_append_right _ (List.mem_append_right _ h))
set_option maxHeartbeats 4000000 in
set_option maxRecDepth 100000 in
theorem ct_wrong (l : Launch) (dC : Nat → ClassId) (dI : Nat → Nat → Nat) (sz : Nat) (x : Nat) (k : Int32) (h : Int32) (r : Int32) (xt : Nat) (xo : Nat) (xh : Nat) (xs : Nat) (xm : Nat) (xq : Nat) (xtw : Nat) : Met l yX7_isWrongCount ww_X7_isWrongCount ({ frames := 0, cells := 0, slots := 0, locals := 0 }) (va_Pc [.ref x, .int k] (fun U => U.heap.size = sz ∧ va_P (dC, dI) classes [(x, .inr (7, [.int h, .int r, .ref xt, .ref xo, .ref xh, .ref xs, .ref xm, .ref xq])), (xt, .inr (0, [.ref xtw, .int 0]))] U.heap ∧ va_K (dC, dI) classes [] U ∧ va_D (fun _ => True) [(x, .inr (7, [.int h, .int r, .ref xt, .ref xo, .ref xh, .ref xs, .ref xm, .ref xq])), (xt, .inr (0, [.ref xtw, .int 0]))])) (va_Qi (fun (r : Int32) (_ : Unit) => r = fk_wrong k) (fun (_ : Unit) (t : State) => va_P (dC, dI) classes [(x, .inr (7, [.int h, .int r, .ref xt, .ref xo, .ref xh, .ref xs, .ref xm, .ref xq])), (xt, .inr (0, [.ref xtw, .int 0]))] t.heap ∧ va_K (dC, dI) classes [] t ∧ va_D (va_A [(x, .inr (7, [.int h, .int r, .ref xt, .ref xo, .ref xh, .ref xs, .ref xm, .ref xq])), (xt, .inr (0, [.ref xtw, .int 0]))] sz) [(x, .inr (7, [.int h, .int r, .ref xt, .ref xo, .ref xh, .ref xs, .ref xm, .ref xq])), (xt, .inr (0, [.ref xtw, .int 0]))]) (va_A [(x, .inr (7, [.int h, .int r, .ref xt, .ref xo, .ref xh, .ref xs, .ref xm, .ref xq])), (xt, .inr (0, [.ref xtw, .int 0]))] sz)) 0 0 (va_A [(x, .inr (7, [.int h, .int r, .ref xt, .ref xo, .ref xh, .ref xs, .ref xm, .ref xq])), (xt, .inr (0, [.ref xtw, .int 0]))] sz) := by
  refine Met.ofW (cc := cX7_isWrongCount) (maxL := 2) (ret := (some .boolean)) (by decide) rfl ?_
  intro p e s m args below meth c s₁ B hml hv
  obtain ⟨rfl, hsz, hP, hK, hD0⟩ := hv
  have hx := B.exec
  have hb := B.bytes
  have hr := B.returns
  have hts := atoms_spec (ws := ww_X7_isWrongCount) B.pre
  have hown : s.vm.findClass RX7 = some m.cls := findClass_of_methodNamed B.named
  have hlocks := B.notSynchronized
  subst hsz
  have hD := hD0.self (sz := s.heap.size)
  generalize hAe : va_A [(x, .inr (7, [.int h, .int r, .ref xt, .ref xo, .ref xh, .ref xs, .ref xm, .ref xq])), (xt, .inr (0, [.ref xtw, .int 0]))] s.heap.size = A at hD ⊢
  have hA : ∀ q : Nat, s.heap.size ≤ q → A q := fun q h => by rw [← hAe]; exact Or.inr h
  have hS : va_S A s.heap s.heap [] := va_S.rf
  have hP : va_P (dC, dI) classes [(x, .inr (7, [.int h, .int r, .ref xt, .ref xo, .ref xh, .ref xs, .ref xm, .ref xq])), (xt, .inr (0, [.ref xtw, .int 0]))] s.heap := hP
  have hl := lv_entry ([.ref x, .int k]) (n := 2) (Nat.le_of_ble_eq_true rfl)
  rw [lg_entry_eq]
  generalize (lg_sl ([.ref x, .int k]) ++ List.replicate (2 - (lg_sl ([.ref x, .int k])).length) Slot.unset).toArray = ls at hl ⊢
  have hl : lv_has ls 2 [(0, .ref x), (1, .int k)] := hl
  generalize hHe : s.heap = H at hP ⊢
  have hS : va_S A s.heap H [] := by rw [← hHe]; exact va_S.rf
  refine lv_iload_n hx hb dX7_isWrongCount_0 rfl (lv_at hl 1 rfl) ?_
  refine lv_if_lt (tgt := 15) hx hb dX7_isWrongCount_1 (by decide) (fun c86 => ?_) (fun c86 => ?_)
  · refine lv_iconst (v := 1) hx hb dX7_isWrongCount_15 (by decide) ?_
    refine lv_goto (tgt := 20) hx hb dX7_isWrongCount_16 (by decide) ?_
    refine W.widen (k := 0) (n := 0) (Nat.le_of_ble_eq_true rfl) (Nat.le_of_ble_eq_true rfl) ?_
    have hP9 := hP.sub (ws' := [(x, .inr (7, [.int h, .int r, .ref xt, .ref xo, .ref xh, .ref xs, .ref xm, .ref xq])), (xt, .inr (0, [.ref xtw, .int 0]))]) [0, 1] rfl
    have hD9 := hD.sub (ws' := [(x, .inr (7, [.int h, .int r, .ref xt, .ref xo, .ref xh, .ref xs, .ref xm, .ref xq])), (xt, .inr (0, [.ref xtw, .int 0]))]) [0, 1] (by decide) rfl
    have hK9 := hK.sub (tys' := []) [] rfl
    exact W.zret (v := 1) (ty := .boolean) hx hb hr (by decide) (fun t ht hW => ⟨⟨1, (), rfl, (by unfold fk_wrong; rw [if_pos c86]), ⟨by rw [ht]; exact hP9, va_K.moved hW.alike hK9, hD9⟩⟩, hS.F ht⟩) hS.2.2 dX7_isWrongCount_20
  · refine lv_iload_n hx hb dX7_isWrongCount_4 rfl (lv_at hl 1 rfl) ?_
    refine lv_aload_n hx hb dX7_isWrongCount_5 rfl (lv_at hl 0 rfl) ?_
    refine va_get (D := (dC, dI)) (ci := 7) (v := .ref xt) (C := RX7) (T := TX7) (N := 8) hx hb hts iX7_isWrongCount_X7 hown hK hP 0 rfl rfl 2 (by decide) (hts (.fieldLink RX7 30 "LeafSigner" "tape" "LLeafSigner$ByteRow;") (List.mem_of_getElem? (i := 1) rfl)) (fun _ h9 => h9) rfl dX7_isWrongCount_6 ?_
    refine va_get (D := (dC, dI)) (ci := 0) (v := .int 0) (C := RX0) (T := TX0) (N := 2) hx hb hts iX7_isWrongCount_X0 hown hK hP 1 rfl rfl 1 (by decide) (hts (.fieldLink RX7 63 "LeafSigner$ByteRow" "count" "I") (List.mem_of_getElem? (i := 2) rfl)) (fun _ h9 => h9) rfl dX7_isWrongCount_9 ?_
    refine lv_icmp_le (tgt := 19) hx hb dX7_isWrongCount_12 (by decide) (fun c87 => ?_) (fun c87 => ?_)
    · refine lv_iconst (v := 0) hx hb dX7_isWrongCount_19 (by decide) ?_
      refine W.widen (k := 0) (n := 0) (Nat.le_of_ble_eq_true rfl) (Nat.le_of_ble_eq_true rfl) ?_
      have hP9 := hP.sub (ws' := [(x, .inr (7, [.int h, .int r, .ref xt, .ref xo, .ref xh, .ref xs, .ref xm, .ref xq])), (xt, .inr (0, [.ref xtw, .int 0]))]) [0, 1] rfl
      have hD9 := hD.sub (ws' := [(x, .inr (7, [.int h, .int r, .ref xt, .ref xo, .ref xh, .ref xs, .ref xm, .ref xq])), (xt, .inr (0, [.ref xtw, .int 0]))]) [0, 1] (by decide) rfl
      have hK9 := hK.sub (tys' := []) [] rfl
      exact W.zret (v := 0) (ty := .boolean) hx hb hr (by decide) (fun t ht hW => ⟨⟨0, (), rfl, (by unfold fk_wrong; rw [if_neg c86, if_pos c87]), ⟨by rw [ht]; exact hP9, va_K.moved hW.alike hK9, hD9⟩⟩, hS.F ht⟩) hS.2.2 dX7_isWrongCount_20
    · refine lv_iconst (v := 1) hx hb dX7_isWrongCount_15 (by decide) ?_
      refine lv_goto (tgt := 20) hx hb dX7_isWrongCount_16 (by decide) ?_
      refine W.widen (k := 0) (n := 0) (Nat.le_of_ble_eq_true rfl) (Nat.le_of_ble_eq_true rfl) ?_
      have hP9 := hP.sub (ws' := [(x, .inr (7, [.int h, .int r, .ref xt, .ref xo, .ref xh, .ref xs, .ref xm, .ref xq])), (xt, .inr (0, [.ref xtw, .int 0]))]) [0, 1] rfl
      have hD9 := hD.sub (ws' := [(x, .inr (7, [.int h, .int r, .ref xt, .ref xo, .ref xh, .ref xs, .ref xm, .ref xq])), (xt, .inr (0, [.ref xtw, .int 0]))]) [0, 1] (by decide) rfl
      have hK9 := hK.sub (tys' := []) [] rfl
      exact W.zret (v := 1) (ty := .boolean) hx hb hr (by decide) (fun t ht hW => ⟨⟨1, (), rfl, (by unfold fk_wrong; rw [if_neg c86, if_neg c87]), ⟨by rw [ht]; exact hP9, va_K.moved hW.alike hK9, hD9⟩⟩, hS.F ht⟩) hS.2.2 dX7_isWrongCount_20
end
section
def ww_X7_wasNeverKeyed : List Cond := .code yX7_wasNeverKeyed cX7_wasNeverKeyed 1 (some .boolean) :: ([.fieldLink RX7 52 "LeafSigner" "machine" "LLeafSigner$Machine;", .fieldLink RX7 84 "LeafSigner$Machine" "state" "I"] ++ (wsX70 ++ wsX30))
theorem iX7_wasNeverKeyed_X7 : ∀ w ∈ wsX70, w ∈ ww_X7_wasNeverKeyed := fun w h => List.mem_cons_of_mem _ (List.mem_append_right _ (List.mem_append_left _ h))
theorem iX7_wasNeverKeyed_X3 : ∀ w ∈ wsX30, w ∈ ww_X7_wasNeverKeyed := fun w h => List.mem_cons_of_mem _ (List.mem_append_right _ (List.mem_append_right _ h))
set_option maxHeartbeats 4000000 in
set_option maxRecDepth 100000 in
theorem ct_never (l : Launch) (dC : Nat → ClassId) (dI : Nat → Nat → Nat) (sz : Nat) (x : Nat) (h : Int32) (r : Int32) (xt : Nat) (xo : Nat) (xh : Nat) (xs : Nat) (xm : Nat) (xq : Nat) (xf : Nat) : Met l yX7_wasNeverKeyed ww_X7_wasNeverKeyed ({ frames := 0, cells := 0, slots := 0, locals := 0 }) (va_Pc [.ref x] (fun U => U.heap.size = sz ∧ va_P (dC, dI) classes [(x, .inr (7, [.int h, .int r, .ref xt, .ref xo, .ref xh, .ref xs, .ref xm, .ref xq])), (xm, .inr (3, [.ref xf, .int r, .ref xs, .int 0, .int 0, .int 0, .int 0]))] U.heap ∧ va_K (dC, dI) classes [] U ∧ va_D (fun _ => True) [(x, .inr (7, [.int h, .int r, .ref xt, .ref xo, .ref xh, .ref xs, .ref xm, .ref xq])), (xm, .inr (3, [.ref xf, .int r, .ref xs, .int 0, .int 0, .int 0, .int 0]))])) (va_Qi (fun (r : Int32) (_ : Unit) => r = 1) (fun (_ : Unit) (t : State) => va_P (dC, dI) classes [(x, .inr (7, [.int h, .int r, .ref xt, .ref xo, .ref xh, .ref xs, .ref xm, .ref xq])), (xm, .inr (3, [.ref xf, .int r, .ref xs, .int 0, .int 0, .int 0, .int 0]))] t.heap ∧ va_K (dC, dI) classes [] t ∧ va_D (va_A [(x, .inr (7, [.int h, .int r, .ref xt, .ref xo, .ref xh, .ref xs, .ref xm, .ref xq])), (xm, .inr (3, [.ref xf, .int r, .ref xs, .int 0, .int 0, .int 0, .int 0]))] sz) [(x, .inr (7, [.int h, .int r, .ref xt, .ref xo, .ref xh, .ref xs, .ref xm, .ref xq])), (xm, .inr (3, [.ref xf, .int r, .ref xs, .int 0, .int 0, .int 0, .int 0]))]) (va_A [(x, .inr (7, [.int h, .int r, .ref xt, .ref xo, .ref xh, .ref xs, .ref xm, .ref xq])), (xm, .inr (3, [.ref xf, .int r, .ref xs, .int 0, .int 0, .int 0, .int 0]))] sz)) 0 0 (va_A [(x, .inr (7, [.int h, .int r, .ref xt, .ref xo, .ref xh, .ref xs, .ref xm, .ref xq])), (xm, .inr (3, [.ref xf, .int r, .ref xs, .int 0, .int 0, .int 0, .int 0]))] sz) := by
  refine Met.ofW (cc := cX7_wasNeverKeyed) (maxL := 1) (ret := (some .boolean)) (by decide) rfl ?_
  intro p e s m args below meth c s₁ B hml hv
  obtain ⟨rfl, hsz, hP, hK, hD0⟩ := hv
  have hx := B.exec
  have hb := B.bytes
  have hr := B.returns
  have hts := atoms_spec (ws := ww_X7_wasNeverKeyed) B.pre
  have hown : s.vm.findClass RX7 = some m.cls := findClass_of_methodNamed B.named
  have hlocks := B.notSynchronized
  subst hsz
  have hD := hD0.self (sz := s.heap.size)
  generalize hAe : va_A [(x, .inr (7, [.int h, .int r, .ref xt, .ref xo, .ref xh, .ref xs, .ref xm, .ref xq])), (xm, .inr (3, [.ref xf, .int r, .ref xs, .int 0, .int 0, .int 0, .int 0]))] s.heap.size = A at hD ⊢
  have hA : ∀ q : Nat, s.heap.size ≤ q → A q := fun q h => by rw [← hAe]; exact Or.inr h
  have hS : va_S A s.heap s.heap [] := va_S.rf
  have hP : va_P (dC, dI) classes [(x, .inr (7, [.int h, .int r, .ref xt, .ref xo, .ref xh, .ref xs, .ref xm, .ref xq])), (xm, .inr (3, [.ref xf, .int r, .ref xs, .int 0, .int 0, .int 0, .int 0]))] s.heap := hP
  have hl := lv_entry ([.ref x]) (n := 1) (Nat.le_of_ble_eq_true rfl)
  rw [lg_entry_eq]
  generalize (lg_sl ([.ref x]) ++ List.replicate (1 - (lg_sl ([.ref x])).length) Slot.unset).toArray = ls at hl ⊢
  have hl : lv_has ls 1 [(0, .ref x)] := hl
  generalize hHe : s.heap = H at hP ⊢
  have hS : va_S A s.heap H [] := by rw [← hHe]; exact va_S.rf
  refine lv_aload_n hx hb dX7_wasNeverKeyed_0 rfl (lv_at hl 0 rfl) ?_
  refine va_get (D := (dC, dI)) (ci := 7) (v := .ref xm) (C := RX7) (T := TX7) (N := 8) hx hb hts iX7_wasNeverKeyed_X7 hown hK hP 0 rfl rfl 6 (by decide) (hts (.fieldLink RX7 52 "LeafSigner" "machine" "LLeafSigner$Machine;") (List.mem_of_getElem? (i := 1) rfl)) (fun _ h9 => h9) rfl dX7_wasNeverKeyed_1 ?_
  refine va_get (D := (dC, dI)) (ci := 3) (v := .int 0) (C := RX3) (T := TX3) (N := 7) hx hb hts iX7_wasNeverKeyed_X3 hown hK hP 1 rfl rfl 3 (by decide) (hts (.fieldLink RX7 84 "LeafSigner$Machine" "state" "I") (List.mem_of_getElem? (i := 2) rfl)) (fun _ h9 => h9) rfl dX7_wasNeverKeyed_4 ?_
  refine lv_if_ne (tgt := 14) hx hb dX7_wasNeverKeyed_7 (by decide) (fun c88 => absurd c88 (by decide)) (fun c88 => ?_)
  refine lv_iconst (v := 1) hx hb dX7_wasNeverKeyed_10 (by decide) ?_
  refine lv_goto (tgt := 15) hx hb dX7_wasNeverKeyed_11 (by decide) ?_
  refine W.widen (k := 0) (n := 0) (Nat.le_of_ble_eq_true rfl) (Nat.le_of_ble_eq_true rfl) ?_
  have hP9 := hP.sub (ws' := [(x, .inr (7, [.int h, .int r, .ref xt, .ref xo, .ref xh, .ref xs, .ref xm, .ref xq])), (xm, .inr (3, [.ref xf, .int r, .ref xs, .int 0, .int 0, .int 0, .int 0]))]) [0, 1] rfl
  have hD9 := hD.sub (ws' := [(x, .inr (7, [.int h, .int r, .ref xt, .ref xo, .ref xh, .ref xs, .ref xm, .ref xq])), (xm, .inr (3, [.ref xf, .int r, .ref xs, .int 0, .int 0, .int 0, .int 0]))]) [0, 1] (by decide) rfl
  have hK9 := hK.sub (tys' := []) [] rfl
  exact W.zret (v := 1) (ty := .boolean) hx hb hr (by decide) (fun t ht hW => ⟨⟨1, (), rfl, rfl, ⟨by rw [ht]; exact hP9, va_K.moved hW.alike hK9, hD9⟩⟩, hS.F ht⟩) hS.2.2 dX7_wasNeverKeyed_15
end
section
def ww_X3_countOf : List Cond := .code yX3_countOf cX3_countOf 4 (some .int) :: ([.fieldLink RX3 7 "LeafSigner$Machine" "fates" "[I"] ++ (wsX30))
theorem iX3_countOf_X3 : ∀ w ∈ wsX30, w ∈ ww_X3_countOf := fun w h => List.mem_cons_of_mem _ (List.mem_append_right _ h)
set_option maxHeartbeats 4000000 in
set_option maxRecDepth 100000 in
/-- Machine.countOf's loop over a row of zeros, for what isn't 0 -/
theorem lp_count {p : Program} {l : Launch} {e : Env} {R : Room} {s : State} {m : MethodId} {args : Array Value} {below : List Frame} {meth : Method} {c : Code} {Q : State → Prop} {dC : Nat → ClassId} {dI : Nat → Nat → Nat} {h0 a : Nat} {cA : ClassId} {N : Nat} {v : Int32} {cells slots : Nat} {fs : List Value} {H : Heap} {locs : List Loc} (hx : p.tables.exec = Jvm.exec) (hb : c.code = cX3_countOf) (hts : ∀ w ∈ ww_X3_countOf, w.before args s = true) (hown : s.vm.findClass RX3 = some m.cls) (hK : va_K (dC, dI) classes [(cA, .int)] s) (hN : N < 2 ^ 31) (hv : ¬ (0 : Int32) = v)
    (hP : va_P (dC, dI) classes [(h0, .inr (3, .ref a :: fs)), (a, .inl (cA, N, .inl (fun _ => 0)))] H)
    (kend : ∀ (ls : Array Slot) (x : Int32), lv_has ls 4 [(3, .int x), (2, .int 0), (0, .ref h0), (1, .int v)] → W p l e R s m args below meth c H locs cells slots Q (F0 m 32 ls [])) :
    ∀ (n j : Nat) (x : Int32), j + n = N → x = nI j → ∀ (ls : Array Slot), lv_has ls 4 [(3, .int x), (2, .int 0), (0, .ref h0), (1, .int v)] → W p l e R s m args below meth c H locs cells slots Q (F0 m 4 ls []) := by
  intro n
  induction n with
  | zero =>
    intro j x hj ex ls hl
    refine lv_iload_n hx hb dX3_countOf_4 rfl (lv_at hl 0 rfl) ?_
    refine lv_aload_n hx hb dX3_countOf_5 rfl (lv_at hl 2 rfl) ?_
    refine va_get (D := (dC, dI)) (ci := 3) (v := .ref a) (C := RX3) (T := TX3) (N := 7) hx hb hts iX3_countOf_X3 hown hK hP 0 rfl rfl 0 (by decide) (hts (.fieldLink RX3 7 "LeafSigner$Machine" "fates" "[I") (List.mem_of_getElem? (i := 1) rfl)) (fun _ h9 => h9) rfl dX3_countOf_6 ?_
    refine va_alen (v := (Int32.ofNat N)) hx hb hK hP 1 0 rfl rfl rfl dX3_countOf_9 ?_
    refine lv_icmp_ge (tgt := 32) hx hb dX3_countOf_10 (by decide) (fun c1 => ?_) (fun c1 => absurd (by rw [ex]; exact nI_le (show N ≤ j by omega) (by omega)) c1)
    exact kend ls x hl
  | succ n ih =>
    intro j x hj ex ls hl
    refine lv_iload_n hx hb dX3_countOf_4 rfl (lv_at hl 0 rfl) ?_
    refine lv_aload_n hx hb dX3_countOf_5 rfl (lv_at hl 2 rfl) ?_
    refine va_get (D := (dC, dI)) (ci := 3) (v := .ref a) (C := RX3) (T := TX3) (N := 7) hx hb hts iX3_countOf_X3 hown hK hP 0 rfl rfl 0 (by decide) (hts (.fieldLink RX3 7 "LeafSigner$Machine" "fates" "[I") (List.mem_of_getElem? (i := 1) rfl)) (fun _ h9 => h9) rfl dX3_countOf_6 ?_
    refine va_alen (v := (Int32.ofNat N)) hx hb hK hP 1 0 rfl rfl rfl dX3_countOf_9 ?_
    refine lv_icmp_ge (tgt := 32) hx hb dX3_countOf_10 (by decide) (fun c1 => absurd c1 (by rw [ex]; exact nI_ge (show j < N by omega) hN)) (fun c1 => ?_)
    refine lv_aload_n hx hb dX3_countOf_13 rfl (lv_at hl 2 rfl) ?_
    refine va_get (D := (dC, dI)) (ci := 3) (v := .ref a) (C := RX3) (T := TX3) (N := 7) hx hb hts iX3_countOf_X3 hown hK hP 0 rfl rfl 0 (by decide) (hts (.fieldLink RX3 7 "LeafSigner$Machine" "fates" "[I") (List.mem_of_getElem? (i := 1) rfl)) (fun _ h9 => h9) rfl dX3_countOf_14 ?_
    refine lv_iload_n hx hb dX3_countOf_17 rfl (lv_at hl 0 rfl) ?_
    refine va_iald hx hb hK hP 1 0 rfl rfl (by rw [ex]; exact vp_in_nI (show j < N by omega) hN) dX3_countOf_18 ?_
    refine vx_topk 0 rfl ?_
    refine lv_iload_n hx hb dX3_countOf_19 rfl (lv_at hl 3 rfl) ?_
    refine lv_icmp_ne (tgt := 26) hx hb dX3_countOf_20 (by decide) (fun c2 => ?_) (fun c2 => absurd c2 hv)
    obtain ⟨x1, ex1⟩ : ∃ y : Int32, y = x + 1 := ⟨_, rfl⟩
    refine lv_iinc (v := x1) (lv' := [(3, .int x1), (2, .int 0), (0, .ref h0), (1, .int v)]) hx hb dX3_countOf_26 hl (k := 0) rfl (by rw [ex1]; rfl) (by decide) rfl (fun ls hl => ?_)
    refine lv_goto (tgt := 4) hx hb dX3_countOf_29 (by decide) ?_
    exact ih (j + 1) x1 (by omega) (by rw [ex1, ex]; exact nI_1 j) ls hl
set_option maxHeartbeats 4000000 in
set_option maxRecDepth 100000 in
theorem ct_countOf (l : Launch) (dC : Nat → ClassId) (dI : Nat → Nat → Nat) (sz : Nat) (xm : Nat) (k : Int32) (xf : Nat) (r : Int32) (xs : Nat) (cF : ClassId) (NF : Nat) (hN : NF < 2 ^ 31) (hv : ¬ (0 : Int32) = k) : Met l yX3_countOf ww_X3_countOf ({ frames := 0, cells := 0, slots := 0, locals := 0 }) (va_Pc [.ref xm, .int k] (fun U => U.heap.size = sz ∧ va_P (dC, dI) classes [(xm, .inr (3, [.ref xf, .int r, .ref xs, .int 0, .int 0, .int 0, .int 0])), (xf, .inl (cF, NF, .inl (fun _ => 0)))] U.heap ∧ va_K (dC, dI) classes [(cF, .int)] U ∧ va_D (fun _ => True) [(xm, .inr (3, [.ref xf, .int r, .ref xs, .int 0, .int 0, .int 0, .int 0])), (xf, .inl (cF, NF, .inl (fun _ => 0)))])) (va_Qi (fun (r : Int32) (_ : Unit) => r = 0) (fun (_ : Unit) (_ : State) => True) (va_A [(xm, .inr (3, [.ref xf, .int r, .ref xs, .int 0, .int 0, .int 0, .int 0])), (xf, .inl (cF, NF, .inl (fun _ => 0)))] sz)) 0 0 (va_A [(xm, .inr (3, [.ref xf, .int r, .ref xs, .int 0, .int 0, .int 0, .int 0])), (xf, .inl (cF, NF, .inl (fun _ => 0)))] sz) := by
  refine Met.ofW (cc := cX3_countOf) (maxL := 4) (ret := (some .int)) (by decide) rfl ?_
  intro p e s m args below meth c s₁ B hml hv
  obtain ⟨rfl, hsz, hP, hK, hD0⟩ := hv
  have hx := B.exec
  have hb := B.bytes
  have hr := B.returns
  have hts := atoms_spec (ws := ww_X3_countOf) B.pre
  have hown : s.vm.findClass RX3 = some m.cls := findClass_of_methodNamed B.named
  have hlocks := B.notSynchronized
  subst hsz
  have hD := hD0.self (sz := s.heap.size)
  generalize hAe : va_A [(xm, .inr (3, [.ref xf, .int r, .ref xs, .int 0, .int 0, .int 0, .int 0])), (xf, .inl (cF, NF, .inl (fun _ => 0)))] s.heap.size = A at hD ⊢
  have hA : ∀ q : Nat, s.heap.size ≤ q → A q := fun q h => by rw [← hAe]; exact Or.inr h
  have hS : va_S A s.heap s.heap [] := va_S.rf
  have hP : va_P (dC, dI) classes [(xm, .inr (3, [.ref xf, .int r, .ref xs, .int 0, .int 0, .int 0, .int 0])), (xf, .inl (cF, NF, .inl (fun _ => 0)))] s.heap := hP
  have hl := lv_entry ([.ref xm, .int k]) (n := 4) (Nat.le_of_ble_eq_true rfl)
  rw [lg_entry_eq]
  generalize (lg_sl ([.ref xm, .int k]) ++ List.replicate (4 - (lg_sl ([.ref xm, .int k])).length) Slot.unset).toArray = ls at hl ⊢
  have hl : lv_has ls 4 [(0, .ref xm), (1, .int k)] := hl
  generalize hHe : s.heap = H at hP ⊢
  have hS : va_S A s.heap H [] := by rw [← hHe]; exact va_S.rf
  refine lv_iconst (v := 0) hx hb dX3_countOf_0 (by decide) ?_
  refine lv_istore_n (lv' := [(2, .int 0), (0, .ref xm), (1, .int k)]) hx hb dX3_countOf_1 rfl hl (by decide) rfl (fun ls hl => ?_)
  refine lv_iconst (v := 0) hx hb dX3_countOf_2 (by decide) ?_
  refine lv_istore_n (lv' := [(3, .int 0), (2, .int 0), (0, .ref xm), (1, .int k)]) hx hb dX3_countOf_3 rfl hl (by decide) rfl (fun ls hl => ?_)
  refine lp_count (h0 := xm) (a := xf) (N := NF) hx hb hts hown hK hN hv hP (fun ls x hl => ?_) NF 0 0 (by omega) nI_0.symm ls hl
  refine lv_iload_n hx hb dX3_countOf_32 rfl (lv_at hl 1 rfl) ?_
  refine W.widen (k := 0) (n := 0) (Nat.le_of_ble_eq_true rfl) (Nat.le_of_ble_eq_true rfl) ?_
  exact W.iret (v := 0) hx hb hr (fun t ht hW => ⟨⟨0, (), rfl, rfl, trivial⟩, hS.F ht⟩) hS.2.2 dX3_countOf_33
end
section
def ww_X7_feed : List Cond := .code yX7_feed cX7_feed 6 (some .int) :: ([.fieldLink RX7 30 "LeafSigner" "tape" "LLeafSigner$ByteRow;", .fieldLink RX7 63 "LeafSigner$ByteRow" "count" "I", .methodLink RX7 66 yX0_append, .instanceMethod yX0_append, .selects RX0 yX0_append yX0_append, .initialized RX0, .code yX0_append cX0_append 2 none, .fieldLink RX0 15 "LeafSigner$ByteRow" "count" "I", .fieldLink RX0 9 "LeafSigner$ByteRow" "words" "[I"] ++ (wsX70 ++ wsX00))
theorem iX7_feed_X7 : ∀ w ∈ wsX70, w ∈ ww_X7_feed := fun w h => List.mem_cons_of_mem _ (List.mem_append_right _ (List.mem_append_left _ h))
theorem iX7_feed_X0 : ∀ w ∈ wsX00, w ∈ ww_X7_feed := fun w h => List.mem_cons_of_mem _ (List.mem_append_right _ (List.mem_append_right _ h))
set_option maxRecDepth 20000 in
theorem gX7_feed_X0_append_66 : GoodIn ww_X7_feed (wsV RX7 66 RX0 yX0_append ww_X0_append) := vx_good _ [3, 4, 5, 6, 7, 8, 9, 18, 19] rfl (by decide +kernel)
set_option maxHeartbeats 4000000 in
set_option maxRecDepth 100000 in
theorem ct_feed (l : Launch) (dC : Nat → ClassId) (dI : Nat → Nat → Nat) (sz : Nat) (x : Nat) (k1 : Int32) (k2 : Int32) (k3 : Int32) (k4 : Int32) (k5 : Int32) (h : Int32) (r : Int32) (xt : Nat) (xo : Nat) (xh : Nat) (xs : Nat) (xm : Nat) (xq : Nat) (xtw : Nat) (cT : ClassId) : Met l yX7_feed ww_X7_feed ({ frames := 1, cells := 0, slots := 0, locals := 21 }) (va_Pc [.ref x, .int k1, .int k2, .int k3, .int k4, .int k5] (fun U => U.heap.size = sz ∧ va_P (dC, dI) classes [(x, .inr (7, [.int h, .int r, .ref xt, .ref xo, .ref xh, .ref xs, .ref xm, .ref xq])), (xt, .inr (0, [.ref xtw, .int 0])), (xtw, .inl (cT, 50, .inl (fun _ => 0)))] U.heap ∧ va_K (dC, dI) classes [(cT, .int)] U ∧ va_D (fun _ => True) [(x, .inr (7, [.int h, .int r, .ref xt, .ref xo, .ref xh, .ref xs, .ref xm, .ref xq])), (xt, .inr (0, [.ref xtw, .int 0])), (xtw, .inl (cT, 50, .inl (fun _ => 0)))])) (va_Qi (fun (r : Int32) (_ : Unit) => r = 20) (fun (_ : Unit) (_ : State) => True) (va_A [(x, .inr (7, [.int h, .int r, .ref xt, .ref xo, .ref xh, .ref xs, .ref xm, .ref xq])), (xt, .inr (0, [.ref xtw, .int 0])), (xtw, .inl (cT, 50, .inl (fun _ => 0)))] sz)) 0 0 (va_A [(x, .inr (7, [.int h, .int r, .ref xt, .ref xo, .ref xh, .ref xs, .ref xm, .ref xq])), (xt, .inr (0, [.ref xtw, .int 0])), (xtw, .inl (cT, 50, .inl (fun _ => 0)))] sz) := by
  refine Met.ofW (cc := cX7_feed) (maxL := 6) (ret := (some .int)) (by decide) rfl ?_
  intro p e s m args below meth c s₁ B hml hv
  obtain ⟨rfl, hsz, hP, hK, hD0⟩ := hv
  have hx := B.exec
  have hb := B.bytes
  have hr := B.returns
  have hts := atoms_spec (ws := ww_X7_feed) B.pre
  have hown : s.vm.findClass RX7 = some m.cls := findClass_of_methodNamed B.named
  have hlocks := B.notSynchronized
  subst hsz
  have hD := hD0.self (sz := s.heap.size)
  generalize hAe : va_A [(x, .inr (7, [.int h, .int r, .ref xt, .ref xo, .ref xh, .ref xs, .ref xm, .ref xq])), (xt, .inr (0, [.ref xtw, .int 0])), (xtw, .inl (cT, 50, .inl (fun _ => 0)))] s.heap.size = A at hD ⊢
  have hA : ∀ q : Nat, s.heap.size ≤ q → A q := fun q h => by rw [← hAe]; exact Or.inr h
  have hS : va_S A s.heap s.heap [] := va_S.rf
  have hP : va_P (dC, dI) classes [(x, .inr (7, [.int h, .int r, .ref xt, .ref xo, .ref xh, .ref xs, .ref xm, .ref xq])), (xt, .inr (0, [.ref xtw, .int 0])), (xtw, .inl (cT, 50, .inl (fun _ => 0)))] s.heap := hP
  have hl := lv_entry ([.ref x, .int k1, .int k2, .int k3, .int k4, .int k5]) (n := 6) (Nat.le_of_ble_eq_true rfl)
  rw [lg_entry_eq]
  generalize (lg_sl ([.ref x, .int k1, .int k2, .int k3, .int k4, .int k5]) ++ List.replicate (6 - (lg_sl ([.ref x, .int k1, .int k2, .int k3, .int k4, .int k5])).length) Slot.unset).toArray = ls at hl ⊢
  have hl : lv_has ls 6 [(0, .ref x), (1, .int k1), (2, .int k2), (3, .int k3), (4, .int k4), (5, .int k5)] := hl
  generalize hHe : s.heap = H at hP ⊢
  have hS : va_S A s.heap H [] := by rw [← hHe]; exact va_S.rf
  refine lv_aload_n hx hb dX7_feed_0 rfl (lv_at hl 0 rfl) ?_
  refine va_get (D := (dC, dI)) (ci := 7) (v := .ref xt) (C := RX7) (T := TX7) (N := 8) hx hb hts iX7_feed_X7 hown hK hP 0 rfl rfl 2 (by decide) (hts (.fieldLink RX7 30 "LeafSigner" "tape" "LLeafSigner$ByteRow;") (List.mem_of_getElem? (i := 1) rfl)) (fun _ h9 => h9) rfl dX7_feed_1 ?_
  refine va_get (D := (dC, dI)) (ci := 0) (v := .int 0) (C := RX0) (T := TX0) (N := 2) hx hb hts iX7_feed_X0 hown hK hP 1 rfl rfl 1 (by decide) (hts (.fieldLink RX7 63 "LeafSigner$ByteRow" "count" "I") (List.mem_of_getElem? (i := 2) rfl)) (fun _ h9 => h9) rfl dX7_feed_4 ?_
  refine lv_sipush (v := 180) hx hb dX7_feed_7 (by decide) ?_
  refine lv_icmp_le (tgt := 15) hx hb dX7_feed_10 (by decide) (fun c89 => ?_) (fun c89 => absurd (by decide) c89)
  refine lv_aload_n hx hb dX7_feed_15 rfl (lv_at hl 0 rfl) ?_
  refine va_get (D := (dC, dI)) (ci := 7) (v := .ref xt) (C := RX7) (T := TX7) (N := 8) hx hb hts iX7_feed_X7 hown hK hP 0 rfl rfl 2 (by decide) (hts (.fieldLink RX7 30 "LeafSigner" "tape" "LLeafSigner$ByteRow;") (List.mem_of_getElem? (i := 1) rfl)) (fun _ h9 => h9) rfl dX7_feed_16 ?_
  refine lv_iload_n hx hb dX7_feed_19 rfl (lv_at hl 1 rfl) ?_
  have hPc := hP.sub (ws' := [(xt, .inr (0, [.ref xtw, .int 0])), (xtw, .inl (cT, 50, .inl (fun _ => 0)))]) [1, 2] rfl
  have hDc := hD.sub (ws' := [(xt, .inr (0, [.ref xtw, .int 0])), (xtw, .inl (cT, 50, .inl (fun _ => 0)))]) [1, 2] (by decide) rfl
  have hKc := hK.sub (tys' := [(cT, .int)]) [0] rfl
  have hFc := va_free (wc := [(xt, .inr (0, [.ref xtw, .int 0])), (xtw, .inl (cT, 50, .inl (fun _ => 0)))]) hD hS hA [1, 2] rfl
  refine va_callv (va_runV (As := [.int k1]) (rest := []) ⟨hx, hb, hml, hown, hts⟩ (ct_append l dC dI H.size xt k1 xtw 0 cT (fun _ => 0) 4 (by decide) (vx_in (by decide)) (by decide)) (cwV 1 hts gX7_feed_X0_append_66 rfl rfl rfl (by decide +kernel) ⟨(Nat.le_of_ble_eq_true rfl), (Nat.le_of_ble_eq_true rfl)⟩) ⟨fun a U g mk q => by obtain ⟨q0, q1, qP, qK, qD⟩ := q; exact ⟨q0, q1, qP, va_K.moved (u := U) (U := U.calling g mk a) (Vm.Alike.refl U.vm) qK, qD⟩, va_recv hKc hPc (ci := 0) (q0 := 0) rfl rfl, fun U hU hW => ⟨rfl, by rw [hU], by rw [hU]; exact hPc, va_K.moved hW.alike hKc, hDc.weaken (fun _ _ _ _ => trivial)⟩⟩ rfl rfl hl.1 rfl (lv_room (Nat.le_of_ble_eq_true rfl)) dX7_feed_20 ⟨(Nat.le_of_ble_eq_true rfl), (Nat.le_of_ble_eq_true rfl)⟩) hS (fun q _ h => hFc q h) hFc (fun u t H1 locs ht hvm hw hB hz1 hk1 hS => ?_)
  obtain ⟨f_91, hP1, hK1, hD1⟩ := hB
  rw [ht] at hP1
  have hK1 := va_K.moved hvm.symm hK1
  obtain ⟨hP, hD⟩ := va_join (wr := [(x, .inr (7, [.int h, .int r, .ref xt, .ref xo, .ref xh, .ref xs, .ref xm, .ref xq]))]) (w1 := [(xt, .inr (0, [.ref xtw, .int 4])), (xtw, .inl (cT, 50, .inl f_91))]) hP hD [1, 2] [0] rfl rfl (by decide) (by decide) hk1 hFc hP1 hD1
  have hK := hK.sub (tys' := []) [] rfl
  have hK := hK.app hK1
  generalize H1 = H at hP hS ⊢
  have hP : va_P (dC, dI) classes [(x, .inr (7, [.int h, .int r, .ref xt, .ref xo, .ref xh, .ref xs, .ref xm, .ref xq])), (xt, .inr (0, [.ref xtw, .int 4])), (xtw, .inl (cT, 50, .inl f_91))] H := hP
  have hD : va_D A [(x, .inr (7, [.int h, .int r, .ref xt, .ref xo, .ref xh, .ref xs, .ref xm, .ref xq])), (xt, .inr (0, [.ref xtw, .int 4])), (xtw, .inl (cT, 50, .inl f_91))] := hD
  have hK : va_K (dC, dI) classes [(cT, .int)] s := hK
  refine W.widen (k := 0) (n := 0) (Nat.le_of_ble_eq_true rfl) (Nat.le_of_ble_eq_true rfl) ?_
  refine lv_aload_n hx hb dX7_feed_23 rfl (lv_at hl 0 rfl) ?_
  refine va_get (D := (dC, dI)) (ci := 7) (v := .ref xt) (C := RX7) (T := TX7) (N := 8) hx hb hts iX7_feed_X7 hown hK hP 0 rfl rfl 2 (by decide) (hts (.fieldLink RX7 30 "LeafSigner" "tape" "LLeafSigner$ByteRow;") (List.mem_of_getElem? (i := 1) rfl)) (fun _ h9 => h9) rfl dX7_feed_24 ?_
  refine lv_iload_n hx hb dX7_feed_27 rfl (lv_at hl 2 rfl) ?_
  have hPc := hP.sub (ws' := [(xt, .inr (0, [.ref xtw, .int 4])), (xtw, .inl (cT, 50, .inl f_91))]) [1, 2] rfl
  have hDc := hD.sub (ws' := [(xt, .inr (0, [.ref xtw, .int 4])), (xtw, .inl (cT, 50, .inl f_91))]) [1, 2] (by decide) rfl
  have hKc := hK.sub (tys' := [(cT, .int)]) [0] rfl
  have hFc := va_free (wc := [(xt, .inr (0, [.ref xtw, .int 4])), (xtw, .inl (cT, 50, .inl f_91))]) hD hS hA [1, 2] rfl
  refine va_callv (va_runV (As := [.int k2]) (rest := []) ⟨hx, hb, hml, hown, hts⟩ (ct_append l dC dI H.size xt k2 xtw 4 cT f_91 8 (by decide) (vx_in (by decide)) (by decide)) (cwV 1 hts gX7_feed_X0_append_66 rfl rfl rfl (by decide +kernel) ⟨(Nat.le_of_ble_eq_true rfl), (Nat.le_of_ble_eq_true rfl)⟩) ⟨fun a U g mk q => by obtain ⟨q0, q1, qP, qK, qD⟩ := q; exact ⟨q0, q1, qP, va_K.moved (u := U) (U := U.calling g mk a) (Vm.Alike.refl U.vm) qK, qD⟩, va_recv hKc hPc (ci := 0) (q0 := 0) rfl rfl, fun U hU hW => ⟨rfl, by rw [hU], by rw [hU]; exact hPc, va_K.moved hW.alike hKc, hDc.weaken (fun _ _ _ _ => trivial)⟩⟩ rfl rfl hl.1 rfl (lv_room (Nat.le_of_ble_eq_true rfl)) dX7_feed_28 ⟨(Nat.le_of_ble_eq_true rfl), (Nat.le_of_ble_eq_true rfl)⟩) hS (fun q _ h => hFc q h) hFc (fun u t H1 locs ht hvm hw hB hz1 hk1 hS => ?_)
  obtain ⟨f_93, hP1, hK1, hD1⟩ := hB
  rw [ht] at hP1
  have hK1 := va_K.moved hvm.symm hK1
  obtain ⟨hP, hD⟩ := va_join (wr := [(x, .inr (7, [.int h, .int r, .ref xt, .ref xo, .ref xh, .ref xs, .ref xm, .ref xq]))]) (w1 := [(xt, .inr (0, [.ref xtw, .int 8])), (xtw, .inl (cT, 50, .inl f_93))]) hP hD [1, 2] [0] rfl rfl (by decide) (by decide) hk1 hFc hP1 hD1
  have hK := hK.sub (tys' := []) [] rfl
  have hK := hK.app hK1
  generalize H1 = H at hP hS ⊢
  have hP : va_P (dC, dI) classes [(x, .inr (7, [.int h, .int r, .ref xt, .ref xo, .ref xh, .ref xs, .ref xm, .ref xq])), (xt, .inr (0, [.ref xtw, .int 8])), (xtw, .inl (cT, 50, .inl f_93))] H := hP
  have hD : va_D A [(x, .inr (7, [.int h, .int r, .ref xt, .ref xo, .ref xh, .ref xs, .ref xm, .ref xq])), (xt, .inr (0, [.ref xtw, .int 8])), (xtw, .inl (cT, 50, .inl f_93))] := hD
  have hK : va_K (dC, dI) classes [(cT, .int)] s := hK
  refine W.widen (k := 0) (n := 0) (Nat.le_of_ble_eq_true rfl) (Nat.le_of_ble_eq_true rfl) ?_
  refine lv_aload_n hx hb dX7_feed_31 rfl (lv_at hl 0 rfl) ?_
  refine va_get (D := (dC, dI)) (ci := 7) (v := .ref xt) (C := RX7) (T := TX7) (N := 8) hx hb hts iX7_feed_X7 hown hK hP 0 rfl rfl 2 (by decide) (hts (.fieldLink RX7 30 "LeafSigner" "tape" "LLeafSigner$ByteRow;") (List.mem_of_getElem? (i := 1) rfl)) (fun _ h9 => h9) rfl dX7_feed_32 ?_
  refine lv_iload_n hx hb dX7_feed_35 rfl (lv_at hl 3 rfl) ?_
  have hPc := hP.sub (ws' := [(xt, .inr (0, [.ref xtw, .int 8])), (xtw, .inl (cT, 50, .inl f_93))]) [1, 2] rfl
  have hDc := hD.sub (ws' := [(xt, .inr (0, [.ref xtw, .int 8])), (xtw, .inl (cT, 50, .inl f_93))]) [1, 2] (by decide) rfl
  have hKc := hK.sub (tys' := [(cT, .int)]) [0] rfl
  have hFc := va_free (wc := [(xt, .inr (0, [.ref xtw, .int 8])), (xtw, .inl (cT, 50, .inl f_93))]) hD hS hA [1, 2] rfl
  refine va_callv (va_runV (As := [.int k3]) (rest := []) ⟨hx, hb, hml, hown, hts⟩ (ct_append l dC dI H.size xt k3 xtw 8 cT f_93 12 (by decide) (vx_in (by decide)) (by decide)) (cwV 1 hts gX7_feed_X0_append_66 rfl rfl rfl (by decide +kernel) ⟨(Nat.le_of_ble_eq_true rfl), (Nat.le_of_ble_eq_true rfl)⟩) ⟨fun a U g mk q => by obtain ⟨q0, q1, qP, qK, qD⟩ := q; exact ⟨q0, q1, qP, va_K.moved (u := U) (U := U.calling g mk a) (Vm.Alike.refl U.vm) qK, qD⟩, va_recv hKc hPc (ci := 0) (q0 := 0) rfl rfl, fun U hU hW => ⟨rfl, by rw [hU], by rw [hU]; exact hPc, va_K.moved hW.alike hKc, hDc.weaken (fun _ _ _ _ => trivial)⟩⟩ rfl rfl hl.1 rfl (lv_room (Nat.le_of_ble_eq_true rfl)) dX7_feed_36 ⟨(Nat.le_of_ble_eq_true rfl), (Nat.le_of_ble_eq_true rfl)⟩) hS (fun q _ h => hFc q h) hFc (fun u t H1 locs ht hvm hw hB hz1 hk1 hS => ?_)
  obtain ⟨f_95, hP1, hK1, hD1⟩ := hB
  rw [ht] at hP1
  have hK1 := va_K.moved hvm.symm hK1
  obtain ⟨hP, hD⟩ := va_join (wr := [(x, .inr (7, [.int h, .int r, .ref xt, .ref xo, .ref xh, .ref xs, .ref xm, .ref xq]))]) (w1 := [(xt, .inr (0, [.ref xtw, .int 12])), (xtw, .inl (cT, 50, .inl f_95))]) hP hD [1, 2] [0] rfl rfl (by decide) (by decide) hk1 hFc hP1 hD1
  have hK := hK.sub (tys' := []) [] rfl
  have hK := hK.app hK1
  generalize H1 = H at hP hS ⊢
  have hP : va_P (dC, dI) classes [(x, .inr (7, [.int h, .int r, .ref xt, .ref xo, .ref xh, .ref xs, .ref xm, .ref xq])), (xt, .inr (0, [.ref xtw, .int 12])), (xtw, .inl (cT, 50, .inl f_95))] H := hP
  have hD : va_D A [(x, .inr (7, [.int h, .int r, .ref xt, .ref xo, .ref xh, .ref xs, .ref xm, .ref xq])), (xt, .inr (0, [.ref xtw, .int 12])), (xtw, .inl (cT, 50, .inl f_95))] := hD
  have hK : va_K (dC, dI) classes [(cT, .int)] s := hK
  refine W.widen (k := 0) (n := 0) (Nat.le_of_ble_eq_true rfl) (Nat.le_of_ble_eq_true rfl) ?_
  refine lv_aload_n hx hb dX7_feed_39 rfl (lv_at hl 0 rfl) ?_
  refine va_get (D := (dC, dI)) (ci := 7) (v := .ref xt) (C := RX7) (T := TX7) (N := 8) hx hb hts iX7_feed_X7 hown hK hP 0 rfl rfl 2 (by decide) (hts (.fieldLink RX7 30 "LeafSigner" "tape" "LLeafSigner$ByteRow;") (List.mem_of_getElem? (i := 1) rfl)) (fun _ h9 => h9) rfl dX7_feed_40 ?_
  refine lv_iload hx hb dX7_feed_43 (lv_at hl 4 rfl) ?_
  have hPc := hP.sub (ws' := [(xt, .inr (0, [.ref xtw, .int 12])), (xtw, .inl (cT, 50, .inl f_95))]) [1, 2] rfl
  have hDc := hD.sub (ws' := [(xt, .inr (0, [.ref xtw, .int 12])), (xtw, .inl (cT, 50, .inl f_95))]) [1, 2] (by decide) rfl
  have hKc := hK.sub (tys' := [(cT, .int)]) [0] rfl
  have hFc := va_free (wc := [(xt, .inr (0, [.ref xtw, .int 12])), (xtw, .inl (cT, 50, .inl f_95))]) hD hS hA [1, 2] rfl
  refine va_callv (va_runV (As := [.int k4]) (rest := []) ⟨hx, hb, hml, hown, hts⟩ (ct_append l dC dI H.size xt k4 xtw 12 cT f_95 16 (by decide) (vx_in (by decide)) (by decide)) (cwV 1 hts gX7_feed_X0_append_66 rfl rfl rfl (by decide +kernel) ⟨(Nat.le_of_ble_eq_true rfl), (Nat.le_of_ble_eq_true rfl)⟩) ⟨fun a U g mk q => by obtain ⟨q0, q1, qP, qK, qD⟩ := q; exact ⟨q0, q1, qP, va_K.moved (u := U) (U := U.calling g mk a) (Vm.Alike.refl U.vm) qK, qD⟩, va_recv hKc hPc (ci := 0) (q0 := 0) rfl rfl, fun U hU hW => ⟨rfl, by rw [hU], by rw [hU]; exact hPc, va_K.moved hW.alike hKc, hDc.weaken (fun _ _ _ _ => trivial)⟩⟩ rfl rfl hl.1 rfl (lv_room (Nat.le_of_ble_eq_true rfl)) dX7_feed_45 ⟨(Nat.le_of_ble_eq_true rfl), (Nat.le_of_ble_eq_true rfl)⟩) hS (fun q _ h => hFc q h) hFc (fun u t H1 locs ht hvm hw hB hz1 hk1 hS => ?_)
  obtain ⟨f_97, hP1, hK1, hD1⟩ := hB
  rw [ht] at hP1
  have hK1 := va_K.moved hvm.symm hK1
  obtain ⟨hP, hD⟩ := va_join (wr := [(x, .inr (7, [.int h, .int r, .ref xt, .ref xo, .ref xh, .ref xs, .ref xm, .ref xq]))]) (w1 := [(xt, .inr (0, [.ref xtw, .int 16])), (xtw, .inl (cT, 50, .inl f_97))]) hP hD [1, 2] [0] rfl rfl (by decide) (by decide) hk1 hFc hP1 hD1
  have hK := hK.sub (tys' := []) [] rfl
  have hK := hK.app hK1
  generalize H1 = H at hP hS ⊢
  have hP : va_P (dC, dI) classes [(x, .inr (7, [.int h, .int r, .ref xt, .ref xo, .ref xh, .ref xs, .ref xm, .ref xq])), (xt, .inr (0, [.ref xtw, .int 16])), (xtw, .inl (cT, 50, .inl f_97))] H := hP
  have hD : va_D A [(x, .inr (7, [.int h, .int r, .ref xt, .ref xo, .ref xh, .ref xs, .ref xm, .ref xq])), (xt, .inr (0, [.ref xtw, .int 16])), (xtw, .inl (cT, 50, .inl f_97))] := hD
  have hK : va_K (dC, dI) classes [(cT, .int)] s := hK
  refine W.widen (k := 0) (n := 0) (Nat.le_of_ble_eq_true rfl) (Nat.le_of_ble_eq_true rfl) ?_
  refine lv_aload_n hx hb dX7_feed_48 rfl (lv_at hl 0 rfl) ?_
  refine va_get (D := (dC, dI)) (ci := 7) (v := .ref xt) (C := RX7) (T := TX7) (N := 8) hx hb hts iX7_feed_X7 hown hK hP 0 rfl rfl 2 (by decide) (hts (.fieldLink RX7 30 "LeafSigner" "tape" "LLeafSigner$ByteRow;") (List.mem_of_getElem? (i := 1) rfl)) (fun _ h9 => h9) rfl dX7_feed_49 ?_
  refine lv_iload hx hb dX7_feed_52 (lv_at hl 5 rfl) ?_
  have hPc := hP.sub (ws' := [(xt, .inr (0, [.ref xtw, .int 16])), (xtw, .inl (cT, 50, .inl f_97))]) [1, 2] rfl
  have hDc := hD.sub (ws' := [(xt, .inr (0, [.ref xtw, .int 16])), (xtw, .inl (cT, 50, .inl f_97))]) [1, 2] (by decide) rfl
  have hKc := hK.sub (tys' := [(cT, .int)]) [0] rfl
  have hFc := va_free (wc := [(xt, .inr (0, [.ref xtw, .int 16])), (xtw, .inl (cT, 50, .inl f_97))]) hD hS hA [1, 2] rfl
  refine va_callv (va_runV (As := [.int k5]) (rest := []) ⟨hx, hb, hml, hown, hts⟩ (ct_append l dC dI H.size xt k5 xtw 16 cT f_97 20 (by decide) (vx_in (by decide)) (by decide)) (cwV 1 hts gX7_feed_X0_append_66 rfl rfl rfl (by decide +kernel) ⟨(Nat.le_of_ble_eq_true rfl), (Nat.le_of_ble_eq_true rfl)⟩) ⟨fun a U g mk q => by obtain ⟨q0, q1, qP, qK, qD⟩ := q; exact ⟨q0, q1, qP, va_K.moved (u := U) (U := U.calling g mk a) (Vm.Alike.refl U.vm) qK, qD⟩, va_recv hKc hPc (ci := 0) (q0 := 0) rfl rfl, fun U hU hW => ⟨rfl, by rw [hU], by rw [hU]; exact hPc, va_K.moved hW.alike hKc, hDc.weaken (fun _ _ _ _ => trivial)⟩⟩ rfl rfl hl.1 rfl (lv_room (Nat.le_of_ble_eq_true rfl)) dX7_feed_54 ⟨(Nat.le_of_ble_eq_true rfl), (Nat.le_of_ble_eq_true rfl)⟩) hS (fun q _ h => hFc q h) hFc (fun u t H1 locs ht hvm hw hB hz1 hk1 hS => ?_)
  obtain ⟨f_99, hP1, hK1, hD1⟩ := hB
  rw [ht] at hP1
  have hK1 := va_K.moved hvm.symm hK1
  obtain ⟨hP, hD⟩ := va_join (wr := [(x, .inr (7, [.int h, .int r, .ref xt, .ref xo, .ref xh, .ref xs, .ref xm, .ref xq]))]) (w1 := [(xt, .inr (0, [.ref xtw, .int 20])), (xtw, .inl (cT, 50, .inl f_99))]) hP hD [1, 2] [0] rfl rfl (by decide) (by decide) hk1 hFc hP1 hD1
  have hK := hK.sub (tys' := []) [] rfl
  have hK := hK.app hK1
  generalize H1 = H at hP hS ⊢
  have hP : va_P (dC, dI) classes [(x, .inr (7, [.int h, .int r, .ref xt, .ref xo, .ref xh, .ref xs, .ref xm, .ref xq])), (xt, .inr (0, [.ref xtw, .int 20])), (xtw, .inl (cT, 50, .inl f_99))] H := hP
  have hD : va_D A [(x, .inr (7, [.int h, .int r, .ref xt, .ref xo, .ref xh, .ref xs, .ref xm, .ref xq])), (xt, .inr (0, [.ref xtw, .int 20])), (xtw, .inl (cT, 50, .inl f_99))] := hD
  have hK : va_K (dC, dI) classes [(cT, .int)] s := hK
  refine W.widen (k := 0) (n := 0) (Nat.le_of_ble_eq_true rfl) (Nat.le_of_ble_eq_true rfl) ?_
  refine lv_aload_n hx hb dX7_feed_57 rfl (lv_at hl 0 rfl) ?_
  refine va_get (D := (dC, dI)) (ci := 7) (v := .ref xt) (C := RX7) (T := TX7) (N := 8) hx hb hts iX7_feed_X7 hown hK hP 0 rfl rfl 2 (by decide) (hts (.fieldLink RX7 30 "LeafSigner" "tape" "LLeafSigner$ByteRow;") (List.mem_of_getElem? (i := 1) rfl)) (fun _ h9 => h9) rfl dX7_feed_58 ?_
  refine va_get (D := (dC, dI)) (ci := 0) (v := .int 20) (C := RX0) (T := TX0) (N := 2) hx hb hts iX7_feed_X0 hown hK hP 1 rfl rfl 1 (by decide) (hts (.fieldLink RX7 63 "LeafSigner$ByteRow" "count" "I") (List.mem_of_getElem? (i := 2) rfl)) (fun _ h9 => h9) rfl dX7_feed_61 ?_
  refine W.widen (k := 0) (n := 0) (Nat.le_of_ble_eq_true rfl) (Nat.le_of_ble_eq_true rfl) ?_
  exact W.iret (v := 20) hx hb hr (fun t ht hW => ⟨⟨20, (), rfl, rfl, trivial⟩, hS.F ht⟩) hS.2.2 dX7_feed_64
end
section
def ww_X7_keys : List Cond := .code yX7_keys cX7_keys 1 (some .boolean) :: ([.fieldLink RX7 30 "LeafSigner" "tape" "LLeafSigner$ByteRow;", .fieldLink RX7 63 "LeafSigner$ByteRow" "count" "I"] ++ (wsX70 ++ wsX00))
theorem iX7_keys_X7 : ∀ w ∈ wsX70, w ∈ ww_X7_keys := fun w h => List.mem_cons_of_mem _ (List.mem_append_right _ (List.mem_append_left _ h))
theorem iX7_keys_X0 : ∀ w ∈ wsX00, w ∈ ww_X7_keys := fun w h => List.mem_cons_of_mem _ (List.mem_append_right _ (List.mem_append_right _ h))
set_option maxHeartbeats 4000000 in
set_option maxRecDepth 100000 in
theorem ct_keys (l : Launch) (dC : Nat → ClassId) (dI : Nat → Nat → Nat) (sz : Nat) (x : Nat) (h : Int32) (r : Int32) (xt : Nat) (xo : Nat) (xh : Nat) (xs : Nat) (xm : Nat) (xq : Nat) (xtw : Nat) : Met l yX7_keys ww_X7_keys ({ frames := 0, cells := 0, slots := 0, locals := 0 }) (va_Pc [.ref x] (fun U => U.heap.size = sz ∧ va_P (dC, dI) classes [(x, .inr (7, [.int h, .int r, .ref xt, .ref xo, .ref xh, .ref xs, .ref xm, .ref xq])), (xt, .inr (0, [.ref xtw, .int 0]))] U.heap ∧ va_K (dC, dI) classes [] U ∧ va_D (fun _ => True) [(x, .inr (7, [.int h, .int r, .ref xt, .ref xo, .ref xh, .ref xs, .ref xm, .ref xq])), (xt, .inr (0, [.ref xtw, .int 0]))])) (va_Qi (fun (r : Int32) (_ : Unit) => r = 0) (fun (_ : Unit) (_ : State) => True) (va_A [(x, .inr (7, [.int h, .int r, .ref xt, .ref xo, .ref xh, .ref xs, .ref xm, .ref xq])), (xt, .inr (0, [.ref xtw, .int 0]))] sz)) 0 0 (va_A [(x, .inr (7, [.int h, .int r, .ref xt, .ref xo, .ref xh, .ref xs, .ref xm, .ref xq])), (xt, .inr (0, [.ref xtw, .int 0]))] sz) := by
  refine Met.ofW (cc := cX7_keys) (maxL := 1) (ret := (some .boolean)) (by decide) rfl ?_
  intro p e s m args below meth c s₁ B hml hv
  obtain ⟨rfl, hsz, hP, hK, hD0⟩ := hv
  have hx := B.exec
  have hb := B.bytes
  have hr := B.returns
  have hts := atoms_spec (ws := ww_X7_keys) B.pre
  have hown : s.vm.findClass RX7 = some m.cls := findClass_of_methodNamed B.named
  have hlocks := B.notSynchronized
  subst hsz
  have hD := hD0.self (sz := s.heap.size)
  generalize hAe : va_A [(x, .inr (7, [.int h, .int r, .ref xt, .ref xo, .ref xh, .ref xs, .ref xm, .ref xq])), (xt, .inr (0, [.ref xtw, .int 0]))] s.heap.size = A at hD ⊢
  have hA : ∀ q : Nat, s.heap.size ≤ q → A q := fun q h => by rw [← hAe]; exact Or.inr h
  have hS : va_S A s.heap s.heap [] := va_S.rf
  have hP : va_P (dC, dI) classes [(x, .inr (7, [.int h, .int r, .ref xt, .ref xo, .ref xh, .ref xs, .ref xm, .ref xq])), (xt, .inr (0, [.ref xtw, .int 0]))] s.heap := hP
  have hl := lv_entry ([.ref x]) (n := 1) (Nat.le_of_ble_eq_true rfl)
  rw [lg_entry_eq]
  generalize (lg_sl ([.ref x]) ++ List.replicate (1 - (lg_sl ([.ref x])).length) Slot.unset).toArray = ls at hl ⊢
  have hl : lv_has ls 1 [(0, .ref x)] := hl
  generalize hHe : s.heap = H at hP ⊢
  have hS : va_S A s.heap H [] := by rw [← hHe]; exact va_S.rf
  refine lv_aload_n hx hb dX7_keys_0 rfl (lv_at hl 0 rfl) ?_
  refine va_get (D := (dC, dI)) (ci := 7) (v := .ref xt) (C := RX7) (T := TX7) (N := 8) hx hb hts iX7_keys_X7 hown hK hP 0 rfl rfl 2 (by decide) (hts (.fieldLink RX7 30 "LeafSigner" "tape" "LLeafSigner$ByteRow;") (List.mem_of_getElem? (i := 1) rfl)) (fun _ h9 => h9) rfl dX7_keys_1 ?_
  refine va_get (D := (dC, dI)) (ci := 0) (v := .int 0) (C := RX0) (T := TX0) (N := 2) hx hb hts iX7_keys_X0 hown hK hP 1 rfl rfl 1 (by decide) (hts (.fieldLink RX7 63 "LeafSigner$ByteRow" "count" "I") (List.mem_of_getElem? (i := 2) rfl)) (fun _ h9 => h9) rfl dX7_keys_4 ?_
  refine lv_bipush (v := 96) hx hb dX7_keys_7 (by decide) ?_
  refine lv_icmp_ge (tgt := 14) hx hb dX7_keys_9 (by decide) (fun c100 => absurd c100 (by decide)) (fun c100 => ?_)
  refine lv_iconst (v := 0) hx hb dX7_keys_12 (by decide) ?_
  refine W.widen (k := 0) (n := 0) (Nat.le_of_ble_eq_true rfl) (Nat.le_of_ble_eq_true rfl) ?_
  exact W.zret (v := 0) (ty := .boolean) hx hb hr (by decide) (fun t ht hW => ⟨⟨0, (), rfl, rfl, trivial⟩, hS.F ht⟩) hS.2.2 dX7_keys_13
end
section
def ww_X7_fall : List Cond := .code yX7_fall cX7_fall 1 (some .boolean) :: ([.fieldLink RX7 52 "LeafSigner" "machine" "LLeafSigner$Machine;", .fieldLink RX7 84 "LeafSigner$Machine" "state" "I"] ++ (wsX70 ++ wsX30))
theorem iX7_fall_X7 : ∀ w ∈ wsX70, w ∈ ww_X7_fall := fun w h => List.mem_cons_of_mem _ (List.mem_append_right _ (List.mem_append_left _ h))
theorem iX7_fall_X3 : ∀ w ∈ wsX30, w ∈ ww_X7_fall := fun w h => List.mem_cons_of_mem _ (List.mem_append_right _ (List.mem_append_right _ h))
set_option maxHeartbeats 4000000 in
set_option maxRecDepth 100000 in
theorem ct_fall (l : Launch) (dC : Nat → ClassId) (dI : Nat → Nat → Nat) (sz : Nat) (x : Nat) (h : Int32) (r : Int32) (xt : Nat) (xo : Nat) (xh : Nat) (xs : Nat) (xm : Nat) (xq : Nat) (xf : Nat) : Met l yX7_fall ww_X7_fall ({ frames := 0, cells := 0, slots := 0, locals := 0 }) (va_Pc [.ref x] (fun U => U.heap.size = sz ∧ va_P (dC, dI) classes [(x, .inr (7, [.int h, .int r, .ref xt, .ref xo, .ref xh, .ref xs, .ref xm, .ref xq])), (xm, .inr (3, [.ref xf, .int r, .ref xs, .int 0, .int 0, .int 0, .int 0]))] U.heap ∧ va_K (dC, dI) classes [] U ∧ va_D (fun _ => True) [(x, .inr (7, [.int h, .int r, .ref xt, .ref xo, .ref xh, .ref xs, .ref xm, .ref xq])), (xm, .inr (3, [.ref xf, .int r, .ref xs, .int 0, .int 0, .int 0, .int 0]))])) (va_Qi (fun (r : Int32) (_ : Unit) => r = 0) (fun (_ : Unit) (_ : State) => True) (va_A [(x, .inr (7, [.int h, .int r, .ref xt, .ref xo, .ref xh, .ref xs, .ref xm, .ref xq])), (xm, .inr (3, [.ref xf, .int r, .ref xs, .int 0, .int 0, .int 0, .int 0]))] sz)) 0 0 (va_A [(x, .inr (7, [.int h, .int r, .ref xt, .ref xo, .ref xh, .ref xs, .ref xm, .ref xq])), (xm, .inr (3, [.ref xf, .int r, .ref xs, .int 0, .int 0, .int 0, .int 0]))] sz) := by
  refine Met.ofW (cc := cX7_fall) (maxL := 1) (ret := (some .boolean)) (by decide) rfl ?_
  intro p e s m args below meth c s₁ B hml hv
  obtain ⟨rfl, hsz, hP, hK, hD0⟩ := hv
  have hx := B.exec
  have hb := B.bytes
  have hr := B.returns
  have hts := atoms_spec (ws := ww_X7_fall) B.pre
  have hown : s.vm.findClass RX7 = some m.cls := findClass_of_methodNamed B.named
  have hlocks := B.notSynchronized
  subst hsz
  have hD := hD0.self (sz := s.heap.size)
  generalize hAe : va_A [(x, .inr (7, [.int h, .int r, .ref xt, .ref xo, .ref xh, .ref xs, .ref xm, .ref xq])), (xm, .inr (3, [.ref xf, .int r, .ref xs, .int 0, .int 0, .int 0, .int 0]))] s.heap.size = A at hD ⊢
  have hA : ∀ q : Nat, s.heap.size ≤ q → A q := fun q h => by rw [← hAe]; exact Or.inr h
  have hS : va_S A s.heap s.heap [] := va_S.rf
  have hP : va_P (dC, dI) classes [(x, .inr (7, [.int h, .int r, .ref xt, .ref xo, .ref xh, .ref xs, .ref xm, .ref xq])), (xm, .inr (3, [.ref xf, .int r, .ref xs, .int 0, .int 0, .int 0, .int 0]))] s.heap := hP
  have hl := lv_entry ([.ref x]) (n := 1) (Nat.le_of_ble_eq_true rfl)
  rw [lg_entry_eq]
  generalize (lg_sl ([.ref x]) ++ List.replicate (1 - (lg_sl ([.ref x])).length) Slot.unset).toArray = ls at hl ⊢
  have hl : lv_has ls 1 [(0, .ref x)] := hl
  generalize hHe : s.heap = H at hP ⊢
  have hS : va_S A s.heap H [] := by rw [← hHe]; exact va_S.rf
  refine lv_aload_n hx hb dX7_fall_0 rfl (lv_at hl 0 rfl) ?_
  refine va_get (D := (dC, dI)) (ci := 7) (v := .ref xm) (C := RX7) (T := TX7) (N := 8) hx hb hts iX7_fall_X7 hown hK hP 0 rfl rfl 6 (by decide) (hts (.fieldLink RX7 52 "LeafSigner" "machine" "LLeafSigner$Machine;") (List.mem_of_getElem? (i := 1) rfl)) (fun _ h9 => h9) rfl dX7_fall_1 ?_
  refine va_get (D := (dC, dI)) (ci := 3) (v := .int 0) (C := RX3) (T := TX3) (N := 7) hx hb hts iX7_fall_X3 hown hK hP 1 rfl rfl 3 (by decide) (hts (.fieldLink RX7 84 "LeafSigner$Machine" "state" "I") (List.mem_of_getElem? (i := 2) rfl)) (fun _ h9 => h9) rfl dX7_fall_4 ?_
  refine lv_iconst (v := 1) hx hb dX7_fall_7 (by decide) ?_
  refine lv_icmp_eq (tgt := 13) hx hb dX7_fall_8 (by decide) (fun c101 => absurd c101 (by decide)) (fun c101 => ?_)
  refine lv_iconst (v := 0) hx hb dX7_fall_11 (by decide) ?_
  refine W.widen (k := 0) (n := 0) (Nat.le_of_ble_eq_true rfl) (Nat.le_of_ble_eq_true rfl) ?_
  exact W.zret (v := 0) (ty := .boolean) hx hb hr (by decide) (fun t ht hW => ⟨⟨0, (), rfl, rfl, trivial⟩, hS.F ht⟩) hS.2.2 dX7_fall_12
end
section
def ww_X7_rise : List Cond := .code yX7_rise cX7_rise 1 (some .boolean) :: ([.fieldLink RX7 52 "LeafSigner" "machine" "LLeafSigner$Machine;", .fieldLink RX7 84 "LeafSigner$Machine" "state" "I"] ++ (wsX70 ++ wsX30))
theorem iX7_rise_X7 : ∀ w ∈ wsX70, w ∈ ww_X7_rise := fun w h => List.mem_cons_of_mem _ (List.mem_append_right _ (List.mem_append_left _ h))
theorem iX7_rise_X3 : ∀ w ∈ wsX30, w ∈ ww_X7_rise := fun w h => List.mem_cons_of_mem _ (List.mem_append_right _ (List.mem_append_right _ h))
set_option maxHeartbeats 4000000 in
set_option maxRecDepth 100000 in
theorem ct_rise (l : Launch) (dC : Nat → ClassId) (dI : Nat → Nat → Nat) (sz : Nat) (x : Nat) (h : Int32) (r : Int32) (xt : Nat) (xo : Nat) (xh : Nat) (xs : Nat) (xm : Nat) (xq : Nat) (xf : Nat) : Met l yX7_rise ww_X7_rise ({ frames := 0, cells := 0, slots := 0, locals := 0 }) (va_Pc [.ref x] (fun U => U.heap.size = sz ∧ va_P (dC, dI) classes [(x, .inr (7, [.int h, .int r, .ref xt, .ref xo, .ref xh, .ref xs, .ref xm, .ref xq])), (xm, .inr (3, [.ref xf, .int r, .ref xs, .int 0, .int 0, .int 0, .int 0]))] U.heap ∧ va_K (dC, dI) classes [] U ∧ va_D (fun _ => True) [(x, .inr (7, [.int h, .int r, .ref xt, .ref xo, .ref xh, .ref xs, .ref xm, .ref xq])), (xm, .inr (3, [.ref xf, .int r, .ref xs, .int 0, .int 0, .int 0, .int 0]))])) (va_Qi (fun (r : Int32) (_ : Unit) => r = 0) (fun (_ : Unit) (_ : State) => True) (va_A [(x, .inr (7, [.int h, .int r, .ref xt, .ref xo, .ref xh, .ref xs, .ref xm, .ref xq])), (xm, .inr (3, [.ref xf, .int r, .ref xs, .int 0, .int 0, .int 0, .int 0]))] sz)) 0 0 (va_A [(x, .inr (7, [.int h, .int r, .ref xt, .ref xo, .ref xh, .ref xs, .ref xm, .ref xq])), (xm, .inr (3, [.ref xf, .int r, .ref xs, .int 0, .int 0, .int 0, .int 0]))] sz) := by
  refine Met.ofW (cc := cX7_rise) (maxL := 1) (ret := (some .boolean)) (by decide) rfl ?_
  intro p e s m args below meth c s₁ B hml hv
  obtain ⟨rfl, hsz, hP, hK, hD0⟩ := hv
  have hx := B.exec
  have hb := B.bytes
  have hr := B.returns
  have hts := atoms_spec (ws := ww_X7_rise) B.pre
  have hown : s.vm.findClass RX7 = some m.cls := findClass_of_methodNamed B.named
  have hlocks := B.notSynchronized
  subst hsz
  have hD := hD0.self (sz := s.heap.size)
  generalize hAe : va_A [(x, .inr (7, [.int h, .int r, .ref xt, .ref xo, .ref xh, .ref xs, .ref xm, .ref xq])), (xm, .inr (3, [.ref xf, .int r, .ref xs, .int 0, .int 0, .int 0, .int 0]))] s.heap.size = A at hD ⊢
  have hA : ∀ q : Nat, s.heap.size ≤ q → A q := fun q h => by rw [← hAe]; exact Or.inr h
  have hS : va_S A s.heap s.heap [] := va_S.rf
  have hP : va_P (dC, dI) classes [(x, .inr (7, [.int h, .int r, .ref xt, .ref xo, .ref xh, .ref xs, .ref xm, .ref xq])), (xm, .inr (3, [.ref xf, .int r, .ref xs, .int 0, .int 0, .int 0, .int 0]))] s.heap := hP
  have hl := lv_entry ([.ref x]) (n := 1) (Nat.le_of_ble_eq_true rfl)
  rw [lg_entry_eq]
  generalize (lg_sl ([.ref x]) ++ List.replicate (1 - (lg_sl ([.ref x])).length) Slot.unset).toArray = ls at hl ⊢
  have hl : lv_has ls 1 [(0, .ref x)] := hl
  generalize hHe : s.heap = H at hP ⊢
  have hS : va_S A s.heap H [] := by rw [← hHe]; exact va_S.rf
  refine lv_aload_n hx hb dX7_rise_0 rfl (lv_at hl 0 rfl) ?_
  refine va_get (D := (dC, dI)) (ci := 7) (v := .ref xm) (C := RX7) (T := TX7) (N := 8) hx hb hts iX7_rise_X7 hown hK hP 0 rfl rfl 6 (by decide) (hts (.fieldLink RX7 52 "LeafSigner" "machine" "LLeafSigner$Machine;") (List.mem_of_getElem? (i := 1) rfl)) (fun _ h9 => h9) rfl dX7_rise_1 ?_
  refine va_get (D := (dC, dI)) (ci := 3) (v := .int 0) (C := RX3) (T := TX3) (N := 7) hx hb hts iX7_rise_X3 hown hK hP 1 rfl rfl 3 (by decide) (hts (.fieldLink RX7 84 "LeafSigner$Machine" "state" "I") (List.mem_of_getElem? (i := 2) rfl)) (fun _ h9 => h9) rfl dX7_rise_4 ?_
  refine lv_iconst (v := 2) hx hb dX7_rise_7 (by decide) ?_
  refine lv_icmp_eq (tgt := 13) hx hb dX7_rise_8 (by decide) (fun c102 => absurd c102 (by decide)) (fun c102 => ?_)
  refine lv_iconst (v := 0) hx hb dX7_rise_11 (by decide) ?_
  refine W.widen (k := 0) (n := 0) (Nat.le_of_ble_eq_true rfl) (Nat.le_of_ble_eq_true rfl) ?_
  exact W.zret (v := 0) (ty := .boolean) hx hb hr (by decide) (fun t ht hW => ⟨⟨0, (), rfl, rfl, trivial⟩, hS.F ht⟩) hS.2.2 dX7_rise_12
end
section
def ww_X7_sign : List Cond := .code yX7_sign cX7_sign 3 (some .int) :: ([.methodLink RX7 80 yX7_isWrongCount, .instanceMethod yX7_isWrongCount, .selects RX7 yX7_isWrongCount yX7_isWrongCount, .initialized RX7, .code yX7_isWrongCount cX7_isWrongCount 2 (some .boolean), .fieldLink RX7 30 "LeafSigner" "tape" "LLeafSigner$ByteRow;", .fieldLink RX7 63 "LeafSigner$ByteRow" "count" "I", .fieldLink RX7 52 "LeafSigner" "machine" "LLeafSigner$Machine;", .fieldLink RX7 84 "LeafSigner$Machine" "state" "I"] ++ (wsX70 ++ wsX00 ++ wsX30))
theorem iX7_sign_X7 : ∀ w ∈ wsX70, w ∈ ww_X7_sign := fun w h => List.mem_cons_of_mem _ (List.mem_append_right _ (List.mem_append_left _ (List.mem_append_left _ h)))
theorem iX7_sign_X0 : ∀ w ∈ wsX00, w ∈ ww_X7_sign := fun w h => List.mem_cons_of_mem _ (List.mem_append_right _ (List.mem_append_left _ (List.mem_append_right _ h)))
theorem iX7_sign_X3 : ∀ w ∈ wsX30, w ∈ ww_X7_sign := fun w h => List.mem_cons_of_mem _ (List.mem_append_right _ (List.mem_append_right _ h))
set_option maxRecDepth 20000 in
theorem gX7_sign_X7_isWrongCount_80 : GoodIn ww_X7_sign (wsV RX7 80 RX7 yX7_isWrongCount ww_X7_isWrongCount) := vx_good _ [1, 2, 3, 4, 5, 6, 7, 10, 11, 12, 13, 14, 15, 16, 17, 18, 19] rfl (by decide +kernel)
set_option maxHeartbeats 4000000 in
set_option maxRecDepth 100000 in
theorem ct_sign (l : Launch) (dC : Nat → ClassId) (dI : Nat → Nat → Nat) (sz : Nat) (x : Nat) (k : Int32) (h : Int32) (r : Int32) (xt : Nat) (xo : Nat) (xh : Nat) (xs : Nat) (xm : Nat) (xq : Nat) (xtw : Nat) (xf : Nat) : Met l yX7_sign ww_X7_sign ({ frames := 1, cells := 0, slots := 0, locals := 21 }) (va_Pc [.ref x, .int k] (fun U => U.heap.size = sz ∧ va_P (dC, dI) classes [(x, .inr (7, [.int h, .int r, .ref xt, .ref xo, .ref xh, .ref xs, .ref xm, .ref xq])), (xt, .inr (0, [.ref xtw, .int 0])), (xm, .inr (3, [.ref xf, .int r, .ref xs, .int 0, .int 0, .int 0, .int 0]))] U.heap ∧ va_K (dC, dI) classes [] U ∧ va_D (fun _ => True) [(x, .inr (7, [.int h, .int r, .ref xt, .ref xo, .ref xh, .ref xs, .ref xm, .ref xq])), (xt, .inr (0, [.ref xtw, .int 0])), (xm, .inr (3, [.ref xf, .int r, .ref xs, .int 0, .int 0, .int 0, .int 0]))])) (va_Qi (fun (r : Int32) (_ : Unit) => r = fk_sign k) (fun (_ : Unit) (_ : State) => True) (va_A [(x, .inr (7, [.int h, .int r, .ref xt, .ref xo, .ref xh, .ref xs, .ref xm, .ref xq])), (xt, .inr (0, [.ref xtw, .int 0])), (xm, .inr (3, [.ref xf, .int r, .ref xs, .int 0, .int 0, .int 0, .int 0]))] sz)) 0 0 (va_A [(x, .inr (7, [.int h, .int r, .ref xt, .ref xo, .ref xh, .ref xs, .ref xm, .ref xq])), (xt, .inr (0, [.ref xtw, .int 0])), (xm, .inr (3, [.ref xf, .int r, .ref xs, .int 0, .int 0, .int 0, .int 0]))] sz) := by
  refine Met.ofW (cc := cX7_sign) (maxL := 3) (ret := (some .int)) (by decide) rfl ?_
  intro p e s m args below meth c s₁ B hml hv
  obtain ⟨rfl, hsz, hP, hK, hD0⟩ := hv
  have hx := B.exec
  have hb := B.bytes
  have hr := B.returns
  have hts := atoms_spec (ws := ww_X7_sign) B.pre
  have hown : s.vm.findClass RX7 = some m.cls := findClass_of_methodNamed B.named
  have hlocks := B.notSynchronized
  subst hsz
  have hD := hD0.self (sz := s.heap.size)
  generalize hAe : va_A [(x, .inr (7, [.int h, .int r, .ref xt, .ref xo, .ref xh, .ref xs, .ref xm, .ref xq])), (xt, .inr (0, [.ref xtw, .int 0])), (xm, .inr (3, [.ref xf, .int r, .ref xs, .int 0, .int 0, .int 0, .int 0]))] s.heap.size = A at hD ⊢
  have hA : ∀ q : Nat, s.heap.size ≤ q → A q := fun q h => by rw [← hAe]; exact Or.inr h
  have hS : va_S A s.heap s.heap [] := va_S.rf
  have hP : va_P (dC, dI) classes [(x, .inr (7, [.int h, .int r, .ref xt, .ref xo, .ref xh, .ref xs, .ref xm, .ref xq])), (xt, .inr (0, [.ref xtw, .int 0])), (xm, .inr (3, [.ref xf, .int r, .ref xs, .int 0, .int 0, .int 0, .int 0]))] s.heap := hP
  have hl := lv_entry ([.ref x, .int k]) (n := 3) (Nat.le_of_ble_eq_true rfl)
  rw [lg_entry_eq]
  generalize (lg_sl ([.ref x, .int k]) ++ List.replicate (3 - (lg_sl ([.ref x, .int k])).length) Slot.unset).toArray = ls at hl ⊢
  have hl : lv_has ls 3 [(0, .ref x), (1, .int k)] := hl
  generalize hHe : s.heap = H at hP ⊢
  have hS : va_S A s.heap H [] := by rw [← hHe]; exact va_S.rf
  refine lv_aload_n hx hb dX7_sign_0 rfl (lv_at hl 0 rfl) ?_
  refine lv_iload_n hx hb dX7_sign_1 rfl (lv_at hl 1 rfl) ?_
  have hPc := hP.sub (ws' := [(x, .inr (7, [.int h, .int r, .ref xt, .ref xo, .ref xh, .ref xs, .ref xm, .ref xq])), (xt, .inr (0, [.ref xtw, .int 0]))]) [0, 1] rfl
  have hDc := hD.sub (ws' := [(x, .inr (7, [.int h, .int r, .ref xt, .ref xo, .ref xh, .ref xs, .ref xm, .ref xq])), (xt, .inr (0, [.ref xtw, .int 0]))]) [0, 1] (by decide) rfl
  have hKc := hK.sub (tys' := []) [] rfl
  have hFc := va_free (wc := [(x, .inr (7, [.int h, .int r, .ref xt, .ref xo, .ref xh, .ref xs, .ref xm, .ref xq])), (xt, .inr (0, [.ref xtw, .int 0]))]) hD hS hA [0, 1] rfl
  refine va_calli (va_runV (As := [.int k]) (rest := []) ⟨hx, hb, hml, hown, hts⟩ (ct_wrong l dC dI H.size x k h r xt xo xh xs xm xq xtw) (cwV 1 hts gX7_sign_X7_isWrongCount_80 rfl rfl rfl (by decide +kernel) ⟨(Nat.le_of_ble_eq_true rfl), (Nat.le_of_ble_eq_true rfl)⟩) ⟨fun a U g mk q => by obtain ⟨q0, q1, qP, qK, qD⟩ := q; exact ⟨q0, q1, qP, va_K.moved (u := U) (U := U.calling g mk a) (Vm.Alike.refl U.vm) qK, qD⟩, va_recv hKc hPc (ci := 7) (q0 := 0) rfl rfl, fun U hU hW => ⟨rfl, by rw [hU], by rw [hU]; exact hPc, va_K.moved hW.alike hKc, hDc.weaken (fun _ _ _ _ => trivial)⟩⟩ rfl rfl hl.1 rfl (lv_room (Nat.le_of_ble_eq_true rfl)) dX7_sign_2 ⟨(Nat.le_of_ble_eq_true rfl), (Nat.le_of_ble_eq_true rfl)⟩) hS (fun q _ h => hFc q h) hFc (fun r103 u t H1 locs ht hvm hw hB hz1 hk1 hS => ?_)
  obtain ⟨hP1, hK1, hD1⟩ := hB
  rw [ht] at hP1
  have hK1 := va_K.moved hvm.symm hK1
  obtain ⟨hP, hD⟩ := va_join (wr := [(xm, .inr (3, [.ref xf, .int r, .ref xs, .int 0, .int 0, .int 0, .int 0]))]) (w1 := [(x, .inr (7, [.int h, .int r, .ref xt, .ref xo, .ref xh, .ref xs, .ref xm, .ref xq])), (xt, .inr (0, [.ref xtw, .int 0]))]) hP hD [0, 1] [2] rfl rfl (by decide) (by decide) hk1 hFc hP1 hD1
  have hK := hK.sub (tys' := []) [] rfl
  have hK := hK.app hK1
  generalize H1 = H at hP hS ⊢
  have hP : va_P (dC, dI) classes [(xm, .inr (3, [.ref xf, .int r, .ref xs, .int 0, .int 0, .int 0, .int 0])), (x, .inr (7, [.int h, .int r, .ref xt, .ref xo, .ref xh, .ref xs, .ref xm, .ref xq])), (xt, .inr (0, [.ref xtw, .int 0]))] H := hP
  have hD : va_D A [(xm, .inr (3, [.ref xf, .int r, .ref xs, .int 0, .int 0, .int 0, .int 0])), (x, .inr (7, [.int h, .int r, .ref xt, .ref xo, .ref xh, .ref xs, .ref xm, .ref xq])), (xt, .inr (0, [.ref xtw, .int 0]))] := hD
  have hK : va_K (dC, dI) classes [] s := hK
  refine W.widen (k := 0) (n := 0) (Nat.le_of_ble_eq_true rfl) (Nat.le_of_ble_eq_true rfl) ?_
  try dsimp only at hw
  subst hw
  refine lv_if_eq (tgt := 11) hx hb dX7_sign_5 (by decide) (fun c104 => ?_) (fun c104 => ?_)
  · refine lv_aload_n hx hb dX7_sign_11 rfl (lv_at hl 0 rfl) ?_
    refine va_get (D := (dC, dI)) (ci := 7) (v := .ref xm) (C := RX7) (T := TX7) (N := 8) hx hb hts iX7_sign_X7 hown hK hP 1 rfl rfl 6 (by decide) (hts (.fieldLink RX7 52 "LeafSigner" "machine" "LLeafSigner$Machine;") (List.mem_of_getElem? (i := 8) rfl)) (fun _ h9 => h9) rfl dX7_sign_12 ?_
    refine va_get (D := (dC, dI)) (ci := 3) (v := .int 0) (C := RX3) (T := TX3) (N := 7) hx hb hts iX7_sign_X3 hown hK hP 0 rfl rfl 3 (by decide) (hts (.fieldLink RX7 84 "LeafSigner$Machine" "state" "I") (List.mem_of_getElem? (i := 9) rfl)) (fun _ h9 => h9) rfl dX7_sign_15 ?_
    refine lv_iconst (v := 1) hx hb dX7_sign_18 (by decide) ?_
    refine lv_icmp_eq (tgt := 25) hx hb dX7_sign_19 (by decide) (fun c105 => absurd c105 (by decide)) (fun c105 => ?_)
    refine lv_bipush (v := (-3)) hx hb dX7_sign_22 (by decide) ?_
    refine W.widen (k := 0) (n := 0) (Nat.le_of_ble_eq_true rfl) (Nat.le_of_ble_eq_true rfl) ?_
    exact W.iret (v := (-3)) hx hb hr (fun t ht hW => ⟨⟨(-3), (), rfl, (by unfold fk_sign; rw [if_pos c104]), trivial⟩, hS.F ht⟩) hS.2.2 dX7_sign_24
  · refine lv_bipush (v := (-2)) hx hb dX7_sign_8 (by decide) ?_
    refine W.widen (k := 0) (n := 0) (Nat.le_of_ble_eq_true rfl) (Nat.le_of_ble_eq_true rfl) ?_
    exact W.iret (v := (-2)) hx hb hr (fun t ht hW => ⟨⟨(-2), (), rfl, (by unfold fk_sign; rw [if_neg c104]), trivial⟩, hS.F ht⟩) hS.2.2 dX7_sign_10
end
section
def ww_X7_verify : List Cond := .code yX7_verify cX7_verify 2 (some .int) :: ([.methodLink RX7 80 yX7_isWrongCount, .instanceMethod yX7_isWrongCount, .selects RX7 yX7_isWrongCount yX7_isWrongCount, .initialized RX7, .code yX7_isWrongCount cX7_isWrongCount 2 (some .boolean), .fieldLink RX7 30 "LeafSigner" "tape" "LLeafSigner$ByteRow;", .fieldLink RX7 63 "LeafSigner$ByteRow" "count" "I", .methodLink RX7 122 yX7_wasNeverKeyed, .instanceMethod yX7_wasNeverKeyed, .selects RX7 yX7_wasNeverKeyed yX7_wasNeverKeyed, .code yX7_wasNeverKeyed cX7_wasNeverKeyed 1 (some .boolean), .fieldLink RX7 52 "LeafSigner" "machine" "LLeafSigner$Machine;", .fieldLink RX7 84 "LeafSigner$Machine" "state" "I"] ++ (wsX70 ++ wsX00 ++ wsX30))
theorem iX7_verify_X7 : ∀ w ∈ wsX70, w ∈ ww_X7_verify := fun w h => List.mem_cons_of_mem _ (List.mem_append_right _ (List.mem_append_left _ (List.mem_append_left _ h)))
theorem iX7_verify_X0 : ∀ w ∈ wsX00, w ∈ ww_X7_verify := fun w h => List.mem_cons_of_mem _ (List.mem_append_right _ (List.mem_append_left _ (List.mem_append_right _ h)))
theorem iX7_verify_X3 : ∀ w ∈ wsX30, w ∈ ww_X7_verify := fun w h => List.mem_cons_of_mem _ (List.mem_append_right _ (List.mem_append_right _ h))
set_option maxRecDepth 20000 in
theorem gX7_verify_X7_isWrongCount_80 : GoodIn ww_X7_verify (wsV RX7 80 RX7 yX7_isWrongCount ww_X7_isWrongCount) := vx_good _ [1, 2, 3, 4, 5, 6, 7, 14, 15, 16, 17, 18, 19, 20, 21, 22, 23] rfl (by decide +kernel)
set_option maxRecDepth 20000 in
theorem gX7_verify_X7_wasNeverKeyed_122 : GoodIn ww_X7_verify (wsV RX7 122 RX7 yX7_wasNeverKeyed ww_X7_wasNeverKeyed) := vx_good _ [8, 9, 10, 4, 11, 12, 13, 14, 15, 16, 17, 18, 19, 20, 21, 24, 25, 26, 27, 28, 29, 30] rfl (by decide +kernel)
set_option maxHeartbeats 4000000 in
set_option maxRecDepth 100000 in
theorem ct_verify (l : Launch) (dC : Nat → ClassId) (dI : Nat → Nat → Nat) (sz : Nat) (x : Nat) (k : Int32) (h : Int32) (r : Int32) (xt : Nat) (xo : Nat) (xh : Nat) (xs : Nat) (xm : Nat) (xq : Nat) (xtw : Nat) (xf : Nat) : Met l yX7_verify ww_X7_verify ({ frames := 1, cells := 0, slots := 0, locals := 21 }) (va_Pc [.ref x, .int k] (fun U => U.heap.size = sz ∧ va_P (dC, dI) classes [(x, .inr (7, [.int h, .int r, .ref xt, .ref xo, .ref xh, .ref xs, .ref xm, .ref xq])), (xt, .inr (0, [.ref xtw, .int 0])), (xm, .inr (3, [.ref xf, .int r, .ref xs, .int 0, .int 0, .int 0, .int 0]))] U.heap ∧ va_K (dC, dI) classes [] U ∧ va_D (fun _ => True) [(x, .inr (7, [.int h, .int r, .ref xt, .ref xo, .ref xh, .ref xs, .ref xm, .ref xq])), (xt, .inr (0, [.ref xtw, .int 0])), (xm, .inr (3, [.ref xf, .int r, .ref xs, .int 0, .int 0, .int 0, .int 0]))])) (va_Qi (fun (r : Int32) (_ : Unit) => r = fk_sign k) (fun (_ : Unit) (_ : State) => True) (va_A [(x, .inr (7, [.int h, .int r, .ref xt, .ref xo, .ref xh, .ref xs, .ref xm, .ref xq])), (xt, .inr (0, [.ref xtw, .int 0])), (xm, .inr (3, [.ref xf, .int r, .ref xs, .int 0, .int 0, .int 0, .int 0]))] sz)) 0 0 (va_A [(x, .inr (7, [.int h, .int r, .ref xt, .ref xo, .ref xh, .ref xs, .ref xm, .ref xq])), (xt, .inr (0, [.ref xtw, .int 0])), (xm, .inr (3, [.ref xf, .int r, .ref xs, .int 0, .int 0, .int 0, .int 0]))] sz) := by
  refine Met.ofW (cc := cX7_verify) (maxL := 2) (ret := (some .int)) (by decide) rfl ?_
  intro p e s m args below meth c s₁ B hml hv
  obtain ⟨rfl, hsz, hP, hK, hD0⟩ := hv
  have hx := B.exec
  have hb := B.bytes
  have hr := B.returns
  have hts := atoms_spec (ws := ww_X7_verify) B.pre
  have hown : s.vm.findClass RX7 = some m.cls := findClass_of_methodNamed B.named
  have hlocks := B.notSynchronized
  subst hsz
  have hD := hD0.self (sz := s.heap.size)
  generalize hAe : va_A [(x, .inr (7, [.int h, .int r, .ref xt, .ref xo, .ref xh, .ref xs, .ref xm, .ref xq])), (xt, .inr (0, [.ref xtw, .int 0])), (xm, .inr (3, [.ref xf, .int r, .ref xs, .int 0, .int 0, .int 0, .int 0]))] s.heap.size = A at hD ⊢
  have hA : ∀ q : Nat, s.heap.size ≤ q → A q := fun q h => by rw [← hAe]; exact Or.inr h
  have hS : va_S A s.heap s.heap [] := va_S.rf
  have hP : va_P (dC, dI) classes [(x, .inr (7, [.int h, .int r, .ref xt, .ref xo, .ref xh, .ref xs, .ref xm, .ref xq])), (xt, .inr (0, [.ref xtw, .int 0])), (xm, .inr (3, [.ref xf, .int r, .ref xs, .int 0, .int 0, .int 0, .int 0]))] s.heap := hP
  have hl := lv_entry ([.ref x, .int k]) (n := 2) (Nat.le_of_ble_eq_true rfl)
  rw [lg_entry_eq]
  generalize (lg_sl ([.ref x, .int k]) ++ List.replicate (2 - (lg_sl ([.ref x, .int k])).length) Slot.unset).toArray = ls at hl ⊢
  have hl : lv_has ls 2 [(0, .ref x), (1, .int k)] := hl
  generalize hHe : s.heap = H at hP ⊢
  have hS : va_S A s.heap H [] := by rw [← hHe]; exact va_S.rf
  refine lv_aload_n hx hb dX7_verify_0 rfl (lv_at hl 0 rfl) ?_
  refine lv_iload_n hx hb dX7_verify_1 rfl (lv_at hl 1 rfl) ?_
  have hPc := hP.sub (ws' := [(x, .inr (7, [.int h, .int r, .ref xt, .ref xo, .ref xh, .ref xs, .ref xm, .ref xq])), (xt, .inr (0, [.ref xtw, .int 0]))]) [0, 1] rfl
  have hDc := hD.sub (ws' := [(x, .inr (7, [.int h, .int r, .ref xt, .ref xo, .ref xh, .ref xs, .ref xm, .ref xq])), (xt, .inr (0, [.ref xtw, .int 0]))]) [0, 1] (by decide) rfl
  have hKc := hK.sub (tys' := []) [] rfl
  have hFc := va_free (wc := [(x, .inr (7, [.int h, .int r, .ref xt, .ref xo, .ref xh, .ref xs, .ref xm, .ref xq])), (xt, .inr (0, [.ref xtw, .int 0]))]) hD hS hA [0, 1] rfl
  refine va_calli (va_runV (As := [.int k]) (rest := []) ⟨hx, hb, hml, hown, hts⟩ (ct_wrong l dC dI H.size x k h r xt xo xh xs xm xq xtw) (cwV 1 hts gX7_verify_X7_isWrongCount_80 rfl rfl rfl (by decide +kernel) ⟨(Nat.le_of_ble_eq_true rfl), (Nat.le_of_ble_eq_true rfl)⟩) ⟨fun a U g mk q => by obtain ⟨q0, q1, qP, qK, qD⟩ := q; exact ⟨q0, q1, qP, va_K.moved (u := U) (U := U.calling g mk a) (Vm.Alike.refl U.vm) qK, qD⟩, va_recv hKc hPc (ci := 7) (q0 := 0) rfl rfl, fun U hU hW => ⟨rfl, by rw [hU], by rw [hU]; exact hPc, va_K.moved hW.alike hKc, hDc.weaken (fun _ _ _ _ => trivial)⟩⟩ rfl rfl hl.1 rfl (lv_room (Nat.le_of_ble_eq_true rfl)) dX7_verify_2 ⟨(Nat.le_of_ble_eq_true rfl), (Nat.le_of_ble_eq_true rfl)⟩) hS (fun q _ h => hFc q h) hFc (fun r106 u t H1 locs ht hvm hw hB hz1 hk1 hS => ?_)
  obtain ⟨hP1, hK1, hD1⟩ := hB
  rw [ht] at hP1
  have hK1 := va_K.moved hvm.symm hK1
  obtain ⟨hP, hD⟩ := va_join (wr := [(xm, .inr (3, [.ref xf, .int r, .ref xs, .int 0, .int 0, .int 0, .int 0]))]) (w1 := [(x, .inr (7, [.int h, .int r, .ref xt, .ref xo, .ref xh, .ref xs, .ref xm, .ref xq])), (xt, .inr (0, [.ref xtw, .int 0]))]) hP hD [0, 1] [2] rfl rfl (by decide) (by decide) hk1 hFc hP1 hD1
  have hK := hK.sub (tys' := []) [] rfl
  have hK := hK.app hK1
  generalize H1 = H at hP hS ⊢
  have hP : va_P (dC, dI) classes [(xm, .inr (3, [.ref xf, .int r, .ref xs, .int 0, .int 0, .int 0, .int 0])), (x, .inr (7, [.int h, .int r, .ref xt, .ref xo, .ref xh, .ref xs, .ref xm, .ref xq])), (xt, .inr (0, [.ref xtw, .int 0]))] H := hP
  have hD : va_D A [(xm, .inr (3, [.ref xf, .int r, .ref xs, .int 0, .int 0, .int 0, .int 0])), (x, .inr (7, [.int h, .int r, .ref xt, .ref xo, .ref xh, .ref xs, .ref xm, .ref xq])), (xt, .inr (0, [.ref xtw, .int 0]))] := hD
  have hK : va_K (dC, dI) classes [] s := hK
  refine W.widen (k := 0) (n := 0) (Nat.le_of_ble_eq_true rfl) (Nat.le_of_ble_eq_true rfl) ?_
  try dsimp only at hw
  subst hw
  refine lv_if_eq (tgt := 11) hx hb dX7_verify_5 (by decide) (fun c107 => ?_) (fun c107 => ?_)
  · refine lv_aload_n hx hb dX7_verify_11 rfl (lv_at hl 0 rfl) ?_
    have hPc := hP.sub (ws' := [(x, .inr (7, [.int h, .int r, .ref xt, .ref xo, .ref xh, .ref xs, .ref xm, .ref xq])), (xm, .inr (3, [.ref xf, .int r, .ref xs, .int 0, .int 0, .int 0, .int 0]))]) [1, 0] rfl
    have hDc := hD.sub (ws' := [(x, .inr (7, [.int h, .int r, .ref xt, .ref xo, .ref xh, .ref xs, .ref xm, .ref xq])), (xm, .inr (3, [.ref xf, .int r, .ref xs, .int 0, .int 0, .int 0, .int 0]))]) [1, 0] (by decide) rfl
    have hKc := hK.sub (tys' := []) [] rfl
    have hFc := va_free (wc := [(x, .inr (7, [.int h, .int r, .ref xt, .ref xo, .ref xh, .ref xs, .ref xm, .ref xq])), (xm, .inr (3, [.ref xf, .int r, .ref xs, .int 0, .int 0, .int 0, .int 0]))]) hD hS hA [1, 0] rfl
    refine va_calli (va_runV (As := []) (rest := []) ⟨hx, hb, hml, hown, hts⟩ (ct_never l dC dI H.size x h r xt xo xh xs xm xq xf) (cwV 0 hts gX7_verify_X7_wasNeverKeyed_122 rfl rfl rfl (by decide +kernel) ⟨(Nat.le_of_ble_eq_true rfl), (Nat.le_of_ble_eq_true rfl)⟩) ⟨fun a U g mk q => by obtain ⟨q0, q1, qP, qK, qD⟩ := q; exact ⟨q0, q1, qP, va_K.moved (u := U) (U := U.calling g mk a) (Vm.Alike.refl U.vm) qK, qD⟩, va_recv hKc hPc (ci := 7) (q0 := 0) rfl rfl, fun U hU hW => ⟨rfl, by rw [hU], by rw [hU]; exact hPc, va_K.moved hW.alike hKc, hDc.weaken (fun _ _ _ _ => trivial)⟩⟩ rfl rfl hl.1 rfl (lv_room (Nat.le_of_ble_eq_true rfl)) dX7_verify_12 ⟨(Nat.le_of_ble_eq_true rfl), (Nat.le_of_ble_eq_true rfl)⟩) hS (fun q _ h => hFc q h) hFc (fun r108 u t H1 locs ht hvm hw hB hz1 hk1 hS => ?_)
    obtain ⟨hP1, hK1, hD1⟩ := hB
    rw [ht] at hP1
    have hK1 := va_K.moved hvm.symm hK1
    obtain ⟨hP, hD⟩ := va_join (wr := [(xt, .inr (0, [.ref xtw, .int 0]))]) (w1 := [(x, .inr (7, [.int h, .int r, .ref xt, .ref xo, .ref xh, .ref xs, .ref xm, .ref xq])), (xm, .inr (3, [.ref xf, .int r, .ref xs, .int 0, .int 0, .int 0, .int 0]))]) hP hD [1, 0] [2] rfl rfl (by decide) (by decide) hk1 hFc hP1 hD1
    have hK := hK.sub (tys' := []) [] rfl
    have hK := hK.app hK1
    generalize H1 = H at hP hS ⊢
    have hP : va_P (dC, dI) classes [(xt, .inr (0, [.ref xtw, .int 0])), (x, .inr (7, [.int h, .int r, .ref xt, .ref xo, .ref xh, .ref xs, .ref xm, .ref xq])), (xm, .inr (3, [.ref xf, .int r, .ref xs, .int 0, .int 0, .int 0, .int 0]))] H := hP
    have hD : va_D A [(xt, .inr (0, [.ref xtw, .int 0])), (x, .inr (7, [.int h, .int r, .ref xt, .ref xo, .ref xh, .ref xs, .ref xm, .ref xq])), (xm, .inr (3, [.ref xf, .int r, .ref xs, .int 0, .int 0, .int 0, .int 0]))] := hD
    have hK : va_K (dC, dI) classes [] s := hK
    refine W.widen (k := 0) (n := 0) (Nat.le_of_ble_eq_true rfl) (Nat.le_of_ble_eq_true rfl) ?_
    try dsimp only at hw
    obtain rfl : r108 = 1 := hw
    refine lv_if_eq (tgt := 21) hx hb dX7_verify_15 (by decide) (fun c109 => absurd c109 (by decide)) (fun c109 => ?_)
    refine lv_bipush (v := (-3)) hx hb dX7_verify_18 (by decide) ?_
    refine W.widen (k := 0) (n := 0) (Nat.le_of_ble_eq_true rfl) (Nat.le_of_ble_eq_true rfl) ?_
    exact W.iret (v := (-3)) hx hb hr (fun t ht hW => ⟨⟨(-3), (), rfl, (by unfold fk_sign; rw [if_pos c107]), trivial⟩, hS.F ht⟩) hS.2.2 dX7_verify_20
  · refine lv_bipush (v := (-2)) hx hb dX7_verify_8 (by decide) ?_
    refine W.widen (k := 0) (n := 0) (Nat.le_of_ble_eq_true rfl) (Nat.le_of_ble_eq_true rfl) ?_
    exact W.iret (v := (-2)) hx hb hr (fun t ht hW => ⟨⟨(-2), (), rfl, (by unfold fk_sign; rw [if_neg c107]), trivial⟩, hS.F ht⟩) hS.2.2 dX7_verify_10
end
section
def ww_X7_fuse : List Cond := .code yX7_fuse cX7_fuse 2 (some .boolean) :: ([.fieldLink RX7 43 "LeafSigner" "store" "LLeafSigner$Disk;", .fieldLink RX7 101 "LeafSigner$Disk" "fuseLeft" "I"] ++ (wsX70 ++ wsX10))
theorem iX7_fuse_X7 : ∀ w ∈ wsX70, w ∈ ww_X7_fuse := fun w h => List.mem_cons_of_mem _ (List.mem_append_right _ (List.mem_append_left _ h))
theorem iX7_fuse_X1 : ∀ w ∈ wsX10, w ∈ ww_X7_fuse := fun w h => List.mem_cons_of_mem _ (List.mem_append_right _ (List.mem_append_right _ h))
set_option maxHeartbeats 4000000 in
set_option maxRecDepth 100000 in
theorem ct_fuse (l : Launch) (dC : Nat → ClassId) (dI : Nat → Nat → Nat) (sz : Nat) (x : Nat) (k : Int32) (h : Int32) (r : Int32) (xt : Nat) (xo : Nat) (xh : Nat) (xs : Nat) (xm : Nat) (xq : Nat) (xb : Nat) : Met l yX7_fuse ww_X7_fuse ({ frames := 0, cells := 0, slots := 0, locals := 0 }) (va_Pc [.ref x, .int k] (fun U => U.heap.size = sz ∧ va_P (dC, dI) classes [(x, .inr (7, [.int h, .int r, .ref xt, .ref xo, .ref xh, .ref xs, .ref xm, .ref xq])), (xs, .inr (1, [.ref xb, .int 0, .int (-1)]))] U.heap ∧ va_K (dC, dI) classes [] U ∧ va_D (fun _ => True) [(x, .inr (7, [.int h, .int r, .ref xt, .ref xo, .ref xh, .ref xs, .ref xm, .ref xq])), (xs, .inr (1, [.ref xb, .int 0, .int (-1)]))])) (va_Qi (fun (r : Int32) (_ : Unit) => r = fk_fuse k) (fun (_ : Unit) (_ : State) => True) (va_A [(x, .inr (7, [.int h, .int r, .ref xt, .ref xo, .ref xh, .ref xs, .ref xm, .ref xq])), (xs, .inr (1, [.ref xb, .int 0, .int (-1)]))] sz)) 0 0 (va_A [(x, .inr (7, [.int h, .int r, .ref xt, .ref xo, .ref xh, .ref xs, .ref xm, .ref xq])), (xs, .inr (1, [.ref xb, .int 0, .int (-1)]))] sz) := by
  refine Met.ofW (cc := cX7_fuse) (maxL := 2) (ret := (some .boolean)) (by decide) rfl ?_
  intro p e s m args below meth c s₁ B hml hv
  obtain ⟨rfl, hsz, hP, hK, hD0⟩ := hv
  have hx := B.exec
  have hb := B.bytes
  have hr := B.returns
  have hts := atoms_spec (ws := ww_X7_fuse) B.pre
  have hown : s.vm.findClass RX7 = some m.cls := findClass_of_methodNamed B.named
  have hlocks := B.notSynchronized
  subst hsz
  have hD := hD0.self (sz := s.heap.size)
  generalize hAe : va_A [(x, .inr (7, [.int h, .int r, .ref xt, .ref xo, .ref xh, .ref xs, .ref xm, .ref xq])), (xs, .inr (1, [.ref xb, .int 0, .int (-1)]))] s.heap.size = A at hD ⊢
  have hA : ∀ q : Nat, s.heap.size ≤ q → A q := fun q h => by rw [← hAe]; exact Or.inr h
  have hS : va_S A s.heap s.heap [] := va_S.rf
  have hP : va_P (dC, dI) classes [(x, .inr (7, [.int h, .int r, .ref xt, .ref xo, .ref xh, .ref xs, .ref xm, .ref xq])), (xs, .inr (1, [.ref xb, .int 0, .int (-1)]))] s.heap := hP
  have hl := lv_entry ([.ref x, .int k]) (n := 2) (Nat.le_of_ble_eq_true rfl)
  rw [lg_entry_eq]
  generalize (lg_sl ([.ref x, .int k]) ++ List.replicate (2 - (lg_sl ([.ref x, .int k])).length) Slot.unset).toArray = ls at hl ⊢
  have hl : lv_has ls 2 [(0, .ref x), (1, .int k)] := hl
  generalize hHe : s.heap = H at hP ⊢
  have hS : va_S A s.heap H [] := by rw [← hHe]; exact va_S.rf
  refine lv_iload_n hx hb dX7_fuse_0 rfl (lv_at hl 1 rfl) ?_
  refine lv_iconst (v := (-1)) hx hb dX7_fuse_1 (by decide) ?_
  refine lv_icmp_lt (tgt := 12) hx hb dX7_fuse_2 (by decide) (fun c110 => ?_) (fun c110 => ?_)
  · refine lv_iconst (v := 0) hx hb dX7_fuse_12 (by decide) ?_
    refine W.widen (k := 0) (n := 0) (Nat.le_of_ble_eq_true rfl) (Nat.le_of_ble_eq_true rfl) ?_
    exact W.zret (v := 0) (ty := .boolean) hx hb hr (by decide) (fun t ht hW => ⟨⟨0, (), rfl, (by unfold fk_fuse; rw [if_pos c110]), trivial⟩, hS.F ht⟩) hS.2.2 dX7_fuse_13
  · refine lv_iload_n hx hb dX7_fuse_5 rfl (lv_at hl 1 rfl) ?_
    refine lv_sipush (v := 1000) hx hb dX7_fuse_6 (by decide) ?_
    refine lv_icmp_le (tgt := 14) hx hb dX7_fuse_9 (by decide) (fun c111 => ?_) (fun c111 => ?_)
    · refine lv_aload_n hx hb dX7_fuse_14 rfl (lv_at hl 0 rfl) ?_
      refine va_get (D := (dC, dI)) (ci := 7) (v := .ref xs) (C := RX7) (T := TX7) (N := 8) hx hb hts iX7_fuse_X7 hown hK hP 0 rfl rfl 5 (by decide) (hts (.fieldLink RX7 43 "LeafSigner" "store" "LLeafSigner$Disk;") (List.mem_of_getElem? (i := 1) rfl)) (fun _ h9 => h9) rfl dX7_fuse_15 ?_
      refine lv_iload_n hx hb dX7_fuse_18 rfl (lv_at hl 1 rfl) ?_
      refine va_put (D := (dC, dI)) (ci := 1) (v := .int k) (ty := .int) (C := RX1) (T := TX1) (N := 3) hx hb hts iX7_fuse_X1 tyX1 tyX1_ok nmX1 hown hK hP hD hS 1 rfl rfl 2 (by decide) (hts (.fieldLink RX7 101 "LeafSigner$Disk" "fuseLeft" "I") (List.mem_of_getElem? (i := 2) rfl)) (fun _ h9 => h9) rfl (by decide +kernel) rfl rfl (Nat.le_of_ble_eq_true rfl) dX7_fuse_19 (fun H locs hP hD hS => ?_)
      have hP : va_P (dC, dI) classes [(x, .inr (7, [.int h, .int r, .ref xt, .ref xo, .ref xh, .ref xs, .ref xm, .ref xq])), (xs, .inr (1, [.ref xb, .int 0, .int k]))] H := hP
      have hD : va_D A [(x, .inr (7, [.int h, .int r, .ref xt, .ref xo, .ref xh, .ref xs, .ref xm, .ref xq])), (xs, .inr (1, [.ref xb, .int 0, .int k]))] := hD
      refine lv_iconst (v := 1) hx hb dX7_fuse_22 (by decide) ?_
      refine W.widen (k := 0) (n := 0) (Nat.le_of_ble_eq_true rfl) (Nat.le_of_ble_eq_true rfl) ?_
      exact W.zret (v := 1) (ty := .boolean) hx hb hr (by decide) (fun t ht hW => ⟨⟨1, (), rfl, (by unfold fk_fuse; rw [if_neg c110, if_pos c111]), trivial⟩, hS.F ht⟩) hS.2.2 dX7_fuse_23
    · refine lv_iconst (v := 0) hx hb dX7_fuse_12 (by decide) ?_
      refine W.widen (k := 0) (n := 0) (Nat.le_of_ble_eq_true rfl) (Nat.le_of_ble_eq_true rfl) ?_
      exact W.zret (v := 0) (ty := .boolean) hx hb hr (by decide) (fun t ht hW => ⟨⟨0, (), rfl, (by unfold fk_fuse; rw [if_neg c110, if_neg c111]), trivial⟩, hS.F ht⟩) hS.2.2 dX7_fuse_13
end
section
def ww_X7_hold : List Cond := .code yX7_hold cX7_hold 1 (some .int) :: ([.fieldLink RX7 37 "LeafSigner" "held" "LLeafSigner$ByteRow;", .fieldLink RX7 34 "LeafSigner" "output" "LLeafSigner$ByteRow;", .methodLink RX7 110 yX0_copyOf, .instanceMethod yX0_copyOf, .selects RX0 yX0_copyOf yX0_copyOf, .initialized RX0, .code yX0_copyOf cX0_copyOf 3 none, .fieldLink RX0 9 "LeafSigner$ByteRow" "words" "[I", .methodLink RX0 23 Lib.Math.min.name, .static Lib.Math.min.name, .initialized "java/lang/Math", .code Lib.Math.min.name Lib.Math.min.code 2 (some .int), .methodLink RX0 29 arraycopyName, .native arraycopyName, .static arraycopyName, .initialized "java/lang/System", .fieldLink RX0 15 "LeafSigner$ByteRow" "count" "I", .fieldLink RX7 63 "LeafSigner$ByteRow" "count" "I"] ++ (wsX70 ++ wsX00))
theorem iX7_hold_X7 : ∀ w ∈ wsX70, w ∈ ww_X7_hold := fun w h => List.mem_cons_of_mem _ (List.mem_append_right _ (List.mem_append_left _ h))
theorem iX7_hold_X0 : ∀ w ∈ wsX00, w ∈ ww_X7_hold := fun w h => List.mem_cons_of_mem _ (List.mem_append_right _ (List.mem_append_right _ h))
set_option maxRecDepth 20000 in
theorem gX7_hold_X0_copyOf_110 : GoodIn ww_X7_hold (wsV RX7 110 RX0 yX0_copyOf ww_X0_copyOf) := vx_good _ [3, 4, 5, 6, 7, 8, 9, 10, 11, 12, 13, 14, 15, 16, 17, 27, 28] rfl (by decide +kernel)
set_option maxHeartbeats 4000000 in
set_option maxRecDepth 100000 in
theorem ct_hold (l : Launch) (dC : Nat → ClassId) (dI : Nat → Nat → Nat) (sz : Nat) (x : Nat) (h : Int32) (r : Int32) (xt : Nat) (xo : Nat) (xh : Nat) (xs : Nat) (xm : Nat) (xq : Nat) (xow : Nat) (cO : ClassId) (N : Nat) (xhw : Nat) (cH : ClassId) (hN : N = 553 ∨ N = 561 ∨ N = 569 ∨ N = 577) : Met l yX7_hold ww_X7_hold ({ frames := 2, cells := 0, slots := 0, locals := 82 }) (va_Pc [.ref x] (fun U => U.heap.size = sz ∧ va_P (dC, dI) classes [(x, .inr (7, [.int h, .int r, .ref xt, .ref xo, .ref xh, .ref xs, .ref xm, .ref xq])), (xo, .inr (0, [.ref xow, .int 0])), (xow, .inl (cO, N, .inl (fun _ => 0))), (xh, .inr (0, [.ref xhw, .int 0])), (xhw, .inl (cH, N, .inl (fun _ => 0)))] U.heap ∧ va_K (dC, dI) classes [(cO, .int), (cH, .int)] U ∧ va_D (fun _ => True) [(x, .inr (7, [.int h, .int r, .ref xt, .ref xo, .ref xh, .ref xs, .ref xm, .ref xq])), (xo, .inr (0, [.ref xow, .int 0])), (xow, .inl (cO, N, .inl (fun _ => 0))), (xh, .inr (0, [.ref xhw, .int 0])), (xhw, .inl (cH, N, .inl (fun _ => 0)))])) (va_Qi (fun (r : Int32) (_ : Unit) => r = 0) (fun (_ : Unit) (_ : State) => True) (va_A [(x, .inr (7, [.int h, .int r, .ref xt, .ref xo, .ref xh, .ref xs, .ref xm, .ref xq])), (xo, .inr (0, [.ref xow, .int 0])), (xow, .inl (cO, N, .inl (fun _ => 0))), (xh, .inr (0, [.ref xhw, .int 0])), (xhw, .inl (cH, N, .inl (fun _ => 0)))] sz)) 0 0 (va_A [(x, .inr (7, [.int h, .int r, .ref xt, .ref xo, .ref xh, .ref xs, .ref xm, .ref xq])), (xo, .inr (0, [.ref xow, .int 0])), (xow, .inl (cO, N, .inl (fun _ => 0))), (xh, .inr (0, [.ref xhw, .int 0])), (xhw, .inl (cH, N, .inl (fun _ => 0)))] sz) := by
  refine Met.ofW (cc := cX7_hold) (maxL := 1) (ret := (some .int)) (by decide) rfl ?_
  intro p e s m args below meth c s₁ B hml hv
  obtain ⟨rfl, hsz, hP, hK, hD0⟩ := hv
  have hx := B.exec
  have hb := B.bytes
  have hr := B.returns
  have hts := atoms_spec (ws := ww_X7_hold) B.pre
  have hown : s.vm.findClass RX7 = some m.cls := findClass_of_methodNamed B.named
  have hlocks := B.notSynchronized
  subst hsz
  have hD := hD0.self (sz := s.heap.size)
  generalize hAe : va_A [(x, .inr (7, [.int h, .int r, .ref xt, .ref xo, .ref xh, .ref xs, .ref xm, .ref xq])), (xo, .inr (0, [.ref xow, .int 0])), (xow, .inl (cO, N, .inl (fun _ => 0))), (xh, .inr (0, [.ref xhw, .int 0])), (xhw, .inl (cH, N, .inl (fun _ => 0)))] s.heap.size = A at hD ⊢
  have hA : ∀ q : Nat, s.heap.size ≤ q → A q := fun q h => by rw [← hAe]; exact Or.inr h
  have hS : va_S A s.heap s.heap [] := va_S.rf
  have hP : va_P (dC, dI) classes [(x, .inr (7, [.int h, .int r, .ref xt, .ref xo, .ref xh, .ref xs, .ref xm, .ref xq])), (xo, .inr (0, [.ref xow, .int 0])), (xow, .inl (cO, N, .inl (fun _ => 0))), (xh, .inr (0, [.ref xhw, .int 0])), (xhw, .inl (cH, N, .inl (fun _ => 0)))] s.heap := hP
  have hl := lv_entry ([.ref x]) (n := 1) (Nat.le_of_ble_eq_true rfl)
  rw [lg_entry_eq]
  generalize (lg_sl ([.ref x]) ++ List.replicate (1 - (lg_sl ([.ref x])).length) Slot.unset).toArray = ls at hl ⊢
  have hl : lv_has ls 1 [(0, .ref x)] := hl
  generalize hHe : s.heap = H at hP ⊢
  have hS : va_S A s.heap H [] := by rw [← hHe]; exact va_S.rf
  refine lv_aload_n hx hb dX7_hold_0 rfl (lv_at hl 0 rfl) ?_
  refine va_get (D := (dC, dI)) (ci := 7) (v := .ref xh) (C := RX7) (T := TX7) (N := 8) hx hb hts iX7_hold_X7 hown hK hP 0 rfl rfl 4 (by decide) (hts (.fieldLink RX7 37 "LeafSigner" "held" "LLeafSigner$ByteRow;") (List.mem_of_getElem? (i := 1) rfl)) (fun _ h9 => h9) rfl dX7_hold_1 ?_
  refine lv_aload_n hx hb dX7_hold_4 rfl (lv_at hl 0 rfl) ?_
  refine va_get (D := (dC, dI)) (ci := 7) (v := .ref xo) (C := RX7) (T := TX7) (N := 8) hx hb hts iX7_hold_X7 hown hK hP 0 rfl rfl 3 (by decide) (hts (.fieldLink RX7 34 "LeafSigner" "output" "LLeafSigner$ByteRow;") (List.mem_of_getElem? (i := 2) rfl)) (fun _ h9 => h9) rfl dX7_hold_5 ?_
  have hPc := hP.sub (ws' := [(xh, .inr (0, [.ref xhw, .int 0])), (xhw, .inl (cH, N, .inl (fun _ => 0))), (xo, .inr (0, [.ref xow, .int 0])), (xow, .inl (cO, N, .inl (fun _ => 0)))]) [3, 4, 1, 2] rfl
  have hDc := hD.sub (ws' := [(xh, .inr (0, [.ref xhw, .int 0])), (xhw, .inl (cH, N, .inl (fun _ => 0))), (xo, .inr (0, [.ref xow, .int 0])), (xow, .inl (cO, N, .inl (fun _ => 0)))]) [3, 4, 1, 2] (by decide) rfl
  have hKc := hK.sub (tys' := [(cH, .int), (cO, .int)]) [1, 0] rfl
  have hFc := va_free (wc := [(xh, .inr (0, [.ref xhw, .int 0])), (xhw, .inl (cH, N, .inl (fun _ => 0))), (xo, .inr (0, [.ref xow, .int 0])), (xow, .inl (cO, N, .inl (fun _ => 0)))]) hD hS hA [3, 4, 1, 2] rfl
  refine va_callv (va_runV (As := [.ref xo]) (rest := []) ⟨hx, hb, hml, hown, hts⟩ (ct_copyOf l dC dI H.size xh xo xhw cH N (fun _ => 0) xow cO (fun _ => 0) hN) (cwV 1 hts gX7_hold_X0_copyOf_110 rfl rfl rfl (by decide +kernel) ⟨(Nat.le_of_ble_eq_true rfl), (Nat.le_of_ble_eq_true rfl)⟩) ⟨fun a U g mk q => by obtain ⟨q0, q1, qP, qK, qD⟩ := q; exact ⟨q0, q1, qP, va_K.moved (u := U) (U := U.calling g mk a) (Vm.Alike.refl U.vm) qK, qD⟩, va_recv hKc hPc (ci := 0) (q0 := 0) rfl rfl, fun U hU hW => ⟨rfl, by rw [hU], by rw [hU]; exact hPc, va_K.moved hW.alike hKc, hDc.weaken (fun _ _ _ _ => trivial)⟩⟩ rfl rfl hl.1 rfl (lv_room (Nat.le_of_ble_eq_true rfl)) dX7_hold_8 ⟨(Nat.le_of_ble_eq_true rfl), (Nat.le_of_ble_eq_true rfl)⟩) hS (fun q _ h => hFc q h) hFc (fun u t H1 locs ht hvm hw hB hz1 hk1 hS => ?_)
  obtain ⟨hP1, hK1, hD1⟩ := hB
  rw [ht] at hP1
  have hK1 := va_K.moved hvm.symm hK1
  obtain ⟨hP, hD⟩ := va_join (wr := [(x, .inr (7, [.int h, .int r, .ref xt, .ref xo, .ref xh, .ref xs, .ref xm, .ref xq]))]) (w1 := [(xh, .inr (0, [.ref xhw, .int 0]))]) hP hD [3, 4, 1, 2] [0] rfl rfl (by decide) (by decide) hk1 hFc hP1 hD1
  have hK := hK.sub (tys' := []) [] rfl
  have hK := hK.app hK1
  generalize H1 = H at hP hS ⊢
  have hP : va_P (dC, dI) classes [(x, .inr (7, [.int h, .int r, .ref xt, .ref xo, .ref xh, .ref xs, .ref xm, .ref xq])), (xh, .inr (0, [.ref xhw, .int 0]))] H := hP
  have hD : va_D A [(x, .inr (7, [.int h, .int r, .ref xt, .ref xo, .ref xh, .ref xs, .ref xm, .ref xq])), (xh, .inr (0, [.ref xhw, .int 0]))] := hD
  have hK : va_K (dC, dI) classes [] s := hK
  refine W.widen (k := 0) (n := 0) (Nat.le_of_ble_eq_true rfl) (Nat.le_of_ble_eq_true rfl) ?_
  refine lv_aload_n hx hb dX7_hold_11 rfl (lv_at hl 0 rfl) ?_
  refine va_get (D := (dC, dI)) (ci := 7) (v := .ref xh) (C := RX7) (T := TX7) (N := 8) hx hb hts iX7_hold_X7 hown hK hP 0 rfl rfl 4 (by decide) (hts (.fieldLink RX7 37 "LeafSigner" "held" "LLeafSigner$ByteRow;") (List.mem_of_getElem? (i := 1) rfl)) (fun _ h9 => h9) rfl dX7_hold_12 ?_
  refine va_get (D := (dC, dI)) (ci := 0) (v := .int 0) (C := RX0) (T := TX0) (N := 2) hx hb hts iX7_hold_X0 hown hK hP 1 rfl rfl 1 (by decide) (hts (.fieldLink RX7 63 "LeafSigner$ByteRow" "count" "I") (List.mem_of_getElem? (i := 18) rfl)) (fun _ h9 => h9) rfl dX7_hold_15 ?_
  refine W.widen (k := 0) (n := 0) (Nat.le_of_ble_eq_true rfl) (Nat.le_of_ble_eq_true rfl) ?_
  exact W.iret (v := 0) hx hb hr (fun t ht hW => ⟨⟨0, (), rfl, rfl, trivial⟩, hS.F ht⟩) hS.2.2 dX7_hold_18
end
section
def ww_X7_alter : List Cond := .code yX7_alter cX7_alter 3 (some .int) :: ([.fieldLink RX7 37 "LeafSigner" "held" "LLeafSigner$ByteRow;", .methodLink RX7 114 yX0_flip, .instanceMethod yX0_flip, .selects RX0 yX0_flip yX0_flip, .initialized RX0, .code yX0_flip cX0_flip 3 none, .fieldLink RX0 15 "LeafSigner$ByteRow" "count" "I", .methodLink RX7 118 yX0_byteAt, .instanceMethod yX0_byteAt, .selects RX0 yX0_byteAt yX0_byteAt, .code yX0_byteAt cX0_byteAt 2 (some .int)] ++ (wsX70 ++ wsX00))
theorem iX7_alter_X7 : ∀ w ∈ wsX70, w ∈ ww_X7_alter := fun w h => List.mem_cons_of_mem _ (List.mem_append_right _ (List.mem_append_left _ h))
theorem iX7_alter_X0 : ∀ w ∈ wsX00, w ∈ ww_X7_alter := fun w h => List.mem_cons_of_mem _ (List.mem_append_right _ (List.mem_append_right _ h))
set_option maxRecDepth 20000 in
theorem gX7_alter_X0_flip_114 : GoodIn ww_X7_alter (wsV RX7 114 RX0 yX0_flip ww_X0_flip) := vx_good _ [2, 3, 4, 5, 6, 7, 20, 21] rfl (by decide +kernel)
set_option maxRecDepth 20000 in
theorem gX7_alter_X0_byteAt_118 : GoodIn ww_X7_alter (wsV RX7 118 RX0 yX0_byteAt ww_X0_byteAt) := vx_good _ [8, 9, 10, 5, 11, 7, 20, 21] rfl (by decide +kernel)
set_option maxHeartbeats 4000000 in
set_option maxRecDepth 100000 in
theorem ct_alter (l : Launch) (dC : Nat → ClassId) (dI : Nat → Nat → Nat) (sz : Nat) (x : Nat) (k : Int32) (z : Int32) (h : Int32) (r : Int32) (xt : Nat) (xo : Nat) (xh : Nat) (xs : Nat) (xm : Nat) (xq : Nat) (xhw : Nat) : Met l yX7_alter ww_X7_alter ({ frames := 1, cells := 0, slots := 0, locals := 22 }) (va_Pc [.ref x, .int k, .int z] (fun U => U.heap.size = sz ∧ va_P (dC, dI) classes [(x, .inr (7, [.int h, .int r, .ref xt, .ref xo, .ref xh, .ref xs, .ref xm, .ref xq])), (xh, .inr (0, [.ref xhw, .int 0]))] U.heap ∧ va_K (dC, dI) classes [] U ∧ va_D (fun _ => True) [(x, .inr (7, [.int h, .int r, .ref xt, .ref xo, .ref xh, .ref xs, .ref xm, .ref xq])), (xh, .inr (0, [.ref xhw, .int 0]))])) (va_Qi (fun (r : Int32) (_ : Unit) => r = -1) (fun (_ : Unit) (_ : State) => True) (va_A [(x, .inr (7, [.int h, .int r, .ref xt, .ref xo, .ref xh, .ref xs, .ref xm, .ref xq])), (xh, .inr (0, [.ref xhw, .int 0]))] sz)) 0 0 (va_A [(x, .inr (7, [.int h, .int r, .ref xt, .ref xo, .ref xh, .ref xs, .ref xm, .ref xq])), (xh, .inr (0, [.ref xhw, .int 0]))] sz) := by
  refine Met.ofW (cc := cX7_alter) (maxL := 3) (ret := (some .int)) (by decide) rfl ?_
  intro p e s m args below meth c s₁ B hml hv
  obtain ⟨rfl, hsz, hP, hK, hD0⟩ := hv
  have hx := B.exec
  have hb := B.bytes
  have hr := B.returns
  have hts := atoms_spec (ws := ww_X7_alter) B.pre
  have hown : s.vm.findClass RX7 = some m.cls := findClass_of_methodNamed B.named
  have hlocks := B.notSynchronized
  subst hsz
  have hD := hD0.self (sz := s.heap.size)
  generalize hAe : va_A [(x, .inr (7, [.int h, .int r, .ref xt, .ref xo, .ref xh, .ref xs, .ref xm, .ref xq])), (xh, .inr (0, [.ref xhw, .int 0]))] s.heap.size = A at hD ⊢
  have hA : ∀ q : Nat, s.heap.size ≤ q → A q := fun q h => by rw [← hAe]; exact Or.inr h
  have hS : va_S A s.heap s.heap [] := va_S.rf
  have hP : va_P (dC, dI) classes [(x, .inr (7, [.int h, .int r, .ref xt, .ref xo, .ref xh, .ref xs, .ref xm, .ref xq])), (xh, .inr (0, [.ref xhw, .int 0]))] s.heap := hP
  have hl := lv_entry ([.ref x, .int k, .int z]) (n := 3) (Nat.le_of_ble_eq_true rfl)
  rw [lg_entry_eq]
  generalize (lg_sl ([.ref x, .int k, .int z]) ++ List.replicate (3 - (lg_sl ([.ref x, .int k, .int z])).length) Slot.unset).toArray = ls at hl ⊢
  have hl : lv_has ls 3 [(0, .ref x), (1, .int k), (2, .int z)] := hl
  generalize hHe : s.heap = H at hP ⊢
  have hS : va_S A s.heap H [] := by rw [← hHe]; exact va_S.rf
  refine lv_aload_n hx hb dX7_alter_0 rfl (lv_at hl 0 rfl) ?_
  refine va_get (D := (dC, dI)) (ci := 7) (v := .ref xh) (C := RX7) (T := TX7) (N := 8) hx hb hts iX7_alter_X7 hown hK hP 0 rfl rfl 4 (by decide) (hts (.fieldLink RX7 37 "LeafSigner" "held" "LLeafSigner$ByteRow;") (List.mem_of_getElem? (i := 1) rfl)) (fun _ h9 => h9) rfl dX7_alter_1 ?_
  refine lv_iload_n hx hb dX7_alter_4 rfl (lv_at hl 1 rfl) ?_
  refine lv_iload_n hx hb dX7_alter_5 rfl (lv_at hl 2 rfl) ?_
  have hPc := hP.sub (ws' := [(xh, .inr (0, [.ref xhw, .int 0]))]) [1] rfl
  have hDc := hD.sub (ws' := [(xh, .inr (0, [.ref xhw, .int 0]))]) [1] (by decide) rfl
  have hKc := hK.sub (tys' := []) [] rfl
  have hFc := va_free (wc := [(xh, .inr (0, [.ref xhw, .int 0]))]) hD hS hA [1] rfl
  refine va_callv (va_runV (As := [.int k, .int z]) (rest := []) ⟨hx, hb, hml, hown, hts⟩ (ct_flip0 l dC dI H.size xh k z xhw) (cwV 2 hts gX7_alter_X0_flip_114 rfl rfl rfl (by decide +kernel) ⟨(Nat.le_of_ble_eq_true rfl), (Nat.le_of_ble_eq_true rfl)⟩) ⟨fun a U g mk q => by obtain ⟨q0, q1, qP, qK, qD⟩ := q; exact ⟨q0, q1, qP, va_K.moved (u := U) (U := U.calling g mk a) (Vm.Alike.refl U.vm) qK, qD⟩, va_recv hKc hPc (ci := 0) (q0 := 0) rfl rfl, fun U hU hW => ⟨rfl, by rw [hU], by rw [hU]; exact hPc, va_K.moved hW.alike hKc, hDc.weaken (fun _ _ _ _ => trivial)⟩⟩ rfl rfl hl.1 rfl (lv_room (Nat.le_of_ble_eq_true rfl)) dX7_alter_6 ⟨(Nat.le_of_ble_eq_true rfl), (Nat.le_of_ble_eq_true rfl)⟩) hS (fun q _ h => hFc q h) hFc (fun u t H1 locs ht hvm hw hB hz1 hk1 hS => ?_)
  obtain ⟨hP1, hK1, hD1⟩ := hB
  rw [ht] at hP1
  have hK1 := va_K.moved hvm.symm hK1
  obtain ⟨hP, hD⟩ := va_join (wr := [(x, .inr (7, [.int h, .int r, .ref xt, .ref xo, .ref xh, .ref xs, .ref xm, .ref xq]))]) (w1 := [(xh, .inr (0, [.ref xhw, .int 0]))]) hP hD [1] [0] rfl rfl (by decide) (by decide) hk1 hFc hP1 hD1
  have hK := hK.sub (tys' := []) [] rfl
  have hK := hK.app hK1
  generalize H1 = H at hP hS ⊢
  have hP : va_P (dC, dI) classes [(x, .inr (7, [.int h, .int r, .ref xt, .ref xo, .ref xh, .ref xs, .ref xm, .ref xq])), (xh, .inr (0, [.ref xhw, .int 0]))] H := hP
  have hD : va_D A [(x, .inr (7, [.int h, .int r, .ref xt, .ref xo, .ref xh, .ref xs, .ref xm, .ref xq])), (xh, .inr (0, [.ref xhw, .int 0]))] := hD
  have hK : va_K (dC, dI) classes [] s := hK
  refine W.widen (k := 0) (n := 0) (Nat.le_of_ble_eq_true rfl) (Nat.le_of_ble_eq_true rfl) ?_
  refine lv_aload_n hx hb dX7_alter_9 rfl (lv_at hl 0 rfl) ?_
  refine va_get (D := (dC, dI)) (ci := 7) (v := .ref xh) (C := RX7) (T := TX7) (N := 8) hx hb hts iX7_alter_X7 hown hK hP 0 rfl rfl 4 (by decide) (hts (.fieldLink RX7 37 "LeafSigner" "held" "LLeafSigner$ByteRow;") (List.mem_of_getElem? (i := 1) rfl)) (fun _ h9 => h9) rfl dX7_alter_10 ?_
  refine lv_iload_n hx hb dX7_alter_13 rfl (lv_at hl 1 rfl) ?_
  have hPc := hP.sub (ws' := [(xh, .inr (0, [.ref xhw, .int 0]))]) [1] rfl
  have hDc := hD.sub (ws' := [(xh, .inr (0, [.ref xhw, .int 0]))]) [1] (by decide) rfl
  have hKc := hK.sub (tys' := []) [] rfl
  have hFc := va_free (wc := [(xh, .inr (0, [.ref xhw, .int 0]))]) hD hS hA [1] rfl
  refine va_calli (va_runV (As := [.int k]) (rest := []) ⟨hx, hb, hml, hown, hts⟩ (ct_byteAt0 l dC dI H.size xh k xhw) (cwV 1 hts gX7_alter_X0_byteAt_118 rfl rfl rfl (by decide +kernel) ⟨(Nat.le_of_ble_eq_true rfl), (Nat.le_of_ble_eq_true rfl)⟩) ⟨fun a U g mk q => by obtain ⟨q0, q1, qP, qK, qD⟩ := q; exact ⟨q0, q1, qP, va_K.moved (u := U) (U := U.calling g mk a) (Vm.Alike.refl U.vm) qK, qD⟩, va_recv hKc hPc (ci := 0) (q0 := 0) rfl rfl, fun U hU hW => ⟨rfl, by rw [hU], by rw [hU]; exact hPc, va_K.moved hW.alike hKc, hDc.weaken (fun _ _ _ _ => trivial)⟩⟩ rfl rfl hl.1 rfl (lv_room (Nat.le_of_ble_eq_true rfl)) dX7_alter_14 ⟨(Nat.le_of_ble_eq_true rfl), (Nat.le_of_ble_eq_true rfl)⟩) hS (fun q _ h => hFc q h) hFc (fun r114 u t H1 locs ht hvm hw hB hz1 hk1 hS => ?_)
  have hP1 : va_P (dC, dI) classes [] H1 := vx_P0
  have hD1 : va_D (va_A [(xh, .inr (0, [.ref xhw, .int 0]))] H.size) [] := vx_D0
  obtain ⟨hP, hD⟩ := va_join (wr := [(x, .inr (7, [.int h, .int r, .ref xt, .ref xo, .ref xh, .ref xs, .ref xm, .ref xq]))]) (w1 := []) hP hD [1] [0] rfl rfl (by decide) (by decide) hk1 hFc hP1 hD1
  have hK := hK.sub (tys' := []) [] rfl
  generalize H1 = H at hP hS ⊢
  have hP : va_P (dC, dI) classes [(x, .inr (7, [.int h, .int r, .ref xt, .ref xo, .ref xh, .ref xs, .ref xm, .ref xq]))] H := hP
  have hD : va_D A [(x, .inr (7, [.int h, .int r, .ref xt, .ref xo, .ref xh, .ref xs, .ref xm, .ref xq]))] := hD
  have hK : va_K (dC, dI) classes [] s := hK
  refine W.widen (k := 0) (n := 0) (Nat.le_of_ble_eq_true rfl) (Nat.le_of_ble_eq_true rfl) ?_
  try dsimp only at hw
  obtain rfl : r114 = (-1) := hw
  refine W.widen (k := 0) (n := 0) (Nat.le_of_ble_eq_true rfl) (Nat.le_of_ble_eq_true rfl) ?_
  exact W.iret (v := (-1)) hx hb hr (fun t ht hW => ⟨⟨(-1), (), rfl, rfl, trivial⟩, hS.F ht⟩) hS.2.2 dX7_alter_17
end
section
def ww_X7_out : List Cond := .code yX7_out cX7_out 2 (some .int) :: ([.fieldLink RX7 34 "LeafSigner" "output" "LLeafSigner$ByteRow;", .methodLink RX7 118 yX0_byteAt, .instanceMethod yX0_byteAt, .selects RX0 yX0_byteAt yX0_byteAt, .initialized RX0, .code yX0_byteAt cX0_byteAt 2 (some .int), .fieldLink RX0 15 "LeafSigner$ByteRow" "count" "I"] ++ (wsX70 ++ wsX00))
theorem iX7_out_X7 : ∀ w ∈ wsX70, w ∈ ww_X7_out := fun w h => List.mem_cons_of_mem _ (List.mem_append_right _ (List.mem_append_left _ h))
theorem iX7_out_X0 : ∀ w ∈ wsX00, w ∈ ww_X7_out := fun w h => List.mem_cons_of_mem _ (List.mem_append_right _ (List.mem_append_right _ h))
set_option maxRecDepth 20000 in
theorem gX7_out_X0_byteAt_118 : GoodIn ww_X7_out (wsV RX7 118 RX0 yX0_byteAt ww_X0_byteAt) := vx_good _ [2, 3, 4, 5, 6, 7, 16, 17] rfl (by decide +kernel)
set_option maxHeartbeats 4000000 in
set_option maxRecDepth 100000 in
theorem ct_out (l : Launch) (dC : Nat → ClassId) (dI : Nat → Nat → Nat) (sz : Nat) (x : Nat) (k : Int32) (h : Int32) (r : Int32) (xt : Nat) (xo : Nat) (xh : Nat) (xs : Nat) (xm : Nat) (xq : Nat) (xow : Nat) : Met l yX7_out ww_X7_out ({ frames := 1, cells := 0, slots := 0, locals := 21 }) (va_Pc [.ref x, .int k] (fun U => U.heap.size = sz ∧ va_P (dC, dI) classes [(x, .inr (7, [.int h, .int r, .ref xt, .ref xo, .ref xh, .ref xs, .ref xm, .ref xq])), (xo, .inr (0, [.ref xow, .int 0]))] U.heap ∧ va_K (dC, dI) classes [] U ∧ va_D (fun _ => True) [(x, .inr (7, [.int h, .int r, .ref xt, .ref xo, .ref xh, .ref xs, .ref xm, .ref xq])), (xo, .inr (0, [.ref xow, .int 0]))])) (va_Qi (fun (r : Int32) (_ : Unit) => r = -1) (fun (_ : Unit) (_ : State) => True) (va_A [(x, .inr (7, [.int h, .int r, .ref xt, .ref xo, .ref xh, .ref xs, .ref xm, .ref xq])), (xo, .inr (0, [.ref xow, .int 0]))] sz)) 0 0 (va_A [(x, .inr (7, [.int h, .int r, .ref xt, .ref xo, .ref xh, .ref xs, .ref xm, .ref xq])), (xo, .inr (0, [.ref xow, .int 0]))] sz) := by
  refine Met.ofW (cc := cX7_out) (maxL := 2) (ret := (some .int)) (by decide) rfl ?_
  intro p e s m args below meth c s₁ B hml hv
  obtain ⟨rfl, hsz, hP, hK, hD0⟩ := hv
  have hx := B.exec
  have hb := B.bytes
  have hr := B.returns
  have hts := atoms_spec (ws := ww_X7_out) B.pre
  have hown : s.vm.findClass RX7 = some m.cls := findClass_of_methodNamed B.named
  have hlocks := B.notSynchronized
  subst hsz
  have hD := hD0.self (sz := s.heap.size)
  generalize hAe : va_A [(x, .inr (7, [.int h, .int r, .ref xt, .ref xo, .ref xh, .ref xs, .ref xm, .ref xq])), (xo, .inr (0, [.ref xow, .int 0]))] s.heap.size = A at hD ⊢
  have hA : ∀ q : Nat, s.heap.size ≤ q → A q := fun q h => by rw [← hAe]; exact Or.inr h
  have hS : va_S A s.heap s.heap [] := va_S.rf
  have hP : va_P (dC, dI) classes [(x, .inr (7, [.int h, .int r, .ref xt, .ref xo, .ref xh, .ref xs, .ref xm, .ref xq])), (xo, .inr (0, [.ref xow, .int 0]))] s.heap := hP
  have hl := lv_entry ([.ref x, .int k]) (n := 2) (Nat.le_of_ble_eq_true rfl)
  rw [lg_entry_eq]
  generalize (lg_sl ([.ref x, .int k]) ++ List.replicate (2 - (lg_sl ([.ref x, .int k])).length) Slot.unset).toArray = ls at hl ⊢
  have hl : lv_has ls 2 [(0, .ref x), (1, .int k)] := hl
  generalize hHe : s.heap = H at hP ⊢
  have hS : va_S A s.heap H [] := by rw [← hHe]; exact va_S.rf
  refine lv_aload_n hx hb dX7_out_0 rfl (lv_at hl 0 rfl) ?_
  refine va_get (D := (dC, dI)) (ci := 7) (v := .ref xo) (C := RX7) (T := TX7) (N := 8) hx hb hts iX7_out_X7 hown hK hP 0 rfl rfl 3 (by decide) (hts (.fieldLink RX7 34 "LeafSigner" "output" "LLeafSigner$ByteRow;") (List.mem_of_getElem? (i := 1) rfl)) (fun _ h9 => h9) rfl dX7_out_1 ?_
  refine lv_iload_n hx hb dX7_out_4 rfl (lv_at hl 1 rfl) ?_
  have hPc := hP.sub (ws' := [(xo, .inr (0, [.ref xow, .int 0]))]) [1] rfl
  have hDc := hD.sub (ws' := [(xo, .inr (0, [.ref xow, .int 0]))]) [1] (by decide) rfl
  have hKc := hK.sub (tys' := []) [] rfl
  have hFc := va_free (wc := [(xo, .inr (0, [.ref xow, .int 0]))]) hD hS hA [1] rfl
  refine va_calli (va_runV (As := [.int k]) (rest := []) ⟨hx, hb, hml, hown, hts⟩ (ct_byteAt0 l dC dI H.size xo k xow) (cwV 1 hts gX7_out_X0_byteAt_118 rfl rfl rfl (by decide +kernel) ⟨(Nat.le_of_ble_eq_true rfl), (Nat.le_of_ble_eq_true rfl)⟩) ⟨fun a U g mk q => by obtain ⟨q0, q1, qP, qK, qD⟩ := q; exact ⟨q0, q1, qP, va_K.moved (u := U) (U := U.calling g mk a) (Vm.Alike.refl U.vm) qK, qD⟩, va_recv hKc hPc (ci := 0) (q0 := 0) rfl rfl, fun U hU hW => ⟨rfl, by rw [hU], by rw [hU]; exact hPc, va_K.moved hW.alike hKc, hDc.weaken (fun _ _ _ _ => trivial)⟩⟩ rfl rfl hl.1 rfl (lv_room (Nat.le_of_ble_eq_true rfl)) dX7_out_5 ⟨(Nat.le_of_ble_eq_true rfl), (Nat.le_of_ble_eq_true rfl)⟩) hS (fun q _ h => hFc q h) hFc (fun r115 u t H1 locs ht hvm hw hB hz1 hk1 hS => ?_)
  have hP1 : va_P (dC, dI) classes [] H1 := vx_P0
  have hD1 : va_D (va_A [(xo, .inr (0, [.ref xow, .int 0]))] H.size) [] := vx_D0
  obtain ⟨hP, hD⟩ := va_join (wr := [(x, .inr (7, [.int h, .int r, .ref xt, .ref xo, .ref xh, .ref xs, .ref xm, .ref xq]))]) (w1 := []) hP hD [1] [0] rfl rfl (by decide) (by decide) hk1 hFc hP1 hD1
  have hK := hK.sub (tys' := []) [] rfl
  generalize H1 = H at hP hS ⊢
  have hP : va_P (dC, dI) classes [(x, .inr (7, [.int h, .int r, .ref xt, .ref xo, .ref xh, .ref xs, .ref xm, .ref xq]))] H := hP
  have hD : va_D A [(x, .inr (7, [.int h, .int r, .ref xt, .ref xo, .ref xh, .ref xs, .ref xm, .ref xq]))] := hD
  have hK : va_K (dC, dI) classes [] s := hK
  refine W.widen (k := 0) (n := 0) (Nat.le_of_ble_eq_true rfl) (Nat.le_of_ble_eq_true rfl) ?_
  try dsimp only at hw
  obtain rfl : r115 = (-1) := hw
  refine W.widen (k := 0) (n := 0) (Nat.le_of_ble_eq_true rfl) (Nat.le_of_ble_eq_true rfl) ?_
  exact W.iret (v := (-1)) hx hb hr (fun t ht hW => ⟨⟨(-1), (), rfl, rfl, trivial⟩, hS.F ht⟩) hS.2.2 dX7_out_8
end
section
def ww_X7_disk : List Cond := .code yX7_disk cX7_disk 2 (some .int) :: ([.fieldLink RX7 43 "LeafSigner" "store" "LLeafSigner$Disk;", .fieldLink RX7 151 "LeafSigner$Disk" "bytes" "LLeafSigner$ByteRow;", .methodLink RX7 118 yX0_byteAt, .instanceMethod yX0_byteAt, .selects RX0 yX0_byteAt yX0_byteAt, .initialized RX0, .code yX0_byteAt cX0_byteAt 2 (some .int), .fieldLink RX0 15 "LeafSigner$ByteRow" "count" "I", .fieldLink RX0 9 "LeafSigner$ByteRow" "words" "[I", .methodLink RX0 19 yX0_shiftOf, .static yX0_shiftOf, .code yX0_shiftOf cX0_shiftOf 1 (some .int)] ++ (wsX70 ++ wsX10 ++ wsX00))
theorem iX7_disk_X7 : ∀ w ∈ wsX70, w ∈ ww_X7_disk := fun w h => List.mem_cons_of_mem _ (List.mem_append_right _ (List.mem_append_left _ (List.mem_append_left _ h)))
theorem iX7_disk_X1 : ∀ w ∈ wsX10, w ∈ ww_X7_disk := fun w h => List.mem_cons_of_mem _ (List.mem_append_right _ (List.mem_append_left _ (List.mem_append_right _ h)))
theorem iX7_disk_X0 : ∀ w ∈ wsX00, w ∈ ww_X7_disk := fun w h => List.mem_cons_of_mem _ (List.mem_append_right _ (List.mem_append_right _ h))
set_option maxRecDepth 20000 in
theorem gX7_disk_X0_byteAt_118 : GoodIn ww_X7_disk (wsV RX7 118 RX0 yX0_byteAt ww_X0_byteAtD) := vx_good _ [3, 4, 5, 6, 7, 8, 9, 10, 11, 6, 12, 24, 25] rfl (by decide +kernel)
set_option maxHeartbeats 4000000 in
set_option maxRecDepth 100000 in
theorem ct_disk (l : Launch) (dC : Nat → ClassId) (dI : Nat → Nat → Nat) (sz : Nat) (x : Nat) (k : Int32) (h : Int32) (r : Int32) (xt : Nat) (xo : Nat) (xh : Nat) (xs : Nat) (xm : Nat) (xq : Nat) (xb : Nat) (xbw : Nat) (cB : ClassId) : Met l yX7_disk ww_X7_disk ({ frames := 2, cells := 0, slots := 0, locals := 41 }) (va_Pc [.ref x, .int k] (fun U => U.heap.size = sz ∧ va_P (dC, dI) classes [(x, .inr (7, [.int h, .int r, .ref xt, .ref xo, .ref xh, .ref xs, .ref xm, .ref xq])), (xs, .inr (1, [.ref xb, .int 0, .int (-1)])), (xb, .inr (0, [.ref xbw, .int 24])), (xbw, .inl (cB, 6, .inl (fun _ => 0)))] U.heap ∧ va_K (dC, dI) classes [(cB, .int)] U ∧ va_D (fun _ => True) [(x, .inr (7, [.int h, .int r, .ref xt, .ref xo, .ref xh, .ref xs, .ref xm, .ref xq])), (xs, .inr (1, [.ref xb, .int 0, .int (-1)])), (xb, .inr (0, [.ref xbw, .int 24])), (xbw, .inl (cB, 6, .inl (fun _ => 0)))])) (va_Qi (fun (r : Int32) (_ : Unit) => r = fk_disk k) (fun (_ : Unit) (_ : State) => True) (va_A [(x, .inr (7, [.int h, .int r, .ref xt, .ref xo, .ref xh, .ref xs, .ref xm, .ref xq])), (xs, .inr (1, [.ref xb, .int 0, .int (-1)])), (xb, .inr (0, [.ref xbw, .int 24])), (xbw, .inl (cB, 6, .inl (fun _ => 0)))] sz)) 0 0 (va_A [(x, .inr (7, [.int h, .int r, .ref xt, .ref xo, .ref xh, .ref xs, .ref xm, .ref xq])), (xs, .inr (1, [.ref xb, .int 0, .int (-1)])), (xb, .inr (0, [.ref xbw, .int 24])), (xbw, .inl (cB, 6, .inl (fun _ => 0)))] sz) := by
  refine Met.ofW (cc := cX7_disk) (maxL := 2) (ret := (some .int)) (by decide) rfl ?_
  intro p e s m args below meth c s₁ B hml hv
  obtain ⟨rfl, hsz, hP, hK, hD0⟩ := hv
  have hx := B.exec
  have hb := B.bytes
  have hr := B.returns
  have hts := atoms_spec (ws := ww_X7_disk) B.pre
  have hown : s.vm.findClass RX7 = some m.cls := findClass_of_methodNamed B.named
  have hlocks := B.notSynchronized
  subst hsz
  have hD := hD0.self (sz := s.heap.size)
  generalize hAe : va_A [(x, .inr (7, [.int h, .int r, .ref xt, .ref xo, .ref xh, .ref xs, .ref xm, .ref xq])), (xs, .inr (1, [.ref xb, .int 0, .int (-1)])), (xb, .inr (0, [.ref xbw, .int 24])), (xbw, .inl (cB, 6, .inl (fun _ => 0)))] s.heap.size = A at hD ⊢
  have hA : ∀ q : Nat, s.heap.size ≤ q → A q := fun q h => by rw [← hAe]; exact Or.inr h
  have hS : va_S A s.heap s.heap [] := va_S.rf
  have hP : va_P (dC, dI) classes [(x, .inr (7, [.int h, .int r, .ref xt, .ref xo, .ref xh, .ref xs, .ref xm, .ref xq])), (xs, .inr (1, [.ref xb, .int 0, .int (-1)])), (xb, .inr (0, [.ref xbw, .int 24])), (xbw, .inl (cB, 6, .inl (fun _ => 0)))] s.heap := hP
  have hl := lv_entry ([.ref x, .int k]) (n := 2) (Nat.le_of_ble_eq_true rfl)
  rw [lg_entry_eq]
  generalize (lg_sl ([.ref x, .int k]) ++ List.replicate (2 - (lg_sl ([.ref x, .int k])).length) Slot.unset).toArray = ls at hl ⊢
  have hl : lv_has ls 2 [(0, .ref x), (1, .int k)] := hl
  generalize hHe : s.heap = H at hP ⊢
  have hS : va_S A s.heap H [] := by rw [← hHe]; exact va_S.rf
  refine lv_aload_n hx hb dX7_disk_0 rfl (lv_at hl 0 rfl) ?_
  refine va_get (D := (dC, dI)) (ci := 7) (v := .ref xs) (C := RX7) (T := TX7) (N := 8) hx hb hts iX7_disk_X7 hown hK hP 0 rfl rfl 5 (by decide) (hts (.fieldLink RX7 43 "LeafSigner" "store" "LLeafSigner$Disk;") (List.mem_of_getElem? (i := 1) rfl)) (fun _ h9 => h9) rfl dX7_disk_1 ?_
  refine va_get (D := (dC, dI)) (ci := 1) (v := .ref xb) (C := RX1) (T := TX1) (N := 3) hx hb hts iX7_disk_X1 hown hK hP 1 rfl rfl 0 (by decide) (hts (.fieldLink RX7 151 "LeafSigner$Disk" "bytes" "LLeafSigner$ByteRow;") (List.mem_of_getElem? (i := 2) rfl)) (fun _ h9 => h9) rfl dX7_disk_4 ?_
  refine lv_iload_n hx hb dX7_disk_7 rfl (lv_at hl 1 rfl) ?_
  have hPc := hP.sub (ws' := [(xb, .inr (0, [.ref xbw, .int 24])), (xbw, .inl (cB, 6, .inl (fun _ => 0)))]) [2, 3] rfl
  have hDc := hD.sub (ws' := [(xb, .inr (0, [.ref xbw, .int 24])), (xbw, .inl (cB, 6, .inl (fun _ => 0)))]) [2, 3] (by decide) rfl
  have hKc := hK.sub (tys' := [(cB, .int)]) [0] rfl
  have hFc := va_free (wc := [(xb, .inr (0, [.ref xbw, .int 24])), (xbw, .inl (cB, 6, .inl (fun _ => 0)))]) hD hS hA [2, 3] rfl
  refine va_calli (va_runV (As := [.int k]) (rest := []) ⟨hx, hb, hml, hown, hts⟩ (ct_byteAtD l dC dI H.size xb k xbw cB) (cwV 1 hts gX7_disk_X0_byteAt_118 rfl rfl rfl (by decide +kernel) ⟨(Nat.le_of_ble_eq_true rfl), (Nat.le_of_ble_eq_true rfl)⟩) ⟨fun a U g mk q => by obtain ⟨q0, q1, qP, qK, qD⟩ := q; exact ⟨q0, q1, qP, va_K.moved (u := U) (U := U.calling g mk a) (Vm.Alike.refl U.vm) qK, qD⟩, va_recv hKc hPc (ci := 0) (q0 := 0) rfl rfl, fun U hU hW => ⟨rfl, by rw [hU], by rw [hU]; exact hPc, va_K.moved hW.alike hKc, hDc.weaken (fun _ _ _ _ => trivial)⟩⟩ rfl rfl hl.1 rfl (lv_room (Nat.le_of_ble_eq_true rfl)) dX7_disk_8 ⟨(Nat.le_of_ble_eq_true rfl), (Nat.le_of_ble_eq_true rfl)⟩) hS (fun q _ h => hFc q h) hFc (fun r116 u t H1 locs ht hvm hw hB hz1 hk1 hS => ?_)
  have hP1 : va_P (dC, dI) classes [] H1 := vx_P0
  have hD1 : va_D (va_A [(xb, .inr (0, [.ref xbw, .int 24])), (xbw, .inl (cB, 6, .inl (fun _ => 0)))] H.size) [] := vx_D0
  obtain ⟨hP, hD⟩ := va_join (wr := [(x, .inr (7, [.int h, .int r, .ref xt, .ref xo, .ref xh, .ref xs, .ref xm, .ref xq])), (xs, .inr (1, [.ref xb, .int 0, .int (-1)]))]) (w1 := []) hP hD [2, 3] [0, 1] rfl rfl (by decide) (by decide) hk1 hFc hP1 hD1
  have hK := hK.sub (tys' := []) [] rfl
  generalize H1 = H at hP hS ⊢
  have hP : va_P (dC, dI) classes [(x, .inr (7, [.int h, .int r, .ref xt, .ref xo, .ref xh, .ref xs, .ref xm, .ref xq])), (xs, .inr (1, [.ref xb, .int 0, .int (-1)]))] H := hP
  have hD : va_D A [(x, .inr (7, [.int h, .int r, .ref xt, .ref xo, .ref xh, .ref xs, .ref xm, .ref xq])), (xs, .inr (1, [.ref xb, .int 0, .int (-1)]))] := hD
  have hK : va_K (dC, dI) classes [] s := hK
  refine W.widen (k := 0) (n := 0) (Nat.le_of_ble_eq_true rfl) (Nat.le_of_ble_eq_true rfl) ?_
  try dsimp only at hw
  subst hw
  refine W.widen (k := 0) (n := 0) (Nat.le_of_ble_eq_true rfl) (Nat.le_of_ble_eq_true rfl) ?_
  exact W.iret (v := (fk_disk k)) hx hb hr (fun t ht hW => ⟨⟨(fk_disk k), (), rfl, rfl, trivial⟩, hS.F ht⟩) hS.2.2 dX7_disk_11
end
section
def ww_X7_leaf : List Cond := .code yX7_leaf cX7_leaf 2 (some .int) :: ([.methodLink RX7 122 yX7_wasNeverKeyed, .instanceMethod yX7_wasNeverKeyed, .selects RX7 yX7_wasNeverKeyed yX7_wasNeverKeyed, .initialized RX7, .code yX7_wasNeverKeyed cX7_wasNeverKeyed 1 (some .boolean), .fieldLink RX7 52 "LeafSigner" "machine" "LLeafSigner$Machine;", .fieldLink RX7 84 "LeafSigner$Machine" "state" "I"] ++ (wsX70 ++ wsX30))
theorem iX7_leaf_X7 : ∀ w ∈ wsX70, w ∈ ww_X7_leaf := fun w h => List.mem_cons_of_mem _ (List.mem_append_right _ (List.mem_append_left _ h))
theorem iX7_leaf_X3 : ∀ w ∈ wsX30, w ∈ ww_X7_leaf := fun w h => List.mem_cons_of_mem _ (List.mem_append_right _ (List.mem_append_right _ h))
set_option maxRecDepth 20000 in
theorem gX7_leaf_X7_wasNeverKeyed_122 : GoodIn ww_X7_leaf (wsV RX7 122 RX7 yX7_wasNeverKeyed ww_X7_wasNeverKeyed) := vx_good _ [1, 2, 3, 4, 5, 6, 7, 8, 9, 10, 11, 12, 13, 14, 15, 16, 17, 18, 19, 20, 21, 22] rfl (by decide +kernel)
set_option maxHeartbeats 4000000 in
set_option maxRecDepth 100000 in
theorem ct_leaf (l : Launch) (dC : Nat → ClassId) (dI : Nat → Nat → Nat) (sz : Nat) (x : Nat) (k : Int32) (h : Int32) (r : Int32) (xt : Nat) (xo : Nat) (xh : Nat) (xs : Nat) (xm : Nat) (xq : Nat) (xf : Nat) : Met l yX7_leaf ww_X7_leaf ({ frames := 1, cells := 0, slots := 0, locals := 20 }) (va_Pc [.ref x, .int k] (fun U => U.heap.size = sz ∧ va_P (dC, dI) classes [(x, .inr (7, [.int h, .int r, .ref xt, .ref xo, .ref xh, .ref xs, .ref xm, .ref xq])), (xm, .inr (3, [.ref xf, .int r, .ref xs, .int 0, .int 0, .int 0, .int 0]))] U.heap ∧ va_K (dC, dI) classes [] U ∧ va_D (fun _ => True) [(x, .inr (7, [.int h, .int r, .ref xt, .ref xo, .ref xh, .ref xs, .ref xm, .ref xq])), (xm, .inr (3, [.ref xf, .int r, .ref xs, .int 0, .int 0, .int 0, .int 0]))])) (va_Qi (fun (r : Int32) (_ : Unit) => r = -1) (fun (_ : Unit) (_ : State) => True) (va_A [(x, .inr (7, [.int h, .int r, .ref xt, .ref xo, .ref xh, .ref xs, .ref xm, .ref xq])), (xm, .inr (3, [.ref xf, .int r, .ref xs, .int 0, .int 0, .int 0, .int 0]))] sz)) 0 0 (va_A [(x, .inr (7, [.int h, .int r, .ref xt, .ref xo, .ref xh, .ref xs, .ref xm, .ref xq])), (xm, .inr (3, [.ref xf, .int r, .ref xs, .int 0, .int 0, .int 0, .int 0]))] sz) := by
  refine Met.ofW (cc := cX7_leaf) (maxL := 2) (ret := (some .int)) (by decide) rfl ?_
  intro p e s m args below meth c s₁ B hml hv
  obtain ⟨rfl, hsz, hP, hK, hD0⟩ := hv
  have hx := B.exec
  have hb := B.bytes
  have hr := B.returns
  have hts := atoms_spec (ws := ww_X7_leaf) B.pre
  have hown : s.vm.findClass RX7 = some m.cls := findClass_of_methodNamed B.named
  have hlocks := B.notSynchronized
  subst hsz
  have hD := hD0.self (sz := s.heap.size)
  generalize hAe : va_A [(x, .inr (7, [.int h, .int r, .ref xt, .ref xo, .ref xh, .ref xs, .ref xm, .ref xq])), (xm, .inr (3, [.ref xf, .int r, .ref xs, .int 0, .int 0, .int 0, .int 0]))] s.heap.size = A at hD ⊢
  have hA : ∀ q : Nat, s.heap.size ≤ q → A q := fun q h => by rw [← hAe]; exact Or.inr h
  have hS : va_S A s.heap s.heap [] := va_S.rf
  have hP : va_P (dC, dI) classes [(x, .inr (7, [.int h, .int r, .ref xt, .ref xo, .ref xh, .ref xs, .ref xm, .ref xq])), (xm, .inr (3, [.ref xf, .int r, .ref xs, .int 0, .int 0, .int 0, .int 0]))] s.heap := hP
  have hl := lv_entry ([.ref x, .int k]) (n := 2) (Nat.le_of_ble_eq_true rfl)
  rw [lg_entry_eq]
  generalize (lg_sl ([.ref x, .int k]) ++ List.replicate (2 - (lg_sl ([.ref x, .int k])).length) Slot.unset).toArray = ls at hl ⊢
  have hl : lv_has ls 2 [(0, .ref x), (1, .int k)] := hl
  generalize hHe : s.heap = H at hP ⊢
  have hS : va_S A s.heap H [] := by rw [← hHe]; exact va_S.rf
  refine lv_aload_n hx hb dX7_leaf_0 rfl (lv_at hl 0 rfl) ?_
  have hPc := hP.sub (ws' := [(x, .inr (7, [.int h, .int r, .ref xt, .ref xo, .ref xh, .ref xs, .ref xm, .ref xq])), (xm, .inr (3, [.ref xf, .int r, .ref xs, .int 0, .int 0, .int 0, .int 0]))]) [0, 1] rfl
  have hDc := hD.sub (ws' := [(x, .inr (7, [.int h, .int r, .ref xt, .ref xo, .ref xh, .ref xs, .ref xm, .ref xq])), (xm, .inr (3, [.ref xf, .int r, .ref xs, .int 0, .int 0, .int 0, .int 0]))]) [0, 1] (by decide) rfl
  have hKc := hK.sub (tys' := []) [] rfl
  have hFc := va_free (wc := [(x, .inr (7, [.int h, .int r, .ref xt, .ref xo, .ref xh, .ref xs, .ref xm, .ref xq])), (xm, .inr (3, [.ref xf, .int r, .ref xs, .int 0, .int 0, .int 0, .int 0]))]) hD hS hA [0, 1] rfl
  refine va_calli (va_runV (As := []) (rest := []) ⟨hx, hb, hml, hown, hts⟩ (ct_never l dC dI H.size x h r xt xo xh xs xm xq xf) (cwV 0 hts gX7_leaf_X7_wasNeverKeyed_122 rfl rfl rfl (by decide +kernel) ⟨(Nat.le_of_ble_eq_true rfl), (Nat.le_of_ble_eq_true rfl)⟩) ⟨fun a U g mk q => by obtain ⟨q0, q1, qP, qK, qD⟩ := q; exact ⟨q0, q1, qP, va_K.moved (u := U) (U := U.calling g mk a) (Vm.Alike.refl U.vm) qK, qD⟩, va_recv hKc hPc (ci := 7) (q0 := 0) rfl rfl, fun U hU hW => ⟨rfl, by rw [hU], by rw [hU]; exact hPc, va_K.moved hW.alike hKc, hDc.weaken (fun _ _ _ _ => trivial)⟩⟩ rfl rfl hl.1 rfl (lv_room (Nat.le_of_ble_eq_true rfl)) dX7_leaf_1 ⟨(Nat.le_of_ble_eq_true rfl), (Nat.le_of_ble_eq_true rfl)⟩) hS (fun q _ h => hFc q h) hFc (fun r117 u t H1 locs ht hvm hw hB hz1 hk1 hS => ?_)
  obtain ⟨hP1, hK1, hD1⟩ := hB
  rw [ht] at hP1
  have hK1 := va_K.moved hvm.symm hK1
  obtain ⟨hP, hD⟩ := va_join (wr := []) (w1 := [(x, .inr (7, [.int h, .int r, .ref xt, .ref xo, .ref xh, .ref xs, .ref xm, .ref xq])), (xm, .inr (3, [.ref xf, .int r, .ref xs, .int 0, .int 0, .int 0, .int 0]))]) hP hD [0, 1] [] rfl rfl (by decide) (by decide) hk1 hFc hP1 hD1
  have hK := hK.sub (tys' := []) [] rfl
  have hK := hK.app hK1
  generalize H1 = H at hP hS ⊢
  have hP : va_P (dC, dI) classes [(x, .inr (7, [.int h, .int r, .ref xt, .ref xo, .ref xh, .ref xs, .ref xm, .ref xq])), (xm, .inr (3, [.ref xf, .int r, .ref xs, .int 0, .int 0, .int 0, .int 0]))] H := hP
  have hD : va_D A [(x, .inr (7, [.int h, .int r, .ref xt, .ref xo, .ref xh, .ref xs, .ref xm, .ref xq])), (xm, .inr (3, [.ref xf, .int r, .ref xs, .int 0, .int 0, .int 0, .int 0]))] := hD
  have hK : va_K (dC, dI) classes [] s := hK
  refine W.widen (k := 0) (n := 0) (Nat.le_of_ble_eq_true rfl) (Nat.le_of_ble_eq_true rfl) ?_
  try dsimp only at hw
  obtain rfl : r117 = 1 := hw
  refine lv_if_ne (tgt := 18) hx hb dX7_leaf_4 (by decide) (fun c118 => ?_) (fun c118 => absurd c118 (by decide))
  refine lv_iconst (v := (-1)) hx hb dX7_leaf_18 (by decide) ?_
  refine W.widen (k := 0) (n := 0) (Nat.le_of_ble_eq_true rfl) (Nat.le_of_ble_eq_true rfl) ?_
  exact W.iret (v := (-1)) hx hb hr (fun t ht hW => ⟨⟨(-1), (), rfl, rfl, trivial⟩, hS.F ht⟩) hS.2.2 dX7_leaf_19
end
section
def ww_X7_node : List Cond := .code yX7_node cX7_node 4 (some .int) :: ([.methodLink RX7 122 yX7_wasNeverKeyed, .instanceMethod yX7_wasNeverKeyed, .selects RX7 yX7_wasNeverKeyed yX7_wasNeverKeyed, .initialized RX7, .code yX7_wasNeverKeyed cX7_wasNeverKeyed 1 (some .boolean), .fieldLink RX7 52 "LeafSigner" "machine" "LLeafSigner$Machine;", .fieldLink RX7 84 "LeafSigner$Machine" "state" "I"] ++ (wsX70 ++ wsX30))
theorem iX7_node_X7 : ∀ w ∈ wsX70, w ∈ ww_X7_node := fun w h => List.mem_cons_of_mem _ (List.mem_append_right _ (List.mem_append_left _ h))
theorem iX7_node_X3 : ∀ w ∈ wsX30, w ∈ ww_X7_node := fun w h => List.mem_cons_of_mem _ (List.mem_append_right _ (List.mem_append_right _ h))
set_option maxRecDepth 20000 in
theorem gX7_node_X7_wasNeverKeyed_122 : GoodIn ww_X7_node (wsV RX7 122 RX7 yX7_wasNeverKeyed ww_X7_wasNeverKeyed) := vx_good _ [1, 2, 3, 4, 5, 6, 7, 8, 9, 10, 11, 12, 13, 14, 15, 16, 17, 18, 19, 20, 21, 22] rfl (by decide +kernel)
set_option maxHeartbeats 4000000 in
set_option maxRecDepth 100000 in
theorem ct_node (l : Launch) (dC : Nat → ClassId) (dI : Nat → Nat → Nat) (sz : Nat) (x : Nat) (k : Int32) (k2 : Int32) (k3 : Int32) (h : Int32) (r : Int32) (xt : Nat) (xo : Nat) (xh : Nat) (xs : Nat) (xm : Nat) (xq : Nat) (xf : Nat) : Met l yX7_node ww_X7_node ({ frames := 1, cells := 0, slots := 0, locals := 20 }) (va_Pc [.ref x, .int k, .int k2, .int k3] (fun U => U.heap.size = sz ∧ va_P (dC, dI) classes [(x, .inr (7, [.int h, .int r, .ref xt, .ref xo, .ref xh, .ref xs, .ref xm, .ref xq])), (xm, .inr (3, [.ref xf, .int r, .ref xs, .int 0, .int 0, .int 0, .int 0]))] U.heap ∧ va_K (dC, dI) classes [] U ∧ va_D (fun _ => True) [(x, .inr (7, [.int h, .int r, .ref xt, .ref xo, .ref xh, .ref xs, .ref xm, .ref xq])), (xm, .inr (3, [.ref xf, .int r, .ref xs, .int 0, .int 0, .int 0, .int 0]))])) (va_Qi (fun (r : Int32) (_ : Unit) => r = -1) (fun (_ : Unit) (_ : State) => True) (va_A [(x, .inr (7, [.int h, .int r, .ref xt, .ref xo, .ref xh, .ref xs, .ref xm, .ref xq])), (xm, .inr (3, [.ref xf, .int r, .ref xs, .int 0, .int 0, .int 0, .int 0]))] sz)) 0 0 (va_A [(x, .inr (7, [.int h, .int r, .ref xt, .ref xo, .ref xh, .ref xs, .ref xm, .ref xq])), (xm, .inr (3, [.ref xf, .int r, .ref xs, .int 0, .int 0, .int 0, .int 0]))] sz) := by
  refine Met.ofW (cc := cX7_node) (maxL := 4) (ret := (some .int)) (by decide) rfl ?_
  intro p e s m args below meth c s₁ B hml hv
  obtain ⟨rfl, hsz, hP, hK, hD0⟩ := hv
  have hx := B.exec
  have hb := B.bytes
  have hr := B.returns
  have hts := atoms_spec (ws := ww_X7_node) B.pre
  have hown : s.vm.findClass RX7 = some m.cls := findClass_of_methodNamed B.named
  have hlocks := B.notSynchronized
  subst hsz
  have hD := hD0.self (sz := s.heap.size)
  generalize hAe : va_A [(x, .inr (7, [.int h, .int r, .ref xt, .ref xo, .ref xh, .ref xs, .ref xm, .ref xq])), (xm, .inr (3, [.ref xf, .int r, .ref xs, .int 0, .int 0, .int 0, .int 0]))] s.heap.size = A at hD ⊢
  have hA : ∀ q : Nat, s.heap.size ≤ q → A q := fun q h => by rw [← hAe]; exact Or.inr h
  have hS : va_S A s.heap s.heap [] := va_S.rf
  have hP : va_P (dC, dI) classes [(x, .inr (7, [.int h, .int r, .ref xt, .ref xo, .ref xh, .ref xs, .ref xm, .ref xq])), (xm, .inr (3, [.ref xf, .int r, .ref xs, .int 0, .int 0, .int 0, .int 0]))] s.heap := hP
  have hl := lv_entry ([.ref x, .int k, .int k2, .int k3]) (n := 4) (Nat.le_of_ble_eq_true rfl)
  rw [lg_entry_eq]
  generalize (lg_sl ([.ref x, .int k, .int k2, .int k3]) ++ List.replicate (4 - (lg_sl ([.ref x, .int k, .int k2, .int k3])).length) Slot.unset).toArray = ls at hl ⊢
  have hl : lv_has ls 4 [(0, .ref x), (1, .int k), (2, .int k2), (3, .int k3)] := hl
  generalize hHe : s.heap = H at hP ⊢
  have hS : va_S A s.heap H [] := by rw [← hHe]; exact va_S.rf
  refine lv_aload_n hx hb dX7_node_0 rfl (lv_at hl 0 rfl) ?_
  have hPc := hP.sub (ws' := [(x, .inr (7, [.int h, .int r, .ref xt, .ref xo, .ref xh, .ref xs, .ref xm, .ref xq])), (xm, .inr (3, [.ref xf, .int r, .ref xs, .int 0, .int 0, .int 0, .int 0]))]) [0, 1] rfl
  have hDc := hD.sub (ws' := [(x, .inr (7, [.int h, .int r, .ref xt, .ref xo, .ref xh, .ref xs, .ref xm, .ref xq])), (xm, .inr (3, [.ref xf, .int r, .ref xs, .int 0, .int 0, .int 0, .int 0]))]) [0, 1] (by decide) rfl
  have hKc := hK.sub (tys' := []) [] rfl
  have hFc := va_free (wc := [(x, .inr (7, [.int h, .int r, .ref xt, .ref xo, .ref xh, .ref xs, .ref xm, .ref xq])), (xm, .inr (3, [.ref xf, .int r, .ref xs, .int 0, .int 0, .int 0, .int 0]))]) hD hS hA [0, 1] rfl
  refine va_calli (va_runV (As := []) (rest := []) ⟨hx, hb, hml, hown, hts⟩ (ct_never l dC dI H.size x h r xt xo xh xs xm xq xf) (cwV 0 hts gX7_node_X7_wasNeverKeyed_122 rfl rfl rfl (by decide +kernel) ⟨(Nat.le_of_ble_eq_true rfl), (Nat.le_of_ble_eq_true rfl)⟩) ⟨fun a U g mk q => by obtain ⟨q0, q1, qP, qK, qD⟩ := q; exact ⟨q0, q1, qP, va_K.moved (u := U) (U := U.calling g mk a) (Vm.Alike.refl U.vm) qK, qD⟩, va_recv hKc hPc (ci := 7) (q0 := 0) rfl rfl, fun U hU hW => ⟨rfl, by rw [hU], by rw [hU]; exact hPc, va_K.moved hW.alike hKc, hDc.weaken (fun _ _ _ _ => trivial)⟩⟩ rfl rfl hl.1 rfl (lv_room (Nat.le_of_ble_eq_true rfl)) dX7_node_1 ⟨(Nat.le_of_ble_eq_true rfl), (Nat.le_of_ble_eq_true rfl)⟩) hS (fun q _ h => hFc q h) hFc (fun r119 u t H1 locs ht hvm hw hB hz1 hk1 hS => ?_)
  obtain ⟨hP1, hK1, hD1⟩ := hB
  rw [ht] at hP1
  have hK1 := va_K.moved hvm.symm hK1
  obtain ⟨hP, hD⟩ := va_join (wr := []) (w1 := [(x, .inr (7, [.int h, .int r, .ref xt, .ref xo, .ref xh, .ref xs, .ref xm, .ref xq])), (xm, .inr (3, [.ref xf, .int r, .ref xs, .int 0, .int 0, .int 0, .int 0]))]) hP hD [0, 1] [] rfl rfl (by decide) (by decide) hk1 hFc hP1 hD1
  have hK := hK.sub (tys' := []) [] rfl
  have hK := hK.app hK1
  generalize H1 = H at hP hS ⊢
  have hP : va_P (dC, dI) classes [(x, .inr (7, [.int h, .int r, .ref xt, .ref xo, .ref xh, .ref xs, .ref xm, .ref xq])), (xm, .inr (3, [.ref xf, .int r, .ref xs, .int 0, .int 0, .int 0, .int 0]))] H := hP
  have hD : va_D A [(x, .inr (7, [.int h, .int r, .ref xt, .ref xo, .ref xh, .ref xs, .ref xm, .ref xq])), (xm, .inr (3, [.ref xf, .int r, .ref xs, .int 0, .int 0, .int 0, .int 0]))] := hD
  have hK : va_K (dC, dI) classes [] s := hK
  refine W.widen (k := 0) (n := 0) (Nat.le_of_ble_eq_true rfl) (Nat.le_of_ble_eq_true rfl) ?_
  try dsimp only at hw
  obtain rfl : r119 = 1 := hw
  refine lv_if_ne (tgt := 29) hx hb dX7_node_4 (by decide) (fun c120 => ?_) (fun c120 => absurd c120 (by decide))
  refine lv_iconst (v := (-1)) hx hb dX7_node_29 (by decide) ?_
  refine W.widen (k := 0) (n := 0) (Nat.le_of_ble_eq_true rfl) (Nat.le_of_ble_eq_true rfl) ?_
  exact W.iret (v := (-1)) hx hb hr (fun t ht hW => ⟨⟨(-1), (), rfl, rfl, trivial⟩, hS.F ht⟩) hS.2.2 dX7_node_30
end
section
def ww_X7_about : List Cond := .code yX7_about cX7_about 3 (some .int) :: ([.fieldLink RX7 52 "LeafSigner" "machine" "LLeafSigner$Machine;", .fieldLink RX7 84 "LeafSigner$Machine" "state" "I", .methodLink RX7 145 yX3_countOf, .instanceMethod yX3_countOf, .selects RX3 yX3_countOf yX3_countOf, .initialized RX3, .code yX3_countOf cX3_countOf 4 (some .int), .fieldLink RX3 7 "LeafSigner$Machine" "fates" "[I", .fieldLink RX7 43 "LeafSigner" "store" "LLeafSigner$Disk;", .fieldLink RX7 148 "LeafSigner$Disk" "written" "I", .fieldLink RX7 101 "LeafSigner$Disk" "fuseLeft" "I", .fieldLink RX7 30 "LeafSigner" "tape" "LLeafSigner$ByteRow;", .fieldLink RX7 63 "LeafSigner$ByteRow" "count" "I", .fieldLink RX7 34 "LeafSigner" "output" "LLeafSigner$ByteRow;", .fieldLink RX7 37 "LeafSigner" "held" "LLeafSigner$ByteRow;", .fieldLink RX7 18 "LeafSigner" "height" "I", .fieldLink RX7 22 "LeafSigner" "reserve" "I"] ++ (wsX70 ++ wsX30 ++ wsX10 ++ wsX00))
theorem iX7_about_X7 : ∀ w ∈ wsX70, w ∈ ww_X7_about := fun w h => List.mem_cons_of_mem _ (List.mem_append_right _ (List.mem_append_left _ (List.mem_append_left _ (List.mem_append_left _ h))))
theorem iX7_about_X3 : ∀ w ∈ wsX30, w ∈ ww_X7_about := fun w h => List.mem_cons_of_mem _ (List.mem_append_right _ (List.mem_append_left _ (List.mem_append_left _ (List.mem_append_right _ h))))
theorem iX7_about_X1 : ∀ w ∈ wsX10, w ∈ ww_X7_about := fun w h => List.mem_cons_of_mem _ (List.mem_append_right _ (List.mem_append_left _ (List.mem_append_right _ h)))
theorem iX7_about_X0 : ∀ w ∈ wsX00, w ∈ ww_X7_about := fun w h => List.mem_cons_of_mem _ (List.mem_append_right _ (List.mem_append_right _ h))
set_option maxRecDepth 20000 in
theorem gX7_about_X3_countOf_145 : GoodIn ww_X7_about (wsV RX7 145 RX3 yX3_countOf ww_X3_countOf) := vx_good _ [3, 4, 5, 6, 7, 8, 26, 27, 28, 29, 30, 31, 32] rfl (by decide +kernel)
set_option maxHeartbeats 4000000 in
set_option maxRecDepth 100000 in
theorem ct_about (l : Launch) (dC : Nat → ClassId) (dI : Nat → Nat → Nat) (sz : Nat) (x : Nat) (k : Int32) (h : Int32) (r : Int32) (xt : Nat) (xo : Nat) (xh : Nat) (xs : Nat) (xm : Nat) (xq : Nat) (xtw : Nat) (xow : Nat) (xhw : Nat) (xb : Nat) (xf : Nat) (cF : ClassId) (NF : Nat) (hN : NF < 2 ^ 31) : Met l yX7_about ww_X7_about ({ frames := 1, cells := 0, slots := 0, locals := 23 }) (va_Pc [.ref x, .int k] (fun U => U.heap.size = sz ∧ va_P (dC, dI) classes [(x, .inr (7, [.int h, .int r, .ref xt, .ref xo, .ref xh, .ref xs, .ref xm, .ref xq])), (xt, .inr (0, [.ref xtw, .int 0])), (xo, .inr (0, [.ref xow, .int 0])), (xh, .inr (0, [.ref xhw, .int 0])), (xs, .inr (1, [.ref xb, .int 0, .int (-1)])), (xm, .inr (3, [.ref xf, .int r, .ref xs, .int 0, .int 0, .int 0, .int 0])), (xf, .inl (cF, NF, .inl (fun _ => 0)))] U.heap ∧ va_K (dC, dI) classes [(cF, .int)] U ∧ va_D (fun _ => True) [(x, .inr (7, [.int h, .int r, .ref xt, .ref xo, .ref xh, .ref xs, .ref xm, .ref xq])), (xt, .inr (0, [.ref xtw, .int 0])), (xo, .inr (0, [.ref xow, .int 0])), (xh, .inr (0, [.ref xhw, .int 0])), (xs, .inr (1, [.ref xb, .int 0, .int (-1)])), (xm, .inr (3, [.ref xf, .int r, .ref xs, .int 0, .int 0, .int 0, .int 0])), (xf, .inl (cF, NF, .inl (fun _ => 0)))])) (va_Qi (fun (r : Int32) (_ : Unit) => r = fk_about k h r) (fun (_ : Unit) (_ : State) => True) (va_A [(x, .inr (7, [.int h, .int r, .ref xt, .ref xo, .ref xh, .ref xs, .ref xm, .ref xq])), (xt, .inr (0, [.ref xtw, .int 0])), (xo, .inr (0, [.ref xow, .int 0])), (xh, .inr (0, [.ref xhw, .int 0])), (xs, .inr (1, [.ref xb, .int 0, .int (-1)])), (xm, .inr (3, [.ref xf, .int r, .ref xs, .int 0, .int 0, .int 0, .int 0])), (xf, .inl (cF, NF, .inl (fun _ => 0)))] sz)) 0 0 (va_A [(x, .inr (7, [.int h, .int r, .ref xt, .ref xo, .ref xh, .ref xs, .ref xm, .ref xq])), (xt, .inr (0, [.ref xtw, .int 0])), (xo, .inr (0, [.ref xow, .int 0])), (xh, .inr (0, [.ref xhw, .int 0])), (xs, .inr (1, [.ref xb, .int 0, .int (-1)])), (xm, .inr (3, [.ref xf, .int r, .ref xs, .int 0, .int 0, .int 0, .int 0])), (xf, .inl (cF, NF, .inl (fun _ => 0)))] sz) := by
  refine Met.ofW (cc := cX7_about) (maxL := 3) (ret := (some .int)) (by decide) rfl ?_
  intro p e s m args below meth c s₁ B hml hv
  obtain ⟨rfl, hsz, hP, hK, hD0⟩ := hv
  have hx := B.exec
  have hb := B.bytes
  have hr := B.returns
  have hts := atoms_spec (ws := ww_X7_about) B.pre
  have hown : s.vm.findClass RX7 = some m.cls := findClass_of_methodNamed B.named
  have hlocks := B.notSynchronized
  subst hsz
  have hD := hD0.self (sz := s.heap.size)
  generalize hAe : va_A [(x, .inr (7, [.int h, .int r, .ref xt, .ref xo, .ref xh, .ref xs, .ref xm, .ref xq])), (xt, .inr (0, [.ref xtw, .int 0])), (xo, .inr (0, [.ref xow, .int 0])), (xh, .inr (0, [.ref xhw, .int 0])), (xs, .inr (1, [.ref xb, .int 0, .int (-1)])), (xm, .inr (3, [.ref xf, .int r, .ref xs, .int 0, .int 0, .int 0, .int 0])), (xf, .inl (cF, NF, .inl (fun _ => 0)))] s.heap.size = A at hD ⊢
  have hA : ∀ q : Nat, s.heap.size ≤ q → A q := fun q h => by rw [← hAe]; exact Or.inr h
  have hS : va_S A s.heap s.heap [] := va_S.rf
  have hP : va_P (dC, dI) classes [(x, .inr (7, [.int h, .int r, .ref xt, .ref xo, .ref xh, .ref xs, .ref xm, .ref xq])), (xt, .inr (0, [.ref xtw, .int 0])), (xo, .inr (0, [.ref xow, .int 0])), (xh, .inr (0, [.ref xhw, .int 0])), (xs, .inr (1, [.ref xb, .int 0, .int (-1)])), (xm, .inr (3, [.ref xf, .int r, .ref xs, .int 0, .int 0, .int 0, .int 0])), (xf, .inl (cF, NF, .inl (fun _ => 0)))] s.heap := hP
  have hl := lv_entry ([.ref x, .int k]) (n := 3) (Nat.le_of_ble_eq_true rfl)
  rw [lg_entry_eq]
  generalize (lg_sl ([.ref x, .int k]) ++ List.replicate (3 - (lg_sl ([.ref x, .int k])).length) Slot.unset).toArray = ls at hl ⊢
  have hl : lv_has ls 3 [(0, .ref x), (1, .int k)] := hl
  generalize hHe : s.heap = H at hP ⊢
  have hS : va_S A s.heap H [] := by rw [← hHe]; exact va_S.rf
  refine lv_aload_n hx hb dX7_about_0 rfl (lv_at hl 0 rfl) ?_
  refine va_get (D := (dC, dI)) (ci := 7) (v := .ref xm) (C := RX7) (T := TX7) (N := 8) hx hb hts iX7_about_X7 hown hK hP 0 rfl rfl 6 (by decide) (hts (.fieldLink RX7 52 "LeafSigner" "machine" "LLeafSigner$Machine;") (List.mem_of_getElem? (i := 1) rfl)) (fun _ h9 => h9) rfl dX7_about_1 ?_
  refine va_get (D := (dC, dI)) (ci := 3) (v := .int 0) (C := RX3) (T := TX3) (N := 7) hx hb hts iX7_about_X3 hown hK hP 5 rfl rfl 3 (by decide) (hts (.fieldLink RX7 84 "LeafSigner$Machine" "state" "I") (List.mem_of_getElem? (i := 2) rfl)) (fun _ h9 => h9) rfl dX7_about_4 ?_
  refine lv_iconst (v := 1) hx hb dX7_about_7 (by decide) ?_
  refine lv_icmp_ne (tgt := 15) hx hb dX7_about_8 (by decide) (fun c121 => ?_) (fun c121 => absurd c121 (by decide))
  refine lv_iconst (v := 0) hx hb dX7_about_15 (by decide) ?_
  refine lv_istore_n (lv' := [(2, .int 0), (0, .ref x), (1, .int k)]) hx hb dX7_about_16 rfl hl (by decide) rfl (fun ls hl => ?_)
  refine lv_iload_n hx hb dX7_about_17 rfl (lv_at hl 2 rfl) ?_
  by_cases c122 : k = 0
  · subst c122
    have hl : lv_has ls 3 [(2, .int 0), (0, .ref x), (1, .int 0)] := hl
    refine lv_tableIn (off := 62) (tgt := 80) hx hb dX7_about_18 (by decide) (by decide) (by decide) (by decide) ?_
    refine lv_aload_n hx hb dX7_about_80 rfl (lv_at hl 1 rfl) ?_
    refine va_get (D := (dC, dI)) (ci := 7) (v := .ref xm) (C := RX7) (T := TX7) (N := 8) hx hb hts iX7_about_X7 hown hK hP 0 rfl rfl 6 (by decide) (hts (.fieldLink RX7 52 "LeafSigner" "machine" "LLeafSigner$Machine;") (List.mem_of_getElem? (i := 1) rfl)) (fun _ h9 => h9) rfl dX7_about_81 ?_
    refine va_get (D := (dC, dI)) (ci := 3) (v := .int 0) (C := RX3) (T := TX3) (N := 7) hx hb hts iX7_about_X3 hown hK hP 5 rfl rfl 3 (by decide) (hts (.fieldLink RX7 84 "LeafSigner$Machine" "state" "I") (List.mem_of_getElem? (i := 2) rfl)) (fun _ h9 => h9) rfl dX7_about_84 ?_
    refine W.widen (k := 0) (n := 0) (Nat.le_of_ble_eq_true rfl) (Nat.le_of_ble_eq_true rfl) ?_
    exact W.iret (v := 0) hx hb hr (fun t ht hW => ⟨⟨0, (), rfl, rfl, trivial⟩, hS.F ht⟩) hS.2.2 dX7_about_87
  · by_cases c123 : k = 1
    · subst c123
      have hl : lv_has ls 3 [(2, .int 0), (0, .ref x), (1, .int 1)] := hl
      refine lv_tableIn (off := 70) (tgt := 88) hx hb dX7_about_18 (by decide) (by decide) (by decide) (by decide) ?_
      refine lv_iload_n hx hb dX7_about_88 rfl (lv_at hl 0 rfl) ?_
      refine lv_if_eq (tgt := 102) hx hb dX7_about_89 (by decide) (fun c124 => ?_) (fun c124 => absurd (by decide) c124)
      refine lv_iconst (v := (-1)) hx hb dX7_about_102 (by decide) ?_
      refine W.widen (k := 0) (n := 0) (Nat.le_of_ble_eq_true rfl) (Nat.le_of_ble_eq_true rfl) ?_
      exact W.iret (v := (-1)) hx hb hr (fun t ht hW => ⟨⟨(-1), (), rfl, rfl, trivial⟩, hS.F ht⟩) hS.2.2 dX7_about_103
    · by_cases c125 : k = 2
      · subst c125
        have hl : lv_has ls 3 [(2, .int 0), (0, .ref x), (1, .int 2)] := hl
        refine lv_tableIn (off := 86) (tgt := 104) hx hb dX7_about_18 (by decide) (by decide) (by decide) (by decide) ?_
        refine lv_iload_n hx hb dX7_about_104 rfl (lv_at hl 0 rfl) ?_
        refine lv_if_eq (tgt := 118) hx hb dX7_about_105 (by decide) (fun c126 => ?_) (fun c126 => absurd (by decide) c126)
        refine lv_iconst (v := (-1)) hx hb dX7_about_118 (by decide) ?_
        refine W.widen (k := 0) (n := 0) (Nat.le_of_ble_eq_true rfl) (Nat.le_of_ble_eq_true rfl) ?_
        exact W.iret (v := (-1)) hx hb hr (fun t ht hW => ⟨⟨(-1), (), rfl, rfl, trivial⟩, hS.F ht⟩) hS.2.2 dX7_about_119
      · by_cases c127 : k = 3
        · subst c127
          have hl : lv_has ls 3 [(2, .int 0), (0, .ref x), (1, .int 3)] := hl
          refine lv_tableIn (off := 102) (tgt := 120) hx hb dX7_about_18 (by decide) (by decide) (by decide) (by decide) ?_
          refine lv_aload_n hx hb dX7_about_120 rfl (lv_at hl 1 rfl) ?_
          refine va_get (D := (dC, dI)) (ci := 7) (v := .ref xm) (C := RX7) (T := TX7) (N := 8) hx hb hts iX7_about_X7 hown hK hP 0 rfl rfl 6 (by decide) (hts (.fieldLink RX7 52 "LeafSigner" "machine" "LLeafSigner$Machine;") (List.mem_of_getElem? (i := 1) rfl)) (fun _ h9 => h9) rfl dX7_about_121 ?_
          refine lv_iconst (v := 2) hx hb dX7_about_124 (by decide) ?_
          have hPc := hP.sub (ws' := [(xm, .inr (3, [.ref xf, .int r, .ref xs, .int 0, .int 0, .int 0, .int 0])), (xf, .inl (cF, NF, .inl (fun _ => 0)))]) [5, 6] rfl
          have hDc := hD.sub (ws' := [(xm, .inr (3, [.ref xf, .int r, .ref xs, .int 0, .int 0, .int 0, .int 0])), (xf, .inl (cF, NF, .inl (fun _ => 0)))]) [5, 6] (by decide) rfl
          have hKc := hK.sub (tys' := [(cF, .int)]) [0] rfl
          have hFc := va_free (wc := [(xm, .inr (3, [.ref xf, .int r, .ref xs, .int 0, .int 0, .int 0, .int 0])), (xf, .inl (cF, NF, .inl (fun _ => 0)))]) hD hS hA [5, 6] rfl
          refine va_calli (va_runV (As := [.int 2]) (rest := []) ⟨hx, hb, hml, hown, hts⟩ (ct_countOf l dC dI H.size xm 2 xf r xs cF NF hN (by decide)) (cwV 1 hts gX7_about_X3_countOf_145 rfl rfl rfl (by decide +kernel) ⟨(Nat.le_of_ble_eq_true rfl), (Nat.le_of_ble_eq_true rfl)⟩) ⟨fun a U g mk q => by obtain ⟨q0, q1, qP, qK, qD⟩ := q; exact ⟨q0, q1, qP, va_K.moved (u := U) (U := U.calling g mk a) (Vm.Alike.refl U.vm) qK, qD⟩, va_recv hKc hPc (ci := 3) (q0 := 0) rfl rfl, fun U hU hW => ⟨rfl, by rw [hU], by rw [hU]; exact hPc, va_K.moved hW.alike hKc, hDc.weaken (fun _ _ _ _ => trivial)⟩⟩ rfl rfl hl.1 rfl (lv_room (Nat.le_of_ble_eq_true rfl)) dX7_about_125 ⟨(Nat.le_of_ble_eq_true rfl), (Nat.le_of_ble_eq_true rfl)⟩) hS (fun q _ h => hFc q h) hFc (fun r128 u t H1 locs ht hvm hw hB hz1 hk1 hS => ?_)
          have hP1 : va_P (dC, dI) classes [] H1 := vx_P0
          have hD1 : va_D (va_A [(xm, .inr (3, [.ref xf, .int r, .ref xs, .int 0, .int 0, .int 0, .int 0])), (xf, .inl (cF, NF, .inl (fun _ => 0)))] H.size) [] := vx_D0
          obtain ⟨hP, hD⟩ := va_join (wr := [(x, .inr (7, [.int h, .int r, .ref xt, .ref xo, .ref xh, .ref xs, .ref xm, .ref xq])), (xt, .inr (0, [.ref xtw, .int 0])), (xo, .inr (0, [.ref xow, .int 0])), (xh, .inr (0, [.ref xhw, .int 0])), (xs, .inr (1, [.ref xb, .int 0, .int (-1)]))]) (w1 := []) hP hD [5, 6] [0, 1, 2, 3, 4] rfl rfl (by decide) (by decide) hk1 hFc hP1 hD1
          have hK := hK.sub (tys' := []) [] rfl
          generalize H1 = H at hP hS ⊢
          have hP : va_P (dC, dI) classes [(x, .inr (7, [.int h, .int r, .ref xt, .ref xo, .ref xh, .ref xs, .ref xm, .ref xq])), (xt, .inr (0, [.ref xtw, .int 0])), (xo, .inr (0, [.ref xow, .int 0])), (xh, .inr (0, [.ref xhw, .int 0])), (xs, .inr (1, [.ref xb, .int 0, .int (-1)]))] H := hP
          have hD : va_D A [(x, .inr (7, [.int h, .int r, .ref xt, .ref xo, .ref xh, .ref xs, .ref xm, .ref xq])), (xt, .inr (0, [.ref xtw, .int 0])), (xo, .inr (0, [.ref xow, .int 0])), (xh, .inr (0, [.ref xhw, .int 0])), (xs, .inr (1, [.ref xb, .int 0, .int (-1)]))] := hD
          have hK : va_K (dC, dI) classes [] s := hK
          refine W.widen (k := 0) (n := 0) (Nat.le_of_ble_eq_true rfl) (Nat.le_of_ble_eq_true rfl) ?_
          try dsimp only at hw
          obtain rfl : r128 = 0 := hw
          refine W.widen (k := 0) (n := 0) (Nat.le_of_ble_eq_true rfl) (Nat.le_of_ble_eq_true rfl) ?_
          exact W.iret (v := 0) hx hb hr (fun t ht hW => ⟨⟨0, (), rfl, rfl, trivial⟩, hS.F ht⟩) hS.2.2 dX7_about_128
        · by_cases c129 : k = 4
          · subst c129
            have hl : lv_has ls 3 [(2, .int 0), (0, .ref x), (1, .int 4)] := hl
            refine lv_tableIn (off := 111) (tgt := 129) hx hb dX7_about_18 (by decide) (by decide) (by decide) (by decide) ?_
            refine lv_aload_n hx hb dX7_about_129 rfl (lv_at hl 1 rfl) ?_
            refine va_get (D := (dC, dI)) (ci := 7) (v := .ref xm) (C := RX7) (T := TX7) (N := 8) hx hb hts iX7_about_X7 hown hK hP 0 rfl rfl 6 (by decide) (hts (.fieldLink RX7 52 "LeafSigner" "machine" "LLeafSigner$Machine;") (List.mem_of_getElem? (i := 1) rfl)) (fun _ h9 => h9) rfl dX7_about_130 ?_
            refine lv_iconst (v := 3) hx hb dX7_about_133 (by decide) ?_
            have hPc := hP.sub (ws' := [(xm, .inr (3, [.ref xf, .int r, .ref xs, .int 0, .int 0, .int 0, .int 0])), (xf, .inl (cF, NF, .inl (fun _ => 0)))]) [5, 6] rfl
            have hDc := hD.sub (ws' := [(xm, .inr (3, [.ref xf, .int r, .ref xs, .int 0, .int 0, .int 0, .int 0])), (xf, .inl (cF, NF, .inl (fun _ => 0)))]) [5, 6] (by decide) rfl
            have hKc := hK.sub (tys' := [(cF, .int)]) [0] rfl
            have hFc := va_free (wc := [(xm, .inr (3, [.ref xf, .int r, .ref xs, .int 0, .int 0, .int 0, .int 0])), (xf, .inl (cF, NF, .inl (fun _ => 0)))]) hD hS hA [5, 6] rfl
            refine va_calli (va_runV (As := [.int 3]) (rest := []) ⟨hx, hb, hml, hown, hts⟩ (ct_countOf l dC dI H.size xm 3 xf r xs cF NF hN (by decide)) (cwV 1 hts gX7_about_X3_countOf_145 rfl rfl rfl (by decide +kernel) ⟨(Nat.le_of_ble_eq_true rfl), (Nat.le_of_ble_eq_true rfl)⟩) ⟨fun a U g mk q => by obtain ⟨q0, q1, qP, qK, qD⟩ := q; exact ⟨q0, q1, qP, va_K.moved (u := U) (U := U.calling g mk a) (Vm.Alike.refl U.vm) qK, qD⟩, va_recv hKc hPc (ci := 3) (q0 := 0) rfl rfl, fun U hU hW => ⟨rfl, by rw [hU], by rw [hU]; exact hPc, va_K.moved hW.alike hKc, hDc.weaken (fun _ _ _ _ => trivial)⟩⟩ rfl rfl hl.1 rfl (lv_room (Nat.le_of_ble_eq_true rfl)) dX7_about_134 ⟨(Nat.le_of_ble_eq_true rfl), (Nat.le_of_ble_eq_true rfl)⟩) hS (fun q _ h => hFc q h) hFc (fun r130 u t H1 locs ht hvm hw hB hz1 hk1 hS => ?_)
            have hP1 : va_P (dC, dI) classes [] H1 := vx_P0
            have hD1 : va_D (va_A [(xm, .inr (3, [.ref xf, .int r, .ref xs, .int 0, .int 0, .int 0, .int 0])), (xf, .inl (cF, NF, .inl (fun _ => 0)))] H.size) [] := vx_D0
            obtain ⟨hP, hD⟩ := va_join (wr := [(x, .inr (7, [.int h, .int r, .ref xt, .ref xo, .ref xh, .ref xs, .ref xm, .ref xq])), (xt, .inr (0, [.ref xtw, .int 0])), (xo, .inr (0, [.ref xow, .int 0])), (xh, .inr (0, [.ref xhw, .int 0])), (xs, .inr (1, [.ref xb, .int 0, .int (-1)]))]) (w1 := []) hP hD [5, 6] [0, 1, 2, 3, 4] rfl rfl (by decide) (by decide) hk1 hFc hP1 hD1
            have hK := hK.sub (tys' := []) [] rfl
            generalize H1 = H at hP hS ⊢
            have hP : va_P (dC, dI) classes [(x, .inr (7, [.int h, .int r, .ref xt, .ref xo, .ref xh, .ref xs, .ref xm, .ref xq])), (xt, .inr (0, [.ref xtw, .int 0])), (xo, .inr (0, [.ref xow, .int 0])), (xh, .inr (0, [.ref xhw, .int 0])), (xs, .inr (1, [.ref xb, .int 0, .int (-1)]))] H := hP
            have hD : va_D A [(x, .inr (7, [.int h, .int r, .ref xt, .ref xo, .ref xh, .ref xs, .ref xm, .ref xq])), (xt, .inr (0, [.ref xtw, .int 0])), (xo, .inr (0, [.ref xow, .int 0])), (xh, .inr (0, [.ref xhw, .int 0])), (xs, .inr (1, [.ref xb, .int 0, .int (-1)]))] := hD
            have hK : va_K (dC, dI) classes [] s := hK
            refine W.widen (k := 0) (n := 0) (Nat.le_of_ble_eq_true rfl) (Nat.le_of_ble_eq_true rfl) ?_
            try dsimp only at hw
            obtain rfl : r130 = 0 := hw
            refine W.widen (k := 0) (n := 0) (Nat.le_of_ble_eq_true rfl) (Nat.le_of_ble_eq_true rfl) ?_
            exact W.iret (v := 0) hx hb hr (fun t ht hW => ⟨⟨0, (), rfl, rfl, trivial⟩, hS.F ht⟩) hS.2.2 dX7_about_137
          · by_cases c131 : k = 5
            · subst c131
              have hl : lv_has ls 3 [(2, .int 0), (0, .ref x), (1, .int 5)] := hl
              refine lv_tableIn (off := 120) (tgt := 138) hx hb dX7_about_18 (by decide) (by decide) (by decide) (by decide) ?_
              refine lv_aload_n hx hb dX7_about_138 rfl (lv_at hl 1 rfl) ?_
              refine va_get (D := (dC, dI)) (ci := 7) (v := .ref xs) (C := RX7) (T := TX7) (N := 8) hx hb hts iX7_about_X7 hown hK hP 0 rfl rfl 5 (by decide) (hts (.fieldLink RX7 43 "LeafSigner" "store" "LLeafSigner$Disk;") (List.mem_of_getElem? (i := 9) rfl)) (fun _ h9 => h9) rfl dX7_about_139 ?_
              refine va_get (D := (dC, dI)) (ci := 1) (v := .int 0) (C := RX1) (T := TX1) (N := 3) hx hb hts iX7_about_X1 hown hK hP 4 rfl rfl 1 (by decide) (hts (.fieldLink RX7 148 "LeafSigner$Disk" "written" "I") (List.mem_of_getElem? (i := 10) rfl)) (fun _ h9 => h9) rfl dX7_about_142 ?_
              refine W.widen (k := 0) (n := 0) (Nat.le_of_ble_eq_true rfl) (Nat.le_of_ble_eq_true rfl) ?_
              exact W.iret (v := 0) hx hb hr (fun t ht hW => ⟨⟨0, (), rfl, rfl, trivial⟩, hS.F ht⟩) hS.2.2 dX7_about_145
            · by_cases c132 : k = 6
              · subst c132
                have hl : lv_has ls 3 [(2, .int 0), (0, .ref x), (1, .int 6)] := hl
                refine lv_tableIn (off := 128) (tgt := 146) hx hb dX7_about_18 (by decide) (by decide) (by decide) (by decide) ?_
                refine lv_aload_n hx hb dX7_about_146 rfl (lv_at hl 1 rfl) ?_
                refine va_get (D := (dC, dI)) (ci := 7) (v := .ref xs) (C := RX7) (T := TX7) (N := 8) hx hb hts iX7_about_X7 hown hK hP 0 rfl rfl 5 (by decide) (hts (.fieldLink RX7 43 "LeafSigner" "store" "LLeafSigner$Disk;") (List.mem_of_getElem? (i := 9) rfl)) (fun _ h9 => h9) rfl dX7_about_147 ?_
                refine va_get (D := (dC, dI)) (ci := 1) (v := .int (-1)) (C := RX1) (T := TX1) (N := 3) hx hb hts iX7_about_X1 hown hK hP 4 rfl rfl 2 (by decide) (hts (.fieldLink RX7 101 "LeafSigner$Disk" "fuseLeft" "I") (List.mem_of_getElem? (i := 11) rfl)) (fun _ h9 => h9) rfl dX7_about_150 ?_
                refine W.widen (k := 0) (n := 0) (Nat.le_of_ble_eq_true rfl) (Nat.le_of_ble_eq_true rfl) ?_
                exact W.iret (v := (-1)) hx hb hr (fun t ht hW => ⟨⟨(-1), (), rfl, rfl, trivial⟩, hS.F ht⟩) hS.2.2 dX7_about_153
              · by_cases c133 : k = 7
                · subst c133
                  have hl : lv_has ls 3 [(2, .int 0), (0, .ref x), (1, .int 7)] := hl
                  refine lv_tableIn (off := 136) (tgt := 154) hx hb dX7_about_18 (by decide) (by decide) (by decide) (by decide) ?_
                  refine lv_aload_n hx hb dX7_about_154 rfl (lv_at hl 1 rfl) ?_
                  refine va_get (D := (dC, dI)) (ci := 7) (v := .ref xt) (C := RX7) (T := TX7) (N := 8) hx hb hts iX7_about_X7 hown hK hP 0 rfl rfl 2 (by decide) (hts (.fieldLink RX7 30 "LeafSigner" "tape" "LLeafSigner$ByteRow;") (List.mem_of_getElem? (i := 12) rfl)) (fun _ h9 => h9) rfl dX7_about_155 ?_
                  refine va_get (D := (dC, dI)) (ci := 0) (v := .int 0) (C := RX0) (T := TX0) (N := 2) hx hb hts iX7_about_X0 hown hK hP 1 rfl rfl 1 (by decide) (hts (.fieldLink RX7 63 "LeafSigner$ByteRow" "count" "I") (List.mem_of_getElem? (i := 13) rfl)) (fun _ h9 => h9) rfl dX7_about_158 ?_
                  refine W.widen (k := 0) (n := 0) (Nat.le_of_ble_eq_true rfl) (Nat.le_of_ble_eq_true rfl) ?_
                  exact W.iret (v := 0) hx hb hr (fun t ht hW => ⟨⟨0, (), rfl, rfl, trivial⟩, hS.F ht⟩) hS.2.2 dX7_about_161
                · by_cases c134 : k = 8
                  · subst c134
                    have hl : lv_has ls 3 [(2, .int 0), (0, .ref x), (1, .int 8)] := hl
                    refine lv_tableIn (off := 144) (tgt := 162) hx hb dX7_about_18 (by decide) (by decide) (by decide) (by decide) ?_
                    refine lv_aload_n hx hb dX7_about_162 rfl (lv_at hl 1 rfl) ?_
                    refine va_get (D := (dC, dI)) (ci := 7) (v := .ref xo) (C := RX7) (T := TX7) (N := 8) hx hb hts iX7_about_X7 hown hK hP 0 rfl rfl 3 (by decide) (hts (.fieldLink RX7 34 "LeafSigner" "output" "LLeafSigner$ByteRow;") (List.mem_of_getElem? (i := 14) rfl)) (fun _ h9 => h9) rfl dX7_about_163 ?_
                    refine va_get (D := (dC, dI)) (ci := 0) (v := .int 0) (C := RX0) (T := TX0) (N := 2) hx hb hts iX7_about_X0 hown hK hP 2 rfl rfl 1 (by decide) (hts (.fieldLink RX7 63 "LeafSigner$ByteRow" "count" "I") (List.mem_of_getElem? (i := 13) rfl)) (fun _ h9 => h9) rfl dX7_about_166 ?_
                    refine W.widen (k := 0) (n := 0) (Nat.le_of_ble_eq_true rfl) (Nat.le_of_ble_eq_true rfl) ?_
                    exact W.iret (v := 0) hx hb hr (fun t ht hW => ⟨⟨0, (), rfl, rfl, trivial⟩, hS.F ht⟩) hS.2.2 dX7_about_169
                  · by_cases c135 : k = 9
                    · subst c135
                      have hl : lv_has ls 3 [(2, .int 0), (0, .ref x), (1, .int 9)] := hl
                      refine lv_tableIn (off := 152) (tgt := 170) hx hb dX7_about_18 (by decide) (by decide) (by decide) (by decide) ?_
                      refine lv_aload_n hx hb dX7_about_170 rfl (lv_at hl 1 rfl) ?_
                      refine va_get (D := (dC, dI)) (ci := 7) (v := .ref xh) (C := RX7) (T := TX7) (N := 8) hx hb hts iX7_about_X7 hown hK hP 0 rfl rfl 4 (by decide) (hts (.fieldLink RX7 37 "LeafSigner" "held" "LLeafSigner$ByteRow;") (List.mem_of_getElem? (i := 15) rfl)) (fun _ h9 => h9) rfl dX7_about_171 ?_
                      refine va_get (D := (dC, dI)) (ci := 0) (v := .int 0) (C := RX0) (T := TX0) (N := 2) hx hb hts iX7_about_X0 hown hK hP 3 rfl rfl 1 (by decide) (hts (.fieldLink RX7 63 "LeafSigner$ByteRow" "count" "I") (List.mem_of_getElem? (i := 13) rfl)) (fun _ h9 => h9) rfl dX7_about_174 ?_
                      refine W.widen (k := 0) (n := 0) (Nat.le_of_ble_eq_true rfl) (Nat.le_of_ble_eq_true rfl) ?_
                      exact W.iret (v := 0) hx hb hr (fun t ht hW => ⟨⟨0, (), rfl, rfl, trivial⟩, hS.F ht⟩) hS.2.2 dX7_about_177
                    · by_cases c136 : k = 10
                      · subst c136
                        have hl : lv_has ls 3 [(2, .int 0), (0, .ref x), (1, .int 10)] := hl
                        refine lv_tableIn (off := 160) (tgt := 178) hx hb dX7_about_18 (by decide) (by decide) (by decide) (by decide) ?_
                        refine lv_aload_n hx hb dX7_about_178 rfl (lv_at hl 1 rfl) ?_
                        refine va_get (D := (dC, dI)) (ci := 7) (v := .int h) (C := RX7) (T := TX7) (N := 8) hx hb hts iX7_about_X7 hown hK hP 0 rfl rfl 0 (by decide) (hts (.fieldLink RX7 18 "LeafSigner" "height" "I") (List.mem_of_getElem? (i := 16) rfl)) (fun _ h9 => h9) rfl dX7_about_179 ?_
                        refine W.widen (k := 0) (n := 0) (Nat.le_of_ble_eq_true rfl) (Nat.le_of_ble_eq_true rfl) ?_
                        exact W.iret (v := h) hx hb hr (fun t ht hW => ⟨⟨h, (), rfl, rfl, trivial⟩, hS.F ht⟩) hS.2.2 dX7_about_182
                      · by_cases c137 : k = 11
                        · subst c137
                          have hl : lv_has ls 3 [(2, .int 0), (0, .ref x), (1, .int 11)] := hl
                          refine lv_tableIn (off := 165) (tgt := 183) hx hb dX7_about_18 (by decide) (by decide) (by decide) (by decide) ?_
                          refine lv_aload_n hx hb dX7_about_183 rfl (lv_at hl 1 rfl) ?_
                          refine va_get (D := (dC, dI)) (ci := 7) (v := .int r) (C := RX7) (T := TX7) (N := 8) hx hb hts iX7_about_X7 hown hK hP 0 rfl rfl 1 (by decide) (hts (.fieldLink RX7 22 "LeafSigner" "reserve" "I") (List.mem_of_getElem? (i := 17) rfl)) (fun _ h9 => h9) rfl dX7_about_184 ?_
                          refine W.widen (k := 0) (n := 0) (Nat.le_of_ble_eq_true rfl) (Nat.le_of_ble_eq_true rfl) ?_
                          exact W.iret (v := r) hx hb hr (fun t ht hW => ⟨⟨r, (), rfl, rfl, trivial⟩, hS.F ht⟩) hS.2.2 dX7_about_187
                        · refine lv_tableOut (tgt := 188) hx hb dX7_about_18 (vx_out c122 c123 c125 c127 c129 c131 c132 c133 c134 c135 c136 c137) (by decide) ?_
                          refine lv_iconst (v := (-1)) hx hb dX7_about_188 (by decide) ?_
                          refine W.widen (k := 0) (n := 0) (Nat.le_of_ble_eq_true rfl) (Nat.le_of_ble_eq_true rfl) ?_
                          exact W.iret (v := (-1)) hx hb hr (fun t ht hW => ⟨⟨(-1), (), rfl, (by unfold fk_about; simp only [if_neg c122, if_neg c123, if_neg c125, if_neg c127, if_neg c129, if_neg c131, if_neg c132, if_neg c133, if_neg c134, if_neg c135, if_neg c136, if_neg c137]), trivial⟩, hS.F ht⟩) hS.2.2 dX7_about_189
end
section
def mg (l : List Nat) (k : Nat) : Nat := l.getD k 0
def ww_X8_held : List Cond := .code yX8_held cX8_held 3 (some .int) :: ([])
set_option maxHeartbeats 4000000 in
set_option maxRecDepth 100000 in
theorem cm_held (l : Launch) (dC : Nat → ClassId) (dI : Nat → Nat → Nat) (sz : Nat) (k : Int32) (ka : Int32) (kb : Int32) : Met l yX8_held ww_X8_held ({ frames := 0, cells := 0, slots := 0, locals := 0 }) (va_Pc [.int k, .int ka, .int kb] (fun U => U.heap.size = sz ∧ va_P (dC, dI) classes [] U.heap ∧ va_K (dC, dI) classes [] U ∧ va_D (fun _ => True) [])) (va_Qi (fun (r : Int32) (_ : Unit) => r = fk_held k ka kb) (fun (_ : Unit) (_ : State) => True) (va_A [] sz)) 0 0 (va_A [] sz) := by
  refine Met.ofW (cc := cX8_held) (maxL := 3) (ret := (some .int)) (by decide) rfl ?_
  intro p e s m args below meth c s₁ B hml hv
  obtain ⟨rfl, hsz, hP, hK, hD0⟩ := hv
  have hx := B.exec
  have hb := B.bytes
  have hr := B.returns
  have hts := atoms_spec (ws := ww_X8_held) B.pre
  have hown : s.vm.findClass RX8 = some m.cls := findClass_of_methodNamed B.named
  have hlocks := B.notSynchronized
  subst hsz
  have hD := hD0.self (sz := s.heap.size)
  generalize hAe : va_A [] s.heap.size = A at hD ⊢
  have hA : ∀ q : Nat, s.heap.size ≤ q → A q := fun q h => by rw [← hAe]; exact Or.inr h
  have hS : va_S A s.heap s.heap [] := va_S.rf
  have hP : va_P (dC, dI) classes [] s.heap := hP
  have hl := lv_entry ([.int k, .int ka, .int kb]) (n := 3) (Nat.le_of_ble_eq_true rfl)
  rw [lg_entry_eq]
  generalize (lg_sl ([.int k, .int ka, .int kb]) ++ List.replicate (3 - (lg_sl ([.int k, .int ka, .int kb])).length) Slot.unset).toArray = ls at hl ⊢
  have hl : lv_has ls 3 [(0, .int k), (1, .int ka), (2, .int kb)] := hl
  generalize hHe : s.heap = H at hP ⊢
  have hS : va_S A s.heap H [] := by rw [← hHe]; exact va_S.rf
  refine lv_iload_n hx hb dX8_held_0 rfl (lv_at hl 0 rfl) ?_
  refine lv_iload_n hx hb dX8_held_1 rfl (lv_at hl 1 rfl) ?_
  refine lv_icmp_ge (tgt := 9) hx hb dX8_held_2 (by decide) (fun c138 => ?_) (fun c138 => ?_)
  · refine lv_iload_n hx hb dX8_held_9 rfl (lv_at hl 0 rfl) ?_
    refine lv_iload_n hx hb dX8_held_10 rfl (lv_at hl 2 rfl) ?_
    refine lv_icmp_le (tgt := 18) hx hb dX8_held_11 (by decide) (fun c139 => ?_) (fun c139 => ?_)
    · refine lv_iload_n hx hb dX8_held_18 rfl (lv_at hl 0 rfl) ?_
      refine W.widen (k := 0) (n := 0) (Nat.le_of_ble_eq_true rfl) (Nat.le_of_ble_eq_true rfl) ?_
      exact W.iret (v := k) hx hb hr (fun t ht hW => ⟨⟨k, (), rfl, (by unfold fk_held; rw [if_pos c138, if_pos c139]), trivial⟩, hS.F ht⟩) hS.2.2 dX8_held_19
    · refine lv_iload_n hx hb dX8_held_14 rfl (lv_at hl 2 rfl) ?_
      refine lv_goto (tgt := 19) hx hb dX8_held_15 (by decide) ?_
      refine W.widen (k := 0) (n := 0) (Nat.le_of_ble_eq_true rfl) (Nat.le_of_ble_eq_true rfl) ?_
      exact W.iret (v := kb) hx hb hr (fun t ht hW => ⟨⟨kb, (), rfl, (by unfold fk_held; rw [if_pos c138, if_neg c139]), trivial⟩, hS.F ht⟩) hS.2.2 dX8_held_19
  · refine lv_iload_n hx hb dX8_held_5 rfl (lv_at hl 1 rfl) ?_
    refine lv_goto (tgt := 19) hx hb dX8_held_6 (by decide) ?_
    refine W.widen (k := 0) (n := 0) (Nat.le_of_ble_eq_true rfl) (Nat.le_of_ble_eq_true rfl) ?_
    exact W.iret (v := ka) hx hb hr (fun t ht hW => ⟨⟨ka, (), rfl, (by unfold fk_held; rw [if_neg c138]), trivial⟩, hS.F ht⟩) hS.2.2 dX8_held_19
end
section
def ww_X8_in : List Cond := .code yX8_in cX8_in 3 (some .boolean) :: ([])
set_option maxHeartbeats 4000000 in
set_option maxRecDepth 100000 in
theorem cm_in (l : Launch) (dC : Nat → ClassId) (dI : Nat → Nat → Nat) (sz : Nat) (k : Int32) (ka : Int32) (kb : Int32) : Met l yX8_in ww_X8_in ({ frames := 0, cells := 0, slots := 0, locals := 0 }) (va_Pc [.int k, .int ka, .int kb] (fun U => U.heap.size = sz ∧ va_P (dC, dI) classes [] U.heap ∧ va_K (dC, dI) classes [] U ∧ va_D (fun _ => True) [])) (va_Qi (fun (r : Int32) (_ : Unit) => r = fk_in k ka kb) (fun (_ : Unit) (_ : State) => True) (va_A [] sz)) 0 0 (va_A [] sz) := by
  refine Met.ofW (cc := cX8_in) (maxL := 3) (ret := (some .boolean)) (by decide) rfl ?_
  intro p e s m args below meth c s₁ B hml hv
  obtain ⟨rfl, hsz, hP, hK, hD0⟩ := hv
  have hx := B.exec
  have hb := B.bytes
  have hr := B.returns
  have hts := atoms_spec (ws := ww_X8_in) B.pre
  have hown : s.vm.findClass RX8 = some m.cls := findClass_of_methodNamed B.named
  have hlocks := B.notSynchronized
  subst hsz
  have hD := hD0.self (sz := s.heap.size)
  generalize hAe : va_A [] s.heap.size = A at hD ⊢
  have hA : ∀ q : Nat, s.heap.size ≤ q → A q := fun q h => by rw [← hAe]; exact Or.inr h
  have hS : va_S A s.heap s.heap [] := va_S.rf
  have hP : va_P (dC, dI) classes [] s.heap := hP
  have hl := lv_entry ([.int k, .int ka, .int kb]) (n := 3) (Nat.le_of_ble_eq_true rfl)
  rw [lg_entry_eq]
  generalize (lg_sl ([.int k, .int ka, .int kb]) ++ List.replicate (3 - (lg_sl ([.int k, .int ka, .int kb])).length) Slot.unset).toArray = ls at hl ⊢
  have hl : lv_has ls 3 [(0, .int k), (1, .int ka), (2, .int kb)] := hl
  generalize hHe : s.heap = H at hP ⊢
  have hS : va_S A s.heap H [] := by rw [← hHe]; exact va_S.rf
  refine lv_iload_n hx hb dX8_in_0 rfl (lv_at hl 0 rfl) ?_
  refine lv_iload_n hx hb dX8_in_1 rfl (lv_at hl 1 rfl) ?_
  refine lv_icmp_lt (tgt := 14) hx hb dX8_in_2 (by decide) (fun c140 => ?_) (fun c140 => ?_)
  · refine lv_iconst (v := 0) hx hb dX8_in_14 (by decide) ?_
    refine W.widen (k := 0) (n := 0) (Nat.le_of_ble_eq_true rfl) (Nat.le_of_ble_eq_true rfl) ?_
    exact W.zret (v := 0) (ty := .boolean) hx hb hr (by decide) (fun t ht hW => ⟨⟨0, (), rfl, (by unfold fk_in; rw [if_pos c140]), trivial⟩, hS.F ht⟩) hS.2.2 dX8_in_15
  · refine lv_iload_n hx hb dX8_in_5 rfl (lv_at hl 0 rfl) ?_
    refine lv_iload_n hx hb dX8_in_6 rfl (lv_at hl 2 rfl) ?_
    refine lv_icmp_gt (tgt := 14) hx hb dX8_in_7 (by decide) (fun c141 => ?_) (fun c141 => ?_)
    · refine lv_iconst (v := 0) hx hb dX8_in_14 (by decide) ?_
      refine W.widen (k := 0) (n := 0) (Nat.le_of_ble_eq_true rfl) (Nat.le_of_ble_eq_true rfl) ?_
      exact W.zret (v := 0) (ty := .boolean) hx hb hr (by decide) (fun t ht hW => ⟨⟨0, (), rfl, (by unfold fk_in; rw [if_neg c140, if_pos c141]), trivial⟩, hS.F ht⟩) hS.2.2 dX8_in_15
    · refine lv_iconst (v := 1) hx hb dX8_in_10 (by decide) ?_
      refine lv_goto (tgt := 15) hx hb dX8_in_11 (by decide) ?_
      refine W.widen (k := 0) (n := 0) (Nat.le_of_ble_eq_true rfl) (Nat.le_of_ble_eq_true rfl) ?_
      exact W.zret (v := 1) (ty := .boolean) hx hb hr (by decide) (fun t ht hW => ⟨⟨1, (), rfl, (by unfold fk_in; rw [if_neg c140, if_neg c141]), trivial⟩, hS.F ht⟩) hS.2.2 dX8_in_15
end
section
def ww_X8_feedOne : List Cond := .code yX8_feedOne cX8_feedOne 3 none :: ([.fieldLink RX8 137 "LeafSignerModel" "tape" "[B", .fieldLink RX8 244 "LeafSignerModel" "taped" "I"] ++ (wsX80))
theorem iX8_feedOne_X8 : ∀ w ∈ wsX80, w ∈ ww_X8_feedOne := fun w h => List.mem_cons_of_mem _ (List.mem_append_right _ h)
set_option maxHeartbeats 4000000 in
set_option maxRecDepth 100000 in
theorem cm_feedOne (l : Launch) (dC : Nat → ClassId) (dI : Nat → Nat → Nat) (sz : Nat) (mm : Nat) (k : Int32) (hi : Int32) (ri : Int32) (li : Int32) (cnt : Int32) (cMt : ClassId) (f : (Nat → Int32)) (g : (Nat → Nat)) (n1 : Int32) (n2 : Int32) (n3 : Int32) (n4 : Int32) (v0 : vp_in cnt 200) (v1 : vp_in n1 200) (v2 : vp_in n2 200) (v3 : vp_in n3 200) (e1 : cnt + 1 = n1) (e2 : n1 + 1 = n2) (e3 : n2 + 1 = n3) (e4 : n3 + 1 = n4) : Met l yX8_feedOne ww_X8_feedOne ({ frames := 0, cells := 0, slots := 0, locals := 0 }) (va_Pc [.ref mm, .int k] (fun U => U.heap.size = sz ∧ va_P (dC, dI) classes [(mm, .inr (8, [.int hi, .int ri, .int li, .ref (g 3), .ref (g 4), .ref (g 5), .ref (g 6), .ref (g 7), .ref (g 8), .int 0, .ref (g 10), .ref (g 11), .ref (g 12), .ref (g 13), .ref (g 14), .ref (g 15), .ref (g 16), .ref (g 17), .ref (g 18), .ref (g 19), .ref (g 20), .ref (g 21), .int 0, .ref (g 23), .ref (g 24), .ref (g 25), .ref (g 26), .ref (g 27), .int cnt, .int 0, .int 0, .int 0, .int 0, .int 0, .int 0, .int (-1), .int 0, .ref (g 37), .ref (g 38), .ref (g 39)])), ((g 23), .inl (cMt, 200, .inl f))] U.heap ∧ va_K (dC, dI) classes [(cMt, .byte)] U ∧ va_D (fun _ => True) [(mm, .inr (8, [.int hi, .int ri, .int li, .ref (g 3), .ref (g 4), .ref (g 5), .ref (g 6), .ref (g 7), .ref (g 8), .int 0, .ref (g 10), .ref (g 11), .ref (g 12), .ref (g 13), .ref (g 14), .ref (g 15), .ref (g 16), .ref (g 17), .ref (g 18), .ref (g 19), .ref (g 20), .ref (g 21), .int 0, .ref (g 23), .ref (g 24), .ref (g 25), .ref (g 26), .ref (g 27), .int cnt, .int 0, .int 0, .int 0, .int 0, .int 0, .int 0, .int (-1), .int 0, .ref (g 37), .ref (g 38), .ref (g 39)])), ((g 23), .inl (cMt, 200, .inl f))])) (va_Qv (fun (_ : Unit) => True) (fun (_ : Unit) (t : State) => ∃ f2 : (Nat → Int32), va_P (dC, dI) classes [(mm, .inr (8, [.int hi, .int ri, .int li, .ref (g 3), .ref (g 4), .ref (g 5), .ref (g 6), .ref (g 7), .ref (g 8), .int 0, .ref (g 10), .ref (g 11), .ref (g 12), .ref (g 13), .ref (g 14), .ref (g 15), .ref (g 16), .ref (g 17), .ref (g 18), .ref (g 19), .ref (g 20), .ref (g 21), .int 0, .ref (g 23), .ref (g 24), .ref (g 25), .ref (g 26), .ref (g 27), .int n4, .int 0, .int 0, .int 0, .int 0, .int 0, .int 0, .int (-1), .int 0, .ref (g 37), .ref (g 38), .ref (g 39)])), ((g 23), .inl (cMt, 200, .inl f2))] t.heap ∧ va_K (dC, dI) classes [(cMt, .byte)] t ∧ va_D (va_A [(mm, .inr (8, [.int hi, .int ri, .int li, .ref (g 3), .ref (g 4), .ref (g 5), .ref (g 6), .ref (g 7), .ref (g 8), .int 0, .ref (g 10), .ref (g 11), .ref (g 12), .ref (g 13), .ref (g 14), .ref (g 15), .ref (g 16), .ref (g 17), .ref (g 18), .ref (g 19), .ref (g 20), .ref (g 21), .int 0, .ref (g 23), .ref (g 24), .ref (g 25), .ref (g 26), .ref (g 27), .int cnt, .int 0, .int 0, .int 0, .int 0, .int 0, .int 0, .int (-1), .int 0, .ref (g 37), .ref (g 38), .ref (g 39)])), ((g 23), .inl (cMt, 200, .inl f))] sz) [(mm, .inr (8, [.int hi, .int ri, .int li, .ref (g 3), .ref (g 4), .ref (g 5), .ref (g 6), .ref (g 7), .ref (g 8), .int 0, .ref (g 10), .ref (g 11), .ref (g 12), .ref (g 13), .ref (g 14), .ref (g 15), .ref (g 16), .ref (g 17), .ref (g 18), .ref (g 19), .ref (g 20), .ref (g 21), .int 0, .ref (g 23), .ref (g 24), .ref (g 25), .ref (g 26), .ref (g 27), .int n4, .int 0, .int 0, .int 0, .int 0, .int 0, .int 0, .int (-1), .int 0, .ref (g 37), .ref (g 38), .ref (g 39)])), ((g 23), .inl (cMt, 200, .inl f2))]) (va_A [(mm, .inr (8, [.int hi, .int ri, .int li, .ref (g 3), .ref (g 4), .ref (g 5), .ref (g 6), .ref (g 7), .ref (g 8), .int 0, .ref (g 10), .ref (g 11), .ref (g 12), .ref (g 13), .ref (g 14), .ref (g 15), .ref (g 16), .ref (g 17), .ref (g 18), .ref (g 19), .ref (g 20), .ref (g 21), .int 0, .ref (g 23), .ref (g 24), .ref (g 25), .ref (g 26), .ref (g 27), .int cnt, .int 0, .int 0, .int 0, .int 0, .int 0, .int 0, .int (-1), .int 0, .ref (g 37), .ref (g 38), .ref (g 39)])), ((g 23), .inl (cMt, 200, .inl f))] sz)) 0 0 (va_A [(mm, .inr (8, [.int hi, .int ri, .int li, .ref (g 3), .ref (g 4), .ref (g 5), .ref (g 6), .ref (g 7), .ref (g 8), .int 0, .ref (g 10), .ref (g 11), .ref (g 12), .ref (g 13), .ref (g 14), .ref (g 15), .ref (g 16), .ref (g 17), .ref (g 18), .ref (g 19), .ref (g 20), .ref (g 21), .int 0, .ref (g 23), .ref (g 24), .ref (g 25), .ref (g 26), .ref (g 27), .int cnt, .int 0, .int 0, .int 0, .int 0, .int 0, .int 0, .int (-1), .int 0, .ref (g 37), .ref (g 38), .ref (g 39)])), ((g 23), .inl (cMt, 200, .inl f))] sz) := by
  refine Met.ofW (cc := cX8_feedOne) (maxL := 3) (ret := none) (by decide) rfl ?_
  intro p e s m args below meth c s₁ B hml hv
  obtain ⟨rfl, hsz, hP, hK, hD0⟩ := hv
  have hx := B.exec
  have hb := B.bytes
  have hr := B.returns
  have hts := atoms_spec (ws := ww_X8_feedOne) B.pre
  have hown : s.vm.findClass RX8 = some m.cls := findClass_of_methodNamed B.named
  have hlocks := B.notSynchronized
  subst hsz
  have hD := hD0.self (sz := s.heap.size)
  generalize hAe : va_A [(mm, .inr (8, [.int hi, .int ri, .int li, .ref (g 3), .ref (g 4), .ref (g 5), .ref (g 6), .ref (g 7), .ref (g 8), .int 0, .ref (g 10), .ref (g 11), .ref (g 12), .ref (g 13), .ref (g 14), .ref (g 15), .ref (g 16), .ref (g 17), .ref (g 18), .ref (g 19), .ref (g 20), .ref (g 21), .int 0, .ref (g 23), .ref (g 24), .ref (g 25), .ref (g 26), .ref (g 27), .int cnt, .int 0, .int 0, .int 0, .int 0, .int 0, .int 0, .int (-1), .int 0, .ref (g 37), .ref (g 38), .ref (g 39)])), ((g 23), .inl (cMt, 200, .inl f))] s.heap.size = A at hD ⊢
  have hA : ∀ q : Nat, s.heap.size ≤ q → A q := fun q h => by rw [← hAe]; exact Or.inr h
  have hS : va_S A s.heap s.heap [] := va_S.rf
  have hP : va_P (dC, dI) classes [(mm, .inr (8, [.int hi, .int ri, .int li, .ref (g 3), .ref (g 4), .ref (g 5), .ref (g 6), .ref (g 7), .ref (g 8), .int 0, .ref (g 10), .ref (g 11), .ref (g 12), .ref (g 13), .ref (g 14), .ref (g 15), .ref (g 16), .ref (g 17), .ref (g 18), .ref (g 19), .ref (g 20), .ref (g 21), .int 0, .ref (g 23), .ref (g 24), .ref (g 25), .ref (g 26), .ref (g 27), .int cnt, .int 0, .int 0, .int 0, .int 0, .int 0, .int 0, .int (-1), .int 0, .ref (g 37), .ref (g 38), .ref (g 39)])), ((g 23), .inl (cMt, 200, .inl f))] s.heap := hP
  have hl := lv_entry ([.ref mm, .int k]) (n := 3) (Nat.le_of_ble_eq_true rfl)
  rw [lg_entry_eq]
  generalize (lg_sl ([.ref mm, .int k]) ++ List.replicate (3 - (lg_sl ([.ref mm, .int k])).length) Slot.unset).toArray = ls at hl ⊢
  have hl : lv_has ls 3 [(0, .ref mm), (1, .int k)] := hl
  generalize hHe : s.heap = H at hP ⊢
  have hS : va_S A s.heap H [] := by rw [← hHe]; exact va_S.rf
  refine lv_bipush (v := 24) hx hb dX8_feedOne_0 (by decide) ?_
  refine lv_istore_n (lv' := [(2, .int 24), (0, .ref mm), (1, .int k)]) hx hb dX8_feedOne_2 rfl hl (by decide) rfl (fun ls hl => ?_)
  refine lv_iload_n hx hb dX8_feedOne_3 rfl (lv_at hl 0 rfl) ?_
  refine lv_if_lt (tgt := 36) hx hb dX8_feedOne_4 (by decide) (fun c142 => absurd c142 (by decide)) (fun c142 => ?_)
  refine lv_aload_n hx hb dX8_feedOne_7 rfl (lv_at hl 1 rfl) ?_
  refine va_get (D := (dC, dI)) (ci := 8) (v := .ref (g 23)) (C := RX8) (T := TX8) (N := 40) hx hb hts iX8_feedOne_X8 hown hK hP 0 rfl rfl 23 (by decide) (hts (.fieldLink RX8 137 "LeafSignerModel" "tape" "[B") (List.mem_of_getElem? (i := 1) rfl)) (fun _ h9 => h9) rfl dX8_feedOne_8 ?_
  refine lv_aload_n hx hb dX8_feedOne_11 rfl (lv_at hl 1 rfl) ?_
  refine va_get (D := (dC, dI)) (ci := 8) (v := .int cnt) (C := RX8) (T := TX8) (N := 40) hx hb hts iX8_feedOne_X8 hown hK hP 0 rfl rfl 28 (by decide) (hts (.fieldLink RX8 244 "LeafSignerModel" "taped" "I") (List.mem_of_getElem? (i := 2) rfl)) (fun _ h9 => h9) rfl dX8_feedOne_12 ?_
  refine lv_iload_n hx hb dX8_feedOne_15 rfl (lv_at hl 2 rfl) ?_
  refine lv_iload_n hx hb dX8_feedOne_16 rfl (lv_at hl 0 rfl) ?_
  refine lv_ishr hx hb dX8_feedOne_17 ?_
  refine lv_i2b (v := ((k >>> ((24 : Int32) &&& 31)).toInt8.toInt32)) hx hb dX8_feedOne_18 rfl ?_
  refine vx_bast hx hb hK hP hD hS 1 0 rfl rfl v0 dX8_feedOne_19 (fun H locs f143 hP hD hS => ?_)
  have hP : va_P (dC, dI) classes [(mm, .inr (8, [.int hi, .int ri, .int li, .ref (g 3), .ref (g 4), .ref (g 5), .ref (g 6), .ref (g 7), .ref (g 8), .int 0, .ref (g 10), .ref (g 11), .ref (g 12), .ref (g 13), .ref (g 14), .ref (g 15), .ref (g 16), .ref (g 17), .ref (g 18), .ref (g 19), .ref (g 20), .ref (g 21), .int 0, .ref (g 23), .ref (g 24), .ref (g 25), .ref (g 26), .ref (g 27), .int cnt, .int 0, .int 0, .int 0, .int 0, .int 0, .int 0, .int (-1), .int 0, .ref (g 37), .ref (g 38), .ref (g 39)])), ((g 23), .inl (cMt, 200, .inl f143))] H := hP
  have hD : va_D A [(mm, .inr (8, [.int hi, .int ri, .int li, .ref (g 3), .ref (g 4), .ref (g 5), .ref (g 6), .ref (g 7), .ref (g 8), .int 0, .ref (g 10), .ref (g 11), .ref (g 12), .ref (g 13), .ref (g 14), .ref (g 15), .ref (g 16), .ref (g 17), .ref (g 18), .ref (g 19), .ref (g 20), .ref (g 21), .int 0, .ref (g 23), .ref (g 24), .ref (g 25), .ref (g 26), .ref (g 27), .int cnt, .int 0, .int 0, .int 0, .int 0, .int 0, .int 0, .int (-1), .int 0, .ref (g 37), .ref (g 38), .ref (g 39)])), ((g 23), .inl (cMt, 200, .inl f143))] := hD
  refine lv_aload_n hx hb dX8_feedOne_20 rfl (lv_at hl 1 rfl) ?_
  refine lv_dup hx hb dX8_feedOne_21 rfl ?_
  refine va_get (D := (dC, dI)) (ci := 8) (v := .int cnt) (C := RX8) (T := TX8) (N := 40) hx hb hts iX8_feedOne_X8 hown hK hP 0 rfl rfl 28 (by decide) (hts (.fieldLink RX8 244 "LeafSignerModel" "taped" "I") (List.mem_of_getElem? (i := 2) rfl)) (fun _ h9 => h9) rfl dX8_feedOne_22 ?_
  refine lv_iconst (v := 1) hx hb dX8_feedOne_25 (by decide) ?_
  refine lv_iadd hx hb dX8_feedOne_26 ?_
  refine vx_topk n1 e1 ?_
  refine va_put (D := (dC, dI)) (ci := 8) (v := .int n1) (ty := .int) (C := RX8) (T := TX8) (N := 40) hx hb hts iX8_feedOne_X8 tyX8 tyX8_ok nmX8 hown hK hP hD hS 0 rfl rfl 28 (by decide) (hts (.fieldLink RX8 244 "LeafSignerModel" "taped" "I") (List.mem_of_getElem? (i := 2) rfl)) (fun _ h9 => h9) rfl (by decide +kernel) rfl rfl (Nat.le_of_ble_eq_true rfl) dX8_feedOne_27 (fun H locs hP hD hS => ?_)
  have hP : va_P (dC, dI) classes [(mm, .inr (8, [.int hi, .int ri, .int li, .ref (g 3), .ref (g 4), .ref (g 5), .ref (g 6), .ref (g 7), .ref (g 8), .int 0, .ref (g 10), .ref (g 11), .ref (g 12), .ref (g 13), .ref (g 14), .ref (g 15), .ref (g 16), .ref (g 17), .ref (g 18), .ref (g 19), .ref (g 20), .ref (g 21), .int 0, .ref (g 23), .ref (g 24), .ref (g 25), .ref (g 26), .ref (g 27), .int n1, .int 0, .int 0, .int 0, .int 0, .int 0, .int 0, .int (-1), .int 0, .ref (g 37), .ref (g 38), .ref (g 39)])), ((g 23), .inl (cMt, 200, .inl f143))] H := hP
  have hD : va_D A [(mm, .inr (8, [.int hi, .int ri, .int li, .ref (g 3), .ref (g 4), .ref (g 5), .ref (g 6), .ref (g 7), .ref (g 8), .int 0, .ref (g 10), .ref (g 11), .ref (g 12), .ref (g 13), .ref (g 14), .ref (g 15), .ref (g 16), .ref (g 17), .ref (g 18), .ref (g 19), .ref (g 20), .ref (g 21), .int 0, .ref (g 23), .ref (g 24), .ref (g 25), .ref (g 26), .ref (g 27), .int n1, .int 0, .int 0, .int 0, .int 0, .int 0, .int 0, .int (-1), .int 0, .ref (g 37), .ref (g 38), .ref (g 39)])), ((g 23), .inl (cMt, 200, .inl f143))] := hD
  refine lv_iinc (v := 16) (lv' := [(2, .int 16), (0, .ref mm), (1, .int k)]) hx hb dX8_feedOne_30 hl (k := 0) rfl (by decide) (by decide) rfl (fun ls hl => ?_)
  refine lv_goto (tgt := 3) hx hb dX8_feedOne_33 (by decide) ?_
  refine lv_iload_n hx hb dX8_feedOne_3 rfl (lv_at hl 0 rfl) ?_
  refine lv_if_lt (tgt := 36) hx hb dX8_feedOne_4 (by decide) (fun c144 => absurd c144 (by decide)) (fun c144 => ?_)
  refine lv_aload_n hx hb dX8_feedOne_7 rfl (lv_at hl 1 rfl) ?_
  refine va_get (D := (dC, dI)) (ci := 8) (v := .ref (g 23)) (C := RX8) (T := TX8) (N := 40) hx hb hts iX8_feedOne_X8 hown hK hP 0 rfl rfl 23 (by decide) (hts (.fieldLink RX8 137 "LeafSignerModel" "tape" "[B") (List.mem_of_getElem? (i := 1) rfl)) (fun _ h9 => h9) rfl dX8_feedOne_8 ?_
  refine lv_aload_n hx hb dX8_feedOne_11 rfl (lv_at hl 1 rfl) ?_
  refine va_get (D := (dC, dI)) (ci := 8) (v := .int n1) (C := RX8) (T := TX8) (N := 40) hx hb hts iX8_feedOne_X8 hown hK hP 0 rfl rfl 28 (by decide) (hts (.fieldLink RX8 244 "LeafSignerModel" "taped" "I") (List.mem_of_getElem? (i := 2) rfl)) (fun _ h9 => h9) rfl dX8_feedOne_12 ?_
  refine lv_iload_n hx hb dX8_feedOne_15 rfl (lv_at hl 2 rfl) ?_
  refine lv_iload_n hx hb dX8_feedOne_16 rfl (lv_at hl 0 rfl) ?_
  refine lv_ishr hx hb dX8_feedOne_17 ?_
  refine lv_i2b (v := ((k >>> ((16 : Int32) &&& 31)).toInt8.toInt32)) hx hb dX8_feedOne_18 rfl ?_
  refine vx_bast hx hb hK hP hD hS 1 0 rfl rfl v1 dX8_feedOne_19 (fun H locs f145 hP hD hS => ?_)
  have hP : va_P (dC, dI) classes [(mm, .inr (8, [.int hi, .int ri, .int li, .ref (g 3), .ref (g 4), .ref (g 5), .ref (g 6), .ref (g 7), .ref (g 8), .int 0, .ref (g 10), .ref (g 11), .ref (g 12), .ref (g 13), .ref (g 14), .ref (g 15), .ref (g 16), .ref (g 17), .ref (g 18), .ref (g 19), .ref (g 20), .ref (g 21), .int 0, .ref (g 23), .ref (g 24), .ref (g 25), .ref (g 26), .ref (g 27), .int n1, .int 0, .int 0, .int 0, .int 0, .int 0, .int 0, .int (-1), .int 0, .ref (g 37), .ref (g 38), .ref (g 39)])), ((g 23), .inl (cMt, 200, .inl f145))] H := hP
  have hD : va_D A [(mm, .inr (8, [.int hi, .int ri, .int li, .ref (g 3), .ref (g 4), .ref (g 5), .ref (g 6), .ref (g 7), .ref (g 8), .int 0, .ref (g 10), .ref (g 11), .ref (g 12), .ref (g 13), .ref (g 14), .ref (g 15), .ref (g 16), .ref (g 17), .ref (g 18), .ref (g 19), .ref (g 20), .ref (g 21), .int 0, .ref (g 23), .ref (g 24), .ref (g 25), .ref (g 26), .ref (g 27), .int n1, .int 0, .int 0, .int 0, .int 0, .int 0, .int 0, .int (-1), .int 0, .ref (g 37), .ref (g 38), .ref (g 39)])), ((g 23), .inl (cMt, 200, .inl f145))] := hD
  refine lv_aload_n hx hb dX8_feedOne_20 rfl (lv_at hl 1 rfl) ?_
  refine lv_dup hx hb dX8_feedOne_21 rfl ?_
  refine va_get (D := (dC, dI)) (ci := 8) (v := .int n1) (C := RX8) (T := TX8) (N := 40) hx hb hts iX8_feedOne_X8 hown hK hP 0 rfl rfl 28 (by decide) (hts (.fieldLink RX8 244 "LeafSignerModel" "taped" "I") (List.mem_of_getElem? (i := 2) rfl)) (fun _ h9 => h9) rfl dX8_feedOne_22 ?_
  refine lv_iconst (v := 1) hx hb dX8_feedOne_25 (by decide) ?_
  refine lv_iadd hx hb dX8_feedOne_26 ?_
  refine vx_topk n2 e2 ?_
  refine va_put (D := (dC, dI)) (ci := 8) (v := .int n2) (ty := .int) (C := RX8) (T := TX8) (N := 40) hx hb hts iX8_feedOne_X8 tyX8 tyX8_ok nmX8 hown hK hP hD hS 0 rfl rfl 28 (by decide) (hts (.fieldLink RX8 244 "LeafSignerModel" "taped" "I") (List.mem_of_getElem? (i := 2) rfl)) (fun _ h9 => h9) rfl (by decide +kernel) rfl rfl (Nat.le_of_ble_eq_true rfl) dX8_feedOne_27 (fun H locs hP hD hS => ?_)
  have hP : va_P (dC, dI) classes [(mm, .inr (8, [.int hi, .int ri, .int li, .ref (g 3), .ref (g 4), .ref (g 5), .ref (g 6), .ref (g 7), .ref (g 8), .int 0, .ref (g 10), .ref (g 11), .ref (g 12), .ref (g 13), .ref (g 14), .ref (g 15), .ref (g 16), .ref (g 17), .ref (g 18), .ref (g 19), .ref (g 20), .ref (g 21), .int 0, .ref (g 23), .ref (g 24), .ref (g 25), .ref (g 26), .ref (g 27), .int n2, .int 0, .int 0, .int 0, .int 0, .int 0, .int 0, .int (-1), .int 0, .ref (g 37), .ref (g 38), .ref (g 39)])), ((g 23), .inl (cMt, 200, .inl f145))] H := hP
  have hD : va_D A [(mm, .inr (8, [.int hi, .int ri, .int li, .ref (g 3), .ref (g 4), .ref (g 5), .ref (g 6), .ref (g 7), .ref (g 8), .int 0, .ref (g 10), .ref (g 11), .ref (g 12), .ref (g 13), .ref (g 14), .ref (g 15), .ref (g 16), .ref (g 17), .ref (g 18), .ref (g 19), .ref (g 20), .ref (g 21), .int 0, .ref (g 23), .ref (g 24), .ref (g 25), .ref (g 26), .ref (g 27), .int n2, .int 0, .int 0, .int 0, .int 0, .int 0, .int 0, .int (-1), .int 0, .ref (g 37), .ref (g 38), .ref (g 39)])), ((g 23), .inl (cMt, 200, .inl f145))] := hD
  refine lv_iinc (v := 8) (lv' := [(2, .int 8), (0, .ref mm), (1, .int k)]) hx hb dX8_feedOne_30 hl (k := 0) rfl (by decide) (by decide) rfl (fun ls hl => ?_)
  refine lv_goto (tgt := 3) hx hb dX8_feedOne_33 (by decide) ?_
  refine lv_iload_n hx hb dX8_feedOne_3 rfl (lv_at hl 0 rfl) ?_
  refine lv_if_lt (tgt := 36) hx hb dX8_feedOne_4 (by decide) (fun c146 => absurd c146 (by decide)) (fun c146 => ?_)
  refine lv_aload_n hx hb dX8_feedOne_7 rfl (lv_at hl 1 rfl) ?_
  refine va_get (D := (dC, dI)) (ci := 8) (v := .ref (g 23)) (C := RX8) (T := TX8) (N := 40) hx hb hts iX8_feedOne_X8 hown hK hP 0 rfl rfl 23 (by decide) (hts (.fieldLink RX8 137 "LeafSignerModel" "tape" "[B") (List.mem_of_getElem? (i := 1) rfl)) (fun _ h9 => h9) rfl dX8_feedOne_8 ?_
  refine lv_aload_n hx hb dX8_feedOne_11 rfl (lv_at hl 1 rfl) ?_
  refine va_get (D := (dC, dI)) (ci := 8) (v := .int n2) (C := RX8) (T := TX8) (N := 40) hx hb hts iX8_feedOne_X8 hown hK hP 0 rfl rfl 28 (by decide) (hts (.fieldLink RX8 244 "LeafSignerModel" "taped" "I") (List.mem_of_getElem? (i := 2) rfl)) (fun _ h9 => h9) rfl dX8_feedOne_12 ?_
  refine lv_iload_n hx hb dX8_feedOne_15 rfl (lv_at hl 2 rfl) ?_
  refine lv_iload_n hx hb dX8_feedOne_16 rfl (lv_at hl 0 rfl) ?_
  refine lv_ishr hx hb dX8_feedOne_17 ?_
  refine lv_i2b (v := ((k >>> ((8 : Int32) &&& 31)).toInt8.toInt32)) hx hb dX8_feedOne_18 rfl ?_
  refine vx_bast hx hb hK hP hD hS 1 0 rfl rfl v2 dX8_feedOne_19 (fun H locs f147 hP hD hS => ?_)
  have hP : va_P (dC, dI) classes [(mm, .inr (8, [.int hi, .int ri, .int li, .ref (g 3), .ref (g 4), .ref (g 5), .ref (g 6), .ref (g 7), .ref (g 8), .int 0, .ref (g 10), .ref (g 11), .ref (g 12), .ref (g 13), .ref (g 14), .ref (g 15), .ref (g 16), .ref (g 17), .ref (g 18), .ref (g 19), .ref (g 20), .ref (g 21), .int 0, .ref (g 23), .ref (g 24), .ref (g 25), .ref (g 26), .ref (g 27), .int n2, .int 0, .int 0, .int 0, .int 0, .int 0, .int 0, .int (-1), .int 0, .ref (g 37), .ref (g 38), .ref (g 39)])), ((g 23), .inl (cMt, 200, .inl f147))] H := hP
  have hD : va_D A [(mm, .inr (8, [.int hi, .int ri, .int li, .ref (g 3), .ref (g 4), .ref (g 5), .ref (g 6), .ref (g 7), .ref (g 8), .int 0, .ref (g 10), .ref (g 11), .ref (g 12), .ref (g 13), .ref (g 14), .ref (g 15), .ref (g 16), .ref (g 17), .ref (g 18), .ref (g 19), .ref (g 20), .ref (g 21), .int 0, .ref (g 23), .ref (g 24), .ref (g 25), .ref (g 26), .ref (g 27), .int n2, .int 0, .int 0, .int 0, .int 0, .int 0, .int 0, .int (-1), .int 0, .ref (g 37), .ref (g 38), .ref (g 39)])), ((g 23), .inl (cMt, 200, .inl f147))] := hD
  refine lv_aload_n hx hb dX8_feedOne_20 rfl (lv_at hl 1 rfl) ?_
  refine lv_dup hx hb dX8_feedOne_21 rfl ?_
  refine va_get (D := (dC, dI)) (ci := 8) (v := .int n2) (C := RX8) (T := TX8) (N := 40) hx hb hts iX8_feedOne_X8 hown hK hP 0 rfl rfl 28 (by decide) (hts (.fieldLink RX8 244 "LeafSignerModel" "taped" "I") (List.mem_of_getElem? (i := 2) rfl)) (fun _ h9 => h9) rfl dX8_feedOne_22 ?_
  refine lv_iconst (v := 1) hx hb dX8_feedOne_25 (by decide) ?_
  refine lv_iadd hx hb dX8_feedOne_26 ?_
  refine vx_topk n3 e3 ?_
  refine va_put (D := (dC, dI)) (ci := 8) (v := .int n3) (ty := .int) (C := RX8) (T := TX8) (N := 40) hx hb hts iX8_feedOne_X8 tyX8 tyX8_ok nmX8 hown hK hP hD hS 0 rfl rfl 28 (by decide) (hts (.fieldLink RX8 244 "LeafSignerModel" "taped" "I") (List.mem_of_getElem? (i := 2) rfl)) (fun _ h9 => h9) rfl (by decide +kernel) rfl rfl (Nat.le_of_ble_eq_true rfl) dX8_feedOne_27 (fun H locs hP hD hS => ?_)
  have hP : va_P (dC, dI) classes [(mm, .inr (8, [.int hi, .int ri, .int li, .ref (g 3), .ref (g 4), .ref (g 5), .ref (g 6), .ref (g 7), .ref (g 8), .int 0, .ref (g 10), .ref (g 11), .ref (g 12), .ref (g 13), .ref (g 14), .ref (g 15), .ref (g 16), .ref (g 17), .ref (g 18), .ref (g 19), .ref (g 20), .ref (g 21), .int 0, .ref (g 23), .ref (g 24), .ref (g 25), .ref (g 26), .ref (g 27), .int n3, .int 0, .int 0, .int 0, .int 0, .int 0, .int 0, .int (-1), .int 0, .ref (g 37), .ref (g 38), .ref (g 39)])), ((g 23), .inl (cMt, 200, .inl f147))] H := hP
  have hD : va_D A [(mm, .inr (8, [.int hi, .int ri, .int li, .ref (g 3), .ref (g 4), .ref (g 5), .ref (g 6), .ref (g 7), .ref (g 8), .int 0, .ref (g 10), .ref (g 11), .ref (g 12), .ref (g 13), .ref (g 14), .ref (g 15), .ref (g 16), .ref (g 17), .ref (g 18), .ref (g 19), .ref (g 20), .ref (g 21), .int 0, .ref (g 23), .ref (g 24), .ref (g 25), .ref (g 26), .ref (g 27), .int n3, .int 0, .int 0, .int 0, .int 0, .int 0, .int 0, .int (-1), .int 0, .ref (g 37), .ref (g 38), .ref (g 39)])), ((g 23), .inl (cMt, 200, .inl f147))] := hD
  refine lv_iinc (v := 0) (lv' := [(2, .int 0), (0, .ref mm), (1, .int k)]) hx hb dX8_feedOne_30 hl (k := 0) rfl (by decide) (by decide) rfl (fun ls hl => ?_)
  refine lv_goto (tgt := 3) hx hb dX8_feedOne_33 (by decide) ?_
  refine lv_iload_n hx hb dX8_feedOne_3 rfl (lv_at hl 0 rfl) ?_
  refine lv_if_lt (tgt := 36) hx hb dX8_feedOne_4 (by decide) (fun c148 => absurd c148 (by decide)) (fun c148 => ?_)
  refine lv_aload_n hx hb dX8_feedOne_7 rfl (lv_at hl 1 rfl) ?_
  refine va_get (D := (dC, dI)) (ci := 8) (v := .ref (g 23)) (C := RX8) (T := TX8) (N := 40) hx hb hts iX8_feedOne_X8 hown hK hP 0 rfl rfl 23 (by decide) (hts (.fieldLink RX8 137 "LeafSignerModel" "tape" "[B") (List.mem_of_getElem? (i := 1) rfl)) (fun _ h9 => h9) rfl dX8_feedOne_8 ?_
  refine lv_aload_n hx hb dX8_feedOne_11 rfl (lv_at hl 1 rfl) ?_
  refine va_get (D := (dC, dI)) (ci := 8) (v := .int n3) (C := RX8) (T := TX8) (N := 40) hx hb hts iX8_feedOne_X8 hown hK hP 0 rfl rfl 28 (by decide) (hts (.fieldLink RX8 244 "LeafSignerModel" "taped" "I") (List.mem_of_getElem? (i := 2) rfl)) (fun _ h9 => h9) rfl dX8_feedOne_12 ?_
  refine lv_iload_n hx hb dX8_feedOne_15 rfl (lv_at hl 2 rfl) ?_
  refine lv_iload_n hx hb dX8_feedOne_16 rfl (lv_at hl 0 rfl) ?_
  refine lv_ishr hx hb dX8_feedOne_17 ?_
  refine lv_i2b (v := ((k >>> ((0 : Int32) &&& 31)).toInt8.toInt32)) hx hb dX8_feedOne_18 rfl ?_
  refine vx_bast hx hb hK hP hD hS 1 0 rfl rfl v3 dX8_feedOne_19 (fun H locs f149 hP hD hS => ?_)
  have hP : va_P (dC, dI) classes [(mm, .inr (8, [.int hi, .int ri, .int li, .ref (g 3), .ref (g 4), .ref (g 5), .ref (g 6), .ref (g 7), .ref (g 8), .int 0, .ref (g 10), .ref (g 11), .ref (g 12), .ref (g 13), .ref (g 14), .ref (g 15), .ref (g 16), .ref (g 17), .ref (g 18), .ref (g 19), .ref (g 20), .ref (g 21), .int 0, .ref (g 23), .ref (g 24), .ref (g 25), .ref (g 26), .ref (g 27), .int n3, .int 0, .int 0, .int 0, .int 0, .int 0, .int 0, .int (-1), .int 0, .ref (g 37), .ref (g 38), .ref (g 39)])), ((g 23), .inl (cMt, 200, .inl f149))] H := hP
  have hD : va_D A [(mm, .inr (8, [.int hi, .int ri, .int li, .ref (g 3), .ref (g 4), .ref (g 5), .ref (g 6), .ref (g 7), .ref (g 8), .int 0, .ref (g 10), .ref (g 11), .ref (g 12), .ref (g 13), .ref (g 14), .ref (g 15), .ref (g 16), .ref (g 17), .ref (g 18), .ref (g 19), .ref (g 20), .ref (g 21), .int 0, .ref (g 23), .ref (g 24), .ref (g 25), .ref (g 26), .ref (g 27), .int n3, .int 0, .int 0, .int 0, .int 0, .int 0, .int 0, .int (-1), .int 0, .ref (g 37), .ref (g 38), .ref (g 39)])), ((g 23), .inl (cMt, 200, .inl f149))] := hD
  refine lv_aload_n hx hb dX8_feedOne_20 rfl (lv_at hl 1 rfl) ?_
  refine lv_dup hx hb dX8_feedOne_21 rfl ?_
  refine va_get (D := (dC, dI)) (ci := 8) (v := .int n3) (C := RX8) (T := TX8) (N := 40) hx hb hts iX8_feedOne_X8 hown hK hP 0 rfl rfl 28 (by decide) (hts (.fieldLink RX8 244 "LeafSignerModel" "taped" "I") (List.mem_of_getElem? (i := 2) rfl)) (fun _ h9 => h9) rfl dX8_feedOne_22 ?_
  refine lv_iconst (v := 1) hx hb dX8_feedOne_25 (by decide) ?_
  refine lv_iadd hx hb dX8_feedOne_26 ?_
  refine vx_topk n4 e4 ?_
  refine va_put (D := (dC, dI)) (ci := 8) (v := .int n4) (ty := .int) (C := RX8) (T := TX8) (N := 40) hx hb hts iX8_feedOne_X8 tyX8 tyX8_ok nmX8 hown hK hP hD hS 0 rfl rfl 28 (by decide) (hts (.fieldLink RX8 244 "LeafSignerModel" "taped" "I") (List.mem_of_getElem? (i := 2) rfl)) (fun _ h9 => h9) rfl (by decide +kernel) rfl rfl (Nat.le_of_ble_eq_true rfl) dX8_feedOne_27 (fun H locs hP hD hS => ?_)
  have hP : va_P (dC, dI) classes [(mm, .inr (8, [.int hi, .int ri, .int li, .ref (g 3), .ref (g 4), .ref (g 5), .ref (g 6), .ref (g 7), .ref (g 8), .int 0, .ref (g 10), .ref (g 11), .ref (g 12), .ref (g 13), .ref (g 14), .ref (g 15), .ref (g 16), .ref (g 17), .ref (g 18), .ref (g 19), .ref (g 20), .ref (g 21), .int 0, .ref (g 23), .ref (g 24), .ref (g 25), .ref (g 26), .ref (g 27), .int n4, .int 0, .int 0, .int 0, .int 0, .int 0, .int 0, .int (-1), .int 0, .ref (g 37), .ref (g 38), .ref (g 39)])), ((g 23), .inl (cMt, 200, .inl f149))] H := hP
  have hD : va_D A [(mm, .inr (8, [.int hi, .int ri, .int li, .ref (g 3), .ref (g 4), .ref (g 5), .ref (g 6), .ref (g 7), .ref (g 8), .int 0, .ref (g 10), .ref (g 11), .ref (g 12), .ref (g 13), .ref (g 14), .ref (g 15), .ref (g 16), .ref (g 17), .ref (g 18), .ref (g 19), .ref (g 20), .ref (g 21), .int 0, .ref (g 23), .ref (g 24), .ref (g 25), .ref (g 26), .ref (g 27), .int n4, .int 0, .int 0, .int 0, .int 0, .int 0, .int 0, .int (-1), .int 0, .ref (g 37), .ref (g 38), .ref (g 39)])), ((g 23), .inl (cMt, 200, .inl f149))] := hD
  refine lv_iinc (v := (-8)) (lv' := [(2, .int (-8)), (0, .ref mm), (1, .int k)]) hx hb dX8_feedOne_30 hl (k := 0) rfl (by decide) (by decide) rfl (fun ls hl => ?_)
  refine lv_goto (tgt := 3) hx hb dX8_feedOne_33 (by decide) ?_
  refine lv_iload_n hx hb dX8_feedOne_3 rfl (lv_at hl 0 rfl) ?_
  refine lv_if_lt (tgt := 36) hx hb dX8_feedOne_4 (by decide) (fun c150 => ?_) (fun c150 => absurd (by decide) c150)
  refine W.widen (k := 0) (n := 0) (Nat.le_of_ble_eq_true rfl) (Nat.le_of_ble_eq_true rfl) ?_
  have hP9 := hP.sub (ws' := [(mm, .inr (8, [.int hi, .int ri, .int li, .ref (g 3), .ref (g 4), .ref (g 5), .ref (g 6), .ref (g 7), .ref (g 8), .int 0, .ref (g 10), .ref (g 11), .ref (g 12), .ref (g 13), .ref (g 14), .ref (g 15), .ref (g 16), .ref (g 17), .ref (g 18), .ref (g 19), .ref (g 20), .ref (g 21), .int 0, .ref (g 23), .ref (g 24), .ref (g 25), .ref (g 26), .ref (g 27), .int n4, .int 0, .int 0, .int 0, .int 0, .int 0, .int 0, .int (-1), .int 0, .ref (g 37), .ref (g 38), .ref (g 39)])), ((g 23), .inl (cMt, 200, .inl f149))]) [0, 1] rfl
  have hD9 := hD.sub (ws' := [(mm, .inr (8, [.int hi, .int ri, .int li, .ref (g 3), .ref (g 4), .ref (g 5), .ref (g 6), .ref (g 7), .ref (g 8), .int 0, .ref (g 10), .ref (g 11), .ref (g 12), .ref (g 13), .ref (g 14), .ref (g 15), .ref (g 16), .ref (g 17), .ref (g 18), .ref (g 19), .ref (g 20), .ref (g 21), .int 0, .ref (g 23), .ref (g 24), .ref (g 25), .ref (g 26), .ref (g 27), .int n4, .int 0, .int 0, .int 0, .int 0, .int 0, .int 0, .int (-1), .int 0, .ref (g 37), .ref (g 38), .ref (g 39)])), ((g 23), .inl (cMt, 200, .inl f149))]) [0, 1] (by decide) rfl
  have hK9 := hK.sub (tys' := [(cMt, .byte)]) [0] rfl
  exact W.vret hx hb hr (fun t ht hW => ⟨⟨(), rfl, trivial, ⟨f149, by rw [ht]; exact hP9, va_K.moved hW.alike hK9, hD9⟩⟩, hS.F ht⟩) hS.2.2 dX8_feedOne_36
end
section
def ww_X8_feed : List Cond := .code yX8_feed cX8_feed 6 (some .int) :: ([.fieldLink RX8 244 "LeafSignerModel" "taped" "I", .methodLink RX8 247 yX8_feedOne, .instanceMethod yX8_feedOne, .selects RX8 yX8_feedOne yX8_feedOne, .initialized RX8, .code yX8_feedOne cX8_feedOne 3 none, .fieldLink RX8 137 "LeafSignerModel" "tape" "[B"] ++ (wsX80))
theorem iX8_feed_X8 : ∀ w ∈ wsX80, w ∈ ww_X8_feed := fun w h => List.mem_cons_of_mem _ (List.mem_append_right _ h)
set_option maxRecDepth 20000 in
theorem gX8_feed_X8_feedOne_247 : GoodIn ww_X8_feed (wsV RX8 247 RX8 yX8_feedOne ww_X8_feedOne) := vx_good _ [2, 3, 4, 5, 6, 7, 1, 8, 9, 10, 11, 12, 13, 14, 15, 16, 17, 18, 19, 20, 21, 22, 23, 24, 25, 26, 27, 28, 29, 30, 31, 32, 33, 34, 35, 36, 37, 38, 39, 40, 41, 42, 43, 44, 45, 46, 47] rfl (by decide +kernel)
set_option maxHeartbeats 4000000 in
set_option maxRecDepth 100000 in
theorem cm_feed (l : Launch) (dC : Nat → ClassId) (dI : Nat → Nat → Nat) (sz : Nat) (mm : Nat) (k1 : Int32) (k2 : Int32) (k3 : Int32) (k4 : Int32) (k5 : Int32) (hi : Int32) (ri : Int32) (li : Int32) (cMt : ClassId) (g : (Nat → Nat)) : Met l yX8_feed ww_X8_feed ({ frames := 1, cells := 0, slots := 0, locals := 22 }) (va_Pc [.ref mm, .int k1, .int k2, .int k3, .int k4, .int k5] (fun U => U.heap.size = sz ∧ va_P (dC, dI) classes [(mm, .inr (8, [.int hi, .int ri, .int li, .ref (g 3), .ref (g 4), .ref (g 5), .ref (g 6), .ref (g 7), .ref (g 8), .int 0, .ref (g 10), .ref (g 11), .ref (g 12), .ref (g 13), .ref (g 14), .ref (g 15), .ref (g 16), .ref (g 17), .ref (g 18), .ref (g 19), .ref (g 20), .ref (g 21), .int 0, .ref (g 23), .ref (g 24), .ref (g 25), .ref (g 26), .ref (g 27), .int 0, .int 0, .int 0, .int 0, .int 0, .int 0, .int 0, .int (-1), .int 0, .ref (g 37), .ref (g 38), .ref (g 39)])), ((g 23), .inl (cMt, 200, .inl (fun _ => 0)))] U.heap ∧ va_K (dC, dI) classes [(cMt, .byte)] U ∧ va_D (fun _ => True) [(mm, .inr (8, [.int hi, .int ri, .int li, .ref (g 3), .ref (g 4), .ref (g 5), .ref (g 6), .ref (g 7), .ref (g 8), .int 0, .ref (g 10), .ref (g 11), .ref (g 12), .ref (g 13), .ref (g 14), .ref (g 15), .ref (g 16), .ref (g 17), .ref (g 18), .ref (g 19), .ref (g 20), .ref (g 21), .int 0, .ref (g 23), .ref (g 24), .ref (g 25), .ref (g 26), .ref (g 27), .int 0, .int 0, .int 0, .int 0, .int 0, .int 0, .int 0, .int (-1), .int 0, .ref (g 37), .ref (g 38), .ref (g 39)])), ((g 23), .inl (cMt, 200, .inl (fun _ => 0)))])) (va_Qi (fun (r : Int32) (_ : Unit) => r = 20) (fun (_ : Unit) (_ : State) => True) (va_A [(mm, .inr (8, [.int hi, .int ri, .int li, .ref (g 3), .ref (g 4), .ref (g 5), .ref (g 6), .ref (g 7), .ref (g 8), .int 0, .ref (g 10), .ref (g 11), .ref (g 12), .ref (g 13), .ref (g 14), .ref (g 15), .ref (g 16), .ref (g 17), .ref (g 18), .ref (g 19), .ref (g 20), .ref (g 21), .int 0, .ref (g 23), .ref (g 24), .ref (g 25), .ref (g 26), .ref (g 27), .int 0, .int 0, .int 0, .int 0, .int 0, .int 0, .int 0, .int (-1), .int 0, .ref (g 37), .ref (g 38), .ref (g 39)])), ((g 23), .inl (cMt, 200, .inl (fun _ => 0)))] sz)) 0 0 (va_A [(mm, .inr (8, [.int hi, .int ri, .int li, .ref (g 3), .ref (g 4), .ref (g 5), .ref (g 6), .ref (g 7), .ref (g 8), .int 0, .ref (g 10), .ref (g 11), .ref (g 12), .ref (g 13), .ref (g 14), .ref (g 15), .ref (g 16), .ref (g 17), .ref (g 18), .ref (g 19), .ref (g 20), .ref (g 21), .int 0, .ref (g 23), .ref (g 24), .ref (g 25), .ref (g 26), .ref (g 27), .int 0, .int 0, .int 0, .int 0, .int 0, .int 0, .int 0, .int (-1), .int 0, .ref (g 37), .ref (g 38), .ref (g 39)])), ((g 23), .inl (cMt, 200, .inl (fun _ => 0)))] sz) := by
  refine Met.ofW (cc := cX8_feed) (maxL := 6) (ret := (some .int)) (by decide) rfl ?_
  intro p e s m args below meth c s₁ B hml hv
  obtain ⟨rfl, hsz, hP, hK, hD0⟩ := hv
  have hx := B.exec
  have hb := B.bytes
  have hr := B.returns
  have hts := atoms_spec (ws := ww_X8_feed) B.pre
  have hown : s.vm.findClass RX8 = some m.cls := findClass_of_methodNamed B.named
  have hlocks := B.notSynchronized
  subst hsz
  have hD := hD0.self (sz := s.heap.size)
  generalize hAe : va_A [(mm, .inr (8, [.int hi, .int ri, .int li, .ref (g 3), .ref (g 4), .ref (g 5), .ref (g 6), .ref (g 7), .ref (g 8), .int 0, .ref (g 10), .ref (g 11), .ref (g 12), .ref (g 13), .ref (g 14), .ref (g 15), .ref (g 16), .ref (g 17), .ref (g 18), .ref (g 19), .ref (g 20), .ref (g 21), .int 0, .ref (g 23), .ref (g 24), .ref (g 25), .ref (g 26), .ref (g 27), .int 0, .int 0, .int 0, .int 0, .int 0, .int 0, .int 0, .int (-1), .int 0, .ref (g 37), .ref (g 38), .ref (g 39)])), ((g 23), .inl (cMt, 200, .inl (fun _ => 0)))] s.heap.size = A at hD ⊢
  have hA : ∀ q : Nat, s.heap.size ≤ q → A q := fun q h => by rw [← hAe]; exact Or.inr h
  have hS : va_S A s.heap s.heap [] := va_S.rf
  have hP : va_P (dC, dI) classes [(mm, .inr (8, [.int hi, .int ri, .int li, .ref (g 3), .ref (g 4), .ref (g 5), .ref (g 6), .ref (g 7), .ref (g 8), .int 0, .ref (g 10), .ref (g 11), .ref (g 12), .ref (g 13), .ref (g 14), .ref (g 15), .ref (g 16), .ref (g 17), .ref (g 18), .ref (g 19), .ref (g 20), .ref (g 21), .int 0, .ref (g 23), .ref (g 24), .ref (g 25), .ref (g 26), .ref (g 27), .int 0, .int 0, .int 0, .int 0, .int 0, .int 0, .int 0, .int (-1), .int 0, .ref (g 37), .ref (g 38), .ref (g 39)])), ((g 23), .inl (cMt, 200, .inl (fun _ => 0)))] s.heap := hP
  have hl := lv_entry ([.ref mm, .int k1, .int k2, .int k3, .int k4, .int k5]) (n := 6) (Nat.le_of_ble_eq_true rfl)
  rw [lg_entry_eq]
  generalize (lg_sl ([.ref mm, .int k1, .int k2, .int k3, .int k4, .int k5]) ++ List.replicate (6 - (lg_sl ([.ref mm, .int k1, .int k2, .int k3, .int k4, .int k5])).length) Slot.unset).toArray = ls at hl ⊢
  have hl : lv_has ls 6 [(0, .ref mm), (1, .int k1), (2, .int k2), (3, .int k3), (4, .int k4), (5, .int k5)] := hl
  generalize hHe : s.heap = H at hP ⊢
  have hS : va_S A s.heap H [] := by rw [← hHe]; exact va_S.rf
  refine lv_aload_n hx hb dX8_feed_0 rfl (lv_at hl 0 rfl) ?_
  refine va_get (D := (dC, dI)) (ci := 8) (v := .int 0) (C := RX8) (T := TX8) (N := 40) hx hb hts iX8_feed_X8 hown hK hP 0 rfl rfl 28 (by decide) (hts (.fieldLink RX8 244 "LeafSignerModel" "taped" "I") (List.mem_of_getElem? (i := 1) rfl)) (fun _ h9 => h9) rfl dX8_feed_1 ?_
  refine lv_bipush (v := 20) hx hb dX8_feed_4 (by decide) ?_
  refine lv_iadd hx hb dX8_feed_6 ?_
  refine vx_topk 20 (by decide) ?_
  refine lv_sipush (v := 200) hx hb dX8_feed_7 (by decide) ?_
  refine lv_icmp_le (tgt := 15) hx hb dX8_feed_10 (by decide) (fun c151 => ?_) (fun c151 => absurd (by decide) c151)
  refine lv_aload_n hx hb dX8_feed_15 rfl (lv_at hl 0 rfl) ?_
  refine lv_iload_n hx hb dX8_feed_16 rfl (lv_at hl 1 rfl) ?_
  have hPc := hP.sub (ws' := [(mm, .inr (8, [.int hi, .int ri, .int li, .ref (g 3), .ref (g 4), .ref (g 5), .ref (g 6), .ref (g 7), .ref (g 8), .int 0, .ref (g 10), .ref (g 11), .ref (g 12), .ref (g 13), .ref (g 14), .ref (g 15), .ref (g 16), .ref (g 17), .ref (g 18), .ref (g 19), .ref (g 20), .ref (g 21), .int 0, .ref (g 23), .ref (g 24), .ref (g 25), .ref (g 26), .ref (g 27), .int 0, .int 0, .int 0, .int 0, .int 0, .int 0, .int 0, .int (-1), .int 0, .ref (g 37), .ref (g 38), .ref (g 39)])), ((g 23), .inl (cMt, 200, .inl (fun _ => 0)))]) [0, 1] rfl
  have hDc := hD.sub (ws' := [(mm, .inr (8, [.int hi, .int ri, .int li, .ref (g 3), .ref (g 4), .ref (g 5), .ref (g 6), .ref (g 7), .ref (g 8), .int 0, .ref (g 10), .ref (g 11), .ref (g 12), .ref (g 13), .ref (g 14), .ref (g 15), .ref (g 16), .ref (g 17), .ref (g 18), .ref (g 19), .ref (g 20), .ref (g 21), .int 0, .ref (g 23), .ref (g 24), .ref (g 25), .ref (g 26), .ref (g 27), .int 0, .int 0, .int 0, .int 0, .int 0, .int 0, .int 0, .int (-1), .int 0, .ref (g 37), .ref (g 38), .ref (g 39)])), ((g 23), .inl (cMt, 200, .inl (fun _ => 0)))]) [0, 1] (by decide) rfl
  have hKc := hK.sub (tys' := [(cMt, .byte)]) [0] rfl
  have hFc := va_free (wc := [(mm, .inr (8, [.int hi, .int ri, .int li, .ref (g 3), .ref (g 4), .ref (g 5), .ref (g 6), .ref (g 7), .ref (g 8), .int 0, .ref (g 10), .ref (g 11), .ref (g 12), .ref (g 13), .ref (g 14), .ref (g 15), .ref (g 16), .ref (g 17), .ref (g 18), .ref (g 19), .ref (g 20), .ref (g 21), .int 0, .ref (g 23), .ref (g 24), .ref (g 25), .ref (g 26), .ref (g 27), .int 0, .int 0, .int 0, .int 0, .int 0, .int 0, .int 0, .int (-1), .int 0, .ref (g 37), .ref (g 38), .ref (g 39)])), ((g 23), .inl (cMt, 200, .inl (fun _ => 0)))]) hD hS hA [0, 1] rfl
  refine va_callv (va_runV (As := [.int k1]) (rest := []) ⟨hx, hb, hml, hown, hts⟩ (cm_feedOne l dC dI H.size mm k1 hi ri li 0 cMt (fun _ => 0) g 1 2 3 4 (vx_in (by decide)) (vx_in (by decide)) (vx_in (by decide)) (vx_in (by decide)) (by decide) (by decide) (by decide) (by decide)) (cwV 1 hts gX8_feed_X8_feedOne_247 rfl rfl rfl (by decide +kernel) ⟨(Nat.le_of_ble_eq_true rfl), (Nat.le_of_ble_eq_true rfl)⟩) ⟨fun a U g mk q => by obtain ⟨q0, q1, qP, qK, qD⟩ := q; exact ⟨q0, q1, qP, va_K.moved (u := U) (U := U.calling g mk a) (Vm.Alike.refl U.vm) qK, qD⟩, va_recv hKc hPc (ci := 8) (q0 := 0) rfl rfl, fun U hU hW => ⟨rfl, by rw [hU], by rw [hU]; exact hPc, va_K.moved hW.alike hKc, hDc.weaken (fun _ _ _ _ => trivial)⟩⟩ rfl rfl hl.1 rfl (lv_room (Nat.le_of_ble_eq_true rfl)) dX8_feed_17 ⟨(Nat.le_of_ble_eq_true rfl), (Nat.le_of_ble_eq_true rfl)⟩) hS (fun q _ h => hFc q h) hFc (fun u t H1 locs ht hvm hw hB hz1 hk1 hS => ?_)
  obtain ⟨f_153, hP1, hK1, hD1⟩ := hB
  rw [ht] at hP1
  have hK1 := va_K.moved hvm.symm hK1
  obtain ⟨hP, hD⟩ := va_join (wr := []) (w1 := [(mm, .inr (8, [.int hi, .int ri, .int li, .ref (g 3), .ref (g 4), .ref (g 5), .ref (g 6), .ref (g 7), .ref (g 8), .int 0, .ref (g 10), .ref (g 11), .ref (g 12), .ref (g 13), .ref (g 14), .ref (g 15), .ref (g 16), .ref (g 17), .ref (g 18), .ref (g 19), .ref (g 20), .ref (g 21), .int 0, .ref (g 23), .ref (g 24), .ref (g 25), .ref (g 26), .ref (g 27), .int 4, .int 0, .int 0, .int 0, .int 0, .int 0, .int 0, .int (-1), .int 0, .ref (g 37), .ref (g 38), .ref (g 39)])), ((g 23), .inl (cMt, 200, .inl f_153))]) hP hD [0, 1] [] rfl rfl (by decide) (by decide) hk1 hFc hP1 hD1
  have hK := hK.sub (tys' := []) [] rfl
  have hK := hK.app hK1
  generalize H1 = H at hP hS ⊢
  have hP : va_P (dC, dI) classes [(mm, .inr (8, [.int hi, .int ri, .int li, .ref (g 3), .ref (g 4), .ref (g 5), .ref (g 6), .ref (g 7), .ref (g 8), .int 0, .ref (g 10), .ref (g 11), .ref (g 12), .ref (g 13), .ref (g 14), .ref (g 15), .ref (g 16), .ref (g 17), .ref (g 18), .ref (g 19), .ref (g 20), .ref (g 21), .int 0, .ref (g 23), .ref (g 24), .ref (g 25), .ref (g 26), .ref (g 27), .int 4, .int 0, .int 0, .int 0, .int 0, .int 0, .int 0, .int (-1), .int 0, .ref (g 37), .ref (g 38), .ref (g 39)])), ((g 23), .inl (cMt, 200, .inl f_153))] H := hP
  have hD : va_D A [(mm, .inr (8, [.int hi, .int ri, .int li, .ref (g 3), .ref (g 4), .ref (g 5), .ref (g 6), .ref (g 7), .ref (g 8), .int 0, .ref (g 10), .ref (g 11), .ref (g 12), .ref (g 13), .ref (g 14), .ref (g 15), .ref (g 16), .ref (g 17), .ref (g 18), .ref (g 19), .ref (g 20), .ref (g 21), .int 0, .ref (g 23), .ref (g 24), .ref (g 25), .ref (g 26), .ref (g 27), .int 4, .int 0, .int 0, .int 0, .int 0, .int 0, .int 0, .int (-1), .int 0, .ref (g 37), .ref (g 38), .ref (g 39)])), ((g 23), .inl (cMt, 200, .inl f_153))] := hD
  have hK : va_K (dC, dI) classes [(cMt, .byte)] s := hK
  refine W.widen (k := 0) (n := 0) (Nat.le_of_ble_eq_true rfl) (Nat.le_of_ble_eq_true rfl) ?_
  refine lv_aload_n hx hb dX8_feed_20 rfl (lv_at hl 0 rfl) ?_
  refine lv_iload_n hx hb dX8_feed_21 rfl (lv_at hl 2 rfl) ?_
  have hPc := hP.sub (ws' := [(mm, .inr (8, [.int hi, .int ri, .int li, .ref (g 3), .ref (g 4), .ref (g 5), .ref (g 6), .ref (g 7), .ref (g 8), .int 0, .ref (g 10), .ref (g 11), .ref (g 12), .ref (g 13), .ref (g 14), .ref (g 15), .ref (g 16), .ref (g 17), .ref (g 18), .ref (g 19), .ref (g 20), .ref (g 21), .int 0, .ref (g 23), .ref (g 24), .ref (g 25), .ref (g 26), .ref (g 27), .int 4, .int 0, .int 0, .int 0, .int 0, .int 0, .int 0, .int (-1), .int 0, .ref (g 37), .ref (g 38), .ref (g 39)])), ((g 23), .inl (cMt, 200, .inl f_153))]) [0, 1] rfl
  have hDc := hD.sub (ws' := [(mm, .inr (8, [.int hi, .int ri, .int li, .ref (g 3), .ref (g 4), .ref (g 5), .ref (g 6), .ref (g 7), .ref (g 8), .int 0, .ref (g 10), .ref (g 11), .ref (g 12), .ref (g 13), .ref (g 14), .ref (g 15), .ref (g 16), .ref (g 17), .ref (g 18), .ref (g 19), .ref (g 20), .ref (g 21), .int 0, .ref (g 23), .ref (g 24), .ref (g 25), .ref (g 26), .ref (g 27), .int 4, .int 0, .int 0, .int 0, .int 0, .int 0, .int 0, .int (-1), .int 0, .ref (g 37), .ref (g 38), .ref (g 39)])), ((g 23), .inl (cMt, 200, .inl f_153))]) [0, 1] (by decide) rfl
  have hKc := hK.sub (tys' := [(cMt, .byte)]) [0] rfl
  have hFc := va_free (wc := [(mm, .inr (8, [.int hi, .int ri, .int li, .ref (g 3), .ref (g 4), .ref (g 5), .ref (g 6), .ref (g 7), .ref (g 8), .int 0, .ref (g 10), .ref (g 11), .ref (g 12), .ref (g 13), .ref (g 14), .ref (g 15), .ref (g 16), .ref (g 17), .ref (g 18), .ref (g 19), .ref (g 20), .ref (g 21), .int 0, .ref (g 23), .ref (g 24), .ref (g 25), .ref (g 26), .ref (g 27), .int 4, .int 0, .int 0, .int 0, .int 0, .int 0, .int 0, .int (-1), .int 0, .ref (g 37), .ref (g 38), .ref (g 39)])), ((g 23), .inl (cMt, 200, .inl f_153))]) hD hS hA [0, 1] rfl
  refine va_callv (va_runV (As := [.int k2]) (rest := []) ⟨hx, hb, hml, hown, hts⟩ (cm_feedOne l dC dI H.size mm k2 hi ri li 4 cMt f_153 g 5 6 7 8 (vx_in (by decide)) (vx_in (by decide)) (vx_in (by decide)) (vx_in (by decide)) (by decide) (by decide) (by decide) (by decide)) (cwV 1 hts gX8_feed_X8_feedOne_247 rfl rfl rfl (by decide +kernel) ⟨(Nat.le_of_ble_eq_true rfl), (Nat.le_of_ble_eq_true rfl)⟩) ⟨fun a U g mk q => by obtain ⟨q0, q1, qP, qK, qD⟩ := q; exact ⟨q0, q1, qP, va_K.moved (u := U) (U := U.calling g mk a) (Vm.Alike.refl U.vm) qK, qD⟩, va_recv hKc hPc (ci := 8) (q0 := 0) rfl rfl, fun U hU hW => ⟨rfl, by rw [hU], by rw [hU]; exact hPc, va_K.moved hW.alike hKc, hDc.weaken (fun _ _ _ _ => trivial)⟩⟩ rfl rfl hl.1 rfl (lv_room (Nat.le_of_ble_eq_true rfl)) dX8_feed_22 ⟨(Nat.le_of_ble_eq_true rfl), (Nat.le_of_ble_eq_true rfl)⟩) hS (fun q _ h => hFc q h) hFc (fun u t H1 locs ht hvm hw hB hz1 hk1 hS => ?_)
  obtain ⟨f_155, hP1, hK1, hD1⟩ := hB
  rw [ht] at hP1
  have hK1 := va_K.moved hvm.symm hK1
  obtain ⟨hP, hD⟩ := va_join (wr := []) (w1 := [(mm, .inr (8, [.int hi, .int ri, .int li, .ref (g 3), .ref (g 4), .ref (g 5), .ref (g 6), .ref (g 7), .ref (g 8), .int 0, .ref (g 10), .ref (g 11), .ref (g 12), .ref (g 13), .ref (g 14), .ref (g 15), .ref (g 16), .ref (g 17), .ref (g 18), .ref (g 19), .ref (g 20), .ref (g 21), .int 0, .ref (g 23), .ref (g 24), .ref (g 25), .ref (g 26), .ref (g 27), .int 8, .int 0, .int 0, .int 0, .int 0, .int 0, .int 0, .int (-1), .int 0, .ref (g 37), .ref (g 38), .ref (g 39)])), ((g 23), .inl (cMt, 200, .inl f_155))]) hP hD [0, 1] [] rfl rfl (by decide) (by decide) hk1 hFc hP1 hD1
  have hK := hK.sub (tys' := []) [] rfl
  have hK := hK.app hK1
  generalize H1 = H at hP hS ⊢
  have hP : va_P (dC, dI) classes [(mm, .inr (8, [.int hi, .int ri, .int li, .ref (g 3), .ref (g 4), .ref (g 5), .ref (g 6), .ref (g 7), .ref (g 8), .int 0, .ref (g 10), .ref (g 11), .ref (g 12), .ref (g 13), .ref (g 14), .ref (g 15), .ref (g 16), .ref (g 17), .ref (g 18), .ref (g 19), .ref (g 20), .ref (g 21), .int 0, .ref (g 23), .ref (g 24), .ref (g 25), .ref (g 26), .ref (g 27), .int 8, .int 0, .int 0, .int 0, .int 0, .int 0, .int 0, .int (-1), .int 0, .ref (g 37), .ref (g 38), .ref (g 39)])), ((g 23), .inl (cMt, 200, .inl f_155))] H := hP
  have hD : va_D A [(mm, .inr (8, [.int hi, .int ri, .int li, .ref (g 3), .ref (g 4), .ref (g 5), .ref (g 6), .ref (g 7), .ref (g 8), .int 0, .ref (g 10), .ref (g 11), .ref (g 12), .ref (g 13), .ref (g 14), .ref (g 15), .ref (g 16), .ref (g 17), .ref (g 18), .ref (g 19), .ref (g 20), .ref (g 21), .int 0, .ref (g 23), .ref (g 24), .ref (g 25), .ref (g 26), .ref (g 27), .int 8, .int 0, .int 0, .int 0, .int 0, .int 0, .int 0, .int (-1), .int 0, .ref (g 37), .ref (g 38), .ref (g 39)])), ((g 23), .inl (cMt, 200, .inl f_155))] := hD
  have hK : va_K (dC, dI) classes [(cMt, .byte)] s := hK
  refine W.widen (k := 0) (n := 0) (Nat.le_of_ble_eq_true rfl) (Nat.le_of_ble_eq_true rfl) ?_
  refine lv_aload_n hx hb dX8_feed_25 rfl (lv_at hl 0 rfl) ?_
  refine lv_iload_n hx hb dX8_feed_26 rfl (lv_at hl 3 rfl) ?_
  have hPc := hP.sub (ws' := [(mm, .inr (8, [.int hi, .int ri, .int li, .ref (g 3), .ref (g 4), .ref (g 5), .ref (g 6), .ref (g 7), .ref (g 8), .int 0, .ref (g 10), .ref (g 11), .ref (g 12), .ref (g 13), .ref (g 14), .ref (g 15), .ref (g 16), .ref (g 17), .ref (g 18), .ref (g 19), .ref (g 20), .ref (g 21), .int 0, .ref (g 23), .ref (g 24), .ref (g 25), .ref (g 26), .ref (g 27), .int 8, .int 0, .int 0, .int 0, .int 0, .int 0, .int 0, .int (-1), .int 0, .ref (g 37), .ref (g 38), .ref (g 39)])), ((g 23), .inl (cMt, 200, .inl f_155))]) [0, 1] rfl
  have hDc := hD.sub (ws' := [(mm, .inr (8, [.int hi, .int ri, .int li, .ref (g 3), .ref (g 4), .ref (g 5), .ref (g 6), .ref (g 7), .ref (g 8), .int 0, .ref (g 10), .ref (g 11), .ref (g 12), .ref (g 13), .ref (g 14), .ref (g 15), .ref (g 16), .ref (g 17), .ref (g 18), .ref (g 19), .ref (g 20), .ref (g 21), .int 0, .ref (g 23), .ref (g 24), .ref (g 25), .ref (g 26), .ref (g 27), .int 8, .int 0, .int 0, .int 0, .int 0, .int 0, .int 0, .int (-1), .int 0, .ref (g 37), .ref (g 38), .ref (g 39)])), ((g 23), .inl (cMt, 200, .inl f_155))]) [0, 1] (by decide) rfl
  have hKc := hK.sub (tys' := [(cMt, .byte)]) [0] rfl
  have hFc := va_free (wc := [(mm, .inr (8, [.int hi, .int ri, .int li, .ref (g 3), .ref (g 4), .ref (g 5), .ref (g 6), .ref (g 7), .ref (g 8), .int 0, .ref (g 10), .ref (g 11), .ref (g 12), .ref (g 13), .ref (g 14), .ref (g 15), .ref (g 16), .ref (g 17), .ref (g 18), .ref (g 19), .ref (g 20), .ref (g 21), .int 0, .ref (g 23), .ref (g 24), .ref (g 25), .ref (g 26), .ref (g 27), .int 8, .int 0, .int 0, .int 0, .int 0, .int 0, .int 0, .int (-1), .int 0, .ref (g 37), .ref (g 38), .ref (g 39)])), ((g 23), .inl (cMt, 200, .inl f_155))]) hD hS hA [0, 1] rfl
  refine va_callv (va_runV (As := [.int k3]) (rest := []) ⟨hx, hb, hml, hown, hts⟩ (cm_feedOne l dC dI H.size mm k3 hi ri li 8 cMt f_155 g 9 10 11 12 (vx_in (by decide)) (vx_in (by decide)) (vx_in (by decide)) (vx_in (by decide)) (by decide) (by decide) (by decide) (by decide)) (cwV 1 hts gX8_feed_X8_feedOne_247 rfl rfl rfl (by decide +kernel) ⟨(Nat.le_of_ble_eq_true rfl), (Nat.le_of_ble_eq_true rfl)⟩) ⟨fun a U g mk q => by obtain ⟨q0, q1, qP, qK, qD⟩ := q; exact ⟨q0, q1, qP, va_K.moved (u := U) (U := U.calling g mk a) (Vm.Alike.refl U.vm) qK, qD⟩, va_recv hKc hPc (ci := 8) (q0 := 0) rfl rfl, fun U hU hW => ⟨rfl, by rw [hU], by rw [hU]; exact hPc, va_K.moved hW.alike hKc, hDc.weaken (fun _ _ _ _ => trivial)⟩⟩ rfl rfl hl.1 rfl (lv_room (Nat.le_of_ble_eq_true rfl)) dX8_feed_27 ⟨(Nat.le_of_ble_eq_true rfl), (Nat.le_of_ble_eq_true rfl)⟩) hS (fun q _ h => hFc q h) hFc (fun u t H1 locs ht hvm hw hB hz1 hk1 hS => ?_)
  obtain ⟨f_157, hP1, hK1, hD1⟩ := hB
  rw [ht] at hP1
  have hK1 := va_K.moved hvm.symm hK1
  obtain ⟨hP, hD⟩ := va_join (wr := []) (w1 := [(mm, .inr (8, [.int hi, .int ri, .int li, .ref (g 3), .ref (g 4), .ref (g 5), .ref (g 6), .ref (g 7), .ref (g 8), .int 0, .ref (g 10), .ref (g 11), .ref (g 12), .ref (g 13), .ref (g 14), .ref (g 15), .ref (g 16), .ref (g 17), .ref (g 18), .ref (g 19), .ref (g 20), .ref (g 21), .int 0, .ref (g 23), .ref (g 24), .ref (g 25), .ref (g 26), .ref (g 27), .int 12, .int 0, .int 0, .int 0, .int 0, .int 0, .int 0, .int (-1), .int 0, .ref (g 37), .ref (g 38), .ref (g 39)])), ((g 23), .inl (cMt, 200, .inl f_157))]) hP hD [0, 1] [] rfl rfl (by decide) (by decide) hk1 hFc hP1 hD1
  have hK := hK.sub (tys' := []) [] rfl
  have hK := hK.app hK1
  generalize H1 = H at hP hS ⊢
  have hP : va_P (dC, dI) classes [(mm, .inr (8, [.int hi, .int ri, .int li, .ref (g 3), .ref (g 4), .ref (g 5), .ref (g 6), .ref (g 7), .ref (g 8), .int 0, .ref (g 10), .ref (g 11), .ref (g 12), .ref (g 13), .ref (g 14), .ref (g 15), .ref (g 16), .ref (g 17), .ref (g 18), .ref (g 19), .ref (g 20), .ref (g 21), .int 0, .ref (g 23), .ref (g 24), .ref (g 25), .ref (g 26), .ref (g 27), .int 12, .int 0, .int 0, .int 0, .int 0, .int 0, .int 0, .int (-1), .int 0, .ref (g 37), .ref (g 38), .ref (g 39)])), ((g 23), .inl (cMt, 200, .inl f_157))] H := hP
  have hD : va_D A [(mm, .inr (8, [.int hi, .int ri, .int li, .ref (g 3), .ref (g 4), .ref (g 5), .ref (g 6), .ref (g 7), .ref (g 8), .int 0, .ref (g 10), .ref (g 11), .ref (g 12), .ref (g 13), .ref (g 14), .ref (g 15), .ref (g 16), .ref (g 17), .ref (g 18), .ref (g 19), .ref (g 20), .ref (g 21), .int 0, .ref (g 23), .ref (g 24), .ref (g 25), .ref (g 26), .ref (g 27), .int 12, .int 0, .int 0, .int 0, .int 0, .int 0, .int 0, .int (-1), .int 0, .ref (g 37), .ref (g 38), .ref (g 39)])), ((g 23), .inl (cMt, 200, .inl f_157))] := hD
  have hK : va_K (dC, dI) classes [(cMt, .byte)] s := hK
  refine W.widen (k := 0) (n := 0) (Nat.le_of_ble_eq_true rfl) (Nat.le_of_ble_eq_true rfl) ?_
  refine lv_aload_n hx hb dX8_feed_30 rfl (lv_at hl 0 rfl) ?_
  refine lv_iload hx hb dX8_feed_31 (lv_at hl 4 rfl) ?_
  have hPc := hP.sub (ws' := [(mm, .inr (8, [.int hi, .int ri, .int li, .ref (g 3), .ref (g 4), .ref (g 5), .ref (g 6), .ref (g 7), .ref (g 8), .int 0, .ref (g 10), .ref (g 11), .ref (g 12), .ref (g 13), .ref (g 14), .ref (g 15), .ref (g 16), .ref (g 17), .ref (g 18), .ref (g 19), .ref (g 20), .ref (g 21), .int 0, .ref (g 23), .ref (g 24), .ref (g 25), .ref (g 26), .ref (g 27), .int 12, .int 0, .int 0, .int 0, .int 0, .int 0, .int 0, .int (-1), .int 0, .ref (g 37), .ref (g 38), .ref (g 39)])), ((g 23), .inl (cMt, 200, .inl f_157))]) [0, 1] rfl
  have hDc := hD.sub (ws' := [(mm, .inr (8, [.int hi, .int ri, .int li, .ref (g 3), .ref (g 4), .ref (g 5), .ref (g 6), .ref (g 7), .ref (g 8), .int 0, .ref (g 10), .ref (g 11), .ref (g 12), .ref (g 13), .ref (g 14), .ref (g 15), .ref (g 16), .ref (g 17), .ref (g 18), .ref (g 19), .ref (g 20), .ref (g 21), .int 0, .ref (g 23), .ref (g 24), .ref (g 25), .ref (g 26), .ref (g 27), .int 12, .int 0, .int 0, .int 0, .int 0, .int 0, .int 0, .int (-1), .int 0, .ref (g 37), .ref (g 38), .ref (g 39)])), ((g 23), .inl (cMt, 200, .inl f_157))]) [0, 1] (by decide) rfl
  have hKc := hK.sub (tys' := [(cMt, .byte)]) [0] rfl
  have hFc := va_free (wc := [(mm, .inr (8, [.int hi, .int ri, .int li, .ref (g 3), .ref (g 4), .ref (g 5), .ref (g 6), .ref (g 7), .ref (g 8), .int 0, .ref (g 10), .ref (g 11), .ref (g 12), .ref (g 13), .ref (g 14), .ref (g 15), .ref (g 16), .ref (g 17), .ref (g 18), .ref (g 19), .ref (g 20), .ref (g 21), .int 0, .ref (g 23), .ref (g 24), .ref (g 25), .ref (g 26), .ref (g 27), .int 12, .int 0, .int 0, .int 0, .int 0, .int 0, .int 0, .int (-1), .int 0, .ref (g 37), .ref (g 38), .ref (g 39)])), ((g 23), .inl (cMt, 200, .inl f_157))]) hD hS hA [0, 1] rfl
  refine va_callv (va_runV (As := [.int k4]) (rest := []) ⟨hx, hb, hml, hown, hts⟩ (cm_feedOne l dC dI H.size mm k4 hi ri li 12 cMt f_157 g 13 14 15 16 (vx_in (by decide)) (vx_in (by decide)) (vx_in (by decide)) (vx_in (by decide)) (by decide) (by decide) (by decide) (by decide)) (cwV 1 hts gX8_feed_X8_feedOne_247 rfl rfl rfl (by decide +kernel) ⟨(Nat.le_of_ble_eq_true rfl), (Nat.le_of_ble_eq_true rfl)⟩) ⟨fun a U g mk q => by obtain ⟨q0, q1, qP, qK, qD⟩ := q; exact ⟨q0, q1, qP, va_K.moved (u := U) (U := U.calling g mk a) (Vm.Alike.refl U.vm) qK, qD⟩, va_recv hKc hPc (ci := 8) (q0 := 0) rfl rfl, fun U hU hW => ⟨rfl, by rw [hU], by rw [hU]; exact hPc, va_K.moved hW.alike hKc, hDc.weaken (fun _ _ _ _ => trivial)⟩⟩ rfl rfl hl.1 rfl (lv_room (Nat.le_of_ble_eq_true rfl)) dX8_feed_33 ⟨(Nat.le_of_ble_eq_true rfl), (Nat.le_of_ble_eq_true rfl)⟩) hS (fun q _ h => hFc q h) hFc (fun u t H1 locs ht hvm hw hB hz1 hk1 hS => ?_)
  obtain ⟨f_159, hP1, hK1, hD1⟩ := hB
  rw [ht] at hP1
  have hK1 := va_K.moved hvm.symm hK1
  obtain ⟨hP, hD⟩ := va_join (wr := []) (w1 := [(mm, .inr (8, [.int hi, .int ri, .int li, .ref (g 3), .ref (g 4), .ref (g 5), .ref (g 6), .ref (g 7), .ref (g 8), .int 0, .ref (g 10), .ref (g 11), .ref (g 12), .ref (g 13), .ref (g 14), .ref (g 15), .ref (g 16), .ref (g 17), .ref (g 18), .ref (g 19), .ref (g 20), .ref (g 21), .int 0, .ref (g 23), .ref (g 24), .ref (g 25), .ref (g 26), .ref (g 27), .int 16, .int 0, .int 0, .int 0, .int 0, .int 0, .int 0, .int (-1), .int 0, .ref (g 37), .ref (g 38), .ref (g 39)])), ((g 23), .inl (cMt, 200, .inl f_159))]) hP hD [0, 1] [] rfl rfl (by decide) (by decide) hk1 hFc hP1 hD1
  have hK := hK.sub (tys' := []) [] rfl
  have hK := hK.app hK1
  generalize H1 = H at hP hS ⊢
  have hP : va_P (dC, dI) classes [(mm, .inr (8, [.int hi, .int ri, .int li, .ref (g 3), .ref (g 4), .ref (g 5), .ref (g 6), .ref (g 7), .ref (g 8), .int 0, .ref (g 10), .ref (g 11), .ref (g 12), .ref (g 13), .ref (g 14), .ref (g 15), .ref (g 16), .ref (g 17), .ref (g 18), .ref (g 19), .ref (g 20), .ref (g 21), .int 0, .ref (g 23), .ref (g 24), .ref (g 25), .ref (g 26), .ref (g 27), .int 16, .int 0, .int 0, .int 0, .int 0, .int 0, .int 0, .int (-1), .int 0, .ref (g 37), .ref (g 38), .ref (g 39)])), ((g 23), .inl (cMt, 200, .inl f_159))] H := hP
  have hD : va_D A [(mm, .inr (8, [.int hi, .int ri, .int li, .ref (g 3), .ref (g 4), .ref (g 5), .ref (g 6), .ref (g 7), .ref (g 8), .int 0, .ref (g 10), .ref (g 11), .ref (g 12), .ref (g 13), .ref (g 14), .ref (g 15), .ref (g 16), .ref (g 17), .ref (g 18), .ref (g 19), .ref (g 20), .ref (g 21), .int 0, .ref (g 23), .ref (g 24), .ref (g 25), .ref (g 26), .ref (g 27), .int 16, .int 0, .int 0, .int 0, .int 0, .int 0, .int 0, .int (-1), .int 0, .ref (g 37), .ref (g 38), .ref (g 39)])), ((g 23), .inl (cMt, 200, .inl f_159))] := hD
  have hK : va_K (dC, dI) classes [(cMt, .byte)] s := hK
  refine W.widen (k := 0) (n := 0) (Nat.le_of_ble_eq_true rfl) (Nat.le_of_ble_eq_true rfl) ?_
  refine lv_aload_n hx hb dX8_feed_36 rfl (lv_at hl 0 rfl) ?_
  refine lv_iload hx hb dX8_feed_37 (lv_at hl 5 rfl) ?_
  have hPc := hP.sub (ws' := [(mm, .inr (8, [.int hi, .int ri, .int li, .ref (g 3), .ref (g 4), .ref (g 5), .ref (g 6), .ref (g 7), .ref (g 8), .int 0, .ref (g 10), .ref (g 11), .ref (g 12), .ref (g 13), .ref (g 14), .ref (g 15), .ref (g 16), .ref (g 17), .ref (g 18), .ref (g 19), .ref (g 20), .ref (g 21), .int 0, .ref (g 23), .ref (g 24), .ref (g 25), .ref (g 26), .ref (g 27), .int 16, .int 0, .int 0, .int 0, .int 0, .int 0, .int 0, .int (-1), .int 0, .ref (g 37), .ref (g 38), .ref (g 39)])), ((g 23), .inl (cMt, 200, .inl f_159))]) [0, 1] rfl
  have hDc := hD.sub (ws' := [(mm, .inr (8, [.int hi, .int ri, .int li, .ref (g 3), .ref (g 4), .ref (g 5), .ref (g 6), .ref (g 7), .ref (g 8), .int 0, .ref (g 10), .ref (g 11), .ref (g 12), .ref (g 13), .ref (g 14), .ref (g 15), .ref (g 16), .ref (g 17), .ref (g 18), .ref (g 19), .ref (g 20), .ref (g 21), .int 0, .ref (g 23), .ref (g 24), .ref (g 25), .ref (g 26), .ref (g 27), .int 16, .int 0, .int 0, .int 0, .int 0, .int 0, .int 0, .int (-1), .int 0, .ref (g 37), .ref (g 38), .ref (g 39)])), ((g 23), .inl (cMt, 200, .inl f_159))]) [0, 1] (by decide) rfl
  have hKc := hK.sub (tys' := [(cMt, .byte)]) [0] rfl
  have hFc := va_free (wc := [(mm, .inr (8, [.int hi, .int ri, .int li, .ref (g 3), .ref (g 4), .ref (g 5), .ref (g 6), .ref (g 7), .ref (g 8), .int 0, .ref (g 10), .ref (g 11), .ref (g 12), .ref (g 13), .ref (g 14), .ref (g 15), .ref (g 16), .ref (g 17), .ref (g 18), .ref (g 19), .ref (g 20), .ref (g 21), .int 0, .ref (g 23), .ref (g 24), .ref (g 25), .ref (g 26), .ref (g 27), .int 16, .int 0, .int 0, .int 0, .int 0, .int 0, .int 0, .int (-1), .int 0, .ref (g 37), .ref (g 38), .ref (g 39)])), ((g 23), .inl (cMt, 200, .inl f_159))]) hD hS hA [0, 1] rfl
  refine va_callv (va_runV (As := [.int k5]) (rest := []) ⟨hx, hb, hml, hown, hts⟩ (cm_feedOne l dC dI H.size mm k5 hi ri li 16 cMt f_159 g 17 18 19 20 (vx_in (by decide)) (vx_in (by decide)) (vx_in (by decide)) (vx_in (by decide)) (by decide) (by decide) (by decide) (by decide)) (cwV 1 hts gX8_feed_X8_feedOne_247 rfl rfl rfl (by decide +kernel) ⟨(Nat.le_of_ble_eq_true rfl), (Nat.le_of_ble_eq_true rfl)⟩) ⟨fun a U g mk q => by obtain ⟨q0, q1, qP, qK, qD⟩ := q; exact ⟨q0, q1, qP, va_K.moved (u := U) (U := U.calling g mk a) (Vm.Alike.refl U.vm) qK, qD⟩, va_recv hKc hPc (ci := 8) (q0 := 0) rfl rfl, fun U hU hW => ⟨rfl, by rw [hU], by rw [hU]; exact hPc, va_K.moved hW.alike hKc, hDc.weaken (fun _ _ _ _ => trivial)⟩⟩ rfl rfl hl.1 rfl (lv_room (Nat.le_of_ble_eq_true rfl)) dX8_feed_39 ⟨(Nat.le_of_ble_eq_true rfl), (Nat.le_of_ble_eq_true rfl)⟩) hS (fun q _ h => hFc q h) hFc (fun u t H1 locs ht hvm hw hB hz1 hk1 hS => ?_)
  obtain ⟨f_161, hP1, hK1, hD1⟩ := hB
  rw [ht] at hP1
  have hK1 := va_K.moved hvm.symm hK1
  obtain ⟨hP, hD⟩ := va_join (wr := []) (w1 := [(mm, .inr (8, [.int hi, .int ri, .int li, .ref (g 3), .ref (g 4), .ref (g 5), .ref (g 6), .ref (g 7), .ref (g 8), .int 0, .ref (g 10), .ref (g 11), .ref (g 12), .ref (g 13), .ref (g 14), .ref (g 15), .ref (g 16), .ref (g 17), .ref (g 18), .ref (g 19), .ref (g 20), .ref (g 21), .int 0, .ref (g 23), .ref (g 24), .ref (g 25), .ref (g 26), .ref (g 27), .int 20, .int 0, .int 0, .int 0, .int 0, .int 0, .int 0, .int (-1), .int 0, .ref (g 37), .ref (g 38), .ref (g 39)])), ((g 23), .inl (cMt, 200, .inl f_161))]) hP hD [0, 1] [] rfl rfl (by decide) (by decide) hk1 hFc hP1 hD1
  have hK := hK.sub (tys' := []) [] rfl
  have hK := hK.app hK1
  generalize H1 = H at hP hS ⊢
  have hP : va_P (dC, dI) classes [(mm, .inr (8, [.int hi, .int ri, .int li, .ref (g 3), .ref (g 4), .ref (g 5), .ref (g 6), .ref (g 7), .ref (g 8), .int 0, .ref (g 10), .ref (g 11), .ref (g 12), .ref (g 13), .ref (g 14), .ref (g 15), .ref (g 16), .ref (g 17), .ref (g 18), .ref (g 19), .ref (g 20), .ref (g 21), .int 0, .ref (g 23), .ref (g 24), .ref (g 25), .ref (g 26), .ref (g 27), .int 20, .int 0, .int 0, .int 0, .int 0, .int 0, .int 0, .int (-1), .int 0, .ref (g 37), .ref (g 38), .ref (g 39)])), ((g 23), .inl (cMt, 200, .inl f_161))] H := hP
  have hD : va_D A [(mm, .inr (8, [.int hi, .int ri, .int li, .ref (g 3), .ref (g 4), .ref (g 5), .ref (g 6), .ref (g 7), .ref (g 8), .int 0, .ref (g 10), .ref (g 11), .ref (g 12), .ref (g 13), .ref (g 14), .ref (g 15), .ref (g 16), .ref (g 17), .ref (g 18), .ref (g 19), .ref (g 20), .ref (g 21), .int 0, .ref (g 23), .ref (g 24), .ref (g 25), .ref (g 26), .ref (g 27), .int 20, .int 0, .int 0, .int 0, .int 0, .int 0, .int 0, .int (-1), .int 0, .ref (g 37), .ref (g 38), .ref (g 39)])), ((g 23), .inl (cMt, 200, .inl f_161))] := hD
  have hK : va_K (dC, dI) classes [(cMt, .byte)] s := hK
  refine W.widen (k := 0) (n := 0) (Nat.le_of_ble_eq_true rfl) (Nat.le_of_ble_eq_true rfl) ?_
  refine lv_aload_n hx hb dX8_feed_42 rfl (lv_at hl 0 rfl) ?_
  refine va_get (D := (dC, dI)) (ci := 8) (v := .int 20) (C := RX8) (T := TX8) (N := 40) hx hb hts iX8_feed_X8 hown hK hP 0 rfl rfl 28 (by decide) (hts (.fieldLink RX8 244 "LeafSignerModel" "taped" "I") (List.mem_of_getElem? (i := 1) rfl)) (fun _ h9 => h9) rfl dX8_feed_43 ?_
  refine W.widen (k := 0) (n := 0) (Nat.le_of_ble_eq_true rfl) (Nat.le_of_ble_eq_true rfl) ?_
  exact W.iret (v := 20) hx hb hr (fun t ht hW => ⟨⟨20, (), rfl, rfl, trivial⟩, hS.F ht⟩) hS.2.2 dX8_feed_46
end
section
def ww_X8_keys : List Cond := .code yX8_keys cX8_keys 2 (some .boolean) :: ([.fieldLink RX8 244 "LeafSignerModel" "taped" "I"] ++ (wsX80))
theorem iX8_keys_X8 : ∀ w ∈ wsX80, w ∈ ww_X8_keys := fun w h => List.mem_cons_of_mem _ (List.mem_append_right _ h)
set_option maxHeartbeats 4000000 in
set_option maxRecDepth 100000 in
theorem cm_keys (l : Launch) (dC : Nat → ClassId) (dI : Nat → Nat → Nat) (sz : Nat) (mm : Nat) (hi : Int32) (ri : Int32) (li : Int32) (g : (Nat → Nat)) : Met l yX8_keys ww_X8_keys ({ frames := 0, cells := 0, slots := 0, locals := 0 }) (va_Pc [.ref mm] (fun U => U.heap.size = sz ∧ va_P (dC, dI) classes [(mm, .inr (8, [.int hi, .int ri, .int li, .ref (g 3), .ref (g 4), .ref (g 5), .ref (g 6), .ref (g 7), .ref (g 8), .int 0, .ref (g 10), .ref (g 11), .ref (g 12), .ref (g 13), .ref (g 14), .ref (g 15), .ref (g 16), .ref (g 17), .ref (g 18), .ref (g 19), .ref (g 20), .ref (g 21), .int 0, .ref (g 23), .ref (g 24), .ref (g 25), .ref (g 26), .ref (g 27), .int 0, .int 0, .int 0, .int 0, .int 0, .int 0, .int 0, .int (-1), .int 0, .ref (g 37), .ref (g 38), .ref (g 39)]))] U.heap ∧ va_K (dC, dI) classes [] U ∧ va_D (fun _ => True) [(mm, .inr (8, [.int hi, .int ri, .int li, .ref (g 3), .ref (g 4), .ref (g 5), .ref (g 6), .ref (g 7), .ref (g 8), .int 0, .ref (g 10), .ref (g 11), .ref (g 12), .ref (g 13), .ref (g 14), .ref (g 15), .ref (g 16), .ref (g 17), .ref (g 18), .ref (g 19), .ref (g 20), .ref (g 21), .int 0, .ref (g 23), .ref (g 24), .ref (g 25), .ref (g 26), .ref (g 27), .int 0, .int 0, .int 0, .int 0, .int 0, .int 0, .int 0, .int (-1), .int 0, .ref (g 37), .ref (g 38), .ref (g 39)]))])) (va_Qi (fun (r : Int32) (_ : Unit) => r = 0) (fun (_ : Unit) (_ : State) => True) (va_A [(mm, .inr (8, [.int hi, .int ri, .int li, .ref (g 3), .ref (g 4), .ref (g 5), .ref (g 6), .ref (g 7), .ref (g 8), .int 0, .ref (g 10), .ref (g 11), .ref (g 12), .ref (g 13), .ref (g 14), .ref (g 15), .ref (g 16), .ref (g 17), .ref (g 18), .ref (g 19), .ref (g 20), .ref (g 21), .int 0, .ref (g 23), .ref (g 24), .ref (g 25), .ref (g 26), .ref (g 27), .int 0, .int 0, .int 0, .int 0, .int 0, .int 0, .int 0, .int (-1), .int 0, .ref (g 37), .ref (g 38), .ref (g 39)]))] sz)) 0 0 (va_A [(mm, .inr (8, [.int hi, .int ri, .int li, .ref (g 3), .ref (g 4), .ref (g 5), .ref (g 6), .ref (g 7), .ref (g 8), .int 0, .ref (g 10), .ref (g 11), .ref (g 12), .ref (g 13), .ref (g 14), .ref (g 15), .ref (g 16), .ref (g 17), .ref (g 18), .ref (g 19), .ref (g 20), .ref (g 21), .int 0, .ref (g 23), .ref (g 24), .ref (g 25), .ref (g 26), .ref (g 27), .int 0, .int 0, .int 0, .int 0, .int 0, .int 0, .int 0, .int (-1), .int 0, .ref (g 37), .ref (g 38), .ref (g 39)]))] sz) := by
  refine Met.ofW (cc := cX8_keys) (maxL := 2) (ret := (some .boolean)) (by decide) rfl ?_
  intro p e s m args below meth c s₁ B hml hv
  obtain ⟨rfl, hsz, hP, hK, hD0⟩ := hv
  have hx := B.exec
  have hb := B.bytes
  have hr := B.returns
  have hts := atoms_spec (ws := ww_X8_keys) B.pre
  have hown : s.vm.findClass RX8 = some m.cls := findClass_of_methodNamed B.named
  have hlocks := B.notSynchronized
  subst hsz
  have hD := hD0.self (sz := s.heap.size)
  generalize hAe : va_A [(mm, .inr (8, [.int hi, .int ri, .int li, .ref (g 3), .ref (g 4), .ref (g 5), .ref (g 6), .ref (g 7), .ref (g 8), .int 0, .ref (g 10), .ref (g 11), .ref (g 12), .ref (g 13), .ref (g 14), .ref (g 15), .ref (g 16), .ref (g 17), .ref (g 18), .ref (g 19), .ref (g 20), .ref (g 21), .int 0, .ref (g 23), .ref (g 24), .ref (g 25), .ref (g 26), .ref (g 27), .int 0, .int 0, .int 0, .int 0, .int 0, .int 0, .int 0, .int (-1), .int 0, .ref (g 37), .ref (g 38), .ref (g 39)]))] s.heap.size = A at hD ⊢
  have hA : ∀ q : Nat, s.heap.size ≤ q → A q := fun q h => by rw [← hAe]; exact Or.inr h
  have hS : va_S A s.heap s.heap [] := va_S.rf
  have hP : va_P (dC, dI) classes [(mm, .inr (8, [.int hi, .int ri, .int li, .ref (g 3), .ref (g 4), .ref (g 5), .ref (g 6), .ref (g 7), .ref (g 8), .int 0, .ref (g 10), .ref (g 11), .ref (g 12), .ref (g 13), .ref (g 14), .ref (g 15), .ref (g 16), .ref (g 17), .ref (g 18), .ref (g 19), .ref (g 20), .ref (g 21), .int 0, .ref (g 23), .ref (g 24), .ref (g 25), .ref (g 26), .ref (g 27), .int 0, .int 0, .int 0, .int 0, .int 0, .int 0, .int 0, .int (-1), .int 0, .ref (g 37), .ref (g 38), .ref (g 39)]))] s.heap := hP
  have hl := lv_entry ([.ref mm]) (n := 2) (Nat.le_of_ble_eq_true rfl)
  rw [lg_entry_eq]
  generalize (lg_sl ([.ref mm]) ++ List.replicate (2 - (lg_sl ([.ref mm])).length) Slot.unset).toArray = ls at hl ⊢
  have hl : lv_has ls 2 [(0, .ref mm)] := hl
  generalize hHe : s.heap = H at hP ⊢
  have hS : va_S A s.heap H [] := by rw [← hHe]; exact va_S.rf
  refine lv_aload_n hx hb dX8_keys_0 rfl (lv_at hl 0 rfl) ?_
  refine va_get (D := (dC, dI)) (ci := 8) (v := .int 0) (C := RX8) (T := TX8) (N := 40) hx hb hts iX8_keys_X8 hown hK hP 0 rfl rfl 28 (by decide) (hts (.fieldLink RX8 244 "LeafSignerModel" "taped" "I") (List.mem_of_getElem? (i := 1) rfl)) (fun _ h9 => h9) rfl dX8_keys_1 ?_
  refine lv_bipush (v := 96) hx hb dX8_keys_4 (by decide) ?_
  refine lv_icmp_ge (tgt := 11) hx hb dX8_keys_6 (by decide) (fun c162 => absurd c162 (by decide)) (fun c162 => ?_)
  refine lv_iconst (v := 0) hx hb dX8_keys_9 (by decide) ?_
  refine W.widen (k := 0) (n := 0) (Nat.le_of_ble_eq_true rfl) (Nat.le_of_ble_eq_true rfl) ?_
  exact W.zret (v := 0) (ty := .boolean) hx hb hr (by decide) (fun t ht hW => ⟨⟨0, (), rfl, rfl, trivial⟩, hS.F ht⟩) hS.2.2 dX8_keys_10
end
section
def ww_X8_fall : List Cond := .code yX8_fall cX8_fall 1 (some .boolean) :: ([.fieldLink RX8 257 "LeafSignerModel" "state" "I"] ++ (wsX80))
theorem iX8_fall_X8 : ∀ w ∈ wsX80, w ∈ ww_X8_fall := fun w h => List.mem_cons_of_mem _ (List.mem_append_right _ h)
set_option maxHeartbeats 4000000 in
set_option maxRecDepth 100000 in
theorem cm_fall (l : Launch) (dC : Nat → ClassId) (dI : Nat → Nat → Nat) (sz : Nat) (mm : Nat) (hi : Int32) (ri : Int32) (li : Int32) (g : (Nat → Nat)) : Met l yX8_fall ww_X8_fall ({ frames := 0, cells := 0, slots := 0, locals := 0 }) (va_Pc [.ref mm] (fun U => U.heap.size = sz ∧ va_P (dC, dI) classes [(mm, .inr (8, [.int hi, .int ri, .int li, .ref (g 3), .ref (g 4), .ref (g 5), .ref (g 6), .ref (g 7), .ref (g 8), .int 0, .ref (g 10), .ref (g 11), .ref (g 12), .ref (g 13), .ref (g 14), .ref (g 15), .ref (g 16), .ref (g 17), .ref (g 18), .ref (g 19), .ref (g 20), .ref (g 21), .int 0, .ref (g 23), .ref (g 24), .ref (g 25), .ref (g 26), .ref (g 27), .int 0, .int 0, .int 0, .int 0, .int 0, .int 0, .int 0, .int (-1), .int 0, .ref (g 37), .ref (g 38), .ref (g 39)]))] U.heap ∧ va_K (dC, dI) classes [] U ∧ va_D (fun _ => True) [(mm, .inr (8, [.int hi, .int ri, .int li, .ref (g 3), .ref (g 4), .ref (g 5), .ref (g 6), .ref (g 7), .ref (g 8), .int 0, .ref (g 10), .ref (g 11), .ref (g 12), .ref (g 13), .ref (g 14), .ref (g 15), .ref (g 16), .ref (g 17), .ref (g 18), .ref (g 19), .ref (g 20), .ref (g 21), .int 0, .ref (g 23), .ref (g 24), .ref (g 25), .ref (g 26), .ref (g 27), .int 0, .int 0, .int 0, .int 0, .int 0, .int 0, .int 0, .int (-1), .int 0, .ref (g 37), .ref (g 38), .ref (g 39)]))])) (va_Qi (fun (r : Int32) (_ : Unit) => r = 0) (fun (_ : Unit) (_ : State) => True) (va_A [(mm, .inr (8, [.int hi, .int ri, .int li, .ref (g 3), .ref (g 4), .ref (g 5), .ref (g 6), .ref (g 7), .ref (g 8), .int 0, .ref (g 10), .ref (g 11), .ref (g 12), .ref (g 13), .ref (g 14), .ref (g 15), .ref (g 16), .ref (g 17), .ref (g 18), .ref (g 19), .ref (g 20), .ref (g 21), .int 0, .ref (g 23), .ref (g 24), .ref (g 25), .ref (g 26), .ref (g 27), .int 0, .int 0, .int 0, .int 0, .int 0, .int 0, .int 0, .int (-1), .int 0, .ref (g 37), .ref (g 38), .ref (g 39)]))] sz)) 0 0 (va_A [(mm, .inr (8, [.int hi, .int ri, .int li, .ref (g 3), .ref (g 4), .ref (g 5), .ref (g 6), .ref (g 7), .ref (g 8), .int 0, .ref (g 10), .ref (g 11), .ref (g 12), .ref (g 13), .ref (g 14), .ref (g 15), .ref (g 16), .ref (g 17), .ref (g 18), .ref (g 19), .ref (g 20), .ref (g 21), .int 0, .ref (g 23), .ref (g 24), .ref (g 25), .ref (g 26), .ref (g 27), .int 0, .int 0, .int 0, .int 0, .int 0, .int 0, .int 0, .int (-1), .int 0, .ref (g 37), .ref (g 38), .ref (g 39)]))] sz) := by
  refine Met.ofW (cc := cX8_fall) (maxL := 1) (ret := (some .boolean)) (by decide) rfl ?_
  intro p e s m args below meth c s₁ B hml hv
  obtain ⟨rfl, hsz, hP, hK, hD0⟩ := hv
  have hx := B.exec
  have hb := B.bytes
  have hr := B.returns
  have hts := atoms_spec (ws := ww_X8_fall) B.pre
  have hown : s.vm.findClass RX8 = some m.cls := findClass_of_methodNamed B.named
  have hlocks := B.notSynchronized
  subst hsz
  have hD := hD0.self (sz := s.heap.size)
  generalize hAe : va_A [(mm, .inr (8, [.int hi, .int ri, .int li, .ref (g 3), .ref (g 4), .ref (g 5), .ref (g 6), .ref (g 7), .ref (g 8), .int 0, .ref (g 10), .ref (g 11), .ref (g 12), .ref (g 13), .ref (g 14), .ref (g 15), .ref (g 16), .ref (g 17), .ref (g 18), .ref (g 19), .ref (g 20), .ref (g 21), .int 0, .ref (g 23), .ref (g 24), .ref (g 25), .ref (g 26), .ref (g 27), .int 0, .int 0, .int 0, .int 0, .int 0, .int 0, .int 0, .int (-1), .int 0, .ref (g 37), .ref (g 38), .ref (g 39)]))] s.heap.size = A at hD ⊢
  have hA : ∀ q : Nat, s.heap.size ≤ q → A q := fun q h => by rw [← hAe]; exact Or.inr h
  have hS : va_S A s.heap s.heap [] := va_S.rf
  have hP : va_P (dC, dI) classes [(mm, .inr (8, [.int hi, .int ri, .int li, .ref (g 3), .ref (g 4), .ref (g 5), .ref (g 6), .ref (g 7), .ref (g 8), .int 0, .ref (g 10), .ref (g 11), .ref (g 12), .ref (g 13), .ref (g 14), .ref (g 15), .ref (g 16), .ref (g 17), .ref (g 18), .ref (g 19), .ref (g 20), .ref (g 21), .int 0, .ref (g 23), .ref (g 24), .ref (g 25), .ref (g 26), .ref (g 27), .int 0, .int 0, .int 0, .int 0, .int 0, .int 0, .int 0, .int (-1), .int 0, .ref (g 37), .ref (g 38), .ref (g 39)]))] s.heap := hP
  have hl := lv_entry ([.ref mm]) (n := 1) (Nat.le_of_ble_eq_true rfl)
  rw [lg_entry_eq]
  generalize (lg_sl ([.ref mm]) ++ List.replicate (1 - (lg_sl ([.ref mm])).length) Slot.unset).toArray = ls at hl ⊢
  have hl : lv_has ls 1 [(0, .ref mm)] := hl
  generalize hHe : s.heap = H at hP ⊢
  have hS : va_S A s.heap H [] := by rw [← hHe]; exact va_S.rf
  refine lv_aload_n hx hb dX8_fall_0 rfl (lv_at hl 0 rfl) ?_
  refine va_get (D := (dC, dI)) (ci := 8) (v := .int 0) (C := RX8) (T := TX8) (N := 40) hx hb hts iX8_fall_X8 hown hK hP 0 rfl rfl 31 (by decide) (hts (.fieldLink RX8 257 "LeafSignerModel" "state" "I") (List.mem_of_getElem? (i := 1) rfl)) (fun _ h9 => h9) rfl dX8_fall_1 ?_
  refine lv_iconst (v := 1) hx hb dX8_fall_4 (by decide) ?_
  refine lv_icmp_eq (tgt := 10) hx hb dX8_fall_5 (by decide) (fun c163 => absurd c163 (by decide)) (fun c163 => ?_)
  refine lv_iconst (v := 0) hx hb dX8_fall_8 (by decide) ?_
  refine W.widen (k := 0) (n := 0) (Nat.le_of_ble_eq_true rfl) (Nat.le_of_ble_eq_true rfl) ?_
  exact W.zret (v := 0) (ty := .boolean) hx hb hr (by decide) (fun t ht hW => ⟨⟨0, (), rfl, rfl, trivial⟩, hS.F ht⟩) hS.2.2 dX8_fall_9
end
section
def ww_X8_rise : List Cond := .code yX8_rise cX8_rise 2 (some .boolean) :: ([.fieldLink RX8 257 "LeafSignerModel" "state" "I"] ++ (wsX80))
theorem iX8_rise_X8 : ∀ w ∈ wsX80, w ∈ ww_X8_rise := fun w h => List.mem_cons_of_mem _ (List.mem_append_right _ h)
set_option maxHeartbeats 4000000 in
set_option maxRecDepth 100000 in
theorem cm_rise (l : Launch) (dC : Nat → ClassId) (dI : Nat → Nat → Nat) (sz : Nat) (mm : Nat) (hi : Int32) (ri : Int32) (li : Int32) (g : (Nat → Nat)) : Met l yX8_rise ww_X8_rise ({ frames := 0, cells := 0, slots := 0, locals := 0 }) (va_Pc [.ref mm] (fun U => U.heap.size = sz ∧ va_P (dC, dI) classes [(mm, .inr (8, [.int hi, .int ri, .int li, .ref (g 3), .ref (g 4), .ref (g 5), .ref (g 6), .ref (g 7), .ref (g 8), .int 0, .ref (g 10), .ref (g 11), .ref (g 12), .ref (g 13), .ref (g 14), .ref (g 15), .ref (g 16), .ref (g 17), .ref (g 18), .ref (g 19), .ref (g 20), .ref (g 21), .int 0, .ref (g 23), .ref (g 24), .ref (g 25), .ref (g 26), .ref (g 27), .int 0, .int 0, .int 0, .int 0, .int 0, .int 0, .int 0, .int (-1), .int 0, .ref (g 37), .ref (g 38), .ref (g 39)]))] U.heap ∧ va_K (dC, dI) classes [] U ∧ va_D (fun _ => True) [(mm, .inr (8, [.int hi, .int ri, .int li, .ref (g 3), .ref (g 4), .ref (g 5), .ref (g 6), .ref (g 7), .ref (g 8), .int 0, .ref (g 10), .ref (g 11), .ref (g 12), .ref (g 13), .ref (g 14), .ref (g 15), .ref (g 16), .ref (g 17), .ref (g 18), .ref (g 19), .ref (g 20), .ref (g 21), .int 0, .ref (g 23), .ref (g 24), .ref (g 25), .ref (g 26), .ref (g 27), .int 0, .int 0, .int 0, .int 0, .int 0, .int 0, .int 0, .int (-1), .int 0, .ref (g 37), .ref (g 38), .ref (g 39)]))])) (va_Qi (fun (r : Int32) (_ : Unit) => r = 0) (fun (_ : Unit) (_ : State) => True) (va_A [(mm, .inr (8, [.int hi, .int ri, .int li, .ref (g 3), .ref (g 4), .ref (g 5), .ref (g 6), .ref (g 7), .ref (g 8), .int 0, .ref (g 10), .ref (g 11), .ref (g 12), .ref (g 13), .ref (g 14), .ref (g 15), .ref (g 16), .ref (g 17), .ref (g 18), .ref (g 19), .ref (g 20), .ref (g 21), .int 0, .ref (g 23), .ref (g 24), .ref (g 25), .ref (g 26), .ref (g 27), .int 0, .int 0, .int 0, .int 0, .int 0, .int 0, .int 0, .int (-1), .int 0, .ref (g 37), .ref (g 38), .ref (g 39)]))] sz)) 0 0 (va_A [(mm, .inr (8, [.int hi, .int ri, .int li, .ref (g 3), .ref (g 4), .ref (g 5), .ref (g 6), .ref (g 7), .ref (g 8), .int 0, .ref (g 10), .ref (g 11), .ref (g 12), .ref (g 13), .ref (g 14), .ref (g 15), .ref (g 16), .ref (g 17), .ref (g 18), .ref (g 19), .ref (g 20), .ref (g 21), .int 0, .ref (g 23), .ref (g 24), .ref (g 25), .ref (g 26), .ref (g 27), .int 0, .int 0, .int 0, .int 0, .int 0, .int 0, .int 0, .int (-1), .int 0, .ref (g 37), .ref (g 38), .ref (g 39)]))] sz) := by
  refine Met.ofW (cc := cX8_rise) (maxL := 2) (ret := (some .boolean)) (by decide) rfl ?_
  intro p e s m args below meth c s₁ B hml hv
  obtain ⟨rfl, hsz, hP, hK, hD0⟩ := hv
  have hx := B.exec
  have hb := B.bytes
  have hr := B.returns
  have hts := atoms_spec (ws := ww_X8_rise) B.pre
  have hown : s.vm.findClass RX8 = some m.cls := findClass_of_methodNamed B.named
  have hlocks := B.notSynchronized
  subst hsz
  have hD := hD0.self (sz := s.heap.size)
  generalize hAe : va_A [(mm, .inr (8, [.int hi, .int ri, .int li, .ref (g 3), .ref (g 4), .ref (g 5), .ref (g 6), .ref (g 7), .ref (g 8), .int 0, .ref (g 10), .ref (g 11), .ref (g 12), .ref (g 13), .ref (g 14), .ref (g 15), .ref (g 16), .ref (g 17), .ref (g 18), .ref (g 19), .ref (g 20), .ref (g 21), .int 0, .ref (g 23), .ref (g 24), .ref (g 25), .ref (g 26), .ref (g 27), .int 0, .int 0, .int 0, .int 0, .int 0, .int 0, .int 0, .int (-1), .int 0, .ref (g 37), .ref (g 38), .ref (g 39)]))] s.heap.size = A at hD ⊢
  have hA : ∀ q : Nat, s.heap.size ≤ q → A q := fun q h => by rw [← hAe]; exact Or.inr h
  have hS : va_S A s.heap s.heap [] := va_S.rf
  have hP : va_P (dC, dI) classes [(mm, .inr (8, [.int hi, .int ri, .int li, .ref (g 3), .ref (g 4), .ref (g 5), .ref (g 6), .ref (g 7), .ref (g 8), .int 0, .ref (g 10), .ref (g 11), .ref (g 12), .ref (g 13), .ref (g 14), .ref (g 15), .ref (g 16), .ref (g 17), .ref (g 18), .ref (g 19), .ref (g 20), .ref (g 21), .int 0, .ref (g 23), .ref (g 24), .ref (g 25), .ref (g 26), .ref (g 27), .int 0, .int 0, .int 0, .int 0, .int 0, .int 0, .int 0, .int (-1), .int 0, .ref (g 37), .ref (g 38), .ref (g 39)]))] s.heap := hP
  have hl := lv_entry ([.ref mm]) (n := 2) (Nat.le_of_ble_eq_true rfl)
  rw [lg_entry_eq]
  generalize (lg_sl ([.ref mm]) ++ List.replicate (2 - (lg_sl ([.ref mm])).length) Slot.unset).toArray = ls at hl ⊢
  have hl : lv_has ls 2 [(0, .ref mm)] := hl
  generalize hHe : s.heap = H at hP ⊢
  have hS : va_S A s.heap H [] := by rw [← hHe]; exact va_S.rf
  refine lv_aload_n hx hb dX8_rise_0 rfl (lv_at hl 0 rfl) ?_
  refine va_get (D := (dC, dI)) (ci := 8) (v := .int 0) (C := RX8) (T := TX8) (N := 40) hx hb hts iX8_rise_X8 hown hK hP 0 rfl rfl 31 (by decide) (hts (.fieldLink RX8 257 "LeafSignerModel" "state" "I") (List.mem_of_getElem? (i := 1) rfl)) (fun _ h9 => h9) rfl dX8_rise_1 ?_
  refine lv_iconst (v := 2) hx hb dX8_rise_4 (by decide) ?_
  refine lv_icmp_eq (tgt := 10) hx hb dX8_rise_5 (by decide) (fun c164 => absurd c164 (by decide)) (fun c164 => ?_)
  refine lv_iconst (v := 0) hx hb dX8_rise_8 (by decide) ?_
  refine W.widen (k := 0) (n := 0) (Nat.le_of_ble_eq_true rfl) (Nat.le_of_ble_eq_true rfl) ?_
  exact W.zret (v := 0) (ty := .boolean) hx hb hr (by decide) (fun t ht hW => ⟨⟨0, (), rfl, rfl, trivial⟩, hS.F ht⟩) hS.2.2 dX8_rise_9
end
section
def ww_X8_hold : List Cond := .code yX8_hold cX8_hold 2 (some .int) :: ([.fieldLink RX8 290 "LeafSignerModel" "outs" "I", .fieldLink RX8 300 "LeafSignerModel" "keeps" "I"] ++ (wsX80))
theorem iX8_hold_X8 : ∀ w ∈ wsX80, w ∈ ww_X8_hold := fun w h => List.mem_cons_of_mem _ (List.mem_append_right _ h)
set_option maxHeartbeats 4000000 in
set_option maxRecDepth 100000 in
theorem cm_hold (l : Launch) (dC : Nat → ClassId) (dI : Nat → Nat → Nat) (sz : Nat) (mm : Nat) (hi : Int32) (ri : Int32) (li : Int32) (g : (Nat → Nat)) : Met l yX8_hold ww_X8_hold ({ frames := 0, cells := 0, slots := 0, locals := 0 }) (va_Pc [.ref mm] (fun U => U.heap.size = sz ∧ va_P (dC, dI) classes [(mm, .inr (8, [.int hi, .int ri, .int li, .ref (g 3), .ref (g 4), .ref (g 5), .ref (g 6), .ref (g 7), .ref (g 8), .int 0, .ref (g 10), .ref (g 11), .ref (g 12), .ref (g 13), .ref (g 14), .ref (g 15), .ref (g 16), .ref (g 17), .ref (g 18), .ref (g 19), .ref (g 20), .ref (g 21), .int 0, .ref (g 23), .ref (g 24), .ref (g 25), .ref (g 26), .ref (g 27), .int 0, .int 0, .int 0, .int 0, .int 0, .int 0, .int 0, .int (-1), .int 0, .ref (g 37), .ref (g 38), .ref (g 39)]))] U.heap ∧ va_K (dC, dI) classes [] U ∧ va_D (fun _ => True) [(mm, .inr (8, [.int hi, .int ri, .int li, .ref (g 3), .ref (g 4), .ref (g 5), .ref (g 6), .ref (g 7), .ref (g 8), .int 0, .ref (g 10), .ref (g 11), .ref (g 12), .ref (g 13), .ref (g 14), .ref (g 15), .ref (g 16), .ref (g 17), .ref (g 18), .ref (g 19), .ref (g 20), .ref (g 21), .int 0, .ref (g 23), .ref (g 24), .ref (g 25), .ref (g 26), .ref (g 27), .int 0, .int 0, .int 0, .int 0, .int 0, .int 0, .int 0, .int (-1), .int 0, .ref (g 37), .ref (g 38), .ref (g 39)]))])) (va_Qi (fun (r : Int32) (_ : Unit) => r = 0) (fun (_ : Unit) (_ : State) => True) (va_A [(mm, .inr (8, [.int hi, .int ri, .int li, .ref (g 3), .ref (g 4), .ref (g 5), .ref (g 6), .ref (g 7), .ref (g 8), .int 0, .ref (g 10), .ref (g 11), .ref (g 12), .ref (g 13), .ref (g 14), .ref (g 15), .ref (g 16), .ref (g 17), .ref (g 18), .ref (g 19), .ref (g 20), .ref (g 21), .int 0, .ref (g 23), .ref (g 24), .ref (g 25), .ref (g 26), .ref (g 27), .int 0, .int 0, .int 0, .int 0, .int 0, .int 0, .int 0, .int (-1), .int 0, .ref (g 37), .ref (g 38), .ref (g 39)]))] sz)) 0 0 (va_A [(mm, .inr (8, [.int hi, .int ri, .int li, .ref (g 3), .ref (g 4), .ref (g 5), .ref (g 6), .ref (g 7), .ref (g 8), .int 0, .ref (g 10), .ref (g 11), .ref (g 12), .ref (g 13), .ref (g 14), .ref (g 15), .ref (g 16), .ref (g 17), .ref (g 18), .ref (g 19), .ref (g 20), .ref (g 21), .int 0, .ref (g 23), .ref (g 24), .ref (g 25), .ref (g 26), .ref (g 27), .int 0, .int 0, .int 0, .int 0, .int 0, .int 0, .int 0, .int (-1), .int 0, .ref (g 37), .ref (g 38), .ref (g 39)]))] sz) := by
  refine Met.ofW (cc := cX8_hold) (maxL := 2) (ret := (some .int)) (by decide) rfl ?_
  intro p e s m args below meth c s₁ B hml hv
  obtain ⟨rfl, hsz, hP, hK, hD0⟩ := hv
  have hx := B.exec
  have hb := B.bytes
  have hr := B.returns
  have hts := atoms_spec (ws := ww_X8_hold) B.pre
  have hown : s.vm.findClass RX8 = some m.cls := findClass_of_methodNamed B.named
  have hlocks := B.notSynchronized
  subst hsz
  have hD := hD0.self (sz := s.heap.size)
  generalize hAe : va_A [(mm, .inr (8, [.int hi, .int ri, .int li, .ref (g 3), .ref (g 4), .ref (g 5), .ref (g 6), .ref (g 7), .ref (g 8), .int 0, .ref (g 10), .ref (g 11), .ref (g 12), .ref (g 13), .ref (g 14), .ref (g 15), .ref (g 16), .ref (g 17), .ref (g 18), .ref (g 19), .ref (g 20), .ref (g 21), .int 0, .ref (g 23), .ref (g 24), .ref (g 25), .ref (g 26), .ref (g 27), .int 0, .int 0, .int 0, .int 0, .int 0, .int 0, .int 0, .int (-1), .int 0, .ref (g 37), .ref (g 38), .ref (g 39)]))] s.heap.size = A at hD ⊢
  have hA : ∀ q : Nat, s.heap.size ≤ q → A q := fun q h => by rw [← hAe]; exact Or.inr h
  have hS : va_S A s.heap s.heap [] := va_S.rf
  have hP : va_P (dC, dI) classes [(mm, .inr (8, [.int hi, .int ri, .int li, .ref (g 3), .ref (g 4), .ref (g 5), .ref (g 6), .ref (g 7), .ref (g 8), .int 0, .ref (g 10), .ref (g 11), .ref (g 12), .ref (g 13), .ref (g 14), .ref (g 15), .ref (g 16), .ref (g 17), .ref (g 18), .ref (g 19), .ref (g 20), .ref (g 21), .int 0, .ref (g 23), .ref (g 24), .ref (g 25), .ref (g 26), .ref (g 27), .int 0, .int 0, .int 0, .int 0, .int 0, .int 0, .int 0, .int (-1), .int 0, .ref (g 37), .ref (g 38), .ref (g 39)]))] s.heap := hP
  have hl := lv_entry ([.ref mm]) (n := 2) (Nat.le_of_ble_eq_true rfl)
  rw [lg_entry_eq]
  generalize (lg_sl ([.ref mm]) ++ List.replicate (2 - (lg_sl ([.ref mm])).length) Slot.unset).toArray = ls at hl ⊢
  have hl : lv_has ls 2 [(0, .ref mm)] := hl
  generalize hHe : s.heap = H at hP ⊢
  have hS : va_S A s.heap H [] := by rw [← hHe]; exact va_S.rf
  refine lv_iconst (v := 0) hx hb dX8_hold_0 (by decide) ?_
  refine lv_istore_n (lv' := [(1, .int 0), (0, .ref mm)]) hx hb dX8_hold_1 rfl hl (by decide) rfl (fun ls hl => ?_)
  refine lv_iload_n hx hb dX8_hold_2 rfl (lv_at hl 0 rfl) ?_
  refine lv_aload_n hx hb dX8_hold_3 rfl (lv_at hl 1 rfl) ?_
  refine va_get (D := (dC, dI)) (ci := 8) (v := .int 0) (C := RX8) (T := TX8) (N := 40) hx hb hts iX8_hold_X8 hown hK hP 0 rfl rfl 29 (by decide) (hts (.fieldLink RX8 290 "LeafSignerModel" "outs" "I") (List.mem_of_getElem? (i := 1) rfl)) (fun _ h9 => h9) rfl dX8_hold_4 ?_
  refine lv_icmp_ge (tgt := 28) hx hb dX8_hold_7 (by decide) (fun c165 => ?_) (fun c165 => absurd (by decide) c165)
  refine lv_aload_n hx hb dX8_hold_28 rfl (lv_at hl 1 rfl) ?_
  refine lv_aload_n hx hb dX8_hold_29 rfl (lv_at hl 1 rfl) ?_
  refine va_get (D := (dC, dI)) (ci := 8) (v := .int 0) (C := RX8) (T := TX8) (N := 40) hx hb hts iX8_hold_X8 hown hK hP 0 rfl rfl 29 (by decide) (hts (.fieldLink RX8 290 "LeafSignerModel" "outs" "I") (List.mem_of_getElem? (i := 1) rfl)) (fun _ h9 => h9) rfl dX8_hold_30 ?_
  refine va_put (D := (dC, dI)) (ci := 8) (v := .int 0) (ty := .int) (C := RX8) (T := TX8) (N := 40) hx hb hts iX8_hold_X8 tyX8 tyX8_ok nmX8 hown hK hP hD hS 0 rfl rfl 30 (by decide) (hts (.fieldLink RX8 300 "LeafSignerModel" "keeps" "I") (List.mem_of_getElem? (i := 2) rfl)) (fun _ h9 => h9) rfl (by decide +kernel) rfl rfl (Nat.le_of_ble_eq_true rfl) dX8_hold_33 (fun H locs hP hD hS => ?_)
  have hP : va_P (dC, dI) classes [(mm, .inr (8, [.int hi, .int ri, .int li, .ref (g 3), .ref (g 4), .ref (g 5), .ref (g 6), .ref (g 7), .ref (g 8), .int 0, .ref (g 10), .ref (g 11), .ref (g 12), .ref (g 13), .ref (g 14), .ref (g 15), .ref (g 16), .ref (g 17), .ref (g 18), .ref (g 19), .ref (g 20), .ref (g 21), .int 0, .ref (g 23), .ref (g 24), .ref (g 25), .ref (g 26), .ref (g 27), .int 0, .int 0, .int 0, .int 0, .int 0, .int 0, .int 0, .int (-1), .int 0, .ref (g 37), .ref (g 38), .ref (g 39)]))] H := hP
  have hD : va_D A [(mm, .inr (8, [.int hi, .int ri, .int li, .ref (g 3), .ref (g 4), .ref (g 5), .ref (g 6), .ref (g 7), .ref (g 8), .int 0, .ref (g 10), .ref (g 11), .ref (g 12), .ref (g 13), .ref (g 14), .ref (g 15), .ref (g 16), .ref (g 17), .ref (g 18), .ref (g 19), .ref (g 20), .ref (g 21), .int 0, .ref (g 23), .ref (g 24), .ref (g 25), .ref (g 26), .ref (g 27), .int 0, .int 0, .int 0, .int 0, .int 0, .int 0, .int 0, .int (-1), .int 0, .ref (g 37), .ref (g 38), .ref (g 39)]))] := hD
  refine lv_aload_n hx hb dX8_hold_36 rfl (lv_at hl 1 rfl) ?_
  refine va_get (D := (dC, dI)) (ci := 8) (v := .int 0) (C := RX8) (T := TX8) (N := 40) hx hb hts iX8_hold_X8 hown hK hP 0 rfl rfl 30 (by decide) (hts (.fieldLink RX8 300 "LeafSignerModel" "keeps" "I") (List.mem_of_getElem? (i := 2) rfl)) (fun _ h9 => h9) rfl dX8_hold_37 ?_
  refine W.widen (k := 0) (n := 0) (Nat.le_of_ble_eq_true rfl) (Nat.le_of_ble_eq_true rfl) ?_
  exact W.iret (v := 0) hx hb hr (fun t ht hW => ⟨⟨0, (), rfl, rfl, trivial⟩, hS.F ht⟩) hS.2.2 dX8_hold_40
end
section
def ww_X8_sign : List Cond := .code yX8_sign cX8_sign 5 (some .int) :: ([.fieldLink RX8 244 "LeafSignerModel" "taped" "I", .methodLink RX8 279 yX8_in, .static yX8_in, .initialized RX8, .code yX8_in cX8_in 3 (some .boolean), .fieldLink RX8 257 "LeafSignerModel" "state" "I"] ++ (wsX80))
theorem iX8_sign_X8 : ∀ w ∈ wsX80, w ∈ ww_X8_sign := fun w h => List.mem_cons_of_mem _ (List.mem_append_right _ h)
set_option maxRecDepth 20000 in
theorem gX8_sign_X8_in_279 : GoodIn ww_X8_sign (va_wsS RX8 279 yX8_in ww_X8_in) := vx_good _ [2, 3, 4, 5] rfl (by decide +kernel)
set_option maxHeartbeats 4000000 in
set_option maxRecDepth 100000 in
theorem cm_sign (l : Launch) (dC : Nat → ClassId) (dI : Nat → Nat → Nat) (sz : Nat) (mm : Nat) (k : Int32) (hi : Int32) (ri : Int32) (li : Int32) (g : (Nat → Nat)) : Met l yX8_sign ww_X8_sign ({ frames := 1, cells := 0, slots := 0, locals := 22 }) (va_Pc [.ref mm, .int k] (fun U => U.heap.size = sz ∧ va_P (dC, dI) classes [(mm, .inr (8, [.int hi, .int ri, .int li, .ref (g 3), .ref (g 4), .ref (g 5), .ref (g 6), .ref (g 7), .ref (g 8), .int 0, .ref (g 10), .ref (g 11), .ref (g 12), .ref (g 13), .ref (g 14), .ref (g 15), .ref (g 16), .ref (g 17), .ref (g 18), .ref (g 19), .ref (g 20), .ref (g 21), .int 0, .ref (g 23), .ref (g 24), .ref (g 25), .ref (g 26), .ref (g 27), .int 0, .int 0, .int 0, .int 0, .int 0, .int 0, .int 0, .int (-1), .int 0, .ref (g 37), .ref (g 38), .ref (g 39)]))] U.heap ∧ va_K (dC, dI) classes [] U ∧ va_D (fun _ => True) [(mm, .inr (8, [.int hi, .int ri, .int li, .ref (g 3), .ref (g 4), .ref (g 5), .ref (g 6), .ref (g 7), .ref (g 8), .int 0, .ref (g 10), .ref (g 11), .ref (g 12), .ref (g 13), .ref (g 14), .ref (g 15), .ref (g 16), .ref (g 17), .ref (g 18), .ref (g 19), .ref (g 20), .ref (g 21), .int 0, .ref (g 23), .ref (g 24), .ref (g 25), .ref (g 26), .ref (g 27), .int 0, .int 0, .int 0, .int 0, .int 0, .int 0, .int 0, .int (-1), .int 0, .ref (g 37), .ref (g 38), .ref (g 39)]))])) (va_Qi (fun (r : Int32) (_ : Unit) => r = fm_sign k) (fun (_ : Unit) (_ : State) => True) (va_A [(mm, .inr (8, [.int hi, .int ri, .int li, .ref (g 3), .ref (g 4), .ref (g 5), .ref (g 6), .ref (g 7), .ref (g 8), .int 0, .ref (g 10), .ref (g 11), .ref (g 12), .ref (g 13), .ref (g 14), .ref (g 15), .ref (g 16), .ref (g 17), .ref (g 18), .ref (g 19), .ref (g 20), .ref (g 21), .int 0, .ref (g 23), .ref (g 24), .ref (g 25), .ref (g 26), .ref (g 27), .int 0, .int 0, .int 0, .int 0, .int 0, .int 0, .int 0, .int (-1), .int 0, .ref (g 37), .ref (g 38), .ref (g 39)]))] sz)) 0 0 (va_A [(mm, .inr (8, [.int hi, .int ri, .int li, .ref (g 3), .ref (g 4), .ref (g 5), .ref (g 6), .ref (g 7), .ref (g 8), .int 0, .ref (g 10), .ref (g 11), .ref (g 12), .ref (g 13), .ref (g 14), .ref (g 15), .ref (g 16), .ref (g 17), .ref (g 18), .ref (g 19), .ref (g 20), .ref (g 21), .int 0, .ref (g 23), .ref (g 24), .ref (g 25), .ref (g 26), .ref (g 27), .int 0, .int 0, .int 0, .int 0, .int 0, .int 0, .int 0, .int (-1), .int 0, .ref (g 37), .ref (g 38), .ref (g 39)]))] sz) := by
  refine Met.ofW (cc := cX8_sign) (maxL := 5) (ret := (some .int)) (by decide) rfl ?_
  intro p e s m args below meth c s₁ B hml hv
  obtain ⟨rfl, hsz, hP, hK, hD0⟩ := hv
  have hx := B.exec
  have hb := B.bytes
  have hr := B.returns
  have hts := atoms_spec (ws := ww_X8_sign) B.pre
  have hown : s.vm.findClass RX8 = some m.cls := findClass_of_methodNamed B.named
  have hlocks := B.notSynchronized
  subst hsz
  have hD := hD0.self (sz := s.heap.size)
  generalize hAe : va_A [(mm, .inr (8, [.int hi, .int ri, .int li, .ref (g 3), .ref (g 4), .ref (g 5), .ref (g 6), .ref (g 7), .ref (g 8), .int 0, .ref (g 10), .ref (g 11), .ref (g 12), .ref (g 13), .ref (g 14), .ref (g 15), .ref (g 16), .ref (g 17), .ref (g 18), .ref (g 19), .ref (g 20), .ref (g 21), .int 0, .ref (g 23), .ref (g 24), .ref (g 25), .ref (g 26), .ref (g 27), .int 0, .int 0, .int 0, .int 0, .int 0, .int 0, .int 0, .int (-1), .int 0, .ref (g 37), .ref (g 38), .ref (g 39)]))] s.heap.size = A at hD ⊢
  have hA : ∀ q : Nat, s.heap.size ≤ q → A q := fun q h => by rw [← hAe]; exact Or.inr h
  have hS : va_S A s.heap s.heap [] := va_S.rf
  have hP : va_P (dC, dI) classes [(mm, .inr (8, [.int hi, .int ri, .int li, .ref (g 3), .ref (g 4), .ref (g 5), .ref (g 6), .ref (g 7), .ref (g 8), .int 0, .ref (g 10), .ref (g 11), .ref (g 12), .ref (g 13), .ref (g 14), .ref (g 15), .ref (g 16), .ref (g 17), .ref (g 18), .ref (g 19), .ref (g 20), .ref (g 21), .int 0, .ref (g 23), .ref (g 24), .ref (g 25), .ref (g 26), .ref (g 27), .int 0, .int 0, .int 0, .int 0, .int 0, .int 0, .int 0, .int (-1), .int 0, .ref (g 37), .ref (g 38), .ref (g 39)]))] s.heap := hP
  have hl := lv_entry ([.ref mm, .int k]) (n := 5) (Nat.le_of_ble_eq_true rfl)
  rw [lg_entry_eq]
  generalize (lg_sl ([.ref mm, .int k]) ++ List.replicate (5 - (lg_sl ([.ref mm, .int k])).length) Slot.unset).toArray = ls at hl ⊢
  have hl : lv_has ls 5 [(0, .ref mm), (1, .int k)] := hl
  generalize hHe : s.heap = H at hP ⊢
  have hS : va_S A s.heap H [] := by rw [← hHe]; exact va_S.rf
  refine lv_iload_n hx hb dX8_sign_0 rfl (lv_at hl 1 rfl) ?_
  refine lv_iconst (v := 0) hx hb dX8_sign_1 (by decide) ?_
  refine lv_aload_n hx hb dX8_sign_2 rfl (lv_at hl 0 rfl) ?_
  refine va_get (D := (dC, dI)) (ci := 8) (v := .int 0) (C := RX8) (T := TX8) (N := 40) hx hb hts iX8_sign_X8 hown hK hP 0 rfl rfl 28 (by decide) (hts (.fieldLink RX8 244 "LeafSignerModel" "taped" "I") (List.mem_of_getElem? (i := 1) rfl)) (fun _ h9 => h9) rfl dX8_sign_3 ?_
  have hPc := hP.sub (ws' := []) [] rfl
  have hDc := hD.sub (ws' := []) [] (by decide) rfl
  have hKc := hK.sub (tys' := []) [] rfl
  have hFc := va_free (wc := []) hD hS hA [] rfl
  refine va_calli (va_runS (As := [.int k, .int 0, .int 0]) (rest := []) ⟨hx, hb, hml, hown, hts⟩ (cm_in l dC dI H.size k 0 0) (va_cwS 3 hts gX8_sign_X8_in_279 rfl rfl rfl (by decide +kernel) ⟨(Nat.le_of_ble_eq_true rfl), (Nat.le_of_ble_eq_true rfl)⟩) ⟨fun a U g mk q => by obtain ⟨q0, q1, qP, qK, qD⟩ := q; exact ⟨q0, q1, qP, va_K.moved (u := U) (U := U.calling g mk a) (Vm.Alike.refl U.vm) qK, qD⟩, fun U hU hW => ⟨rfl, by rw [hU], by rw [hU]; exact hPc, va_K.moved hW.alike hKc, hDc.weaken (fun _ _ _ _ => trivial)⟩⟩ rfl rfl hl.1 rfl (lv_room (Nat.le_of_ble_eq_true rfl)) dX8_sign_6 ⟨(Nat.le_of_ble_eq_true rfl), (Nat.le_of_ble_eq_true rfl)⟩) hS (fun q _ h => hFc q h) hFc (fun r166 u t H1 locs ht hvm hw hB hz1 hk1 hS => ?_)
  have hP1 : va_P (dC, dI) classes [] H1 := vx_P0
  have hD1 : va_D (va_A [] H.size) [] := vx_D0
  obtain ⟨hP, hD⟩ := va_join (wr := [(mm, .inr (8, [.int hi, .int ri, .int li, .ref (g 3), .ref (g 4), .ref (g 5), .ref (g 6), .ref (g 7), .ref (g 8), .int 0, .ref (g 10), .ref (g 11), .ref (g 12), .ref (g 13), .ref (g 14), .ref (g 15), .ref (g 16), .ref (g 17), .ref (g 18), .ref (g 19), .ref (g 20), .ref (g 21), .int 0, .ref (g 23), .ref (g 24), .ref (g 25), .ref (g 26), .ref (g 27), .int 0, .int 0, .int 0, .int 0, .int 0, .int 0, .int 0, .int (-1), .int 0, .ref (g 37), .ref (g 38), .ref (g 39)]))]) (w1 := []) hP hD [] [0] rfl rfl (by decide) (by decide) hk1 hFc hP1 hD1
  have hK := hK.sub (tys' := []) [] rfl
  generalize H1 = H at hP hS ⊢
  have hP : va_P (dC, dI) classes [(mm, .inr (8, [.int hi, .int ri, .int li, .ref (g 3), .ref (g 4), .ref (g 5), .ref (g 6), .ref (g 7), .ref (g 8), .int 0, .ref (g 10), .ref (g 11), .ref (g 12), .ref (g 13), .ref (g 14), .ref (g 15), .ref (g 16), .ref (g 17), .ref (g 18), .ref (g 19), .ref (g 20), .ref (g 21), .int 0, .ref (g 23), .ref (g 24), .ref (g 25), .ref (g 26), .ref (g 27), .int 0, .int 0, .int 0, .int 0, .int 0, .int 0, .int 0, .int (-1), .int 0, .ref (g 37), .ref (g 38), .ref (g 39)]))] H := hP
  have hD : va_D A [(mm, .inr (8, [.int hi, .int ri, .int li, .ref (g 3), .ref (g 4), .ref (g 5), .ref (g 6), .ref (g 7), .ref (g 8), .int 0, .ref (g 10), .ref (g 11), .ref (g 12), .ref (g 13), .ref (g 14), .ref (g 15), .ref (g 16), .ref (g 17), .ref (g 18), .ref (g 19), .ref (g 20), .ref (g 21), .int 0, .ref (g 23), .ref (g 24), .ref (g 25), .ref (g 26), .ref (g 27), .int 0, .int 0, .int 0, .int 0, .int 0, .int 0, .int 0, .int (-1), .int 0, .ref (g 37), .ref (g 38), .ref (g 39)]))] := hD
  have hK : va_K (dC, dI) classes [] s := hK
  refine W.widen (k := 0) (n := 0) (Nat.le_of_ble_eq_true rfl) (Nat.le_of_ble_eq_true rfl) ?_
  try dsimp only at hw
  subst hw
  refine lv_if_ne (tgt := 15) hx hb dX8_sign_9 (by decide) (fun c167 => ?_) (fun c167 => ?_)
  · refine lv_aload_n hx hb dX8_sign_15 rfl (lv_at hl 0 rfl) ?_
    refine va_get (D := (dC, dI)) (ci := 8) (v := .int 0) (C := RX8) (T := TX8) (N := 40) hx hb hts iX8_sign_X8 hown hK hP 0 rfl rfl 31 (by decide) (hts (.fieldLink RX8 257 "LeafSignerModel" "state" "I") (List.mem_of_getElem? (i := 6) rfl)) (fun _ h9 => h9) rfl dX8_sign_16 ?_
    refine lv_iconst (v := 1) hx hb dX8_sign_19 (by decide) ?_
    refine lv_icmp_eq (tgt := 26) hx hb dX8_sign_20 (by decide) (fun c168 => absurd c168 (by decide)) (fun c168 => ?_)
    refine lv_bipush (v := (-3)) hx hb dX8_sign_23 (by decide) ?_
    refine W.widen (k := 0) (n := 0) (Nat.le_of_ble_eq_true rfl) (Nat.le_of_ble_eq_true rfl) ?_
    exact W.iret (v := (-3)) hx hb hr (fun t ht hW => ⟨⟨(-3), (), rfl, (by unfold fm_sign; rw [if_pos c167]), trivial⟩, hS.F ht⟩) hS.2.2 dX8_sign_25
  · refine lv_bipush (v := (-2)) hx hb dX8_sign_12 (by decide) ?_
    refine W.widen (k := 0) (n := 0) (Nat.le_of_ble_eq_true rfl) (Nat.le_of_ble_eq_true rfl) ?_
    exact W.iret (v := (-2)) hx hb hr (fun t ht hW => ⟨⟨(-2), (), rfl, (by unfold fm_sign; rw [if_neg (fun h9 => h9 c167)]), trivial⟩, hS.F ht⟩) hS.2.2 dX8_sign_14
end
section
def ww_X8_verify : List Cond := .code yX8_verify cX8_verify 4 (some .int) :: ([.fieldLink RX8 244 "LeafSignerModel" "taped" "I", .methodLink RX8 279 yX8_in, .static yX8_in, .initialized RX8, .code yX8_in cX8_in 3 (some .boolean), .fieldLink RX8 250 "LeafSignerModel" "hasKeys" "Z"] ++ (wsX80))
theorem iX8_verify_X8 : ∀ w ∈ wsX80, w ∈ ww_X8_verify := fun w h => List.mem_cons_of_mem _ (List.mem_append_right _ h)
set_option maxRecDepth 20000 in
theorem gX8_verify_X8_in_279 : GoodIn ww_X8_verify (va_wsS RX8 279 yX8_in ww_X8_in) := vx_good _ [2, 3, 4, 5] rfl (by decide +kernel)
set_option maxHeartbeats 4000000 in
set_option maxRecDepth 100000 in
theorem cm_verify (l : Launch) (dC : Nat → ClassId) (dI : Nat → Nat → Nat) (sz : Nat) (mm : Nat) (k : Int32) (hi : Int32) (ri : Int32) (li : Int32) (g : (Nat → Nat)) : Met l yX8_verify ww_X8_verify ({ frames := 1, cells := 0, slots := 0, locals := 22 }) (va_Pc [.ref mm, .int k] (fun U => U.heap.size = sz ∧ va_P (dC, dI) classes [(mm, .inr (8, [.int hi, .int ri, .int li, .ref (g 3), .ref (g 4), .ref (g 5), .ref (g 6), .ref (g 7), .ref (g 8), .int 0, .ref (g 10), .ref (g 11), .ref (g 12), .ref (g 13), .ref (g 14), .ref (g 15), .ref (g 16), .ref (g 17), .ref (g 18), .ref (g 19), .ref (g 20), .ref (g 21), .int 0, .ref (g 23), .ref (g 24), .ref (g 25), .ref (g 26), .ref (g 27), .int 0, .int 0, .int 0, .int 0, .int 0, .int 0, .int 0, .int (-1), .int 0, .ref (g 37), .ref (g 38), .ref (g 39)]))] U.heap ∧ va_K (dC, dI) classes [] U ∧ va_D (fun _ => True) [(mm, .inr (8, [.int hi, .int ri, .int li, .ref (g 3), .ref (g 4), .ref (g 5), .ref (g 6), .ref (g 7), .ref (g 8), .int 0, .ref (g 10), .ref (g 11), .ref (g 12), .ref (g 13), .ref (g 14), .ref (g 15), .ref (g 16), .ref (g 17), .ref (g 18), .ref (g 19), .ref (g 20), .ref (g 21), .int 0, .ref (g 23), .ref (g 24), .ref (g 25), .ref (g 26), .ref (g 27), .int 0, .int 0, .int 0, .int 0, .int 0, .int 0, .int 0, .int (-1), .int 0, .ref (g 37), .ref (g 38), .ref (g 39)]))])) (va_Qi (fun (r : Int32) (_ : Unit) => r = fm_sign k) (fun (_ : Unit) (_ : State) => True) (va_A [(mm, .inr (8, [.int hi, .int ri, .int li, .ref (g 3), .ref (g 4), .ref (g 5), .ref (g 6), .ref (g 7), .ref (g 8), .int 0, .ref (g 10), .ref (g 11), .ref (g 12), .ref (g 13), .ref (g 14), .ref (g 15), .ref (g 16), .ref (g 17), .ref (g 18), .ref (g 19), .ref (g 20), .ref (g 21), .int 0, .ref (g 23), .ref (g 24), .ref (g 25), .ref (g 26), .ref (g 27), .int 0, .int 0, .int 0, .int 0, .int 0, .int 0, .int 0, .int (-1), .int 0, .ref (g 37), .ref (g 38), .ref (g 39)]))] sz)) 0 0 (va_A [(mm, .inr (8, [.int hi, .int ri, .int li, .ref (g 3), .ref (g 4), .ref (g 5), .ref (g 6), .ref (g 7), .ref (g 8), .int 0, .ref (g 10), .ref (g 11), .ref (g 12), .ref (g 13), .ref (g 14), .ref (g 15), .ref (g 16), .ref (g 17), .ref (g 18), .ref (g 19), .ref (g 20), .ref (g 21), .int 0, .ref (g 23), .ref (g 24), .ref (g 25), .ref (g 26), .ref (g 27), .int 0, .int 0, .int 0, .int 0, .int 0, .int 0, .int 0, .int (-1), .int 0, .ref (g 37), .ref (g 38), .ref (g 39)]))] sz) := by
  refine Met.ofW (cc := cX8_verify) (maxL := 4) (ret := (some .int)) (by decide) rfl ?_
  intro p e s m args below meth c s₁ B hml hv
  obtain ⟨rfl, hsz, hP, hK, hD0⟩ := hv
  have hx := B.exec
  have hb := B.bytes
  have hr := B.returns
  have hts := atoms_spec (ws := ww_X8_verify) B.pre
  have hown : s.vm.findClass RX8 = some m.cls := findClass_of_methodNamed B.named
  have hlocks := B.notSynchronized
  subst hsz
  have hD := hD0.self (sz := s.heap.size)
  generalize hAe : va_A [(mm, .inr (8, [.int hi, .int ri, .int li, .ref (g 3), .ref (g 4), .ref (g 5), .ref (g 6), .ref (g 7), .ref (g 8), .int 0, .ref (g 10), .ref (g 11), .ref (g 12), .ref (g 13), .ref (g 14), .ref (g 15), .ref (g 16), .ref (g 17), .ref (g 18), .ref (g 19), .ref (g 20), .ref (g 21), .int 0, .ref (g 23), .ref (g 24), .ref (g 25), .ref (g 26), .ref (g 27), .int 0, .int 0, .int 0, .int 0, .int 0, .int 0, .int 0, .int (-1), .int 0, .ref (g 37), .ref (g 38), .ref (g 39)]))] s.heap.size = A at hD ⊢
  have hA : ∀ q : Nat, s.heap.size ≤ q → A q := fun q h => by rw [← hAe]; exact Or.inr h
  have hS : va_S A s.heap s.heap [] := va_S.rf
  have hP : va_P (dC, dI) classes [(mm, .inr (8, [.int hi, .int ri, .int li, .ref (g 3), .ref (g 4), .ref (g 5), .ref (g 6), .ref (g 7), .ref (g 8), .int 0, .ref (g 10), .ref (g 11), .ref (g 12), .ref (g 13), .ref (g 14), .ref (g 15), .ref (g 16), .ref (g 17), .ref (g 18), .ref (g 19), .ref (g 20), .ref (g 21), .int 0, .ref (g 23), .ref (g 24), .ref (g 25), .ref (g 26), .ref (g 27), .int 0, .int 0, .int 0, .int 0, .int 0, .int 0, .int 0, .int (-1), .int 0, .ref (g 37), .ref (g 38), .ref (g 39)]))] s.heap := hP
  have hl := lv_entry ([.ref mm, .int k]) (n := 4) (Nat.le_of_ble_eq_true rfl)
  rw [lg_entry_eq]
  generalize (lg_sl ([.ref mm, .int k]) ++ List.replicate (4 - (lg_sl ([.ref mm, .int k])).length) Slot.unset).toArray = ls at hl ⊢
  have hl : lv_has ls 4 [(0, .ref mm), (1, .int k)] := hl
  generalize hHe : s.heap = H at hP ⊢
  have hS : va_S A s.heap H [] := by rw [← hHe]; exact va_S.rf
  refine lv_iload_n hx hb dX8_verify_0 rfl (lv_at hl 1 rfl) ?_
  refine lv_iconst (v := 0) hx hb dX8_verify_1 (by decide) ?_
  refine lv_aload_n hx hb dX8_verify_2 rfl (lv_at hl 0 rfl) ?_
  refine va_get (D := (dC, dI)) (ci := 8) (v := .int 0) (C := RX8) (T := TX8) (N := 40) hx hb hts iX8_verify_X8 hown hK hP 0 rfl rfl 28 (by decide) (hts (.fieldLink RX8 244 "LeafSignerModel" "taped" "I") (List.mem_of_getElem? (i := 1) rfl)) (fun _ h9 => h9) rfl dX8_verify_3 ?_
  have hPc := hP.sub (ws' := []) [] rfl
  have hDc := hD.sub (ws' := []) [] (by decide) rfl
  have hKc := hK.sub (tys' := []) [] rfl
  have hFc := va_free (wc := []) hD hS hA [] rfl
  refine va_calli (va_runS (As := [.int k, .int 0, .int 0]) (rest := []) ⟨hx, hb, hml, hown, hts⟩ (cm_in l dC dI H.size k 0 0) (va_cwS 3 hts gX8_verify_X8_in_279 rfl rfl rfl (by decide +kernel) ⟨(Nat.le_of_ble_eq_true rfl), (Nat.le_of_ble_eq_true rfl)⟩) ⟨fun a U g mk q => by obtain ⟨q0, q1, qP, qK, qD⟩ := q; exact ⟨q0, q1, qP, va_K.moved (u := U) (U := U.calling g mk a) (Vm.Alike.refl U.vm) qK, qD⟩, fun U hU hW => ⟨rfl, by rw [hU], by rw [hU]; exact hPc, va_K.moved hW.alike hKc, hDc.weaken (fun _ _ _ _ => trivial)⟩⟩ rfl rfl hl.1 rfl (lv_room (Nat.le_of_ble_eq_true rfl)) dX8_verify_6 ⟨(Nat.le_of_ble_eq_true rfl), (Nat.le_of_ble_eq_true rfl)⟩) hS (fun q _ h => hFc q h) hFc (fun r169 u t H1 locs ht hvm hw hB hz1 hk1 hS => ?_)
  have hP1 : va_P (dC, dI) classes [] H1 := vx_P0
  have hD1 : va_D (va_A [] H.size) [] := vx_D0
  obtain ⟨hP, hD⟩ := va_join (wr := [(mm, .inr (8, [.int hi, .int ri, .int li, .ref (g 3), .ref (g 4), .ref (g 5), .ref (g 6), .ref (g 7), .ref (g 8), .int 0, .ref (g 10), .ref (g 11), .ref (g 12), .ref (g 13), .ref (g 14), .ref (g 15), .ref (g 16), .ref (g 17), .ref (g 18), .ref (g 19), .ref (g 20), .ref (g 21), .int 0, .ref (g 23), .ref (g 24), .ref (g 25), .ref (g 26), .ref (g 27), .int 0, .int 0, .int 0, .int 0, .int 0, .int 0, .int 0, .int (-1), .int 0, .ref (g 37), .ref (g 38), .ref (g 39)]))]) (w1 := []) hP hD [] [0] rfl rfl (by decide) (by decide) hk1 hFc hP1 hD1
  have hK := hK.sub (tys' := []) [] rfl
  generalize H1 = H at hP hS ⊢
  have hP : va_P (dC, dI) classes [(mm, .inr (8, [.int hi, .int ri, .int li, .ref (g 3), .ref (g 4), .ref (g 5), .ref (g 6), .ref (g 7), .ref (g 8), .int 0, .ref (g 10), .ref (g 11), .ref (g 12), .ref (g 13), .ref (g 14), .ref (g 15), .ref (g 16), .ref (g 17), .ref (g 18), .ref (g 19), .ref (g 20), .ref (g 21), .int 0, .ref (g 23), .ref (g 24), .ref (g 25), .ref (g 26), .ref (g 27), .int 0, .int 0, .int 0, .int 0, .int 0, .int 0, .int 0, .int (-1), .int 0, .ref (g 37), .ref (g 38), .ref (g 39)]))] H := hP
  have hD : va_D A [(mm, .inr (8, [.int hi, .int ri, .int li, .ref (g 3), .ref (g 4), .ref (g 5), .ref (g 6), .ref (g 7), .ref (g 8), .int 0, .ref (g 10), .ref (g 11), .ref (g 12), .ref (g 13), .ref (g 14), .ref (g 15), .ref (g 16), .ref (g 17), .ref (g 18), .ref (g 19), .ref (g 20), .ref (g 21), .int 0, .ref (g 23), .ref (g 24), .ref (g 25), .ref (g 26), .ref (g 27), .int 0, .int 0, .int 0, .int 0, .int 0, .int 0, .int 0, .int (-1), .int 0, .ref (g 37), .ref (g 38), .ref (g 39)]))] := hD
  have hK : va_K (dC, dI) classes [] s := hK
  refine W.widen (k := 0) (n := 0) (Nat.le_of_ble_eq_true rfl) (Nat.le_of_ble_eq_true rfl) ?_
  try dsimp only at hw
  subst hw
  refine lv_if_ne (tgt := 15) hx hb dX8_verify_9 (by decide) (fun c170 => ?_) (fun c170 => ?_)
  · refine lv_aload_n hx hb dX8_verify_15 rfl (lv_at hl 0 rfl) ?_
    refine va_get (D := (dC, dI)) (ci := 8) (v := .int 0) (C := RX8) (T := TX8) (N := 40) hx hb hts iX8_verify_X8 hown hK hP 0 rfl rfl 22 (by decide) (hts (.fieldLink RX8 250 "LeafSignerModel" "hasKeys" "Z") (List.mem_of_getElem? (i := 6) rfl)) (fun _ h9 => h9) rfl dX8_verify_16 ?_
    refine lv_if_ne (tgt := 25) hx hb dX8_verify_19 (by decide) (fun c171 => absurd c171 (by decide)) (fun c171 => ?_)
    refine lv_bipush (v := (-3)) hx hb dX8_verify_22 (by decide) ?_
    refine W.widen (k := 0) (n := 0) (Nat.le_of_ble_eq_true rfl) (Nat.le_of_ble_eq_true rfl) ?_
    exact W.iret (v := (-3)) hx hb hr (fun t ht hW => ⟨⟨(-3), (), rfl, (by unfold fm_sign; rw [if_pos c170]), trivial⟩, hS.F ht⟩) hS.2.2 dX8_verify_24
  · refine lv_bipush (v := (-2)) hx hb dX8_verify_12 (by decide) ?_
    refine W.widen (k := 0) (n := 0) (Nat.le_of_ble_eq_true rfl) (Nat.le_of_ble_eq_true rfl) ?_
    exact W.iret (v := (-2)) hx hb hr (fun t ht hW => ⟨⟨(-2), (), rfl, (by unfold fm_sign; rw [if_neg (fun h9 => h9 c170)]), trivial⟩, hS.F ht⟩) hS.2.2 dX8_verify_14
end
section
def ww_X8_fuse : List Cond := .code yX8_fuse cX8_fuse 2 (some .boolean) :: ([.methodLink RX8 279 yX8_in, .static yX8_in, .initialized RX8, .code yX8_in cX8_in 3 (some .boolean), .fieldLink RX8 152 "LeafSignerModel" "fuse" "I"] ++ (wsX80))
theorem iX8_fuse_X8 : ∀ w ∈ wsX80, w ∈ ww_X8_fuse := fun w h => List.mem_cons_of_mem _ (List.mem_append_right _ h)
set_option maxRecDepth 20000 in
theorem gX8_fuse_X8_in_279 : GoodIn ww_X8_fuse (va_wsS RX8 279 yX8_in ww_X8_in) := vx_good _ [1, 2, 3, 4] rfl (by decide +kernel)
set_option maxHeartbeats 4000000 in
set_option maxRecDepth 100000 in
theorem cm_fuse (l : Launch) (dC : Nat → ClassId) (dI : Nat → Nat → Nat) (sz : Nat) (mm : Nat) (k : Int32) (hi : Int32) (ri : Int32) (li : Int32) (g : (Nat → Nat)) : Met l yX8_fuse ww_X8_fuse ({ frames := 1, cells := 0, slots := 0, locals := 22 }) (va_Pc [.ref mm, .int k] (fun U => U.heap.size = sz ∧ va_P (dC, dI) classes [(mm, .inr (8, [.int hi, .int ri, .int li, .ref (g 3), .ref (g 4), .ref (g 5), .ref (g 6), .ref (g 7), .ref (g 8), .int 0, .ref (g 10), .ref (g 11), .ref (g 12), .ref (g 13), .ref (g 14), .ref (g 15), .ref (g 16), .ref (g 17), .ref (g 18), .ref (g 19), .ref (g 20), .ref (g 21), .int 0, .ref (g 23), .ref (g 24), .ref (g 25), .ref (g 26), .ref (g 27), .int 0, .int 0, .int 0, .int 0, .int 0, .int 0, .int 0, .int (-1), .int 0, .ref (g 37), .ref (g 38), .ref (g 39)]))] U.heap ∧ va_K (dC, dI) classes [] U ∧ va_D (fun _ => True) [(mm, .inr (8, [.int hi, .int ri, .int li, .ref (g 3), .ref (g 4), .ref (g 5), .ref (g 6), .ref (g 7), .ref (g 8), .int 0, .ref (g 10), .ref (g 11), .ref (g 12), .ref (g 13), .ref (g 14), .ref (g 15), .ref (g 16), .ref (g 17), .ref (g 18), .ref (g 19), .ref (g 20), .ref (g 21), .int 0, .ref (g 23), .ref (g 24), .ref (g 25), .ref (g 26), .ref (g 27), .int 0, .int 0, .int 0, .int 0, .int 0, .int 0, .int 0, .int (-1), .int 0, .ref (g 37), .ref (g 38), .ref (g 39)]))])) (va_Qi (fun (r : Int32) (_ : Unit) => r = fm_fuse k) (fun (_ : Unit) (_ : State) => True) (va_A [(mm, .inr (8, [.int hi, .int ri, .int li, .ref (g 3), .ref (g 4), .ref (g 5), .ref (g 6), .ref (g 7), .ref (g 8), .int 0, .ref (g 10), .ref (g 11), .ref (g 12), .ref (g 13), .ref (g 14), .ref (g 15), .ref (g 16), .ref (g 17), .ref (g 18), .ref (g 19), .ref (g 20), .ref (g 21), .int 0, .ref (g 23), .ref (g 24), .ref (g 25), .ref (g 26), .ref (g 27), .int 0, .int 0, .int 0, .int 0, .int 0, .int 0, .int 0, .int (-1), .int 0, .ref (g 37), .ref (g 38), .ref (g 39)]))] sz)) 0 0 (va_A [(mm, .inr (8, [.int hi, .int ri, .int li, .ref (g 3), .ref (g 4), .ref (g 5), .ref (g 6), .ref (g 7), .ref (g 8), .int 0, .ref (g 10), .ref (g 11), .ref (g 12), .ref (g 13), .ref (g 14), .ref (g 15), .ref (g 16), .ref (g 17), .ref (g 18), .ref (g 19), .ref (g 20), .ref (g 21), .int 0, .ref (g 23), .ref (g 24), .ref (g 25), .ref (g 26), .ref (g 27), .int 0, .int 0, .int 0, .int 0, .int 0, .int 0, .int 0, .int (-1), .int 0, .ref (g 37), .ref (g 38), .ref (g 39)]))] sz) := by
  refine Met.ofW (cc := cX8_fuse) (maxL := 2) (ret := (some .boolean)) (by decide) rfl ?_
  intro p e s m args below meth c s₁ B hml hv
  obtain ⟨rfl, hsz, hP, hK, hD0⟩ := hv
  have hx := B.exec
  have hb := B.bytes
  have hr := B.returns
  have hts := atoms_spec (ws := ww_X8_fuse) B.pre
  have hown : s.vm.findClass RX8 = some m.cls := findClass_of_methodNamed B.named
  have hlocks := B.notSynchronized
  subst hsz
  have hD := hD0.self (sz := s.heap.size)
  generalize hAe : va_A [(mm, .inr (8, [.int hi, .int ri, .int li, .ref (g 3), .ref (g 4), .ref (g 5), .ref (g 6), .ref (g 7), .ref (g 8), .int 0, .ref (g 10), .ref (g 11), .ref (g 12), .ref (g 13), .ref (g 14), .ref (g 15), .ref (g 16), .ref (g 17), .ref (g 18), .ref (g 19), .ref (g 20), .ref (g 21), .int 0, .ref (g 23), .ref (g 24), .ref (g 25), .ref (g 26), .ref (g 27), .int 0, .int 0, .int 0, .int 0, .int 0, .int 0, .int 0, .int (-1), .int 0, .ref (g 37), .ref (g 38), .ref (g 39)]))] s.heap.size = A at hD ⊢
  have hA : ∀ q : Nat, s.heap.size ≤ q → A q := fun q h => by rw [← hAe]; exact Or.inr h
  have hS : va_S A s.heap s.heap [] := va_S.rf
  have hP : va_P (dC, dI) classes [(mm, .inr (8, [.int hi, .int ri, .int li, .ref (g 3), .ref (g 4), .ref (g 5), .ref (g 6), .ref (g 7), .ref (g 8), .int 0, .ref (g 10), .ref (g 11), .ref (g 12), .ref (g 13), .ref (g 14), .ref (g 15), .ref (g 16), .ref (g 17), .ref (g 18), .ref (g 19), .ref (g 20), .ref (g 21), .int 0, .ref (g 23), .ref (g 24), .ref (g 25), .ref (g 26), .ref (g 27), .int 0, .int 0, .int 0, .int 0, .int 0, .int 0, .int 0, .int (-1), .int 0, .ref (g 37), .ref (g 38), .ref (g 39)]))] s.heap := hP
  have hl := lv_entry ([.ref mm, .int k]) (n := 2) (Nat.le_of_ble_eq_true rfl)
  rw [lg_entry_eq]
  generalize (lg_sl ([.ref mm, .int k]) ++ List.replicate (2 - (lg_sl ([.ref mm, .int k])).length) Slot.unset).toArray = ls at hl ⊢
  have hl : lv_has ls 2 [(0, .ref mm), (1, .int k)] := hl
  generalize hHe : s.heap = H at hP ⊢
  have hS : va_S A s.heap H [] := by rw [← hHe]; exact va_S.rf
  refine lv_iload_n hx hb dX8_fuse_0 rfl (lv_at hl 1 rfl) ?_
  refine lv_iconst (v := (-1)) hx hb dX8_fuse_1 (by decide) ?_
  refine lv_sipush (v := 1000) hx hb dX8_fuse_2 (by decide) ?_
  have hPc := hP.sub (ws' := []) [] rfl
  have hDc := hD.sub (ws' := []) [] (by decide) rfl
  have hKc := hK.sub (tys' := []) [] rfl
  have hFc := va_free (wc := []) hD hS hA [] rfl
  refine va_calli (va_runS (As := [.int k, .int (-1), .int 1000]) (rest := []) ⟨hx, hb, hml, hown, hts⟩ (cm_in l dC dI H.size k (-1) 1000) (va_cwS 3 hts gX8_fuse_X8_in_279 rfl rfl rfl (by decide +kernel) ⟨(Nat.le_of_ble_eq_true rfl), (Nat.le_of_ble_eq_true rfl)⟩) ⟨fun a U g mk q => by obtain ⟨q0, q1, qP, qK, qD⟩ := q; exact ⟨q0, q1, qP, va_K.moved (u := U) (U := U.calling g mk a) (Vm.Alike.refl U.vm) qK, qD⟩, fun U hU hW => ⟨rfl, by rw [hU], by rw [hU]; exact hPc, va_K.moved hW.alike hKc, hDc.weaken (fun _ _ _ _ => trivial)⟩⟩ rfl rfl hl.1 rfl (lv_room (Nat.le_of_ble_eq_true rfl)) dX8_fuse_5 ⟨(Nat.le_of_ble_eq_true rfl), (Nat.le_of_ble_eq_true rfl)⟩) hS (fun q _ h => hFc q h) hFc (fun r172 u t H1 locs ht hvm hw hB hz1 hk1 hS => ?_)
  have hP1 : va_P (dC, dI) classes [] H1 := vx_P0
  have hD1 : va_D (va_A [] H.size) [] := vx_D0
  obtain ⟨hP, hD⟩ := va_join (wr := [(mm, .inr (8, [.int hi, .int ri, .int li, .ref (g 3), .ref (g 4), .ref (g 5), .ref (g 6), .ref (g 7), .ref (g 8), .int 0, .ref (g 10), .ref (g 11), .ref (g 12), .ref (g 13), .ref (g 14), .ref (g 15), .ref (g 16), .ref (g 17), .ref (g 18), .ref (g 19), .ref (g 20), .ref (g 21), .int 0, .ref (g 23), .ref (g 24), .ref (g 25), .ref (g 26), .ref (g 27), .int 0, .int 0, .int 0, .int 0, .int 0, .int 0, .int 0, .int (-1), .int 0, .ref (g 37), .ref (g 38), .ref (g 39)]))]) (w1 := []) hP hD [] [0] rfl rfl (by decide) (by decide) hk1 hFc hP1 hD1
  have hK := hK.sub (tys' := []) [] rfl
  generalize H1 = H at hP hS ⊢
  have hP : va_P (dC, dI) classes [(mm, .inr (8, [.int hi, .int ri, .int li, .ref (g 3), .ref (g 4), .ref (g 5), .ref (g 6), .ref (g 7), .ref (g 8), .int 0, .ref (g 10), .ref (g 11), .ref (g 12), .ref (g 13), .ref (g 14), .ref (g 15), .ref (g 16), .ref (g 17), .ref (g 18), .ref (g 19), .ref (g 20), .ref (g 21), .int 0, .ref (g 23), .ref (g 24), .ref (g 25), .ref (g 26), .ref (g 27), .int 0, .int 0, .int 0, .int 0, .int 0, .int 0, .int 0, .int (-1), .int 0, .ref (g 37), .ref (g 38), .ref (g 39)]))] H := hP
  have hD : va_D A [(mm, .inr (8, [.int hi, .int ri, .int li, .ref (g 3), .ref (g 4), .ref (g 5), .ref (g 6), .ref (g 7), .ref (g 8), .int 0, .ref (g 10), .ref (g 11), .ref (g 12), .ref (g 13), .ref (g 14), .ref (g 15), .ref (g 16), .ref (g 17), .ref (g 18), .ref (g 19), .ref (g 20), .ref (g 21), .int 0, .ref (g 23), .ref (g 24), .ref (g 25), .ref (g 26), .ref (g 27), .int 0, .int 0, .int 0, .int 0, .int 0, .int 0, .int 0, .int (-1), .int 0, .ref (g 37), .ref (g 38), .ref (g 39)]))] := hD
  have hK : va_K (dC, dI) classes [] s := hK
  refine W.widen (k := 0) (n := 0) (Nat.le_of_ble_eq_true rfl) (Nat.le_of_ble_eq_true rfl) ?_
  try dsimp only at hw
  subst hw
  refine lv_if_ne (tgt := 13) hx hb dX8_fuse_8 (by decide) (fun c173 => ?_) (fun c173 => ?_)
  · refine lv_aload_n hx hb dX8_fuse_13 rfl (lv_at hl 0 rfl) ?_
    refine lv_iload_n hx hb dX8_fuse_14 rfl (lv_at hl 1 rfl) ?_
    refine va_put (D := (dC, dI)) (ci := 8) (v := .int k) (ty := .int) (C := RX8) (T := TX8) (N := 40) hx hb hts iX8_fuse_X8 tyX8 tyX8_ok nmX8 hown hK hP hD hS 0 rfl rfl 35 (by decide) (hts (.fieldLink RX8 152 "LeafSignerModel" "fuse" "I") (List.mem_of_getElem? (i := 5) rfl)) (fun _ h9 => h9) rfl (by decide +kernel) rfl rfl (Nat.le_of_ble_eq_true rfl) dX8_fuse_15 (fun H locs hP hD hS => ?_)
    have hP : va_P (dC, dI) classes [(mm, .inr (8, [.int hi, .int ri, .int li, .ref (g 3), .ref (g 4), .ref (g 5), .ref (g 6), .ref (g 7), .ref (g 8), .int 0, .ref (g 10), .ref (g 11), .ref (g 12), .ref (g 13), .ref (g 14), .ref (g 15), .ref (g 16), .ref (g 17), .ref (g 18), .ref (g 19), .ref (g 20), .ref (g 21), .int 0, .ref (g 23), .ref (g 24), .ref (g 25), .ref (g 26), .ref (g 27), .int 0, .int 0, .int 0, .int 0, .int 0, .int 0, .int 0, .int k, .int 0, .ref (g 37), .ref (g 38), .ref (g 39)]))] H := hP
    have hD : va_D A [(mm, .inr (8, [.int hi, .int ri, .int li, .ref (g 3), .ref (g 4), .ref (g 5), .ref (g 6), .ref (g 7), .ref (g 8), .int 0, .ref (g 10), .ref (g 11), .ref (g 12), .ref (g 13), .ref (g 14), .ref (g 15), .ref (g 16), .ref (g 17), .ref (g 18), .ref (g 19), .ref (g 20), .ref (g 21), .int 0, .ref (g 23), .ref (g 24), .ref (g 25), .ref (g 26), .ref (g 27), .int 0, .int 0, .int 0, .int 0, .int 0, .int 0, .int 0, .int k, .int 0, .ref (g 37), .ref (g 38), .ref (g 39)]))] := hD
    refine lv_iconst (v := 1) hx hb dX8_fuse_18 (by decide) ?_
    refine W.widen (k := 0) (n := 0) (Nat.le_of_ble_eq_true rfl) (Nat.le_of_ble_eq_true rfl) ?_
    exact W.zret (v := 1) (ty := .boolean) hx hb hr (by decide) (fun t ht hW => ⟨⟨1, (), rfl, (by unfold fm_fuse; rw [if_pos c173]), trivial⟩, hS.F ht⟩) hS.2.2 dX8_fuse_19
  · refine lv_iconst (v := 0) hx hb dX8_fuse_11 (by decide) ?_
    refine W.widen (k := 0) (n := 0) (Nat.le_of_ble_eq_true rfl) (Nat.le_of_ble_eq_true rfl) ?_
    exact W.zret (v := 0) (ty := .boolean) hx hb hr (by decide) (fun t ht hW => ⟨⟨0, (), rfl, (by unfold fm_fuse; rw [if_neg (fun h9 => h9 c173)]), trivial⟩, hS.F ht⟩) hS.2.2 dX8_fuse_12
end
section
def ww_X8_alter : List Cond := .code yX8_alter cX8_alter 3 (some .int) :: ([.fieldLink RX8 300 "LeafSignerModel" "keeps" "I", .methodLink RX8 279 yX8_in, .static yX8_in, .initialized RX8, .code yX8_in cX8_in 3 (some .boolean)] ++ (wsX80))
theorem iX8_alter_X8 : ∀ w ∈ wsX80, w ∈ ww_X8_alter := fun w h => List.mem_cons_of_mem _ (List.mem_append_right _ h)
set_option maxRecDepth 20000 in
theorem gX8_alter_X8_in_279 : GoodIn ww_X8_alter (va_wsS RX8 279 yX8_in ww_X8_in) := vx_good _ [2, 3, 4, 5] rfl (by decide +kernel)
set_option maxHeartbeats 4000000 in
set_option maxRecDepth 100000 in
theorem cm_alter (l : Launch) (dC : Nat → ClassId) (dI : Nat → Nat → Nat) (sz : Nat) (mm : Nat) (k : Int32) (z : Int32) (hi : Int32) (ri : Int32) (li : Int32) (g : (Nat → Nat)) : Met l yX8_alter ww_X8_alter ({ frames := 1, cells := 0, slots := 0, locals := 22 }) (va_Pc [.ref mm, .int k, .int z] (fun U => U.heap.size = sz ∧ va_P (dC, dI) classes [(mm, .inr (8, [.int hi, .int ri, .int li, .ref (g 3), .ref (g 4), .ref (g 5), .ref (g 6), .ref (g 7), .ref (g 8), .int 0, .ref (g 10), .ref (g 11), .ref (g 12), .ref (g 13), .ref (g 14), .ref (g 15), .ref (g 16), .ref (g 17), .ref (g 18), .ref (g 19), .ref (g 20), .ref (g 21), .int 0, .ref (g 23), .ref (g 24), .ref (g 25), .ref (g 26), .ref (g 27), .int 0, .int 0, .int 0, .int 0, .int 0, .int 0, .int 0, .int (-1), .int 0, .ref (g 37), .ref (g 38), .ref (g 39)]))] U.heap ∧ va_K (dC, dI) classes [] U ∧ va_D (fun _ => True) [(mm, .inr (8, [.int hi, .int ri, .int li, .ref (g 3), .ref (g 4), .ref (g 5), .ref (g 6), .ref (g 7), .ref (g 8), .int 0, .ref (g 10), .ref (g 11), .ref (g 12), .ref (g 13), .ref (g 14), .ref (g 15), .ref (g 16), .ref (g 17), .ref (g 18), .ref (g 19), .ref (g 20), .ref (g 21), .int 0, .ref (g 23), .ref (g 24), .ref (g 25), .ref (g 26), .ref (g 27), .int 0, .int 0, .int 0, .int 0, .int 0, .int 0, .int 0, .int (-1), .int 0, .ref (g 37), .ref (g 38), .ref (g 39)]))])) (va_Qi (fun (r : Int32) (_ : Unit) => r = -1) (fun (_ : Unit) (_ : State) => True) (va_A [(mm, .inr (8, [.int hi, .int ri, .int li, .ref (g 3), .ref (g 4), .ref (g 5), .ref (g 6), .ref (g 7), .ref (g 8), .int 0, .ref (g 10), .ref (g 11), .ref (g 12), .ref (g 13), .ref (g 14), .ref (g 15), .ref (g 16), .ref (g 17), .ref (g 18), .ref (g 19), .ref (g 20), .ref (g 21), .int 0, .ref (g 23), .ref (g 24), .ref (g 25), .ref (g 26), .ref (g 27), .int 0, .int 0, .int 0, .int 0, .int 0, .int 0, .int 0, .int (-1), .int 0, .ref (g 37), .ref (g 38), .ref (g 39)]))] sz)) 0 0 (va_A [(mm, .inr (8, [.int hi, .int ri, .int li, .ref (g 3), .ref (g 4), .ref (g 5), .ref (g 6), .ref (g 7), .ref (g 8), .int 0, .ref (g 10), .ref (g 11), .ref (g 12), .ref (g 13), .ref (g 14), .ref (g 15), .ref (g 16), .ref (g 17), .ref (g 18), .ref (g 19), .ref (g 20), .ref (g 21), .int 0, .ref (g 23), .ref (g 24), .ref (g 25), .ref (g 26), .ref (g 27), .int 0, .int 0, .int 0, .int 0, .int 0, .int 0, .int 0, .int (-1), .int 0, .ref (g 37), .ref (g 38), .ref (g 39)]))] sz) := by
  refine Met.ofW (cc := cX8_alter) (maxL := 3) (ret := (some .int)) (by decide) rfl ?_
  intro p e s m args below meth c s₁ B hml hv
  obtain ⟨rfl, hsz, hP, hK, hD0⟩ := hv
  have hx := B.exec
  have hb := B.bytes
  have hr := B.returns
  have hts := atoms_spec (ws := ww_X8_alter) B.pre
  have hown : s.vm.findClass RX8 = some m.cls := findClass_of_methodNamed B.named
  have hlocks := B.notSynchronized
  subst hsz
  have hD := hD0.self (sz := s.heap.size)
  generalize hAe : va_A [(mm, .inr (8, [.int hi, .int ri, .int li, .ref (g 3), .ref (g 4), .ref (g 5), .ref (g 6), .ref (g 7), .ref (g 8), .int 0, .ref (g 10), .ref (g 11), .ref (g 12), .ref (g 13), .ref (g 14), .ref (g 15), .ref (g 16), .ref (g 17), .ref (g 18), .ref (g 19), .ref (g 20), .ref (g 21), .int 0, .ref (g 23), .ref (g 24), .ref (g 25), .ref (g 26), .ref (g 27), .int 0, .int 0, .int 0, .int 0, .int 0, .int 0, .int 0, .int (-1), .int 0, .ref (g 37), .ref (g 38), .ref (g 39)]))] s.heap.size = A at hD ⊢
  have hA : ∀ q : Nat, s.heap.size ≤ q → A q := fun q h => by rw [← hAe]; exact Or.inr h
  have hS : va_S A s.heap s.heap [] := va_S.rf
  have hP : va_P (dC, dI) classes [(mm, .inr (8, [.int hi, .int ri, .int li, .ref (g 3), .ref (g 4), .ref (g 5), .ref (g 6), .ref (g 7), .ref (g 8), .int 0, .ref (g 10), .ref (g 11), .ref (g 12), .ref (g 13), .ref (g 14), .ref (g 15), .ref (g 16), .ref (g 17), .ref (g 18), .ref (g 19), .ref (g 20), .ref (g 21), .int 0, .ref (g 23), .ref (g 24), .ref (g 25), .ref (g 26), .ref (g 27), .int 0, .int 0, .int 0, .int 0, .int 0, .int 0, .int 0, .int (-1), .int 0, .ref (g 37), .ref (g 38), .ref (g 39)]))] s.heap := hP
  have hl := lv_entry ([.ref mm, .int k, .int z]) (n := 3) (Nat.le_of_ble_eq_true rfl)
  rw [lg_entry_eq]
  generalize (lg_sl ([.ref mm, .int k, .int z]) ++ List.replicate (3 - (lg_sl ([.ref mm, .int k, .int z])).length) Slot.unset).toArray = ls at hl ⊢
  have hl : lv_has ls 3 [(0, .ref mm), (1, .int k), (2, .int z)] := hl
  generalize hHe : s.heap = H at hP ⊢
  have hS : va_S A s.heap H [] := by rw [← hHe]; exact va_S.rf
  refine lv_iload_n hx hb dX8_alter_0 rfl (lv_at hl 1 rfl) ?_
  refine lv_iconst (v := 0) hx hb dX8_alter_1 (by decide) ?_
  refine lv_aload_n hx hb dX8_alter_2 rfl (lv_at hl 0 rfl) ?_
  refine va_get (D := (dC, dI)) (ci := 8) (v := .int 0) (C := RX8) (T := TX8) (N := 40) hx hb hts iX8_alter_X8 hown hK hP 0 rfl rfl 30 (by decide) (hts (.fieldLink RX8 300 "LeafSignerModel" "keeps" "I") (List.mem_of_getElem? (i := 1) rfl)) (fun _ h9 => h9) rfl dX8_alter_3 ?_
  refine lv_iconst (v := 1) hx hb dX8_alter_6 (by decide) ?_
  refine lv_isub hx hb dX8_alter_7 ?_
  refine vx_topk (-1) (by decide) ?_
  have hPc := hP.sub (ws' := []) [] rfl
  have hDc := hD.sub (ws' := []) [] (by decide) rfl
  have hKc := hK.sub (tys' := []) [] rfl
  have hFc := va_free (wc := []) hD hS hA [] rfl
  refine va_calli (va_runS (As := [.int k, .int 0, .int (-1)]) (rest := []) ⟨hx, hb, hml, hown, hts⟩ (cm_in l dC dI H.size k 0 (-1)) (va_cwS 3 hts gX8_alter_X8_in_279 rfl rfl rfl (by decide +kernel) ⟨(Nat.le_of_ble_eq_true rfl), (Nat.le_of_ble_eq_true rfl)⟩) ⟨fun a U g mk q => by obtain ⟨q0, q1, qP, qK, qD⟩ := q; exact ⟨q0, q1, qP, va_K.moved (u := U) (U := U.calling g mk a) (Vm.Alike.refl U.vm) qK, qD⟩, fun U hU hW => ⟨rfl, by rw [hU], by rw [hU]; exact hPc, va_K.moved hW.alike hKc, hDc.weaken (fun _ _ _ _ => trivial)⟩⟩ rfl rfl hl.1 rfl (lv_room (Nat.le_of_ble_eq_true rfl)) dX8_alter_8 ⟨(Nat.le_of_ble_eq_true rfl), (Nat.le_of_ble_eq_true rfl)⟩) hS (fun q _ h => hFc q h) hFc (fun r174 u t H1 locs ht hvm hw hB hz1 hk1 hS => ?_)
  have hP1 : va_P (dC, dI) classes [] H1 := vx_P0
  have hD1 : va_D (va_A [] H.size) [] := vx_D0
  obtain ⟨hP, hD⟩ := va_join (wr := [(mm, .inr (8, [.int hi, .int ri, .int li, .ref (g 3), .ref (g 4), .ref (g 5), .ref (g 6), .ref (g 7), .ref (g 8), .int 0, .ref (g 10), .ref (g 11), .ref (g 12), .ref (g 13), .ref (g 14), .ref (g 15), .ref (g 16), .ref (g 17), .ref (g 18), .ref (g 19), .ref (g 20), .ref (g 21), .int 0, .ref (g 23), .ref (g 24), .ref (g 25), .ref (g 26), .ref (g 27), .int 0, .int 0, .int 0, .int 0, .int 0, .int 0, .int 0, .int (-1), .int 0, .ref (g 37), .ref (g 38), .ref (g 39)]))]) (w1 := []) hP hD [] [0] rfl rfl (by decide) (by decide) hk1 hFc hP1 hD1
  have hK := hK.sub (tys' := []) [] rfl
  generalize H1 = H at hP hS ⊢
  have hP : va_P (dC, dI) classes [(mm, .inr (8, [.int hi, .int ri, .int li, .ref (g 3), .ref (g 4), .ref (g 5), .ref (g 6), .ref (g 7), .ref (g 8), .int 0, .ref (g 10), .ref (g 11), .ref (g 12), .ref (g 13), .ref (g 14), .ref (g 15), .ref (g 16), .ref (g 17), .ref (g 18), .ref (g 19), .ref (g 20), .ref (g 21), .int 0, .ref (g 23), .ref (g 24), .ref (g 25), .ref (g 26), .ref (g 27), .int 0, .int 0, .int 0, .int 0, .int 0, .int 0, .int 0, .int (-1), .int 0, .ref (g 37), .ref (g 38), .ref (g 39)]))] H := hP
  have hD : va_D A [(mm, .inr (8, [.int hi, .int ri, .int li, .ref (g 3), .ref (g 4), .ref (g 5), .ref (g 6), .ref (g 7), .ref (g 8), .int 0, .ref (g 10), .ref (g 11), .ref (g 12), .ref (g 13), .ref (g 14), .ref (g 15), .ref (g 16), .ref (g 17), .ref (g 18), .ref (g 19), .ref (g 20), .ref (g 21), .int 0, .ref (g 23), .ref (g 24), .ref (g 25), .ref (g 26), .ref (g 27), .int 0, .int 0, .int 0, .int 0, .int 0, .int 0, .int 0, .int (-1), .int 0, .ref (g 37), .ref (g 38), .ref (g 39)]))] := hD
  have hK : va_K (dC, dI) classes [] s := hK
  refine W.widen (k := 0) (n := 0) (Nat.le_of_ble_eq_true rfl) (Nat.le_of_ble_eq_true rfl) ?_
  try dsimp only at hw
  obtain rfl : r174 = 0 := (hw.trans (vx_in0 k))
  refine lv_if_ne (tgt := 16) hx hb dX8_alter_11 (by decide) (fun c175 => absurd c175 (by decide)) (fun c175 => ?_)
  refine lv_iconst (v := (-1)) hx hb dX8_alter_14 (by decide) ?_
  refine W.widen (k := 0) (n := 0) (Nat.le_of_ble_eq_true rfl) (Nat.le_of_ble_eq_true rfl) ?_
  exact W.iret (v := (-1)) hx hb hr (fun t ht hW => ⟨⟨(-1), (), rfl, rfl, trivial⟩, hS.F ht⟩) hS.2.2 dX8_alter_15
end
section
def ww_X8_out : List Cond := .code yX8_out cX8_out 2 (some .int) :: ([.fieldLink RX8 290 "LeafSignerModel" "outs" "I", .methodLink RX8 279 yX8_in, .static yX8_in, .initialized RX8, .code yX8_in cX8_in 3 (some .boolean)] ++ (wsX80))
theorem iX8_out_X8 : ∀ w ∈ wsX80, w ∈ ww_X8_out := fun w h => List.mem_cons_of_mem _ (List.mem_append_right _ h)
set_option maxRecDepth 20000 in
theorem gX8_out_X8_in_279 : GoodIn ww_X8_out (va_wsS RX8 279 yX8_in ww_X8_in) := vx_good _ [2, 3, 4, 5] rfl (by decide +kernel)
set_option maxHeartbeats 4000000 in
set_option maxRecDepth 100000 in
theorem cm_out (l : Launch) (dC : Nat → ClassId) (dI : Nat → Nat → Nat) (sz : Nat) (mm : Nat) (k : Int32) (hi : Int32) (ri : Int32) (li : Int32) (g : (Nat → Nat)) : Met l yX8_out ww_X8_out ({ frames := 1, cells := 0, slots := 0, locals := 22 }) (va_Pc [.ref mm, .int k] (fun U => U.heap.size = sz ∧ va_P (dC, dI) classes [(mm, .inr (8, [.int hi, .int ri, .int li, .ref (g 3), .ref (g 4), .ref (g 5), .ref (g 6), .ref (g 7), .ref (g 8), .int 0, .ref (g 10), .ref (g 11), .ref (g 12), .ref (g 13), .ref (g 14), .ref (g 15), .ref (g 16), .ref (g 17), .ref (g 18), .ref (g 19), .ref (g 20), .ref (g 21), .int 0, .ref (g 23), .ref (g 24), .ref (g 25), .ref (g 26), .ref (g 27), .int 0, .int 0, .int 0, .int 0, .int 0, .int 0, .int 0, .int (-1), .int 0, .ref (g 37), .ref (g 38), .ref (g 39)]))] U.heap ∧ va_K (dC, dI) classes [] U ∧ va_D (fun _ => True) [(mm, .inr (8, [.int hi, .int ri, .int li, .ref (g 3), .ref (g 4), .ref (g 5), .ref (g 6), .ref (g 7), .ref (g 8), .int 0, .ref (g 10), .ref (g 11), .ref (g 12), .ref (g 13), .ref (g 14), .ref (g 15), .ref (g 16), .ref (g 17), .ref (g 18), .ref (g 19), .ref (g 20), .ref (g 21), .int 0, .ref (g 23), .ref (g 24), .ref (g 25), .ref (g 26), .ref (g 27), .int 0, .int 0, .int 0, .int 0, .int 0, .int 0, .int 0, .int (-1), .int 0, .ref (g 37), .ref (g 38), .ref (g 39)]))])) (va_Qi (fun (r : Int32) (_ : Unit) => r = -1) (fun (_ : Unit) (_ : State) => True) (va_A [(mm, .inr (8, [.int hi, .int ri, .int li, .ref (g 3), .ref (g 4), .ref (g 5), .ref (g 6), .ref (g 7), .ref (g 8), .int 0, .ref (g 10), .ref (g 11), .ref (g 12), .ref (g 13), .ref (g 14), .ref (g 15), .ref (g 16), .ref (g 17), .ref (g 18), .ref (g 19), .ref (g 20), .ref (g 21), .int 0, .ref (g 23), .ref (g 24), .ref (g 25), .ref (g 26), .ref (g 27), .int 0, .int 0, .int 0, .int 0, .int 0, .int 0, .int 0, .int (-1), .int 0, .ref (g 37), .ref (g 38), .ref (g 39)]))] sz)) 0 0 (va_A [(mm, .inr (8, [.int hi, .int ri, .int li, .ref (g 3), .ref (g 4), .ref (g 5), .ref (g 6), .ref (g 7), .ref (g 8), .int 0, .ref (g 10), .ref (g 11), .ref (g 12), .ref (g 13), .ref (g 14), .ref (g 15), .ref (g 16), .ref (g 17), .ref (g 18), .ref (g 19), .ref (g 20), .ref (g 21), .int 0, .ref (g 23), .ref (g 24), .ref (g 25), .ref (g 26), .ref (g 27), .int 0, .int 0, .int 0, .int 0, .int 0, .int 0, .int 0, .int (-1), .int 0, .ref (g 37), .ref (g 38), .ref (g 39)]))] sz) := by
  refine Met.ofW (cc := cX8_out) (maxL := 2) (ret := (some .int)) (by decide) rfl ?_
  intro p e s m args below meth c s₁ B hml hv
  obtain ⟨rfl, hsz, hP, hK, hD0⟩ := hv
  have hx := B.exec
  have hb := B.bytes
  have hr := B.returns
  have hts := atoms_spec (ws := ww_X8_out) B.pre
  have hown : s.vm.findClass RX8 = some m.cls := findClass_of_methodNamed B.named
  have hlocks := B.notSynchronized
  subst hsz
  have hD := hD0.self (sz := s.heap.size)
  generalize hAe : va_A [(mm, .inr (8, [.int hi, .int ri, .int li, .ref (g 3), .ref (g 4), .ref (g 5), .ref (g 6), .ref (g 7), .ref (g 8), .int 0, .ref (g 10), .ref (g 11), .ref (g 12), .ref (g 13), .ref (g 14), .ref (g 15), .ref (g 16), .ref (g 17), .ref (g 18), .ref (g 19), .ref (g 20), .ref (g 21), .int 0, .ref (g 23), .ref (g 24), .ref (g 25), .ref (g 26), .ref (g 27), .int 0, .int 0, .int 0, .int 0, .int 0, .int 0, .int 0, .int (-1), .int 0, .ref (g 37), .ref (g 38), .ref (g 39)]))] s.heap.size = A at hD ⊢
  have hA : ∀ q : Nat, s.heap.size ≤ q → A q := fun q h => by rw [← hAe]; exact Or.inr h
  have hS : va_S A s.heap s.heap [] := va_S.rf
  have hP : va_P (dC, dI) classes [(mm, .inr (8, [.int hi, .int ri, .int li, .ref (g 3), .ref (g 4), .ref (g 5), .ref (g 6), .ref (g 7), .ref (g 8), .int 0, .ref (g 10), .ref (g 11), .ref (g 12), .ref (g 13), .ref (g 14), .ref (g 15), .ref (g 16), .ref (g 17), .ref (g 18), .ref (g 19), .ref (g 20), .ref (g 21), .int 0, .ref (g 23), .ref (g 24), .ref (g 25), .ref (g 26), .ref (g 27), .int 0, .int 0, .int 0, .int 0, .int 0, .int 0, .int 0, .int (-1), .int 0, .ref (g 37), .ref (g 38), .ref (g 39)]))] s.heap := hP
  have hl := lv_entry ([.ref mm, .int k]) (n := 2) (Nat.le_of_ble_eq_true rfl)
  rw [lg_entry_eq]
  generalize (lg_sl ([.ref mm, .int k]) ++ List.replicate (2 - (lg_sl ([.ref mm, .int k])).length) Slot.unset).toArray = ls at hl ⊢
  have hl : lv_has ls 2 [(0, .ref mm), (1, .int k)] := hl
  generalize hHe : s.heap = H at hP ⊢
  have hS : va_S A s.heap H [] := by rw [← hHe]; exact va_S.rf
  refine lv_iload_n hx hb dX8_out_0 rfl (lv_at hl 1 rfl) ?_
  refine lv_iconst (v := 0) hx hb dX8_out_1 (by decide) ?_
  refine lv_aload_n hx hb dX8_out_2 rfl (lv_at hl 0 rfl) ?_
  refine va_get (D := (dC, dI)) (ci := 8) (v := .int 0) (C := RX8) (T := TX8) (N := 40) hx hb hts iX8_out_X8 hown hK hP 0 rfl rfl 29 (by decide) (hts (.fieldLink RX8 290 "LeafSignerModel" "outs" "I") (List.mem_of_getElem? (i := 1) rfl)) (fun _ h9 => h9) rfl dX8_out_3 ?_
  refine lv_iconst (v := 1) hx hb dX8_out_6 (by decide) ?_
  refine lv_isub hx hb dX8_out_7 ?_
  refine vx_topk (-1) (by decide) ?_
  have hPc := hP.sub (ws' := []) [] rfl
  have hDc := hD.sub (ws' := []) [] (by decide) rfl
  have hKc := hK.sub (tys' := []) [] rfl
  have hFc := va_free (wc := []) hD hS hA [] rfl
  refine va_calli (va_runS (As := [.int k, .int 0, .int (-1)]) (rest := []) ⟨hx, hb, hml, hown, hts⟩ (cm_in l dC dI H.size k 0 (-1)) (va_cwS 3 hts gX8_out_X8_in_279 rfl rfl rfl (by decide +kernel) ⟨(Nat.le_of_ble_eq_true rfl), (Nat.le_of_ble_eq_true rfl)⟩) ⟨fun a U g mk q => by obtain ⟨q0, q1, qP, qK, qD⟩ := q; exact ⟨q0, q1, qP, va_K.moved (u := U) (U := U.calling g mk a) (Vm.Alike.refl U.vm) qK, qD⟩, fun U hU hW => ⟨rfl, by rw [hU], by rw [hU]; exact hPc, va_K.moved hW.alike hKc, hDc.weaken (fun _ _ _ _ => trivial)⟩⟩ rfl rfl hl.1 rfl (lv_room (Nat.le_of_ble_eq_true rfl)) dX8_out_8 ⟨(Nat.le_of_ble_eq_true rfl), (Nat.le_of_ble_eq_true rfl)⟩) hS (fun q _ h => hFc q h) hFc (fun r176 u t H1 locs ht hvm hw hB hz1 hk1 hS => ?_)
  have hP1 : va_P (dC, dI) classes [] H1 := vx_P0
  have hD1 : va_D (va_A [] H.size) [] := vx_D0
  obtain ⟨hP, hD⟩ := va_join (wr := [(mm, .inr (8, [.int hi, .int ri, .int li, .ref (g 3), .ref (g 4), .ref (g 5), .ref (g 6), .ref (g 7), .ref (g 8), .int 0, .ref (g 10), .ref (g 11), .ref (g 12), .ref (g 13), .ref (g 14), .ref (g 15), .ref (g 16), .ref (g 17), .ref (g 18), .ref (g 19), .ref (g 20), .ref (g 21), .int 0, .ref (g 23), .ref (g 24), .ref (g 25), .ref (g 26), .ref (g 27), .int 0, .int 0, .int 0, .int 0, .int 0, .int 0, .int 0, .int (-1), .int 0, .ref (g 37), .ref (g 38), .ref (g 39)]))]) (w1 := []) hP hD [] [0] rfl rfl (by decide) (by decide) hk1 hFc hP1 hD1
  have hK := hK.sub (tys' := []) [] rfl
  generalize H1 = H at hP hS ⊢
  have hP : va_P (dC, dI) classes [(mm, .inr (8, [.int hi, .int ri, .int li, .ref (g 3), .ref (g 4), .ref (g 5), .ref (g 6), .ref (g 7), .ref (g 8), .int 0, .ref (g 10), .ref (g 11), .ref (g 12), .ref (g 13), .ref (g 14), .ref (g 15), .ref (g 16), .ref (g 17), .ref (g 18), .ref (g 19), .ref (g 20), .ref (g 21), .int 0, .ref (g 23), .ref (g 24), .ref (g 25), .ref (g 26), .ref (g 27), .int 0, .int 0, .int 0, .int 0, .int 0, .int 0, .int 0, .int (-1), .int 0, .ref (g 37), .ref (g 38), .ref (g 39)]))] H := hP
  have hD : va_D A [(mm, .inr (8, [.int hi, .int ri, .int li, .ref (g 3), .ref (g 4), .ref (g 5), .ref (g 6), .ref (g 7), .ref (g 8), .int 0, .ref (g 10), .ref (g 11), .ref (g 12), .ref (g 13), .ref (g 14), .ref (g 15), .ref (g 16), .ref (g 17), .ref (g 18), .ref (g 19), .ref (g 20), .ref (g 21), .int 0, .ref (g 23), .ref (g 24), .ref (g 25), .ref (g 26), .ref (g 27), .int 0, .int 0, .int 0, .int 0, .int 0, .int 0, .int 0, .int (-1), .int 0, .ref (g 37), .ref (g 38), .ref (g 39)]))] := hD
  have hK : va_K (dC, dI) classes [] s := hK
  refine W.widen (k := 0) (n := 0) (Nat.le_of_ble_eq_true rfl) (Nat.le_of_ble_eq_true rfl) ?_
  try dsimp only at hw
  obtain rfl : r176 = 0 := (hw.trans (vx_in0 k))
  refine lv_if_eq (tgt := 27) hx hb dX8_out_11 (by decide) (fun c177 => ?_) (fun c177 => absurd (by decide) c177)
  refine lv_iconst (v := (-1)) hx hb dX8_out_27 (by decide) ?_
  refine W.widen (k := 0) (n := 0) (Nat.le_of_ble_eq_true rfl) (Nat.le_of_ble_eq_true rfl) ?_
  exact W.iret (v := (-1)) hx hb hr (fun t ht hW => ⟨⟨(-1), (), rfl, rfl, trivial⟩, hS.F ht⟩) hS.2.2 dX8_out_28
end
section
def ww_X8_leaf : List Cond := .code yX8_leaf cX8_leaf 2 (some .int) :: ([.fieldLink RX8 250 "LeafSignerModel" "hasKeys" "Z"] ++ (wsX80))
theorem iX8_leaf_X8 : ∀ w ∈ wsX80, w ∈ ww_X8_leaf := fun w h => List.mem_cons_of_mem _ (List.mem_append_right _ h)
set_option maxHeartbeats 4000000 in
set_option maxRecDepth 100000 in
theorem cm_leaf (l : Launch) (dC : Nat → ClassId) (dI : Nat → Nat → Nat) (sz : Nat) (mm : Nat) (k : Int32) (hi : Int32) (ri : Int32) (li : Int32) (g : (Nat → Nat)) : Met l yX8_leaf ww_X8_leaf ({ frames := 0, cells := 0, slots := 0, locals := 0 }) (va_Pc [.ref mm, .int k] (fun U => U.heap.size = sz ∧ va_P (dC, dI) classes [(mm, .inr (8, [.int hi, .int ri, .int li, .ref (g 3), .ref (g 4), .ref (g 5), .ref (g 6), .ref (g 7), .ref (g 8), .int 0, .ref (g 10), .ref (g 11), .ref (g 12), .ref (g 13), .ref (g 14), .ref (g 15), .ref (g 16), .ref (g 17), .ref (g 18), .ref (g 19), .ref (g 20), .ref (g 21), .int 0, .ref (g 23), .ref (g 24), .ref (g 25), .ref (g 26), .ref (g 27), .int 0, .int 0, .int 0, .int 0, .int 0, .int 0, .int 0, .int (-1), .int 0, .ref (g 37), .ref (g 38), .ref (g 39)]))] U.heap ∧ va_K (dC, dI) classes [] U ∧ va_D (fun _ => True) [(mm, .inr (8, [.int hi, .int ri, .int li, .ref (g 3), .ref (g 4), .ref (g 5), .ref (g 6), .ref (g 7), .ref (g 8), .int 0, .ref (g 10), .ref (g 11), .ref (g 12), .ref (g 13), .ref (g 14), .ref (g 15), .ref (g 16), .ref (g 17), .ref (g 18), .ref (g 19), .ref (g 20), .ref (g 21), .int 0, .ref (g 23), .ref (g 24), .ref (g 25), .ref (g 26), .ref (g 27), .int 0, .int 0, .int 0, .int 0, .int 0, .int 0, .int 0, .int (-1), .int 0, .ref (g 37), .ref (g 38), .ref (g 39)]))])) (va_Qi (fun (r : Int32) (_ : Unit) => r = -1) (fun (_ : Unit) (_ : State) => True) (va_A [(mm, .inr (8, [.int hi, .int ri, .int li, .ref (g 3), .ref (g 4), .ref (g 5), .ref (g 6), .ref (g 7), .ref (g 8), .int 0, .ref (g 10), .ref (g 11), .ref (g 12), .ref (g 13), .ref (g 14), .ref (g 15), .ref (g 16), .ref (g 17), .ref (g 18), .ref (g 19), .ref (g 20), .ref (g 21), .int 0, .ref (g 23), .ref (g 24), .ref (g 25), .ref (g 26), .ref (g 27), .int 0, .int 0, .int 0, .int 0, .int 0, .int 0, .int 0, .int (-1), .int 0, .ref (g 37), .ref (g 38), .ref (g 39)]))] sz)) 0 0 (va_A [(mm, .inr (8, [.int hi, .int ri, .int li, .ref (g 3), .ref (g 4), .ref (g 5), .ref (g 6), .ref (g 7), .ref (g 8), .int 0, .ref (g 10), .ref (g 11), .ref (g 12), .ref (g 13), .ref (g 14), .ref (g 15), .ref (g 16), .ref (g 17), .ref (g 18), .ref (g 19), .ref (g 20), .ref (g 21), .int 0, .ref (g 23), .ref (g 24), .ref (g 25), .ref (g 26), .ref (g 27), .int 0, .int 0, .int 0, .int 0, .int 0, .int 0, .int 0, .int (-1), .int 0, .ref (g 37), .ref (g 38), .ref (g 39)]))] sz) := by
  refine Met.ofW (cc := cX8_leaf) (maxL := 2) (ret := (some .int)) (by decide) rfl ?_
  intro p e s m args below meth c s₁ B hml hv
  obtain ⟨rfl, hsz, hP, hK, hD0⟩ := hv
  have hx := B.exec
  have hb := B.bytes
  have hr := B.returns
  have hts := atoms_spec (ws := ww_X8_leaf) B.pre
  have hown : s.vm.findClass RX8 = some m.cls := findClass_of_methodNamed B.named
  have hlocks := B.notSynchronized
  subst hsz
  have hD := hD0.self (sz := s.heap.size)
  generalize hAe : va_A [(mm, .inr (8, [.int hi, .int ri, .int li, .ref (g 3), .ref (g 4), .ref (g 5), .ref (g 6), .ref (g 7), .ref (g 8), .int 0, .ref (g 10), .ref (g 11), .ref (g 12), .ref (g 13), .ref (g 14), .ref (g 15), .ref (g 16), .ref (g 17), .ref (g 18), .ref (g 19), .ref (g 20), .ref (g 21), .int 0, .ref (g 23), .ref (g 24), .ref (g 25), .ref (g 26), .ref (g 27), .int 0, .int 0, .int 0, .int 0, .int 0, .int 0, .int 0, .int (-1), .int 0, .ref (g 37), .ref (g 38), .ref (g 39)]))] s.heap.size = A at hD ⊢
  have hA : ∀ q : Nat, s.heap.size ≤ q → A q := fun q h => by rw [← hAe]; exact Or.inr h
  have hS : va_S A s.heap s.heap [] := va_S.rf
  have hP : va_P (dC, dI) classes [(mm, .inr (8, [.int hi, .int ri, .int li, .ref (g 3), .ref (g 4), .ref (g 5), .ref (g 6), .ref (g 7), .ref (g 8), .int 0, .ref (g 10), .ref (g 11), .ref (g 12), .ref (g 13), .ref (g 14), .ref (g 15), .ref (g 16), .ref (g 17), .ref (g 18), .ref (g 19), .ref (g 20), .ref (g 21), .int 0, .ref (g 23), .ref (g 24), .ref (g 25), .ref (g 26), .ref (g 27), .int 0, .int 0, .int 0, .int 0, .int 0, .int 0, .int 0, .int (-1), .int 0, .ref (g 37), .ref (g 38), .ref (g 39)]))] s.heap := hP
  have hl := lv_entry ([.ref mm, .int k]) (n := 2) (Nat.le_of_ble_eq_true rfl)
  rw [lg_entry_eq]
  generalize (lg_sl ([.ref mm, .int k]) ++ List.replicate (2 - (lg_sl ([.ref mm, .int k])).length) Slot.unset).toArray = ls at hl ⊢
  have hl : lv_has ls 2 [(0, .ref mm), (1, .int k)] := hl
  generalize hHe : s.heap = H at hP ⊢
  have hS : va_S A s.heap H [] := by rw [← hHe]; exact va_S.rf
  refine lv_aload_n hx hb dX8_leaf_0 rfl (lv_at hl 0 rfl) ?_
  refine va_get (D := (dC, dI)) (ci := 8) (v := .int 0) (C := RX8) (T := TX8) (N := 40) hx hb hts iX8_leaf_X8 hown hK hP 0 rfl rfl 22 (by decide) (hts (.fieldLink RX8 250 "LeafSignerModel" "hasKeys" "Z") (List.mem_of_getElem? (i := 1) rfl)) (fun _ h9 => h9) rfl dX8_leaf_1 ?_
  refine lv_if_eq (tgt := 21) hx hb dX8_leaf_4 (by decide) (fun c178 => ?_) (fun c178 => absurd (by decide) c178)
  refine lv_iconst (v := (-1)) hx hb dX8_leaf_21 (by decide) ?_
  refine W.widen (k := 0) (n := 0) (Nat.le_of_ble_eq_true rfl) (Nat.le_of_ble_eq_true rfl) ?_
  exact W.iret (v := (-1)) hx hb hr (fun t ht hW => ⟨⟨(-1), (), rfl, rfl, trivial⟩, hS.F ht⟩) hS.2.2 dX8_leaf_22
end
section
def ww_X8_node : List Cond := .code yX8_node cX8_node 4 (some .int) :: ([.fieldLink RX8 250 "LeafSignerModel" "hasKeys" "Z"] ++ (wsX80))
theorem iX8_node_X8 : ∀ w ∈ wsX80, w ∈ ww_X8_node := fun w h => List.mem_cons_of_mem _ (List.mem_append_right _ h)
set_option maxHeartbeats 4000000 in
set_option maxRecDepth 100000 in
theorem cm_node (l : Launch) (dC : Nat → ClassId) (dI : Nat → Nat → Nat) (sz : Nat) (mm : Nat) (k : Int32) (k2 : Int32) (k3 : Int32) (hi : Int32) (ri : Int32) (li : Int32) (g : (Nat → Nat)) : Met l yX8_node ww_X8_node ({ frames := 0, cells := 0, slots := 0, locals := 0 }) (va_Pc [.ref mm, .int k, .int k2, .int k3] (fun U => U.heap.size = sz ∧ va_P (dC, dI) classes [(mm, .inr (8, [.int hi, .int ri, .int li, .ref (g 3), .ref (g 4), .ref (g 5), .ref (g 6), .ref (g 7), .ref (g 8), .int 0, .ref (g 10), .ref (g 11), .ref (g 12), .ref (g 13), .ref (g 14), .ref (g 15), .ref (g 16), .ref (g 17), .ref (g 18), .ref (g 19), .ref (g 20), .ref (g 21), .int 0, .ref (g 23), .ref (g 24), .ref (g 25), .ref (g 26), .ref (g 27), .int 0, .int 0, .int 0, .int 0, .int 0, .int 0, .int 0, .int (-1), .int 0, .ref (g 37), .ref (g 38), .ref (g 39)]))] U.heap ∧ va_K (dC, dI) classes [] U ∧ va_D (fun _ => True) [(mm, .inr (8, [.int hi, .int ri, .int li, .ref (g 3), .ref (g 4), .ref (g 5), .ref (g 6), .ref (g 7), .ref (g 8), .int 0, .ref (g 10), .ref (g 11), .ref (g 12), .ref (g 13), .ref (g 14), .ref (g 15), .ref (g 16), .ref (g 17), .ref (g 18), .ref (g 19), .ref (g 20), .ref (g 21), .int 0, .ref (g 23), .ref (g 24), .ref (g 25), .ref (g 26), .ref (g 27), .int 0, .int 0, .int 0, .int 0, .int 0, .int 0, .int 0, .int (-1), .int 0, .ref (g 37), .ref (g 38), .ref (g 39)]))])) (va_Qi (fun (r : Int32) (_ : Unit) => r = -1) (fun (_ : Unit) (_ : State) => True) (va_A [(mm, .inr (8, [.int hi, .int ri, .int li, .ref (g 3), .ref (g 4), .ref (g 5), .ref (g 6), .ref (g 7), .ref (g 8), .int 0, .ref (g 10), .ref (g 11), .ref (g 12), .ref (g 13), .ref (g 14), .ref (g 15), .ref (g 16), .ref (g 17), .ref (g 18), .ref (g 19), .ref (g 20), .ref (g 21), .int 0, .ref (g 23), .ref (g 24), .ref (g 25), .ref (g 26), .ref (g 27), .int 0, .int 0, .int 0, .int 0, .int 0, .int 0, .int 0, .int (-1), .int 0, .ref (g 37), .ref (g 38), .ref (g 39)]))] sz)) 0 0 (va_A [(mm, .inr (8, [.int hi, .int ri, .int li, .ref (g 3), .ref (g 4), .ref (g 5), .ref (g 6), .ref (g 7), .ref (g 8), .int 0, .ref (g 10), .ref (g 11), .ref (g 12), .ref (g 13), .ref (g 14), .ref (g 15), .ref (g 16), .ref (g 17), .ref (g 18), .ref (g 19), .ref (g 20), .ref (g 21), .int 0, .ref (g 23), .ref (g 24), .ref (g 25), .ref (g 26), .ref (g 27), .int 0, .int 0, .int 0, .int 0, .int 0, .int 0, .int 0, .int (-1), .int 0, .ref (g 37), .ref (g 38), .ref (g 39)]))] sz) := by
  refine Met.ofW (cc := cX8_node) (maxL := 4) (ret := (some .int)) (by decide) rfl ?_
  intro p e s m args below meth c s₁ B hml hv
  obtain ⟨rfl, hsz, hP, hK, hD0⟩ := hv
  have hx := B.exec
  have hb := B.bytes
  have hr := B.returns
  have hts := atoms_spec (ws := ww_X8_node) B.pre
  have hown : s.vm.findClass RX8 = some m.cls := findClass_of_methodNamed B.named
  have hlocks := B.notSynchronized
  subst hsz
  have hD := hD0.self (sz := s.heap.size)
  generalize hAe : va_A [(mm, .inr (8, [.int hi, .int ri, .int li, .ref (g 3), .ref (g 4), .ref (g 5), .ref (g 6), .ref (g 7), .ref (g 8), .int 0, .ref (g 10), .ref (g 11), .ref (g 12), .ref (g 13), .ref (g 14), .ref (g 15), .ref (g 16), .ref (g 17), .ref (g 18), .ref (g 19), .ref (g 20), .ref (g 21), .int 0, .ref (g 23), .ref (g 24), .ref (g 25), .ref (g 26), .ref (g 27), .int 0, .int 0, .int 0, .int 0, .int 0, .int 0, .int 0, .int (-1), .int 0, .ref (g 37), .ref (g 38), .ref (g 39)]))] s.heap.size = A at hD ⊢
  have hA : ∀ q : Nat, s.heap.size ≤ q → A q := fun q h => by rw [← hAe]; exact Or.inr h
  have hS : va_S A s.heap s.heap [] := va_S.rf
  have hP : va_P (dC, dI) classes [(mm, .inr (8, [.int hi, .int ri, .int li, .ref (g 3), .ref (g 4), .ref (g 5), .ref (g 6), .ref (g 7), .ref (g 8), .int 0, .ref (g 10), .ref (g 11), .ref (g 12), .ref (g 13), .ref (g 14), .ref (g 15), .ref (g 16), .ref (g 17), .ref (g 18), .ref (g 19), .ref (g 20), .ref (g 21), .int 0, .ref (g 23), .ref (g 24), .ref (g 25), .ref (g 26), .ref (g 27), .int 0, .int 0, .int 0, .int 0, .int 0, .int 0, .int 0, .int (-1), .int 0, .ref (g 37), .ref (g 38), .ref (g 39)]))] s.heap := hP
  have hl := lv_entry ([.ref mm, .int k, .int k2, .int k3]) (n := 4) (Nat.le_of_ble_eq_true rfl)
  rw [lg_entry_eq]
  generalize (lg_sl ([.ref mm, .int k, .int k2, .int k3]) ++ List.replicate (4 - (lg_sl ([.ref mm, .int k, .int k2, .int k3])).length) Slot.unset).toArray = ls at hl ⊢
  have hl : lv_has ls 4 [(0, .ref mm), (1, .int k), (2, .int k2), (3, .int k3)] := hl
  generalize hHe : s.heap = H at hP ⊢
  have hS : va_S A s.heap H [] := by rw [← hHe]; exact va_S.rf
  refine lv_aload_n hx hb dX8_node_0 rfl (lv_at hl 0 rfl) ?_
  refine va_get (D := (dC, dI)) (ci := 8) (v := .int 0) (C := RX8) (T := TX8) (N := 40) hx hb hts iX8_node_X8 hown hK hP 0 rfl rfl 22 (by decide) (hts (.fieldLink RX8 250 "LeafSignerModel" "hasKeys" "Z") (List.mem_of_getElem? (i := 1) rfl)) (fun _ h9 => h9) rfl dX8_node_1 ?_
  refine lv_if_eq (tgt := 65) hx hb dX8_node_4 (by decide) (fun c179 => ?_) (fun c179 => absurd (by decide) c179)
  refine lv_iconst (v := (-1)) hx hb dX8_node_65 (by decide) ?_
  refine W.widen (k := 0) (n := 0) (Nat.le_of_ble_eq_true rfl) (Nat.le_of_ble_eq_true rfl) ?_
  exact W.iret (v := (-1)) hx hb hr (fun t ht hW => ⟨⟨(-1), (), rfl, rfl, trivial⟩, hS.F ht⟩) hS.2.2 dX8_node_66
end
section
def ww_X8_disk : List Cond := .code yX8_disk cX8_disk 2 (some .int) :: ([.methodLink RX8 279 yX8_in, .static yX8_in, .initialized RX8, .code yX8_in cX8_in 3 (some .boolean), .fieldLink RX8 140 "LeafSignerModel" "disk" "[B"] ++ (wsX80))
theorem iX8_disk_X8 : ∀ w ∈ wsX80, w ∈ ww_X8_disk := fun w h => List.mem_cons_of_mem _ (List.mem_append_right _ h)
set_option maxRecDepth 20000 in
theorem gX8_disk_X8_in_279 : GoodIn ww_X8_disk (va_wsS RX8 279 yX8_in ww_X8_in) := vx_good _ [1, 2, 3, 4] rfl (by decide +kernel)
set_option maxHeartbeats 4000000 in
set_option maxRecDepth 100000 in
theorem cm_disk (l : Launch) (dC : Nat → ClassId) (dI : Nat → Nat → Nat) (sz : Nat) (mm : Nat) (k : Int32) (hi : Int32) (ri : Int32) (li : Int32) (cMd : ClassId) (g : (Nat → Nat)) : Met l yX8_disk ww_X8_disk ({ frames := 1, cells := 0, slots := 0, locals := 22 }) (va_Pc [.ref mm, .int k] (fun U => U.heap.size = sz ∧ va_P (dC, dI) classes [(mm, .inr (8, [.int hi, .int ri, .int li, .ref (g 3), .ref (g 4), .ref (g 5), .ref (g 6), .ref (g 7), .ref (g 8), .int 0, .ref (g 10), .ref (g 11), .ref (g 12), .ref (g 13), .ref (g 14), .ref (g 15), .ref (g 16), .ref (g 17), .ref (g 18), .ref (g 19), .ref (g 20), .ref (g 21), .int 0, .ref (g 23), .ref (g 24), .ref (g 25), .ref (g 26), .ref (g 27), .int 0, .int 0, .int 0, .int 0, .int 0, .int 0, .int 0, .int (-1), .int 0, .ref (g 37), .ref (g 38), .ref (g 39)])), ((g 24), .inl (cMd, 24, .inl (fun _ => 0)))] U.heap ∧ va_K (dC, dI) classes [(cMd, .byte)] U ∧ va_D (fun _ => True) [(mm, .inr (8, [.int hi, .int ri, .int li, .ref (g 3), .ref (g 4), .ref (g 5), .ref (g 6), .ref (g 7), .ref (g 8), .int 0, .ref (g 10), .ref (g 11), .ref (g 12), .ref (g 13), .ref (g 14), .ref (g 15), .ref (g 16), .ref (g 17), .ref (g 18), .ref (g 19), .ref (g 20), .ref (g 21), .int 0, .ref (g 23), .ref (g 24), .ref (g 25), .ref (g 26), .ref (g 27), .int 0, .int 0, .int 0, .int 0, .int 0, .int 0, .int 0, .int (-1), .int 0, .ref (g 37), .ref (g 38), .ref (g 39)])), ((g 24), .inl (cMd, 24, .inl (fun _ => 0)))])) (va_Qi (fun (r : Int32) (_ : Unit) => r = fm_disk k) (fun (_ : Unit) (_ : State) => True) (va_A [(mm, .inr (8, [.int hi, .int ri, .int li, .ref (g 3), .ref (g 4), .ref (g 5), .ref (g 6), .ref (g 7), .ref (g 8), .int 0, .ref (g 10), .ref (g 11), .ref (g 12), .ref (g 13), .ref (g 14), .ref (g 15), .ref (g 16), .ref (g 17), .ref (g 18), .ref (g 19), .ref (g 20), .ref (g 21), .int 0, .ref (g 23), .ref (g 24), .ref (g 25), .ref (g 26), .ref (g 27), .int 0, .int 0, .int 0, .int 0, .int 0, .int 0, .int 0, .int (-1), .int 0, .ref (g 37), .ref (g 38), .ref (g 39)])), ((g 24), .inl (cMd, 24, .inl (fun _ => 0)))] sz)) 0 0 (va_A [(mm, .inr (8, [.int hi, .int ri, .int li, .ref (g 3), .ref (g 4), .ref (g 5), .ref (g 6), .ref (g 7), .ref (g 8), .int 0, .ref (g 10), .ref (g 11), .ref (g 12), .ref (g 13), .ref (g 14), .ref (g 15), .ref (g 16), .ref (g 17), .ref (g 18), .ref (g 19), .ref (g 20), .ref (g 21), .int 0, .ref (g 23), .ref (g 24), .ref (g 25), .ref (g 26), .ref (g 27), .int 0, .int 0, .int 0, .int 0, .int 0, .int 0, .int 0, .int (-1), .int 0, .ref (g 37), .ref (g 38), .ref (g 39)])), ((g 24), .inl (cMd, 24, .inl (fun _ => 0)))] sz) := by
  refine Met.ofW (cc := cX8_disk) (maxL := 2) (ret := (some .int)) (by decide) rfl ?_
  intro p e s m args below meth c s₁ B hml hv
  obtain ⟨rfl, hsz, hP, hK, hD0⟩ := hv
  have hx := B.exec
  have hb := B.bytes
  have hr := B.returns
  have hts := atoms_spec (ws := ww_X8_disk) B.pre
  have hown : s.vm.findClass RX8 = some m.cls := findClass_of_methodNamed B.named
  have hlocks := B.notSynchronized
  subst hsz
  have hD := hD0.self (sz := s.heap.size)
  generalize hAe : va_A [(mm, .inr (8, [.int hi, .int ri, .int li, .ref (g 3), .ref (g 4), .ref (g 5), .ref (g 6), .ref (g 7), .ref (g 8), .int 0, .ref (g 10), .ref (g 11), .ref (g 12), .ref (g 13), .ref (g 14), .ref (g 15), .ref (g 16), .ref (g 17), .ref (g 18), .ref (g 19), .ref (g 20), .ref (g 21), .int 0, .ref (g 23), .ref (g 24), .ref (g 25), .ref (g 26), .ref (g 27), .int 0, .int 0, .int 0, .int 0, .int 0, .int 0, .int 0, .int (-1), .int 0, .ref (g 37), .ref (g 38), .ref (g 39)])), ((g 24), .inl (cMd, 24, .inl (fun _ => 0)))] s.heap.size = A at hD ⊢
  have hA : ∀ q : Nat, s.heap.size ≤ q → A q := fun q h => by rw [← hAe]; exact Or.inr h
  have hS : va_S A s.heap s.heap [] := va_S.rf
  have hP : va_P (dC, dI) classes [(mm, .inr (8, [.int hi, .int ri, .int li, .ref (g 3), .ref (g 4), .ref (g 5), .ref (g 6), .ref (g 7), .ref (g 8), .int 0, .ref (g 10), .ref (g 11), .ref (g 12), .ref (g 13), .ref (g 14), .ref (g 15), .ref (g 16), .ref (g 17), .ref (g 18), .ref (g 19), .ref (g 20), .ref (g 21), .int 0, .ref (g 23), .ref (g 24), .ref (g 25), .ref (g 26), .ref (g 27), .int 0, .int 0, .int 0, .int 0, .int 0, .int 0, .int 0, .int (-1), .int 0, .ref (g 37), .ref (g 38), .ref (g 39)])), ((g 24), .inl (cMd, 24, .inl (fun _ => 0)))] s.heap := hP
  have hl := lv_entry ([.ref mm, .int k]) (n := 2) (Nat.le_of_ble_eq_true rfl)
  rw [lg_entry_eq]
  generalize (lg_sl ([.ref mm, .int k]) ++ List.replicate (2 - (lg_sl ([.ref mm, .int k])).length) Slot.unset).toArray = ls at hl ⊢
  have hl : lv_has ls 2 [(0, .ref mm), (1, .int k)] := hl
  generalize hHe : s.heap = H at hP ⊢
  have hS : va_S A s.heap H [] := by rw [← hHe]; exact va_S.rf
  refine lv_iload_n hx hb dX8_disk_0 rfl (lv_at hl 1 rfl) ?_
  refine lv_iconst (v := 0) hx hb dX8_disk_1 (by decide) ?_
  refine lv_bipush (v := 23) hx hb dX8_disk_2 (by decide) ?_
  have hPc := hP.sub (ws' := []) [] rfl
  have hDc := hD.sub (ws' := []) [] (by decide) rfl
  have hKc := hK.sub (tys' := []) [] rfl
  have hFc := va_free (wc := []) hD hS hA [] rfl
  refine va_calli (va_runS (As := [.int k, .int 0, .int 23]) (rest := []) ⟨hx, hb, hml, hown, hts⟩ (cm_in l dC dI H.size k 0 23) (va_cwS 3 hts gX8_disk_X8_in_279 rfl rfl rfl (by decide +kernel) ⟨(Nat.le_of_ble_eq_true rfl), (Nat.le_of_ble_eq_true rfl)⟩) ⟨fun a U g mk q => by obtain ⟨q0, q1, qP, qK, qD⟩ := q; exact ⟨q0, q1, qP, va_K.moved (u := U) (U := U.calling g mk a) (Vm.Alike.refl U.vm) qK, qD⟩, fun U hU hW => ⟨rfl, by rw [hU], by rw [hU]; exact hPc, va_K.moved hW.alike hKc, hDc.weaken (fun _ _ _ _ => trivial)⟩⟩ rfl rfl hl.1 rfl (lv_room (Nat.le_of_ble_eq_true rfl)) dX8_disk_4 ⟨(Nat.le_of_ble_eq_true rfl), (Nat.le_of_ble_eq_true rfl)⟩) hS (fun q _ h => hFc q h) hFc (fun r180 u t H1 locs ht hvm hw hB hz1 hk1 hS => ?_)
  have hP1 : va_P (dC, dI) classes [] H1 := vx_P0
  have hD1 : va_D (va_A [] H.size) [] := vx_D0
  obtain ⟨hP, hD⟩ := va_join (wr := [(mm, .inr (8, [.int hi, .int ri, .int li, .ref (g 3), .ref (g 4), .ref (g 5), .ref (g 6), .ref (g 7), .ref (g 8), .int 0, .ref (g 10), .ref (g 11), .ref (g 12), .ref (g 13), .ref (g 14), .ref (g 15), .ref (g 16), .ref (g 17), .ref (g 18), .ref (g 19), .ref (g 20), .ref (g 21), .int 0, .ref (g 23), .ref (g 24), .ref (g 25), .ref (g 26), .ref (g 27), .int 0, .int 0, .int 0, .int 0, .int 0, .int 0, .int 0, .int (-1), .int 0, .ref (g 37), .ref (g 38), .ref (g 39)])), ((g 24), .inl (cMd, 24, .inl (fun _ => 0)))]) (w1 := []) hP hD [] [0, 1] rfl rfl (by decide) (by decide) hk1 hFc hP1 hD1
  have hK := hK.sub (tys' := [(cMd, .byte)]) [0] rfl
  generalize H1 = H at hP hS ⊢
  have hP : va_P (dC, dI) classes [(mm, .inr (8, [.int hi, .int ri, .int li, .ref (g 3), .ref (g 4), .ref (g 5), .ref (g 6), .ref (g 7), .ref (g 8), .int 0, .ref (g 10), .ref (g 11), .ref (g 12), .ref (g 13), .ref (g 14), .ref (g 15), .ref (g 16), .ref (g 17), .ref (g 18), .ref (g 19), .ref (g 20), .ref (g 21), .int 0, .ref (g 23), .ref (g 24), .ref (g 25), .ref (g 26), .ref (g 27), .int 0, .int 0, .int 0, .int 0, .int 0, .int 0, .int 0, .int (-1), .int 0, .ref (g 37), .ref (g 38), .ref (g 39)])), ((g 24), .inl (cMd, 24, .inl (fun _ => 0)))] H := hP
  have hD : va_D A [(mm, .inr (8, [.int hi, .int ri, .int li, .ref (g 3), .ref (g 4), .ref (g 5), .ref (g 6), .ref (g 7), .ref (g 8), .int 0, .ref (g 10), .ref (g 11), .ref (g 12), .ref (g 13), .ref (g 14), .ref (g 15), .ref (g 16), .ref (g 17), .ref (g 18), .ref (g 19), .ref (g 20), .ref (g 21), .int 0, .ref (g 23), .ref (g 24), .ref (g 25), .ref (g 26), .ref (g 27), .int 0, .int 0, .int 0, .int 0, .int 0, .int 0, .int 0, .int (-1), .int 0, .ref (g 37), .ref (g 38), .ref (g 39)])), ((g 24), .inl (cMd, 24, .inl (fun _ => 0)))] := hD
  have hK : va_K (dC, dI) classes [(cMd, .byte)] s := hK
  refine W.widen (k := 0) (n := 0) (Nat.le_of_ble_eq_true rfl) (Nat.le_of_ble_eq_true rfl) ?_
  try dsimp only at hw
  subst hw
  refine lv_if_eq (tgt := 23) hx hb dX8_disk_7 (by decide) (fun c181 => ?_) (fun c181 => ?_)
  · refine lv_iconst (v := (-1)) hx hb dX8_disk_23 (by decide) ?_
    refine W.widen (k := 0) (n := 0) (Nat.le_of_ble_eq_true rfl) (Nat.le_of_ble_eq_true rfl) ?_
    exact W.iret (v := (-1)) hx hb hr (fun t ht hW => ⟨⟨(-1), (), rfl, (by unfold fm_disk; rw [if_pos c181]), trivial⟩, hS.F ht⟩) hS.2.2 dX8_disk_24
  · refine lv_aload_n hx hb dX8_disk_10 rfl (lv_at hl 0 rfl) ?_
    refine va_get (D := (dC, dI)) (ci := 8) (v := .ref (g 24)) (C := RX8) (T := TX8) (N := 40) hx hb hts iX8_disk_X8 hown hK hP 0 rfl rfl 24 (by decide) (hts (.fieldLink RX8 140 "LeafSignerModel" "disk" "[B") (List.mem_of_getElem? (i := 5) rfl)) (fun _ h9 => h9) rfl dX8_disk_11 ?_
    refine lv_iload_n hx hb dX8_disk_14 rfl (lv_at hl 1 rfl) ?_
    refine va_bald hx hb hK hP 1 0 rfl rfl (vx_in24 c181) dX8_disk_15 ?_
    refine vx_topk 0 rfl ?_
    refine lv_sipush (v := 255) hx hb dX8_disk_16 (by decide) ?_
    refine lv_iand hx hb dX8_disk_19 ?_
    refine vx_topk 0 (by decide) ?_
    refine lv_goto (tgt := 24) hx hb dX8_disk_20 (by decide) ?_
    refine W.widen (k := 0) (n := 0) (Nat.le_of_ble_eq_true rfl) (Nat.le_of_ble_eq_true rfl) ?_
    exact W.iret (v := 0) hx hb hr (fun t ht hW => ⟨⟨0, (), rfl, (by unfold fm_disk; rw [if_neg c181]), trivial⟩, hS.F ht⟩) hS.2.2 dX8_disk_24
end
section
def ww_X8_about : List Cond := .code yX8_about cX8_about 5 (some .int) :: ([.fieldLink RX8 156 "LeafSignerModel" "isReleased" "[Z", .fieldLink RX8 160 "LeafSignerModel" "isLost" "[Z", .fieldLink RX8 257 "LeafSignerModel" "state" "I", .fieldLink RX8 272 "LeafSignerModel" "written" "I", .fieldLink RX8 152 "LeafSignerModel" "fuse" "I", .fieldLink RX8 244 "LeafSignerModel" "taped" "I", .fieldLink RX8 290 "LeafSignerModel" "outs" "I", .fieldLink RX8 300 "LeafSignerModel" "keeps" "I", .fieldLink RX8 170 "LeafSignerModel" "high" "I", .fieldLink RX8 173 "LeafSignerModel" "reserve" "I"] ++ (wsX80))
theorem iX8_about_X8 : ∀ w ∈ wsX80, w ∈ ww_X8_about := fun w h => List.mem_cons_of_mem _ (List.mem_append_right _ h)
set_option maxHeartbeats 4000000 in
set_option maxRecDepth 100000 in
theorem cm_about (l : Launch) (dC : Nat → ClassId) (dI : Nat → Nat → Nat) (sz : Nat) (mm : Nat) (k : Int32) (hi : Int32) (ri : Int32) (li : Int32) (cMr : ClassId) (cMl : ClassId) (g : (Nat → Nat)) : Met l yX8_about ww_X8_about ({ frames := 0, cells := 0, slots := 0, locals := 0 }) (va_Pc [.ref mm, .int k] (fun U => U.heap.size = sz ∧ va_P (dC, dI) classes [(mm, .inr (8, [.int hi, .int ri, .int li, .ref (g 3), .ref (g 4), .ref (g 5), .ref (g 6), .ref (g 7), .ref (g 8), .int 0, .ref (g 10), .ref (g 11), .ref (g 12), .ref (g 13), .ref (g 14), .ref (g 15), .ref (g 16), .ref (g 17), .ref (g 18), .ref (g 19), .ref (g 20), .ref (g 21), .int 0, .ref (g 23), .ref (g 24), .ref (g 25), .ref (g 26), .ref (g 27), .int 0, .int 0, .int 0, .int 0, .int 0, .int 0, .int 0, .int (-1), .int 0, .ref (g 37), .ref (g 38), .ref (g 39)])), ((g 37), .inl (cMr, 16, .inl (fun _ => 0))), ((g 38), .inl (cMl, 16, .inl (fun _ => 0)))] U.heap ∧ va_K (dC, dI) classes [(cMr, .boolean), (cMl, .boolean)] U ∧ va_D (fun _ => True) [(mm, .inr (8, [.int hi, .int ri, .int li, .ref (g 3), .ref (g 4), .ref (g 5), .ref (g 6), .ref (g 7), .ref (g 8), .int 0, .ref (g 10), .ref (g 11), .ref (g 12), .ref (g 13), .ref (g 14), .ref (g 15), .ref (g 16), .ref (g 17), .ref (g 18), .ref (g 19), .ref (g 20), .ref (g 21), .int 0, .ref (g 23), .ref (g 24), .ref (g 25), .ref (g 26), .ref (g 27), .int 0, .int 0, .int 0, .int 0, .int 0, .int 0, .int 0, .int (-1), .int 0, .ref (g 37), .ref (g 38), .ref (g 39)])), ((g 37), .inl (cMr, 16, .inl (fun _ => 0))), ((g 38), .inl (cMl, 16, .inl (fun _ => 0)))])) (va_Qi (fun (r : Int32) (_ : Unit) => r = fk_about k hi ri) (fun (_ : Unit) (_ : State) => True) (va_A [(mm, .inr (8, [.int hi, .int ri, .int li, .ref (g 3), .ref (g 4), .ref (g 5), .ref (g 6), .ref (g 7), .ref (g 8), .int 0, .ref (g 10), .ref (g 11), .ref (g 12), .ref (g 13), .ref (g 14), .ref (g 15), .ref (g 16), .ref (g 17), .ref (g 18), .ref (g 19), .ref (g 20), .ref (g 21), .int 0, .ref (g 23), .ref (g 24), .ref (g 25), .ref (g 26), .ref (g 27), .int 0, .int 0, .int 0, .int 0, .int 0, .int 0, .int 0, .int (-1), .int 0, .ref (g 37), .ref (g 38), .ref (g 39)])), ((g 37), .inl (cMr, 16, .inl (fun _ => 0))), ((g 38), .inl (cMl, 16, .inl (fun _ => 0)))] sz)) 0 0 (va_A [(mm, .inr (8, [.int hi, .int ri, .int li, .ref (g 3), .ref (g 4), .ref (g 5), .ref (g 6), .ref (g 7), .ref (g 8), .int 0, .ref (g 10), .ref (g 11), .ref (g 12), .ref (g 13), .ref (g 14), .ref (g 15), .ref (g 16), .ref (g 17), .ref (g 18), .ref (g 19), .ref (g 20), .ref (g 21), .int 0, .ref (g 23), .ref (g 24), .ref (g 25), .ref (g 26), .ref (g 27), .int 0, .int 0, .int 0, .int 0, .int 0, .int 0, .int 0, .int (-1), .int 0, .ref (g 37), .ref (g 38), .ref (g 39)])), ((g 37), .inl (cMr, 16, .inl (fun _ => 0))), ((g 38), .inl (cMl, 16, .inl (fun _ => 0)))] sz) := by
  refine Met.ofW (cc := cX8_about) (maxL := 5) (ret := (some .int)) (by decide) rfl ?_
  intro p e s m args below meth c s₁ B hml hv
  obtain ⟨rfl, hsz, hP, hK, hD0⟩ := hv
  have hx := B.exec
  have hb := B.bytes
  have hr := B.returns
  have hts := atoms_spec (ws := ww_X8_about) B.pre
  have hown : s.vm.findClass RX8 = some m.cls := findClass_of_methodNamed B.named
  have hlocks := B.notSynchronized
  subst hsz
  have hD := hD0.self (sz := s.heap.size)
  generalize hAe : va_A [(mm, .inr (8, [.int hi, .int ri, .int li, .ref (g 3), .ref (g 4), .ref (g 5), .ref (g 6), .ref (g 7), .ref (g 8), .int 0, .ref (g 10), .ref (g 11), .ref (g 12), .ref (g 13), .ref (g 14), .ref (g 15), .ref (g 16), .ref (g 17), .ref (g 18), .ref (g 19), .ref (g 20), .ref (g 21), .int 0, .ref (g 23), .ref (g 24), .ref (g 25), .ref (g 26), .ref (g 27), .int 0, .int 0, .int 0, .int 0, .int 0, .int 0, .int 0, .int (-1), .int 0, .ref (g 37), .ref (g 38), .ref (g 39)])), ((g 37), .inl (cMr, 16, .inl (fun _ => 0))), ((g 38), .inl (cMl, 16, .inl (fun _ => 0)))] s.heap.size = A at hD ⊢
  have hA : ∀ q : Nat, s.heap.size ≤ q → A q := fun q h => by rw [← hAe]; exact Or.inr h
  have hS : va_S A s.heap s.heap [] := va_S.rf
  have hP : va_P (dC, dI) classes [(mm, .inr (8, [.int hi, .int ri, .int li, .ref (g 3), .ref (g 4), .ref (g 5), .ref (g 6), .ref (g 7), .ref (g 8), .int 0, .ref (g 10), .ref (g 11), .ref (g 12), .ref (g 13), .ref (g 14), .ref (g 15), .ref (g 16), .ref (g 17), .ref (g 18), .ref (g 19), .ref (g 20), .ref (g 21), .int 0, .ref (g 23), .ref (g 24), .ref (g 25), .ref (g 26), .ref (g 27), .int 0, .int 0, .int 0, .int 0, .int 0, .int 0, .int 0, .int (-1), .int 0, .ref (g 37), .ref (g 38), .ref (g 39)])), ((g 37), .inl (cMr, 16, .inl (fun _ => 0))), ((g 38), .inl (cMl, 16, .inl (fun _ => 0)))] s.heap := hP
  have hl := lv_entry ([.ref mm, .int k]) (n := 5) (Nat.le_of_ble_eq_true rfl)
  rw [lg_entry_eq]
  generalize (lg_sl ([.ref mm, .int k]) ++ List.replicate (5 - (lg_sl ([.ref mm, .int k])).length) Slot.unset).toArray = ls at hl ⊢
  have hl : lv_has ls 5 [(0, .ref mm), (1, .int k)] := hl
  generalize hHe : s.heap = H at hP ⊢
  have hS : va_S A s.heap H [] := by rw [← hHe]; exact va_S.rf
  refine lv_iconst (v := 0) hx hb dX8_about_0 (by decide) ?_
  refine lv_istore_n (lv' := [(2, .int 0), (0, .ref mm), (1, .int k)]) hx hb dX8_about_1 rfl hl (by decide) rfl (fun ls hl => ?_)
  refine lv_iconst (v := 0) hx hb dX8_about_2 (by decide) ?_
  refine lv_istore_n (lv' := [(3, .int 0), (2, .int 0), (0, .ref mm), (1, .int k)]) hx hb dX8_about_3 rfl hl (by decide) rfl (fun ls hl => ?_)
  refine lv_iconst (v := 0) hx hb dX8_about_4 (by decide) ?_
  refine lv_istore (lv' := [(4, .int 0), (3, .int 0), (2, .int 0), (0, .ref mm), (1, .int k)]) hx hb dX8_about_5 hl (by decide) rfl (fun ls hl => ?_)
  refine lv_iload hx hb dX8_about_7 (lv_at hl 0 rfl) ?_
  refine lv_bipush (v := 16) hx hb dX8_about_9 (by decide) ?_
  refine lv_icmp_ge (tgt := 56) hx hb dX8_about_11 (by decide) (fun c182 => absurd c182 (by decide)) (fun c182 => ?_)
  refine lv_iload_n hx hb dX8_about_14 rfl (lv_at hl 2 rfl) ?_
  refine lv_aload_n hx hb dX8_about_15 rfl (lv_at hl 3 rfl) ?_
  refine va_get (D := (dC, dI)) (ci := 8) (v := .ref (g 37)) (C := RX8) (T := TX8) (N := 40) hx hb hts iX8_about_X8 hown hK hP 0 rfl rfl 37 (by decide) (hts (.fieldLink RX8 156 "LeafSignerModel" "isReleased" "[Z") (List.mem_of_getElem? (i := 1) rfl)) (fun _ h9 => h9) rfl dX8_about_16 ?_
  refine lv_iload hx hb dX8_about_19 (lv_at hl 0 rfl) ?_
  refine va_zald hx hb hK hP 1 0 rfl rfl (vx_in (by decide)) dX8_about_21 ?_
  refine vx_topk 0 rfl ?_
  refine lv_if_eq (tgt := 29) hx hb dX8_about_22 (by decide) (fun c183 => ?_) (fun c183 => absurd (by decide) c183)
  refine lv_iconst (v := 0) hx hb dX8_about_29 (by decide) ?_
  refine lv_iadd hx hb dX8_about_30 ?_
  refine vx_topk 0 (by decide) ?_
  refine lv_istore_n (lv' := [(2, .int 0), (4, .int 0), (3, .int 0), (0, .ref mm), (1, .int k)]) hx hb dX8_about_31 rfl hl (by decide) rfl (fun ls hl => ?_)
  refine lv_iload_n hx hb dX8_about_32 rfl (lv_at hl 2 rfl) ?_
  refine lv_aload_n hx hb dX8_about_33 rfl (lv_at hl 3 rfl) ?_
  refine va_get (D := (dC, dI)) (ci := 8) (v := .ref (g 38)) (C := RX8) (T := TX8) (N := 40) hx hb hts iX8_about_X8 hown hK hP 0 rfl rfl 38 (by decide) (hts (.fieldLink RX8 160 "LeafSignerModel" "isLost" "[Z") (List.mem_of_getElem? (i := 2) rfl)) (fun _ h9 => h9) rfl dX8_about_34 ?_
  refine lv_iload hx hb dX8_about_37 (lv_at hl 1 rfl) ?_
  refine va_zald hx hb hK hP 2 1 rfl rfl (vx_in (by decide)) dX8_about_39 ?_
  refine vx_topk 0 rfl ?_
  refine lv_if_eq (tgt := 47) hx hb dX8_about_40 (by decide) (fun c184 => ?_) (fun c184 => absurd (by decide) c184)
  refine lv_iconst (v := 0) hx hb dX8_about_47 (by decide) ?_
  refine lv_iadd hx hb dX8_about_48 ?_
  refine vx_topk 0 (by decide) ?_
  refine lv_istore_n (lv' := [(3, .int 0), (2, .int 0), (4, .int 0), (0, .ref mm), (1, .int k)]) hx hb dX8_about_49 rfl hl (by decide) rfl (fun ls hl => ?_)
  refine lv_iinc (v := 1) (lv' := [(4, .int 1), (3, .int 0), (2, .int 0), (0, .ref mm), (1, .int k)]) hx hb dX8_about_50 hl (k := 2) rfl (by decide) (by decide) rfl (fun ls hl => ?_)
  refine lv_goto (tgt := 7) hx hb dX8_about_53 (by decide) ?_
  refine lv_iload hx hb dX8_about_7 (lv_at hl 0 rfl) ?_
  refine lv_bipush (v := 16) hx hb dX8_about_9 (by decide) ?_
  refine lv_icmp_ge (tgt := 56) hx hb dX8_about_11 (by decide) (fun c185 => absurd c185 (by decide)) (fun c185 => ?_)
  refine lv_iload_n hx hb dX8_about_14 rfl (lv_at hl 2 rfl) ?_
  refine lv_aload_n hx hb dX8_about_15 rfl (lv_at hl 3 rfl) ?_
  refine va_get (D := (dC, dI)) (ci := 8) (v := .ref (g 37)) (C := RX8) (T := TX8) (N := 40) hx hb hts iX8_about_X8 hown hK hP 0 rfl rfl 37 (by decide) (hts (.fieldLink RX8 156 "LeafSignerModel" "isReleased" "[Z") (List.mem_of_getElem? (i := 1) rfl)) (fun _ h9 => h9) rfl dX8_about_16 ?_
  refine lv_iload hx hb dX8_about_19 (lv_at hl 0 rfl) ?_
  refine va_zald hx hb hK hP 1 0 rfl rfl (vx_in (by decide)) dX8_about_21 ?_
  refine vx_topk 0 rfl ?_
  refine lv_if_eq (tgt := 29) hx hb dX8_about_22 (by decide) (fun c186 => ?_) (fun c186 => absurd (by decide) c186)
  refine lv_iconst (v := 0) hx hb dX8_about_29 (by decide) ?_
  refine lv_iadd hx hb dX8_about_30 ?_
  refine vx_topk 0 (by decide) ?_
  refine lv_istore_n (lv' := [(2, .int 0), (4, .int 1), (3, .int 0), (0, .ref mm), (1, .int k)]) hx hb dX8_about_31 rfl hl (by decide) rfl (fun ls hl => ?_)
  refine lv_iload_n hx hb dX8_about_32 rfl (lv_at hl 2 rfl) ?_
  refine lv_aload_n hx hb dX8_about_33 rfl (lv_at hl 3 rfl) ?_
  refine va_get (D := (dC, dI)) (ci := 8) (v := .ref (g 38)) (C := RX8) (T := TX8) (N := 40) hx hb hts iX8_about_X8 hown hK hP 0 rfl rfl 38 (by decide) (hts (.fieldLink RX8 160 "LeafSignerModel" "isLost" "[Z") (List.mem_of_getElem? (i := 2) rfl)) (fun _ h9 => h9) rfl dX8_about_34 ?_
  refine lv_iload hx hb dX8_about_37 (lv_at hl 1 rfl) ?_
  refine va_zald hx hb hK hP 2 1 rfl rfl (vx_in (by decide)) dX8_about_39 ?_
  refine vx_topk 0 rfl ?_
  refine lv_if_eq (tgt := 47) hx hb dX8_about_40 (by decide) (fun c187 => ?_) (fun c187 => absurd (by decide) c187)
  refine lv_iconst (v := 0) hx hb dX8_about_47 (by decide) ?_
  refine lv_iadd hx hb dX8_about_48 ?_
  refine vx_topk 0 (by decide) ?_
  refine lv_istore_n (lv' := [(3, .int 0), (2, .int 0), (4, .int 1), (0, .ref mm), (1, .int k)]) hx hb dX8_about_49 rfl hl (by decide) rfl (fun ls hl => ?_)
  refine lv_iinc (v := 2) (lv' := [(4, .int 2), (3, .int 0), (2, .int 0), (0, .ref mm), (1, .int k)]) hx hb dX8_about_50 hl (k := 2) rfl (by decide) (by decide) rfl (fun ls hl => ?_)
  refine lv_goto (tgt := 7) hx hb dX8_about_53 (by decide) ?_
  refine lv_iload hx hb dX8_about_7 (lv_at hl 0 rfl) ?_
  refine lv_bipush (v := 16) hx hb dX8_about_9 (by decide) ?_
  refine lv_icmp_ge (tgt := 56) hx hb dX8_about_11 (by decide) (fun c188 => absurd c188 (by decide)) (fun c188 => ?_)
  refine lv_iload_n hx hb dX8_about_14 rfl (lv_at hl 2 rfl) ?_
  refine lv_aload_n hx hb dX8_about_15 rfl (lv_at hl 3 rfl) ?_
  refine va_get (D := (dC, dI)) (ci := 8) (v := .ref (g 37)) (C := RX8) (T := TX8) (N := 40) hx hb hts iX8_about_X8 hown hK hP 0 rfl rfl 37 (by decide) (hts (.fieldLink RX8 156 "LeafSignerModel" "isReleased" "[Z") (List.mem_of_getElem? (i := 1) rfl)) (fun _ h9 => h9) rfl dX8_about_16 ?_
  refine lv_iload hx hb dX8_about_19 (lv_at hl 0 rfl) ?_
  refine va_zald hx hb hK hP 1 0 rfl rfl (vx_in (by decide)) dX8_about_21 ?_
  refine vx_topk 0 rfl ?_
  refine lv_if_eq (tgt := 29) hx hb dX8_about_22 (by decide) (fun c189 => ?_) (fun c189 => absurd (by decide) c189)
  refine lv_iconst (v := 0) hx hb dX8_about_29 (by decide) ?_
  refine lv_iadd hx hb dX8_about_30 ?_
  refine vx_topk 0 (by decide) ?_
  refine lv_istore_n (lv' := [(2, .int 0), (4, .int 2), (3, .int 0), (0, .ref mm), (1, .int k)]) hx hb dX8_about_31 rfl hl (by decide) rfl (fun ls hl => ?_)
  refine lv_iload_n hx hb dX8_about_32 rfl (lv_at hl 2 rfl) ?_
  refine lv_aload_n hx hb dX8_about_33 rfl (lv_at hl 3 rfl) ?_
  refine va_get (D := (dC, dI)) (ci := 8) (v := .ref (g 38)) (C := RX8) (T := TX8) (N := 40) hx hb hts iX8_about_X8 hown hK hP 0 rfl rfl 38 (by decide) (hts (.fieldLink RX8 160 "LeafSignerModel" "isLost" "[Z") (List.mem_of_getElem? (i := 2) rfl)) (fun _ h9 => h9) rfl dX8_about_34 ?_
  refine lv_iload hx hb dX8_about_37 (lv_at hl 1 rfl) ?_
  refine va_zald hx hb hK hP 2 1 rfl rfl (vx_in (by decide)) dX8_about_39 ?_
  refine vx_topk 0 rfl ?_
  refine lv_if_eq (tgt := 47) hx hb dX8_about_40 (by decide) (fun c190 => ?_) (fun c190 => absurd (by decide) c190)
  refine lv_iconst (v := 0) hx hb dX8_about_47 (by decide) ?_
  refine lv_iadd hx hb dX8_about_48 ?_
  refine vx_topk 0 (by decide) ?_
  refine lv_istore_n (lv' := [(3, .int 0), (2, .int 0), (4, .int 2), (0, .ref mm), (1, .int k)]) hx hb dX8_about_49 rfl hl (by decide) rfl (fun ls hl => ?_)
  refine lv_iinc (v := 3) (lv' := [(4, .int 3), (3, .int 0), (2, .int 0), (0, .ref mm), (1, .int k)]) hx hb dX8_about_50 hl (k := 2) rfl (by decide) (by decide) rfl (fun ls hl => ?_)
  refine lv_goto (tgt := 7) hx hb dX8_about_53 (by decide) ?_
  refine lv_iload hx hb dX8_about_7 (lv_at hl 0 rfl) ?_
  refine lv_bipush (v := 16) hx hb dX8_about_9 (by decide) ?_
  refine lv_icmp_ge (tgt := 56) hx hb dX8_about_11 (by decide) (fun c191 => absurd c191 (by decide)) (fun c191 => ?_)
  refine lv_iload_n hx hb dX8_about_14 rfl (lv_at hl 2 rfl) ?_
  refine lv_aload_n hx hb dX8_about_15 rfl (lv_at hl 3 rfl) ?_
  refine va_get (D := (dC, dI)) (ci := 8) (v := .ref (g 37)) (C := RX8) (T := TX8) (N := 40) hx hb hts iX8_about_X8 hown hK hP 0 rfl rfl 37 (by decide) (hts (.fieldLink RX8 156 "LeafSignerModel" "isReleased" "[Z") (List.mem_of_getElem? (i := 1) rfl)) (fun _ h9 => h9) rfl dX8_about_16 ?_
  refine lv_iload hx hb dX8_about_19 (lv_at hl 0 rfl) ?_
  refine va_zald hx hb hK hP 1 0 rfl rfl (vx_in (by decide)) dX8_about_21 ?_
  refine vx_topk 0 rfl ?_
  refine lv_if_eq (tgt := 29) hx hb dX8_about_22 (by decide) (fun c192 => ?_) (fun c192 => absurd (by decide) c192)
  refine lv_iconst (v := 0) hx hb dX8_about_29 (by decide) ?_
  refine lv_iadd hx hb dX8_about_30 ?_
  refine vx_topk 0 (by decide) ?_
  refine lv_istore_n (lv' := [(2, .int 0), (4, .int 3), (3, .int 0), (0, .ref mm), (1, .int k)]) hx hb dX8_about_31 rfl hl (by decide) rfl (fun ls hl => ?_)
  refine lv_iload_n hx hb dX8_about_32 rfl (lv_at hl 2 rfl) ?_
  refine lv_aload_n hx hb dX8_about_33 rfl (lv_at hl 3 rfl) ?_
  refine va_get (D := (dC, dI)) (ci := 8) (v := .ref (g 38)) (C := RX8) (T := TX8) (N := 40) hx hb hts iX8_about_X8 hown hK hP 0 rfl rfl 38 (by decide) (hts (.fieldLink RX8 160 "LeafSignerModel" "isLost" "[Z") (List.mem_of_getElem? (i := 2) rfl)) (fun _ h9 => h9) rfl dX8_about_34 ?_
  refine lv_iload hx hb dX8_about_37 (lv_at hl 1 rfl) ?_
  refine va_zald hx hb hK hP 2 1 rfl rfl (vx_in (by decide)) dX8_about_39 ?_
  refine vx_topk 0 rfl ?_
  refine lv_if_eq (tgt := 47) hx hb dX8_about_40 (by decide) (fun c193 => ?_) (fun c193 => absurd (by decide) c193)
  refine lv_iconst (v := 0) hx hb dX8_about_47 (by decide) ?_
  refine lv_iadd hx hb dX8_about_48 ?_
  refine vx_topk 0 (by decide) ?_
  refine lv_istore_n (lv' := [(3, .int 0), (2, .int 0), (4, .int 3), (0, .ref mm), (1, .int k)]) hx hb dX8_about_49 rfl hl (by decide) rfl (fun ls hl => ?_)
  refine lv_iinc (v := 4) (lv' := [(4, .int 4), (3, .int 0), (2, .int 0), (0, .ref mm), (1, .int k)]) hx hb dX8_about_50 hl (k := 2) rfl (by decide) (by decide) rfl (fun ls hl => ?_)
  refine lv_goto (tgt := 7) hx hb dX8_about_53 (by decide) ?_
  refine lv_iload hx hb dX8_about_7 (lv_at hl 0 rfl) ?_
  refine lv_bipush (v := 16) hx hb dX8_about_9 (by decide) ?_
  refine lv_icmp_ge (tgt := 56) hx hb dX8_about_11 (by decide) (fun c194 => absurd c194 (by decide)) (fun c194 => ?_)
  refine lv_iload_n hx hb dX8_about_14 rfl (lv_at hl 2 rfl) ?_
  refine lv_aload_n hx hb dX8_about_15 rfl (lv_at hl 3 rfl) ?_
  refine va_get (D := (dC, dI)) (ci := 8) (v := .ref (g 37)) (C := RX8) (T := TX8) (N := 40) hx hb hts iX8_about_X8 hown hK hP 0 rfl rfl 37 (by decide) (hts (.fieldLink RX8 156 "LeafSignerModel" "isReleased" "[Z") (List.mem_of_getElem? (i := 1) rfl)) (fun _ h9 => h9) rfl dX8_about_16 ?_
  refine lv_iload hx hb dX8_about_19 (lv_at hl 0 rfl) ?_
  refine va_zald hx hb hK hP 1 0 rfl rfl (vx_in (by decide)) dX8_about_21 ?_
  refine vx_topk 0 rfl ?_
  refine lv_if_eq (tgt := 29) hx hb dX8_about_22 (by decide) (fun c195 => ?_) (fun c195 => absurd (by decide) c195)
  refine lv_iconst (v := 0) hx hb dX8_about_29 (by decide) ?_
  refine lv_iadd hx hb dX8_about_30 ?_
  refine vx_topk 0 (by decide) ?_
  refine lv_istore_n (lv' := [(2, .int 0), (4, .int 4), (3, .int 0), (0, .ref mm), (1, .int k)]) hx hb dX8_about_31 rfl hl (by decide) rfl (fun ls hl => ?_)
  refine lv_iload_n hx hb dX8_about_32 rfl (lv_at hl 2 rfl) ?_
  refine lv_aload_n hx hb dX8_about_33 rfl (lv_at hl 3 rfl) ?_
  refine va_get (D := (dC, dI)) (ci := 8) (v := .ref (g 38)) (C := RX8) (T := TX8) (N := 40) hx hb hts iX8_about_X8 hown hK hP 0 rfl rfl 38 (by decide) (hts (.fieldLink RX8 160 "LeafSignerModel" "isLost" "[Z") (List.mem_of_getElem? (i := 2) rfl)) (fun _ h9 => h9) rfl dX8_about_34 ?_
  refine lv_iload hx hb dX8_about_37 (lv_at hl 1 rfl) ?_
  refine va_zald hx hb hK hP 2 1 rfl rfl (vx_in (by decide)) dX8_about_39 ?_
  refine vx_topk 0 rfl ?_
  refine lv_if_eq (tgt := 47) hx hb dX8_about_40 (by decide) (fun c196 => ?_) (fun c196 => absurd (by decide) c196)
  refine lv_iconst (v := 0) hx hb dX8_about_47 (by decide) ?_
  refine lv_iadd hx hb dX8_about_48 ?_
  refine vx_topk 0 (by decide) ?_
  refine lv_istore_n (lv' := [(3, .int 0), (2, .int 0), (4, .int 4), (0, .ref mm), (1, .int k)]) hx hb dX8_about_49 rfl hl (by decide) rfl (fun ls hl => ?_)
  refine lv_iinc (v := 5) (lv' := [(4, .int 5), (3, .int 0), (2, .int 0), (0, .ref mm), (1, .int k)]) hx hb dX8_about_50 hl (k := 2) rfl (by decide) (by decide) rfl (fun ls hl => ?_)
  refine lv_goto (tgt := 7) hx hb dX8_about_53 (by decide) ?_
  refine lv_iload hx hb dX8_about_7 (lv_at hl 0 rfl) ?_
  refine lv_bipush (v := 16) hx hb dX8_about_9 (by decide) ?_
  refine lv_icmp_ge (tgt := 56) hx hb dX8_about_11 (by decide) (fun c197 => absurd c197 (by decide)) (fun c197 => ?_)
  refine lv_iload_n hx hb dX8_about_14 rfl (lv_at hl 2 rfl) ?_
  refine lv_aload_n hx hb dX8_about_15 rfl (lv_at hl 3 rfl) ?_
  refine va_get (D := (dC, dI)) (ci := 8) (v := .ref (g 37)) (C := RX8) (T := TX8) (N := 40) hx hb hts iX8_about_X8 hown hK hP 0 rfl rfl 37 (by decide) (hts (.fieldLink RX8 156 "LeafSignerModel" "isReleased" "[Z") (List.mem_of_getElem? (i := 1) rfl)) (fun _ h9 => h9) rfl dX8_about_16 ?_
  refine lv_iload hx hb dX8_about_19 (lv_at hl 0 rfl) ?_
  refine va_zald hx hb hK hP 1 0 rfl rfl (vx_in (by decide)) dX8_about_21 ?_
  refine vx_topk 0 rfl ?_
  refine lv_if_eq (tgt := 29) hx hb dX8_about_22 (by decide) (fun c198 => ?_) (fun c198 => absurd (by decide) c198)
  refine lv_iconst (v := 0) hx hb dX8_about_29 (by decide) ?_
  refine lv_iadd hx hb dX8_about_30 ?_
  refine vx_topk 0 (by decide) ?_
  refine lv_istore_n (lv' := [(2, .int 0), (4, .int 5), (3, .int 0), (0, .ref mm), (1, .int k)]) hx hb dX8_about_31 rfl hl (by decide) rfl (fun ls hl => ?_)
  refine lv_iload_n hx hb dX8_about_32 rfl (lv_at hl 2 rfl) ?_
  refine lv_aload_n hx hb dX8_about_33 rfl (lv_at hl 3 rfl) ?_
  refine va_get (D := (dC, dI)) (ci := 8) (v := .ref (g 38)) (C := RX8) (T := TX8) (N := 40) hx hb hts iX8_about_X8 hown hK hP 0 rfl rfl 38 (by decide) (hts (.fieldLink RX8 160 "LeafSignerModel" "isLost" "[Z") (List.mem_of_getElem? (i := 2) rfl)) (fun _ h9 => h9) rfl dX8_about_34 ?_
  refine lv_iload hx hb dX8_about_37 (lv_at hl 1 rfl) ?_
  refine va_zald hx hb hK hP 2 1 rfl rfl (vx_in (by decide)) dX8_about_39 ?_
  refine vx_topk 0 rfl ?_
  refine lv_if_eq (tgt := 47) hx hb dX8_about_40 (by decide) (fun c199 => ?_) (fun c199 => absurd (by decide) c199)
  refine lv_iconst (v := 0) hx hb dX8_about_47 (by decide) ?_
  refine lv_iadd hx hb dX8_about_48 ?_
  refine vx_topk 0 (by decide) ?_
  refine lv_istore_n (lv' := [(3, .int 0), (2, .int 0), (4, .int 5), (0, .ref mm), (1, .int k)]) hx hb dX8_about_49 rfl hl (by decide) rfl (fun ls hl => ?_)
  refine lv_iinc (v := 6) (lv' := [(4, .int 6), (3, .int 0), (2, .int 0), (0, .ref mm), (1, .int k)]) hx hb dX8_about_50 hl (k := 2) rfl (by decide) (by decide) rfl (fun ls hl => ?_)
  refine lv_goto (tgt := 7) hx hb dX8_about_53 (by decide) ?_
  refine lv_iload hx hb dX8_about_7 (lv_at hl 0 rfl) ?_
  refine lv_bipush (v := 16) hx hb dX8_about_9 (by decide) ?_
  refine lv_icmp_ge (tgt := 56) hx hb dX8_about_11 (by decide) (fun c200 => absurd c200 (by decide)) (fun c200 => ?_)
  refine lv_iload_n hx hb dX8_about_14 rfl (lv_at hl 2 rfl) ?_
  refine lv_aload_n hx hb dX8_about_15 rfl (lv_at hl 3 rfl) ?_
  refine va_get (D := (dC, dI)) (ci := 8) (v := .ref (g 37)) (C := RX8) (T := TX8) (N := 40) hx hb hts iX8_about_X8 hown hK hP 0 rfl rfl 37 (by decide) (hts (.fieldLink RX8 156 "LeafSignerModel" "isReleased" "[Z") (List.mem_of_getElem? (i := 1) rfl)) (fun _ h9 => h9) rfl dX8_about_16 ?_
  refine lv_iload hx hb dX8_about_19 (lv_at hl 0 rfl) ?_
  refine va_zald hx hb hK hP 1 0 rfl rfl (vx_in (by decide)) dX8_about_21 ?_
  refine vx_topk 0 rfl ?_
  refine lv_if_eq (tgt := 29) hx hb dX8_about_22 (by decide) (fun c201 => ?_) (fun c201 => absurd (by decide) c201)
  refine lv_iconst (v := 0) hx hb dX8_about_29 (by decide) ?_
  refine lv_iadd hx hb dX8_about_30 ?_
  refine vx_topk 0 (by decide) ?_
  refine lv_istore_n (lv' := [(2, .int 0), (4, .int 6), (3, .int 0), (0, .ref mm), (1, .int k)]) hx hb dX8_about_31 rfl hl (by decide) rfl (fun ls hl => ?_)
  refine lv_iload_n hx hb dX8_about_32 rfl (lv_at hl 2 rfl) ?_
  refine lv_aload_n hx hb dX8_about_33 rfl (lv_at hl 3 rfl) ?_
  refine va_get (D := (dC, dI)) (ci := 8) (v := .ref (g 38)) (C := RX8) (T := TX8) (N := 40) hx hb hts iX8_about_X8 hown hK hP 0 rfl rfl 38 (by decide) (hts (.fieldLink RX8 160 "LeafSignerModel" "isLost" "[Z") (List.mem_of_getElem? (i := 2) rfl)) (fun _ h9 => h9) rfl dX8_about_34 ?_
  refine lv_iload hx hb dX8_about_37 (lv_at hl 1 rfl) ?_
  refine va_zald hx hb hK hP 2 1 rfl rfl (vx_in (by decide)) dX8_about_39 ?_
  refine vx_topk 0 rfl ?_
  refine lv_if_eq (tgt := 47) hx hb dX8_about_40 (by decide) (fun c202 => ?_) (fun c202 => absurd (by decide) c202)
  refine lv_iconst (v := 0) hx hb dX8_about_47 (by decide) ?_
  refine lv_iadd hx hb dX8_about_48 ?_
  refine vx_topk 0 (by decide) ?_
  refine lv_istore_n (lv' := [(3, .int 0), (2, .int 0), (4, .int 6), (0, .ref mm), (1, .int k)]) hx hb dX8_about_49 rfl hl (by decide) rfl (fun ls hl => ?_)
  refine lv_iinc (v := 7) (lv' := [(4, .int 7), (3, .int 0), (2, .int 0), (0, .ref mm), (1, .int k)]) hx hb dX8_about_50 hl (k := 2) rfl (by decide) (by decide) rfl (fun ls hl => ?_)
  refine lv_goto (tgt := 7) hx hb dX8_about_53 (by decide) ?_
  refine lv_iload hx hb dX8_about_7 (lv_at hl 0 rfl) ?_
  refine lv_bipush (v := 16) hx hb dX8_about_9 (by decide) ?_
  refine lv_icmp_ge (tgt := 56) hx hb dX8_about_11 (by decide) (fun c203 => absurd c203 (by decide)) (fun c203 => ?_)
  refine lv_iload_n hx hb dX8_about_14 rfl (lv_at hl 2 rfl) ?_
  refine lv_aload_n hx hb dX8_about_15 rfl (lv_at hl 3 rfl) ?_
  refine va_get (D := (dC, dI)) (ci := 8) (v := .ref (g 37)) (C := RX8) (T := TX8) (N := 40) hx hb hts iX8_about_X8 hown hK hP 0 rfl rfl 37 (by decide) (hts (.fieldLink RX8 156 "LeafSignerModel" "isReleased" "[Z") (List.mem_of_getElem? (i := 1) rfl)) (fun _ h9 => h9) rfl dX8_about_16 ?_
  refine lv_iload hx hb dX8_about_19 (lv_at hl 0 rfl) ?_
  refine va_zald hx hb hK hP 1 0 rfl rfl (vx_in (by decide)) dX8_about_21 ?_
  refine vx_topk 0 rfl ?_
  refine lv_if_eq (tgt := 29) hx hb dX8_about_22 (by decide) (fun c204 => ?_) (fun c204 => absurd (by decide) c204)
  refine lv_iconst (v := 0) hx hb dX8_about_29 (by decide) ?_
  refine lv_iadd hx hb dX8_about_30 ?_
  refine vx_topk 0 (by decide) ?_
  refine lv_istore_n (lv' := [(2, .int 0), (4, .int 7), (3, .int 0), (0, .ref mm), (1, .int k)]) hx hb dX8_about_31 rfl hl (by decide) rfl (fun ls hl => ?_)
  refine lv_iload_n hx hb dX8_about_32 rfl (lv_at hl 2 rfl) ?_
  refine lv_aload_n hx hb dX8_about_33 rfl (lv_at hl 3 rfl) ?_
  refine va_get (D := (dC, dI)) (ci := 8) (v := .ref (g 38)) (C := RX8) (T := TX8) (N := 40) hx hb hts iX8_about_X8 hown hK hP 0 rfl rfl 38 (by decide) (hts (.fieldLink RX8 160 "LeafSignerModel" "isLost" "[Z") (List.mem_of_getElem? (i := 2) rfl)) (fun _ h9 => h9) rfl dX8_about_34 ?_
  refine lv_iload hx hb dX8_about_37 (lv_at hl 1 rfl) ?_
  refine va_zald hx hb hK hP 2 1 rfl rfl (vx_in (by decide)) dX8_about_39 ?_
  refine vx_topk 0 rfl ?_
  refine lv_if_eq (tgt := 47) hx hb dX8_about_40 (by decide) (fun c205 => ?_) (fun c205 => absurd (by decide) c205)
  refine lv_iconst (v := 0) hx hb dX8_about_47 (by decide) ?_
  refine lv_iadd hx hb dX8_about_48 ?_
  refine vx_topk 0 (by decide) ?_
  refine lv_istore_n (lv' := [(3, .int 0), (2, .int 0), (4, .int 7), (0, .ref mm), (1, .int k)]) hx hb dX8_about_49 rfl hl (by decide) rfl (fun ls hl => ?_)
  refine lv_iinc (v := 8) (lv' := [(4, .int 8), (3, .int 0), (2, .int 0), (0, .ref mm), (1, .int k)]) hx hb dX8_about_50 hl (k := 2) rfl (by decide) (by decide) rfl (fun ls hl => ?_)
  refine lv_goto (tgt := 7) hx hb dX8_about_53 (by decide) ?_
  refine lv_iload hx hb dX8_about_7 (lv_at hl 0 rfl) ?_
  refine lv_bipush (v := 16) hx hb dX8_about_9 (by decide) ?_
  refine lv_icmp_ge (tgt := 56) hx hb dX8_about_11 (by decide) (fun c206 => absurd c206 (by decide)) (fun c206 => ?_)
  refine lv_iload_n hx hb dX8_about_14 rfl (lv_at hl 2 rfl) ?_
  refine lv_aload_n hx hb dX8_about_15 rfl (lv_at hl 3 rfl) ?_
  refine va_get (D := (dC, dI)) (ci := 8) (v := .ref (g 37)) (C := RX8) (T := TX8) (N := 40) hx hb hts iX8_about_X8 hown hK hP 0 rfl rfl 37 (by decide) (hts (.fieldLink RX8 156 "LeafSignerModel" "isReleased" "[Z") (List.mem_of_getElem? (i := 1) rfl)) (fun _ h9 => h9) rfl dX8_about_16 ?_
  refine lv_iload hx hb dX8_about_19 (lv_at hl 0 rfl) ?_
  refine va_zald hx hb hK hP 1 0 rfl rfl (vx_in (by decide)) dX8_about_21 ?_
  refine vx_topk 0 rfl ?_
  refine lv_if_eq (tgt := 29) hx hb dX8_about_22 (by decide) (fun c207 => ?_) (fun c207 => absurd (by decide) c207)
  refine lv_iconst (v := 0) hx hb dX8_about_29 (by decide) ?_
  refine lv_iadd hx hb dX8_about_30 ?_
  refine vx_topk 0 (by decide) ?_
  refine lv_istore_n (lv' := [(2, .int 0), (4, .int 8), (3, .int 0), (0, .ref mm), (1, .int k)]) hx hb dX8_about_31 rfl hl (by decide) rfl (fun ls hl => ?_)
  refine lv_iload_n hx hb dX8_about_32 rfl (lv_at hl 2 rfl) ?_
  refine lv_aload_n hx hb dX8_about_33 rfl (lv_at hl 3 rfl) ?_
  refine va_get (D := (dC, dI)) (ci := 8) (v := .ref (g 38)) (C := RX8) (T := TX8) (N := 40) hx hb hts iX8_about_X8 hown hK hP 0 rfl rfl 38 (by decide) (hts (.fieldLink RX8 160 "LeafSignerModel" "isLost" "[Z") (List.mem_of_getElem? (i := 2) rfl)) (fun _ h9 => h9) rfl dX8_about_34 ?_
  refine lv_iload hx hb dX8_about_37 (lv_at hl 1 rfl) ?_
  refine va_zald hx hb hK hP 2 1 rfl rfl (vx_in (by decide)) dX8_about_39 ?_
  refine vx_topk 0 rfl ?_
  refine lv_if_eq (tgt := 47) hx hb dX8_about_40 (by decide) (fun c208 => ?_) (fun c208 => absurd (by decide) c208)
  refine lv_iconst (v := 0) hx hb dX8_about_47 (by decide) ?_
  refine lv_iadd hx hb dX8_about_48 ?_
  refine vx_topk 0 (by decide) ?_
  refine lv_istore_n (lv' := [(3, .int 0), (2, .int 0), (4, .int 8), (0, .ref mm), (1, .int k)]) hx hb dX8_about_49 rfl hl (by decide) rfl (fun ls hl => ?_)
  refine lv_iinc (v := 9) (lv' := [(4, .int 9), (3, .int 0), (2, .int 0), (0, .ref mm), (1, .int k)]) hx hb dX8_about_50 hl (k := 2) rfl (by decide) (by decide) rfl (fun ls hl => ?_)
  refine lv_goto (tgt := 7) hx hb dX8_about_53 (by decide) ?_
  refine lv_iload hx hb dX8_about_7 (lv_at hl 0 rfl) ?_
  refine lv_bipush (v := 16) hx hb dX8_about_9 (by decide) ?_
  refine lv_icmp_ge (tgt := 56) hx hb dX8_about_11 (by decide) (fun c209 => absurd c209 (by decide)) (fun c209 => ?_)
  refine lv_iload_n hx hb dX8_about_14 rfl (lv_at hl 2 rfl) ?_
  refine lv_aload_n hx hb dX8_about_15 rfl (lv_at hl 3 rfl) ?_
  refine va_get (D := (dC, dI)) (ci := 8) (v := .ref (g 37)) (C := RX8) (T := TX8) (N := 40) hx hb hts iX8_about_X8 hown hK hP 0 rfl rfl 37 (by decide) (hts (.fieldLink RX8 156 "LeafSignerModel" "isReleased" "[Z") (List.mem_of_getElem? (i := 1) rfl)) (fun _ h9 => h9) rfl dX8_about_16 ?_
  refine lv_iload hx hb dX8_about_19 (lv_at hl 0 rfl) ?_
  refine va_zald hx hb hK hP 1 0 rfl rfl (vx_in (by decide)) dX8_about_21 ?_
  refine vx_topk 0 rfl ?_
  refine lv_if_eq (tgt := 29) hx hb dX8_about_22 (by decide) (fun c210 => ?_) (fun c210 => absurd (by decide) c210)
  refine lv_iconst (v := 0) hx hb dX8_about_29 (by decide) ?_
  refine lv_iadd hx hb dX8_about_30 ?_
  refine vx_topk 0 (by decide) ?_
  refine lv_istore_n (lv' := [(2, .int 0), (4, .int 9), (3, .int 0), (0, .ref mm), (1, .int k)]) hx hb dX8_about_31 rfl hl (by decide) rfl (fun ls hl => ?_)
  refine lv_iload_n hx hb dX8_about_32 rfl (lv_at hl 2 rfl) ?_
  refine lv_aload_n hx hb dX8_about_33 rfl (lv_at hl 3 rfl) ?_
  refine va_get (D := (dC, dI)) (ci := 8) (v := .ref (g 38)) (C := RX8) (T := TX8) (N := 40) hx hb hts iX8_about_X8 hown hK hP 0 rfl rfl 38 (by decide) (hts (.fieldLink RX8 160 "LeafSignerModel" "isLost" "[Z") (List.mem_of_getElem? (i := 2) rfl)) (fun _ h9 => h9) rfl dX8_about_34 ?_
  refine lv_iload hx hb dX8_about_37 (lv_at hl 1 rfl) ?_
  refine va_zald hx hb hK hP 2 1 rfl rfl (vx_in (by decide)) dX8_about_39 ?_
  refine vx_topk 0 rfl ?_
  refine lv_if_eq (tgt := 47) hx hb dX8_about_40 (by decide) (fun c211 => ?_) (fun c211 => absurd (by decide) c211)
  refine lv_iconst (v := 0) hx hb dX8_about_47 (by decide) ?_
  refine lv_iadd hx hb dX8_about_48 ?_
  refine vx_topk 0 (by decide) ?_
  refine lv_istore_n (lv' := [(3, .int 0), (2, .int 0), (4, .int 9), (0, .ref mm), (1, .int k)]) hx hb dX8_about_49 rfl hl (by decide) rfl (fun ls hl => ?_)
  refine lv_iinc (v := 10) (lv' := [(4, .int 10), (3, .int 0), (2, .int 0), (0, .ref mm), (1, .int k)]) hx hb dX8_about_50 hl (k := 2) rfl (by decide) (by decide) rfl (fun ls hl => ?_)
  refine lv_goto (tgt := 7) hx hb dX8_about_53 (by decide) ?_
  refine lv_iload hx hb dX8_about_7 (lv_at hl 0 rfl) ?_
  refine lv_bipush (v := 16) hx hb dX8_about_9 (by decide) ?_
  refine lv_icmp_ge (tgt := 56) hx hb dX8_about_11 (by decide) (fun c212 => absurd c212 (by decide)) (fun c212 => ?_)
  refine lv_iload_n hx hb dX8_about_14 rfl (lv_at hl 2 rfl) ?_
  refine lv_aload_n hx hb dX8_about_15 rfl (lv_at hl 3 rfl) ?_
  refine va_get (D := (dC, dI)) (ci := 8) (v := .ref (g 37)) (C := RX8) (T := TX8) (N := 40) hx hb hts iX8_about_X8 hown hK hP 0 rfl rfl 37 (by decide) (hts (.fieldLink RX8 156 "LeafSignerModel" "isReleased" "[Z") (List.mem_of_getElem? (i := 1) rfl)) (fun _ h9 => h9) rfl dX8_about_16 ?_
  refine lv_iload hx hb dX8_about_19 (lv_at hl 0 rfl) ?_
  refine va_zald hx hb hK hP 1 0 rfl rfl (vx_in (by decide)) dX8_about_21 ?_
  refine vx_topk 0 rfl ?_
  refine lv_if_eq (tgt := 29) hx hb dX8_about_22 (by decide) (fun c213 => ?_) (fun c213 => absurd (by decide) c213)
  refine lv_iconst (v := 0) hx hb dX8_about_29 (by decide) ?_
  refine lv_iadd hx hb dX8_about_30 ?_
  refine vx_topk 0 (by decide) ?_
  refine lv_istore_n (lv' := [(2, .int 0), (4, .int 10), (3, .int 0), (0, .ref mm), (1, .int k)]) hx hb dX8_about_31 rfl hl (by decide) rfl (fun ls hl => ?_)
  refine lv_iload_n hx hb dX8_about_32 rfl (lv_at hl 2 rfl) ?_
  refine lv_aload_n hx hb dX8_about_33 rfl (lv_at hl 3 rfl) ?_
  refine va_get (D := (dC, dI)) (ci := 8) (v := .ref (g 38)) (C := RX8) (T := TX8) (N := 40) hx hb hts iX8_about_X8 hown hK hP 0 rfl rfl 38 (by decide) (hts (.fieldLink RX8 160 "LeafSignerModel" "isLost" "[Z") (List.mem_of_getElem? (i := 2) rfl)) (fun _ h9 => h9) rfl dX8_about_34 ?_
  refine lv_iload hx hb dX8_about_37 (lv_at hl 1 rfl) ?_
  refine va_zald hx hb hK hP 2 1 rfl rfl (vx_in (by decide)) dX8_about_39 ?_
  refine vx_topk 0 rfl ?_
  refine lv_if_eq (tgt := 47) hx hb dX8_about_40 (by decide) (fun c214 => ?_) (fun c214 => absurd (by decide) c214)
  refine lv_iconst (v := 0) hx hb dX8_about_47 (by decide) ?_
  refine lv_iadd hx hb dX8_about_48 ?_
  refine vx_topk 0 (by decide) ?_
  refine lv_istore_n (lv' := [(3, .int 0), (2, .int 0), (4, .int 10), (0, .ref mm), (1, .int k)]) hx hb dX8_about_49 rfl hl (by decide) rfl (fun ls hl => ?_)
  refine lv_iinc (v := 11) (lv' := [(4, .int 11), (3, .int 0), (2, .int 0), (0, .ref mm), (1, .int k)]) hx hb dX8_about_50 hl (k := 2) rfl (by decide) (by decide) rfl (fun ls hl => ?_)
  refine lv_goto (tgt := 7) hx hb dX8_about_53 (by decide) ?_
  refine lv_iload hx hb dX8_about_7 (lv_at hl 0 rfl) ?_
  refine lv_bipush (v := 16) hx hb dX8_about_9 (by decide) ?_
  refine lv_icmp_ge (tgt := 56) hx hb dX8_about_11 (by decide) (fun c215 => absurd c215 (by decide)) (fun c215 => ?_)
  refine lv_iload_n hx hb dX8_about_14 rfl (lv_at hl 2 rfl) ?_
  refine lv_aload_n hx hb dX8_about_15 rfl (lv_at hl 3 rfl) ?_
  refine va_get (D := (dC, dI)) (ci := 8) (v := .ref (g 37)) (C := RX8) (T := TX8) (N := 40) hx hb hts iX8_about_X8 hown hK hP 0 rfl rfl 37 (by decide) (hts (.fieldLink RX8 156 "LeafSignerModel" "isReleased" "[Z") (List.mem_of_getElem? (i := 1) rfl)) (fun _ h9 => h9) rfl dX8_about_16 ?_
  refine lv_iload hx hb dX8_about_19 (lv_at hl 0 rfl) ?_
  refine va_zald hx hb hK hP 1 0 rfl rfl (vx_in (by decide)) dX8_about_21 ?_
  refine vx_topk 0 rfl ?_
  refine lv_if_eq (tgt := 29) hx hb dX8_about_22 (by decide) (fun c216 => ?_) (fun c216 => absurd (by decide) c216)
  refine lv_iconst (v := 0) hx hb dX8_about_29 (by decide) ?_
  refine lv_iadd hx hb dX8_about_30 ?_
  refine vx_topk 0 (by decide) ?_
  refine lv_istore_n (lv' := [(2, .int 0), (4, .int 11), (3, .int 0), (0, .ref mm), (1, .int k)]) hx hb dX8_about_31 rfl hl (by decide) rfl (fun ls hl => ?_)
  refine lv_iload_n hx hb dX8_about_32 rfl (lv_at hl 2 rfl) ?_
  refine lv_aload_n hx hb dX8_about_33 rfl (lv_at hl 3 rfl) ?_
  refine va_get (D := (dC, dI)) (ci := 8) (v := .ref (g 38)) (C := RX8) (T := TX8) (N := 40) hx hb hts iX8_about_X8 hown hK hP 0 rfl rfl 38 (by decide) (hts (.fieldLink RX8 160 "LeafSignerModel" "isLost" "[Z") (List.mem_of_getElem? (i := 2) rfl)) (fun _ h9 => h9) rfl dX8_about_34 ?_
  refine lv_iload hx hb dX8_about_37 (lv_at hl 1 rfl) ?_
  refine va_zald hx hb hK hP 2 1 rfl rfl (vx_in (by decide)) dX8_about_39 ?_
  refine vx_topk 0 rfl ?_
  refine lv_if_eq (tgt := 47) hx hb dX8_about_40 (by decide) (fun c217 => ?_) (fun c217 => absurd (by decide) c217)
  refine lv_iconst (v := 0) hx hb dX8_about_47 (by decide) ?_
  refine lv_iadd hx hb dX8_about_48 ?_
  refine vx_topk 0 (by decide) ?_
  refine lv_istore_n (lv' := [(3, .int 0), (2, .int 0), (4, .int 11), (0, .ref mm), (1, .int k)]) hx hb dX8_about_49 rfl hl (by decide) rfl (fun ls hl => ?_)
  refine lv_iinc (v := 12) (lv' := [(4, .int 12), (3, .int 0), (2, .int 0), (0, .ref mm), (1, .int k)]) hx hb dX8_about_50 hl (k := 2) rfl (by decide) (by decide) rfl (fun ls hl => ?_)
  refine lv_goto (tgt := 7) hx hb dX8_about_53 (by decide) ?_
  refine lv_iload hx hb dX8_about_7 (lv_at hl 0 rfl) ?_
  refine lv_bipush (v := 16) hx hb dX8_about_9 (by decide) ?_
  refine lv_icmp_ge (tgt := 56) hx hb dX8_about_11 (by decide) (fun c218 => absurd c218 (by decide)) (fun c218 => ?_)
  refine lv_iload_n hx hb dX8_about_14 rfl (lv_at hl 2 rfl) ?_
  refine lv_aload_n hx hb dX8_about_15 rfl (lv_at hl 3 rfl) ?_
  refine va_get (D := (dC, dI)) (ci := 8) (v := .ref (g 37)) (C := RX8) (T := TX8) (N := 40) hx hb hts iX8_about_X8 hown hK hP 0 rfl rfl 37 (by decide) (hts (.fieldLink RX8 156 "LeafSignerModel" "isReleased" "[Z") (List.mem_of_getElem? (i := 1) rfl)) (fun _ h9 => h9) rfl dX8_about_16 ?_
  refine lv_iload hx hb dX8_about_19 (lv_at hl 0 rfl) ?_
  refine va_zald hx hb hK hP 1 0 rfl rfl (vx_in (by decide)) dX8_about_21 ?_
  refine vx_topk 0 rfl ?_
  refine lv_if_eq (tgt := 29) hx hb dX8_about_22 (by decide) (fun c219 => ?_) (fun c219 => absurd (by decide) c219)
  refine lv_iconst (v := 0) hx hb dX8_about_29 (by decide) ?_
  refine lv_iadd hx hb dX8_about_30 ?_
  refine vx_topk 0 (by decide) ?_
  refine lv_istore_n (lv' := [(2, .int 0), (4, .int 12), (3, .int 0), (0, .ref mm), (1, .int k)]) hx hb dX8_about_31 rfl hl (by decide) rfl (fun ls hl => ?_)
  refine lv_iload_n hx hb dX8_about_32 rfl (lv_at hl 2 rfl) ?_
  refine lv_aload_n hx hb dX8_about_33 rfl (lv_at hl 3 rfl) ?_
  refine va_get (D := (dC, dI)) (ci := 8) (v := .ref (g 38)) (C := RX8) (T := TX8) (N := 40) hx hb hts iX8_about_X8 hown hK hP 0 rfl rfl 38 (by decide) (hts (.fieldLink RX8 160 "LeafSignerModel" "isLost" "[Z") (List.mem_of_getElem? (i := 2) rfl)) (fun _ h9 => h9) rfl dX8_about_34 ?_
  refine lv_iload hx hb dX8_about_37 (lv_at hl 1 rfl) ?_
  refine va_zald hx hb hK hP 2 1 rfl rfl (vx_in (by decide)) dX8_about_39 ?_
  refine vx_topk 0 rfl ?_
  refine lv_if_eq (tgt := 47) hx hb dX8_about_40 (by decide) (fun c220 => ?_) (fun c220 => absurd (by decide) c220)
  refine lv_iconst (v := 0) hx hb dX8_about_47 (by decide) ?_
  refine lv_iadd hx hb dX8_about_48 ?_
  refine vx_topk 0 (by decide) ?_
  refine lv_istore_n (lv' := [(3, .int 0), (2, .int 0), (4, .int 12), (0, .ref mm), (1, .int k)]) hx hb dX8_about_49 rfl hl (by decide) rfl (fun ls hl => ?_)
  refine lv_iinc (v := 13) (lv' := [(4, .int 13), (3, .int 0), (2, .int 0), (0, .ref mm), (1, .int k)]) hx hb dX8_about_50 hl (k := 2) rfl (by decide) (by decide) rfl (fun ls hl => ?_)
  refine lv_goto (tgt := 7) hx hb dX8_about_53 (by decide) ?_
  refine lv_iload hx hb dX8_about_7 (lv_at hl 0 rfl) ?_
  refine lv_bipush (v := 16) hx hb dX8_about_9 (by decide) ?_
  refine lv_icmp_ge (tgt := 56) hx hb dX8_about_11 (by decide) (fun c221 => absurd c221 (by decide)) (fun c221 => ?_)
  refine lv_iload_n hx hb dX8_about_14 rfl (lv_at hl 2 rfl) ?_
  refine lv_aload_n hx hb dX8_about_15 rfl (lv_at hl 3 rfl) ?_
  refine va_get (D := (dC, dI)) (ci := 8) (v := .ref (g 37)) (C := RX8) (T := TX8) (N := 40) hx hb hts iX8_about_X8 hown hK hP 0 rfl rfl 37 (by decide) (hts (.fieldLink RX8 156 "LeafSignerModel" "isReleased" "[Z") (List.mem_of_getElem? (i := 1) rfl)) (fun _ h9 => h9) rfl dX8_about_16 ?_
  refine lv_iload hx hb dX8_about_19 (lv_at hl 0 rfl) ?_
  refine va_zald hx hb hK hP 1 0 rfl rfl (vx_in (by decide)) dX8_about_21 ?_
  refine vx_topk 0 rfl ?_
  refine lv_if_eq (tgt := 29) hx hb dX8_about_22 (by decide) (fun c222 => ?_) (fun c222 => absurd (by decide) c222)
  refine lv_iconst (v := 0) hx hb dX8_about_29 (by decide) ?_
  refine lv_iadd hx hb dX8_about_30 ?_
  refine vx_topk 0 (by decide) ?_
  refine lv_istore_n (lv' := [(2, .int 0), (4, .int 13), (3, .int 0), (0, .ref mm), (1, .int k)]) hx hb dX8_about_31 rfl hl (by decide) rfl (fun ls hl => ?_)
  refine lv_iload_n hx hb dX8_about_32 rfl (lv_at hl 2 rfl) ?_
  refine lv_aload_n hx hb dX8_about_33 rfl (lv_at hl 3 rfl) ?_
  refine va_get (D := (dC, dI)) (ci := 8) (v := .ref (g 38)) (C := RX8) (T := TX8) (N := 40) hx hb hts iX8_about_X8 hown hK hP 0 rfl rfl 38 (by decide) (hts (.fieldLink RX8 160 "LeafSignerModel" "isLost" "[Z") (List.mem_of_getElem? (i := 2) rfl)) (fun _ h9 => h9) rfl dX8_about_34 ?_
  refine lv_iload hx hb dX8_about_37 (lv_at hl 1 rfl) ?_
  refine va_zald hx hb hK hP 2 1 rfl rfl (vx_in (by decide)) dX8_about_39 ?_
  refine vx_topk 0 rfl ?_
  refine lv_if_eq (tgt := 47) hx hb dX8_about_40 (by decide) (fun c223 => ?_) (fun c223 => absurd (by decide) c223)
  refine lv_iconst (v := 0) hx hb dX8_about_47 (by decide) ?_
  refine lv_iadd hx hb dX8_about_48 ?_
  refine vx_topk 0 (by decide) ?_
  refine lv_istore_n (lv' := [(3, .int 0), (2, .int 0), (4, .int 13), (0, .ref mm), (1, .int k)]) hx hb dX8_about_49 rfl hl (by decide) rfl (fun ls hl => ?_)
  refine lv_iinc (v := 14) (lv' := [(4, .int 14), (3, .int 0), (2, .int 0), (0, .ref mm), (1, .int k)]) hx hb dX8_about_50 hl (k := 2) rfl (by decide) (by decide) rfl (fun ls hl => ?_)
  refine lv_goto (tgt := 7) hx hb dX8_about_53 (by decide) ?_
  refine lv_iload hx hb dX8_about_7 (lv_at hl 0 rfl) ?_
  refine lv_bipush (v := 16) hx hb dX8_about_9 (by decide) ?_
  refine lv_icmp_ge (tgt := 56) hx hb dX8_about_11 (by decide) (fun c224 => absurd c224 (by decide)) (fun c224 => ?_)
  refine lv_iload_n hx hb dX8_about_14 rfl (lv_at hl 2 rfl) ?_
  refine lv_aload_n hx hb dX8_about_15 rfl (lv_at hl 3 rfl) ?_
  refine va_get (D := (dC, dI)) (ci := 8) (v := .ref (g 37)) (C := RX8) (T := TX8) (N := 40) hx hb hts iX8_about_X8 hown hK hP 0 rfl rfl 37 (by decide) (hts (.fieldLink RX8 156 "LeafSignerModel" "isReleased" "[Z") (List.mem_of_getElem? (i := 1) rfl)) (fun _ h9 => h9) rfl dX8_about_16 ?_
  refine lv_iload hx hb dX8_about_19 (lv_at hl 0 rfl) ?_
  refine va_zald hx hb hK hP 1 0 rfl rfl (vx_in (by decide)) dX8_about_21 ?_
  refine vx_topk 0 rfl ?_
  refine lv_if_eq (tgt := 29) hx hb dX8_about_22 (by decide) (fun c225 => ?_) (fun c225 => absurd (by decide) c225)
  refine lv_iconst (v := 0) hx hb dX8_about_29 (by decide) ?_
  refine lv_iadd hx hb dX8_about_30 ?_
  refine vx_topk 0 (by decide) ?_
  refine lv_istore_n (lv' := [(2, .int 0), (4, .int 14), (3, .int 0), (0, .ref mm), (1, .int k)]) hx hb dX8_about_31 rfl hl (by decide) rfl (fun ls hl => ?_)
  refine lv_iload_n hx hb dX8_about_32 rfl (lv_at hl 2 rfl) ?_
  refine lv_aload_n hx hb dX8_about_33 rfl (lv_at hl 3 rfl) ?_
  refine va_get (D := (dC, dI)) (ci := 8) (v := .ref (g 38)) (C := RX8) (T := TX8) (N := 40) hx hb hts iX8_about_X8 hown hK hP 0 rfl rfl 38 (by decide) (hts (.fieldLink RX8 160 "LeafSignerModel" "isLost" "[Z") (List.mem_of_getElem? (i := 2) rfl)) (fun _ h9 => h9) rfl dX8_about_34 ?_
  refine lv_iload hx hb dX8_about_37 (lv_at hl 1 rfl) ?_
  refine va_zald hx hb hK hP 2 1 rfl rfl (vx_in (by decide)) dX8_about_39 ?_
  refine vx_topk 0 rfl ?_
  refine lv_if_eq (tgt := 47) hx hb dX8_about_40 (by decide) (fun c226 => ?_) (fun c226 => absurd (by decide) c226)
  refine lv_iconst (v := 0) hx hb dX8_about_47 (by decide) ?_
  refine lv_iadd hx hb dX8_about_48 ?_
  refine vx_topk 0 (by decide) ?_
  refine lv_istore_n (lv' := [(3, .int 0), (2, .int 0), (4, .int 14), (0, .ref mm), (1, .int k)]) hx hb dX8_about_49 rfl hl (by decide) rfl (fun ls hl => ?_)
  refine lv_iinc (v := 15) (lv' := [(4, .int 15), (3, .int 0), (2, .int 0), (0, .ref mm), (1, .int k)]) hx hb dX8_about_50 hl (k := 2) rfl (by decide) (by decide) rfl (fun ls hl => ?_)
  refine lv_goto (tgt := 7) hx hb dX8_about_53 (by decide) ?_
  refine lv_iload hx hb dX8_about_7 (lv_at hl 0 rfl) ?_
  refine lv_bipush (v := 16) hx hb dX8_about_9 (by decide) ?_
  refine lv_icmp_ge (tgt := 56) hx hb dX8_about_11 (by decide) (fun c227 => absurd c227 (by decide)) (fun c227 => ?_)
  refine lv_iload_n hx hb dX8_about_14 rfl (lv_at hl 2 rfl) ?_
  refine lv_aload_n hx hb dX8_about_15 rfl (lv_at hl 3 rfl) ?_
  refine va_get (D := (dC, dI)) (ci := 8) (v := .ref (g 37)) (C := RX8) (T := TX8) (N := 40) hx hb hts iX8_about_X8 hown hK hP 0 rfl rfl 37 (by decide) (hts (.fieldLink RX8 156 "LeafSignerModel" "isReleased" "[Z") (List.mem_of_getElem? (i := 1) rfl)) (fun _ h9 => h9) rfl dX8_about_16 ?_
  refine lv_iload hx hb dX8_about_19 (lv_at hl 0 rfl) ?_
  refine va_zald hx hb hK hP 1 0 rfl rfl (vx_in (by decide)) dX8_about_21 ?_
  refine vx_topk 0 rfl ?_
  refine lv_if_eq (tgt := 29) hx hb dX8_about_22 (by decide) (fun c228 => ?_) (fun c228 => absurd (by decide) c228)
  refine lv_iconst (v := 0) hx hb dX8_about_29 (by decide) ?_
  refine lv_iadd hx hb dX8_about_30 ?_
  refine vx_topk 0 (by decide) ?_
  refine lv_istore_n (lv' := [(2, .int 0), (4, .int 15), (3, .int 0), (0, .ref mm), (1, .int k)]) hx hb dX8_about_31 rfl hl (by decide) rfl (fun ls hl => ?_)
  refine lv_iload_n hx hb dX8_about_32 rfl (lv_at hl 2 rfl) ?_
  refine lv_aload_n hx hb dX8_about_33 rfl (lv_at hl 3 rfl) ?_
  refine va_get (D := (dC, dI)) (ci := 8) (v := .ref (g 38)) (C := RX8) (T := TX8) (N := 40) hx hb hts iX8_about_X8 hown hK hP 0 rfl rfl 38 (by decide) (hts (.fieldLink RX8 160 "LeafSignerModel" "isLost" "[Z") (List.mem_of_getElem? (i := 2) rfl)) (fun _ h9 => h9) rfl dX8_about_34 ?_
  refine lv_iload hx hb dX8_about_37 (lv_at hl 1 rfl) ?_
  refine va_zald hx hb hK hP 2 1 rfl rfl (vx_in (by decide)) dX8_about_39 ?_
  refine vx_topk 0 rfl ?_
  refine lv_if_eq (tgt := 47) hx hb dX8_about_40 (by decide) (fun c229 => ?_) (fun c229 => absurd (by decide) c229)
  refine lv_iconst (v := 0) hx hb dX8_about_47 (by decide) ?_
  refine lv_iadd hx hb dX8_about_48 ?_
  refine vx_topk 0 (by decide) ?_
  refine lv_istore_n (lv' := [(3, .int 0), (2, .int 0), (4, .int 15), (0, .ref mm), (1, .int k)]) hx hb dX8_about_49 rfl hl (by decide) rfl (fun ls hl => ?_)
  refine lv_iinc (v := 16) (lv' := [(4, .int 16), (3, .int 0), (2, .int 0), (0, .ref mm), (1, .int k)]) hx hb dX8_about_50 hl (k := 2) rfl (by decide) (by decide) rfl (fun ls hl => ?_)
  refine lv_goto (tgt := 7) hx hb dX8_about_53 (by decide) ?_
  refine lv_iload hx hb dX8_about_7 (lv_at hl 0 rfl) ?_
  refine lv_bipush (v := 16) hx hb dX8_about_9 (by decide) ?_
  refine lv_icmp_ge (tgt := 56) hx hb dX8_about_11 (by decide) (fun c230 => ?_) (fun c230 => absurd (by decide) c230)
  refine lv_iload_n hx hb dX8_about_56 rfl (lv_at hl 4 rfl) ?_
  by_cases c231 : k = 0
  · subst c231
    have hl : lv_has ls 5 [(4, .int 16), (3, .int 0), (2, .int 0), (0, .ref mm), (1, .int 0)] := hl
    refine lv_tableIn (off := 63) (tgt := 120) hx hb dX8_about_57 (by decide) (by decide) (by decide) (by decide) ?_
    refine lv_aload_n hx hb dX8_about_120 rfl (lv_at hl 3 rfl) ?_
    refine va_get (D := (dC, dI)) (ci := 8) (v := .int 0) (C := RX8) (T := TX8) (N := 40) hx hb hts iX8_about_X8 hown hK hP 0 rfl rfl 31 (by decide) (hts (.fieldLink RX8 257 "LeafSignerModel" "state" "I") (List.mem_of_getElem? (i := 3) rfl)) (fun _ h9 => h9) rfl dX8_about_121 ?_
    refine W.widen (k := 0) (n := 0) (Nat.le_of_ble_eq_true rfl) (Nat.le_of_ble_eq_true rfl) ?_
    exact W.iret (v := 0) hx hb hr (fun t ht hW => ⟨⟨0, (), rfl, rfl, trivial⟩, hS.F ht⟩) hS.2.2 dX8_about_124
  · by_cases c232 : k = 1
    · subst c232
      have hl : lv_has ls 5 [(4, .int 16), (3, .int 0), (2, .int 0), (0, .ref mm), (1, .int 1)] := hl
      refine lv_tableIn (off := 68) (tgt := 125) hx hb dX8_about_57 (by decide) (by decide) (by decide) (by decide) ?_
      refine lv_aload_n hx hb dX8_about_125 rfl (lv_at hl 3 rfl) ?_
      refine va_get (D := (dC, dI)) (ci := 8) (v := .int 0) (C := RX8) (T := TX8) (N := 40) hx hb hts iX8_about_X8 hown hK hP 0 rfl rfl 31 (by decide) (hts (.fieldLink RX8 257 "LeafSignerModel" "state" "I") (List.mem_of_getElem? (i := 3) rfl)) (fun _ h9 => h9) rfl dX8_about_126 ?_
      refine lv_iconst (v := 1) hx hb dX8_about_129 (by decide) ?_
      refine lv_icmp_ne (tgt := 140) hx hb dX8_about_130 (by decide) (fun c233 => ?_) (fun c233 => absurd c233 (by decide))
      refine lv_iconst (v := (-1)) hx hb dX8_about_140 (by decide) ?_
      refine W.widen (k := 0) (n := 0) (Nat.le_of_ble_eq_true rfl) (Nat.le_of_ble_eq_true rfl) ?_
      exact W.iret (v := (-1)) hx hb hr (fun t ht hW => ⟨⟨(-1), (), rfl, rfl, trivial⟩, hS.F ht⟩) hS.2.2 dX8_about_141
    · by_cases c234 : k = 2
      · subst c234
        have hl : lv_has ls 5 [(4, .int 16), (3, .int 0), (2, .int 0), (0, .ref mm), (1, .int 2)] := hl
        refine lv_tableIn (off := 85) (tgt := 142) hx hb dX8_about_57 (by decide) (by decide) (by decide) (by decide) ?_
        refine lv_aload_n hx hb dX8_about_142 rfl (lv_at hl 3 rfl) ?_
        refine va_get (D := (dC, dI)) (ci := 8) (v := .int 0) (C := RX8) (T := TX8) (N := 40) hx hb hts iX8_about_X8 hown hK hP 0 rfl rfl 31 (by decide) (hts (.fieldLink RX8 257 "LeafSignerModel" "state" "I") (List.mem_of_getElem? (i := 3) rfl)) (fun _ h9 => h9) rfl dX8_about_143 ?_
        refine lv_iconst (v := 1) hx hb dX8_about_146 (by decide) ?_
        refine lv_icmp_ne (tgt := 157) hx hb dX8_about_147 (by decide) (fun c235 => ?_) (fun c235 => absurd c235 (by decide))
        refine lv_iconst (v := (-1)) hx hb dX8_about_157 (by decide) ?_
        refine W.widen (k := 0) (n := 0) (Nat.le_of_ble_eq_true rfl) (Nat.le_of_ble_eq_true rfl) ?_
        exact W.iret (v := (-1)) hx hb hr (fun t ht hW => ⟨⟨(-1), (), rfl, rfl, trivial⟩, hS.F ht⟩) hS.2.2 dX8_about_158
      · by_cases c236 : k = 3
        · subst c236
          have hl : lv_has ls 5 [(4, .int 16), (3, .int 0), (2, .int 0), (0, .ref mm), (1, .int 3)] := hl
          refine lv_tableIn (off := 102) (tgt := 159) hx hb dX8_about_57 (by decide) (by decide) (by decide) (by decide) ?_
          refine lv_iload_n hx hb dX8_about_159 rfl (lv_at hl 2 rfl) ?_
          refine W.widen (k := 0) (n := 0) (Nat.le_of_ble_eq_true rfl) (Nat.le_of_ble_eq_true rfl) ?_
          exact W.iret (v := 0) hx hb hr (fun t ht hW => ⟨⟨0, (), rfl, rfl, trivial⟩, hS.F ht⟩) hS.2.2 dX8_about_160
        · by_cases c237 : k = 4
          · subst c237
            have hl : lv_has ls 5 [(4, .int 16), (3, .int 0), (2, .int 0), (0, .ref mm), (1, .int 4)] := hl
            refine lv_tableIn (off := 104) (tgt := 161) hx hb dX8_about_57 (by decide) (by decide) (by decide) (by decide) ?_
            refine lv_iload_n hx hb dX8_about_161 rfl (lv_at hl 1 rfl) ?_
            refine W.widen (k := 0) (n := 0) (Nat.le_of_ble_eq_true rfl) (Nat.le_of_ble_eq_true rfl) ?_
            exact W.iret (v := 0) hx hb hr (fun t ht hW => ⟨⟨0, (), rfl, rfl, trivial⟩, hS.F ht⟩) hS.2.2 dX8_about_162
          · by_cases c238 : k = 5
            · subst c238
              have hl : lv_has ls 5 [(4, .int 16), (3, .int 0), (2, .int 0), (0, .ref mm), (1, .int 5)] := hl
              refine lv_tableIn (off := 106) (tgt := 163) hx hb dX8_about_57 (by decide) (by decide) (by decide) (by decide) ?_
              refine lv_aload_n hx hb dX8_about_163 rfl (lv_at hl 3 rfl) ?_
              refine va_get (D := (dC, dI)) (ci := 8) (v := .int 0) (C := RX8) (T := TX8) (N := 40) hx hb hts iX8_about_X8 hown hK hP 0 rfl rfl 36 (by decide) (hts (.fieldLink RX8 272 "LeafSignerModel" "written" "I") (List.mem_of_getElem? (i := 4) rfl)) (fun _ h9 => h9) rfl dX8_about_164 ?_
              refine W.widen (k := 0) (n := 0) (Nat.le_of_ble_eq_true rfl) (Nat.le_of_ble_eq_true rfl) ?_
              exact W.iret (v := 0) hx hb hr (fun t ht hW => ⟨⟨0, (), rfl, rfl, trivial⟩, hS.F ht⟩) hS.2.2 dX8_about_167
            · by_cases c239 : k = 6
              · subst c239
                have hl : lv_has ls 5 [(4, .int 16), (3, .int 0), (2, .int 0), (0, .ref mm), (1, .int 6)] := hl
                refine lv_tableIn (off := 111) (tgt := 168) hx hb dX8_about_57 (by decide) (by decide) (by decide) (by decide) ?_
                refine lv_aload_n hx hb dX8_about_168 rfl (lv_at hl 3 rfl) ?_
                refine va_get (D := (dC, dI)) (ci := 8) (v := .int (-1)) (C := RX8) (T := TX8) (N := 40) hx hb hts iX8_about_X8 hown hK hP 0 rfl rfl 35 (by decide) (hts (.fieldLink RX8 152 "LeafSignerModel" "fuse" "I") (List.mem_of_getElem? (i := 5) rfl)) (fun _ h9 => h9) rfl dX8_about_169 ?_
                refine W.widen (k := 0) (n := 0) (Nat.le_of_ble_eq_true rfl) (Nat.le_of_ble_eq_true rfl) ?_
                exact W.iret (v := (-1)) hx hb hr (fun t ht hW => ⟨⟨(-1), (), rfl, rfl, trivial⟩, hS.F ht⟩) hS.2.2 dX8_about_172
              · by_cases c240 : k = 7
                · subst c240
                  have hl : lv_has ls 5 [(4, .int 16), (3, .int 0), (2, .int 0), (0, .ref mm), (1, .int 7)] := hl
                  refine lv_tableIn (off := 116) (tgt := 173) hx hb dX8_about_57 (by decide) (by decide) (by decide) (by decide) ?_
                  refine lv_aload_n hx hb dX8_about_173 rfl (lv_at hl 3 rfl) ?_
                  refine va_get (D := (dC, dI)) (ci := 8) (v := .int 0) (C := RX8) (T := TX8) (N := 40) hx hb hts iX8_about_X8 hown hK hP 0 rfl rfl 28 (by decide) (hts (.fieldLink RX8 244 "LeafSignerModel" "taped" "I") (List.mem_of_getElem? (i := 6) rfl)) (fun _ h9 => h9) rfl dX8_about_174 ?_
                  refine W.widen (k := 0) (n := 0) (Nat.le_of_ble_eq_true rfl) (Nat.le_of_ble_eq_true rfl) ?_
                  exact W.iret (v := 0) hx hb hr (fun t ht hW => ⟨⟨0, (), rfl, rfl, trivial⟩, hS.F ht⟩) hS.2.2 dX8_about_177
                · by_cases c241 : k = 8
                  · subst c241
                    have hl : lv_has ls 5 [(4, .int 16), (3, .int 0), (2, .int 0), (0, .ref mm), (1, .int 8)] := hl
                    refine lv_tableIn (off := 121) (tgt := 178) hx hb dX8_about_57 (by decide) (by decide) (by decide) (by decide) ?_
                    refine lv_aload_n hx hb dX8_about_178 rfl (lv_at hl 3 rfl) ?_
                    refine va_get (D := (dC, dI)) (ci := 8) (v := .int 0) (C := RX8) (T := TX8) (N := 40) hx hb hts iX8_about_X8 hown hK hP 0 rfl rfl 29 (by decide) (hts (.fieldLink RX8 290 "LeafSignerModel" "outs" "I") (List.mem_of_getElem? (i := 7) rfl)) (fun _ h9 => h9) rfl dX8_about_179 ?_
                    refine W.widen (k := 0) (n := 0) (Nat.le_of_ble_eq_true rfl) (Nat.le_of_ble_eq_true rfl) ?_
                    exact W.iret (v := 0) hx hb hr (fun t ht hW => ⟨⟨0, (), rfl, rfl, trivial⟩, hS.F ht⟩) hS.2.2 dX8_about_182
                  · by_cases c242 : k = 9
                    · subst c242
                      have hl : lv_has ls 5 [(4, .int 16), (3, .int 0), (2, .int 0), (0, .ref mm), (1, .int 9)] := hl
                      refine lv_tableIn (off := 126) (tgt := 183) hx hb dX8_about_57 (by decide) (by decide) (by decide) (by decide) ?_
                      refine lv_aload_n hx hb dX8_about_183 rfl (lv_at hl 3 rfl) ?_
                      refine va_get (D := (dC, dI)) (ci := 8) (v := .int 0) (C := RX8) (T := TX8) (N := 40) hx hb hts iX8_about_X8 hown hK hP 0 rfl rfl 30 (by decide) (hts (.fieldLink RX8 300 "LeafSignerModel" "keeps" "I") (List.mem_of_getElem? (i := 8) rfl)) (fun _ h9 => h9) rfl dX8_about_184 ?_
                      refine W.widen (k := 0) (n := 0) (Nat.le_of_ble_eq_true rfl) (Nat.le_of_ble_eq_true rfl) ?_
                      exact W.iret (v := 0) hx hb hr (fun t ht hW => ⟨⟨0, (), rfl, rfl, trivial⟩, hS.F ht⟩) hS.2.2 dX8_about_187
                    · by_cases c243 : k = 10
                      · subst c243
                        have hl : lv_has ls 5 [(4, .int 16), (3, .int 0), (2, .int 0), (0, .ref mm), (1, .int 10)] := hl
                        refine lv_tableIn (off := 131) (tgt := 188) hx hb dX8_about_57 (by decide) (by decide) (by decide) (by decide) ?_
                        refine lv_aload_n hx hb dX8_about_188 rfl (lv_at hl 3 rfl) ?_
                        refine va_get (D := (dC, dI)) (ci := 8) (v := .int hi) (C := RX8) (T := TX8) (N := 40) hx hb hts iX8_about_X8 hown hK hP 0 rfl rfl 0 (by decide) (hts (.fieldLink RX8 170 "LeafSignerModel" "high" "I") (List.mem_of_getElem? (i := 9) rfl)) (fun _ h9 => h9) rfl dX8_about_189 ?_
                        refine W.widen (k := 0) (n := 0) (Nat.le_of_ble_eq_true rfl) (Nat.le_of_ble_eq_true rfl) ?_
                        exact W.iret (v := hi) hx hb hr (fun t ht hW => ⟨⟨hi, (), rfl, rfl, trivial⟩, hS.F ht⟩) hS.2.2 dX8_about_192
                      · by_cases c244 : k = 11
                        · subst c244
                          have hl : lv_has ls 5 [(4, .int 16), (3, .int 0), (2, .int 0), (0, .ref mm), (1, .int 11)] := hl
                          refine lv_tableIn (off := 136) (tgt := 193) hx hb dX8_about_57 (by decide) (by decide) (by decide) (by decide) ?_
                          refine lv_aload_n hx hb dX8_about_193 rfl (lv_at hl 3 rfl) ?_
                          refine va_get (D := (dC, dI)) (ci := 8) (v := .int ri) (C := RX8) (T := TX8) (N := 40) hx hb hts iX8_about_X8 hown hK hP 0 rfl rfl 1 (by decide) (hts (.fieldLink RX8 173 "LeafSignerModel" "reserve" "I") (List.mem_of_getElem? (i := 10) rfl)) (fun _ h9 => h9) rfl dX8_about_194 ?_
                          refine W.widen (k := 0) (n := 0) (Nat.le_of_ble_eq_true rfl) (Nat.le_of_ble_eq_true rfl) ?_
                          exact W.iret (v := ri) hx hb hr (fun t ht hW => ⟨⟨ri, (), rfl, rfl, trivial⟩, hS.F ht⟩) hS.2.2 dX8_about_197
                        · refine lv_tableOut (tgt := 198) hx hb dX8_about_57 (vx_out c231 c232 c234 c236 c237 c238 c239 c240 c241 c242 c243 c244) (by decide) ?_
                          refine lv_iconst (v := (-1)) hx hb dX8_about_198 (by decide) ?_
                          refine W.widen (k := 0) (n := 0) (Nat.le_of_ble_eq_true rfl) (Nat.le_of_ble_eq_true rfl) ?_
                          exact W.iret (v := (-1)) hx hb hr (fun t ht hW => ⟨⟨(-1), (), rfl, (by unfold fk_about; simp only [if_neg c231, if_neg c232, if_neg c234, if_neg c236, if_neg c237, if_neg c238, if_neg c239, if_neg c240, if_neg c241, if_neg c242, if_neg c243, if_neg c244]), trivial⟩, hS.F ht⟩) hS.2.2 dX8_about_199
end
section
def ww_X8_init : List Cond := .code yX8_init cX8_init 3 none :: ([.methodLink RX8 1 objectInit, .instanceMethod objectInit, .code objectInit ⟨#[0xb1]⟩ 1 none, .arrayClass .int, .constant RX8 7 (1116352408), .constant RX8 8 (1899447441), .constant RX8 9 (-1245643825), .constant RX8 10 (-373957723), .constant RX8 11 (961987163), .constant RX8 12 (1508970993), .constant RX8 13 (-1841331548), .constant RX8 14 (-1424204075), .constant RX8 15 (-670586216), .constant RX8 16 (310598401), .constant RX8 17 (607225278), .constant RX8 18 (1426881987), .constant RX8 19 (1925078388), .constant RX8 20 (-2132889090), .constant RX8 21 (-1680079193), .constant RX8 22 (-1046744716), .constant RX8 23 (-459576895), .constant RX8 24 (-272742522), .constant RX8 25 (264347078), .constant RX8 26 (604807628), .constant RX8 27 (770255983), .constant RX8 28 (1249150122), .constant RX8 29 (1555081692), .constant RX8 30 (1996064986), .constant RX8 31 (-1740746414), .constant RX8 32 (-1473132947), .constant RX8 33 (-1341970488), .constant RX8 34 (-1084653625), .constant RX8 35 (-958395405), .constant RX8 36 (-710438585), .constant RX8 37 (113926993), .constant RX8 38 (338241895), .constant RX8 39 (666307205), .constant RX8 40 (773529912), .constant RX8 41 (1294757372), .constant RX8 42 (1396182291), .constant RX8 43 (1695183700), .constant RX8 44 (1986661051), .constant RX8 45 (-2117940946), .constant RX8 46 (-1838011259), .constant RX8 47 (-1564481375), .constant RX8 48 (-1474664885), .constant RX8 49 (-1035236496), .constant RX8 50 (-949202525), .constant RX8 51 (-778901479), .constant RX8 52 (-694614492), .constant RX8 53 (-200395387), .constant RX8 54 (275423344), .constant RX8 55 (430227734), .constant RX8 56 (506948616), .constant RX8 57 (659060556), .constant RX8 58 (883997877), .constant RX8 59 (958139571), .constant RX8 60 (1322822218), .constant RX8 61 (1537002063), .constant RX8 62 (1747873779), .constant RX8 63 (1955562222), .constant RX8 64 (2024104815), .constant RX8 65 (-2067236844), .constant RX8 66 (-1933114872), .constant RX8 67 (-1866530822), .constant RX8 68 (-1538233109), .constant RX8 69 (-1090935817), .constant RX8 70 (-965641998), .fieldLink RX8 71 "LeafSignerModel" "k64" "[I", .constant RX8 77 (1779033703), .constant RX8 78 (-1150833019), .constant RX8 79 (1013904242), .constant RX8 80 (-1521486534), .constant RX8 81 (1359893119), .constant RX8 82 (-1694144372), .constant RX8 83 (528734635), .constant RX8 84 (1541459225), .fieldLink RX8 85 "LeafSignerModel" "begin" "[I", .fieldLink RX8 88 "LeafSignerModel" "w" "[I", .fieldLink RX8 91 "LeafSignerModel" "h" "[I", .fieldLink RX8 94 "LeafSignerModel" "v" "[I", .arrayClass .byte, .fieldLink RX8 97 "LeafSignerModel" "told" "[B", .fieldLink RX8 101 "LeafSignerModel" "address" "[B", .fieldLink RX8 104 "LeafSignerModel" "seed" "[B", .fieldLink RX8 107 "LeafSignerModel" "key" "[B", .fieldLink RX8 110 "LeafSignerModel" "mask" "[B", .fieldLink RX8 113 "LeafSignerModel" "other" "[B", .fieldLink RX8 116 "LeafSignerModel" "mixed" "[B", .fieldLink RX8 119 "LeafSignerModel" "secret" "[B", .fieldLink RX8 122 "LeafSignerModel" "random" "[B", .fieldLink RX8 125 "LeafSignerModel" "own" "[B", .fieldLink RX8 128 "LeafSignerModel" "parts" "[B", .fieldLink RX8 131 "LeafSignerModel" "digits" "[I", .fieldLink RX8 134 "LeafSignerModel" "tree" "[B", .fieldLink RX8 137 "LeafSignerModel" "tape" "[B", .fieldLink RX8 140 "LeafSignerModel" "disk" "[B", .fieldLink RX8 143 "LeafSignerModel" "out" "[B", .fieldLink RX8 146 "LeafSignerModel" "kept" "[B", .fieldLink RX8 149 "LeafSignerModel" "signed" "[B", .fieldLink RX8 152 "LeafSignerModel" "fuse" "I", .arrayClass .boolean, .fieldLink RX8 156 "LeafSignerModel" "isReleased" "[Z", .fieldLink RX8 160 "LeafSignerModel" "isLost" "[Z", .fieldLink RX8 163 "LeafSignerModel" "top" "[B", .methodLink RX8 166 yX8_held, .static yX8_held, .initialized RX8, .code yX8_held cX8_held 3 (some .int), .fieldLink RX8 170 "LeafSignerModel" "high" "I", .fieldLink RX8 173 "LeafSignerModel" "reserve" "I", .fieldLink RX8 176 "LeafSignerModel" "leaves" "I"] ++ (wsX80))
theorem iX8_init_X8 : ∀ w ∈ wsX80, w ∈ ww_X8_init := fun w h => List.mem_cons_of_mem _ (List.mem_append_right _ h)
set_option maxRecDepth 20000 in
theorem gX8_init_X8_held_166 : GoodIn ww_X8_init (va_wsS RX8 166 yX8_held ww_X8_held) := vx_good _ [106, 107, 108, 109] rfl (by decide +kernel)
set_option maxHeartbeats 4000000 in
set_option maxRecDepth 100000 in
theorem cm_Model (l : Launch) (dC : Nat → ClassId) (dI : Nat → Nat → Nat) (sz : Nat) (h0 : Nat) (k1 : Int32) (k2 : Int32) : Met l yX8_init ww_X8_init ({ frames := 1, cells := 26, slots := 11399, locals := 22 }) (va_Pc [.ref h0, .int k1, .int k2] (fun U => U.heap.size = sz ∧ va_P (dC, dI) classes [(h0, .inr (8, [.int 0, .int 0, .int 0, .null, .null, .null, .null, .null, .null, .int 0, .null, .null, .null, .null, .null, .null, .null, .null, .null, .null, .null, .null, .int 0, .null, .null, .null, .null, .null, .int 0, .int 0, .int 0, .int 0, .int 0, .int 0, .int 0, .int 0, .int 0, .null, .null, .null]))] U.heap ∧ va_K (dC, dI) classes [] U ∧ va_D (fun _ => True) [(h0, .inr (8, [.int 0, .int 0, .int 0, .null, .null, .null, .null, .null, .null, .int 0, .null, .null, .null, .null, .null, .null, .null, .null, .null, .null, .null, .null, .int 0, .null, .null, .null, .null, .null, .int 0, .int 0, .int 0, .int 0, .int 0, .int 0, .int 0, .int 0, .int 0, .null, .null, .null]))])) (va_Qv (fun (_ : Unit) => True) (fun (_ : Unit) (t : State) => ∃ g : (Nat → Nat), ∃ cMt : ClassId, ∃ cMd : ClassId, ∃ cMr : ClassId, ∃ cMl : ClassId, va_P (dC, dI) classes [(h0, .inr (8, [.int (fk_held k1 1 4), .int (fk_held k2 1 8), .int ((1 : Int32) <<< ((fk_held k1 1 4) &&& 31)), .ref (g 3), .ref (g 4), .ref (g 5), .ref (g 6), .ref (g 7), .ref (g 8), .int 0, .ref (g 10), .ref (g 11), .ref (g 12), .ref (g 13), .ref (g 14), .ref (g 15), .ref (g 16), .ref (g 17), .ref (g 18), .ref (g 19), .ref (g 20), .ref (g 21), .int 0, .ref (g 23), .ref (g 24), .ref (g 25), .ref (g 26), .ref (g 27), .int 0, .int 0, .int 0, .int 0, .int 0, .int 0, .int 0, .int (-1), .int 0, .ref (g 37), .ref (g 38), .ref (g 39)])), ((g 23), .inl (cMt, 200, .inl (fun _ => 0))), ((g 24), .inl (cMd, 24, .inl (fun _ => 0))), ((g 37), .inl (cMr, 16, .inl (fun _ => 0))), ((g 38), .inl (cMl, 16, .inl (fun _ => 0)))] t.heap ∧ va_K (dC, dI) classes [(cMt, .byte), (cMd, .byte), (cMr, .boolean), (cMl, .boolean)] t ∧ va_D (va_A [(h0, .inr (8, [.int 0, .int 0, .int 0, .null, .null, .null, .null, .null, .null, .int 0, .null, .null, .null, .null, .null, .null, .null, .null, .null, .null, .null, .null, .int 0, .null, .null, .null, .null, .null, .int 0, .int 0, .int 0, .int 0, .int 0, .int 0, .int 0, .int 0, .int 0, .null, .null, .null]))] sz) [(h0, .inr (8, [.int (fk_held k1 1 4), .int (fk_held k2 1 8), .int ((1 : Int32) <<< ((fk_held k1 1 4) &&& 31)), .ref (g 3), .ref (g 4), .ref (g 5), .ref (g 6), .ref (g 7), .ref (g 8), .int 0, .ref (g 10), .ref (g 11), .ref (g 12), .ref (g 13), .ref (g 14), .ref (g 15), .ref (g 16), .ref (g 17), .ref (g 18), .ref (g 19), .ref (g 20), .ref (g 21), .int 0, .ref (g 23), .ref (g 24), .ref (g 25), .ref (g 26), .ref (g 27), .int 0, .int 0, .int 0, .int 0, .int 0, .int 0, .int 0, .int (-1), .int 0, .ref (g 37), .ref (g 38), .ref (g 39)])), ((g 23), .inl (cMt, 200, .inl (fun _ => 0))), ((g 24), .inl (cMd, 24, .inl (fun _ => 0))), ((g 37), .inl (cMr, 16, .inl (fun _ => 0))), ((g 38), .inl (cMl, 16, .inl (fun _ => 0)))]) (va_A [(h0, .inr (8, [.int 0, .int 0, .int 0, .null, .null, .null, .null, .null, .null, .int 0, .null, .null, .null, .null, .null, .null, .null, .null, .null, .null, .null, .null, .int 0, .null, .null, .null, .null, .null, .int 0, .int 0, .int 0, .int 0, .int 0, .int 0, .int 0, .int 0, .int 0, .null, .null, .null]))] sz)) 26 11399 (va_A [(h0, .inr (8, [.int 0, .int 0, .int 0, .null, .null, .null, .null, .null, .null, .int 0, .null, .null, .null, .null, .null, .null, .null, .null, .null, .null, .null, .null, .int 0, .null, .null, .null, .null, .null, .int 0, .int 0, .int 0, .int 0, .int 0, .int 0, .int 0, .int 0, .int 0, .null, .null, .null]))] sz) := by
  refine Met.ofW (cc := cX8_init) (maxL := 3) (ret := none) (by decide) rfl ?_
  intro p e s m args below meth c s₁ B hml hv
  obtain ⟨rfl, hsz, hP, hK, hD0⟩ := hv
  have hx := B.exec
  have hb := B.bytes
  have hr := B.returns
  have hts := atoms_spec (ws := ww_X8_init) B.pre
  have hown : s.vm.findClass RX8 = some m.cls := findClass_of_methodNamed B.named
  have hlocks := B.notSynchronized
  have hin : meth.name = "<init>" := (name_of_methodNamed B.named B.method).1
  subst hsz
  have hD := hD0.self (sz := s.heap.size)
  generalize hAe : va_A [(h0, .inr (8, [.int 0, .int 0, .int 0, .null, .null, .null, .null, .null, .null, .int 0, .null, .null, .null, .null, .null, .null, .null, .null, .null, .null, .null, .null, .int 0, .null, .null, .null, .null, .null, .int 0, .int 0, .int 0, .int 0, .int 0, .int 0, .int 0, .int 0, .int 0, .null, .null, .null]))] s.heap.size = A at hD ⊢
  have hA : ∀ q : Nat, s.heap.size ≤ q → A q := fun q h => by rw [← hAe]; exact Or.inr h
  have hS : va_S A s.heap s.heap [] := va_S.rf
  have hP : va_P (dC, dI) classes [(h0, .inr (8, [.int 0, .int 0, .int 0, .null, .null, .null, .null, .null, .null, .int 0, .null, .null, .null, .null, .null, .null, .null, .null, .null, .null, .null, .null, .int 0, .null, .null, .null, .null, .null, .int 0, .int 0, .int 0, .int 0, .int 0, .int 0, .int 0, .int 0, .int 0, .null, .null, .null]))] s.heap := hP
  have hl := lv_entry ([.ref h0, .int k1, .int k2]) (n := 3) (Nat.le_of_ble_eq_true rfl)
  rw [lg_entry_eq]
  generalize (lg_sl ([.ref h0, .int k1, .int k2]) ++ List.replicate (3 - (lg_sl ([.ref h0, .int k1, .int k2])).length) Slot.unset).toArray = ls at hl ⊢
  have hl : lv_has ls 3 [(0, .ref h0), (1, .int k1), (2, .int k2)] := hl
  generalize hHe : s.heap = H at hP ⊢
  have hS : va_S A s.heap H [] := by rw [← hHe]; exact va_S.rf
  refine lv_aload_n hx hb dX8_init_0 rfl (lv_at hl 0 rfl) ?_
  refine W.objInit hx hb hown (hts (.methodLink RX8 1 objectInit) (List.mem_of_getElem? (i := 1) rfl)) (hts (.instanceMethod objectInit) (List.mem_of_getElem? (i := 2) rfl)) (hts (.code objectInit ⟨#[0xb1]⟩ 1 none) (List.mem_of_getElem? (i := 3) rfl)) rfl (by rw [hml]; exact hl.1) rfl dX8_init_1 (Nat.le_of_ble_eq_true rfl) (Nat.le_of_ble_eq_true rfl) ?_
  refine W.eq (g2 := F0 m 4 ls []) rfl ?_
  refine lv_aload_n hx hb dX8_init_4 rfl (lv_at hl 0 rfl) ?_
  refine lv_bipush (v := 64) hx hb dX8_init_5 (by decide) ?_
  refine va_newa (atype := .int) (ty := .int) (a0 := (64, .inl (fun _ => 0))) hx hb (hts (.arrayClass .int) (List.mem_of_getElem? (i := 4) rfl)) rfl hK hP hD hS hA (fun _ => rfl) (by decide) (by decide) (by decide) (Nat.le_of_ble_eq_true rfl) (Nat.le_of_ble_eq_true rfl) dX8_init_7 (fun q245 cA246 H hK hP hD hS => ?_)
  have hK : va_K (dC, dI) classes [(cA246, .int)] s := hK
  have hP : va_P (dC, dI) classes [(h0, .inr (8, [.int 0, .int 0, .int 0, .null, .null, .null, .null, .null, .null, .int 0, .null, .null, .null, .null, .null, .null, .null, .null, .null, .null, .null, .null, .int 0, .null, .null, .null, .null, .null, .int 0, .int 0, .int 0, .int 0, .int 0, .int 0, .int 0, .int 0, .int 0, .null, .null, .null])), (q245, .inl (cA246, 64, .inl (fun _ => 0)))] H := hP
  have hD : va_D A [(h0, .inr (8, [.int 0, .int 0, .int 0, .null, .null, .null, .null, .null, .null, .int 0, .null, .null, .null, .null, .null, .null, .null, .null, .null, .null, .null, .null, .int 0, .null, .null, .null, .null, .null, .int 0, .int 0, .int 0, .int 0, .int 0, .int 0, .int 0, .int 0, .int 0, .null, .null, .null])), (q245, .inl (cA246, 64, .inl (fun _ => 0)))] := hD
  refine W.widen (k := 1) (n := 64) (Nat.le_of_ble_eq_true rfl) (Nat.le_of_ble_eq_true rfl) ?_
  refine lv_dup hx hb dX8_init_9 rfl ?_
  refine lv_iconst (v := 0) hx hb dX8_init_10 (by decide) ?_
  refine lv_ldc (v := 1116352408) hx hb hown (hts (.constant RX8 7 (1116352408)) (List.mem_of_getElem? (i := 5) rfl)) dX8_init_11 ?_
  refine vx_iast hx hb hK hP hD hS 1 0 rfl rfl (vx_in (by decide)) dX8_init_13 (fun H locs f247 hP hD hS => ?_)
  have hP : va_P (dC, dI) classes [(h0, .inr (8, [.int 0, .int 0, .int 0, .null, .null, .null, .null, .null, .null, .int 0, .null, .null, .null, .null, .null, .null, .null, .null, .null, .null, .null, .null, .int 0, .null, .null, .null, .null, .null, .int 0, .int 0, .int 0, .int 0, .int 0, .int 0, .int 0, .int 0, .int 0, .null, .null, .null])), (q245, .inl (cA246, 64, .inl f247))] H := hP
  have hD : va_D A [(h0, .inr (8, [.int 0, .int 0, .int 0, .null, .null, .null, .null, .null, .null, .int 0, .null, .null, .null, .null, .null, .null, .null, .null, .null, .null, .null, .null, .int 0, .null, .null, .null, .null, .null, .int 0, .int 0, .int 0, .int 0, .int 0, .int 0, .int 0, .int 0, .int 0, .null, .null, .null])), (q245, .inl (cA246, 64, .inl f247))] := hD
  refine lv_dup hx hb dX8_init_14 rfl ?_
  refine lv_iconst (v := 1) hx hb dX8_init_15 (by decide) ?_
  refine lv_ldc (v := 1899447441) hx hb hown (hts (.constant RX8 8 (1899447441)) (List.mem_of_getElem? (i := 6) rfl)) dX8_init_16 ?_
  refine vx_iast hx hb hK hP hD hS 1 0 rfl rfl (vx_in (by decide)) dX8_init_18 (fun H locs f248 hP hD hS => ?_)
  have hP : va_P (dC, dI) classes [(h0, .inr (8, [.int 0, .int 0, .int 0, .null, .null, .null, .null, .null, .null, .int 0, .null, .null, .null, .null, .null, .null, .null, .null, .null, .null, .null, .null, .int 0, .null, .null, .null, .null, .null, .int 0, .int 0, .int 0, .int 0, .int 0, .int 0, .int 0, .int 0, .int 0, .null, .null, .null])), (q245, .inl (cA246, 64, .inl f248))] H := hP
  have hD : va_D A [(h0, .inr (8, [.int 0, .int 0, .int 0, .null, .null, .null, .null, .null, .null, .int 0, .null, .null, .null, .null, .null, .null, .null, .null, .null, .null, .null, .null, .int 0, .null, .null, .null, .null, .null, .int 0, .int 0, .int 0, .int 0, .int 0, .int 0, .int 0, .int 0, .int 0, .null, .null, .null])), (q245, .inl (cA246, 64, .inl f248))] := hD
  refine lv_dup hx hb dX8_init_19 rfl ?_
  refine lv_iconst (v := 2) hx hb dX8_init_20 (by decide) ?_
  refine lv_ldc (v := (-1245643825)) hx hb hown (hts (.constant RX8 9 (-1245643825)) (List.mem_of_getElem? (i := 7) rfl)) dX8_init_21 ?_
  refine vx_iast hx hb hK hP hD hS 1 0 rfl rfl (vx_in (by decide)) dX8_init_23 (fun H locs f249 hP hD hS => ?_)
  have hP : va_P (dC, dI) classes [(h0, .inr (8, [.int 0, .int 0, .int 0, .null, .null, .null, .null, .null, .null, .int 0, .null, .null, .null, .null, .null, .null, .null, .null, .null, .null, .null, .null, .int 0, .null, .null, .null, .null, .null, .int 0, .int 0, .int 0, .int 0, .int 0, .int 0, .int 0, .int 0, .int 0, .null, .null, .null])), (q245, .inl (cA246, 64, .inl f249))] H := hP
  have hD : va_D A [(h0, .inr (8, [.int 0, .int 0, .int 0, .null, .null, .null, .null, .null, .null, .int 0, .null, .null, .null, .null, .null, .null, .null, .null, .null, .null, .null, .null, .int 0, .null, .null, .null, .null, .null, .int 0, .int 0, .int 0, .int 0, .int 0, .int 0, .int 0, .int 0, .int 0, .null, .null, .null])), (q245, .inl (cA246, 64, .inl f249))] := hD
  refine lv_dup hx hb dX8_init_24 rfl ?_
  refine lv_iconst (v := 3) hx hb dX8_init_25 (by decide) ?_
  refine lv_ldc (v := (-373957723)) hx hb hown (hts (.constant RX8 10 (-373957723)) (List.mem_of_getElem? (i := 8) rfl)) dX8_init_26 ?_
  refine vx_iast hx hb hK hP hD hS 1 0 rfl rfl (vx_in (by decide)) dX8_init_28 (fun H locs f250 hP hD hS => ?_)
  have hP : va_P (dC, dI) classes [(h0, .inr (8, [.int 0, .int 0, .int 0, .null, .null, .null, .null, .null, .null, .int 0, .null, .null, .null, .null, .null, .null, .null, .null, .null, .null, .null, .null, .int 0, .null, .null, .null, .null, .null, .int 0, .int 0, .int 0, .int 0, .int 0, .int 0, .int 0, .int 0, .int 0, .null, .null, .null])), (q245, .inl (cA246, 64, .inl f250))] H := hP
  have hD : va_D A [(h0, .inr (8, [.int 0, .int 0, .int 0, .null, .null, .null, .null, .null, .null, .int 0, .null, .null, .null, .null, .null, .null, .null, .null, .null, .null, .null, .null, .int 0, .null, .null, .null, .null, .null, .int 0, .int 0, .int 0, .int 0, .int 0, .int 0, .int 0, .int 0, .int 0, .null, .null, .null])), (q245, .inl (cA246, 64, .inl f250))] := hD
  refine lv_dup hx hb dX8_init_29 rfl ?_
  refine lv_iconst (v := 4) hx hb dX8_init_30 (by decide) ?_
  refine lv_ldc (v := 961987163) hx hb hown (hts (.constant RX8 11 (961987163)) (List.mem_of_getElem? (i := 9) rfl)) dX8_init_31 ?_
  refine vx_iast hx hb hK hP hD hS 1 0 rfl rfl (vx_in (by decide)) dX8_init_33 (fun H locs f251 hP hD hS => ?_)
  have hP : va_P (dC, dI) classes [(h0, .inr (8, [.int 0, .int 0, .int 0, .null, .null, .null, .null, .null, .null, .int 0, .null, .null, .null, .null, .null, .null, .null, .null, .null, .null, .null, .null, .int 0, .null, .null, .null, .null, .null, .int 0, .int 0, .int 0, .int 0, .int 0, .int 0, .int 0, .int 0, .int 0, .null, .null, .null])), (q245, .inl (cA246, 64, .inl f251))] H := hP
  have hD : va_D A [(h0, .inr (8, [.int 0, .int 0, .int 0, .null, .null, .null, .null, .null, .null, .int 0, .null, .null, .null, .null, .null, .null, .null, .null, .null, .null, .null, .null, .int 0, .null, .null, .null, .null, .null, .int 0, .int 0, .int 0, .int 0, .int 0, .int 0, .int 0, .int 0, .int 0, .null, .null, .null])), (q245, .inl (cA246, 64, .inl f251))] := hD
  refine lv_dup hx hb dX8_init_34 rfl ?_
  refine lv_iconst (v := 5) hx hb dX8_init_35 (by decide) ?_
  refine lv_ldc (v := 1508970993) hx hb hown (hts (.constant RX8 12 (1508970993)) (List.mem_of_getElem? (i := 10) rfl)) dX8_init_36 ?_
  refine vx_iast hx hb hK hP hD hS 1 0 rfl rfl (vx_in (by decide)) dX8_init_38 (fun H locs f252 hP hD hS => ?_)
  have hP : va_P (dC, dI) classes [(h0, .inr (8, [.int 0, .int 0, .int 0, .null, .null, .null, .null, .null, .null, .int 0, .null, .null, .null, .null, .null, .null, .null, .null, .null, .null, .null, .null, .int 0, .null, .null, .null, .null, .null, .int 0, .int 0, .int 0, .int 0, .int 0, .int 0, .int 0, .int 0, .int 0, .null, .null, .null])), (q245, .inl (cA246, 64, .inl f252))] H := hP
  have hD : va_D A [(h0, .inr (8, [.int 0, .int 0, .int 0, .null, .null, .null, .null, .null, .null, .int 0, .null, .null, .null, .null, .null, .null, .null, .null, .null, .null, .null, .null, .int 0, .null, .null, .null, .null, .null, .int 0, .int 0, .int 0, .int 0, .int 0, .int 0, .int 0, .int 0, .int 0, .null, .null, .null])), (q245, .inl (cA246, 64, .inl f252))] := hD
  refine lv_dup hx hb dX8_init_39 rfl ?_
  refine lv_bipush (v := 6) hx hb dX8_init_40 (by decide) ?_
  refine lv_ldc (v := (-1841331548)) hx hb hown (hts (.constant RX8 13 (-1841331548)) (List.mem_of_getElem? (i := 11) rfl)) dX8_init_42 ?_
  refine vx_iast hx hb hK hP hD hS 1 0 rfl rfl (vx_in (by decide)) dX8_init_44 (fun H locs f253 hP hD hS => ?_)
  have hP : va_P (dC, dI) classes [(h0, .inr (8, [.int 0, .int 0, .int 0, .null, .null, .null, .null, .null, .null, .int 0, .null, .null, .null, .null, .null, .null, .null, .null, .null, .null, .null, .null, .int 0, .null, .null, .null, .null, .null, .int 0, .int 0, .int 0, .int 0, .int 0, .int 0, .int 0, .int 0, .int 0, .null, .null, .null])), (q245, .inl (cA246, 64, .inl f253))] H := hP
  have hD : va_D A [(h0, .inr (8, [.int 0, .int 0, .int 0, .null, .null, .null, .null, .null, .null, .int 0, .null, .null, .null, .null, .null, .null, .null, .null, .null, .null, .null, .null, .int 0, .null, .null, .null, .null, .null, .int 0, .int 0, .int 0, .int 0, .int 0, .int 0, .int 0, .int 0, .int 0, .null, .null, .null])), (q245, .inl (cA246, 64, .inl f253))] := hD
  refine lv_dup hx hb dX8_init_45 rfl ?_
  refine lv_bipush (v := 7) hx hb dX8_init_46 (by decide) ?_
  refine lv_ldc (v := (-1424204075)) hx hb hown (hts (.constant RX8 14 (-1424204075)) (List.mem_of_getElem? (i := 12) rfl)) dX8_init_48 ?_
  refine vx_iast hx hb hK hP hD hS 1 0 rfl rfl (vx_in (by decide)) dX8_init_50 (fun H locs f254 hP hD hS => ?_)
  have hP : va_P (dC, dI) classes [(h0, .inr (8, [.int 0, .int 0, .int 0, .null, .null, .null, .null, .null, .null, .int 0, .null, .null, .null, .null, .null, .null, .null, .null, .null, .null, .null, .null, .int 0, .null, .null, .null, .null, .null, .int 0, .int 0, .int 0, .int 0, .int 0, .int 0, .int 0, .int 0, .int 0, .null, .null, .null])), (q245, .inl (cA246, 64, .inl f254))] H := hP
  have hD : va_D A [(h0, .inr (8, [.int 0, .int 0, .int 0, .null, .null, .null, .null, .null, .null, .int 0, .null, .null, .null, .null, .null, .null, .null, .null, .null, .null, .null, .null, .int 0, .null, .null, .null, .null, .null, .int 0, .int 0, .int 0, .int 0, .int 0, .int 0, .int 0, .int 0, .int 0, .null, .null, .null])), (q245, .inl (cA246, 64, .inl f254))] := hD
  refine lv_dup hx hb dX8_init_51 rfl ?_
  refine lv_bipush (v := 8) hx hb dX8_init_52 (by decide) ?_
  refine lv_ldc (v := (-670586216)) hx hb hown (hts (.constant RX8 15 (-670586216)) (List.mem_of_getElem? (i := 13) rfl)) dX8_init_54 ?_
  refine vx_iast hx hb hK hP hD hS 1 0 rfl rfl (vx_in (by decide)) dX8_init_56 (fun H locs f255 hP hD hS => ?_)
  have hP : va_P (dC, dI) classes [(h0, .inr (8, [.int 0, .int 0, .int 0, .null, .null, .null, .null, .null, .null, .int 0, .null, .null, .null, .null, .null, .null, .null, .null, .null, .null, .null, .null, .int 0, .null, .null, .null, .null, .null, .int 0, .int 0, .int 0, .int 0, .int 0, .int 0, .int 0, .int 0, .int 0, .null, .null, .null])), (q245, .inl (cA246, 64, .inl f255))] H := hP
  have hD : va_D A [(h0, .inr (8, [.int 0, .int 0, .int 0, .null, .null, .null, .null, .null, .null, .int 0, .null, .null, .null, .null, .null, .null, .null, .null, .null, .null, .null, .null, .int 0, .null, .null, .null, .null, .null, .int 0, .int 0, .int 0, .int 0, .int 0, .int 0, .int 0, .int 0, .int 0, .null, .null, .null])), (q245, .inl (cA246, 64, .inl f255))] := hD
  refine lv_dup hx hb dX8_init_57 rfl ?_
  refine lv_bipush (v := 9) hx hb dX8_init_58 (by decide) ?_
  refine lv_ldc (v := 310598401) hx hb hown (hts (.constant RX8 16 (310598401)) (List.mem_of_getElem? (i := 14) rfl)) dX8_init_60 ?_
  refine vx_iast hx hb hK hP hD hS 1 0 rfl rfl (vx_in (by decide)) dX8_init_62 (fun H locs f256 hP hD hS => ?_)
  have hP : va_P (dC, dI) classes [(h0, .inr (8, [.int 0, .int 0, .int 0, .null, .null, .null, .null, .null, .null, .int 0, .null, .null, .null, .null, .null, .null, .null, .null, .null, .null, .null, .null, .int 0, .null, .null, .null, .null, .null, .int 0, .int 0, .int 0, .int 0, .int 0, .int 0, .int 0, .int 0, .int 0, .null, .null, .null])), (q245, .inl (cA246, 64, .inl f256))] H := hP
  have hD : va_D A [(h0, .inr (8, [.int 0, .int 0, .int 0, .null, .null, .null, .null, .null, .null, .int 0, .null, .null, .null, .null, .null, .null, .null, .null, .null, .null, .null, .null, .int 0, .null, .null, .null, .null, .null, .int 0, .int 0, .int 0, .int 0, .int 0, .int 0, .int 0, .int 0, .int 0, .null, .null, .null])), (q245, .inl (cA246, 64, .inl f256))] := hD
  refine lv_dup hx hb dX8_init_63 rfl ?_
  refine lv_bipush (v := 10) hx hb dX8_init_64 (by decide) ?_
  refine lv_ldc (v := 607225278) hx hb hown (hts (.constant RX8 17 (607225278)) (List.mem_of_getElem? (i := 15) rfl)) dX8_init_66 ?_
  refine vx_iast hx hb hK hP hD hS 1 0 rfl rfl (vx_in (by decide)) dX8_init_68 (fun H locs f257 hP hD hS => ?_)
  have hP : va_P (dC, dI) classes [(h0, .inr (8, [.int 0, .int 0, .int 0, .null, .null, .null, .null, .null, .null, .int 0, .null, .null, .null, .null, .null, .null, .null, .null, .null, .null, .null, .null, .int 0, .null, .null, .null, .null, .null, .int 0, .int 0, .int 0, .int 0, .int 0, .int 0, .int 0, .int 0, .int 0, .null, .null, .null])), (q245, .inl (cA246, 64, .inl f257))] H := hP
  have hD : va_D A [(h0, .inr (8, [.int 0, .int 0, .int 0, .null, .null, .null, .null, .null, .null, .int 0, .null, .null, .null, .null, .null, .null, .null, .null, .null, .null, .null, .null, .int 0, .null, .null, .null, .null, .null, .int 0, .int 0, .int 0, .int 0, .int 0, .int 0, .int 0, .int 0, .int 0, .null, .null, .null])), (q245, .inl (cA246, 64, .inl f257))] := hD
  refine lv_dup hx hb dX8_init_69 rfl ?_
  refine lv_bipush (v := 11) hx hb dX8_init_70 (by decide) ?_
  refine lv_ldc (v := 1426881987) hx hb hown (hts (.constant RX8 18 (1426881987)) (List.mem_of_getElem? (i := 16) rfl)) dX8_init_72 ?_
  refine vx_iast hx hb hK hP hD hS 1 0 rfl rfl (vx_in (by decide)) dX8_init_74 (fun H locs f258 hP hD hS => ?_)
  have hP : va_P (dC, dI) classes [(h0, .inr (8, [.int 0, .int 0, .int 0, .null, .null, .null, .null, .null, .null, .int 0, .null, .null, .null, .null, .null, .null, .null, .null, .null, .null, .null, .null, .int 0, .null, .null, .null, .null, .null, .int 0, .int 0, .int 0, .int 0, .int 0, .int 0, .int 0, .int 0, .int 0, .null, .null, .null])), (q245, .inl (cA246, 64, .inl f258))] H := hP
  have hD : va_D A [(h0, .inr (8, [.int 0, .int 0, .int 0, .null, .null, .null, .null, .null, .null, .int 0, .null, .null, .null, .null, .null, .null, .null, .null, .null, .null, .null, .null, .int 0, .null, .null, .null, .null, .null, .int 0, .int 0, .int 0, .int 0, .int 0, .int 0, .int 0, .int 0, .int 0, .null, .null, .null])), (q245, .inl (cA246, 64, .inl f258))] := hD
  refine lv_dup hx hb dX8_init_75 rfl ?_
  refine lv_bipush (v := 12) hx hb dX8_init_76 (by decide) ?_
  refine lv_ldc (v := 1925078388) hx hb hown (hts (.constant RX8 19 (1925078388)) (List.mem_of_getElem? (i := 17) rfl)) dX8_init_78 ?_
  refine vx_iast hx hb hK hP hD hS 1 0 rfl rfl (vx_in (by decide)) dX8_init_80 (fun H locs f259 hP hD hS => ?_)
  have hP : va_P (dC, dI) classes [(h0, .inr (8, [.int 0, .int 0, .int 0, .null, .null, .null, .null, .null, .null, .int 0, .null, .null, .null, .null, .null, .null, .null, .null, .null, .null, .null, .null, .int 0, .null, .null, .null, .null, .null, .int 0, .int 0, .int 0, .int 0, .int 0, .int 0, .int 0, .int 0, .int 0, .null, .null, .null])), (q245, .inl (cA246, 64, .inl f259))] H := hP
  have hD : va_D A [(h0, .inr (8, [.int 0, .int 0, .int 0, .null, .null, .null, .null, .null, .null, .int 0, .null, .null, .null, .null, .null, .null, .null, .null, .null, .null, .null, .null, .int 0, .null, .null, .null, .null, .null, .int 0, .int 0, .int 0, .int 0, .int 0, .int 0, .int 0, .int 0, .int 0, .null, .null, .null])), (q245, .inl (cA246, 64, .inl f259))] := hD
  refine lv_dup hx hb dX8_init_81 rfl ?_
  refine lv_bipush (v := 13) hx hb dX8_init_82 (by decide) ?_
  refine lv_ldc (v := (-2132889090)) hx hb hown (hts (.constant RX8 20 (-2132889090)) (List.mem_of_getElem? (i := 18) rfl)) dX8_init_84 ?_
  refine vx_iast hx hb hK hP hD hS 1 0 rfl rfl (vx_in (by decide)) dX8_init_86 (fun H locs f260 hP hD hS => ?_)
  have hP : va_P (dC, dI) classes [(h0, .inr (8, [.int 0, .int 0, .int 0, .null, .null, .null, .null, .null, .null, .int 0, .null, .null, .null, .null, .null, .null, .null, .null, .null, .null, .null, .null, .int 0, .null, .null, .null, .null, .null, .int 0, .int 0, .int 0, .int 0, .int 0, .int 0, .int 0, .int 0, .int 0, .null, .null, .null])), (q245, .inl (cA246, 64, .inl f260))] H := hP
  have hD : va_D A [(h0, .inr (8, [.int 0, .int 0, .int 0, .null, .null, .null, .null, .null, .null, .int 0, .null, .null, .null, .null, .null, .null, .null, .null, .null, .null, .null, .null, .int 0, .null, .null, .null, .null, .null, .int 0, .int 0, .int 0, .int 0, .int 0, .int 0, .int 0, .int 0, .int 0, .null, .null, .null])), (q245, .inl (cA246, 64, .inl f260))] := hD
  refine lv_dup hx hb dX8_init_87 rfl ?_
  refine lv_bipush (v := 14) hx hb dX8_init_88 (by decide) ?_
  refine lv_ldc (v := (-1680079193)) hx hb hown (hts (.constant RX8 21 (-1680079193)) (List.mem_of_getElem? (i := 19) rfl)) dX8_init_90 ?_
  refine vx_iast hx hb hK hP hD hS 1 0 rfl rfl (vx_in (by decide)) dX8_init_92 (fun H locs f261 hP hD hS => ?_)
  have hP : va_P (dC, dI) classes [(h0, .inr (8, [.int 0, .int 0, .int 0, .null, .null, .null, .null, .null, .null, .int 0, .null, .null, .null, .null, .null, .null, .null, .null, .null, .null, .null, .null, .int 0, .null, .null, .null, .null, .null, .int 0, .int 0, .int 0, .int 0, .int 0, .int 0, .int 0, .int 0, .int 0, .null, .null, .null])), (q245, .inl (cA246, 64, .inl f261))] H := hP
  have hD : va_D A [(h0, .inr (8, [.int 0, .int 0, .int 0, .null, .null, .null, .null, .null, .null, .int 0, .null, .null, .null, .null, .null, .null, .null, .null, .null, .null, .null, .null, .int 0, .null, .null, .null, .null, .null, .int 0, .int 0, .int 0, .int 0, .int 0, .int 0, .int 0, .int 0, .int 0, .null, .null, .null])), (q245, .inl (cA246, 64, .inl f261))] := hD
  refine lv_dup hx hb dX8_init_93 rfl ?_
  refine lv_bipush (v := 15) hx hb dX8_init_94 (by decide) ?_
  refine lv_ldc (v := (-1046744716)) hx hb hown (hts (.constant RX8 22 (-1046744716)) (List.mem_of_getElem? (i := 20) rfl)) dX8_init_96 ?_
  refine vx_iast hx hb hK hP hD hS 1 0 rfl rfl (vx_in (by decide)) dX8_init_98 (fun H locs f262 hP hD hS => ?_)
  have hP : va_P (dC, dI) classes [(h0, .inr (8, [.int 0, .int 0, .int 0, .null, .null, .null, .null, .null, .null, .int 0, .null, .null, .null, .null, .null, .null, .null, .null, .null, .null, .null, .null, .int 0, .null, .null, .null, .null, .null, .int 0, .int 0, .int 0, .int 0, .int 0, .int 0, .int 0, .int 0, .int 0, .null, .null, .null])), (q245, .inl (cA246, 64, .inl f262))] H := hP
  have hD : va_D A [(h0, .inr (8, [.int 0, .int 0, .int 0, .null, .null, .null, .null, .null, .null, .int 0, .null, .null, .null, .null, .null, .null, .null, .null, .null, .null, .null, .null, .int 0, .null, .null, .null, .null, .null, .int 0, .int 0, .int 0, .int 0, .int 0, .int 0, .int 0, .int 0, .int 0, .null, .null, .null])), (q245, .inl (cA246, 64, .inl f262))] := hD
  refine lv_dup hx hb dX8_init_99 rfl ?_
  refine lv_bipush (v := 16) hx hb dX8_init_100 (by decide) ?_
  refine lv_ldc (v := (-459576895)) hx hb hown (hts (.constant RX8 23 (-459576895)) (List.mem_of_getElem? (i := 21) rfl)) dX8_init_102 ?_
  refine vx_iast hx hb hK hP hD hS 1 0 rfl rfl (vx_in (by decide)) dX8_init_104 (fun H locs f263 hP hD hS => ?_)
  have hP : va_P (dC, dI) classes [(h0, .inr (8, [.int 0, .int 0, .int 0, .null, .null, .null, .null, .null, .null, .int 0, .null, .null, .null, .null, .null, .null, .null, .null, .null, .null, .null, .null, .int 0, .null, .null, .null, .null, .null, .int 0, .int 0, .int 0, .int 0, .int 0, .int 0, .int 0, .int 0, .int 0, .null, .null, .null])), (q245, .inl (cA246, 64, .inl f263))] H := hP
  have hD : va_D A [(h0, .inr (8, [.int 0, .int 0, .int 0, .null, .null, .null, .null, .null, .null, .int 0, .null, .null, .null, .null, .null, .null, .null, .null, .null, .null, .null, .null, .int 0, .null, .null, .null, .null, .null, .int 0, .int 0, .int 0, .int 0, .int 0, .int 0, .int 0, .int 0, .int 0, .null, .null, .null])), (q245, .inl (cA246, 64, .inl f263))] := hD
  refine lv_dup hx hb dX8_init_105 rfl ?_
  refine lv_bipush (v := 17) hx hb dX8_init_106 (by decide) ?_
  refine lv_ldc (v := (-272742522)) hx hb hown (hts (.constant RX8 24 (-272742522)) (List.mem_of_getElem? (i := 22) rfl)) dX8_init_108 ?_
  refine vx_iast hx hb hK hP hD hS 1 0 rfl rfl (vx_in (by decide)) dX8_init_110 (fun H locs f264 hP hD hS => ?_)
  have hP : va_P (dC, dI) classes [(h0, .inr (8, [.int 0, .int 0, .int 0, .null, .null, .null, .null, .null, .null, .int 0, .null, .null, .null, .null, .null, .null, .null, .null, .null, .null, .null, .null, .int 0, .null, .null, .null, .null, .null, .int 0, .int 0, .int 0, .int 0, .int 0, .int 0, .int 0, .int 0, .int 0, .null, .null, .null])), (q245, .inl (cA246, 64, .inl f264))] H := hP
  have hD : va_D A [(h0, .inr (8, [.int 0, .int 0, .int 0, .null, .null, .null, .null, .null, .null, .int 0, .null, .null, .null, .null, .null, .null, .null, .null, .null, .null, .null, .null, .int 0, .null, .null, .null, .null, .null, .int 0, .int 0, .int 0, .int 0, .int 0, .int 0, .int 0, .int 0, .int 0, .null, .null, .null])), (q245, .inl (cA246, 64, .inl f264))] := hD
  refine lv_dup hx hb dX8_init_111 rfl ?_
  refine lv_bipush (v := 18) hx hb dX8_init_112 (by decide) ?_
  refine lv_ldc (v := 264347078) hx hb hown (hts (.constant RX8 25 (264347078)) (List.mem_of_getElem? (i := 23) rfl)) dX8_init_114 ?_
  refine vx_iast hx hb hK hP hD hS 1 0 rfl rfl (vx_in (by decide)) dX8_init_116 (fun H locs f265 hP hD hS => ?_)
  have hP : va_P (dC, dI) classes [(h0, .inr (8, [.int 0, .int 0, .int 0, .null, .null, .null, .null, .null, .null, .int 0, .null, .null, .null, .null, .null, .null, .null, .null, .null, .null, .null, .null, .int 0, .null, .null, .null, .null, .null, .int 0, .int 0, .int 0, .int 0, .int 0, .int 0, .int 0, .int 0, .int 0, .null, .null, .null])), (q245, .inl (cA246, 64, .inl f265))] H := hP
  have hD : va_D A [(h0, .inr (8, [.int 0, .int 0, .int 0, .null, .null, .null, .null, .null, .null, .int 0, .null, .null, .null, .null, .null, .null, .null, .null, .null, .null, .null, .null, .int 0, .null, .null, .null, .null, .null, .int 0, .int 0, .int 0, .int 0, .int 0, .int 0, .int 0, .int 0, .int 0, .null, .null, .null])), (q245, .inl (cA246, 64, .inl f265))] := hD
  refine lv_dup hx hb dX8_init_117 rfl ?_
  refine lv_bipush (v := 19) hx hb dX8_init_118 (by decide) ?_
  refine lv_ldc (v := 604807628) hx hb hown (hts (.constant RX8 26 (604807628)) (List.mem_of_getElem? (i := 24) rfl)) dX8_init_120 ?_
  refine vx_iast hx hb hK hP hD hS 1 0 rfl rfl (vx_in (by decide)) dX8_init_122 (fun H locs f266 hP hD hS => ?_)
  have hP : va_P (dC, dI) classes [(h0, .inr (8, [.int 0, .int 0, .int 0, .null, .null, .null, .null, .null, .null, .int 0, .null, .null, .null, .null, .null, .null, .null, .null, .null, .null, .null, .null, .int 0, .null, .null, .null, .null, .null, .int 0, .int 0, .int 0, .int 0, .int 0, .int 0, .int 0, .int 0, .int 0, .null, .null, .null])), (q245, .inl (cA246, 64, .inl f266))] H := hP
  have hD : va_D A [(h0, .inr (8, [.int 0, .int 0, .int 0, .null, .null, .null, .null, .null, .null, .int 0, .null, .null, .null, .null, .null, .null, .null, .null, .null, .null, .null, .null, .int 0, .null, .null, .null, .null, .null, .int 0, .int 0, .int 0, .int 0, .int 0, .int 0, .int 0, .int 0, .int 0, .null, .null, .null])), (q245, .inl (cA246, 64, .inl f266))] := hD
  refine lv_dup hx hb dX8_init_123 rfl ?_
  refine lv_bipush (v := 20) hx hb dX8_init_124 (by decide) ?_
  refine lv_ldc (v := 770255983) hx hb hown (hts (.constant RX8 27 (770255983)) (List.mem_of_getElem? (i := 25) rfl)) dX8_init_126 ?_
  refine vx_iast hx hb hK hP hD hS 1 0 rfl rfl (vx_in (by decide)) dX8_init_128 (fun H locs f267 hP hD hS => ?_)
  have hP : va_P (dC, dI) classes [(h0, .inr (8, [.int 0, .int 0, .int 0, .null, .null, .null, .null, .null, .null, .int 0, .null, .null, .null, .null, .null, .null, .null, .null, .null, .null, .null, .null, .int 0, .null, .null, .null, .null, .null, .int 0, .int 0, .int 0, .int 0, .int 0, .int 0, .int 0, .int 0, .int 0, .null, .null, .null])), (q245, .inl (cA246, 64, .inl f267))] H := hP
  have hD : va_D A [(h0, .inr (8, [.int 0, .int 0, .int 0, .null, .null, .null, .null, .null, .null, .int 0, .null, .null, .null, .null, .null, .null, .null, .null, .null, .null, .null, .null, .int 0, .null, .null, .null, .null, .null, .int 0, .int 0, .int 0, .int 0, .int 0, .int 0, .int 0, .int 0, .int 0, .null, .null, .null])), (q245, .inl (cA246, 64, .inl f267))] := hD
  refine lv_dup hx hb dX8_init_129 rfl ?_
  refine lv_bipush (v := 21) hx hb dX8_init_130 (by decide) ?_
  refine lv_ldc (v := 1249150122) hx hb hown (hts (.constant RX8 28 (1249150122)) (List.mem_of_getElem? (i := 26) rfl)) dX8_init_132 ?_
  refine vx_iast hx hb hK hP hD hS 1 0 rfl rfl (vx_in (by decide)) dX8_init_134 (fun H locs f268 hP hD hS => ?_)
  have hP : va_P (dC, dI) classes [(h0, .inr (8, [.int 0, .int 0, .int 0, .null, .null, .null, .null, .null, .null, .int 0, .null, .null, .null, .null, .null, .null, .null, .null, .null, .null, .null, .null, .int 0, .null, .null, .null, .null, .null, .int 0, .int 0, .int 0, .int 0, .int 0, .int 0, .int 0, .int 0, .int 0, .null, .null, .null])), (q245, .inl (cA246, 64, .inl f268))] H := hP
  have hD : va_D A [(h0, .inr (8, [.int 0, .int 0, .int 0, .null, .null, .null, .null, .null, .null, .int 0, .null, .null, .null, .null, .null, .null, .null, .null, .null, .null, .null, .null, .int 0, .null, .null, .null, .null, .null, .int 0, .int 0, .int 0, .int 0, .int 0, .int 0, .int 0, .int 0, .int 0, .null, .null, .null])), (q245, .inl (cA246, 64, .inl f268))] := hD
  refine lv_dup hx hb dX8_init_135 rfl ?_
  refine lv_bipush (v := 22) hx hb dX8_init_136 (by decide) ?_
  refine lv_ldc (v := 1555081692) hx hb hown (hts (.constant RX8 29 (1555081692)) (List.mem_of_getElem? (i := 27) rfl)) dX8_init_138 ?_
  refine vx_iast hx hb hK hP hD hS 1 0 rfl rfl (vx_in (by decide)) dX8_init_140 (fun H locs f269 hP hD hS => ?_)
  have hP : va_P (dC, dI) classes [(h0, .inr (8, [.int 0, .int 0, .int 0, .null, .null, .null, .null, .null, .null, .int 0, .null, .null, .null, .null, .null, .null, .null, .null, .null, .null, .null, .null, .int 0, .null, .null, .null, .null, .null, .int 0, .int 0, .int 0, .int 0, .int 0, .int 0, .int 0, .int 0, .int 0, .null, .null, .null])), (q245, .inl (cA246, 64, .inl f269))] H := hP
  have hD : va_D A [(h0, .inr (8, [.int 0, .int 0, .int 0, .null, .null, .null, .null, .null, .null, .int 0, .null, .null, .null, .null, .null, .null, .null, .null, .null, .null, .null, .null, .int 0, .null, .null, .null, .null, .null, .int 0, .int 0, .int 0, .int 0, .int 0, .int 0, .int 0, .int 0, .int 0, .null, .null, .null])), (q245, .inl (cA246, 64, .inl f269))] := hD
  refine lv_dup hx hb dX8_init_141 rfl ?_
  refine lv_bipush (v := 23) hx hb dX8_init_142 (by decide) ?_
  refine lv_ldc (v := 1996064986) hx hb hown (hts (.constant RX8 30 (1996064986)) (List.mem_of_getElem? (i := 28) rfl)) dX8_init_144 ?_
  refine vx_iast hx hb hK hP hD hS 1 0 rfl rfl (vx_in (by decide)) dX8_init_146 (fun H locs f270 hP hD hS => ?_)
  have hP : va_P (dC, dI) classes [(h0, .inr (8, [.int 0, .int 0, .int 0, .null, .null, .null, .null, .null, .null, .int 0, .null, .null, .null, .null, .null, .null, .null, .null, .null, .null, .null, .null, .int 0, .null, .null, .null, .null, .null, .int 0, .int 0, .int 0, .int 0, .int 0, .int 0, .int 0, .int 0, .int 0, .null, .null, .null])), (q245, .inl (cA246, 64, .inl f270))] H := hP
  have hD : va_D A [(h0, .inr (8, [.int 0, .int 0, .int 0, .null, .null, .null, .null, .null, .null, .int 0, .null, .null, .null, .null, .null, .null, .null, .null, .null, .null, .null, .null, .int 0, .null, .null, .null, .null, .null, .int 0, .int 0, .int 0, .int 0, .int 0, .int 0, .int 0, .int 0, .int 0, .null, .null, .null])), (q245, .inl (cA246, 64, .inl f270))] := hD
  refine lv_dup hx hb dX8_init_147 rfl ?_
  refine lv_bipush (v := 24) hx hb dX8_init_148 (by decide) ?_
  refine lv_ldc (v := (-1740746414)) hx hb hown (hts (.constant RX8 31 (-1740746414)) (List.mem_of_getElem? (i := 29) rfl)) dX8_init_150 ?_
  refine vx_iast hx hb hK hP hD hS 1 0 rfl rfl (vx_in (by decide)) dX8_init_152 (fun H locs f271 hP hD hS => ?_)
  have hP : va_P (dC, dI) classes [(h0, .inr (8, [.int 0, .int 0, .int 0, .null, .null, .null, .null, .null, .null, .int 0, .null, .null, .null, .null, .null, .null, .null, .null, .null, .null, .null, .null, .int 0, .null, .null, .null, .null, .null, .int 0, .int 0, .int 0, .int 0, .int 0, .int 0, .int 0, .int 0, .int 0, .null, .null, .null])), (q245, .inl (cA246, 64, .inl f271))] H := hP
  have hD : va_D A [(h0, .inr (8, [.int 0, .int 0, .int 0, .null, .null, .null, .null, .null, .null, .int 0, .null, .null, .null, .null, .null, .null, .null, .null, .null, .null, .null, .null, .int 0, .null, .null, .null, .null, .null, .int 0, .int 0, .int 0, .int 0, .int 0, .int 0, .int 0, .int 0, .int 0, .null, .null, .null])), (q245, .inl (cA246, 64, .inl f271))] := hD
  refine lv_dup hx hb dX8_init_153 rfl ?_
  refine lv_bipush (v := 25) hx hb dX8_init_154 (by decide) ?_
  refine lv_ldc (v := (-1473132947)) hx hb hown (hts (.constant RX8 32 (-1473132947)) (List.mem_of_getElem? (i := 30) rfl)) dX8_init_156 ?_
  refine vx_iast hx hb hK hP hD hS 1 0 rfl rfl (vx_in (by decide)) dX8_init_158 (fun H locs f272 hP hD hS => ?_)
  have hP : va_P (dC, dI) classes [(h0, .inr (8, [.int 0, .int 0, .int 0, .null, .null, .null, .null, .null, .null, .int 0, .null, .null, .null, .null, .null, .null, .null, .null, .null, .null, .null, .null, .int 0, .null, .null, .null, .null, .null, .int 0, .int 0, .int 0, .int 0, .int 0, .int 0, .int 0, .int 0, .int 0, .null, .null, .null])), (q245, .inl (cA246, 64, .inl f272))] H := hP
  have hD : va_D A [(h0, .inr (8, [.int 0, .int 0, .int 0, .null, .null, .null, .null, .null, .null, .int 0, .null, .null, .null, .null, .null, .null, .null, .null, .null, .null, .null, .null, .int 0, .null, .null, .null, .null, .null, .int 0, .int 0, .int 0, .int 0, .int 0, .int 0, .int 0, .int 0, .int 0, .null, .null, .null])), (q245, .inl (cA246, 64, .inl f272))] := hD
  refine lv_dup hx hb dX8_init_159 rfl ?_
  refine lv_bipush (v := 26) hx hb dX8_init_160 (by decide) ?_
  refine lv_ldc (v := (-1341970488)) hx hb hown (hts (.constant RX8 33 (-1341970488)) (List.mem_of_getElem? (i := 31) rfl)) dX8_init_162 ?_
  refine vx_iast hx hb hK hP hD hS 1 0 rfl rfl (vx_in (by decide)) dX8_init_164 (fun H locs f273 hP hD hS => ?_)
  have hP : va_P (dC, dI) classes [(h0, .inr (8, [.int 0, .int 0, .int 0, .null, .null, .null, .null, .null, .null, .int 0, .null, .null, .null, .null, .null, .null, .null, .null, .null, .null, .null, .null, .int 0, .null, .null, .null, .null, .null, .int 0, .int 0, .int 0, .int 0, .int 0, .int 0, .int 0, .int 0, .int 0, .null, .null, .null])), (q245, .inl (cA246, 64, .inl f273))] H := hP
  have hD : va_D A [(h0, .inr (8, [.int 0, .int 0, .int 0, .null, .null, .null, .null, .null, .null, .int 0, .null, .null, .null, .null, .null, .null, .null, .null, .null, .null, .null, .null, .int 0, .null, .null, .null, .null, .null, .int 0, .int 0, .int 0, .int 0, .int 0, .int 0, .int 0, .int 0, .int 0, .null, .null, .null])), (q245, .inl (cA246, 64, .inl f273))] := hD
  refine lv_dup hx hb dX8_init_165 rfl ?_
  refine lv_bipush (v := 27) hx hb dX8_init_166 (by decide) ?_
  refine lv_ldc (v := (-1084653625)) hx hb hown (hts (.constant RX8 34 (-1084653625)) (List.mem_of_getElem? (i := 32) rfl)) dX8_init_168 ?_
  refine vx_iast hx hb hK hP hD hS 1 0 rfl rfl (vx_in (by decide)) dX8_init_170 (fun H locs f274 hP hD hS => ?_)
  have hP : va_P (dC, dI) classes [(h0, .inr (8, [.int 0, .int 0, .int 0, .null, .null, .null, .null, .null, .null, .int 0, .null, .null, .null, .null, .null, .null, .null, .null, .null, .null, .null, .null, .int 0, .null, .null, .null, .null, .null, .int 0, .int 0, .int 0, .int 0, .int 0, .int 0, .int 0, .int 0, .int 0, .null, .null, .null])), (q245, .inl (cA246, 64, .inl f274))] H := hP
  have hD : va_D A [(h0, .inr (8, [.int 0, .int 0, .int 0, .null, .null, .null, .null, .null, .null, .int 0, .null, .null, .null, .null, .null, .null, .null, .null, .null, .null, .null, .null, .int 0, .null, .null, .null, .null, .null, .int 0, .int 0, .int 0, .int 0, .int 0, .int 0, .int 0, .int 0, .int 0, .null, .null, .null])), (q245, .inl (cA246, 64, .inl f274))] := hD
  refine lv_dup hx hb dX8_init_171 rfl ?_
  refine lv_bipush (v := 28) hx hb dX8_init_172 (by decide) ?_
  refine lv_ldc (v := (-958395405)) hx hb hown (hts (.constant RX8 35 (-958395405)) (List.mem_of_getElem? (i := 33) rfl)) dX8_init_174 ?_
  refine vx_iast hx hb hK hP hD hS 1 0 rfl rfl (vx_in (by decide)) dX8_init_176 (fun H locs f275 hP hD hS => ?_)
  have hP : va_P (dC, dI) classes [(h0, .inr (8, [.int 0, .int 0, .int 0, .null, .null, .null, .null, .null, .null, .int 0, .null, .null, .null, .null, .null, .null, .null, .null, .null, .null, .null, .null, .int 0, .null, .null, .null, .null, .null, .int 0, .int 0, .int 0, .int 0, .int 0, .int 0, .int 0, .int 0, .int 0, .null, .null, .null])), (q245, .inl (cA246, 64, .inl f275))] H := hP
  have hD : va_D A [(h0, .inr (8, [.int 0, .int 0, .int 0, .null, .null, .null, .null, .null, .null, .int 0, .null, .null, .null, .null, .null, .null, .null, .null, .null, .null, .null, .null, .int 0, .null, .null, .null, .null, .null, .int 0, .int 0, .int 0, .int 0, .int 0, .int 0, .int 0, .int 0, .int 0, .null, .null, .null])), (q245, .inl (cA246, 64, .inl f275))] := hD
  refine lv_dup hx hb dX8_init_177 rfl ?_
  refine lv_bipush (v := 29) hx hb dX8_init_178 (by decide) ?_
  refine lv_ldc (v := (-710438585)) hx hb hown (hts (.constant RX8 36 (-710438585)) (List.mem_of_getElem? (i := 34) rfl)) dX8_init_180 ?_
  refine vx_iast hx hb hK hP hD hS 1 0 rfl rfl (vx_in (by decide)) dX8_init_182 (fun H locs f276 hP hD hS => ?_)
  have hP : va_P (dC, dI) classes [(h0, .inr (8, [.int 0, .int 0, .int 0, .null, .null, .null, .null, .null, .null, .int 0, .null, .null, .null, .null, .null, .null, .null, .null, .null, .null, .null, .null, .int 0, .null, .null, .null, .null, .null, .int 0, .int 0, .int 0, .int 0, .int 0, .int 0, .int 0, .int 0, .int 0, .null, .null, .null])), (q245, .inl (cA246, 64, .inl f276))] H := hP
  have hD : va_D A [(h0, .inr (8, [.int 0, .int 0, .int 0, .null, .null, .null, .null, .null, .null, .int 0, .null, .null, .null, .null, .null, .null, .null, .null, .null, .null, .null, .null, .int 0, .null, .null, .null, .null, .null, .int 0, .int 0, .int 0, .int 0, .int 0, .int 0, .int 0, .int 0, .int 0, .null, .null, .null])), (q245, .inl (cA246, 64, .inl f276))] := hD
  refine lv_dup hx hb dX8_init_183 rfl ?_
  refine lv_bipush (v := 30) hx hb dX8_init_184 (by decide) ?_
  refine lv_ldc (v := 113926993) hx hb hown (hts (.constant RX8 37 (113926993)) (List.mem_of_getElem? (i := 35) rfl)) dX8_init_186 ?_
  refine vx_iast hx hb hK hP hD hS 1 0 rfl rfl (vx_in (by decide)) dX8_init_188 (fun H locs f277 hP hD hS => ?_)
  have hP : va_P (dC, dI) classes [(h0, .inr (8, [.int 0, .int 0, .int 0, .null, .null, .null, .null, .null, .null, .int 0, .null, .null, .null, .null, .null, .null, .null, .null, .null, .null, .null, .null, .int 0, .null, .null, .null, .null, .null, .int 0, .int 0, .int 0, .int 0, .int 0, .int 0, .int 0, .int 0, .int 0, .null, .null, .null])), (q245, .inl (cA246, 64, .inl f277))] H := hP
  have hD : va_D A [(h0, .inr (8, [.int 0, .int 0, .int 0, .null, .null, .null, .null, .null, .null, .int 0, .null, .null, .null, .null, .null, .null, .null, .null, .null, .null, .null, .null, .int 0, .null, .null, .null, .null, .null, .int 0, .int 0, .int 0, .int 0, .int 0, .int 0, .int 0, .int 0, .int 0, .null, .null, .null])), (q245, .inl (cA246, 64, .inl f277))] := hD
  refine lv_dup hx hb dX8_init_189 rfl ?_
  refine lv_bipush (v := 31) hx hb dX8_init_190 (by decide) ?_
  refine lv_ldc (v := 338241895) hx hb hown (hts (.constant RX8 38 (338241895)) (List.mem_of_getElem? (i := 36) rfl)) dX8_init_192 ?_
  refine vx_iast hx hb hK hP hD hS 1 0 rfl rfl (vx_in (by decide)) dX8_init_194 (fun H locs f278 hP hD hS => ?_)
  have hP : va_P (dC, dI) classes [(h0, .inr (8, [.int 0, .int 0, .int 0, .null, .null, .null, .null, .null, .null, .int 0, .null, .null, .null, .null, .null, .null, .null, .null, .null, .null, .null, .null, .int 0, .null, .null, .null, .null, .null, .int 0, .int 0, .int 0, .int 0, .int 0, .int 0, .int 0, .int 0, .int 0, .null, .null, .null])), (q245, .inl (cA246, 64, .inl f278))] H := hP
  have hD : va_D A [(h0, .inr (8, [.int 0, .int 0, .int 0, .null, .null, .null, .null, .null, .null, .int 0, .null, .null, .null, .null, .null, .null, .null, .null, .null, .null, .null, .null, .int 0, .null, .null, .null, .null, .null, .int 0, .int 0, .int 0, .int 0, .int 0, .int 0, .int 0, .int 0, .int 0, .null, .null, .null])), (q245, .inl (cA246, 64, .inl f278))] := hD
  refine lv_dup hx hb dX8_init_195 rfl ?_
  refine lv_bipush (v := 32) hx hb dX8_init_196 (by decide) ?_
  refine lv_ldc (v := 666307205) hx hb hown (hts (.constant RX8 39 (666307205)) (List.mem_of_getElem? (i := 37) rfl)) dX8_init_198 ?_
  refine vx_iast hx hb hK hP hD hS 1 0 rfl rfl (vx_in (by decide)) dX8_init_200 (fun H locs f279 hP hD hS => ?_)
  have hP : va_P (dC, dI) classes [(h0, .inr (8, [.int 0, .int 0, .int 0, .null, .null, .null, .null, .null, .null, .int 0, .null, .null, .null, .null, .null, .null, .null, .null, .null, .null, .null, .null, .int 0, .null, .null, .null, .null, .null, .int 0, .int 0, .int 0, .int 0, .int 0, .int 0, .int 0, .int 0, .int 0, .null, .null, .null])), (q245, .inl (cA246, 64, .inl f279))] H := hP
  have hD : va_D A [(h0, .inr (8, [.int 0, .int 0, .int 0, .null, .null, .null, .null, .null, .null, .int 0, .null, .null, .null, .null, .null, .null, .null, .null, .null, .null, .null, .null, .int 0, .null, .null, .null, .null, .null, .int 0, .int 0, .int 0, .int 0, .int 0, .int 0, .int 0, .int 0, .int 0, .null, .null, .null])), (q245, .inl (cA246, 64, .inl f279))] := hD
  refine lv_dup hx hb dX8_init_201 rfl ?_
  refine lv_bipush (v := 33) hx hb dX8_init_202 (by decide) ?_
  refine lv_ldc (v := 773529912) hx hb hown (hts (.constant RX8 40 (773529912)) (List.mem_of_getElem? (i := 38) rfl)) dX8_init_204 ?_
  refine vx_iast hx hb hK hP hD hS 1 0 rfl rfl (vx_in (by decide)) dX8_init_206 (fun H locs f280 hP hD hS => ?_)
  have hP : va_P (dC, dI) classes [(h0, .inr (8, [.int 0, .int 0, .int 0, .null, .null, .null, .null, .null, .null, .int 0, .null, .null, .null, .null, .null, .null, .null, .null, .null, .null, .null, .null, .int 0, .null, .null, .null, .null, .null, .int 0, .int 0, .int 0, .int 0, .int 0, .int 0, .int 0, .int 0, .int 0, .null, .null, .null])), (q245, .inl (cA246, 64, .inl f280))] H := hP
  have hD : va_D A [(h0, .inr (8, [.int 0, .int 0, .int 0, .null, .null, .null, .null, .null, .null, .int 0, .null, .null, .null, .null, .null, .null, .null, .null, .null, .null, .null, .null, .int 0, .null, .null, .null, .null, .null, .int 0, .int 0, .int 0, .int 0, .int 0, .int 0, .int 0, .int 0, .int 0, .null, .null, .null])), (q245, .inl (cA246, 64, .inl f280))] := hD
  refine lv_dup hx hb dX8_init_207 rfl ?_
  refine lv_bipush (v := 34) hx hb dX8_init_208 (by decide) ?_
  refine lv_ldc (v := 1294757372) hx hb hown (hts (.constant RX8 41 (1294757372)) (List.mem_of_getElem? (i := 39) rfl)) dX8_init_210 ?_
  refine vx_iast hx hb hK hP hD hS 1 0 rfl rfl (vx_in (by decide)) dX8_init_212 (fun H locs f281 hP hD hS => ?_)
  have hP : va_P (dC, dI) classes [(h0, .inr (8, [.int 0, .int 0, .int 0, .null, .null, .null, .null, .null, .null, .int 0, .null, .null, .null, .null, .null, .null, .null, .null, .null, .null, .null, .null, .int 0, .null, .null, .null, .null, .null, .int 0, .int 0, .int 0, .int 0, .int 0, .int 0, .int 0, .int 0, .int 0, .null, .null, .null])), (q245, .inl (cA246, 64, .inl f281))] H := hP
  have hD : va_D A [(h0, .inr (8, [.int 0, .int 0, .int 0, .null, .null, .null, .null, .null, .null, .int 0, .null, .null, .null, .null, .null, .null, .null, .null, .null, .null, .null, .null, .int 0, .null, .null, .null, .null, .null, .int 0, .int 0, .int 0, .int 0, .int 0, .int 0, .int 0, .int 0, .int 0, .null, .null, .null])), (q245, .inl (cA246, 64, .inl f281))] := hD
  refine lv_dup hx hb dX8_init_213 rfl ?_
  refine lv_bipush (v := 35) hx hb dX8_init_214 (by decide) ?_
  refine lv_ldc (v := 1396182291) hx hb hown (hts (.constant RX8 42 (1396182291)) (List.mem_of_getElem? (i := 40) rfl)) dX8_init_216 ?_
  refine vx_iast hx hb hK hP hD hS 1 0 rfl rfl (vx_in (by decide)) dX8_init_218 (fun H locs f282 hP hD hS => ?_)
  have hP : va_P (dC, dI) classes [(h0, .inr (8, [.int 0, .int 0, .int 0, .null, .null, .null, .null, .null, .null, .int 0, .null, .null, .null, .null, .null, .null, .null, .null, .null, .null, .null, .null, .int 0, .null, .null, .null, .null, .null, .int 0, .int 0, .int 0, .int 0, .int 0, .int 0, .int 0, .int 0, .int 0, .null, .null, .null])), (q245, .inl (cA246, 64, .inl f282))] H := hP
  have hD : va_D A [(h0, .inr (8, [.int 0, .int 0, .int 0, .null, .null, .null, .null, .null, .null, .int 0, .null, .null, .null, .null, .null, .null, .null, .null, .null, .null, .null, .null, .int 0, .null, .null, .null, .null, .null, .int 0, .int 0, .int 0, .int 0, .int 0, .int 0, .int 0, .int 0, .int 0, .null, .null, .null])), (q245, .inl (cA246, 64, .inl f282))] := hD
  refine lv_dup hx hb dX8_init_219 rfl ?_
  refine lv_bipush (v := 36) hx hb dX8_init_220 (by decide) ?_
  refine lv_ldc (v := 1695183700) hx hb hown (hts (.constant RX8 43 (1695183700)) (List.mem_of_getElem? (i := 41) rfl)) dX8_init_222 ?_
  refine vx_iast hx hb hK hP hD hS 1 0 rfl rfl (vx_in (by decide)) dX8_init_224 (fun H locs f283 hP hD hS => ?_)
  have hP : va_P (dC, dI) classes [(h0, .inr (8, [.int 0, .int 0, .int 0, .null, .null, .null, .null, .null, .null, .int 0, .null, .null, .null, .null, .null, .null, .null, .null, .null, .null, .null, .null, .int 0, .null, .null, .null, .null, .null, .int 0, .int 0, .int 0, .int 0, .int 0, .int 0, .int 0, .int 0, .int 0, .null, .null, .null])), (q245, .inl (cA246, 64, .inl f283))] H := hP
  have hD : va_D A [(h0, .inr (8, [.int 0, .int 0, .int 0, .null, .null, .null, .null, .null, .null, .int 0, .null, .null, .null, .null, .null, .null, .null, .null, .null, .null, .null, .null, .int 0, .null, .null, .null, .null, .null, .int 0, .int 0, .int 0, .int 0, .int 0, .int 0, .int 0, .int 0, .int 0, .null, .null, .null])), (q245, .inl (cA246, 64, .inl f283))] := hD
  refine lv_dup hx hb dX8_init_225 rfl ?_
  refine lv_bipush (v := 37) hx hb dX8_init_226 (by decide) ?_
  refine lv_ldc (v := 1986661051) hx hb hown (hts (.constant RX8 44 (1986661051)) (List.mem_of_getElem? (i := 42) rfl)) dX8_init_228 ?_
  refine vx_iast hx hb hK hP hD hS 1 0 rfl rfl (vx_in (by decide)) dX8_init_230 (fun H locs f284 hP hD hS => ?_)
  have hP : va_P (dC, dI) classes [(h0, .inr (8, [.int 0, .int 0, .int 0, .null, .null, .null, .null, .null, .null, .int 0, .null, .null, .null, .null, .null, .null, .null, .null, .null, .null, .null, .null, .int 0, .null, .null, .null, .null, .null, .int 0, .int 0, .int 0, .int 0, .int 0, .int 0, .int 0, .int 0, .int 0, .null, .null, .null])), (q245, .inl (cA246, 64, .inl f284))] H := hP
  have hD : va_D A [(h0, .inr (8, [.int 0, .int 0, .int 0, .null, .null, .null, .null, .null, .null, .int 0, .null, .null, .null, .null, .null, .null, .null, .null, .null, .null, .null, .null, .int 0, .null, .null, .null, .null, .null, .int 0, .int 0, .int 0, .int 0, .int 0, .int 0, .int 0, .int 0, .int 0, .null, .null, .null])), (q245, .inl (cA246, 64, .inl f284))] := hD
  refine lv_dup hx hb dX8_init_231 rfl ?_
  refine lv_bipush (v := 38) hx hb dX8_init_232 (by decide) ?_
  refine lv_ldc (v := (-2117940946)) hx hb hown (hts (.constant RX8 45 (-2117940946)) (List.mem_of_getElem? (i := 43) rfl)) dX8_init_234 ?_
  refine vx_iast hx hb hK hP hD hS 1 0 rfl rfl (vx_in (by decide)) dX8_init_236 (fun H locs f285 hP hD hS => ?_)
  have hP : va_P (dC, dI) classes [(h0, .inr (8, [.int 0, .int 0, .int 0, .null, .null, .null, .null, .null, .null, .int 0, .null, .null, .null, .null, .null, .null, .null, .null, .null, .null, .null, .null, .int 0, .null, .null, .null, .null, .null, .int 0, .int 0, .int 0, .int 0, .int 0, .int 0, .int 0, .int 0, .int 0, .null, .null, .null])), (q245, .inl (cA246, 64, .inl f285))] H := hP
  have hD : va_D A [(h0, .inr (8, [.int 0, .int 0, .int 0, .null, .null, .null, .null, .null, .null, .int 0, .null, .null, .null, .null, .null, .null, .null, .null, .null, .null, .null, .null, .int 0, .null, .null, .null, .null, .null, .int 0, .int 0, .int 0, .int 0, .int 0, .int 0, .int 0, .int 0, .int 0, .null, .null, .null])), (q245, .inl (cA246, 64, .inl f285))] := hD
  refine lv_dup hx hb dX8_init_237 rfl ?_
  refine lv_bipush (v := 39) hx hb dX8_init_238 (by decide) ?_
  refine lv_ldc (v := (-1838011259)) hx hb hown (hts (.constant RX8 46 (-1838011259)) (List.mem_of_getElem? (i := 44) rfl)) dX8_init_240 ?_
  refine vx_iast hx hb hK hP hD hS 1 0 rfl rfl (vx_in (by decide)) dX8_init_242 (fun H locs f286 hP hD hS => ?_)
  have hP : va_P (dC, dI) classes [(h0, .inr (8, [.int 0, .int 0, .int 0, .null, .null, .null, .null, .null, .null, .int 0, .null, .null, .null, .null, .null, .null, .null, .null, .null, .null, .null, .null, .int 0, .null, .null, .null, .null, .null, .int 0, .int 0, .int 0, .int 0, .int 0, .int 0, .int 0, .int 0, .int 0, .null, .null, .null])), (q245, .inl (cA246, 64, .inl f286))] H := hP
  have hD : va_D A [(h0, .inr (8, [.int 0, .int 0, .int 0, .null, .null, .null, .null, .null, .null, .int 0, .null, .null, .null, .null, .null, .null, .null, .null, .null, .null, .null, .null, .int 0, .null, .null, .null, .null, .null, .int 0, .int 0, .int 0, .int 0, .int 0, .int 0, .int 0, .int 0, .int 0, .null, .null, .null])), (q245, .inl (cA246, 64, .inl f286))] := hD
  refine lv_dup hx hb dX8_init_243 rfl ?_
  refine lv_bipush (v := 40) hx hb dX8_init_244 (by decide) ?_
  refine lv_ldc (v := (-1564481375)) hx hb hown (hts (.constant RX8 47 (-1564481375)) (List.mem_of_getElem? (i := 45) rfl)) dX8_init_246 ?_
  refine vx_iast hx hb hK hP hD hS 1 0 rfl rfl (vx_in (by decide)) dX8_init_248 (fun H locs f287 hP hD hS => ?_)
  have hP : va_P (dC, dI) classes [(h0, .inr (8, [.int 0, .int 0, .int 0, .null, .null, .null, .null, .null, .null, .int 0, .null, .null, .null, .null, .null, .null, .null, .null, .null, .null, .null, .null, .int 0, .null, .null, .null, .null, .null, .int 0, .int 0, .int 0, .int 0, .int 0, .int 0, .int 0, .int 0, .int 0, .null, .null, .null])), (q245, .inl (cA246, 64, .inl f287))] H := hP
  have hD : va_D A [(h0, .inr (8, [.int 0, .int 0, .int 0, .null, .null, .null, .null, .null, .null, .int 0, .null, .null, .null, .null, .null, .null, .null, .null, .null, .null, .null, .null, .int 0, .null, .null, .null, .null, .null, .int 0, .int 0, .int 0, .int 0, .int 0, .int 0, .int 0, .int 0, .int 0, .null, .null, .null])), (q245, .inl (cA246, 64, .inl f287))] := hD
  refine lv_dup hx hb dX8_init_249 rfl ?_
  refine lv_bipush (v := 41) hx hb dX8_init_250 (by decide) ?_
  refine lv_ldc (v := (-1474664885)) hx hb hown (hts (.constant RX8 48 (-1474664885)) (List.mem_of_getElem? (i := 46) rfl)) dX8_init_252 ?_
  refine vx_iast hx hb hK hP hD hS 1 0 rfl rfl (vx_in (by decide)) dX8_init_254 (fun H locs f288 hP hD hS => ?_)
  have hP : va_P (dC, dI) classes [(h0, .inr (8, [.int 0, .int 0, .int 0, .null, .null, .null, .null, .null, .null, .int 0, .null, .null, .null, .null, .null, .null, .null, .null, .null, .null, .null, .null, .int 0, .null, .null, .null, .null, .null, .int 0, .int 0, .int 0, .int 0, .int 0, .int 0, .int 0, .int 0, .int 0, .null, .null, .null])), (q245, .inl (cA246, 64, .inl f288))] H := hP
  have hD : va_D A [(h0, .inr (8, [.int 0, .int 0, .int 0, .null, .null, .null, .null, .null, .null, .int 0, .null, .null, .null, .null, .null, .null, .null, .null, .null, .null, .null, .null, .int 0, .null, .null, .null, .null, .null, .int 0, .int 0, .int 0, .int 0, .int 0, .int 0, .int 0, .int 0, .int 0, .null, .null, .null])), (q245, .inl (cA246, 64, .inl f288))] := hD
  refine lv_dup hx hb dX8_init_255 rfl ?_
  refine lv_bipush (v := 42) hx hb dX8_init_256 (by decide) ?_
  refine lv_ldc (v := (-1035236496)) hx hb hown (hts (.constant RX8 49 (-1035236496)) (List.mem_of_getElem? (i := 47) rfl)) dX8_init_258 ?_
  refine vx_iast hx hb hK hP hD hS 1 0 rfl rfl (vx_in (by decide)) dX8_init_260 (fun H locs f289 hP hD hS => ?_)
  have hP : va_P (dC, dI) classes [(h0, .inr (8, [.int 0, .int 0, .int 0, .null, .null, .null, .null, .null, .null, .int 0, .null, .null, .null, .null, .null, .null, .null, .null, .null, .null, .null, .null, .int 0, .null, .null, .null, .null, .null, .int 0, .int 0, .int 0, .int 0, .int 0, .int 0, .int 0, .int 0, .int 0, .null, .null, .null])), (q245, .inl (cA246, 64, .inl f289))] H := hP
  have hD : va_D A [(h0, .inr (8, [.int 0, .int 0, .int 0, .null, .null, .null, .null, .null, .null, .int 0, .null, .null, .null, .null, .null, .null, .null, .null, .null, .null, .null, .null, .int 0, .null, .null, .null, .null, .null, .int 0, .int 0, .int 0, .int 0, .int 0, .int 0, .int 0, .int 0, .int 0, .null, .null, .null])), (q245, .inl (cA246, 64, .inl f289))] := hD
  refine lv_dup hx hb dX8_init_261 rfl ?_
  refine lv_bipush (v := 43) hx hb dX8_init_262 (by decide) ?_
  refine lv_ldc (v := (-949202525)) hx hb hown (hts (.constant RX8 50 (-949202525)) (List.mem_of_getElem? (i := 48) rfl)) dX8_init_264 ?_
  refine vx_iast hx hb hK hP hD hS 1 0 rfl rfl (vx_in (by decide)) dX8_init_266 (fun H locs f290 hP hD hS => ?_)
  have hP : va_P (dC, dI) classes [(h0, .inr (8, [.int 0, .int 0, .int 0, .null, .null, .null, .null, .null, .null, .int 0, .null, .null, .null, .null, .null, .null, .null, .null, .null, .null, .null, .null, .int 0, .null, .null, .null, .null, .null, .int 0, .int 0, .int 0, .int 0, .int 0, .int 0, .int 0, .int 0, .int 0, .null, .null, .null])), (q245, .inl (cA246, 64, .inl f290))] H := hP
  have hD : va_D A [(h0, .inr (8, [.int 0, .int 0, .int 0, .null, .null, .null, .null, .null, .null, .int 0, .null, .null, .null, .null, .null, .null, .null, .null, .null, .null, .null, .null, .int 0, .null, .null, .null, .null, .null, .int 0, .int 0, .int 0, .int 0, .int 0, .int 0, .int 0, .int 0, .int 0, .null, .null, .null])), (q245, .inl (cA246, 64, .inl f290))] := hD
  refine lv_dup hx hb dX8_init_267 rfl ?_
  refine lv_bipush (v := 44) hx hb dX8_init_268 (by decide) ?_
  refine lv_ldc (v := (-778901479)) hx hb hown (hts (.constant RX8 51 (-778901479)) (List.mem_of_getElem? (i := 49) rfl)) dX8_init_270 ?_
  refine vx_iast hx hb hK hP hD hS 1 0 rfl rfl (vx_in (by decide)) dX8_init_272 (fun H locs f291 hP hD hS => ?_)
  have hP : va_P (dC, dI) classes [(h0, .inr (8, [.int 0, .int 0, .int 0, .null, .null, .null, .null, .null, .null, .int 0, .null, .null, .null, .null, .null, .null, .null, .null, .null, .null, .null, .null, .int 0, .null, .null, .null, .null, .null, .int 0, .int 0, .int 0, .int 0, .int 0, .int 0, .int 0, .int 0, .int 0, .null, .null, .null])), (q245, .inl (cA246, 64, .inl f291))] H := hP
  have hD : va_D A [(h0, .inr (8, [.int 0, .int 0, .int 0, .null, .null, .null, .null, .null, .null, .int 0, .null, .null, .null, .null, .null, .null, .null, .null, .null, .null, .null, .null, .int 0, .null, .null, .null, .null, .null, .int 0, .int 0, .int 0, .int 0, .int 0, .int 0, .int 0, .int 0, .int 0, .null, .null, .null])), (q245, .inl (cA246, 64, .inl f291))] := hD
  refine lv_dup hx hb dX8_init_273 rfl ?_
  refine lv_bipush (v := 45) hx hb dX8_init_274 (by decide) ?_
  refine lv_ldc (v := (-694614492)) hx hb hown (hts (.constant RX8 52 (-694614492)) (List.mem_of_getElem? (i := 50) rfl)) dX8_init_276 ?_
  refine vx_iast hx hb hK hP hD hS 1 0 rfl rfl (vx_in (by decide)) dX8_init_278 (fun H locs f292 hP hD hS => ?_)
  have hP : va_P (dC, dI) classes [(h0, .inr (8, [.int 0, .int 0, .int 0, .null, .null, .null, .null, .null, .null, .int 0, .null, .null, .null, .null, .null, .null, .null, .null, .null, .null, .null, .null, .int 0, .null, .null, .null, .null, .null, .int 0, .int 0, .int 0, .int 0, .int 0, .int 0, .int 0, .int 0, .int 0, .null, .null, .null])), (q245, .inl (cA246, 64, .inl f292))] H := hP
  have hD : va_D A [(h0, .inr (8, [.int 0, .int 0, .int 0, .null, .null, .null, .null, .null, .null, .int 0, .null, .null, .null, .null, .null, .null, .null, .null, .null, .null, .null, .null, .int 0, .null, .null, .null, .null, .null, .int 0, .int 0, .int 0, .int 0, .int 0, .int 0, .int 0, .int 0, .int 0, .null, .null, .null])), (q245, .inl (cA246, 64, .inl f292))] := hD
  refine lv_dup hx hb dX8_init_279 rfl ?_
  refine lv_bipush (v := 46) hx hb dX8_init_280 (by decide) ?_
  refine lv_ldc (v := (-200395387)) hx hb hown (hts (.constant RX8 53 (-200395387)) (List.mem_of_getElem? (i := 51) rfl)) dX8_init_282 ?_
  refine vx_iast hx hb hK hP hD hS 1 0 rfl rfl (vx_in (by decide)) dX8_init_284 (fun H locs f293 hP hD hS => ?_)
  have hP : va_P (dC, dI) classes [(h0, .inr (8, [.int 0, .int 0, .int 0, .null, .null, .null, .null, .null, .null, .int 0, .null, .null, .null, .null, .null, .null, .null, .null, .null, .null, .null, .null, .int 0, .null, .null, .null, .null, .null, .int 0, .int 0, .int 0, .int 0, .int 0, .int 0, .int 0, .int 0, .int 0, .null, .null, .null])), (q245, .inl (cA246, 64, .inl f293))] H := hP
  have hD : va_D A [(h0, .inr (8, [.int 0, .int 0, .int 0, .null, .null, .null, .null, .null, .null, .int 0, .null, .null, .null, .null, .null, .null, .null, .null, .null, .null, .null, .null, .int 0, .null, .null, .null, .null, .null, .int 0, .int 0, .int 0, .int 0, .int 0, .int 0, .int 0, .int 0, .int 0, .null, .null, .null])), (q245, .inl (cA246, 64, .inl f293))] := hD
  refine lv_dup hx hb dX8_init_285 rfl ?_
  refine lv_bipush (v := 47) hx hb dX8_init_286 (by decide) ?_
  refine lv_ldc (v := 275423344) hx hb hown (hts (.constant RX8 54 (275423344)) (List.mem_of_getElem? (i := 52) rfl)) dX8_init_288 ?_
  refine vx_iast hx hb hK hP hD hS 1 0 rfl rfl (vx_in (by decide)) dX8_init_290 (fun H locs f294 hP hD hS => ?_)
  have hP : va_P (dC, dI) classes [(h0, .inr (8, [.int 0, .int 0, .int 0, .null, .null, .null, .null, .null, .null, .int 0, .null, .null, .null, .null, .null, .null, .null, .null, .null, .null, .null, .null, .int 0, .null, .null, .null, .null, .null, .int 0, .int 0, .int 0, .int 0, .int 0, .int 0, .int 0, .int 0, .int 0, .null, .null, .null])), (q245, .inl (cA246, 64, .inl f294))] H := hP
  have hD : va_D A [(h0, .inr (8, [.int 0, .int 0, .int 0, .null, .null, .null, .null, .null, .null, .int 0, .null, .null, .null, .null, .null, .null, .null, .null, .null, .null, .null, .null, .int 0, .null, .null, .null, .null, .null, .int 0, .int 0, .int 0, .int 0, .int 0, .int 0, .int 0, .int 0, .int 0, .null, .null, .null])), (q245, .inl (cA246, 64, .inl f294))] := hD
  refine lv_dup hx hb dX8_init_291 rfl ?_
  refine lv_bipush (v := 48) hx hb dX8_init_292 (by decide) ?_
  refine lv_ldc (v := 430227734) hx hb hown (hts (.constant RX8 55 (430227734)) (List.mem_of_getElem? (i := 53) rfl)) dX8_init_294 ?_
  refine vx_iast hx hb hK hP hD hS 1 0 rfl rfl (vx_in (by decide)) dX8_init_296 (fun H locs f295 hP hD hS => ?_)
  have hP : va_P (dC, dI) classes [(h0, .inr (8, [.int 0, .int 0, .int 0, .null, .null, .null, .null, .null, .null, .int 0, .null, .null, .null, .null, .null, .null, .null, .null, .null, .null, .null, .null, .int 0, .null, .null, .null, .null, .null, .int 0, .int 0, .int 0, .int 0, .int 0, .int 0, .int 0, .int 0, .int 0, .null, .null, .null])), (q245, .inl (cA246, 64, .inl f295))] H := hP
  have hD : va_D A [(h0, .inr (8, [.int 0, .int 0, .int 0, .null, .null, .null, .null, .null, .null, .int 0, .null, .null, .null, .null, .null, .null, .null, .null, .null, .null, .null, .null, .int 0, .null, .null, .null, .null, .null, .int 0, .int 0, .int 0, .int 0, .int 0, .int 0, .int 0, .int 0, .int 0, .null, .null, .null])), (q245, .inl (cA246, 64, .inl f295))] := hD
  refine lv_dup hx hb dX8_init_297 rfl ?_
  refine lv_bipush (v := 49) hx hb dX8_init_298 (by decide) ?_
  refine lv_ldc (v := 506948616) hx hb hown (hts (.constant RX8 56 (506948616)) (List.mem_of_getElem? (i := 54) rfl)) dX8_init_300 ?_
  refine vx_iast hx hb hK hP hD hS 1 0 rfl rfl (vx_in (by decide)) dX8_init_302 (fun H locs f296 hP hD hS => ?_)
  have hP : va_P (dC, dI) classes [(h0, .inr (8, [.int 0, .int 0, .int 0, .null, .null, .null, .null, .null, .null, .int 0, .null, .null, .null, .null, .null, .null, .null, .null, .null, .null, .null, .null, .int 0, .null, .null, .null, .null, .null, .int 0, .int 0, .int 0, .int 0, .int 0, .int 0, .int 0, .int 0, .int 0, .null, .null, .null])), (q245, .inl (cA246, 64, .inl f296))] H := hP
  have hD : va_D A [(h0, .inr (8, [.int 0, .int 0, .int 0, .null, .null, .null, .null, .null, .null, .int 0, .null, .null, .null, .null, .null, .null, .null, .null, .null, .null, .null, .null, .int 0, .null, .null, .null, .null, .null, .int 0, .int 0, .int 0, .int 0, .int 0, .int 0, .int 0, .int 0, .int 0, .null, .null, .null])), (q245, .inl (cA246, 64, .inl f296))] := hD
  refine lv_dup hx hb dX8_init_303 rfl ?_
  refine lv_bipush (v := 50) hx hb dX8_init_304 (by decide) ?_
  refine lv_ldc (v := 659060556) hx hb hown (hts (.constant RX8 57 (659060556)) (List.mem_of_getElem? (i := 55) rfl)) dX8_init_306 ?_
  refine vx_iast hx hb hK hP hD hS 1 0 rfl rfl (vx_in (by decide)) dX8_init_308 (fun H locs f297 hP hD hS => ?_)
  have hP : va_P (dC, dI) classes [(h0, .inr (8, [.int 0, .int 0, .int 0, .null, .null, .null, .null, .null, .null, .int 0, .null, .null, .null, .null, .null, .null, .null, .null, .null, .null, .null, .null, .int 0, .null, .null, .null, .null, .null, .int 0, .int 0, .int 0, .int 0, .int 0, .int 0, .int 0, .int 0, .int 0, .null, .null, .null])), (q245, .inl (cA246, 64, .inl f297))] H := hP
  have hD : va_D A [(h0, .inr (8, [.int 0, .int 0, .int 0, .null, .null, .null, .null, .null, .null, .int 0, .null, .null, .null, .null, .null, .null, .null, .null, .null, .null, .null, .null, .int 0, .null, .null, .null, .null, .null, .int 0, .int 0, .int 0, .int 0, .int 0, .int 0, .int 0, .int 0, .int 0, .null, .null, .null])), (q245, .inl (cA246, 64, .inl f297))] := hD
  refine lv_dup hx hb dX8_init_309 rfl ?_
  refine lv_bipush (v := 51) hx hb dX8_init_310 (by decide) ?_
  refine lv_ldc (v := 883997877) hx hb hown (hts (.constant RX8 58 (883997877)) (List.mem_of_getElem? (i := 56) rfl)) dX8_init_312 ?_
  refine vx_iast hx hb hK hP hD hS 1 0 rfl rfl (vx_in (by decide)) dX8_init_314 (fun H locs f298 hP hD hS => ?_)
  have hP : va_P (dC, dI) classes [(h0, .inr (8, [.int 0, .int 0, .int 0, .null, .null, .null, .null, .null, .null, .int 0, .null, .null, .null, .null, .null, .null, .null, .null, .null, .null, .null, .null, .int 0, .null, .null, .null, .null, .null, .int 0, .int 0, .int 0, .int 0, .int 0, .int 0, .int 0, .int 0, .int 0, .null, .null, .null])), (q245, .inl (cA246, 64, .inl f298))] H := hP
  have hD : va_D A [(h0, .inr (8, [.int 0, .int 0, .int 0, .null, .null, .null, .null, .null, .null, .int 0, .null, .null, .null, .null, .null, .null, .null, .null, .null, .null, .null, .null, .int 0, .null, .null, .null, .null, .null, .int 0, .int 0, .int 0, .int 0, .int 0, .int 0, .int 0, .int 0, .int 0, .null, .null, .null])), (q245, .inl (cA246, 64, .inl f298))] := hD
  refine lv_dup hx hb dX8_init_315 rfl ?_
  refine lv_bipush (v := 52) hx hb dX8_init_316 (by decide) ?_
  refine lv_ldc (v := 958139571) hx hb hown (hts (.constant RX8 59 (958139571)) (List.mem_of_getElem? (i := 57) rfl)) dX8_init_318 ?_
  refine vx_iast hx hb hK hP hD hS 1 0 rfl rfl (vx_in (by decide)) dX8_init_320 (fun H locs f299 hP hD hS => ?_)
  have hP : va_P (dC, dI) classes [(h0, .inr (8, [.int 0, .int 0, .int 0, .null, .null, .null, .null, .null, .null, .int 0, .null, .null, .null, .null, .null, .null, .null, .null, .null, .null, .null, .null, .int 0, .null, .null, .null, .null, .null, .int 0, .int 0, .int 0, .int 0, .int 0, .int 0, .int 0, .int 0, .int 0, .null, .null, .null])), (q245, .inl (cA246, 64, .inl f299))] H := hP
  have hD : va_D A [(h0, .inr (8, [.int 0, .int 0, .int 0, .null, .null, .null, .null, .null, .null, .int 0, .null, .null, .null, .null, .null, .null, .null, .null, .null, .null, .null, .null, .int 0, .null, .null, .null, .null, .null, .int 0, .int 0, .int 0, .int 0, .int 0, .int 0, .int 0, .int 0, .int 0, .null, .null, .null])), (q245, .inl (cA246, 64, .inl f299))] := hD
  refine lv_dup hx hb dX8_init_321 rfl ?_
  refine lv_bipush (v := 53) hx hb dX8_init_322 (by decide) ?_
  refine lv_ldc (v := 1322822218) hx hb hown (hts (.constant RX8 60 (1322822218)) (List.mem_of_getElem? (i := 58) rfl)) dX8_init_324 ?_
  refine vx_iast hx hb hK hP hD hS 1 0 rfl rfl (vx_in (by decide)) dX8_init_326 (fun H locs f300 hP hD hS => ?_)
  have hP : va_P (dC, dI) classes [(h0, .inr (8, [.int 0, .int 0, .int 0, .null, .null, .null, .null, .null, .null, .int 0, .null, .null, .null, .null, .null, .null, .null, .null, .null, .null, .null, .null, .int 0, .null, .null, .null, .null, .null, .int 0, .int 0, .int 0, .int 0, .int 0, .int 0, .int 0, .int 0, .int 0, .null, .null, .null])), (q245, .inl (cA246, 64, .inl f300))] H := hP
  have hD : va_D A [(h0, .inr (8, [.int 0, .int 0, .int 0, .null, .null, .null, .null, .null, .null, .int 0, .null, .null, .null, .null, .null, .null, .null, .null, .null, .null, .null, .null, .int 0, .null, .null, .null, .null, .null, .int 0, .int 0, .int 0, .int 0, .int 0, .int 0, .int 0, .int 0, .int 0, .null, .null, .null])), (q245, .inl (cA246, 64, .inl f300))] := hD
  refine lv_dup hx hb dX8_init_327 rfl ?_
  refine lv_bipush (v := 54) hx hb dX8_init_328 (by decide) ?_
  refine lv_ldc (v := 1537002063) hx hb hown (hts (.constant RX8 61 (1537002063)) (List.mem_of_getElem? (i := 59) rfl)) dX8_init_330 ?_
  refine vx_iast hx hb hK hP hD hS 1 0 rfl rfl (vx_in (by decide)) dX8_init_332 (fun H locs f301 hP hD hS => ?_)
  have hP : va_P (dC, dI) classes [(h0, .inr (8, [.int 0, .int 0, .int 0, .null, .null, .null, .null, .null, .null, .int 0, .null, .null, .null, .null, .null, .null, .null, .null, .null, .null, .null, .null, .int 0, .null, .null, .null, .null, .null, .int 0, .int 0, .int 0, .int 0, .int 0, .int 0, .int 0, .int 0, .int 0, .null, .null, .null])), (q245, .inl (cA246, 64, .inl f301))] H := hP
  have hD : va_D A [(h0, .inr (8, [.int 0, .int 0, .int 0, .null, .null, .null, .null, .null, .null, .int 0, .null, .null, .null, .null, .null, .null, .null, .null, .null, .null, .null, .null, .int 0, .null, .null, .null, .null, .null, .int 0, .int 0, .int 0, .int 0, .int 0, .int 0, .int 0, .int 0, .int 0, .null, .null, .null])), (q245, .inl (cA246, 64, .inl f301))] := hD
  refine lv_dup hx hb dX8_init_333 rfl ?_
  refine lv_bipush (v := 55) hx hb dX8_init_334 (by decide) ?_
  refine lv_ldc (v := 1747873779) hx hb hown (hts (.constant RX8 62 (1747873779)) (List.mem_of_getElem? (i := 60) rfl)) dX8_init_336 ?_
  refine vx_iast hx hb hK hP hD hS 1 0 rfl rfl (vx_in (by decide)) dX8_init_338 (fun H locs f302 hP hD hS => ?_)
  have hP : va_P (dC, dI) classes [(h0, .inr (8, [.int 0, .int 0, .int 0, .null, .null, .null, .null, .null, .null, .int 0, .null, .null, .null, .null, .null, .null, .null, .null, .null, .null, .null, .null, .int 0, .null, .null, .null, .null, .null, .int 0, .int 0, .int 0, .int 0, .int 0, .int 0, .int 0, .int 0, .int 0, .null, .null, .null])), (q245, .inl (cA246, 64, .inl f302))] H := hP
  have hD : va_D A [(h0, .inr (8, [.int 0, .int 0, .int 0, .null, .null, .null, .null, .null, .null, .int 0, .null, .null, .null, .null, .null, .null, .null, .null, .null, .null, .null, .null, .int 0, .null, .null, .null, .null, .null, .int 0, .int 0, .int 0, .int 0, .int 0, .int 0, .int 0, .int 0, .int 0, .null, .null, .null])), (q245, .inl (cA246, 64, .inl f302))] := hD
  refine lv_dup hx hb dX8_init_339 rfl ?_
  refine lv_bipush (v := 56) hx hb dX8_init_340 (by decide) ?_
  refine lv_ldc (v := 1955562222) hx hb hown (hts (.constant RX8 63 (1955562222)) (List.mem_of_getElem? (i := 61) rfl)) dX8_init_342 ?_
  refine vx_iast hx hb hK hP hD hS 1 0 rfl rfl (vx_in (by decide)) dX8_init_344 (fun H locs f303 hP hD hS => ?_)
  have hP : va_P (dC, dI) classes [(h0, .inr (8, [.int 0, .int 0, .int 0, .null, .null, .null, .null, .null, .null, .int 0, .null, .null, .null, .null, .null, .null, .null, .null, .null, .null, .null, .null, .int 0, .null, .null, .null, .null, .null, .int 0, .int 0, .int 0, .int 0, .int 0, .int 0, .int 0, .int 0, .int 0, .null, .null, .null])), (q245, .inl (cA246, 64, .inl f303))] H := hP
  have hD : va_D A [(h0, .inr (8, [.int 0, .int 0, .int 0, .null, .null, .null, .null, .null, .null, .int 0, .null, .null, .null, .null, .null, .null, .null, .null, .null, .null, .null, .null, .int 0, .null, .null, .null, .null, .null, .int 0, .int 0, .int 0, .int 0, .int 0, .int 0, .int 0, .int 0, .int 0, .null, .null, .null])), (q245, .inl (cA246, 64, .inl f303))] := hD
  refine lv_dup hx hb dX8_init_345 rfl ?_
  refine lv_bipush (v := 57) hx hb dX8_init_346 (by decide) ?_
  refine lv_ldc (v := 2024104815) hx hb hown (hts (.constant RX8 64 (2024104815)) (List.mem_of_getElem? (i := 62) rfl)) dX8_init_348 ?_
  refine vx_iast hx hb hK hP hD hS 1 0 rfl rfl (vx_in (by decide)) dX8_init_350 (fun H locs f304 hP hD hS => ?_)
  have hP : va_P (dC, dI) classes [(h0, .inr (8, [.int 0, .int 0, .int 0, .null, .null, .null, .null, .null, .null, .int 0, .null, .null, .null, .null, .null, .null, .null, .null, .null, .null, .null, .null, .int 0, .null, .null, .null, .null, .null, .int 0, .int 0, .int 0, .int 0, .int 0, .int 0, .int 0, .int 0, .int 0, .null, .null, .null])), (q245, .inl (cA246, 64, .inl f304))] H := hP
  have hD : va_D A [(h0, .inr (8, [.int 0, .int 0, .int 0, .null, .null, .null, .null, .null, .null, .int 0, .null, .null, .null, .null, .null, .null, .null, .null, .null, .null, .null, .null, .int 0, .null, .null, .null, .null, .null, .int 0, .int 0, .int 0, .int 0, .int 0, .int 0, .int 0, .int 0, .int 0, .null, .null, .null])), (q245, .inl (cA246, 64, .inl f304))] := hD
  refine lv_dup hx hb dX8_init_351 rfl ?_
  refine lv_bipush (v := 58) hx hb dX8_init_352 (by decide) ?_
  refine lv_ldc (v := (-2067236844)) hx hb hown (hts (.constant RX8 65 (-2067236844)) (List.mem_of_getElem? (i := 63) rfl)) dX8_init_354 ?_
  refine vx_iast hx hb hK hP hD hS 1 0 rfl rfl (vx_in (by decide)) dX8_init_356 (fun H locs f305 hP hD hS => ?_)
  have hP : va_P (dC, dI) classes [(h0, .inr (8, [.int 0, .int 0, .int 0, .null, .null, .null, .null, .null, .null, .int 0, .null, .null, .null, .null, .null, .null, .null, .null, .null, .null, .null, .null, .int 0, .null, .null, .null, .null, .null, .int 0, .int 0, .int 0, .int 0, .int 0, .int 0, .int 0, .int 0, .int 0, .null, .null, .null])), (q245, .inl (cA246, 64, .inl f305))] H := hP
  have hD : va_D A [(h0, .inr (8, [.int 0, .int 0, .int 0, .null, .null, .null, .null, .null, .null, .int 0, .null, .null, .null, .null, .null, .null, .null, .null, .null, .null, .null, .null, .int 0, .null, .null, .null, .null, .null, .int 0, .int 0, .int 0, .int 0, .int 0, .int 0, .int 0, .int 0, .int 0, .null, .null, .null])), (q245, .inl (cA246, 64, .inl f305))] := hD
  refine lv_dup hx hb dX8_init_357 rfl ?_
  refine lv_bipush (v := 59) hx hb dX8_init_358 (by decide) ?_
  refine lv_ldc (v := (-1933114872)) hx hb hown (hts (.constant RX8 66 (-1933114872)) (List.mem_of_getElem? (i := 64) rfl)) dX8_init_360 ?_
  refine vx_iast hx hb hK hP hD hS 1 0 rfl rfl (vx_in (by decide)) dX8_init_362 (fun H locs f306 hP hD hS => ?_)
  have hP : va_P (dC, dI) classes [(h0, .inr (8, [.int 0, .int 0, .int 0, .null, .null, .null, .null, .null, .null, .int 0, .null, .null, .null, .null, .null, .null, .null, .null, .null, .null, .null, .null, .int 0, .null, .null, .null, .null, .null, .int 0, .int 0, .int 0, .int 0, .int 0, .int 0, .int 0, .int 0, .int 0, .null, .null, .null])), (q245, .inl (cA246, 64, .inl f306))] H := hP
  have hD : va_D A [(h0, .inr (8, [.int 0, .int 0, .int 0, .null, .null, .null, .null, .null, .null, .int 0, .null, .null, .null, .null, .null, .null, .null, .null, .null, .null, .null, .null, .int 0, .null, .null, .null, .null, .null, .int 0, .int 0, .int 0, .int 0, .int 0, .int 0, .int 0, .int 0, .int 0, .null, .null, .null])), (q245, .inl (cA246, 64, .inl f306))] := hD
  refine lv_dup hx hb dX8_init_363 rfl ?_
  refine lv_bipush (v := 60) hx hb dX8_init_364 (by decide) ?_
  refine lv_ldc (v := (-1866530822)) hx hb hown (hts (.constant RX8 67 (-1866530822)) (List.mem_of_getElem? (i := 65) rfl)) dX8_init_366 ?_
  refine vx_iast hx hb hK hP hD hS 1 0 rfl rfl (vx_in (by decide)) dX8_init_368 (fun H locs f307 hP hD hS => ?_)
  have hP : va_P (dC, dI) classes [(h0, .inr (8, [.int 0, .int 0, .int 0, .null, .null, .null, .null, .null, .null, .int 0, .null, .null, .null, .null, .null, .null, .null, .null, .null, .null, .null, .null, .int 0, .null, .null, .null, .null, .null, .int 0, .int 0, .int 0, .int 0, .int 0, .int 0, .int 0, .int 0, .int 0, .null, .null, .null])), (q245, .inl (cA246, 64, .inl f307))] H := hP
  have hD : va_D A [(h0, .inr (8, [.int 0, .int 0, .int 0, .null, .null, .null, .null, .null, .null, .int 0, .null, .null, .null, .null, .null, .null, .null, .null, .null, .null, .null, .null, .int 0, .null, .null, .null, .null, .null, .int 0, .int 0, .int 0, .int 0, .int 0, .int 0, .int 0, .int 0, .int 0, .null, .null, .null])), (q245, .inl (cA246, 64, .inl f307))] := hD
  refine lv_dup hx hb dX8_init_369 rfl ?_
  refine lv_bipush (v := 61) hx hb dX8_init_370 (by decide) ?_
  refine lv_ldc (v := (-1538233109)) hx hb hown (hts (.constant RX8 68 (-1538233109)) (List.mem_of_getElem? (i := 66) rfl)) dX8_init_372 ?_
  refine vx_iast hx hb hK hP hD hS 1 0 rfl rfl (vx_in (by decide)) dX8_init_374 (fun H locs f308 hP hD hS => ?_)
  have hP : va_P (dC, dI) classes [(h0, .inr (8, [.int 0, .int 0, .int 0, .null, .null, .null, .null, .null, .null, .int 0, .null, .null, .null, .null, .null, .null, .null, .null, .null, .null, .null, .null, .int 0, .null, .null, .null, .null, .null, .int 0, .int 0, .int 0, .int 0, .int 0, .int 0, .int 0, .int 0, .int 0, .null, .null, .null])), (q245, .inl (cA246, 64, .inl f308))] H := hP
  have hD : va_D A [(h0, .inr (8, [.int 0, .int 0, .int 0, .null, .null, .null, .null, .null, .null, .int 0, .null, .null, .null, .null, .null, .null, .null, .null, .null, .null, .null, .null, .int 0, .null, .null, .null, .null, .null, .int 0, .int 0, .int 0, .int 0, .int 0, .int 0, .int 0, .int 0, .int 0, .null, .null, .null])), (q245, .inl (cA246, 64, .inl f308))] := hD
  refine lv_dup hx hb dX8_init_375 rfl ?_
  refine lv_bipush (v := 62) hx hb dX8_init_376 (by decide) ?_
  refine lv_ldc (v := (-1090935817)) hx hb hown (hts (.constant RX8 69 (-1090935817)) (List.mem_of_getElem? (i := 67) rfl)) dX8_init_378 ?_
  refine vx_iast hx hb hK hP hD hS 1 0 rfl rfl (vx_in (by decide)) dX8_init_380 (fun H locs f309 hP hD hS => ?_)
  have hP : va_P (dC, dI) classes [(h0, .inr (8, [.int 0, .int 0, .int 0, .null, .null, .null, .null, .null, .null, .int 0, .null, .null, .null, .null, .null, .null, .null, .null, .null, .null, .null, .null, .int 0, .null, .null, .null, .null, .null, .int 0, .int 0, .int 0, .int 0, .int 0, .int 0, .int 0, .int 0, .int 0, .null, .null, .null])), (q245, .inl (cA246, 64, .inl f309))] H := hP
  have hD : va_D A [(h0, .inr (8, [.int 0, .int 0, .int 0, .null, .null, .null, .null, .null, .null, .int 0, .null, .null, .null, .null, .null, .null, .null, .null, .null, .null, .null, .null, .int 0, .null, .null, .null, .null, .null, .int 0, .int 0, .int 0, .int 0, .int 0, .int 0, .int 0, .int 0, .int 0, .null, .null, .null])), (q245, .inl (cA246, 64, .inl f309))] := hD
  refine lv_dup hx hb dX8_init_381 rfl ?_
  refine lv_bipush (v := 63) hx hb dX8_init_382 (by decide) ?_
  refine lv_ldc (v := (-965641998)) hx hb hown (hts (.constant RX8 70 (-965641998)) (List.mem_of_getElem? (i := 68) rfl)) dX8_init_384 ?_
  refine vx_iast hx hb hK hP hD hS 1 0 rfl rfl (vx_in (by decide)) dX8_init_386 (fun H locs f310 hP hD hS => ?_)
  have hP : va_P (dC, dI) classes [(h0, .inr (8, [.int 0, .int 0, .int 0, .null, .null, .null, .null, .null, .null, .int 0, .null, .null, .null, .null, .null, .null, .null, .null, .null, .null, .null, .null, .int 0, .null, .null, .null, .null, .null, .int 0, .int 0, .int 0, .int 0, .int 0, .int 0, .int 0, .int 0, .int 0, .null, .null, .null])), (q245, .inl (cA246, 64, .inl f310))] H := hP
  have hD : va_D A [(h0, .inr (8, [.int 0, .int 0, .int 0, .null, .null, .null, .null, .null, .null, .int 0, .null, .null, .null, .null, .null, .null, .null, .null, .null, .null, .null, .null, .int 0, .null, .null, .null, .null, .null, .int 0, .int 0, .int 0, .int 0, .int 0, .int 0, .int 0, .int 0, .int 0, .null, .null, .null])), (q245, .inl (cA246, 64, .inl f310))] := hD
  refine va_putF (D := (dC, dI)) (ci := 8) (v := .ref q245) (ty := .array .int) (C := RX8) (T := TX8) (N := 40) hx hb hts iX8_init_X8 tyX8 tyX8_ok nmX8 hown hK hP hD hS 0 rfl rfl 3 (by decide) (hts (.fieldLink RX8 71 "LeafSignerModel" "k64" "[I") (List.mem_of_getElem? (i := 69) rfl)) (fun _ h9 => h9) rfl hin rfl (by decide +kernel) rfl rfl (Nat.le_of_ble_eq_true rfl) dX8_init_387 (fun H locs hP hD hS => ?_)
  have hP : va_P (dC, dI) classes [(h0, .inr (8, [.int 0, .int 0, .int 0, .ref q245, .null, .null, .null, .null, .null, .int 0, .null, .null, .null, .null, .null, .null, .null, .null, .null, .null, .null, .null, .int 0, .null, .null, .null, .null, .null, .int 0, .int 0, .int 0, .int 0, .int 0, .int 0, .int 0, .int 0, .int 0, .null, .null, .null])), (q245, .inl (cA246, 64, .inl f310))] H := hP
  have hD : va_D A [(h0, .inr (8, [.int 0, .int 0, .int 0, .ref q245, .null, .null, .null, .null, .null, .int 0, .null, .null, .null, .null, .null, .null, .null, .null, .null, .null, .null, .null, .int 0, .null, .null, .null, .null, .null, .int 0, .int 0, .int 0, .int 0, .int 0, .int 0, .int 0, .int 0, .int 0, .null, .null, .null])), (q245, .inl (cA246, 64, .inl f310))] := hD
  have hP := hP.sub (ws' := [(h0, .inr (8, [.int 0, .int 0, .int 0, .ref q245, .null, .null, .null, .null, .null, .int 0, .null, .null, .null, .null, .null, .null, .null, .null, .null, .null, .null, .null, .int 0, .null, .null, .null, .null, .null, .int 0, .int 0, .int 0, .int 0, .int 0, .int 0, .int 0, .int 0, .int 0, .null, .null, .null]))]) [0] rfl
  have hD := hD.sub (ws' := [(h0, .inr (8, [.int 0, .int 0, .int 0, .ref q245, .null, .null, .null, .null, .null, .int 0, .null, .null, .null, .null, .null, .null, .null, .null, .null, .null, .null, .null, .int 0, .null, .null, .null, .null, .null, .int 0, .int 0, .int 0, .int 0, .int 0, .int 0, .int 0, .int 0, .int 0, .null, .null, .null]))]) [0] (by decide) rfl
  have hK := hK.sub (tys' := []) [] rfl
  refine lv_aload_n hx hb dX8_init_390 rfl (lv_at hl 0 rfl) ?_
  refine lv_bipush (v := 8) hx hb dX8_init_391 (by decide) ?_
  refine va_newa (atype := .int) (ty := .int) (a0 := (8, .inl (fun _ => 0))) hx hb (hts (.arrayClass .int) (List.mem_of_getElem? (i := 4) rfl)) rfl hK hP hD hS hA (fun _ => rfl) (by decide) (by decide) (by decide) (Nat.le_of_ble_eq_true rfl) (Nat.le_of_ble_eq_true rfl) dX8_init_393 (fun q311 cA312 H hK hP hD hS => ?_)
  have hK : va_K (dC, dI) classes [(cA312, .int)] s := hK
  have hP : va_P (dC, dI) classes [(h0, .inr (8, [.int 0, .int 0, .int 0, .ref q245, .null, .null, .null, .null, .null, .int 0, .null, .null, .null, .null, .null, .null, .null, .null, .null, .null, .null, .null, .int 0, .null, .null, .null, .null, .null, .int 0, .int 0, .int 0, .int 0, .int 0, .int 0, .int 0, .int 0, .int 0, .null, .null, .null])), (q311, .inl (cA312, 8, .inl (fun _ => 0)))] H := hP
  have hD : va_D A [(h0, .inr (8, [.int 0, .int 0, .int 0, .ref q245, .null, .null, .null, .null, .null, .int 0, .null, .null, .null, .null, .null, .null, .null, .null, .null, .null, .null, .null, .int 0, .null, .null, .null, .null, .null, .int 0, .int 0, .int 0, .int 0, .int 0, .int 0, .int 0, .int 0, .int 0, .null, .null, .null])), (q311, .inl (cA312, 8, .inl (fun _ => 0)))] := hD
  refine W.widen (k := 2) (n := 72) (Nat.le_of_ble_eq_true rfl) (Nat.le_of_ble_eq_true rfl) ?_
  refine lv_dup hx hb dX8_init_395 rfl ?_
  refine lv_iconst (v := 0) hx hb dX8_init_396 (by decide) ?_
  refine lv_ldc (v := 1779033703) hx hb hown (hts (.constant RX8 77 (1779033703)) (List.mem_of_getElem? (i := 70) rfl)) dX8_init_397 ?_
  refine vx_iast hx hb hK hP hD hS 1 0 rfl rfl (vx_in (by decide)) dX8_init_399 (fun H locs f313 hP hD hS => ?_)
  have hP : va_P (dC, dI) classes [(h0, .inr (8, [.int 0, .int 0, .int 0, .ref q245, .null, .null, .null, .null, .null, .int 0, .null, .null, .null, .null, .null, .null, .null, .null, .null, .null, .null, .null, .int 0, .null, .null, .null, .null, .null, .int 0, .int 0, .int 0, .int 0, .int 0, .int 0, .int 0, .int 0, .int 0, .null, .null, .null])), (q311, .inl (cA312, 8, .inl f313))] H := hP
  have hD : va_D A [(h0, .inr (8, [.int 0, .int 0, .int 0, .ref q245, .null, .null, .null, .null, .null, .int 0, .null, .null, .null, .null, .null, .null, .null, .null, .null, .null, .null, .null, .int 0, .null, .null, .null, .null, .null, .int 0, .int 0, .int 0, .int 0, .int 0, .int 0, .int 0, .int 0, .int 0, .null, .null, .null])), (q311, .inl (cA312, 8, .inl f313))] := hD
  refine lv_dup hx hb dX8_init_400 rfl ?_
  refine lv_iconst (v := 1) hx hb dX8_init_401 (by decide) ?_
  refine lv_ldc (v := (-1150833019)) hx hb hown (hts (.constant RX8 78 (-1150833019)) (List.mem_of_getElem? (i := 71) rfl)) dX8_init_402 ?_
  refine vx_iast hx hb hK hP hD hS 1 0 rfl rfl (vx_in (by decide)) dX8_init_404 (fun H locs f314 hP hD hS => ?_)
  have hP : va_P (dC, dI) classes [(h0, .inr (8, [.int 0, .int 0, .int 0, .ref q245, .null, .null, .null, .null, .null, .int 0, .null, .null, .null, .null, .null, .null, .null, .null, .null, .null, .null, .null, .int 0, .null, .null, .null, .null, .null, .int 0, .int 0, .int 0, .int 0, .int 0, .int 0, .int 0, .int 0, .int 0, .null, .null, .null])), (q311, .inl (cA312, 8, .inl f314))] H := hP
  have hD : va_D A [(h0, .inr (8, [.int 0, .int 0, .int 0, .ref q245, .null, .null, .null, .null, .null, .int 0, .null, .null, .null, .null, .null, .null, .null, .null, .null, .null, .null, .null, .int 0, .null, .null, .null, .null, .null, .int 0, .int 0, .int 0, .int 0, .int 0, .int 0, .int 0, .int 0, .int 0, .null, .null, .null])), (q311, .inl (cA312, 8, .inl f314))] := hD
  refine lv_dup hx hb dX8_init_405 rfl ?_
  refine lv_iconst (v := 2) hx hb dX8_init_406 (by decide) ?_
  refine lv_ldc (v := 1013904242) hx hb hown (hts (.constant RX8 79 (1013904242)) (List.mem_of_getElem? (i := 72) rfl)) dX8_init_407 ?_
  refine vx_iast hx hb hK hP hD hS 1 0 rfl rfl (vx_in (by decide)) dX8_init_409 (fun H locs f315 hP hD hS => ?_)
  have hP : va_P (dC, dI) classes [(h0, .inr (8, [.int 0, .int 0, .int 0, .ref q245, .null, .null, .null, .null, .null, .int 0, .null, .null, .null, .null, .null, .null, .null, .null, .null, .null, .null, .null, .int 0, .null, .null, .null, .null, .null, .int 0, .int 0, .int 0, .int 0, .int 0, .int 0, .int 0, .int 0, .int 0, .null, .null, .null])), (q311, .inl (cA312, 8, .inl f315))] H := hP
  have hD : va_D A [(h0, .inr (8, [.int 0, .int 0, .int 0, .ref q245, .null, .null, .null, .null, .null, .int 0, .null, .null, .null, .null, .null, .null, .null, .null, .null, .null, .null, .null, .int 0, .null, .null, .null, .null, .null, .int 0, .int 0, .int 0, .int 0, .int 0, .int 0, .int 0, .int 0, .int 0, .null, .null, .null])), (q311, .inl (cA312, 8, .inl f315))] := hD
  refine lv_dup hx hb dX8_init_410 rfl ?_
  refine lv_iconst (v := 3) hx hb dX8_init_411 (by decide) ?_
  refine lv_ldc (v := (-1521486534)) hx hb hown (hts (.constant RX8 80 (-1521486534)) (List.mem_of_getElem? (i := 73) rfl)) dX8_init_412 ?_
  refine vx_iast hx hb hK hP hD hS 1 0 rfl rfl (vx_in (by decide)) dX8_init_414 (fun H locs f316 hP hD hS => ?_)
  have hP : va_P (dC, dI) classes [(h0, .inr (8, [.int 0, .int 0, .int 0, .ref q245, .null, .null, .null, .null, .null, .int 0, .null, .null, .null, .null, .null, .null, .null, .null, .null, .null, .null, .null, .int 0, .null, .null, .null, .null, .null, .int 0, .int 0, .int 0, .int 0, .int 0, .int 0, .int 0, .int 0, .int 0, .null, .null, .null])), (q311, .inl (cA312, 8, .inl f316))] H := hP
  have hD : va_D A [(h0, .inr (8, [.int 0, .int 0, .int 0, .ref q245, .null, .null, .null, .null, .null, .int 0, .null, .null, .null, .null, .null, .null, .null, .null, .null, .null, .null, .null, .int 0, .null, .null, .null, .null, .null, .int 0, .int 0, .int 0, .int 0, .int 0, .int 0, .int 0, .int 0, .int 0, .null, .null, .null])), (q311, .inl (cA312, 8, .inl f316))] := hD
  refine lv_dup hx hb dX8_init_415 rfl ?_
  refine lv_iconst (v := 4) hx hb dX8_init_416 (by decide) ?_
  refine lv_ldc (v := 1359893119) hx hb hown (hts (.constant RX8 81 (1359893119)) (List.mem_of_getElem? (i := 74) rfl)) dX8_init_417 ?_
  refine vx_iast hx hb hK hP hD hS 1 0 rfl rfl (vx_in (by decide)) dX8_init_419 (fun H locs f317 hP hD hS => ?_)
  have hP : va_P (dC, dI) classes [(h0, .inr (8, [.int 0, .int 0, .int 0, .ref q245, .null, .null, .null, .null, .null, .int 0, .null, .null, .null, .null, .null, .null, .null, .null, .null, .null, .null, .null, .int 0, .null, .null, .null, .null, .null, .int 0, .int 0, .int 0, .int 0, .int 0, .int 0, .int 0, .int 0, .int 0, .null, .null, .null])), (q311, .inl (cA312, 8, .inl f317))] H := hP
  have hD : va_D A [(h0, .inr (8, [.int 0, .int 0, .int 0, .ref q245, .null, .null, .null, .null, .null, .int 0, .null, .null, .null, .null, .null, .null, .null, .null, .null, .null, .null, .null, .int 0, .null, .null, .null, .null, .null, .int 0, .int 0, .int 0, .int 0, .int 0, .int 0, .int 0, .int 0, .int 0, .null, .null, .null])), (q311, .inl (cA312, 8, .inl f317))] := hD
  refine lv_dup hx hb dX8_init_420 rfl ?_
  refine lv_iconst (v := 5) hx hb dX8_init_421 (by decide) ?_
  refine lv_ldc (v := (-1694144372)) hx hb hown (hts (.constant RX8 82 (-1694144372)) (List.mem_of_getElem? (i := 75) rfl)) dX8_init_422 ?_
  refine vx_iast hx hb hK hP hD hS 1 0 rfl rfl (vx_in (by decide)) dX8_init_424 (fun H locs f318 hP hD hS => ?_)
  have hP : va_P (dC, dI) classes [(h0, .inr (8, [.int 0, .int 0, .int 0, .ref q245, .null, .null, .null, .null, .null, .int 0, .null, .null, .null, .null, .null, .null, .null, .null, .null, .null, .null, .null, .int 0, .null, .null, .null, .null, .null, .int 0, .int 0, .int 0, .int 0, .int 0, .int 0, .int 0, .int 0, .int 0, .null, .null, .null])), (q311, .inl (cA312, 8, .inl f318))] H := hP
  have hD : va_D A [(h0, .inr (8, [.int 0, .int 0, .int 0, .ref q245, .null, .null, .null, .null, .null, .int 0, .null, .null, .null, .null, .null, .null, .null, .null, .null, .null, .null, .null, .int 0, .null, .null, .null, .null, .null, .int 0, .int 0, .int 0, .int 0, .int 0, .int 0, .int 0, .int 0, .int 0, .null, .null, .null])), (q311, .inl (cA312, 8, .inl f318))] := hD
  refine lv_dup hx hb dX8_init_425 rfl ?_
  refine lv_bipush (v := 6) hx hb dX8_init_426 (by decide) ?_
  refine lv_ldc (v := 528734635) hx hb hown (hts (.constant RX8 83 (528734635)) (List.mem_of_getElem? (i := 76) rfl)) dX8_init_428 ?_
  refine vx_iast hx hb hK hP hD hS 1 0 rfl rfl (vx_in (by decide)) dX8_init_430 (fun H locs f319 hP hD hS => ?_)
  have hP : va_P (dC, dI) classes [(h0, .inr (8, [.int 0, .int 0, .int 0, .ref q245, .null, .null, .null, .null, .null, .int 0, .null, .null, .null, .null, .null, .null, .null, .null, .null, .null, .null, .null, .int 0, .null, .null, .null, .null, .null, .int 0, .int 0, .int 0, .int 0, .int 0, .int 0, .int 0, .int 0, .int 0, .null, .null, .null])), (q311, .inl (cA312, 8, .inl f319))] H := hP
  have hD : va_D A [(h0, .inr (8, [.int 0, .int 0, .int 0, .ref q245, .null, .null, .null, .null, .null, .int 0, .null, .null, .null, .null, .null, .null, .null, .null, .null, .null, .null, .null, .int 0, .null, .null, .null, .null, .null, .int 0, .int 0, .int 0, .int 0, .int 0, .int 0, .int 0, .int 0, .int 0, .null, .null, .null])), (q311, .inl (cA312, 8, .inl f319))] := hD
  refine lv_dup hx hb dX8_init_431 rfl ?_
  refine lv_bipush (v := 7) hx hb dX8_init_432 (by decide) ?_
  refine lv_ldc (v := 1541459225) hx hb hown (hts (.constant RX8 84 (1541459225)) (List.mem_of_getElem? (i := 77) rfl)) dX8_init_434 ?_
  refine vx_iast hx hb hK hP hD hS 1 0 rfl rfl (vx_in (by decide)) dX8_init_436 (fun H locs f320 hP hD hS => ?_)
  have hP : va_P (dC, dI) classes [(h0, .inr (8, [.int 0, .int 0, .int 0, .ref q245, .null, .null, .null, .null, .null, .int 0, .null, .null, .null, .null, .null, .null, .null, .null, .null, .null, .null, .null, .int 0, .null, .null, .null, .null, .null, .int 0, .int 0, .int 0, .int 0, .int 0, .int 0, .int 0, .int 0, .int 0, .null, .null, .null])), (q311, .inl (cA312, 8, .inl f320))] H := hP
  have hD : va_D A [(h0, .inr (8, [.int 0, .int 0, .int 0, .ref q245, .null, .null, .null, .null, .null, .int 0, .null, .null, .null, .null, .null, .null, .null, .null, .null, .null, .null, .null, .int 0, .null, .null, .null, .null, .null, .int 0, .int 0, .int 0, .int 0, .int 0, .int 0, .int 0, .int 0, .int 0, .null, .null, .null])), (q311, .inl (cA312, 8, .inl f320))] := hD
  refine va_putF (D := (dC, dI)) (ci := 8) (v := .ref q311) (ty := .array .int) (C := RX8) (T := TX8) (N := 40) hx hb hts iX8_init_X8 tyX8 tyX8_ok nmX8 hown hK hP hD hS 0 rfl rfl 4 (by decide) (hts (.fieldLink RX8 85 "LeafSignerModel" "begin" "[I") (List.mem_of_getElem? (i := 78) rfl)) (fun _ h9 => h9) rfl hin rfl (by decide +kernel) rfl rfl (Nat.le_of_ble_eq_true rfl) dX8_init_437 (fun H locs hP hD hS => ?_)
  have hP : va_P (dC, dI) classes [(h0, .inr (8, [.int 0, .int 0, .int 0, .ref q245, .ref q311, .null, .null, .null, .null, .int 0, .null, .null, .null, .null, .null, .null, .null, .null, .null, .null, .null, .null, .int 0, .null, .null, .null, .null, .null, .int 0, .int 0, .int 0, .int 0, .int 0, .int 0, .int 0, .int 0, .int 0, .null, .null, .null])), (q311, .inl (cA312, 8, .inl f320))] H := hP
  have hD : va_D A [(h0, .inr (8, [.int 0, .int 0, .int 0, .ref q245, .ref q311, .null, .null, .null, .null, .int 0, .null, .null, .null, .null, .null, .null, .null, .null, .null, .null, .null, .null, .int 0, .null, .null, .null, .null, .null, .int 0, .int 0, .int 0, .int 0, .int 0, .int 0, .int 0, .int 0, .int 0, .null, .null, .null])), (q311, .inl (cA312, 8, .inl f320))] := hD
  have hP := hP.sub (ws' := [(h0, .inr (8, [.int 0, .int 0, .int 0, .ref q245, .ref q311, .null, .null, .null, .null, .int 0, .null, .null, .null, .null, .null, .null, .null, .null, .null, .null, .null, .null, .int 0, .null, .null, .null, .null, .null, .int 0, .int 0, .int 0, .int 0, .int 0, .int 0, .int 0, .int 0, .int 0, .null, .null, .null]))]) [0] rfl
  have hD := hD.sub (ws' := [(h0, .inr (8, [.int 0, .int 0, .int 0, .ref q245, .ref q311, .null, .null, .null, .null, .int 0, .null, .null, .null, .null, .null, .null, .null, .null, .null, .null, .null, .null, .int 0, .null, .null, .null, .null, .null, .int 0, .int 0, .int 0, .int 0, .int 0, .int 0, .int 0, .int 0, .int 0, .null, .null, .null]))]) [0] (by decide) rfl
  have hK := hK.sub (tys' := []) [] rfl
  refine lv_aload_n hx hb dX8_init_440 rfl (lv_at hl 0 rfl) ?_
  refine lv_bipush (v := 64) hx hb dX8_init_441 (by decide) ?_
  refine va_newa (atype := .int) (ty := .int) (a0 := (64, .inl (fun _ => 0))) hx hb (hts (.arrayClass .int) (List.mem_of_getElem? (i := 4) rfl)) rfl hK hP hD hS hA (fun _ => rfl) (by decide) (by decide) (by decide) (Nat.le_of_ble_eq_true rfl) (Nat.le_of_ble_eq_true rfl) dX8_init_443 (fun q321 cA322 H hK hP hD hS => ?_)
  have hK : va_K (dC, dI) classes [(cA322, .int)] s := hK
  have hP : va_P (dC, dI) classes [(h0, .inr (8, [.int 0, .int 0, .int 0, .ref q245, .ref q311, .null, .null, .null, .null, .int 0, .null, .null, .null, .null, .null, .null, .null, .null, .null, .null, .null, .null, .int 0, .null, .null, .null, .null, .null, .int 0, .int 0, .int 0, .int 0, .int 0, .int 0, .int 0, .int 0, .int 0, .null, .null, .null])), (q321, .inl (cA322, 64, .inl (fun _ => 0)))] H := hP
  have hD : va_D A [(h0, .inr (8, [.int 0, .int 0, .int 0, .ref q245, .ref q311, .null, .null, .null, .null, .int 0, .null, .null, .null, .null, .null, .null, .null, .null, .null, .null, .null, .null, .int 0, .null, .null, .null, .null, .null, .int 0, .int 0, .int 0, .int 0, .int 0, .int 0, .int 0, .int 0, .int 0, .null, .null, .null])), (q321, .inl (cA322, 64, .inl (fun _ => 0)))] := hD
  refine W.widen (k := 3) (n := 136) (Nat.le_of_ble_eq_true rfl) (Nat.le_of_ble_eq_true rfl) ?_
  refine va_putF (D := (dC, dI)) (ci := 8) (v := .ref q321) (ty := .array .int) (C := RX8) (T := TX8) (N := 40) hx hb hts iX8_init_X8 tyX8 tyX8_ok nmX8 hown hK hP hD hS 0 rfl rfl 5 (by decide) (hts (.fieldLink RX8 88 "LeafSignerModel" "w" "[I") (List.mem_of_getElem? (i := 79) rfl)) (fun _ h9 => h9) rfl hin rfl (by decide +kernel) rfl rfl (Nat.le_of_ble_eq_true rfl) dX8_init_445 (fun H locs hP hD hS => ?_)
  have hP : va_P (dC, dI) classes [(h0, .inr (8, [.int 0, .int 0, .int 0, .ref q245, .ref q311, .ref q321, .null, .null, .null, .int 0, .null, .null, .null, .null, .null, .null, .null, .null, .null, .null, .null, .null, .int 0, .null, .null, .null, .null, .null, .int 0, .int 0, .int 0, .int 0, .int 0, .int 0, .int 0, .int 0, .int 0, .null, .null, .null])), (q321, .inl (cA322, 64, .inl (fun _ => 0)))] H := hP
  have hD : va_D A [(h0, .inr (8, [.int 0, .int 0, .int 0, .ref q245, .ref q311, .ref q321, .null, .null, .null, .int 0, .null, .null, .null, .null, .null, .null, .null, .null, .null, .null, .null, .null, .int 0, .null, .null, .null, .null, .null, .int 0, .int 0, .int 0, .int 0, .int 0, .int 0, .int 0, .int 0, .int 0, .null, .null, .null])), (q321, .inl (cA322, 64, .inl (fun _ => 0)))] := hD
  have hP := hP.sub (ws' := [(h0, .inr (8, [.int 0, .int 0, .int 0, .ref q245, .ref q311, .ref q321, .null, .null, .null, .int 0, .null, .null, .null, .null, .null, .null, .null, .null, .null, .null, .null, .null, .int 0, .null, .null, .null, .null, .null, .int 0, .int 0, .int 0, .int 0, .int 0, .int 0, .int 0, .int 0, .int 0, .null, .null, .null]))]) [0] rfl
  have hD := hD.sub (ws' := [(h0, .inr (8, [.int 0, .int 0, .int 0, .ref q245, .ref q311, .ref q321, .null, .null, .null, .int 0, .null, .null, .null, .null, .null, .null, .null, .null, .null, .null, .null, .null, .int 0, .null, .null, .null, .null, .null, .int 0, .int 0, .int 0, .int 0, .int 0, .int 0, .int 0, .int 0, .int 0, .null, .null, .null]))]) [0] (by decide) rfl
  have hK := hK.sub (tys' := []) [] rfl
  refine lv_aload_n hx hb dX8_init_448 rfl (lv_at hl 0 rfl) ?_
  refine lv_bipush (v := 8) hx hb dX8_init_449 (by decide) ?_
  refine va_newa (atype := .int) (ty := .int) (a0 := (8, .inl (fun _ => 0))) hx hb (hts (.arrayClass .int) (List.mem_of_getElem? (i := 4) rfl)) rfl hK hP hD hS hA (fun _ => rfl) (by decide) (by decide) (by decide) (Nat.le_of_ble_eq_true rfl) (Nat.le_of_ble_eq_true rfl) dX8_init_451 (fun q323 cA324 H hK hP hD hS => ?_)
  have hK : va_K (dC, dI) classes [(cA324, .int)] s := hK
  have hP : va_P (dC, dI) classes [(h0, .inr (8, [.int 0, .int 0, .int 0, .ref q245, .ref q311, .ref q321, .null, .null, .null, .int 0, .null, .null, .null, .null, .null, .null, .null, .null, .null, .null, .null, .null, .int 0, .null, .null, .null, .null, .null, .int 0, .int 0, .int 0, .int 0, .int 0, .int 0, .int 0, .int 0, .int 0, .null, .null, .null])), (q323, .inl (cA324, 8, .inl (fun _ => 0)))] H := hP
  have hD : va_D A [(h0, .inr (8, [.int 0, .int 0, .int 0, .ref q245, .ref q311, .ref q321, .null, .null, .null, .int 0, .null, .null, .null, .null, .null, .null, .null, .null, .null, .null, .null, .null, .int 0, .null, .null, .null, .null, .null, .int 0, .int 0, .int 0, .int 0, .int 0, .int 0, .int 0, .int 0, .int 0, .null, .null, .null])), (q323, .inl (cA324, 8, .inl (fun _ => 0)))] := hD
  refine W.widen (k := 4) (n := 144) (Nat.le_of_ble_eq_true rfl) (Nat.le_of_ble_eq_true rfl) ?_
  refine va_putF (D := (dC, dI)) (ci := 8) (v := .ref q323) (ty := .array .int) (C := RX8) (T := TX8) (N := 40) hx hb hts iX8_init_X8 tyX8 tyX8_ok nmX8 hown hK hP hD hS 0 rfl rfl 6 (by decide) (hts (.fieldLink RX8 91 "LeafSignerModel" "h" "[I") (List.mem_of_getElem? (i := 80) rfl)) (fun _ h9 => h9) rfl hin rfl (by decide +kernel) rfl rfl (Nat.le_of_ble_eq_true rfl) dX8_init_453 (fun H locs hP hD hS => ?_)
  have hP : va_P (dC, dI) classes [(h0, .inr (8, [.int 0, .int 0, .int 0, .ref q245, .ref q311, .ref q321, .ref q323, .null, .null, .int 0, .null, .null, .null, .null, .null, .null, .null, .null, .null, .null, .null, .null, .int 0, .null, .null, .null, .null, .null, .int 0, .int 0, .int 0, .int 0, .int 0, .int 0, .int 0, .int 0, .int 0, .null, .null, .null])), (q323, .inl (cA324, 8, .inl (fun _ => 0)))] H := hP
  have hD : va_D A [(h0, .inr (8, [.int 0, .int 0, .int 0, .ref q245, .ref q311, .ref q321, .ref q323, .null, .null, .int 0, .null, .null, .null, .null, .null, .null, .null, .null, .null, .null, .null, .null, .int 0, .null, .null, .null, .null, .null, .int 0, .int 0, .int 0, .int 0, .int 0, .int 0, .int 0, .int 0, .int 0, .null, .null, .null])), (q323, .inl (cA324, 8, .inl (fun _ => 0)))] := hD
  have hP := hP.sub (ws' := [(h0, .inr (8, [.int 0, .int 0, .int 0, .ref q245, .ref q311, .ref q321, .ref q323, .null, .null, .int 0, .null, .null, .null, .null, .null, .null, .null, .null, .null, .null, .null, .null, .int 0, .null, .null, .null, .null, .null, .int 0, .int 0, .int 0, .int 0, .int 0, .int 0, .int 0, .int 0, .int 0, .null, .null, .null]))]) [0] rfl
  have hD := hD.sub (ws' := [(h0, .inr (8, [.int 0, .int 0, .int 0, .ref q245, .ref q311, .ref q321, .ref q323, .null, .null, .int 0, .null, .null, .null, .null, .null, .null, .null, .null, .null, .null, .null, .null, .int 0, .null, .null, .null, .null, .null, .int 0, .int 0, .int 0, .int 0, .int 0, .int 0, .int 0, .int 0, .int 0, .null, .null, .null]))]) [0] (by decide) rfl
  have hK := hK.sub (tys' := []) [] rfl
  refine lv_aload_n hx hb dX8_init_456 rfl (lv_at hl 0 rfl) ?_
  refine lv_bipush (v := 8) hx hb dX8_init_457 (by decide) ?_
  refine va_newa (atype := .int) (ty := .int) (a0 := (8, .inl (fun _ => 0))) hx hb (hts (.arrayClass .int) (List.mem_of_getElem? (i := 4) rfl)) rfl hK hP hD hS hA (fun _ => rfl) (by decide) (by decide) (by decide) (Nat.le_of_ble_eq_true rfl) (Nat.le_of_ble_eq_true rfl) dX8_init_459 (fun q325 cA326 H hK hP hD hS => ?_)
  have hK : va_K (dC, dI) classes [(cA326, .int)] s := hK
  have hP : va_P (dC, dI) classes [(h0, .inr (8, [.int 0, .int 0, .int 0, .ref q245, .ref q311, .ref q321, .ref q323, .null, .null, .int 0, .null, .null, .null, .null, .null, .null, .null, .null, .null, .null, .null, .null, .int 0, .null, .null, .null, .null, .null, .int 0, .int 0, .int 0, .int 0, .int 0, .int 0, .int 0, .int 0, .int 0, .null, .null, .null])), (q325, .inl (cA326, 8, .inl (fun _ => 0)))] H := hP
  have hD : va_D A [(h0, .inr (8, [.int 0, .int 0, .int 0, .ref q245, .ref q311, .ref q321, .ref q323, .null, .null, .int 0, .null, .null, .null, .null, .null, .null, .null, .null, .null, .null, .null, .null, .int 0, .null, .null, .null, .null, .null, .int 0, .int 0, .int 0, .int 0, .int 0, .int 0, .int 0, .int 0, .int 0, .null, .null, .null])), (q325, .inl (cA326, 8, .inl (fun _ => 0)))] := hD
  refine W.widen (k := 5) (n := 152) (Nat.le_of_ble_eq_true rfl) (Nat.le_of_ble_eq_true rfl) ?_
  refine va_putF (D := (dC, dI)) (ci := 8) (v := .ref q325) (ty := .array .int) (C := RX8) (T := TX8) (N := 40) hx hb hts iX8_init_X8 tyX8 tyX8_ok nmX8 hown hK hP hD hS 0 rfl rfl 7 (by decide) (hts (.fieldLink RX8 94 "LeafSignerModel" "v" "[I") (List.mem_of_getElem? (i := 81) rfl)) (fun _ h9 => h9) rfl hin rfl (by decide +kernel) rfl rfl (Nat.le_of_ble_eq_true rfl) dX8_init_461 (fun H locs hP hD hS => ?_)
  have hP : va_P (dC, dI) classes [(h0, .inr (8, [.int 0, .int 0, .int 0, .ref q245, .ref q311, .ref q321, .ref q323, .ref q325, .null, .int 0, .null, .null, .null, .null, .null, .null, .null, .null, .null, .null, .null, .null, .int 0, .null, .null, .null, .null, .null, .int 0, .int 0, .int 0, .int 0, .int 0, .int 0, .int 0, .int 0, .int 0, .null, .null, .null])), (q325, .inl (cA326, 8, .inl (fun _ => 0)))] H := hP
  have hD : va_D A [(h0, .inr (8, [.int 0, .int 0, .int 0, .ref q245, .ref q311, .ref q321, .ref q323, .ref q325, .null, .int 0, .null, .null, .null, .null, .null, .null, .null, .null, .null, .null, .null, .null, .int 0, .null, .null, .null, .null, .null, .int 0, .int 0, .int 0, .int 0, .int 0, .int 0, .int 0, .int 0, .int 0, .null, .null, .null])), (q325, .inl (cA326, 8, .inl (fun _ => 0)))] := hD
  have hP := hP.sub (ws' := [(h0, .inr (8, [.int 0, .int 0, .int 0, .ref q245, .ref q311, .ref q321, .ref q323, .ref q325, .null, .int 0, .null, .null, .null, .null, .null, .null, .null, .null, .null, .null, .null, .null, .int 0, .null, .null, .null, .null, .null, .int 0, .int 0, .int 0, .int 0, .int 0, .int 0, .int 0, .int 0, .int 0, .null, .null, .null]))]) [0] rfl
  have hD := hD.sub (ws' := [(h0, .inr (8, [.int 0, .int 0, .int 0, .ref q245, .ref q311, .ref q321, .ref q323, .ref q325, .null, .int 0, .null, .null, .null, .null, .null, .null, .null, .null, .null, .null, .null, .null, .int 0, .null, .null, .null, .null, .null, .int 0, .int 0, .int 0, .int 0, .int 0, .int 0, .int 0, .int 0, .int 0, .null, .null, .null]))]) [0] (by decide) rfl
  have hK := hK.sub (tys' := []) [] rfl
  refine lv_aload_n hx hb dX8_init_464 rfl (lv_at hl 0 rfl) ?_
  refine lv_sipush (v := 512) hx hb dX8_init_465 (by decide) ?_
  refine va_newa (atype := .byte) (ty := .byte) (a0 := (512, .inl (fun _ => 0))) hx hb (hts (.arrayClass .byte) (List.mem_of_getElem? (i := 82) rfl)) rfl hK hP hD hS hA (fun _ => rfl) (by decide) (by decide) (by decide) (Nat.le_of_ble_eq_true rfl) (Nat.le_of_ble_eq_true rfl) dX8_init_468 (fun q327 cA328 H hK hP hD hS => ?_)
  have hK : va_K (dC, dI) classes [(cA328, .byte)] s := hK
  have hP : va_P (dC, dI) classes [(h0, .inr (8, [.int 0, .int 0, .int 0, .ref q245, .ref q311, .ref q321, .ref q323, .ref q325, .null, .int 0, .null, .null, .null, .null, .null, .null, .null, .null, .null, .null, .null, .null, .int 0, .null, .null, .null, .null, .null, .int 0, .int 0, .int 0, .int 0, .int 0, .int 0, .int 0, .int 0, .int 0, .null, .null, .null])), (q327, .inl (cA328, 512, .inl (fun _ => 0)))] H := hP
  have hD : va_D A [(h0, .inr (8, [.int 0, .int 0, .int 0, .ref q245, .ref q311, .ref q321, .ref q323, .ref q325, .null, .int 0, .null, .null, .null, .null, .null, .null, .null, .null, .null, .null, .null, .null, .int 0, .null, .null, .null, .null, .null, .int 0, .int 0, .int 0, .int 0, .int 0, .int 0, .int 0, .int 0, .int 0, .null, .null, .null])), (q327, .inl (cA328, 512, .inl (fun _ => 0)))] := hD
  refine W.widen (k := 6) (n := 664) (Nat.le_of_ble_eq_true rfl) (Nat.le_of_ble_eq_true rfl) ?_
  refine va_putF (D := (dC, dI)) (ci := 8) (v := .ref q327) (ty := .array .byte) (C := RX8) (T := TX8) (N := 40) hx hb hts iX8_init_X8 tyX8 tyX8_ok nmX8 hown hK hP hD hS 0 rfl rfl 8 (by decide) (hts (.fieldLink RX8 97 "LeafSignerModel" "told" "[B") (List.mem_of_getElem? (i := 83) rfl)) (fun _ h9 => h9) rfl hin rfl (by decide +kernel) rfl rfl (Nat.le_of_ble_eq_true rfl) dX8_init_470 (fun H locs hP hD hS => ?_)
  have hP : va_P (dC, dI) classes [(h0, .inr (8, [.int 0, .int 0, .int 0, .ref q245, .ref q311, .ref q321, .ref q323, .ref q325, .ref q327, .int 0, .null, .null, .null, .null, .null, .null, .null, .null, .null, .null, .null, .null, .int 0, .null, .null, .null, .null, .null, .int 0, .int 0, .int 0, .int 0, .int 0, .int 0, .int 0, .int 0, .int 0, .null, .null, .null])), (q327, .inl (cA328, 512, .inl (fun _ => 0)))] H := hP
  have hD : va_D A [(h0, .inr (8, [.int 0, .int 0, .int 0, .ref q245, .ref q311, .ref q321, .ref q323, .ref q325, .ref q327, .int 0, .null, .null, .null, .null, .null, .null, .null, .null, .null, .null, .null, .null, .int 0, .null, .null, .null, .null, .null, .int 0, .int 0, .int 0, .int 0, .int 0, .int 0, .int 0, .int 0, .int 0, .null, .null, .null])), (q327, .inl (cA328, 512, .inl (fun _ => 0)))] := hD
  have hP := hP.sub (ws' := [(h0, .inr (8, [.int 0, .int 0, .int 0, .ref q245, .ref q311, .ref q321, .ref q323, .ref q325, .ref q327, .int 0, .null, .null, .null, .null, .null, .null, .null, .null, .null, .null, .null, .null, .int 0, .null, .null, .null, .null, .null, .int 0, .int 0, .int 0, .int 0, .int 0, .int 0, .int 0, .int 0, .int 0, .null, .null, .null]))]) [0] rfl
  have hD := hD.sub (ws' := [(h0, .inr (8, [.int 0, .int 0, .int 0, .ref q245, .ref q311, .ref q321, .ref q323, .ref q325, .ref q327, .int 0, .null, .null, .null, .null, .null, .null, .null, .null, .null, .null, .null, .null, .int 0, .null, .null, .null, .null, .null, .int 0, .int 0, .int 0, .int 0, .int 0, .int 0, .int 0, .int 0, .int 0, .null, .null, .null]))]) [0] (by decide) rfl
  have hK := hK.sub (tys' := []) [] rfl
  refine lv_aload_n hx hb dX8_init_473 rfl (lv_at hl 0 rfl) ?_
  refine lv_bipush (v := 32) hx hb dX8_init_474 (by decide) ?_
  refine va_newa (atype := .byte) (ty := .byte) (a0 := (32, .inl (fun _ => 0))) hx hb (hts (.arrayClass .byte) (List.mem_of_getElem? (i := 82) rfl)) rfl hK hP hD hS hA (fun _ => rfl) (by decide) (by decide) (by decide) (Nat.le_of_ble_eq_true rfl) (Nat.le_of_ble_eq_true rfl) dX8_init_476 (fun q329 cA330 H hK hP hD hS => ?_)
  have hK : va_K (dC, dI) classes [(cA330, .byte)] s := hK
  have hP : va_P (dC, dI) classes [(h0, .inr (8, [.int 0, .int 0, .int 0, .ref q245, .ref q311, .ref q321, .ref q323, .ref q325, .ref q327, .int 0, .null, .null, .null, .null, .null, .null, .null, .null, .null, .null, .null, .null, .int 0, .null, .null, .null, .null, .null, .int 0, .int 0, .int 0, .int 0, .int 0, .int 0, .int 0, .int 0, .int 0, .null, .null, .null])), (q329, .inl (cA330, 32, .inl (fun _ => 0)))] H := hP
  have hD : va_D A [(h0, .inr (8, [.int 0, .int 0, .int 0, .ref q245, .ref q311, .ref q321, .ref q323, .ref q325, .ref q327, .int 0, .null, .null, .null, .null, .null, .null, .null, .null, .null, .null, .null, .null, .int 0, .null, .null, .null, .null, .null, .int 0, .int 0, .int 0, .int 0, .int 0, .int 0, .int 0, .int 0, .int 0, .null, .null, .null])), (q329, .inl (cA330, 32, .inl (fun _ => 0)))] := hD
  refine W.widen (k := 7) (n := 696) (Nat.le_of_ble_eq_true rfl) (Nat.le_of_ble_eq_true rfl) ?_
  refine va_putF (D := (dC, dI)) (ci := 8) (v := .ref q329) (ty := .array .byte) (C := RX8) (T := TX8) (N := 40) hx hb hts iX8_init_X8 tyX8 tyX8_ok nmX8 hown hK hP hD hS 0 rfl rfl 10 (by decide) (hts (.fieldLink RX8 101 "LeafSignerModel" "address" "[B") (List.mem_of_getElem? (i := 84) rfl)) (fun _ h9 => h9) rfl hin rfl (by decide +kernel) rfl rfl (Nat.le_of_ble_eq_true rfl) dX8_init_478 (fun H locs hP hD hS => ?_)
  have hP : va_P (dC, dI) classes [(h0, .inr (8, [.int 0, .int 0, .int 0, .ref q245, .ref q311, .ref q321, .ref q323, .ref q325, .ref q327, .int 0, .ref q329, .null, .null, .null, .null, .null, .null, .null, .null, .null, .null, .null, .int 0, .null, .null, .null, .null, .null, .int 0, .int 0, .int 0, .int 0, .int 0, .int 0, .int 0, .int 0, .int 0, .null, .null, .null])), (q329, .inl (cA330, 32, .inl (fun _ => 0)))] H := hP
  have hD : va_D A [(h0, .inr (8, [.int 0, .int 0, .int 0, .ref q245, .ref q311, .ref q321, .ref q323, .ref q325, .ref q327, .int 0, .ref q329, .null, .null, .null, .null, .null, .null, .null, .null, .null, .null, .null, .int 0, .null, .null, .null, .null, .null, .int 0, .int 0, .int 0, .int 0, .int 0, .int 0, .int 0, .int 0, .int 0, .null, .null, .null])), (q329, .inl (cA330, 32, .inl (fun _ => 0)))] := hD
  have hP := hP.sub (ws' := [(h0, .inr (8, [.int 0, .int 0, .int 0, .ref q245, .ref q311, .ref q321, .ref q323, .ref q325, .ref q327, .int 0, .ref q329, .null, .null, .null, .null, .null, .null, .null, .null, .null, .null, .null, .int 0, .null, .null, .null, .null, .null, .int 0, .int 0, .int 0, .int 0, .int 0, .int 0, .int 0, .int 0, .int 0, .null, .null, .null]))]) [0] rfl
  have hD := hD.sub (ws' := [(h0, .inr (8, [.int 0, .int 0, .int 0, .ref q245, .ref q311, .ref q321, .ref q323, .ref q325, .ref q327, .int 0, .ref q329, .null, .null, .null, .null, .null, .null, .null, .null, .null, .null, .null, .int 0, .null, .null, .null, .null, .null, .int 0, .int 0, .int 0, .int 0, .int 0, .int 0, .int 0, .int 0, .int 0, .null, .null, .null]))]) [0] (by decide) rfl
  have hK := hK.sub (tys' := []) [] rfl
  refine lv_aload_n hx hb dX8_init_481 rfl (lv_at hl 0 rfl) ?_
  refine lv_bipush (v := 32) hx hb dX8_init_482 (by decide) ?_
  refine va_newa (atype := .byte) (ty := .byte) (a0 := (32, .inl (fun _ => 0))) hx hb (hts (.arrayClass .byte) (List.mem_of_getElem? (i := 82) rfl)) rfl hK hP hD hS hA (fun _ => rfl) (by decide) (by decide) (by decide) (Nat.le_of_ble_eq_true rfl) (Nat.le_of_ble_eq_true rfl) dX8_init_484 (fun q331 cA332 H hK hP hD hS => ?_)
  have hK : va_K (dC, dI) classes [(cA332, .byte)] s := hK
  have hP : va_P (dC, dI) classes [(h0, .inr (8, [.int 0, .int 0, .int 0, .ref q245, .ref q311, .ref q321, .ref q323, .ref q325, .ref q327, .int 0, .ref q329, .null, .null, .null, .null, .null, .null, .null, .null, .null, .null, .null, .int 0, .null, .null, .null, .null, .null, .int 0, .int 0, .int 0, .int 0, .int 0, .int 0, .int 0, .int 0, .int 0, .null, .null, .null])), (q331, .inl (cA332, 32, .inl (fun _ => 0)))] H := hP
  have hD : va_D A [(h0, .inr (8, [.int 0, .int 0, .int 0, .ref q245, .ref q311, .ref q321, .ref q323, .ref q325, .ref q327, .int 0, .ref q329, .null, .null, .null, .null, .null, .null, .null, .null, .null, .null, .null, .int 0, .null, .null, .null, .null, .null, .int 0, .int 0, .int 0, .int 0, .int 0, .int 0, .int 0, .int 0, .int 0, .null, .null, .null])), (q331, .inl (cA332, 32, .inl (fun _ => 0)))] := hD
  refine W.widen (k := 8) (n := 728) (Nat.le_of_ble_eq_true rfl) (Nat.le_of_ble_eq_true rfl) ?_
  refine va_putF (D := (dC, dI)) (ci := 8) (v := .ref q331) (ty := .array .byte) (C := RX8) (T := TX8) (N := 40) hx hb hts iX8_init_X8 tyX8 tyX8_ok nmX8 hown hK hP hD hS 0 rfl rfl 11 (by decide) (hts (.fieldLink RX8 104 "LeafSignerModel" "seed" "[B") (List.mem_of_getElem? (i := 85) rfl)) (fun _ h9 => h9) rfl hin rfl (by decide +kernel) rfl rfl (Nat.le_of_ble_eq_true rfl) dX8_init_486 (fun H locs hP hD hS => ?_)
  have hP : va_P (dC, dI) classes [(h0, .inr (8, [.int 0, .int 0, .int 0, .ref q245, .ref q311, .ref q321, .ref q323, .ref q325, .ref q327, .int 0, .ref q329, .ref q331, .null, .null, .null, .null, .null, .null, .null, .null, .null, .null, .int 0, .null, .null, .null, .null, .null, .int 0, .int 0, .int 0, .int 0, .int 0, .int 0, .int 0, .int 0, .int 0, .null, .null, .null])), (q331, .inl (cA332, 32, .inl (fun _ => 0)))] H := hP
  have hD : va_D A [(h0, .inr (8, [.int 0, .int 0, .int 0, .ref q245, .ref q311, .ref q321, .ref q323, .ref q325, .ref q327, .int 0, .ref q329, .ref q331, .null, .null, .null, .null, .null, .null, .null, .null, .null, .null, .int 0, .null, .null, .null, .null, .null, .int 0, .int 0, .int 0, .int 0, .int 0, .int 0, .int 0, .int 0, .int 0, .null, .null, .null])), (q331, .inl (cA332, 32, .inl (fun _ => 0)))] := hD
  have hP := hP.sub (ws' := [(h0, .inr (8, [.int 0, .int 0, .int 0, .ref q245, .ref q311, .ref q321, .ref q323, .ref q325, .ref q327, .int 0, .ref q329, .ref q331, .null, .null, .null, .null, .null, .null, .null, .null, .null, .null, .int 0, .null, .null, .null, .null, .null, .int 0, .int 0, .int 0, .int 0, .int 0, .int 0, .int 0, .int 0, .int 0, .null, .null, .null]))]) [0] rfl
  have hD := hD.sub (ws' := [(h0, .inr (8, [.int 0, .int 0, .int 0, .ref q245, .ref q311, .ref q321, .ref q323, .ref q325, .ref q327, .int 0, .ref q329, .ref q331, .null, .null, .null, .null, .null, .null, .null, .null, .null, .null, .int 0, .null, .null, .null, .null, .null, .int 0, .int 0, .int 0, .int 0, .int 0, .int 0, .int 0, .int 0, .int 0, .null, .null, .null]))]) [0] (by decide) rfl
  have hK := hK.sub (tys' := []) [] rfl
  refine lv_aload_n hx hb dX8_init_489 rfl (lv_at hl 0 rfl) ?_
  refine lv_bipush (v := 32) hx hb dX8_init_490 (by decide) ?_
  refine va_newa (atype := .byte) (ty := .byte) (a0 := (32, .inl (fun _ => 0))) hx hb (hts (.arrayClass .byte) (List.mem_of_getElem? (i := 82) rfl)) rfl hK hP hD hS hA (fun _ => rfl) (by decide) (by decide) (by decide) (Nat.le_of_ble_eq_true rfl) (Nat.le_of_ble_eq_true rfl) dX8_init_492 (fun q333 cA334 H hK hP hD hS => ?_)
  have hK : va_K (dC, dI) classes [(cA334, .byte)] s := hK
  have hP : va_P (dC, dI) classes [(h0, .inr (8, [.int 0, .int 0, .int 0, .ref q245, .ref q311, .ref q321, .ref q323, .ref q325, .ref q327, .int 0, .ref q329, .ref q331, .null, .null, .null, .null, .null, .null, .null, .null, .null, .null, .int 0, .null, .null, .null, .null, .null, .int 0, .int 0, .int 0, .int 0, .int 0, .int 0, .int 0, .int 0, .int 0, .null, .null, .null])), (q333, .inl (cA334, 32, .inl (fun _ => 0)))] H := hP
  have hD : va_D A [(h0, .inr (8, [.int 0, .int 0, .int 0, .ref q245, .ref q311, .ref q321, .ref q323, .ref q325, .ref q327, .int 0, .ref q329, .ref q331, .null, .null, .null, .null, .null, .null, .null, .null, .null, .null, .int 0, .null, .null, .null, .null, .null, .int 0, .int 0, .int 0, .int 0, .int 0, .int 0, .int 0, .int 0, .int 0, .null, .null, .null])), (q333, .inl (cA334, 32, .inl (fun _ => 0)))] := hD
  refine W.widen (k := 9) (n := 760) (Nat.le_of_ble_eq_true rfl) (Nat.le_of_ble_eq_true rfl) ?_
  refine va_putF (D := (dC, dI)) (ci := 8) (v := .ref q333) (ty := .array .byte) (C := RX8) (T := TX8) (N := 40) hx hb hts iX8_init_X8 tyX8 tyX8_ok nmX8 hown hK hP hD hS 0 rfl rfl 12 (by decide) (hts (.fieldLink RX8 107 "LeafSignerModel" "key" "[B") (List.mem_of_getElem? (i := 86) rfl)) (fun _ h9 => h9) rfl hin rfl (by decide +kernel) rfl rfl (Nat.le_of_ble_eq_true rfl) dX8_init_494 (fun H locs hP hD hS => ?_)
  have hP : va_P (dC, dI) classes [(h0, .inr (8, [.int 0, .int 0, .int 0, .ref q245, .ref q311, .ref q321, .ref q323, .ref q325, .ref q327, .int 0, .ref q329, .ref q331, .ref q333, .null, .null, .null, .null, .null, .null, .null, .null, .null, .int 0, .null, .null, .null, .null, .null, .int 0, .int 0, .int 0, .int 0, .int 0, .int 0, .int 0, .int 0, .int 0, .null, .null, .null])), (q333, .inl (cA334, 32, .inl (fun _ => 0)))] H := hP
  have hD : va_D A [(h0, .inr (8, [.int 0, .int 0, .int 0, .ref q245, .ref q311, .ref q321, .ref q323, .ref q325, .ref q327, .int 0, .ref q329, .ref q331, .ref q333, .null, .null, .null, .null, .null, .null, .null, .null, .null, .int 0, .null, .null, .null, .null, .null, .int 0, .int 0, .int 0, .int 0, .int 0, .int 0, .int 0, .int 0, .int 0, .null, .null, .null])), (q333, .inl (cA334, 32, .inl (fun _ => 0)))] := hD
  have hP := hP.sub (ws' := [(h0, .inr (8, [.int 0, .int 0, .int 0, .ref q245, .ref q311, .ref q321, .ref q323, .ref q325, .ref q327, .int 0, .ref q329, .ref q331, .ref q333, .null, .null, .null, .null, .null, .null, .null, .null, .null, .int 0, .null, .null, .null, .null, .null, .int 0, .int 0, .int 0, .int 0, .int 0, .int 0, .int 0, .int 0, .int 0, .null, .null, .null]))]) [0] rfl
  have hD := hD.sub (ws' := [(h0, .inr (8, [.int 0, .int 0, .int 0, .ref q245, .ref q311, .ref q321, .ref q323, .ref q325, .ref q327, .int 0, .ref q329, .ref q331, .ref q333, .null, .null, .null, .null, .null, .null, .null, .null, .null, .int 0, .null, .null, .null, .null, .null, .int 0, .int 0, .int 0, .int 0, .int 0, .int 0, .int 0, .int 0, .int 0, .null, .null, .null]))]) [0] (by decide) rfl
  have hK := hK.sub (tys' := []) [] rfl
  refine lv_aload_n hx hb dX8_init_497 rfl (lv_at hl 0 rfl) ?_
  refine lv_bipush (v := 32) hx hb dX8_init_498 (by decide) ?_
  refine va_newa (atype := .byte) (ty := .byte) (a0 := (32, .inl (fun _ => 0))) hx hb (hts (.arrayClass .byte) (List.mem_of_getElem? (i := 82) rfl)) rfl hK hP hD hS hA (fun _ => rfl) (by decide) (by decide) (by decide) (Nat.le_of_ble_eq_true rfl) (Nat.le_of_ble_eq_true rfl) dX8_init_500 (fun q335 cA336 H hK hP hD hS => ?_)
  have hK : va_K (dC, dI) classes [(cA336, .byte)] s := hK
  have hP : va_P (dC, dI) classes [(h0, .inr (8, [.int 0, .int 0, .int 0, .ref q245, .ref q311, .ref q321, .ref q323, .ref q325, .ref q327, .int 0, .ref q329, .ref q331, .ref q333, .null, .null, .null, .null, .null, .null, .null, .null, .null, .int 0, .null, .null, .null, .null, .null, .int 0, .int 0, .int 0, .int 0, .int 0, .int 0, .int 0, .int 0, .int 0, .null, .null, .null])), (q335, .inl (cA336, 32, .inl (fun _ => 0)))] H := hP
  have hD : va_D A [(h0, .inr (8, [.int 0, .int 0, .int 0, .ref q245, .ref q311, .ref q321, .ref q323, .ref q325, .ref q327, .int 0, .ref q329, .ref q331, .ref q333, .null, .null, .null, .null, .null, .null, .null, .null, .null, .int 0, .null, .null, .null, .null, .null, .int 0, .int 0, .int 0, .int 0, .int 0, .int 0, .int 0, .int 0, .int 0, .null, .null, .null])), (q335, .inl (cA336, 32, .inl (fun _ => 0)))] := hD
  refine W.widen (k := 10) (n := 792) (Nat.le_of_ble_eq_true rfl) (Nat.le_of_ble_eq_true rfl) ?_
  refine va_putF (D := (dC, dI)) (ci := 8) (v := .ref q335) (ty := .array .byte) (C := RX8) (T := TX8) (N := 40) hx hb hts iX8_init_X8 tyX8 tyX8_ok nmX8 hown hK hP hD hS 0 rfl rfl 13 (by decide) (hts (.fieldLink RX8 110 "LeafSignerModel" "mask" "[B") (List.mem_of_getElem? (i := 87) rfl)) (fun _ h9 => h9) rfl hin rfl (by decide +kernel) rfl rfl (Nat.le_of_ble_eq_true rfl) dX8_init_502 (fun H locs hP hD hS => ?_)
  have hP : va_P (dC, dI) classes [(h0, .inr (8, [.int 0, .int 0, .int 0, .ref q245, .ref q311, .ref q321, .ref q323, .ref q325, .ref q327, .int 0, .ref q329, .ref q331, .ref q333, .ref q335, .null, .null, .null, .null, .null, .null, .null, .null, .int 0, .null, .null, .null, .null, .null, .int 0, .int 0, .int 0, .int 0, .int 0, .int 0, .int 0, .int 0, .int 0, .null, .null, .null])), (q335, .inl (cA336, 32, .inl (fun _ => 0)))] H := hP
  have hD : va_D A [(h0, .inr (8, [.int 0, .int 0, .int 0, .ref q245, .ref q311, .ref q321, .ref q323, .ref q325, .ref q327, .int 0, .ref q329, .ref q331, .ref q333, .ref q335, .null, .null, .null, .null, .null, .null, .null, .null, .int 0, .null, .null, .null, .null, .null, .int 0, .int 0, .int 0, .int 0, .int 0, .int 0, .int 0, .int 0, .int 0, .null, .null, .null])), (q335, .inl (cA336, 32, .inl (fun _ => 0)))] := hD
  have hP := hP.sub (ws' := [(h0, .inr (8, [.int 0, .int 0, .int 0, .ref q245, .ref q311, .ref q321, .ref q323, .ref q325, .ref q327, .int 0, .ref q329, .ref q331, .ref q333, .ref q335, .null, .null, .null, .null, .null, .null, .null, .null, .int 0, .null, .null, .null, .null, .null, .int 0, .int 0, .int 0, .int 0, .int 0, .int 0, .int 0, .int 0, .int 0, .null, .null, .null]))]) [0] rfl
  have hD := hD.sub (ws' := [(h0, .inr (8, [.int 0, .int 0, .int 0, .ref q245, .ref q311, .ref q321, .ref q323, .ref q325, .ref q327, .int 0, .ref q329, .ref q331, .ref q333, .ref q335, .null, .null, .null, .null, .null, .null, .null, .null, .int 0, .null, .null, .null, .null, .null, .int 0, .int 0, .int 0, .int 0, .int 0, .int 0, .int 0, .int 0, .int 0, .null, .null, .null]))]) [0] (by decide) rfl
  have hK := hK.sub (tys' := []) [] rfl
  refine lv_aload_n hx hb dX8_init_505 rfl (lv_at hl 0 rfl) ?_
  refine lv_bipush (v := 32) hx hb dX8_init_506 (by decide) ?_
  refine va_newa (atype := .byte) (ty := .byte) (a0 := (32, .inl (fun _ => 0))) hx hb (hts (.arrayClass .byte) (List.mem_of_getElem? (i := 82) rfl)) rfl hK hP hD hS hA (fun _ => rfl) (by decide) (by decide) (by decide) (Nat.le_of_ble_eq_true rfl) (Nat.le_of_ble_eq_true rfl) dX8_init_508 (fun q337 cA338 H hK hP hD hS => ?_)
  have hK : va_K (dC, dI) classes [(cA338, .byte)] s := hK
  have hP : va_P (dC, dI) classes [(h0, .inr (8, [.int 0, .int 0, .int 0, .ref q245, .ref q311, .ref q321, .ref q323, .ref q325, .ref q327, .int 0, .ref q329, .ref q331, .ref q333, .ref q335, .null, .null, .null, .null, .null, .null, .null, .null, .int 0, .null, .null, .null, .null, .null, .int 0, .int 0, .int 0, .int 0, .int 0, .int 0, .int 0, .int 0, .int 0, .null, .null, .null])), (q337, .inl (cA338, 32, .inl (fun _ => 0)))] H := hP
  have hD : va_D A [(h0, .inr (8, [.int 0, .int 0, .int 0, .ref q245, .ref q311, .ref q321, .ref q323, .ref q325, .ref q327, .int 0, .ref q329, .ref q331, .ref q333, .ref q335, .null, .null, .null, .null, .null, .null, .null, .null, .int 0, .null, .null, .null, .null, .null, .int 0, .int 0, .int 0, .int 0, .int 0, .int 0, .int 0, .int 0, .int 0, .null, .null, .null])), (q337, .inl (cA338, 32, .inl (fun _ => 0)))] := hD
  refine W.widen (k := 11) (n := 824) (Nat.le_of_ble_eq_true rfl) (Nat.le_of_ble_eq_true rfl) ?_
  refine va_putF (D := (dC, dI)) (ci := 8) (v := .ref q337) (ty := .array .byte) (C := RX8) (T := TX8) (N := 40) hx hb hts iX8_init_X8 tyX8 tyX8_ok nmX8 hown hK hP hD hS 0 rfl rfl 14 (by decide) (hts (.fieldLink RX8 113 "LeafSignerModel" "other" "[B") (List.mem_of_getElem? (i := 88) rfl)) (fun _ h9 => h9) rfl hin rfl (by decide +kernel) rfl rfl (Nat.le_of_ble_eq_true rfl) dX8_init_510 (fun H locs hP hD hS => ?_)
  have hP : va_P (dC, dI) classes [(h0, .inr (8, [.int 0, .int 0, .int 0, .ref q245, .ref q311, .ref q321, .ref q323, .ref q325, .ref q327, .int 0, .ref q329, .ref q331, .ref q333, .ref q335, .ref q337, .null, .null, .null, .null, .null, .null, .null, .int 0, .null, .null, .null, .null, .null, .int 0, .int 0, .int 0, .int 0, .int 0, .int 0, .int 0, .int 0, .int 0, .null, .null, .null])), (q337, .inl (cA338, 32, .inl (fun _ => 0)))] H := hP
  have hD : va_D A [(h0, .inr (8, [.int 0, .int 0, .int 0, .ref q245, .ref q311, .ref q321, .ref q323, .ref q325, .ref q327, .int 0, .ref q329, .ref q331, .ref q333, .ref q335, .ref q337, .null, .null, .null, .null, .null, .null, .null, .int 0, .null, .null, .null, .null, .null, .int 0, .int 0, .int 0, .int 0, .int 0, .int 0, .int 0, .int 0, .int 0, .null, .null, .null])), (q337, .inl (cA338, 32, .inl (fun _ => 0)))] := hD
  have hP := hP.sub (ws' := [(h0, .inr (8, [.int 0, .int 0, .int 0, .ref q245, .ref q311, .ref q321, .ref q323, .ref q325, .ref q327, .int 0, .ref q329, .ref q331, .ref q333, .ref q335, .ref q337, .null, .null, .null, .null, .null, .null, .null, .int 0, .null, .null, .null, .null, .null, .int 0, .int 0, .int 0, .int 0, .int 0, .int 0, .int 0, .int 0, .int 0, .null, .null, .null]))]) [0] rfl
  have hD := hD.sub (ws' := [(h0, .inr (8, [.int 0, .int 0, .int 0, .ref q245, .ref q311, .ref q321, .ref q323, .ref q325, .ref q327, .int 0, .ref q329, .ref q331, .ref q333, .ref q335, .ref q337, .null, .null, .null, .null, .null, .null, .null, .int 0, .null, .null, .null, .null, .null, .int 0, .int 0, .int 0, .int 0, .int 0, .int 0, .int 0, .int 0, .int 0, .null, .null, .null]))]) [0] (by decide) rfl
  have hK := hK.sub (tys' := []) [] rfl
  refine lv_aload_n hx hb dX8_init_513 rfl (lv_at hl 0 rfl) ?_
  refine lv_bipush (v := 64) hx hb dX8_init_514 (by decide) ?_
  refine va_newa (atype := .byte) (ty := .byte) (a0 := (64, .inl (fun _ => 0))) hx hb (hts (.arrayClass .byte) (List.mem_of_getElem? (i := 82) rfl)) rfl hK hP hD hS hA (fun _ => rfl) (by decide) (by decide) (by decide) (Nat.le_of_ble_eq_true rfl) (Nat.le_of_ble_eq_true rfl) dX8_init_516 (fun q339 cA340 H hK hP hD hS => ?_)
  have hK : va_K (dC, dI) classes [(cA340, .byte)] s := hK
  have hP : va_P (dC, dI) classes [(h0, .inr (8, [.int 0, .int 0, .int 0, .ref q245, .ref q311, .ref q321, .ref q323, .ref q325, .ref q327, .int 0, .ref q329, .ref q331, .ref q333, .ref q335, .ref q337, .null, .null, .null, .null, .null, .null, .null, .int 0, .null, .null, .null, .null, .null, .int 0, .int 0, .int 0, .int 0, .int 0, .int 0, .int 0, .int 0, .int 0, .null, .null, .null])), (q339, .inl (cA340, 64, .inl (fun _ => 0)))] H := hP
  have hD : va_D A [(h0, .inr (8, [.int 0, .int 0, .int 0, .ref q245, .ref q311, .ref q321, .ref q323, .ref q325, .ref q327, .int 0, .ref q329, .ref q331, .ref q333, .ref q335, .ref q337, .null, .null, .null, .null, .null, .null, .null, .int 0, .null, .null, .null, .null, .null, .int 0, .int 0, .int 0, .int 0, .int 0, .int 0, .int 0, .int 0, .int 0, .null, .null, .null])), (q339, .inl (cA340, 64, .inl (fun _ => 0)))] := hD
  refine W.widen (k := 12) (n := 888) (Nat.le_of_ble_eq_true rfl) (Nat.le_of_ble_eq_true rfl) ?_
  refine va_putF (D := (dC, dI)) (ci := 8) (v := .ref q339) (ty := .array .byte) (C := RX8) (T := TX8) (N := 40) hx hb hts iX8_init_X8 tyX8 tyX8_ok nmX8 hown hK hP hD hS 0 rfl rfl 15 (by decide) (hts (.fieldLink RX8 116 "LeafSignerModel" "mixed" "[B") (List.mem_of_getElem? (i := 89) rfl)) (fun _ h9 => h9) rfl hin rfl (by decide +kernel) rfl rfl (Nat.le_of_ble_eq_true rfl) dX8_init_518 (fun H locs hP hD hS => ?_)
  have hP : va_P (dC, dI) classes [(h0, .inr (8, [.int 0, .int 0, .int 0, .ref q245, .ref q311, .ref q321, .ref q323, .ref q325, .ref q327, .int 0, .ref q329, .ref q331, .ref q333, .ref q335, .ref q337, .ref q339, .null, .null, .null, .null, .null, .null, .int 0, .null, .null, .null, .null, .null, .int 0, .int 0, .int 0, .int 0, .int 0, .int 0, .int 0, .int 0, .int 0, .null, .null, .null])), (q339, .inl (cA340, 64, .inl (fun _ => 0)))] H := hP
  have hD : va_D A [(h0, .inr (8, [.int 0, .int 0, .int 0, .ref q245, .ref q311, .ref q321, .ref q323, .ref q325, .ref q327, .int 0, .ref q329, .ref q331, .ref q333, .ref q335, .ref q337, .ref q339, .null, .null, .null, .null, .null, .null, .int 0, .null, .null, .null, .null, .null, .int 0, .int 0, .int 0, .int 0, .int 0, .int 0, .int 0, .int 0, .int 0, .null, .null, .null])), (q339, .inl (cA340, 64, .inl (fun _ => 0)))] := hD
  have hP := hP.sub (ws' := [(h0, .inr (8, [.int 0, .int 0, .int 0, .ref q245, .ref q311, .ref q321, .ref q323, .ref q325, .ref q327, .int 0, .ref q329, .ref q331, .ref q333, .ref q335, .ref q337, .ref q339, .null, .null, .null, .null, .null, .null, .int 0, .null, .null, .null, .null, .null, .int 0, .int 0, .int 0, .int 0, .int 0, .int 0, .int 0, .int 0, .int 0, .null, .null, .null]))]) [0] rfl
  have hD := hD.sub (ws' := [(h0, .inr (8, [.int 0, .int 0, .int 0, .ref q245, .ref q311, .ref q321, .ref q323, .ref q325, .ref q327, .int 0, .ref q329, .ref q331, .ref q333, .ref q335, .ref q337, .ref q339, .null, .null, .null, .null, .null, .null, .int 0, .null, .null, .null, .null, .null, .int 0, .int 0, .int 0, .int 0, .int 0, .int 0, .int 0, .int 0, .int 0, .null, .null, .null]))]) [0] (by decide) rfl
  have hK := hK.sub (tys' := []) [] rfl
  refine lv_aload_n hx hb dX8_init_521 rfl (lv_at hl 0 rfl) ?_
  refine lv_bipush (v := 32) hx hb dX8_init_522 (by decide) ?_
  refine va_newa (atype := .byte) (ty := .byte) (a0 := (32, .inl (fun _ => 0))) hx hb (hts (.arrayClass .byte) (List.mem_of_getElem? (i := 82) rfl)) rfl hK hP hD hS hA (fun _ => rfl) (by decide) (by decide) (by decide) (Nat.le_of_ble_eq_true rfl) (Nat.le_of_ble_eq_true rfl) dX8_init_524 (fun q341 cA342 H hK hP hD hS => ?_)
  have hK : va_K (dC, dI) classes [(cA342, .byte)] s := hK
  have hP : va_P (dC, dI) classes [(h0, .inr (8, [.int 0, .int 0, .int 0, .ref q245, .ref q311, .ref q321, .ref q323, .ref q325, .ref q327, .int 0, .ref q329, .ref q331, .ref q333, .ref q335, .ref q337, .ref q339, .null, .null, .null, .null, .null, .null, .int 0, .null, .null, .null, .null, .null, .int 0, .int 0, .int 0, .int 0, .int 0, .int 0, .int 0, .int 0, .int 0, .null, .null, .null])), (q341, .inl (cA342, 32, .inl (fun _ => 0)))] H := hP
  have hD : va_D A [(h0, .inr (8, [.int 0, .int 0, .int 0, .ref q245, .ref q311, .ref q321, .ref q323, .ref q325, .ref q327, .int 0, .ref q329, .ref q331, .ref q333, .ref q335, .ref q337, .ref q339, .null, .null, .null, .null, .null, .null, .int 0, .null, .null, .null, .null, .null, .int 0, .int 0, .int 0, .int 0, .int 0, .int 0, .int 0, .int 0, .int 0, .null, .null, .null])), (q341, .inl (cA342, 32, .inl (fun _ => 0)))] := hD
  refine W.widen (k := 13) (n := 920) (Nat.le_of_ble_eq_true rfl) (Nat.le_of_ble_eq_true rfl) ?_
  refine va_putF (D := (dC, dI)) (ci := 8) (v := .ref q341) (ty := .array .byte) (C := RX8) (T := TX8) (N := 40) hx hb hts iX8_init_X8 tyX8 tyX8_ok nmX8 hown hK hP hD hS 0 rfl rfl 16 (by decide) (hts (.fieldLink RX8 119 "LeafSignerModel" "secret" "[B") (List.mem_of_getElem? (i := 90) rfl)) (fun _ h9 => h9) rfl hin rfl (by decide +kernel) rfl rfl (Nat.le_of_ble_eq_true rfl) dX8_init_526 (fun H locs hP hD hS => ?_)
  have hP : va_P (dC, dI) classes [(h0, .inr (8, [.int 0, .int 0, .int 0, .ref q245, .ref q311, .ref q321, .ref q323, .ref q325, .ref q327, .int 0, .ref q329, .ref q331, .ref q333, .ref q335, .ref q337, .ref q339, .ref q341, .null, .null, .null, .null, .null, .int 0, .null, .null, .null, .null, .null, .int 0, .int 0, .int 0, .int 0, .int 0, .int 0, .int 0, .int 0, .int 0, .null, .null, .null])), (q341, .inl (cA342, 32, .inl (fun _ => 0)))] H := hP
  have hD : va_D A [(h0, .inr (8, [.int 0, .int 0, .int 0, .ref q245, .ref q311, .ref q321, .ref q323, .ref q325, .ref q327, .int 0, .ref q329, .ref q331, .ref q333, .ref q335, .ref q337, .ref q339, .ref q341, .null, .null, .null, .null, .null, .int 0, .null, .null, .null, .null, .null, .int 0, .int 0, .int 0, .int 0, .int 0, .int 0, .int 0, .int 0, .int 0, .null, .null, .null])), (q341, .inl (cA342, 32, .inl (fun _ => 0)))] := hD
  have hP := hP.sub (ws' := [(h0, .inr (8, [.int 0, .int 0, .int 0, .ref q245, .ref q311, .ref q321, .ref q323, .ref q325, .ref q327, .int 0, .ref q329, .ref q331, .ref q333, .ref q335, .ref q337, .ref q339, .ref q341, .null, .null, .null, .null, .null, .int 0, .null, .null, .null, .null, .null, .int 0, .int 0, .int 0, .int 0, .int 0, .int 0, .int 0, .int 0, .int 0, .null, .null, .null]))]) [0] rfl
  have hD := hD.sub (ws' := [(h0, .inr (8, [.int 0, .int 0, .int 0, .ref q245, .ref q311, .ref q321, .ref q323, .ref q325, .ref q327, .int 0, .ref q329, .ref q331, .ref q333, .ref q335, .ref q337, .ref q339, .ref q341, .null, .null, .null, .null, .null, .int 0, .null, .null, .null, .null, .null, .int 0, .int 0, .int 0, .int 0, .int 0, .int 0, .int 0, .int 0, .int 0, .null, .null, .null]))]) [0] (by decide) rfl
  have hK := hK.sub (tys' := []) [] rfl
  refine lv_aload_n hx hb dX8_init_529 rfl (lv_at hl 0 rfl) ?_
  refine lv_bipush (v := 32) hx hb dX8_init_530 (by decide) ?_
  refine va_newa (atype := .byte) (ty := .byte) (a0 := (32, .inl (fun _ => 0))) hx hb (hts (.arrayClass .byte) (List.mem_of_getElem? (i := 82) rfl)) rfl hK hP hD hS hA (fun _ => rfl) (by decide) (by decide) (by decide) (Nat.le_of_ble_eq_true rfl) (Nat.le_of_ble_eq_true rfl) dX8_init_532 (fun q343 cA344 H hK hP hD hS => ?_)
  have hK : va_K (dC, dI) classes [(cA344, .byte)] s := hK
  have hP : va_P (dC, dI) classes [(h0, .inr (8, [.int 0, .int 0, .int 0, .ref q245, .ref q311, .ref q321, .ref q323, .ref q325, .ref q327, .int 0, .ref q329, .ref q331, .ref q333, .ref q335, .ref q337, .ref q339, .ref q341, .null, .null, .null, .null, .null, .int 0, .null, .null, .null, .null, .null, .int 0, .int 0, .int 0, .int 0, .int 0, .int 0, .int 0, .int 0, .int 0, .null, .null, .null])), (q343, .inl (cA344, 32, .inl (fun _ => 0)))] H := hP
  have hD : va_D A [(h0, .inr (8, [.int 0, .int 0, .int 0, .ref q245, .ref q311, .ref q321, .ref q323, .ref q325, .ref q327, .int 0, .ref q329, .ref q331, .ref q333, .ref q335, .ref q337, .ref q339, .ref q341, .null, .null, .null, .null, .null, .int 0, .null, .null, .null, .null, .null, .int 0, .int 0, .int 0, .int 0, .int 0, .int 0, .int 0, .int 0, .int 0, .null, .null, .null])), (q343, .inl (cA344, 32, .inl (fun _ => 0)))] := hD
  refine W.widen (k := 14) (n := 952) (Nat.le_of_ble_eq_true rfl) (Nat.le_of_ble_eq_true rfl) ?_
  refine va_putF (D := (dC, dI)) (ci := 8) (v := .ref q343) (ty := .array .byte) (C := RX8) (T := TX8) (N := 40) hx hb hts iX8_init_X8 tyX8 tyX8_ok nmX8 hown hK hP hD hS 0 rfl rfl 17 (by decide) (hts (.fieldLink RX8 122 "LeafSignerModel" "random" "[B") (List.mem_of_getElem? (i := 91) rfl)) (fun _ h9 => h9) rfl hin rfl (by decide +kernel) rfl rfl (Nat.le_of_ble_eq_true rfl) dX8_init_534 (fun H locs hP hD hS => ?_)
  have hP : va_P (dC, dI) classes [(h0, .inr (8, [.int 0, .int 0, .int 0, .ref q245, .ref q311, .ref q321, .ref q323, .ref q325, .ref q327, .int 0, .ref q329, .ref q331, .ref q333, .ref q335, .ref q337, .ref q339, .ref q341, .ref q343, .null, .null, .null, .null, .int 0, .null, .null, .null, .null, .null, .int 0, .int 0, .int 0, .int 0, .int 0, .int 0, .int 0, .int 0, .int 0, .null, .null, .null])), (q343, .inl (cA344, 32, .inl (fun _ => 0)))] H := hP
  have hD : va_D A [(h0, .inr (8, [.int 0, .int 0, .int 0, .ref q245, .ref q311, .ref q321, .ref q323, .ref q325, .ref q327, .int 0, .ref q329, .ref q331, .ref q333, .ref q335, .ref q337, .ref q339, .ref q341, .ref q343, .null, .null, .null, .null, .int 0, .null, .null, .null, .null, .null, .int 0, .int 0, .int 0, .int 0, .int 0, .int 0, .int 0, .int 0, .int 0, .null, .null, .null])), (q343, .inl (cA344, 32, .inl (fun _ => 0)))] := hD
  have hP := hP.sub (ws' := [(h0, .inr (8, [.int 0, .int 0, .int 0, .ref q245, .ref q311, .ref q321, .ref q323, .ref q325, .ref q327, .int 0, .ref q329, .ref q331, .ref q333, .ref q335, .ref q337, .ref q339, .ref q341, .ref q343, .null, .null, .null, .null, .int 0, .null, .null, .null, .null, .null, .int 0, .int 0, .int 0, .int 0, .int 0, .int 0, .int 0, .int 0, .int 0, .null, .null, .null]))]) [0] rfl
  have hD := hD.sub (ws' := [(h0, .inr (8, [.int 0, .int 0, .int 0, .ref q245, .ref q311, .ref q321, .ref q323, .ref q325, .ref q327, .int 0, .ref q329, .ref q331, .ref q333, .ref q335, .ref q337, .ref q339, .ref q341, .ref q343, .null, .null, .null, .null, .int 0, .null, .null, .null, .null, .null, .int 0, .int 0, .int 0, .int 0, .int 0, .int 0, .int 0, .int 0, .int 0, .null, .null, .null]))]) [0] (by decide) rfl
  have hK := hK.sub (tys' := []) [] rfl
  refine lv_aload_n hx hb dX8_init_537 rfl (lv_at hl 0 rfl) ?_
  refine lv_bipush (v := 32) hx hb dX8_init_538 (by decide) ?_
  refine va_newa (atype := .byte) (ty := .byte) (a0 := (32, .inl (fun _ => 0))) hx hb (hts (.arrayClass .byte) (List.mem_of_getElem? (i := 82) rfl)) rfl hK hP hD hS hA (fun _ => rfl) (by decide) (by decide) (by decide) (Nat.le_of_ble_eq_true rfl) (Nat.le_of_ble_eq_true rfl) dX8_init_540 (fun q345 cA346 H hK hP hD hS => ?_)
  have hK : va_K (dC, dI) classes [(cA346, .byte)] s := hK
  have hP : va_P (dC, dI) classes [(h0, .inr (8, [.int 0, .int 0, .int 0, .ref q245, .ref q311, .ref q321, .ref q323, .ref q325, .ref q327, .int 0, .ref q329, .ref q331, .ref q333, .ref q335, .ref q337, .ref q339, .ref q341, .ref q343, .null, .null, .null, .null, .int 0, .null, .null, .null, .null, .null, .int 0, .int 0, .int 0, .int 0, .int 0, .int 0, .int 0, .int 0, .int 0, .null, .null, .null])), (q345, .inl (cA346, 32, .inl (fun _ => 0)))] H := hP
  have hD : va_D A [(h0, .inr (8, [.int 0, .int 0, .int 0, .ref q245, .ref q311, .ref q321, .ref q323, .ref q325, .ref q327, .int 0, .ref q329, .ref q331, .ref q333, .ref q335, .ref q337, .ref q339, .ref q341, .ref q343, .null, .null, .null, .null, .int 0, .null, .null, .null, .null, .null, .int 0, .int 0, .int 0, .int 0, .int 0, .int 0, .int 0, .int 0, .int 0, .null, .null, .null])), (q345, .inl (cA346, 32, .inl (fun _ => 0)))] := hD
  refine W.widen (k := 15) (n := 984) (Nat.le_of_ble_eq_true rfl) (Nat.le_of_ble_eq_true rfl) ?_
  refine va_putF (D := (dC, dI)) (ci := 8) (v := .ref q345) (ty := .array .byte) (C := RX8) (T := TX8) (N := 40) hx hb hts iX8_init_X8 tyX8 tyX8_ok nmX8 hown hK hP hD hS 0 rfl rfl 18 (by decide) (hts (.fieldLink RX8 125 "LeafSignerModel" "own" "[B") (List.mem_of_getElem? (i := 92) rfl)) (fun _ h9 => h9) rfl hin rfl (by decide +kernel) rfl rfl (Nat.le_of_ble_eq_true rfl) dX8_init_542 (fun H locs hP hD hS => ?_)
  have hP : va_P (dC, dI) classes [(h0, .inr (8, [.int 0, .int 0, .int 0, .ref q245, .ref q311, .ref q321, .ref q323, .ref q325, .ref q327, .int 0, .ref q329, .ref q331, .ref q333, .ref q335, .ref q337, .ref q339, .ref q341, .ref q343, .ref q345, .null, .null, .null, .int 0, .null, .null, .null, .null, .null, .int 0, .int 0, .int 0, .int 0, .int 0, .int 0, .int 0, .int 0, .int 0, .null, .null, .null])), (q345, .inl (cA346, 32, .inl (fun _ => 0)))] H := hP
  have hD : va_D A [(h0, .inr (8, [.int 0, .int 0, .int 0, .ref q245, .ref q311, .ref q321, .ref q323, .ref q325, .ref q327, .int 0, .ref q329, .ref q331, .ref q333, .ref q335, .ref q337, .ref q339, .ref q341, .ref q343, .ref q345, .null, .null, .null, .int 0, .null, .null, .null, .null, .null, .int 0, .int 0, .int 0, .int 0, .int 0, .int 0, .int 0, .int 0, .int 0, .null, .null, .null])), (q345, .inl (cA346, 32, .inl (fun _ => 0)))] := hD
  have hP := hP.sub (ws' := [(h0, .inr (8, [.int 0, .int 0, .int 0, .ref q245, .ref q311, .ref q321, .ref q323, .ref q325, .ref q327, .int 0, .ref q329, .ref q331, .ref q333, .ref q335, .ref q337, .ref q339, .ref q341, .ref q343, .ref q345, .null, .null, .null, .int 0, .null, .null, .null, .null, .null, .int 0, .int 0, .int 0, .int 0, .int 0, .int 0, .int 0, .int 0, .int 0, .null, .null, .null]))]) [0] rfl
  have hD := hD.sub (ws' := [(h0, .inr (8, [.int 0, .int 0, .int 0, .ref q245, .ref q311, .ref q321, .ref q323, .ref q325, .ref q327, .int 0, .ref q329, .ref q331, .ref q333, .ref q335, .ref q337, .ref q339, .ref q341, .ref q343, .ref q345, .null, .null, .null, .int 0, .null, .null, .null, .null, .null, .int 0, .int 0, .int 0, .int 0, .int 0, .int 0, .int 0, .int 0, .int 0, .null, .null, .null]))]) [0] (by decide) rfl
  have hK := hK.sub (tys' := []) [] rfl
  refine lv_aload_n hx hb dX8_init_545 rfl (lv_at hl 0 rfl) ?_
  refine lv_sipush (v := 2144) hx hb dX8_init_546 (by decide) ?_
  refine va_newa (atype := .byte) (ty := .byte) (a0 := (2144, .inl (fun _ => 0))) hx hb (hts (.arrayClass .byte) (List.mem_of_getElem? (i := 82) rfl)) rfl hK hP hD hS hA (fun _ => rfl) (by decide) (by decide) (by decide) (Nat.le_of_ble_eq_true rfl) (Nat.le_of_ble_eq_true rfl) dX8_init_549 (fun q347 cA348 H hK hP hD hS => ?_)
  have hK : va_K (dC, dI) classes [(cA348, .byte)] s := hK
  have hP : va_P (dC, dI) classes [(h0, .inr (8, [.int 0, .int 0, .int 0, .ref q245, .ref q311, .ref q321, .ref q323, .ref q325, .ref q327, .int 0, .ref q329, .ref q331, .ref q333, .ref q335, .ref q337, .ref q339, .ref q341, .ref q343, .ref q345, .null, .null, .null, .int 0, .null, .null, .null, .null, .null, .int 0, .int 0, .int 0, .int 0, .int 0, .int 0, .int 0, .int 0, .int 0, .null, .null, .null])), (q347, .inl (cA348, 2144, .inl (fun _ => 0)))] H := hP
  have hD : va_D A [(h0, .inr (8, [.int 0, .int 0, .int 0, .ref q245, .ref q311, .ref q321, .ref q323, .ref q325, .ref q327, .int 0, .ref q329, .ref q331, .ref q333, .ref q335, .ref q337, .ref q339, .ref q341, .ref q343, .ref q345, .null, .null, .null, .int 0, .null, .null, .null, .null, .null, .int 0, .int 0, .int 0, .int 0, .int 0, .int 0, .int 0, .int 0, .int 0, .null, .null, .null])), (q347, .inl (cA348, 2144, .inl (fun _ => 0)))] := hD
  refine W.widen (k := 16) (n := 3128) (Nat.le_of_ble_eq_true rfl) (Nat.le_of_ble_eq_true rfl) ?_
  refine va_putF (D := (dC, dI)) (ci := 8) (v := .ref q347) (ty := .array .byte) (C := RX8) (T := TX8) (N := 40) hx hb hts iX8_init_X8 tyX8 tyX8_ok nmX8 hown hK hP hD hS 0 rfl rfl 19 (by decide) (hts (.fieldLink RX8 128 "LeafSignerModel" "parts" "[B") (List.mem_of_getElem? (i := 93) rfl)) (fun _ h9 => h9) rfl hin rfl (by decide +kernel) rfl rfl (Nat.le_of_ble_eq_true rfl) dX8_init_551 (fun H locs hP hD hS => ?_)
  have hP : va_P (dC, dI) classes [(h0, .inr (8, [.int 0, .int 0, .int 0, .ref q245, .ref q311, .ref q321, .ref q323, .ref q325, .ref q327, .int 0, .ref q329, .ref q331, .ref q333, .ref q335, .ref q337, .ref q339, .ref q341, .ref q343, .ref q345, .ref q347, .null, .null, .int 0, .null, .null, .null, .null, .null, .int 0, .int 0, .int 0, .int 0, .int 0, .int 0, .int 0, .int 0, .int 0, .null, .null, .null])), (q347, .inl (cA348, 2144, .inl (fun _ => 0)))] H := hP
  have hD : va_D A [(h0, .inr (8, [.int 0, .int 0, .int 0, .ref q245, .ref q311, .ref q321, .ref q323, .ref q325, .ref q327, .int 0, .ref q329, .ref q331, .ref q333, .ref q335, .ref q337, .ref q339, .ref q341, .ref q343, .ref q345, .ref q347, .null, .null, .int 0, .null, .null, .null, .null, .null, .int 0, .int 0, .int 0, .int 0, .int 0, .int 0, .int 0, .int 0, .int 0, .null, .null, .null])), (q347, .inl (cA348, 2144, .inl (fun _ => 0)))] := hD
  have hP := hP.sub (ws' := [(h0, .inr (8, [.int 0, .int 0, .int 0, .ref q245, .ref q311, .ref q321, .ref q323, .ref q325, .ref q327, .int 0, .ref q329, .ref q331, .ref q333, .ref q335, .ref q337, .ref q339, .ref q341, .ref q343, .ref q345, .ref q347, .null, .null, .int 0, .null, .null, .null, .null, .null, .int 0, .int 0, .int 0, .int 0, .int 0, .int 0, .int 0, .int 0, .int 0, .null, .null, .null]))]) [0] rfl
  have hD := hD.sub (ws' := [(h0, .inr (8, [.int 0, .int 0, .int 0, .ref q245, .ref q311, .ref q321, .ref q323, .ref q325, .ref q327, .int 0, .ref q329, .ref q331, .ref q333, .ref q335, .ref q337, .ref q339, .ref q341, .ref q343, .ref q345, .ref q347, .null, .null, .int 0, .null, .null, .null, .null, .null, .int 0, .int 0, .int 0, .int 0, .int 0, .int 0, .int 0, .int 0, .int 0, .null, .null, .null]))]) [0] (by decide) rfl
  have hK := hK.sub (tys' := []) [] rfl
  refine lv_aload_n hx hb dX8_init_554 rfl (lv_at hl 0 rfl) ?_
  refine lv_bipush (v := 67) hx hb dX8_init_555 (by decide) ?_
  refine va_newa (atype := .int) (ty := .int) (a0 := (67, .inl (fun _ => 0))) hx hb (hts (.arrayClass .int) (List.mem_of_getElem? (i := 4) rfl)) rfl hK hP hD hS hA (fun _ => rfl) (by decide) (by decide) (by decide) (Nat.le_of_ble_eq_true rfl) (Nat.le_of_ble_eq_true rfl) dX8_init_557 (fun q349 cA350 H hK hP hD hS => ?_)
  have hK : va_K (dC, dI) classes [(cA350, .int)] s := hK
  have hP : va_P (dC, dI) classes [(h0, .inr (8, [.int 0, .int 0, .int 0, .ref q245, .ref q311, .ref q321, .ref q323, .ref q325, .ref q327, .int 0, .ref q329, .ref q331, .ref q333, .ref q335, .ref q337, .ref q339, .ref q341, .ref q343, .ref q345, .ref q347, .null, .null, .int 0, .null, .null, .null, .null, .null, .int 0, .int 0, .int 0, .int 0, .int 0, .int 0, .int 0, .int 0, .int 0, .null, .null, .null])), (q349, .inl (cA350, 67, .inl (fun _ => 0)))] H := hP
  have hD : va_D A [(h0, .inr (8, [.int 0, .int 0, .int 0, .ref q245, .ref q311, .ref q321, .ref q323, .ref q325, .ref q327, .int 0, .ref q329, .ref q331, .ref q333, .ref q335, .ref q337, .ref q339, .ref q341, .ref q343, .ref q345, .ref q347, .null, .null, .int 0, .null, .null, .null, .null, .null, .int 0, .int 0, .int 0, .int 0, .int 0, .int 0, .int 0, .int 0, .int 0, .null, .null, .null])), (q349, .inl (cA350, 67, .inl (fun _ => 0)))] := hD
  refine W.widen (k := 17) (n := 3195) (Nat.le_of_ble_eq_true rfl) (Nat.le_of_ble_eq_true rfl) ?_
  refine va_putF (D := (dC, dI)) (ci := 8) (v := .ref q349) (ty := .array .int) (C := RX8) (T := TX8) (N := 40) hx hb hts iX8_init_X8 tyX8 tyX8_ok nmX8 hown hK hP hD hS 0 rfl rfl 20 (by decide) (hts (.fieldLink RX8 131 "LeafSignerModel" "digits" "[I") (List.mem_of_getElem? (i := 94) rfl)) (fun _ h9 => h9) rfl hin rfl (by decide +kernel) rfl rfl (Nat.le_of_ble_eq_true rfl) dX8_init_559 (fun H locs hP hD hS => ?_)
  have hP : va_P (dC, dI) classes [(h0, .inr (8, [.int 0, .int 0, .int 0, .ref q245, .ref q311, .ref q321, .ref q323, .ref q325, .ref q327, .int 0, .ref q329, .ref q331, .ref q333, .ref q335, .ref q337, .ref q339, .ref q341, .ref q343, .ref q345, .ref q347, .ref q349, .null, .int 0, .null, .null, .null, .null, .null, .int 0, .int 0, .int 0, .int 0, .int 0, .int 0, .int 0, .int 0, .int 0, .null, .null, .null])), (q349, .inl (cA350, 67, .inl (fun _ => 0)))] H := hP
  have hD : va_D A [(h0, .inr (8, [.int 0, .int 0, .int 0, .ref q245, .ref q311, .ref q321, .ref q323, .ref q325, .ref q327, .int 0, .ref q329, .ref q331, .ref q333, .ref q335, .ref q337, .ref q339, .ref q341, .ref q343, .ref q345, .ref q347, .ref q349, .null, .int 0, .null, .null, .null, .null, .null, .int 0, .int 0, .int 0, .int 0, .int 0, .int 0, .int 0, .int 0, .int 0, .null, .null, .null])), (q349, .inl (cA350, 67, .inl (fun _ => 0)))] := hD
  have hP := hP.sub (ws' := [(h0, .inr (8, [.int 0, .int 0, .int 0, .ref q245, .ref q311, .ref q321, .ref q323, .ref q325, .ref q327, .int 0, .ref q329, .ref q331, .ref q333, .ref q335, .ref q337, .ref q339, .ref q341, .ref q343, .ref q345, .ref q347, .ref q349, .null, .int 0, .null, .null, .null, .null, .null, .int 0, .int 0, .int 0, .int 0, .int 0, .int 0, .int 0, .int 0, .int 0, .null, .null, .null]))]) [0] rfl
  have hD := hD.sub (ws' := [(h0, .inr (8, [.int 0, .int 0, .int 0, .ref q245, .ref q311, .ref q321, .ref q323, .ref q325, .ref q327, .int 0, .ref q329, .ref q331, .ref q333, .ref q335, .ref q337, .ref q339, .ref q341, .ref q343, .ref q345, .ref q347, .ref q349, .null, .int 0, .null, .null, .null, .null, .null, .int 0, .int 0, .int 0, .int 0, .int 0, .int 0, .int 0, .int 0, .int 0, .null, .null, .null]))]) [0] (by decide) rfl
  have hK := hK.sub (tys' := []) [] rfl
  refine lv_aload_n hx hb dX8_init_562 rfl (lv_at hl 0 rfl) ?_
  refine lv_sipush (v := 992) hx hb dX8_init_563 (by decide) ?_
  refine va_newa (atype := .byte) (ty := .byte) (a0 := (992, .inl (fun _ => 0))) hx hb (hts (.arrayClass .byte) (List.mem_of_getElem? (i := 82) rfl)) rfl hK hP hD hS hA (fun _ => rfl) (by decide) (by decide) (by decide) (Nat.le_of_ble_eq_true rfl) (Nat.le_of_ble_eq_true rfl) dX8_init_566 (fun q351 cA352 H hK hP hD hS => ?_)
  have hK : va_K (dC, dI) classes [(cA352, .byte)] s := hK
  have hP : va_P (dC, dI) classes [(h0, .inr (8, [.int 0, .int 0, .int 0, .ref q245, .ref q311, .ref q321, .ref q323, .ref q325, .ref q327, .int 0, .ref q329, .ref q331, .ref q333, .ref q335, .ref q337, .ref q339, .ref q341, .ref q343, .ref q345, .ref q347, .ref q349, .null, .int 0, .null, .null, .null, .null, .null, .int 0, .int 0, .int 0, .int 0, .int 0, .int 0, .int 0, .int 0, .int 0, .null, .null, .null])), (q351, .inl (cA352, 992, .inl (fun _ => 0)))] H := hP
  have hD : va_D A [(h0, .inr (8, [.int 0, .int 0, .int 0, .ref q245, .ref q311, .ref q321, .ref q323, .ref q325, .ref q327, .int 0, .ref q329, .ref q331, .ref q333, .ref q335, .ref q337, .ref q339, .ref q341, .ref q343, .ref q345, .ref q347, .ref q349, .null, .int 0, .null, .null, .null, .null, .null, .int 0, .int 0, .int 0, .int 0, .int 0, .int 0, .int 0, .int 0, .int 0, .null, .null, .null])), (q351, .inl (cA352, 992, .inl (fun _ => 0)))] := hD
  refine W.widen (k := 18) (n := 4187) (Nat.le_of_ble_eq_true rfl) (Nat.le_of_ble_eq_true rfl) ?_
  refine va_putF (D := (dC, dI)) (ci := 8) (v := .ref q351) (ty := .array .byte) (C := RX8) (T := TX8) (N := 40) hx hb hts iX8_init_X8 tyX8 tyX8_ok nmX8 hown hK hP hD hS 0 rfl rfl 21 (by decide) (hts (.fieldLink RX8 134 "LeafSignerModel" "tree" "[B") (List.mem_of_getElem? (i := 95) rfl)) (fun _ h9 => h9) rfl hin rfl (by decide +kernel) rfl rfl (Nat.le_of_ble_eq_true rfl) dX8_init_568 (fun H locs hP hD hS => ?_)
  have hP : va_P (dC, dI) classes [(h0, .inr (8, [.int 0, .int 0, .int 0, .ref q245, .ref q311, .ref q321, .ref q323, .ref q325, .ref q327, .int 0, .ref q329, .ref q331, .ref q333, .ref q335, .ref q337, .ref q339, .ref q341, .ref q343, .ref q345, .ref q347, .ref q349, .ref q351, .int 0, .null, .null, .null, .null, .null, .int 0, .int 0, .int 0, .int 0, .int 0, .int 0, .int 0, .int 0, .int 0, .null, .null, .null])), (q351, .inl (cA352, 992, .inl (fun _ => 0)))] H := hP
  have hD : va_D A [(h0, .inr (8, [.int 0, .int 0, .int 0, .ref q245, .ref q311, .ref q321, .ref q323, .ref q325, .ref q327, .int 0, .ref q329, .ref q331, .ref q333, .ref q335, .ref q337, .ref q339, .ref q341, .ref q343, .ref q345, .ref q347, .ref q349, .ref q351, .int 0, .null, .null, .null, .null, .null, .int 0, .int 0, .int 0, .int 0, .int 0, .int 0, .int 0, .int 0, .int 0, .null, .null, .null])), (q351, .inl (cA352, 992, .inl (fun _ => 0)))] := hD
  have hP := hP.sub (ws' := [(h0, .inr (8, [.int 0, .int 0, .int 0, .ref q245, .ref q311, .ref q321, .ref q323, .ref q325, .ref q327, .int 0, .ref q329, .ref q331, .ref q333, .ref q335, .ref q337, .ref q339, .ref q341, .ref q343, .ref q345, .ref q347, .ref q349, .ref q351, .int 0, .null, .null, .null, .null, .null, .int 0, .int 0, .int 0, .int 0, .int 0, .int 0, .int 0, .int 0, .int 0, .null, .null, .null]))]) [0] rfl
  have hD := hD.sub (ws' := [(h0, .inr (8, [.int 0, .int 0, .int 0, .ref q245, .ref q311, .ref q321, .ref q323, .ref q325, .ref q327, .int 0, .ref q329, .ref q331, .ref q333, .ref q335, .ref q337, .ref q339, .ref q341, .ref q343, .ref q345, .ref q347, .ref q349, .ref q351, .int 0, .null, .null, .null, .null, .null, .int 0, .int 0, .int 0, .int 0, .int 0, .int 0, .int 0, .int 0, .int 0, .null, .null, .null]))]) [0] (by decide) rfl
  have hK := hK.sub (tys' := []) [] rfl
  refine lv_aload_n hx hb dX8_init_571 rfl (lv_at hl 0 rfl) ?_
  refine lv_sipush (v := 200) hx hb dX8_init_572 (by decide) ?_
  refine va_newa (atype := .byte) (ty := .byte) (a0 := (200, .inl (fun _ => 0))) hx hb (hts (.arrayClass .byte) (List.mem_of_getElem? (i := 82) rfl)) rfl hK hP hD hS hA (fun _ => rfl) (by decide) (by decide) (by decide) (Nat.le_of_ble_eq_true rfl) (Nat.le_of_ble_eq_true rfl) dX8_init_575 (fun q353 cA354 H hK hP hD hS => ?_)
  have hK : va_K (dC, dI) classes [(cA354, .byte)] s := hK
  have hP : va_P (dC, dI) classes [(h0, .inr (8, [.int 0, .int 0, .int 0, .ref q245, .ref q311, .ref q321, .ref q323, .ref q325, .ref q327, .int 0, .ref q329, .ref q331, .ref q333, .ref q335, .ref q337, .ref q339, .ref q341, .ref q343, .ref q345, .ref q347, .ref q349, .ref q351, .int 0, .null, .null, .null, .null, .null, .int 0, .int 0, .int 0, .int 0, .int 0, .int 0, .int 0, .int 0, .int 0, .null, .null, .null])), (q353, .inl (cA354, 200, .inl (fun _ => 0)))] H := hP
  have hD : va_D A [(h0, .inr (8, [.int 0, .int 0, .int 0, .ref q245, .ref q311, .ref q321, .ref q323, .ref q325, .ref q327, .int 0, .ref q329, .ref q331, .ref q333, .ref q335, .ref q337, .ref q339, .ref q341, .ref q343, .ref q345, .ref q347, .ref q349, .ref q351, .int 0, .null, .null, .null, .null, .null, .int 0, .int 0, .int 0, .int 0, .int 0, .int 0, .int 0, .int 0, .int 0, .null, .null, .null])), (q353, .inl (cA354, 200, .inl (fun _ => 0)))] := hD
  refine W.widen (k := 19) (n := 4387) (Nat.le_of_ble_eq_true rfl) (Nat.le_of_ble_eq_true rfl) ?_
  refine va_putF (D := (dC, dI)) (ci := 8) (v := .ref q353) (ty := .array .byte) (C := RX8) (T := TX8) (N := 40) hx hb hts iX8_init_X8 tyX8 tyX8_ok nmX8 hown hK hP hD hS 0 rfl rfl 23 (by decide) (hts (.fieldLink RX8 137 "LeafSignerModel" "tape" "[B") (List.mem_of_getElem? (i := 96) rfl)) (fun _ h9 => h9) rfl hin rfl (by decide +kernel) rfl rfl (Nat.le_of_ble_eq_true rfl) dX8_init_577 (fun H locs hP hD hS => ?_)
  have hP : va_P (dC, dI) classes [(h0, .inr (8, [.int 0, .int 0, .int 0, .ref q245, .ref q311, .ref q321, .ref q323, .ref q325, .ref q327, .int 0, .ref q329, .ref q331, .ref q333, .ref q335, .ref q337, .ref q339, .ref q341, .ref q343, .ref q345, .ref q347, .ref q349, .ref q351, .int 0, .ref q353, .null, .null, .null, .null, .int 0, .int 0, .int 0, .int 0, .int 0, .int 0, .int 0, .int 0, .int 0, .null, .null, .null])), (q353, .inl (cA354, 200, .inl (fun _ => 0)))] H := hP
  have hD : va_D A [(h0, .inr (8, [.int 0, .int 0, .int 0, .ref q245, .ref q311, .ref q321, .ref q323, .ref q325, .ref q327, .int 0, .ref q329, .ref q331, .ref q333, .ref q335, .ref q337, .ref q339, .ref q341, .ref q343, .ref q345, .ref q347, .ref q349, .ref q351, .int 0, .ref q353, .null, .null, .null, .null, .int 0, .int 0, .int 0, .int 0, .int 0, .int 0, .int 0, .int 0, .int 0, .null, .null, .null])), (q353, .inl (cA354, 200, .inl (fun _ => 0)))] := hD
  refine lv_aload_n hx hb dX8_init_580 rfl (lv_at hl 0 rfl) ?_
  refine lv_bipush (v := 24) hx hb dX8_init_581 (by decide) ?_
  refine va_newa (atype := .byte) (ty := .byte) (a0 := (24, .inl (fun _ => 0))) hx hb (hts (.arrayClass .byte) (List.mem_of_getElem? (i := 82) rfl)) rfl hK hP hD hS hA (fun _ => rfl) (by decide) (by decide) (by decide) (Nat.le_of_ble_eq_true rfl) (Nat.le_of_ble_eq_true rfl) dX8_init_583 (fun q355 cA356 H hK hP hD hS => ?_)
  have hK : va_K (dC, dI) classes [(cA354, .byte), (cA356, .byte)] s := hK
  have hP : va_P (dC, dI) classes [(h0, .inr (8, [.int 0, .int 0, .int 0, .ref q245, .ref q311, .ref q321, .ref q323, .ref q325, .ref q327, .int 0, .ref q329, .ref q331, .ref q333, .ref q335, .ref q337, .ref q339, .ref q341, .ref q343, .ref q345, .ref q347, .ref q349, .ref q351, .int 0, .ref q353, .null, .null, .null, .null, .int 0, .int 0, .int 0, .int 0, .int 0, .int 0, .int 0, .int 0, .int 0, .null, .null, .null])), (q353, .inl (cA354, 200, .inl (fun _ => 0))), (q355, .inl (cA356, 24, .inl (fun _ => 0)))] H := hP
  have hD : va_D A [(h0, .inr (8, [.int 0, .int 0, .int 0, .ref q245, .ref q311, .ref q321, .ref q323, .ref q325, .ref q327, .int 0, .ref q329, .ref q331, .ref q333, .ref q335, .ref q337, .ref q339, .ref q341, .ref q343, .ref q345, .ref q347, .ref q349, .ref q351, .int 0, .ref q353, .null, .null, .null, .null, .int 0, .int 0, .int 0, .int 0, .int 0, .int 0, .int 0, .int 0, .int 0, .null, .null, .null])), (q353, .inl (cA354, 200, .inl (fun _ => 0))), (q355, .inl (cA356, 24, .inl (fun _ => 0)))] := hD
  refine W.widen (k := 20) (n := 4411) (Nat.le_of_ble_eq_true rfl) (Nat.le_of_ble_eq_true rfl) ?_
  refine va_putF (D := (dC, dI)) (ci := 8) (v := .ref q355) (ty := .array .byte) (C := RX8) (T := TX8) (N := 40) hx hb hts iX8_init_X8 tyX8 tyX8_ok nmX8 hown hK hP hD hS 0 rfl rfl 24 (by decide) (hts (.fieldLink RX8 140 "LeafSignerModel" "disk" "[B") (List.mem_of_getElem? (i := 97) rfl)) (fun _ h9 => h9) rfl hin rfl (by decide +kernel) rfl rfl (Nat.le_of_ble_eq_true rfl) dX8_init_585 (fun H locs hP hD hS => ?_)
  have hP : va_P (dC, dI) classes [(h0, .inr (8, [.int 0, .int 0, .int 0, .ref q245, .ref q311, .ref q321, .ref q323, .ref q325, .ref q327, .int 0, .ref q329, .ref q331, .ref q333, .ref q335, .ref q337, .ref q339, .ref q341, .ref q343, .ref q345, .ref q347, .ref q349, .ref q351, .int 0, .ref q353, .ref q355, .null, .null, .null, .int 0, .int 0, .int 0, .int 0, .int 0, .int 0, .int 0, .int 0, .int 0, .null, .null, .null])), (q353, .inl (cA354, 200, .inl (fun _ => 0))), (q355, .inl (cA356, 24, .inl (fun _ => 0)))] H := hP
  have hD : va_D A [(h0, .inr (8, [.int 0, .int 0, .int 0, .ref q245, .ref q311, .ref q321, .ref q323, .ref q325, .ref q327, .int 0, .ref q329, .ref q331, .ref q333, .ref q335, .ref q337, .ref q339, .ref q341, .ref q343, .ref q345, .ref q347, .ref q349, .ref q351, .int 0, .ref q353, .ref q355, .null, .null, .null, .int 0, .int 0, .int 0, .int 0, .int 0, .int 0, .int 0, .int 0, .int 0, .null, .null, .null])), (q353, .inl (cA354, 200, .inl (fun _ => 0))), (q355, .inl (cA356, 24, .inl (fun _ => 0)))] := hD
  refine lv_aload_n hx hb dX8_init_588 rfl (lv_at hl 0 rfl) ?_
  refine lv_sipush (v := 2308) hx hb dX8_init_589 (by decide) ?_
  refine va_newa (atype := .byte) (ty := .byte) (a0 := (2308, .inl (fun _ => 0))) hx hb (hts (.arrayClass .byte) (List.mem_of_getElem? (i := 82) rfl)) rfl hK hP hD hS hA (fun _ => rfl) (by decide) (by decide) (by decide) (Nat.le_of_ble_eq_true rfl) (Nat.le_of_ble_eq_true rfl) dX8_init_592 (fun q357 cA358 H hK hP hD hS => ?_)
  have hK : va_K (dC, dI) classes [(cA354, .byte), (cA356, .byte), (cA358, .byte)] s := hK
  have hP : va_P (dC, dI) classes [(h0, .inr (8, [.int 0, .int 0, .int 0, .ref q245, .ref q311, .ref q321, .ref q323, .ref q325, .ref q327, .int 0, .ref q329, .ref q331, .ref q333, .ref q335, .ref q337, .ref q339, .ref q341, .ref q343, .ref q345, .ref q347, .ref q349, .ref q351, .int 0, .ref q353, .ref q355, .null, .null, .null, .int 0, .int 0, .int 0, .int 0, .int 0, .int 0, .int 0, .int 0, .int 0, .null, .null, .null])), (q353, .inl (cA354, 200, .inl (fun _ => 0))), (q355, .inl (cA356, 24, .inl (fun _ => 0))), (q357, .inl (cA358, 2308, .inl (fun _ => 0)))] H := hP
  have hD : va_D A [(h0, .inr (8, [.int 0, .int 0, .int 0, .ref q245, .ref q311, .ref q321, .ref q323, .ref q325, .ref q327, .int 0, .ref q329, .ref q331, .ref q333, .ref q335, .ref q337, .ref q339, .ref q341, .ref q343, .ref q345, .ref q347, .ref q349, .ref q351, .int 0, .ref q353, .ref q355, .null, .null, .null, .int 0, .int 0, .int 0, .int 0, .int 0, .int 0, .int 0, .int 0, .int 0, .null, .null, .null])), (q353, .inl (cA354, 200, .inl (fun _ => 0))), (q355, .inl (cA356, 24, .inl (fun _ => 0))), (q357, .inl (cA358, 2308, .inl (fun _ => 0)))] := hD
  refine W.widen (k := 21) (n := 6719) (Nat.le_of_ble_eq_true rfl) (Nat.le_of_ble_eq_true rfl) ?_
  refine va_putF (D := (dC, dI)) (ci := 8) (v := .ref q357) (ty := .array .byte) (C := RX8) (T := TX8) (N := 40) hx hb hts iX8_init_X8 tyX8 tyX8_ok nmX8 hown hK hP hD hS 0 rfl rfl 25 (by decide) (hts (.fieldLink RX8 143 "LeafSignerModel" "out" "[B") (List.mem_of_getElem? (i := 98) rfl)) (fun _ h9 => h9) rfl hin rfl (by decide +kernel) rfl rfl (Nat.le_of_ble_eq_true rfl) dX8_init_594 (fun H locs hP hD hS => ?_)
  have hP : va_P (dC, dI) classes [(h0, .inr (8, [.int 0, .int 0, .int 0, .ref q245, .ref q311, .ref q321, .ref q323, .ref q325, .ref q327, .int 0, .ref q329, .ref q331, .ref q333, .ref q335, .ref q337, .ref q339, .ref q341, .ref q343, .ref q345, .ref q347, .ref q349, .ref q351, .int 0, .ref q353, .ref q355, .ref q357, .null, .null, .int 0, .int 0, .int 0, .int 0, .int 0, .int 0, .int 0, .int 0, .int 0, .null, .null, .null])), (q353, .inl (cA354, 200, .inl (fun _ => 0))), (q355, .inl (cA356, 24, .inl (fun _ => 0))), (q357, .inl (cA358, 2308, .inl (fun _ => 0)))] H := hP
  have hD : va_D A [(h0, .inr (8, [.int 0, .int 0, .int 0, .ref q245, .ref q311, .ref q321, .ref q323, .ref q325, .ref q327, .int 0, .ref q329, .ref q331, .ref q333, .ref q335, .ref q337, .ref q339, .ref q341, .ref q343, .ref q345, .ref q347, .ref q349, .ref q351, .int 0, .ref q353, .ref q355, .ref q357, .null, .null, .int 0, .int 0, .int 0, .int 0, .int 0, .int 0, .int 0, .int 0, .int 0, .null, .null, .null])), (q353, .inl (cA354, 200, .inl (fun _ => 0))), (q355, .inl (cA356, 24, .inl (fun _ => 0))), (q357, .inl (cA358, 2308, .inl (fun _ => 0)))] := hD
  have hP := hP.sub (ws' := [(h0, .inr (8, [.int 0, .int 0, .int 0, .ref q245, .ref q311, .ref q321, .ref q323, .ref q325, .ref q327, .int 0, .ref q329, .ref q331, .ref q333, .ref q335, .ref q337, .ref q339, .ref q341, .ref q343, .ref q345, .ref q347, .ref q349, .ref q351, .int 0, .ref q353, .ref q355, .ref q357, .null, .null, .int 0, .int 0, .int 0, .int 0, .int 0, .int 0, .int 0, .int 0, .int 0, .null, .null, .null])), (q353, .inl (cA354, 200, .inl (fun _ => 0))), (q355, .inl (cA356, 24, .inl (fun _ => 0)))]) [0, 1, 2] rfl
  have hD := hD.sub (ws' := [(h0, .inr (8, [.int 0, .int 0, .int 0, .ref q245, .ref q311, .ref q321, .ref q323, .ref q325, .ref q327, .int 0, .ref q329, .ref q331, .ref q333, .ref q335, .ref q337, .ref q339, .ref q341, .ref q343, .ref q345, .ref q347, .ref q349, .ref q351, .int 0, .ref q353, .ref q355, .ref q357, .null, .null, .int 0, .int 0, .int 0, .int 0, .int 0, .int 0, .int 0, .int 0, .int 0, .null, .null, .null])), (q353, .inl (cA354, 200, .inl (fun _ => 0))), (q355, .inl (cA356, 24, .inl (fun _ => 0)))]) [0, 1, 2] (by decide) rfl
  have hK := hK.sub (tys' := [(cA354, .byte), (cA356, .byte)]) [0, 1] rfl
  refine lv_aload_n hx hb dX8_init_597 rfl (lv_at hl 0 rfl) ?_
  refine lv_sipush (v := 2308) hx hb dX8_init_598 (by decide) ?_
  refine va_newa (atype := .byte) (ty := .byte) (a0 := (2308, .inl (fun _ => 0))) hx hb (hts (.arrayClass .byte) (List.mem_of_getElem? (i := 82) rfl)) rfl hK hP hD hS hA (fun _ => rfl) (by decide) (by decide) (by decide) (Nat.le_of_ble_eq_true rfl) (Nat.le_of_ble_eq_true rfl) dX8_init_601 (fun q359 cA360 H hK hP hD hS => ?_)
  have hK : va_K (dC, dI) classes [(cA354, .byte), (cA356, .byte), (cA360, .byte)] s := hK
  have hP : va_P (dC, dI) classes [(h0, .inr (8, [.int 0, .int 0, .int 0, .ref q245, .ref q311, .ref q321, .ref q323, .ref q325, .ref q327, .int 0, .ref q329, .ref q331, .ref q333, .ref q335, .ref q337, .ref q339, .ref q341, .ref q343, .ref q345, .ref q347, .ref q349, .ref q351, .int 0, .ref q353, .ref q355, .ref q357, .null, .null, .int 0, .int 0, .int 0, .int 0, .int 0, .int 0, .int 0, .int 0, .int 0, .null, .null, .null])), (q353, .inl (cA354, 200, .inl (fun _ => 0))), (q355, .inl (cA356, 24, .inl (fun _ => 0))), (q359, .inl (cA360, 2308, .inl (fun _ => 0)))] H := hP
  have hD : va_D A [(h0, .inr (8, [.int 0, .int 0, .int 0, .ref q245, .ref q311, .ref q321, .ref q323, .ref q325, .ref q327, .int 0, .ref q329, .ref q331, .ref q333, .ref q335, .ref q337, .ref q339, .ref q341, .ref q343, .ref q345, .ref q347, .ref q349, .ref q351, .int 0, .ref q353, .ref q355, .ref q357, .null, .null, .int 0, .int 0, .int 0, .int 0, .int 0, .int 0, .int 0, .int 0, .int 0, .null, .null, .null])), (q353, .inl (cA354, 200, .inl (fun _ => 0))), (q355, .inl (cA356, 24, .inl (fun _ => 0))), (q359, .inl (cA360, 2308, .inl (fun _ => 0)))] := hD
  refine W.widen (k := 22) (n := 9027) (Nat.le_of_ble_eq_true rfl) (Nat.le_of_ble_eq_true rfl) ?_
  refine va_putF (D := (dC, dI)) (ci := 8) (v := .ref q359) (ty := .array .byte) (C := RX8) (T := TX8) (N := 40) hx hb hts iX8_init_X8 tyX8 tyX8_ok nmX8 hown hK hP hD hS 0 rfl rfl 26 (by decide) (hts (.fieldLink RX8 146 "LeafSignerModel" "kept" "[B") (List.mem_of_getElem? (i := 99) rfl)) (fun _ h9 => h9) rfl hin rfl (by decide +kernel) rfl rfl (Nat.le_of_ble_eq_true rfl) dX8_init_603 (fun H locs hP hD hS => ?_)
  have hP : va_P (dC, dI) classes [(h0, .inr (8, [.int 0, .int 0, .int 0, .ref q245, .ref q311, .ref q321, .ref q323, .ref q325, .ref q327, .int 0, .ref q329, .ref q331, .ref q333, .ref q335, .ref q337, .ref q339, .ref q341, .ref q343, .ref q345, .ref q347, .ref q349, .ref q351, .int 0, .ref q353, .ref q355, .ref q357, .ref q359, .null, .int 0, .int 0, .int 0, .int 0, .int 0, .int 0, .int 0, .int 0, .int 0, .null, .null, .null])), (q353, .inl (cA354, 200, .inl (fun _ => 0))), (q355, .inl (cA356, 24, .inl (fun _ => 0))), (q359, .inl (cA360, 2308, .inl (fun _ => 0)))] H := hP
  have hD : va_D A [(h0, .inr (8, [.int 0, .int 0, .int 0, .ref q245, .ref q311, .ref q321, .ref q323, .ref q325, .ref q327, .int 0, .ref q329, .ref q331, .ref q333, .ref q335, .ref q337, .ref q339, .ref q341, .ref q343, .ref q345, .ref q347, .ref q349, .ref q351, .int 0, .ref q353, .ref q355, .ref q357, .ref q359, .null, .int 0, .int 0, .int 0, .int 0, .int 0, .int 0, .int 0, .int 0, .int 0, .null, .null, .null])), (q353, .inl (cA354, 200, .inl (fun _ => 0))), (q355, .inl (cA356, 24, .inl (fun _ => 0))), (q359, .inl (cA360, 2308, .inl (fun _ => 0)))] := hD
  have hP := hP.sub (ws' := [(h0, .inr (8, [.int 0, .int 0, .int 0, .ref q245, .ref q311, .ref q321, .ref q323, .ref q325, .ref q327, .int 0, .ref q329, .ref q331, .ref q333, .ref q335, .ref q337, .ref q339, .ref q341, .ref q343, .ref q345, .ref q347, .ref q349, .ref q351, .int 0, .ref q353, .ref q355, .ref q357, .ref q359, .null, .int 0, .int 0, .int 0, .int 0, .int 0, .int 0, .int 0, .int 0, .int 0, .null, .null, .null])), (q353, .inl (cA354, 200, .inl (fun _ => 0))), (q355, .inl (cA356, 24, .inl (fun _ => 0)))]) [0, 1, 2] rfl
  have hD := hD.sub (ws' := [(h0, .inr (8, [.int 0, .int 0, .int 0, .ref q245, .ref q311, .ref q321, .ref q323, .ref q325, .ref q327, .int 0, .ref q329, .ref q331, .ref q333, .ref q335, .ref q337, .ref q339, .ref q341, .ref q343, .ref q345, .ref q347, .ref q349, .ref q351, .int 0, .ref q353, .ref q355, .ref q357, .ref q359, .null, .int 0, .int 0, .int 0, .int 0, .int 0, .int 0, .int 0, .int 0, .int 0, .null, .null, .null])), (q353, .inl (cA354, 200, .inl (fun _ => 0))), (q355, .inl (cA356, 24, .inl (fun _ => 0)))]) [0, 1, 2] (by decide) rfl
  have hK := hK.sub (tys' := [(cA354, .byte), (cA356, .byte)]) [0, 1] rfl
  refine lv_aload_n hx hb dX8_init_606 rfl (lv_at hl 0 rfl) ?_
  refine lv_sipush (v := 2308) hx hb dX8_init_607 (by decide) ?_
  refine va_newa (atype := .byte) (ty := .byte) (a0 := (2308, .inl (fun _ => 0))) hx hb (hts (.arrayClass .byte) (List.mem_of_getElem? (i := 82) rfl)) rfl hK hP hD hS hA (fun _ => rfl) (by decide) (by decide) (by decide) (Nat.le_of_ble_eq_true rfl) (Nat.le_of_ble_eq_true rfl) dX8_init_610 (fun q361 cA362 H hK hP hD hS => ?_)
  have hK : va_K (dC, dI) classes [(cA354, .byte), (cA356, .byte), (cA362, .byte)] s := hK
  have hP : va_P (dC, dI) classes [(h0, .inr (8, [.int 0, .int 0, .int 0, .ref q245, .ref q311, .ref q321, .ref q323, .ref q325, .ref q327, .int 0, .ref q329, .ref q331, .ref q333, .ref q335, .ref q337, .ref q339, .ref q341, .ref q343, .ref q345, .ref q347, .ref q349, .ref q351, .int 0, .ref q353, .ref q355, .ref q357, .ref q359, .null, .int 0, .int 0, .int 0, .int 0, .int 0, .int 0, .int 0, .int 0, .int 0, .null, .null, .null])), (q353, .inl (cA354, 200, .inl (fun _ => 0))), (q355, .inl (cA356, 24, .inl (fun _ => 0))), (q361, .inl (cA362, 2308, .inl (fun _ => 0)))] H := hP
  have hD : va_D A [(h0, .inr (8, [.int 0, .int 0, .int 0, .ref q245, .ref q311, .ref q321, .ref q323, .ref q325, .ref q327, .int 0, .ref q329, .ref q331, .ref q333, .ref q335, .ref q337, .ref q339, .ref q341, .ref q343, .ref q345, .ref q347, .ref q349, .ref q351, .int 0, .ref q353, .ref q355, .ref q357, .ref q359, .null, .int 0, .int 0, .int 0, .int 0, .int 0, .int 0, .int 0, .int 0, .int 0, .null, .null, .null])), (q353, .inl (cA354, 200, .inl (fun _ => 0))), (q355, .inl (cA356, 24, .inl (fun _ => 0))), (q361, .inl (cA362, 2308, .inl (fun _ => 0)))] := hD
  refine W.widen (k := 23) (n := 11335) (Nat.le_of_ble_eq_true rfl) (Nat.le_of_ble_eq_true rfl) ?_
  refine va_putF (D := (dC, dI)) (ci := 8) (v := .ref q361) (ty := .array .byte) (C := RX8) (T := TX8) (N := 40) hx hb hts iX8_init_X8 tyX8 tyX8_ok nmX8 hown hK hP hD hS 0 rfl rfl 27 (by decide) (hts (.fieldLink RX8 149 "LeafSignerModel" "signed" "[B") (List.mem_of_getElem? (i := 100) rfl)) (fun _ h9 => h9) rfl hin rfl (by decide +kernel) rfl rfl (Nat.le_of_ble_eq_true rfl) dX8_init_612 (fun H locs hP hD hS => ?_)
  have hP : va_P (dC, dI) classes [(h0, .inr (8, [.int 0, .int 0, .int 0, .ref q245, .ref q311, .ref q321, .ref q323, .ref q325, .ref q327, .int 0, .ref q329, .ref q331, .ref q333, .ref q335, .ref q337, .ref q339, .ref q341, .ref q343, .ref q345, .ref q347, .ref q349, .ref q351, .int 0, .ref q353, .ref q355, .ref q357, .ref q359, .ref q361, .int 0, .int 0, .int 0, .int 0, .int 0, .int 0, .int 0, .int 0, .int 0, .null, .null, .null])), (q353, .inl (cA354, 200, .inl (fun _ => 0))), (q355, .inl (cA356, 24, .inl (fun _ => 0))), (q361, .inl (cA362, 2308, .inl (fun _ => 0)))] H := hP
  have hD : va_D A [(h0, .inr (8, [.int 0, .int 0, .int 0, .ref q245, .ref q311, .ref q321, .ref q323, .ref q325, .ref q327, .int 0, .ref q329, .ref q331, .ref q333, .ref q335, .ref q337, .ref q339, .ref q341, .ref q343, .ref q345, .ref q347, .ref q349, .ref q351, .int 0, .ref q353, .ref q355, .ref q357, .ref q359, .ref q361, .int 0, .int 0, .int 0, .int 0, .int 0, .int 0, .int 0, .int 0, .int 0, .null, .null, .null])), (q353, .inl (cA354, 200, .inl (fun _ => 0))), (q355, .inl (cA356, 24, .inl (fun _ => 0))), (q361, .inl (cA362, 2308, .inl (fun _ => 0)))] := hD
  have hP := hP.sub (ws' := [(h0, .inr (8, [.int 0, .int 0, .int 0, .ref q245, .ref q311, .ref q321, .ref q323, .ref q325, .ref q327, .int 0, .ref q329, .ref q331, .ref q333, .ref q335, .ref q337, .ref q339, .ref q341, .ref q343, .ref q345, .ref q347, .ref q349, .ref q351, .int 0, .ref q353, .ref q355, .ref q357, .ref q359, .ref q361, .int 0, .int 0, .int 0, .int 0, .int 0, .int 0, .int 0, .int 0, .int 0, .null, .null, .null])), (q353, .inl (cA354, 200, .inl (fun _ => 0))), (q355, .inl (cA356, 24, .inl (fun _ => 0)))]) [0, 1, 2] rfl
  have hD := hD.sub (ws' := [(h0, .inr (8, [.int 0, .int 0, .int 0, .ref q245, .ref q311, .ref q321, .ref q323, .ref q325, .ref q327, .int 0, .ref q329, .ref q331, .ref q333, .ref q335, .ref q337, .ref q339, .ref q341, .ref q343, .ref q345, .ref q347, .ref q349, .ref q351, .int 0, .ref q353, .ref q355, .ref q357, .ref q359, .ref q361, .int 0, .int 0, .int 0, .int 0, .int 0, .int 0, .int 0, .int 0, .int 0, .null, .null, .null])), (q353, .inl (cA354, 200, .inl (fun _ => 0))), (q355, .inl (cA356, 24, .inl (fun _ => 0)))]) [0, 1, 2] (by decide) rfl
  have hK := hK.sub (tys' := [(cA354, .byte), (cA356, .byte)]) [0, 1] rfl
  refine lv_aload_n hx hb dX8_init_615 rfl (lv_at hl 0 rfl) ?_
  refine lv_iconst (v := (-1)) hx hb dX8_init_616 (by decide) ?_
  refine va_put (D := (dC, dI)) (ci := 8) (v := .int (-1)) (ty := .int) (C := RX8) (T := TX8) (N := 40) hx hb hts iX8_init_X8 tyX8 tyX8_ok nmX8 hown hK hP hD hS 0 rfl rfl 35 (by decide) (hts (.fieldLink RX8 152 "LeafSignerModel" "fuse" "I") (List.mem_of_getElem? (i := 101) rfl)) (fun _ h9 => h9) rfl (by decide +kernel) rfl rfl (Nat.le_of_ble_eq_true rfl) dX8_init_617 (fun H locs hP hD hS => ?_)
  have hP : va_P (dC, dI) classes [(h0, .inr (8, [.int 0, .int 0, .int 0, .ref q245, .ref q311, .ref q321, .ref q323, .ref q325, .ref q327, .int 0, .ref q329, .ref q331, .ref q333, .ref q335, .ref q337, .ref q339, .ref q341, .ref q343, .ref q345, .ref q347, .ref q349, .ref q351, .int 0, .ref q353, .ref q355, .ref q357, .ref q359, .ref q361, .int 0, .int 0, .int 0, .int 0, .int 0, .int 0, .int 0, .int (-1), .int 0, .null, .null, .null])), (q353, .inl (cA354, 200, .inl (fun _ => 0))), (q355, .inl (cA356, 24, .inl (fun _ => 0)))] H := hP
  have hD : va_D A [(h0, .inr (8, [.int 0, .int 0, .int 0, .ref q245, .ref q311, .ref q321, .ref q323, .ref q325, .ref q327, .int 0, .ref q329, .ref q331, .ref q333, .ref q335, .ref q337, .ref q339, .ref q341, .ref q343, .ref q345, .ref q347, .ref q349, .ref q351, .int 0, .ref q353, .ref q355, .ref q357, .ref q359, .ref q361, .int 0, .int 0, .int 0, .int 0, .int 0, .int 0, .int 0, .int (-1), .int 0, .null, .null, .null])), (q353, .inl (cA354, 200, .inl (fun _ => 0))), (q355, .inl (cA356, 24, .inl (fun _ => 0)))] := hD
  refine lv_aload_n hx hb dX8_init_620 rfl (lv_at hl 0 rfl) ?_
  refine lv_bipush (v := 16) hx hb dX8_init_621 (by decide) ?_
  refine va_newa (atype := .boolean) (ty := .boolean) (a0 := (16, .inl (fun _ => 0))) hx hb (hts (.arrayClass .boolean) (List.mem_of_getElem? (i := 102) rfl)) rfl hK hP hD hS hA (fun _ => rfl) (by decide) (by decide) (by decide) (Nat.le_of_ble_eq_true rfl) (Nat.le_of_ble_eq_true rfl) dX8_init_623 (fun q363 cA364 H hK hP hD hS => ?_)
  have hK : va_K (dC, dI) classes [(cA354, .byte), (cA356, .byte), (cA364, .boolean)] s := hK
  have hP : va_P (dC, dI) classes [(h0, .inr (8, [.int 0, .int 0, .int 0, .ref q245, .ref q311, .ref q321, .ref q323, .ref q325, .ref q327, .int 0, .ref q329, .ref q331, .ref q333, .ref q335, .ref q337, .ref q339, .ref q341, .ref q343, .ref q345, .ref q347, .ref q349, .ref q351, .int 0, .ref q353, .ref q355, .ref q357, .ref q359, .ref q361, .int 0, .int 0, .int 0, .int 0, .int 0, .int 0, .int 0, .int (-1), .int 0, .null, .null, .null])), (q353, .inl (cA354, 200, .inl (fun _ => 0))), (q355, .inl (cA356, 24, .inl (fun _ => 0))), (q363, .inl (cA364, 16, .inl (fun _ => 0)))] H := hP
  have hD : va_D A [(h0, .inr (8, [.int 0, .int 0, .int 0, .ref q245, .ref q311, .ref q321, .ref q323, .ref q325, .ref q327, .int 0, .ref q329, .ref q331, .ref q333, .ref q335, .ref q337, .ref q339, .ref q341, .ref q343, .ref q345, .ref q347, .ref q349, .ref q351, .int 0, .ref q353, .ref q355, .ref q357, .ref q359, .ref q361, .int 0, .int 0, .int 0, .int 0, .int 0, .int 0, .int 0, .int (-1), .int 0, .null, .null, .null])), (q353, .inl (cA354, 200, .inl (fun _ => 0))), (q355, .inl (cA356, 24, .inl (fun _ => 0))), (q363, .inl (cA364, 16, .inl (fun _ => 0)))] := hD
  refine W.widen (k := 24) (n := 11351) (Nat.le_of_ble_eq_true rfl) (Nat.le_of_ble_eq_true rfl) ?_
  refine va_putF (D := (dC, dI)) (ci := 8) (v := .ref q363) (ty := .array .boolean) (C := RX8) (T := TX8) (N := 40) hx hb hts iX8_init_X8 tyX8 tyX8_ok nmX8 hown hK hP hD hS 0 rfl rfl 37 (by decide) (hts (.fieldLink RX8 156 "LeafSignerModel" "isReleased" "[Z") (List.mem_of_getElem? (i := 103) rfl)) (fun _ h9 => h9) rfl hin rfl (by decide +kernel) rfl rfl (Nat.le_of_ble_eq_true rfl) dX8_init_625 (fun H locs hP hD hS => ?_)
  have hP : va_P (dC, dI) classes [(h0, .inr (8, [.int 0, .int 0, .int 0, .ref q245, .ref q311, .ref q321, .ref q323, .ref q325, .ref q327, .int 0, .ref q329, .ref q331, .ref q333, .ref q335, .ref q337, .ref q339, .ref q341, .ref q343, .ref q345, .ref q347, .ref q349, .ref q351, .int 0, .ref q353, .ref q355, .ref q357, .ref q359, .ref q361, .int 0, .int 0, .int 0, .int 0, .int 0, .int 0, .int 0, .int (-1), .int 0, .ref q363, .null, .null])), (q353, .inl (cA354, 200, .inl (fun _ => 0))), (q355, .inl (cA356, 24, .inl (fun _ => 0))), (q363, .inl (cA364, 16, .inl (fun _ => 0)))] H := hP
  have hD : va_D A [(h0, .inr (8, [.int 0, .int 0, .int 0, .ref q245, .ref q311, .ref q321, .ref q323, .ref q325, .ref q327, .int 0, .ref q329, .ref q331, .ref q333, .ref q335, .ref q337, .ref q339, .ref q341, .ref q343, .ref q345, .ref q347, .ref q349, .ref q351, .int 0, .ref q353, .ref q355, .ref q357, .ref q359, .ref q361, .int 0, .int 0, .int 0, .int 0, .int 0, .int 0, .int 0, .int (-1), .int 0, .ref q363, .null, .null])), (q353, .inl (cA354, 200, .inl (fun _ => 0))), (q355, .inl (cA356, 24, .inl (fun _ => 0))), (q363, .inl (cA364, 16, .inl (fun _ => 0)))] := hD
  refine lv_aload_n hx hb dX8_init_628 rfl (lv_at hl 0 rfl) ?_
  refine lv_bipush (v := 16) hx hb dX8_init_629 (by decide) ?_
  refine va_newa (atype := .boolean) (ty := .boolean) (a0 := (16, .inl (fun _ => 0))) hx hb (hts (.arrayClass .boolean) (List.mem_of_getElem? (i := 102) rfl)) rfl hK hP hD hS hA (fun _ => rfl) (by decide) (by decide) (by decide) (Nat.le_of_ble_eq_true rfl) (Nat.le_of_ble_eq_true rfl) dX8_init_631 (fun q365 cA366 H hK hP hD hS => ?_)
  have hK : va_K (dC, dI) classes [(cA354, .byte), (cA356, .byte), (cA364, .boolean), (cA366, .boolean)] s := hK
  have hP : va_P (dC, dI) classes [(h0, .inr (8, [.int 0, .int 0, .int 0, .ref q245, .ref q311, .ref q321, .ref q323, .ref q325, .ref q327, .int 0, .ref q329, .ref q331, .ref q333, .ref q335, .ref q337, .ref q339, .ref q341, .ref q343, .ref q345, .ref q347, .ref q349, .ref q351, .int 0, .ref q353, .ref q355, .ref q357, .ref q359, .ref q361, .int 0, .int 0, .int 0, .int 0, .int 0, .int 0, .int 0, .int (-1), .int 0, .ref q363, .null, .null])), (q353, .inl (cA354, 200, .inl (fun _ => 0))), (q355, .inl (cA356, 24, .inl (fun _ => 0))), (q363, .inl (cA364, 16, .inl (fun _ => 0))), (q365, .inl (cA366, 16, .inl (fun _ => 0)))] H := hP
  have hD : va_D A [(h0, .inr (8, [.int 0, .int 0, .int 0, .ref q245, .ref q311, .ref q321, .ref q323, .ref q325, .ref q327, .int 0, .ref q329, .ref q331, .ref q333, .ref q335, .ref q337, .ref q339, .ref q341, .ref q343, .ref q345, .ref q347, .ref q349, .ref q351, .int 0, .ref q353, .ref q355, .ref q357, .ref q359, .ref q361, .int 0, .int 0, .int 0, .int 0, .int 0, .int 0, .int 0, .int (-1), .int 0, .ref q363, .null, .null])), (q353, .inl (cA354, 200, .inl (fun _ => 0))), (q355, .inl (cA356, 24, .inl (fun _ => 0))), (q363, .inl (cA364, 16, .inl (fun _ => 0))), (q365, .inl (cA366, 16, .inl (fun _ => 0)))] := hD
  refine W.widen (k := 25) (n := 11367) (Nat.le_of_ble_eq_true rfl) (Nat.le_of_ble_eq_true rfl) ?_
  refine va_putF (D := (dC, dI)) (ci := 8) (v := .ref q365) (ty := .array .boolean) (C := RX8) (T := TX8) (N := 40) hx hb hts iX8_init_X8 tyX8 tyX8_ok nmX8 hown hK hP hD hS 0 rfl rfl 38 (by decide) (hts (.fieldLink RX8 160 "LeafSignerModel" "isLost" "[Z") (List.mem_of_getElem? (i := 104) rfl)) (fun _ h9 => h9) rfl hin rfl (by decide +kernel) rfl rfl (Nat.le_of_ble_eq_true rfl) dX8_init_633 (fun H locs hP hD hS => ?_)
  have hP : va_P (dC, dI) classes [(h0, .inr (8, [.int 0, .int 0, .int 0, .ref q245, .ref q311, .ref q321, .ref q323, .ref q325, .ref q327, .int 0, .ref q329, .ref q331, .ref q333, .ref q335, .ref q337, .ref q339, .ref q341, .ref q343, .ref q345, .ref q347, .ref q349, .ref q351, .int 0, .ref q353, .ref q355, .ref q357, .ref q359, .ref q361, .int 0, .int 0, .int 0, .int 0, .int 0, .int 0, .int 0, .int (-1), .int 0, .ref q363, .ref q365, .null])), (q353, .inl (cA354, 200, .inl (fun _ => 0))), (q355, .inl (cA356, 24, .inl (fun _ => 0))), (q363, .inl (cA364, 16, .inl (fun _ => 0))), (q365, .inl (cA366, 16, .inl (fun _ => 0)))] H := hP
  have hD : va_D A [(h0, .inr (8, [.int 0, .int 0, .int 0, .ref q245, .ref q311, .ref q321, .ref q323, .ref q325, .ref q327, .int 0, .ref q329, .ref q331, .ref q333, .ref q335, .ref q337, .ref q339, .ref q341, .ref q343, .ref q345, .ref q347, .ref q349, .ref q351, .int 0, .ref q353, .ref q355, .ref q357, .ref q359, .ref q361, .int 0, .int 0, .int 0, .int 0, .int 0, .int 0, .int 0, .int (-1), .int 0, .ref q363, .ref q365, .null])), (q353, .inl (cA354, 200, .inl (fun _ => 0))), (q355, .inl (cA356, 24, .inl (fun _ => 0))), (q363, .inl (cA364, 16, .inl (fun _ => 0))), (q365, .inl (cA366, 16, .inl (fun _ => 0)))] := hD
  refine lv_aload_n hx hb dX8_init_636 rfl (lv_at hl 0 rfl) ?_
  refine lv_bipush (v := 32) hx hb dX8_init_637 (by decide) ?_
  refine va_newa (atype := .byte) (ty := .byte) (a0 := (32, .inl (fun _ => 0))) hx hb (hts (.arrayClass .byte) (List.mem_of_getElem? (i := 82) rfl)) rfl hK hP hD hS hA (fun _ => rfl) (by decide) (by decide) (by decide) (Nat.le_of_ble_eq_true rfl) (Nat.le_of_ble_eq_true rfl) dX8_init_639 (fun q367 cA368 H hK hP hD hS => ?_)
  have hK : va_K (dC, dI) classes [(cA354, .byte), (cA356, .byte), (cA364, .boolean), (cA366, .boolean), (cA368, .byte)] s := hK
  have hP : va_P (dC, dI) classes [(h0, .inr (8, [.int 0, .int 0, .int 0, .ref q245, .ref q311, .ref q321, .ref q323, .ref q325, .ref q327, .int 0, .ref q329, .ref q331, .ref q333, .ref q335, .ref q337, .ref q339, .ref q341, .ref q343, .ref q345, .ref q347, .ref q349, .ref q351, .int 0, .ref q353, .ref q355, .ref q357, .ref q359, .ref q361, .int 0, .int 0, .int 0, .int 0, .int 0, .int 0, .int 0, .int (-1), .int 0, .ref q363, .ref q365, .null])), (q353, .inl (cA354, 200, .inl (fun _ => 0))), (q355, .inl (cA356, 24, .inl (fun _ => 0))), (q363, .inl (cA364, 16, .inl (fun _ => 0))), (q365, .inl (cA366, 16, .inl (fun _ => 0))), (q367, .inl (cA368, 32, .inl (fun _ => 0)))] H := hP
  have hD : va_D A [(h0, .inr (8, [.int 0, .int 0, .int 0, .ref q245, .ref q311, .ref q321, .ref q323, .ref q325, .ref q327, .int 0, .ref q329, .ref q331, .ref q333, .ref q335, .ref q337, .ref q339, .ref q341, .ref q343, .ref q345, .ref q347, .ref q349, .ref q351, .int 0, .ref q353, .ref q355, .ref q357, .ref q359, .ref q361, .int 0, .int 0, .int 0, .int 0, .int 0, .int 0, .int 0, .int (-1), .int 0, .ref q363, .ref q365, .null])), (q353, .inl (cA354, 200, .inl (fun _ => 0))), (q355, .inl (cA356, 24, .inl (fun _ => 0))), (q363, .inl (cA364, 16, .inl (fun _ => 0))), (q365, .inl (cA366, 16, .inl (fun _ => 0))), (q367, .inl (cA368, 32, .inl (fun _ => 0)))] := hD
  refine W.widen (k := 26) (n := 11399) (Nat.le_of_ble_eq_true rfl) (Nat.le_of_ble_eq_true rfl) ?_
  refine va_putF (D := (dC, dI)) (ci := 8) (v := .ref q367) (ty := .array .byte) (C := RX8) (T := TX8) (N := 40) hx hb hts iX8_init_X8 tyX8 tyX8_ok nmX8 hown hK hP hD hS 0 rfl rfl 39 (by decide) (hts (.fieldLink RX8 163 "LeafSignerModel" "top" "[B") (List.mem_of_getElem? (i := 105) rfl)) (fun _ h9 => h9) rfl hin rfl (by decide +kernel) rfl rfl (Nat.le_of_ble_eq_true rfl) dX8_init_641 (fun H locs hP hD hS => ?_)
  have hP : va_P (dC, dI) classes [(h0, .inr (8, [.int 0, .int 0, .int 0, .ref q245, .ref q311, .ref q321, .ref q323, .ref q325, .ref q327, .int 0, .ref q329, .ref q331, .ref q333, .ref q335, .ref q337, .ref q339, .ref q341, .ref q343, .ref q345, .ref q347, .ref q349, .ref q351, .int 0, .ref q353, .ref q355, .ref q357, .ref q359, .ref q361, .int 0, .int 0, .int 0, .int 0, .int 0, .int 0, .int 0, .int (-1), .int 0, .ref q363, .ref q365, .ref q367])), (q353, .inl (cA354, 200, .inl (fun _ => 0))), (q355, .inl (cA356, 24, .inl (fun _ => 0))), (q363, .inl (cA364, 16, .inl (fun _ => 0))), (q365, .inl (cA366, 16, .inl (fun _ => 0))), (q367, .inl (cA368, 32, .inl (fun _ => 0)))] H := hP
  have hD : va_D A [(h0, .inr (8, [.int 0, .int 0, .int 0, .ref q245, .ref q311, .ref q321, .ref q323, .ref q325, .ref q327, .int 0, .ref q329, .ref q331, .ref q333, .ref q335, .ref q337, .ref q339, .ref q341, .ref q343, .ref q345, .ref q347, .ref q349, .ref q351, .int 0, .ref q353, .ref q355, .ref q357, .ref q359, .ref q361, .int 0, .int 0, .int 0, .int 0, .int 0, .int 0, .int 0, .int (-1), .int 0, .ref q363, .ref q365, .ref q367])), (q353, .inl (cA354, 200, .inl (fun _ => 0))), (q355, .inl (cA356, 24, .inl (fun _ => 0))), (q363, .inl (cA364, 16, .inl (fun _ => 0))), (q365, .inl (cA366, 16, .inl (fun _ => 0))), (q367, .inl (cA368, 32, .inl (fun _ => 0)))] := hD
  have hP := hP.sub (ws' := [(h0, .inr (8, [.int 0, .int 0, .int 0, .ref q245, .ref q311, .ref q321, .ref q323, .ref q325, .ref q327, .int 0, .ref q329, .ref q331, .ref q333, .ref q335, .ref q337, .ref q339, .ref q341, .ref q343, .ref q345, .ref q347, .ref q349, .ref q351, .int 0, .ref q353, .ref q355, .ref q357, .ref q359, .ref q361, .int 0, .int 0, .int 0, .int 0, .int 0, .int 0, .int 0, .int (-1), .int 0, .ref q363, .ref q365, .ref q367])), (q353, .inl (cA354, 200, .inl (fun _ => 0))), (q355, .inl (cA356, 24, .inl (fun _ => 0))), (q363, .inl (cA364, 16, .inl (fun _ => 0))), (q365, .inl (cA366, 16, .inl (fun _ => 0)))]) [0, 1, 2, 3, 4] rfl
  have hD := hD.sub (ws' := [(h0, .inr (8, [.int 0, .int 0, .int 0, .ref q245, .ref q311, .ref q321, .ref q323, .ref q325, .ref q327, .int 0, .ref q329, .ref q331, .ref q333, .ref q335, .ref q337, .ref q339, .ref q341, .ref q343, .ref q345, .ref q347, .ref q349, .ref q351, .int 0, .ref q353, .ref q355, .ref q357, .ref q359, .ref q361, .int 0, .int 0, .int 0, .int 0, .int 0, .int 0, .int 0, .int (-1), .int 0, .ref q363, .ref q365, .ref q367])), (q353, .inl (cA354, 200, .inl (fun _ => 0))), (q355, .inl (cA356, 24, .inl (fun _ => 0))), (q363, .inl (cA364, 16, .inl (fun _ => 0))), (q365, .inl (cA366, 16, .inl (fun _ => 0)))]) [0, 1, 2, 3, 4] (by decide) rfl
  have hK := hK.sub (tys' := [(cA354, .byte), (cA356, .byte), (cA364, .boolean), (cA366, .boolean)]) [0, 1, 2, 3] rfl
  refine lv_aload_n hx hb dX8_init_644 rfl (lv_at hl 0 rfl) ?_
  refine lv_iload_n hx hb dX8_init_645 rfl (lv_at hl 1 rfl) ?_
  refine lv_iconst (v := 1) hx hb dX8_init_646 (by decide) ?_
  refine lv_iconst (v := 4) hx hb dX8_init_647 (by decide) ?_
  have hPc := hP.sub (ws' := []) [] rfl
  have hDc := hD.sub (ws' := []) [] (by decide) rfl
  have hKc := hK.sub (tys' := []) [] rfl
  have hFc := va_free (wc := []) hD hS hA [] rfl
  refine va_calli (va_runS (As := [.int k1, .int 1, .int 4]) (rest := [.ref h0]) ⟨hx, hb, hml, hown, hts⟩ (cm_held l dC dI H.size k1 1 4) (va_cwS 3 hts gX8_init_X8_held_166 rfl rfl rfl (by decide +kernel) ⟨(Nat.le_of_ble_eq_true rfl), (Nat.le_of_ble_eq_true rfl)⟩) ⟨fun a U g mk q => by obtain ⟨q0, q1, qP, qK, qD⟩ := q; exact ⟨q0, q1, qP, va_K.moved (u := U) (U := U.calling g mk a) (Vm.Alike.refl U.vm) qK, qD⟩, fun U hU hW => ⟨rfl, by rw [hU], by rw [hU]; exact hPc, va_K.moved hW.alike hKc, hDc.weaken (fun _ _ _ _ => trivial)⟩⟩ rfl rfl hl.1 rfl (lv_room (Nat.le_of_ble_eq_true rfl)) dX8_init_648 ⟨(Nat.le_of_ble_eq_true rfl), (Nat.le_of_ble_eq_true rfl)⟩) hS (fun q _ h => hFc q h) hFc (fun r369 u t H1 locs ht hvm hw hB hz1 hk1 hS => ?_)
  have hP1 : va_P (dC, dI) classes [] H1 := vx_P0
  have hD1 : va_D (va_A [] H.size) [] := vx_D0
  obtain ⟨hP, hD⟩ := va_join (wr := [(h0, .inr (8, [.int 0, .int 0, .int 0, .ref q245, .ref q311, .ref q321, .ref q323, .ref q325, .ref q327, .int 0, .ref q329, .ref q331, .ref q333, .ref q335, .ref q337, .ref q339, .ref q341, .ref q343, .ref q345, .ref q347, .ref q349, .ref q351, .int 0, .ref q353, .ref q355, .ref q357, .ref q359, .ref q361, .int 0, .int 0, .int 0, .int 0, .int 0, .int 0, .int 0, .int (-1), .int 0, .ref q363, .ref q365, .ref q367])), (q353, .inl (cA354, 200, .inl (fun _ => 0))), (q355, .inl (cA356, 24, .inl (fun _ => 0))), (q363, .inl (cA364, 16, .inl (fun _ => 0))), (q365, .inl (cA366, 16, .inl (fun _ => 0)))]) (w1 := []) hP hD [] [0, 1, 2, 3, 4] rfl rfl (by decide) (by decide) hk1 hFc hP1 hD1
  have hK := hK.sub (tys' := [(cA354, .byte), (cA356, .byte), (cA364, .boolean), (cA366, .boolean)]) [0, 1, 2, 3] rfl
  generalize H1 = H at hP hS ⊢
  have hP : va_P (dC, dI) classes [(h0, .inr (8, [.int 0, .int 0, .int 0, .ref q245, .ref q311, .ref q321, .ref q323, .ref q325, .ref q327, .int 0, .ref q329, .ref q331, .ref q333, .ref q335, .ref q337, .ref q339, .ref q341, .ref q343, .ref q345, .ref q347, .ref q349, .ref q351, .int 0, .ref q353, .ref q355, .ref q357, .ref q359, .ref q361, .int 0, .int 0, .int 0, .int 0, .int 0, .int 0, .int 0, .int (-1), .int 0, .ref q363, .ref q365, .ref q367])), (q353, .inl (cA354, 200, .inl (fun _ => 0))), (q355, .inl (cA356, 24, .inl (fun _ => 0))), (q363, .inl (cA364, 16, .inl (fun _ => 0))), (q365, .inl (cA366, 16, .inl (fun _ => 0)))] H := hP
  have hD : va_D A [(h0, .inr (8, [.int 0, .int 0, .int 0, .ref q245, .ref q311, .ref q321, .ref q323, .ref q325, .ref q327, .int 0, .ref q329, .ref q331, .ref q333, .ref q335, .ref q337, .ref q339, .ref q341, .ref q343, .ref q345, .ref q347, .ref q349, .ref q351, .int 0, .ref q353, .ref q355, .ref q357, .ref q359, .ref q361, .int 0, .int 0, .int 0, .int 0, .int 0, .int 0, .int 0, .int (-1), .int 0, .ref q363, .ref q365, .ref q367])), (q353, .inl (cA354, 200, .inl (fun _ => 0))), (q355, .inl (cA356, 24, .inl (fun _ => 0))), (q363, .inl (cA364, 16, .inl (fun _ => 0))), (q365, .inl (cA366, 16, .inl (fun _ => 0)))] := hD
  have hK : va_K (dC, dI) classes [(cA354, .byte), (cA356, .byte), (cA364, .boolean), (cA366, .boolean)] s := hK
  refine W.widen (k := 26) (n := 11399) (Nat.le_of_ble_eq_true rfl) (Nat.le_of_ble_eq_true rfl) ?_
  try dsimp only at hw
  subst hw
  refine va_putF (D := (dC, dI)) (ci := 8) (v := .int (fk_held k1 1 4)) (ty := .int) (C := RX8) (T := TX8) (N := 40) hx hb hts iX8_init_X8 tyX8 tyX8_ok nmX8 hown hK hP hD hS 0 rfl rfl 0 (by decide) (hts (.fieldLink RX8 170 "LeafSignerModel" "high" "I") (List.mem_of_getElem? (i := 110) rfl)) (fun _ h9 => h9) rfl hin rfl (by decide +kernel) rfl rfl (Nat.le_of_ble_eq_true rfl) dX8_init_651 (fun H locs hP hD hS => ?_)
  have hP : va_P (dC, dI) classes [(h0, .inr (8, [.int (fk_held k1 1 4), .int 0, .int 0, .ref q245, .ref q311, .ref q321, .ref q323, .ref q325, .ref q327, .int 0, .ref q329, .ref q331, .ref q333, .ref q335, .ref q337, .ref q339, .ref q341, .ref q343, .ref q345, .ref q347, .ref q349, .ref q351, .int 0, .ref q353, .ref q355, .ref q357, .ref q359, .ref q361, .int 0, .int 0, .int 0, .int 0, .int 0, .int 0, .int 0, .int (-1), .int 0, .ref q363, .ref q365, .ref q367])), (q353, .inl (cA354, 200, .inl (fun _ => 0))), (q355, .inl (cA356, 24, .inl (fun _ => 0))), (q363, .inl (cA364, 16, .inl (fun _ => 0))), (q365, .inl (cA366, 16, .inl (fun _ => 0)))] H := hP
  have hD : va_D A [(h0, .inr (8, [.int (fk_held k1 1 4), .int 0, .int 0, .ref q245, .ref q311, .ref q321, .ref q323, .ref q325, .ref q327, .int 0, .ref q329, .ref q331, .ref q333, .ref q335, .ref q337, .ref q339, .ref q341, .ref q343, .ref q345, .ref q347, .ref q349, .ref q351, .int 0, .ref q353, .ref q355, .ref q357, .ref q359, .ref q361, .int 0, .int 0, .int 0, .int 0, .int 0, .int 0, .int 0, .int (-1), .int 0, .ref q363, .ref q365, .ref q367])), (q353, .inl (cA354, 200, .inl (fun _ => 0))), (q355, .inl (cA356, 24, .inl (fun _ => 0))), (q363, .inl (cA364, 16, .inl (fun _ => 0))), (q365, .inl (cA366, 16, .inl (fun _ => 0)))] := hD
  refine lv_aload_n hx hb dX8_init_654 rfl (lv_at hl 0 rfl) ?_
  refine lv_iload_n hx hb dX8_init_655 rfl (lv_at hl 2 rfl) ?_
  refine lv_iconst (v := 1) hx hb dX8_init_656 (by decide) ?_
  refine lv_bipush (v := 8) hx hb dX8_init_657 (by decide) ?_
  have hPc := hP.sub (ws' := []) [] rfl
  have hDc := hD.sub (ws' := []) [] (by decide) rfl
  have hKc := hK.sub (tys' := []) [] rfl
  have hFc := va_free (wc := []) hD hS hA [] rfl
  refine va_calli (va_runS (As := [.int k2, .int 1, .int 8]) (rest := [.ref h0]) ⟨hx, hb, hml, hown, hts⟩ (cm_held l dC dI H.size k2 1 8) (va_cwS 3 hts gX8_init_X8_held_166 rfl rfl rfl (by decide +kernel) ⟨(Nat.le_of_ble_eq_true rfl), (Nat.le_of_ble_eq_true rfl)⟩) ⟨fun a U g mk q => by obtain ⟨q0, q1, qP, qK, qD⟩ := q; exact ⟨q0, q1, qP, va_K.moved (u := U) (U := U.calling g mk a) (Vm.Alike.refl U.vm) qK, qD⟩, fun U hU hW => ⟨rfl, by rw [hU], by rw [hU]; exact hPc, va_K.moved hW.alike hKc, hDc.weaken (fun _ _ _ _ => trivial)⟩⟩ rfl rfl hl.1 rfl (lv_room (Nat.le_of_ble_eq_true rfl)) dX8_init_659 ⟨(Nat.le_of_ble_eq_true rfl), (Nat.le_of_ble_eq_true rfl)⟩) hS (fun q _ h => hFc q h) hFc (fun r370 u t H1 locs ht hvm hw hB hz1 hk1 hS => ?_)
  have hP1 : va_P (dC, dI) classes [] H1 := vx_P0
  have hD1 : va_D (va_A [] H.size) [] := vx_D0
  obtain ⟨hP, hD⟩ := va_join (wr := [(h0, .inr (8, [.int (fk_held k1 1 4), .int 0, .int 0, .ref q245, .ref q311, .ref q321, .ref q323, .ref q325, .ref q327, .int 0, .ref q329, .ref q331, .ref q333, .ref q335, .ref q337, .ref q339, .ref q341, .ref q343, .ref q345, .ref q347, .ref q349, .ref q351, .int 0, .ref q353, .ref q355, .ref q357, .ref q359, .ref q361, .int 0, .int 0, .int 0, .int 0, .int 0, .int 0, .int 0, .int (-1), .int 0, .ref q363, .ref q365, .ref q367])), (q353, .inl (cA354, 200, .inl (fun _ => 0))), (q355, .inl (cA356, 24, .inl (fun _ => 0))), (q363, .inl (cA364, 16, .inl (fun _ => 0))), (q365, .inl (cA366, 16, .inl (fun _ => 0)))]) (w1 := []) hP hD [] [0, 1, 2, 3, 4] rfl rfl (by decide) (by decide) hk1 hFc hP1 hD1
  have hK := hK.sub (tys' := [(cA354, .byte), (cA356, .byte), (cA364, .boolean), (cA366, .boolean)]) [0, 1, 2, 3] rfl
  generalize H1 = H at hP hS ⊢
  have hP : va_P (dC, dI) classes [(h0, .inr (8, [.int (fk_held k1 1 4), .int 0, .int 0, .ref q245, .ref q311, .ref q321, .ref q323, .ref q325, .ref q327, .int 0, .ref q329, .ref q331, .ref q333, .ref q335, .ref q337, .ref q339, .ref q341, .ref q343, .ref q345, .ref q347, .ref q349, .ref q351, .int 0, .ref q353, .ref q355, .ref q357, .ref q359, .ref q361, .int 0, .int 0, .int 0, .int 0, .int 0, .int 0, .int 0, .int (-1), .int 0, .ref q363, .ref q365, .ref q367])), (q353, .inl (cA354, 200, .inl (fun _ => 0))), (q355, .inl (cA356, 24, .inl (fun _ => 0))), (q363, .inl (cA364, 16, .inl (fun _ => 0))), (q365, .inl (cA366, 16, .inl (fun _ => 0)))] H := hP
  have hD : va_D A [(h0, .inr (8, [.int (fk_held k1 1 4), .int 0, .int 0, .ref q245, .ref q311, .ref q321, .ref q323, .ref q325, .ref q327, .int 0, .ref q329, .ref q331, .ref q333, .ref q335, .ref q337, .ref q339, .ref q341, .ref q343, .ref q345, .ref q347, .ref q349, .ref q351, .int 0, .ref q353, .ref q355, .ref q357, .ref q359, .ref q361, .int 0, .int 0, .int 0, .int 0, .int 0, .int 0, .int 0, .int (-1), .int 0, .ref q363, .ref q365, .ref q367])), (q353, .inl (cA354, 200, .inl (fun _ => 0))), (q355, .inl (cA356, 24, .inl (fun _ => 0))), (q363, .inl (cA364, 16, .inl (fun _ => 0))), (q365, .inl (cA366, 16, .inl (fun _ => 0)))] := hD
  have hK : va_K (dC, dI) classes [(cA354, .byte), (cA356, .byte), (cA364, .boolean), (cA366, .boolean)] s := hK
  refine W.widen (k := 26) (n := 11399) (Nat.le_of_ble_eq_true rfl) (Nat.le_of_ble_eq_true rfl) ?_
  try dsimp only at hw
  subst hw
  refine va_putF (D := (dC, dI)) (ci := 8) (v := .int (fk_held k2 1 8)) (ty := .int) (C := RX8) (T := TX8) (N := 40) hx hb hts iX8_init_X8 tyX8 tyX8_ok nmX8 hown hK hP hD hS 0 rfl rfl 1 (by decide) (hts (.fieldLink RX8 173 "LeafSignerModel" "reserve" "I") (List.mem_of_getElem? (i := 111) rfl)) (fun _ h9 => h9) rfl hin rfl (by decide +kernel) rfl rfl (Nat.le_of_ble_eq_true rfl) dX8_init_662 (fun H locs hP hD hS => ?_)
  have hP : va_P (dC, dI) classes [(h0, .inr (8, [.int (fk_held k1 1 4), .int (fk_held k2 1 8), .int 0, .ref q245, .ref q311, .ref q321, .ref q323, .ref q325, .ref q327, .int 0, .ref q329, .ref q331, .ref q333, .ref q335, .ref q337, .ref q339, .ref q341, .ref q343, .ref q345, .ref q347, .ref q349, .ref q351, .int 0, .ref q353, .ref q355, .ref q357, .ref q359, .ref q361, .int 0, .int 0, .int 0, .int 0, .int 0, .int 0, .int 0, .int (-1), .int 0, .ref q363, .ref q365, .ref q367])), (q353, .inl (cA354, 200, .inl (fun _ => 0))), (q355, .inl (cA356, 24, .inl (fun _ => 0))), (q363, .inl (cA364, 16, .inl (fun _ => 0))), (q365, .inl (cA366, 16, .inl (fun _ => 0)))] H := hP
  have hD : va_D A [(h0, .inr (8, [.int (fk_held k1 1 4), .int (fk_held k2 1 8), .int 0, .ref q245, .ref q311, .ref q321, .ref q323, .ref q325, .ref q327, .int 0, .ref q329, .ref q331, .ref q333, .ref q335, .ref q337, .ref q339, .ref q341, .ref q343, .ref q345, .ref q347, .ref q349, .ref q351, .int 0, .ref q353, .ref q355, .ref q357, .ref q359, .ref q361, .int 0, .int 0, .int 0, .int 0, .int 0, .int 0, .int 0, .int (-1), .int 0, .ref q363, .ref q365, .ref q367])), (q353, .inl (cA354, 200, .inl (fun _ => 0))), (q355, .inl (cA356, 24, .inl (fun _ => 0))), (q363, .inl (cA364, 16, .inl (fun _ => 0))), (q365, .inl (cA366, 16, .inl (fun _ => 0)))] := hD
  refine lv_aload_n hx hb dX8_init_665 rfl (lv_at hl 0 rfl) ?_
  refine lv_iconst (v := 1) hx hb dX8_init_666 (by decide) ?_
  refine lv_aload_n hx hb dX8_init_667 rfl (lv_at hl 0 rfl) ?_
  refine va_get (D := (dC, dI)) (ci := 8) (v := .int (fk_held k1 1 4)) (C := RX8) (T := TX8) (N := 40) hx hb hts iX8_init_X8 hown hK hP 0 rfl rfl 0 (by decide) (hts (.fieldLink RX8 170 "LeafSignerModel" "high" "I") (List.mem_of_getElem? (i := 110) rfl)) (fun _ h9 => h9) rfl dX8_init_668 ?_
  refine lv_ishl hx hb dX8_init_671 ?_
  refine va_putF (D := (dC, dI)) (ci := 8) (v := .int ((1 : Int32) <<< ((fk_held k1 1 4) &&& 31))) (ty := .int) (C := RX8) (T := TX8) (N := 40) hx hb hts iX8_init_X8 tyX8 tyX8_ok nmX8 hown hK hP hD hS 0 rfl rfl 2 (by decide) (hts (.fieldLink RX8 176 "LeafSignerModel" "leaves" "I") (List.mem_of_getElem? (i := 112) rfl)) (fun _ h9 => h9) rfl hin rfl (by decide +kernel) rfl rfl (Nat.le_of_ble_eq_true rfl) dX8_init_672 (fun H locs hP hD hS => ?_)
  have hP : va_P (dC, dI) classes [(h0, .inr (8, [.int (fk_held k1 1 4), .int (fk_held k2 1 8), .int ((1 : Int32) <<< ((fk_held k1 1 4) &&& 31)), .ref q245, .ref q311, .ref q321, .ref q323, .ref q325, .ref q327, .int 0, .ref q329, .ref q331, .ref q333, .ref q335, .ref q337, .ref q339, .ref q341, .ref q343, .ref q345, .ref q347, .ref q349, .ref q351, .int 0, .ref q353, .ref q355, .ref q357, .ref q359, .ref q361, .int 0, .int 0, .int 0, .int 0, .int 0, .int 0, .int 0, .int (-1), .int 0, .ref q363, .ref q365, .ref q367])), (q353, .inl (cA354, 200, .inl (fun _ => 0))), (q355, .inl (cA356, 24, .inl (fun _ => 0))), (q363, .inl (cA364, 16, .inl (fun _ => 0))), (q365, .inl (cA366, 16, .inl (fun _ => 0)))] H := hP
  have hD : va_D A [(h0, .inr (8, [.int (fk_held k1 1 4), .int (fk_held k2 1 8), .int ((1 : Int32) <<< ((fk_held k1 1 4) &&& 31)), .ref q245, .ref q311, .ref q321, .ref q323, .ref q325, .ref q327, .int 0, .ref q329, .ref q331, .ref q333, .ref q335, .ref q337, .ref q339, .ref q341, .ref q343, .ref q345, .ref q347, .ref q349, .ref q351, .int 0, .ref q353, .ref q355, .ref q357, .ref q359, .ref q361, .int 0, .int 0, .int 0, .int 0, .int 0, .int 0, .int 0, .int (-1), .int 0, .ref q363, .ref q365, .ref q367])), (q353, .inl (cA354, 200, .inl (fun _ => 0))), (q355, .inl (cA356, 24, .inl (fun _ => 0))), (q363, .inl (cA364, 16, .inl (fun _ => 0))), (q365, .inl (cA366, 16, .inl (fun _ => 0)))] := hD
  refine W.widen (k := 26) (n := 11399) (Nat.le_of_ble_eq_true rfl) (Nat.le_of_ble_eq_true rfl) ?_
  have hP9 := hP.sub (ws' := [(h0, .inr (8, [.int (fk_held k1 1 4), .int (fk_held k2 1 8), .int ((1 : Int32) <<< ((fk_held k1 1 4) &&& 31)), .ref q245, .ref q311, .ref q321, .ref q323, .ref q325, .ref q327, .int 0, .ref q329, .ref q331, .ref q333, .ref q335, .ref q337, .ref q339, .ref q341, .ref q343, .ref q345, .ref q347, .ref q349, .ref q351, .int 0, .ref q353, .ref q355, .ref q357, .ref q359, .ref q361, .int 0, .int 0, .int 0, .int 0, .int 0, .int 0, .int 0, .int (-1), .int 0, .ref q363, .ref q365, .ref q367])), (q353, .inl (cA354, 200, .inl (fun _ => 0))), (q355, .inl (cA356, 24, .inl (fun _ => 0))), (q363, .inl (cA364, 16, .inl (fun _ => 0))), (q365, .inl (cA366, 16, .inl (fun _ => 0)))]) [0, 1, 2, 3, 4] rfl
  have hD9 := hD.sub (ws' := [(h0, .inr (8, [.int (fk_held k1 1 4), .int (fk_held k2 1 8), .int ((1 : Int32) <<< ((fk_held k1 1 4) &&& 31)), .ref q245, .ref q311, .ref q321, .ref q323, .ref q325, .ref q327, .int 0, .ref q329, .ref q331, .ref q333, .ref q335, .ref q337, .ref q339, .ref q341, .ref q343, .ref q345, .ref q347, .ref q349, .ref q351, .int 0, .ref q353, .ref q355, .ref q357, .ref q359, .ref q361, .int 0, .int 0, .int 0, .int 0, .int 0, .int 0, .int 0, .int (-1), .int 0, .ref q363, .ref q365, .ref q367])), (q353, .inl (cA354, 200, .inl (fun _ => 0))), (q355, .inl (cA356, 24, .inl (fun _ => 0))), (q363, .inl (cA364, 16, .inl (fun _ => 0))), (q365, .inl (cA366, 16, .inl (fun _ => 0)))]) [0, 1, 2, 3, 4] (by decide) rfl
  have hK9 := hK.sub (tys' := [(cA354, .byte), (cA356, .byte), (cA364, .boolean), (cA366, .boolean)]) [0, 1, 2, 3] rfl
  exact W.vret hx hb hr (fun t ht hW => ⟨⟨(), rfl, trivial, ⟨mg [0, 0, 0, q245, q311, q321, q323, q325, q327, 0, q329, q331, q333, q335, q337, q339, q341, q343, q345, q347, q349, q351, 0, q353, q355, q357, q359, q361, 0, 0, 0, 0, 0, 0, 0, 0, 0, q363, q365, q367], cA354, cA356, cA364, cA366, by rw [ht]; exact hP9, va_K.moved hW.alike hK9, hD9⟩⟩, hS.F ht⟩) hS.2.2 dX8_init_675
end
