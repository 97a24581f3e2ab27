section
-- ===== PART A: goes FIRST, ahead of the names: the tables' words, and 'selects' of the private methods out of them =====
/-- a private method of a class that the tables say can be made, by its rows of tables_1 -/
def lw_okq (q : MethodName × Nat) : Prop := (q.1.cls ≠ "java/lang/invoke/MethodHandle" ∧ q.1.cls ≠ "java/lang/invoke/VarHandle") ∧ Cond.instantiable q.1.cls q.2 ∈ tables_1 ∧ Cond.privateMethod q.1 ∈ tables_1 ∧ Cond.instanceMethod q.1 ∈ tables_1
theorem lw_p0 : lw_okq (⟨"RoomGone", "canTakeFile", "()Z"⟩, 8) := ⟨⟨by decide +kernel, by decide +kernel⟩, List.mem_of_getElem? (i := 13) (by decide +kernel), List.mem_of_getElem? (i := 200) (by decide +kernel), List.mem_of_getElem? (i := 201) (by decide +kernel)⟩
theorem lw_p1 : lw_okq (⟨"RoomGone", "blocksHad", "()J"⟩, 8) := ⟨⟨by decide +kernel, by decide +kernel⟩, List.mem_of_getElem? (i := 13) (by decide +kernel), List.mem_of_getElem? (i := 306) (by decide +kernel), List.mem_of_getElem? (i := 307) (by decide +kernel)⟩
theorem lw_p2 : lw_okq (⟨"RoomGone$StoredFile", "noteChange", "(I)V"⟩, 6) := ⟨⟨by decide +kernel, by decide +kernel⟩, List.mem_of_getElem? (i := 212) (by decide +kernel), List.mem_of_getElem? (i := 349) (by decide +kernel), List.mem_of_getElem? (i := 350) (by decide +kernel)⟩
theorem lw_p3 : lw_okq (⟨"RoomGone", "filesOfTree", "(I)J"⟩, 8) := ⟨⟨by decide +kernel, by decide +kernel⟩, List.mem_of_getElem? (i := 13) (by decide +kernel), List.mem_of_getElem? (i := 390) (by decide +kernel), List.mem_of_getElem? (i := 391) (by decide +kernel)⟩
theorem lw_p4 : lw_okq (⟨"RoomGone", "heldAlone", "(I)I"⟩, 8) := ⟨⟨by decide +kernel, by decide +kernel⟩, List.mem_of_getElem? (i := 13) (by decide +kernel), List.mem_of_getElem? (i := 429) (by decide +kernel), List.mem_of_getElem? (i := 430) (by decide +kernel)⟩
theorem lw_p5 : lw_okq (⟨"RoomGone", "takenBy", "(I)I"⟩, 8) := ⟨⟨by decide +kernel, by decide +kernel⟩, List.mem_of_getElem? (i := 13) (by decide +kernel), List.mem_of_getElem? (i := 451) (by decide +kernel), List.mem_of_getElem? (i := 452) (by decide +kernel)⟩
theorem lw_p6 : lw_okq (⟨"RoomGone$Marks", "isKept", "(II)Z"⟩, 3) := ⟨⟨by decide +kernel, by decide +kernel⟩, List.mem_of_getElem? (i := 89) (by decide +kernel), List.mem_of_getElem? (i := 459) (by decide +kernel), List.mem_of_getElem? (i := 460) (by decide +kernel)⟩
theorem lw_p7 : lw_okq (⟨"RoomGone", "blocksFreedBy", "(J)J"⟩, 8) := ⟨⟨by decide +kernel, by decide +kernel⟩, List.mem_of_getElem? (i := 13) (by decide +kernel), List.mem_of_getElem? (i := 481) (by decide +kernel), List.mem_of_getElem? (i := 482) (by decide +kernel)⟩
theorem lw_p8 : lw_okq (⟨"RoomGone", "findPlan", "(II)Z"⟩, 8) := ⟨⟨by decide +kernel, by decide +kernel⟩, List.mem_of_getElem? (i := 13) (by decide +kernel), List.mem_of_getElem? (i := 493) (by decide +kernel), List.mem_of_getElem? (i := 494) (by decide +kernel)⟩
theorem lw_p9 : lw_okq (⟨"RoomGone$Planner", "gather", "(LRoomGone$Files;J)V"⟩, 7) := ⟨⟨by decide +kernel, by decide +kernel⟩, List.mem_of_getElem? (i := 106) (by decide +kernel), List.mem_of_getElem? (i := 501) (by decide +kernel), List.mem_of_getElem? (i := 502) (by decide +kernel)⟩
theorem lw_p10 : lw_okq (⟨"RoomGone$Files", "countAhead", "(JI)I"⟩, 2) := ⟨⟨by decide +kernel, by decide +kernel⟩, List.mem_of_getElem? (i := 43) (by decide +kernel), List.mem_of_getElem? (i := 524) (by decide +kernel), List.mem_of_getElem? (i := 525) (by decide +kernel)⟩
theorem lw_p11 : lw_okq (⟨"RoomGone$Files", "sizeOf", "(I)I"⟩, 2) := ⟨⟨by decide +kernel, by decide +kernel⟩, List.mem_of_getElem? (i := 43) (by decide +kernel), List.mem_of_getElem? (i := 528) (by decide +kernel), List.mem_of_getElem? (i := 529) (by decide +kernel)⟩
theorem lw_p12 : lw_okq (⟨"RoomGone$Marks", "moreAt", "(I)I"⟩, 3) := ⟨⟨by decide +kernel, by decide +kernel⟩, List.mem_of_getElem? (i := 89) (by decide +kernel), List.mem_of_getElem? (i := 545) (by decide +kernel), List.mem_of_getElem? (i := 546) (by decide +kernel)⟩
theorem lw_p13 : lw_okq (⟨"RoomGone", "dayFullBy", "(I)I"⟩, 8) := ⟨⟨by decide +kernel, by decide +kernel⟩, List.mem_of_getElem? (i := 13) (by decide +kernel), List.mem_of_getElem? (i := 554) (by decide +kernel), List.mem_of_getElem? (i := 555) (by decide +kernel)⟩
theorem lw_p14 : lw_okq (⟨"RoomGoneModel", "isFolder", "(I)Z"⟩, 26) := ⟨⟨by decide +kernel, by decide +kernel⟩, List.mem_of_getElem? (i := 588) (by decide +kernel), List.mem_of_getElem? (i := 684) (by decide +kernel), List.mem_of_getElem? (i := 685) (by decide +kernel)⟩
theorem lw_p15 : lw_okq (⟨"RoomGoneModel", "isOf", "(II)Z"⟩, 26) := ⟨⟨by decide +kernel, by decide +kernel⟩, List.mem_of_getElem? (i := 588) (by decide +kernel), List.mem_of_getElem? (i := 692) (by decide +kernel), List.mem_of_getElem? (i := 693) (by decide +kernel)⟩
def lw_privs_1 : List (MethodName × Nat) := [(⟨"RoomGone", "canTakeFile", "()Z"⟩, 8), (⟨"RoomGone", "blocksHad", "()J"⟩, 8), (⟨"RoomGone$StoredFile", "noteChange", "(I)V"⟩, 6), (⟨"RoomGone", "filesOfTree", "(I)J"⟩, 8), (⟨"RoomGone", "heldAlone", "(I)I"⟩, 8), (⟨"RoomGone", "takenBy", "(I)I"⟩, 8), (⟨"RoomGone$Marks", "isKept", "(II)Z"⟩, 3), (⟨"RoomGone", "blocksFreedBy", "(J)J"⟩, 8), (⟨"RoomGone", "findPlan", "(II)Z"⟩, 8), (⟨"RoomGone$Planner", "gather", "(LRoomGone$Files;J)V"⟩, 7), (⟨"RoomGone$Files", "countAhead", "(JI)I"⟩, 2), (⟨"RoomGone$Files", "sizeOf", "(I)I"⟩, 2), (⟨"RoomGone$Marks", "moreAt", "(I)I"⟩, 3), (⟨"RoomGone", "dayFullBy", "(I)I"⟩, 8), (⟨"RoomGoneModel", "isFolder", "(I)Z"⟩, 26), (⟨"RoomGoneModel", "isOf", "(II)Z"⟩, 26)]
theorem lw_r1 : ∀ q ∈ lw_privs_1, lw_okq q := List.forall_mem_cons.mpr ⟨lw_p0, List.forall_mem_cons.mpr ⟨lw_p1, List.forall_mem_cons.mpr ⟨lw_p2, List.forall_mem_cons.mpr ⟨lw_p3, List.forall_mem_cons.mpr ⟨lw_p4, List.forall_mem_cons.mpr ⟨lw_p5, List.forall_mem_cons.mpr ⟨lw_p6, List.forall_mem_cons.mpr ⟨lw_p7, List.forall_mem_cons.mpr ⟨lw_p8, List.forall_mem_cons.mpr ⟨lw_p9, List.forall_mem_cons.mpr ⟨lw_p10, List.forall_mem_cons.mpr ⟨lw_p11, List.forall_mem_cons.mpr ⟨lw_p12, List.forall_mem_cons.mpr ⟨lw_p13, List.forall_mem_cons.mpr ⟨lw_p14, List.forall_mem_cons.mpr ⟨lw_p15, fun _ h => absurd h List.not_mem_nil⟩⟩⟩⟩⟩⟩⟩⟩⟩⟩⟩⟩⟩⟩⟩⟩
theorem lw_p16 : lw_okq (⟨"RoomGoneModel", "newName", "(II)I"⟩, 26) := ⟨⟨by decide +kernel, by decide +kernel⟩, List.mem_of_getElem? (i := 588) (by decide +kernel), List.mem_of_getElem? (i := 700) (by decide +kernel), List.mem_of_getElem? (i := 701) (by decide +kernel)⟩
theorem lw_p17 : lw_okq (⟨"RoomGoneModel", "isFile", "(I)Z"⟩, 26) := ⟨⟨by decide +kernel, by decide +kernel⟩, List.mem_of_getElem? (i := 588) (by decide +kernel), List.mem_of_getElem? (i := 718) (by decide +kernel), List.mem_of_getElem? (i := 719) (by decide +kernel)⟩
theorem lw_p18 : lw_okq (⟨"RoomGoneModel", "namesOf", "(I)I"⟩, 26) := ⟨⟨by decide +kernel, by decide +kernel⟩, List.mem_of_getElem? (i := 588) (by decide +kernel), List.mem_of_getElem? (i := 722) (by decide +kernel), List.mem_of_getElem? (i := 723) (by decide +kernel)⟩
theorem lw_p19 : lw_okq (⟨"RoomGoneModel", "isPlace", "(II)Z"⟩, 26) := ⟨⟨by decide +kernel, by decide +kernel⟩, List.mem_of_getElem? (i := 588) (by decide +kernel), List.mem_of_getElem? (i := 734) (by decide +kernel), List.mem_of_getElem? (i := 735) (by decide +kernel)⟩
theorem lw_p20 : lw_okq (⟨"RoomGoneModel", "allFiles", "()J"⟩, 26) := ⟨⟨by decide +kernel, by decide +kernel⟩, List.mem_of_getElem? (i := 588) (by decide +kernel), List.mem_of_getElem? (i := 738) (by decide +kernel), List.mem_of_getElem? (i := 739) (by decide +kernel)⟩
theorem lw_p21 : lw_okq (⟨"RoomGoneModel", "blocksOf", "(I)J"⟩, 26) := ⟨⟨by decide +kernel, by decide +kernel⟩, List.mem_of_getElem? (i := 588) (by decide +kernel), List.mem_of_getElem? (i := 742) (by decide +kernel), List.mem_of_getElem? (i := 743) (by decide +kernel)⟩
theorem lw_p22 : lw_okq (⟨"RoomGoneModel", "shots", "(I)J"⟩, 26) := ⟨⟨by decide +kernel, by decide +kernel⟩, List.mem_of_getElem? (i := 588) (by decide +kernel), List.mem_of_getElem? (i := 746) (by decide +kernel), List.mem_of_getElem? (i := 747) (by decide +kernel)⟩
theorem lw_p23 : lw_okq (⟨"RoomGoneModel", "puts", "(III)V"⟩, 26) := ⟨⟨by decide +kernel, by decide +kernel⟩, List.mem_of_getElem? (i := 588) (by decide +kernel), List.mem_of_getElem? (i := 753) (by decide +kernel), List.mem_of_getElem? (i := 754) (by decide +kernel)⟩
theorem lw_p24 : lw_okq (⟨"RoomGoneModel", "isSeen", "(II)Z"⟩, 26) := ⟨⟨by decide +kernel, by decide +kernel⟩, List.mem_of_getElem? (i := 588) (by decide +kernel), List.mem_of_getElem? (i := 778) (by decide +kernel), List.mem_of_getElem? (i := 779) (by decide +kernel)⟩
theorem lw_p25 : lw_okq (⟨"RoomGoneModel", "taken", "(I)I"⟩, 26) := ⟨⟨by decide +kernel, by decide +kernel⟩, List.mem_of_getElem? (i := 588) (by decide +kernel), List.mem_of_getElem? (i := 782) (by decide +kernel), List.mem_of_getElem? (i := 783) (by decide +kernel)⟩
theorem lw_p26 : lw_okq (⟨"RoomGoneModel", "isIn", "(II)Z"⟩, 26) := ⟨⟨by decide +kernel, by decide +kernel⟩, List.mem_of_getElem? (i := 588) (by decide +kernel), List.mem_of_getElem? (i := 786) (by decide +kernel), List.mem_of_getElem? (i := 787) (by decide +kernel)⟩
theorem lw_p27 : lw_okq (⟨"RoomGoneModel", "isSnapshot", "(I)Z"⟩, 26) := ⟨⟨by decide +kernel, by decide +kernel⟩, List.mem_of_getElem? (i := 588) (by decide +kernel), List.mem_of_getElem? (i := 802) (by decide +kernel), List.mem_of_getElem? (i := 803) (by decide +kernel)⟩
theorem lw_p28 : lw_okq (⟨"RoomGoneModel", "hasOutside", "(II)Z"⟩, 26) := ⟨⟨by decide +kernel, by decide +kernel⟩, List.mem_of_getElem? (i := 588) (by decide +kernel), List.mem_of_getElem? (i := 825) (by decide +kernel), List.mem_of_getElem? (i := 826) (by decide +kernel)⟩
theorem lw_p29 : lw_okq (⟨"RoomGoneModel", "freedBy", "()I"⟩, 26) := ⟨⟨by decide +kernel, by decide +kernel⟩, List.mem_of_getElem? (i := 588) (by decide +kernel), List.mem_of_getElem? (i := 829) (by decide +kernel), List.mem_of_getElem? (i := 830) (by decide +kernel)⟩
theorem lw_p30 : lw_okq (⟨"RoomGoneModel", "plans", "(II)I"⟩, 26) := ⟨⟨by decide +kernel, by decide +kernel⟩, List.mem_of_getElem? (i := 588) (by decide +kernel), List.mem_of_getElem? (i := 841) (by decide +kernel), List.mem_of_getElem? (i := 842) (by decide +kernel)⟩
def lw_privs_2 : List (MethodName × Nat) := [(⟨"RoomGoneModel", "newName", "(II)I"⟩, 26), (⟨"RoomGoneModel", "isFile", "(I)Z"⟩, 26), (⟨"RoomGoneModel", "namesOf", "(I)I"⟩, 26), (⟨"RoomGoneModel", "isPlace", "(II)Z"⟩, 26), (⟨"RoomGoneModel", "allFiles", "()J"⟩, 26), (⟨"RoomGoneModel", "blocksOf", "(I)J"⟩, 26), (⟨"RoomGoneModel", "shots", "(I)J"⟩, 26), (⟨"RoomGoneModel", "puts", "(III)V"⟩, 26), (⟨"RoomGoneModel", "isSeen", "(II)Z"⟩, 26), (⟨"RoomGoneModel", "taken", "(I)I"⟩, 26), (⟨"RoomGoneModel", "isIn", "(II)Z"⟩, 26), (⟨"RoomGoneModel", "isSnapshot", "(I)Z"⟩, 26), (⟨"RoomGoneModel", "hasOutside", "(II)Z"⟩, 26), (⟨"RoomGoneModel", "freedBy", "()I"⟩, 26), (⟨"RoomGoneModel", "plans", "(II)I"⟩, 26)]
theorem lw_r2 : ∀ q ∈ lw_privs_2, lw_okq q := List.forall_mem_cons.mpr ⟨lw_p16, List.forall_mem_cons.mpr ⟨lw_p17, List.forall_mem_cons.mpr ⟨lw_p18, List.forall_mem_cons.mpr ⟨lw_p19, List.forall_mem_cons.mpr ⟨lw_p20, List.forall_mem_cons.mpr ⟨lw_p21, List.forall_mem_cons.mpr ⟨lw_p22, List.forall_mem_cons.mpr ⟨lw_p23, List.forall_mem_cons.mpr ⟨lw_p24, List.forall_mem_cons.mpr ⟨lw_p25, List.forall_mem_cons.mpr ⟨lw_p26, List.forall_mem_cons.mpr ⟨lw_p27, List.forall_mem_cons.mpr ⟨lw_p28, List.forall_mem_cons.mpr ⟨lw_p29, List.forall_mem_cons.mpr ⟨lw_p30, fun _ h => absurd h List.not_mem_nil⟩⟩⟩⟩⟩⟩⟩⟩⟩⟩⟩⟩⟩⟩⟩
def lw_privs : List (MethodName × Nat) := lw_privs_1 ++ (lw_privs_2)
def lw_tbl : List Cond := k2_sels lw_privs ++ tables_1
theorem lw_privs_ok : ∀ q ∈ lw_privs, lw_okq q := by
  show ∀ q ∈ lw_privs_1 ++ (lw_privs_2), lw_okq q
  exact List.forall_mem_append.mpr ⟨lw_r1, lw_r2⟩
end
section
def RX0 : String := "RoomGone$Files"
def TX0 : u_T := fun k => match k with
  | 0 => ("RoomGone$Files", "all", "[LRoomGone$StoredFile;", true)
  | _ => ("RoomGone$Files", "came", "I", false)
def tyX0 : Nat → FieldType := fun k => match k with
  | 0 => .array (.object "RoomGone$StoredFile")
  | _ => .int
abbrev wsX00 : List Cond := u_ws RX0 TX0 2
theorem nmX0 : ∀ a, a < 2 → ∀ b, b < 2 → a ≠ b → (TX0 a).2.1 ≠ (TX0 b).2.1 := by decide +kernel
theorem tyX0_ok : ∀ k, k < 2 → parseFieldDescriptor (TX0 k).2.2.1 = some (tyX0 k) := by decide +kernel
abbrev cX0_init : ByteArray := prog_2_method_1_code
def yX0_init : MethodName := ⟨RX0, "<init>", "()V"⟩
abbrev cX0_hasRoom : ByteArray := prog_2_method_2_code
def yX0_hasRoom : MethodName := ⟨RX0, "hasRoom", "()Z"⟩
abbrev cX0_add : ByteArray := prog_2_method_3_code
def yX0_add : MethodName := ⟨RX0, "add", "(LRoomGone$StoredFile;)I"⟩
abbrev cX0_find : ByteArray := prog_2_method_4_code
def yX0_find : MethodName := ⟨RX0, "find", "(I)LRoomGone$StoredFile;"⟩
abbrev cX0_forget : ByteArray := prog_2_method_5_code
def yX0_forget : MethodName := ⟨RX0, "forget", "(I)V"⟩
abbrev cX0_countThere : ByteArray := prog_2_method_6_code
def yX0_countThere : MethodName := ⟨RX0, "countThere", "()I"⟩
abbrev cX0_hadBy : ByteArray := prog_2_method_7_code
def yX0_hadBy : MethodName := ⟨RX0, "hadBy", "(J)J"⟩
abbrev cX0_lengthOf : ByteArray := prog_2_method_8_code
def yX0_lengthOf : MethodName := ⟨RX0, "lengthOf", "(J)I"⟩
abbrev cX0_byBlocks : ByteArray := prog_2_method_9_code
def yX0_byBlocks : MethodName := ⟨RX0, "byBlocks", "(JI)I"⟩
abbrev cX0_countAhead : ByteArray := prog_2_method_10_code
def yX0_countAhead : MethodName := ⟨RX0, "countAhead", "(JI)I"⟩
abbrev cX0_sizeOf : ByteArray := prog_2_method_11_code
def yX0_sizeOf : MethodName := ⟨RX0, "sizeOf", "(I)I"⟩
def RX1 : String := "RoomGone$Folders"
def TX1 : u_T := fun k => match k with
  | 0 => ("RoomGone$Folders", "parent", "[I", true)
  | 1 => ("RoomGone$Folders", "owner", "[I", true)
  | 2 => ("RoomGone$Folders", "hidden", "[Z", true)
  | _ => ("RoomGone$Folders", "came", "I", false)
def tyX1 : Nat → FieldType := fun k => match k with
  | 0 => .array .int
  | 1 => .array .int
  | 2 => .array .boolean
  | _ => .int
abbrev wsX10 : List Cond := u_ws RX1 TX1 4
theorem nmX1 : ∀ a, a < 4 → ∀ b, b < 4 → a ≠ b → (TX1 a).2.1 ≠ (TX1 b).2.1 := by decide +kernel
theorem tyX1_ok : ∀ k, k < 4 → parseFieldDescriptor (TX1 k).2.2.1 = some (tyX1 k) := by decide +kernel
abbrev cX1_init : ByteArray := prog_3_method_1_code
def yX1_init : MethodName := ⟨RX1, "<init>", "()V"⟩
abbrev cX1_has : ByteArray := prog_3_method_2_code
def yX1_has : MethodName := ⟨RX1, "has", "(I)Z"⟩
abbrev cX1_add : ByteArray := prog_3_method_3_code
def yX1_add : MethodName := ⟨RX1, "add", "(IIZ)I"⟩
abbrev cX1_putIn : ByteArray := prog_3_method_4_code
def yX1_putIn : MethodName := ⟨RX1, "putIn", "(II)V"⟩
abbrev cX1_isInTree : ByteArray := prog_3_method_5_code
def yX1_isInTree : MethodName := ⟨RX1, "isInTree", "(II)Z"⟩
abbrev cX1_treeOf : ByteArray := prog_3_method_6_code
def yX1_treeOf : MethodName := ⟨RX1, "treeOf", "(I)I"⟩
abbrev cX1_isSeen : ByteArray := prog_3_method_7_code
def yX1_isSeen : MethodName := ⟨RX1, "isSeen", "(II)Z"⟩
abbrev cX1_maySum : ByteArray := prog_3_method_8_code
def yX1_maySum : MethodName := ⟨RX1, "maySum", "(II)Z"⟩
def RX2 : String := "RoomGone$Marks"
def TX2 : u_T := fun k => match k with
  | 0 => ("RoomGone$Marks", "day", "[I", true)
  | 1 => ("RoomGone$Marks", "taken", "[I", true)
  | _ => ("RoomGone$Marks", "came", "I", false)
def tyX2 : Nat → FieldType := fun k => match k with
  | 0 => .array .int
  | 1 => .array .int
  | _ => .int
abbrev wsX20 : List Cond := u_ws RX2 TX2 3
theorem nmX2 : ∀ a, a < 3 → ∀ b, b < 3 → a ≠ b → (TX2 a).2.1 ≠ (TX2 b).2.1 := by decide +kernel
theorem tyX2_ok : ∀ k, k < 3 → parseFieldDescriptor (TX2 k).2.2.1 = some (tyX2 k) := by decide +kernel
abbrev cX2_init : ByteArray := prog_4_method_1_code
def yX2_init : MethodName := ⟨RX2, "<init>", "()V"⟩
abbrev cX2_has : ByteArray := prog_4_method_2_code
def yX2_has : MethodName := ⟨RX2, "has", "(I)Z"⟩
abbrev cX2_add : ByteArray := prog_4_method_3_code
def yX2_add : MethodName := ⟨RX2, "add", "(I)I"⟩
abbrev cX2_keep : ByteArray := prog_4_method_4_code
def yX2_keep : MethodName := ⟨RX2, "keep", "(III)V"⟩
abbrev cX2_takenAt : ByteArray := prog_4_method_5_code
def yX2_takenAt : MethodName := ⟨RX2, "takenAt", "(II)I"⟩
abbrev cX2_leastGrowth : ByteArray := prog_4_method_6_code
def yX2_leastGrowth : MethodName := ⟨RX2, "leastGrowth", "()I"⟩
abbrev cX2_greatestGrowth : ByteArray := prog_4_method_7_code
def yX2_greatestGrowth : MethodName := ⟨RX2, "greatestGrowth", "()I"⟩
abbrev cX2_moreAt : ByteArray := prog_4_method_8_code
def yX2_moreAt : MethodName := ⟨RX2, "moreAt", "(I)I"⟩
abbrev cX2_isKept : ByteArray := prog_4_method_9_code
def yX2_isKept : MethodName := ⟨RX2, "isKept", "(II)Z"⟩
def RX3 : String := "RoomGone$Names"
def TX3 : u_T := fun k => match k with
  | 0 => ("RoomGone$Names", "fileNamed", "[I", true)
  | 1 => ("RoomGone$Names", "folderOf", "[I", true)
  | _ => ("RoomGone$Names", "came", "I", false)
def tyX3 : Nat → FieldType := fun k => match k with
  | 0 => .array .int
  | 1 => .array .int
  | _ => .int
abbrev wsX30 : List Cond := u_ws RX3 TX3 3
theorem nmX3 : ∀ a, a < 3 → ∀ b, b < 3 → a ≠ b → (TX3 a).2.1 ≠ (TX3 b).2.1 := by decide +kernel
theorem tyX3_ok : ∀ k, k < 3 → parseFieldDescriptor (TX3 k).2.2.1 = some (tyX3 k) := by decide +kernel
abbrev cX3_init : ByteArray := prog_5_method_1_code
def yX3_init : MethodName := ⟨RX3, "<init>", "()V"⟩
abbrev cX3_hasRoom : ByteArray := prog_5_method_2_code
def yX3_hasRoom : MethodName := ⟨RX3, "hasRoom", "()Z"⟩
abbrev cX3_add : ByteArray := prog_5_method_3_code
def yX3_add : MethodName := ⟨RX3, "add", "(II)I"⟩
abbrev cX3_fileOf : ByteArray := prog_5_method_4_code
def yX3_fileOf : MethodName := ⟨RX3, "fileOf", "(I)I"⟩
abbrev cX3_remove : ByteArray := prog_5_method_5_code
def yX3_remove : MethodName := ⟨RX3, "remove", "(I)V"⟩
abbrev cX3_countOf : ByteArray := prog_5_method_6_code
def yX3_countOf : MethodName := ⟨RX3, "countOf", "(I)I"⟩
abbrev cX3_countThere : ByteArray := prog_5_method_7_code
def yX3_countThere : MethodName := ⟨RX3, "countThere", "()I"⟩
abbrev cX3_memberIn : ByteArray := prog_5_method_8_code
def yX3_memberIn : MethodName := ⟨RX3, "memberIn", "(II)I"⟩
abbrev cX3_filesWithin : ByteArray := prog_5_method_9_code
def yX3_filesWithin : MethodName := ⟨RX3, "filesWithin", "(I)J"⟩
def RX4 : String := "RoomGone$Planner"
def TX4 : u_T := fun k => match k with
  | 0 => ("RoomGone$Planner", "number", "[I", true)
  | 1 => ("RoomGone$Planner", "worth", "[I", true)
  | 2 => ("RoomGone$Planner", "blocks", "[J", true)
  | 3 => ("RoomGone$Planner", "size", "I", false)
  | 4 => ("RoomGone$Planner", "wanted", "I", false)
  | 5 => ("RoomGone$Planner", "leastWorth", "I", false)
  | _ => ("RoomGone$Planner", "best", "J", false)
def tyX4 : Nat → FieldType := fun k => match k with
  | 0 => .array .int
  | 1 => .array .int
  | 2 => .array .long
  | 3 => .int
  | 4 => .int
  | 5 => .int
  | _ => .long
abbrev wsX40 : List Cond := u_ws RX4 TX4 7
theorem nmX4 : ∀ a, a < 7 → ∀ b, b < 7 → a ≠ b → (TX4 a).2.1 ≠ (TX4 b).2.1 := by decide +kernel
theorem tyX4_ok : ∀ k, k < 7 → parseFieldDescriptor (TX4 k).2.2.1 = some (tyX4 k) := by decide +kernel
abbrev cX4_init : ByteArray := prog_6_method_1_code
def yX4_init : MethodName := ⟨RX4, "<init>", "()V"⟩
abbrev cX4_search : ByteArray := prog_6_method_2_code
def yX4_search : MethodName := ⟨RX4, "search", "(LRoomGone$Files;JJI)Z"⟩
abbrev cX4_gather : ByteArray := prog_6_method_3_code
def yX4_gather : MethodName := ⟨RX4, "gather", "(LRoomGone$Files;J)V"⟩
abbrev cX4_decide : ByteArray := prog_6_method_4_code
def yX4_decide : MethodName := ⟨RX4, "decide", "(LRoomGone$Planner;IJJI)V"⟩
def RX5 : String := "RoomGone$Snapshots"
def TX5 : u_T := fun k => match k with
  | 0 => ("RoomGone$Snapshots", "there", "[Z", true)
  | _ => ("RoomGone$Snapshots", "held", "[J", true)
def tyX5 : Nat → FieldType := fun k => match k with
  | 0 => .array .boolean
  | _ => .array .long
abbrev wsX50 : List Cond := u_ws RX5 TX5 2
theorem nmX5 : ∀ a, a < 2 → ∀ b, b < 2 → a ≠ b → (TX5 a).2.1 ≠ (TX5 b).2.1 := by decide +kernel
theorem tyX5_ok : ∀ k, k < 2 → parseFieldDescriptor (TX5 k).2.2.1 = some (tyX5 k) := by decide +kernel
abbrev cX5_init : ByteArray := prog_7_method_1_code
def yX5_init : MethodName := ⟨RX5, "<init>", "()V"⟩
abbrev cX5_has : ByteArray := prog_7_method_2_code
def yX5_has : MethodName := ⟨RX5, "has", "(I)Z"⟩
abbrev cX5_add : ByteArray := prog_7_method_3_code
def yX5_add : MethodName := ⟨RX5, "add", "(J)I"⟩
abbrev cX5_remove : ByteArray := prog_7_method_4_code
def yX5_remove : MethodName := ⟨RX5, "remove", "(I)V"⟩
abbrev cX5_countThere : ByteArray := prog_7_method_5_code
def yX5_countThere : MethodName := ⟨RX5, "countThere", "()I"⟩
abbrev cX5_heldBy : ByteArray := prog_7_method_6_code
def yX5_heldBy : MethodName := ⟨RX5, "heldBy", "(I)J"⟩
abbrev cX5_heldBesides : ByteArray := prog_7_method_7_code
def yX5_heldBesides : MethodName := ⟨RX5, "heldBesides", "(I)J"⟩
def RX6 : String := "RoomGone$StoredFile"
def TX6 : u_T := fun k => match k with
  | 0 => ("RoomGone$StoredFile", "owner", "I", true)
  | 1 => ("RoomGone$StoredFile", "worth", "I", true)
  | 2 => ("RoomGone$StoredFile", "places", "[I", true)
  | 3 => ("RoomGone$StoredFile", "length", "I", false)
  | 4 => ("RoomGone$StoredFile", "changed", "I", false)
  | _ => ("RoomGone$StoredFile", "blocks", "J", false)
def tyX6 : Nat → FieldType := fun k => match k with
  | 0 => .int
  | 1 => .int
  | 2 => .array .int
  | 3 => .int
  | 4 => .int
  | _ => .long
abbrev wsX60 : List Cond := u_ws RX6 TX6 6
theorem nmX6 : ∀ a, a < 6 → ∀ b, b < 6 → a ≠ b → (TX6 a).2.1 ≠ (TX6 b).2.1 := by decide +kernel
theorem tyX6_ok : ∀ k, k < 6 → parseFieldDescriptor (TX6 k).2.2.1 = some (tyX6 k) := by decide +kernel
abbrev cX6_init : ByteArray := prog_8_method_1_code
def yX6_init : MethodName := ⟨RX6, "<init>", "(III)V"⟩
abbrev cX6_duplicate : ByteArray := prog_8_method_2_code
def yX6_duplicate : MethodName := ⟨RX6, "duplicate", "(I)LRoomGone$StoredFile;"⟩
abbrev cX6_canPutAt : ByteArray := prog_8_method_3_code
def yX6_canPutAt : MethodName := ⟨RX6, "canPutAt", "(I)Z"⟩
abbrev cX6_blockAt : ByteArray := prog_8_method_4_code
def yX6_blockAt : MethodName := ⟨RX6, "blockAt", "(I)I"⟩
abbrev cX6_put : ByteArray := prog_8_method_5_code
def yX6_put : MethodName := ⟨RX6, "put", "(III)V"⟩
abbrev cX6_shorten : ByteArray := prog_8_method_6_code
def yX6_shorten : MethodName := ⟨RX6, "shorten", "(II)V"⟩
abbrev cX6_countHoles : ByteArray := prog_8_method_7_code
def yX6_countHoles : MethodName := ⟨RX6, "countHoles", "()I"⟩
abbrev cX6_noteChange : ByteArray := prog_8_method_8_code
def yX6_noteChange : MethodName := ⟨RX6, "noteChange", "(I)V"⟩
def RX7 : String := "RoomGone"
def TX7 : u_T := fun k => match k with
  | 0 => ("RoomGone", "folders", "LRoomGone$Folders;", true)
  | 1 => ("RoomGone", "files", "LRoomGone$Files;", true)
  | 2 => ("RoomGone", "names", "LRoomGone$Names;", true)
  | 3 => ("RoomGone", "snapshots", "LRoomGone$Snapshots;", true)
  | 4 => ("RoomGone", "marks", "LRoomGone$Marks;", true)
  | 5 => ("RoomGone", "planner", "LRoomGone$Planner;", true)
  | 6 => ("RoomGone", "today", "I", false)
  | _ => ("RoomGone", "capacity", "I", false)
def tyX7 : Nat → FieldType := fun k => match k with
  | 0 => .object "RoomGone$Folders"
  | 1 => .object "RoomGone$Files"
  | 2 => .object "RoomGone$Names"
  | 3 => .object "RoomGone$Snapshots"
  | 4 => .object "RoomGone$Marks"
  | 5 => .object "RoomGone$Planner"
  | 6 => .int
  | _ => .int
abbrev wsX70 : List Cond := u_ws RX7 TX7 8
theorem nmX7 : ∀ a, a < 8 → ∀ b, b < 8 → a ≠ b → (TX7 a).2.1 ≠ (TX7 b).2.1 := by decide +kernel
theorem tyX7_ok : ∀ k, k < 8 → parseFieldDescriptor (TX7 k).2.2.1 = some (tyX7 k) := by decide +kernel
abbrev cX7_init : ByteArray := prog_1_method_1_code
def yX7_init : MethodName := ⟨RX7, "<init>", "()V"⟩
abbrev cX7_go : ByteArray := prog_1_method_2_code
def yX7_go : MethodName := ⟨RX7, "go", "(I)I"⟩
abbrev cX7_folder : ByteArray := prog_1_method_3_code
def yX7_folder : MethodName := ⟨RX7, "folder", "(IIZ)I"⟩
abbrev cX7_move : ByteArray := prog_1_method_4_code
def yX7_move : MethodName := ⟨RX7, "move", "(II)Z"⟩
abbrev cX7_file : ByteArray := prog_1_method_5_code
def yX7_file : MethodName := ⟨RX7, "file", "(III)I"⟩
abbrev cX7_copy : ByteArray := prog_1_method_6_code
def yX7_copy : MethodName := ⟨RX7, "copy", "(II)I"⟩
abbrev cX7_link : ByteArray := prog_1_method_7_code
def yX7_link : MethodName := ⟨RX7, "link", "(II)I"⟩
abbrev cX7_unlink : ByteArray := prog_1_method_8_code
def yX7_unlink : MethodName := ⟨RX7, "unlink", "(I)Z"⟩
abbrev cX7_of : ByteArray := prog_1_method_9_code
def yX7_of : MethodName := ⟨RX7, "of", "(I)I"⟩
abbrev cX7_write : ByteArray := prog_1_method_10_code
def yX7_write : MethodName := ⟨RX7, "write", "(II)I"⟩
abbrev cX7_hole : ByteArray := prog_1_method_11_code
def yX7_hole : MethodName := ⟨RX7, "hole", "(II)Z"⟩
abbrev cX7_share : ByteArray := prog_1_method_12_code
def yX7_share : MethodName := ⟨RX7, "share", "(IIII)Z"⟩
abbrev cX7_cut : ByteArray := prog_1_method_13_code
def yX7_cut : MethodName := ⟨RX7, "cut", "(II)Z"⟩
abbrev cX7_block : ByteArray := prog_1_method_14_code
def yX7_block : MethodName := ⟨RX7, "block", "(II)I"⟩
abbrev cX7_sum : ByteArray := prog_1_method_15_code
def yX7_sum : MethodName := ⟨RX7, "sum", "(III)I"⟩
abbrev cX7_named : ByteArray := prog_1_method_16_code
def yX7_named : MethodName := ⟨RX7, "named", "(III)I"⟩
abbrev cX7_snapshot : ByteArray := prog_1_method_17_code
def yX7_snapshot : MethodName := ⟨RX7, "snapshot", "()I"⟩
abbrev cX7_drop : ByteArray := prog_1_method_18_code
def yX7_drop : MethodName := ⟨RX7, "drop", "(I)I"⟩
abbrev cX7_alone : ByteArray := prog_1_method_19_code
def yX7_alone : MethodName := ⟨RX7, "alone", "(I)I"⟩
abbrev cX7_mark : ByteArray := prog_1_method_20_code
def yX7_mark : MethodName := ⟨RX7, "mark", "()I"⟩
abbrev cX7_grew : ByteArray := prog_1_method_21_code
def yX7_grew : MethodName := ⟨RX7, "grew", "(III)I"⟩
abbrev cX7_freed : ByteArray := prog_1_method_22_code
def yX7_freed : MethodName := ⟨RX7, "freed", "(I)I"⟩
abbrev cX7_both : ByteArray := prog_1_method_23_code
def yX7_both : MethodName := ⟨RX7, "both", "(II)I"⟩
abbrev cX7_plan : ByteArray := prog_1_method_24_code
def yX7_plan : MethodName := ⟨RX7, "plan", "(II)I"⟩
abbrev cX7_planned : ByteArray := prog_1_method_25_code
def yX7_planned : MethodName := ⟨RX7, "planned", "(III)I"⟩
abbrev cX7_largest : ByteArray := prog_1_method_26_code
def yX7_largest : MethodName := ⟨RX7, "largest", "(II)I"⟩
abbrev cX7_holds : ByteArray := prog_1_method_27_code
def yX7_holds : MethodName := ⟨RX7, "holds", "(I)Z"⟩
abbrev cX7_full : ByteArray := prog_1_method_28_code
def yX7_full : MethodName := ⟨RX7, "full", "(I)I"⟩
abbrev cX7_told : ByteArray := prog_1_method_29_code
def yX7_told : MethodName := ⟨RX7, "told", "(II)I"⟩
abbrev cX7_count : ByteArray := prog_1_method_30_code
def yX7_count : MethodName := ⟨RX7, "count", "(I)I"⟩
abbrev cX7_isPerson : ByteArray := prog_1_method_31_code
def yX7_isPerson : MethodName := ⟨RX7, "isPerson", "(I)Z"⟩
abbrev cX7_isMember : ByteArray := prog_1_method_32_code
def yX7_isMember : MethodName := ⟨RX7, "isMember", "(JI)Z"⟩
abbrev cX7_memberOf : ByteArray := prog_1_method_33_code
def yX7_memberOf : MethodName := ⟨RX7, "memberOf", "(JII)I"⟩
abbrev cX7_canTakeFile : ByteArray := prog_1_method_34_code
def yX7_canTakeFile : MethodName := ⟨RX7, "canTakeFile", "()Z"⟩
abbrev cX7_filesOfTree : ByteArray := prog_1_method_35_code
def yX7_filesOfTree : MethodName := ⟨RX7, "filesOfTree", "(I)J"⟩
abbrev cX7_takenBy : ByteArray := prog_1_method_36_code
def yX7_takenBy : MethodName := ⟨RX7, "takenBy", "(I)I"⟩
abbrev cX7_blocksHad : ByteArray := prog_1_method_37_code
def yX7_blocksHad : MethodName := ⟨RX7, "blocksHad", "()J"⟩
abbrev cX7_blocksFreedBy : ByteArray := prog_1_method_38_code
def yX7_blocksFreedBy : MethodName := ⟨RX7, "blocksFreedBy", "(J)J"⟩
abbrev cX7_heldAlone : ByteArray := prog_1_method_39_code
def yX7_heldAlone : MethodName := ⟨RX7, "heldAlone", "(I)I"⟩
abbrev cX7_findPlan : ByteArray := prog_1_method_40_code
def yX7_findPlan : MethodName := ⟨RX7, "findPlan", "(II)Z"⟩
abbrev cX7_dayFullBy : ByteArray := prog_1_method_41_code
def yX7_dayFullBy : MethodName := ⟨RX7, "dayFullBy", "(I)I"⟩
def RX8 : String := "RoomGoneModel"
def TX8 : u_T := fun k => match k with
  | 0 => ("RoomGoneModel", "now", "I", false)
  | 1 => ("RoomGoneModel", "folders", "I", false)
  | 2 => ("RoomGoneModel", "above", "[I", true)
  | 3 => ("RoomGoneModel", "folderOwner", "[I", true)
  | 4 => ("RoomGoneModel", "isHidden", "[Z", true)
  | 5 => ("RoomGoneModel", "files", "I", false)
  | 6 => ("RoomGoneModel", "longs", "[I", true)
  | 7 => ("RoomGoneModel", "row", "[I", true)
  | 8 => ("RoomGoneModel", "owner", "[I", true)
  | 9 => ("RoomGoneModel", "worth", "[I", true)
  | 10 => ("RoomGoneModel", "changed", "[I", true)
  | 11 => ("RoomGoneModel", "names", "I", false)
  | 12 => ("RoomGoneModel", "nameFile", "[I", true)
  | 13 => ("RoomGoneModel", "nameIn", "[I", true)
  | 14 => ("RoomGoneModel", "isThere", "[Z", true)
  | 15 => ("RoomGoneModel", "isShot", "[Z", true)
  | 16 => ("RoomGoneModel", "shot", "[J", true)
  | 17 => ("RoomGoneModel", "marks", "I", false)
  | 18 => ("RoomGoneModel", "markDay", "[I", true)
  | 19 => ("RoomGoneModel", "markTaken", "[I", true)
  | 20 => ("RoomGoneModel", "holds", "I", false)
  | 21 => ("RoomGoneModel", "goes", "[Z", true)
  | 22 => ("RoomGoneModel", "few", "[I", true)
  | 23 => ("RoomGoneModel", "blocks", "[J", true)
  | 24 => ("RoomGoneModel", "bestWorth", "I", false)
  | _ => ("RoomGoneModel", "bestSet", "I", false)
def tyX8 : Nat → FieldType := fun k => match k with
  | 0 => .int
  | 1 => .int
  | 2 => .array .int
  | 3 => .array .int
  | 4 => .array .boolean
  | 5 => .int
  | 6 => .array .int
  | 7 => .array .int
  | 8 => .array .int
  | 9 => .array .int
  | 10 => .array .int
  | 11 => .int
  | 12 => .array .int
  | 13 => .array .int
  | 14 => .array .boolean
  | 15 => .array .boolean
  | 16 => .array .long
  | 17 => .int
  | 18 => .array .int
  | 19 => .array .int
  | 20 => .int
  | 21 => .array .boolean
  | 22 => .array .int
  | 23 => .array .long
  | 24 => .int
  | _ => .int
abbrev wsX80 : List Cond := u_ws RX8 TX8 26
theorem nmX8 : ∀ a, a < 26 → ∀ b, b < 26 → a ≠ b → (TX8 a).2.1 ≠ (TX8 b).2.1 := by decide +kernel
theorem tyX8_ok : ∀ k, k < 26 → parseFieldDescriptor (TX8 k).2.2.1 = some (tyX8 k) := by decide +kernel
abbrev cX8_init : ByteArray := prog_10_method_1_code
def yX8_init : MethodName := ⟨RX8, "<init>", "()V"⟩
abbrev cX8_in : ByteArray := prog_10_method_2_code
def yX8_in : MethodName := ⟨RX8, "in", "(III)Z"⟩
abbrev cX8_bits : ByteArray := prog_10_method_3_code
def yX8_bits : MethodName := ⟨RX8, "bits", "(J)I"⟩
abbrev cX8_go : ByteArray := prog_10_method_4_code
def yX8_go : MethodName := ⟨RX8, "go", "(I)I"⟩
abbrev cX8_isFolder : ByteArray := prog_10_method_5_code
def yX8_isFolder : MethodName := ⟨RX8, "isFolder", "(I)Z"⟩
abbrev cX8_folder : ByteArray := prog_10_method_6_code
def yX8_folder : MethodName := ⟨RX8, "folder", "(IIZ)I"⟩
abbrev cX8_isOf : ByteArray := prog_10_method_7_code
def yX8_isOf : MethodName := ⟨RX8, "isOf", "(II)Z"⟩
abbrev cX8_move : ByteArray := prog_10_method_8_code
def yX8_move : MethodName := ⟨RX8, "move", "(II)Z"⟩
abbrev cX8_isSeen : ByteArray := prog_10_method_9_code
def yX8_isSeen : MethodName := ⟨RX8, "isSeen", "(II)Z"⟩
abbrev cX8_namesOf : ByteArray := prog_10_method_10_code
def yX8_namesOf : MethodName := ⟨RX8, "namesOf", "(I)I"⟩
abbrev cX8_isFile : ByteArray := prog_10_method_11_code
def yX8_isFile : MethodName := ⟨RX8, "isFile", "(I)Z"⟩
abbrev cX8_newName : ByteArray := prog_10_method_12_code
def yX8_newName : MethodName := ⟨RX8, "newName", "(II)I"⟩
abbrev cX8_file : ByteArray := prog_10_method_13_code
def yX8_file : MethodName := ⟨RX8, "file", "(III)I"⟩
abbrev cX8_of : ByteArray := prog_10_method_14_code
def yX8_of : MethodName := ⟨RX8, "of", "(I)I"⟩
abbrev cX8_copy : ByteArray := prog_10_method_15_code
def yX8_copy : MethodName := ⟨RX8, "copy", "(II)I"⟩
abbrev cX8_link : ByteArray := prog_10_method_16_code
def yX8_link : MethodName := ⟨RX8, "link", "(II)I"⟩
abbrev cX8_unlink : ByteArray := prog_10_method_17_code
def yX8_unlink : MethodName := ⟨RX8, "unlink", "(I)Z"⟩
abbrev cX8_blocksOf : ByteArray := prog_10_method_18_code
def yX8_blocksOf : MethodName := ⟨RX8, "blocksOf", "(I)J"⟩
abbrev cX8_shots : ByteArray := prog_10_method_19_code
def yX8_shots : MethodName := ⟨RX8, "shots", "(I)J"⟩
abbrev cX8_allFiles : ByteArray := prog_10_method_20_code
def yX8_allFiles : MethodName := ⟨RX8, "allFiles", "()J"⟩
abbrev cX8_isPlace : ByteArray := prog_10_method_21_code
def yX8_isPlace : MethodName := ⟨RX8, "isPlace", "(II)Z"⟩
abbrev cX8_puts : ByteArray := prog_10_method_22_code
def yX8_puts : MethodName := ⟨RX8, "puts", "(III)V"⟩
abbrev cX8_write : ByteArray := prog_10_method_23_code
def yX8_write : MethodName := ⟨RX8, "write", "(II)I"⟩
abbrev cX8_hole : ByteArray := prog_10_method_24_code
def yX8_hole : MethodName := ⟨RX8, "hole", "(II)Z"⟩
abbrev cX8_block : ByteArray := prog_10_method_25_code
def yX8_block : MethodName := ⟨RX8, "block", "(II)I"⟩
abbrev cX8_share : ByteArray := prog_10_method_26_code
def yX8_share : MethodName := ⟨RX8, "share", "(IIII)Z"⟩
abbrev cX8_cut : ByteArray := prog_10_method_27_code
def yX8_cut : MethodName := ⟨RX8, "cut", "(II)Z"⟩
abbrev cX8_isIn : ByteArray := prog_10_method_28_code
def yX8_isIn : MethodName := ⟨RX8, "isIn", "(II)Z"⟩
abbrev cX8_taken : ByteArray := prog_10_method_29_code
def yX8_taken : MethodName := ⟨RX8, "taken", "(I)I"⟩
abbrev cX8_sum : ByteArray := prog_10_method_30_code
def yX8_sum : MethodName := ⟨RX8, "sum", "(III)I"⟩
abbrev cX8_named : ByteArray := prog_10_method_31_code
def yX8_named : MethodName := ⟨RX8, "named", "(III)I"⟩
abbrev cX8_snapshot : ByteArray := prog_10_method_32_code
def yX8_snapshot : MethodName := ⟨RX8, "snapshot", "()I"⟩
abbrev cX8_isSnapshot : ByteArray := prog_10_method_33_code
def yX8_isSnapshot : MethodName := ⟨RX8, "isSnapshot", "(I)Z"⟩
abbrev cX8_alone : ByteArray := prog_10_method_34_code
def yX8_alone : MethodName := ⟨RX8, "alone", "(I)I"⟩
abbrev cX8_drop : ByteArray := prog_10_method_35_code
def yX8_drop : MethodName := ⟨RX8, "drop", "(I)I"⟩
abbrev cX8_mark : ByteArray := prog_10_method_36_code
def yX8_mark : MethodName := ⟨RX8, "mark", "()I"⟩
abbrev cX8_grew : ByteArray := prog_10_method_37_code
def yX8_grew : MethodName := ⟨RX8, "grew", "(III)I"⟩
abbrev cX8_freedBy : ByteArray := prog_10_method_38_code
def yX8_freedBy : MethodName := ⟨RX8, "freedBy", "()I"⟩
abbrev cX8_hasOutside : ByteArray := prog_10_method_39_code
def yX8_hasOutside : MethodName := ⟨RX8, "hasOutside", "(II)Z"⟩
abbrev cX8_freed : ByteArray := prog_10_method_40_code
def yX8_freed : MethodName := ⟨RX8, "freed", "(I)I"⟩
abbrev cX8_both : ByteArray := prog_10_method_41_code
def yX8_both : MethodName := ⟨RX8, "both", "(II)I"⟩
abbrev cX8_plans : ByteArray := prog_10_method_42_code
def yX8_plans : MethodName := ⟨RX8, "plans", "(II)I"⟩
abbrev cX8_plan : ByteArray := prog_10_method_43_code
def yX8_plan : MethodName := ⟨RX8, "plan", "(II)I"⟩
abbrev cX8_planned : ByteArray := prog_10_method_44_code
def yX8_planned : MethodName := ⟨RX8, "planned", "(III)I"⟩
abbrev cX8_largest : ByteArray := prog_10_method_45_code
def yX8_largest : MethodName := ⟨RX8, "largest", "(II)I"⟩
abbrev cX8_holds : ByteArray := prog_10_method_46_code
def yX8_holds : MethodName := ⟨RX8, "holds", "(I)Z"⟩
abbrev cX8_down : ByteArray := prog_10_method_47_code
def yX8_down : MethodName := ⟨RX8, "down", "(II)I"⟩
abbrev cX8_full : ByteArray := prog_10_method_48_code
def yX8_full : MethodName := ⟨RX8, "full", "(I)I"⟩
abbrev cX8_told : ByteArray := prog_10_method_49_code
def yX8_told : MethodName := ⟨RX8, "told", "(II)I"⟩
abbrev cX8_count : ByteArray := prog_10_method_50_code
def yX8_count : MethodName := ⟨RX8, "count", "(I)I"⟩
def RJ13 : String := "java/lang/Long"
abbrev cJ13_bitCount_95d88 : ByteArray := prog_11_method_50_code
def yJ13_bitCount_95d88 : MethodName := ⟨RJ13, "bitCount", "(J)I"⟩
def RJ9 : String := "java/lang/Math"
abbrev cJ9_floorDiv_7cf53 : ByteArray := prog_12_method_47_code
def yJ9_floorDiv_7cf53 : MethodName := ⟨RJ9, "floorDiv", "(II)I"⟩
abbrev cJ9_max_7cf53 : ByteArray := prog_12_method_65_code
def yJ9_max_7cf53 : MethodName := ⟨RJ9, "max", "(II)I"⟩
abbrev cJ9_min_7cf53 : ByteArray := prog_12_method_69_code
def yJ9_min_7cf53 : MethodName := ⟨RJ9, "min", "(II)I"⟩
def RL : String := "RoomGoneLaw"
abbrev cL_law : ByteArray := code
def yL_law : MethodName := ⟨RL, "law", "([I)Z"⟩
abbrev vwCl : List vw_C := [(RX0, TX0, 2), (RX1, TX1, 4), (RX2, TX2, 3), (RX3, TX3, 3), (RX4, TX4, 7), (RX5, TX5, 2), (RX6, TX6, 6), (RX7, TX7, 8), (RX8, TX8, 26)]
end
section
/-! The judgement J: the machine at a point of a method, over a NAMED MEMORY (names are numbers; ad: name to address; C: name to what the cell holds). -/
abbrev GG : Type := Nat × va_G × ClassId × ClassId × ClassId × ClassId
abbrev gD (g : GG) : va_G := g.2.1
abbrev gI (g : GG) : ClassId := g.2.2.1
abbrev gZ (g : GG) : ClassId := g.2.2.2.1
abbrev gJ (g : GG) : ClassId := g.2.2.2.2.1
abbrev gO (g : GG) : ClassId := g.2.2.2.2.2
def gT (g : GG) : List (ClassId × FieldType) := [(gI g, .int), (gZ g, .boolean), (gJ g, .long), (gO g, .object "RoomGone$StoredFile")]
def gA (g : GG) : Nat → Prop := fun q => g.1 ≤ q
abbrev eI (g : GG) (n : Nat) (f : Nat → Int32) : va_E := .inl (gI g, n, .inl f)
abbrev eZ (g : GG) (n : Nat) (f : Nat → Int32) : va_E := .inl (gZ g, n, .inl f)
abbrev eJ (g : GG) (n : Nat) (f : Nat → Int64) : va_E := .inl (gJ g, n, .inr (.inl f))
abbrev eO (g : GG) (n : Nat) (f : Nat → Option Nat) : va_E := .inl (gO g, n, .inr (.inr (.inr (.inr f))))
abbrev eC (ci : Nat) (fs : List Value) : va_E := .inr (ci, fs)
abbrev AD : Type := Nat → Nat
abbrev CC : Type := Nat → Option va_E
/-- the heap holds the named memory -/
def MM (g : GG) (ad : AD) (C : CC) (H : Heap) : Prop := g.1 ≤ H.size ∧ (∀ j e, C j = some e → va_at (gD g) vwCl (ad j, e) H ∧ g.1 ≤ ad j) ∧ ∀ i j a b, C i = some a → C j = some b → ad i = ad j → i = j
def wm_ok : Cond → Bool
  | .fieldLinkNest .. => true
  | .methodLinkNest .. => true
  | .arrayOver (.object _) => true
  | w => goodWord w
/-- the classes, the array classes, the tables' words -/
def KK (g : GG) (U : State) : Prop := va_K (gD g) vwCl (gT g) U ∧ ∀ w ∈ lw_tbl, wm_ok w = true → va_Nw w U
/-- a word of the tables that stays true as the machine warms -/
def tw (w : Cond) : Prop := w ∈ lw_tbl ∧ wm_ok w = true
theorem tw_at {w : Cond} (i : Nat) (h : lw_tbl[i]? = some w) (h2 : wm_ok w = true) : tw w := ⟨List.mem_of_getElem? h, h2⟩
theorem wm_word {w : Cond} {s U : State} (hW : s.WarmedH U.vm) (hok : wm_ok w = true) (h : va_Nw w s) : va_Nw w U := by
  unfold wm_ok at hok
  split at hok
  · exact va_Nw.warmF hW h
  · exact va_Nw.warmM hW h
  · exact va_AO.moved hW.alike h
  · exact word_at hW (good_of_word hok) h
theorem KK.warm {g : GG} {s U : State} (hW : s.WarmedH U.vm) (h : KK g s) : KK g U := ⟨va_K.moved hW.alike h.1, fun w hw ok => wm_word hW ok (h.2 w hw ok)⟩
theorem wm_use {w : Cond} {s : State} (hok : wm_ok w = true) (h : va_Nw w s) (A : Array Value) : w.before A s = true := by
  unfold wm_ok at hok
  split at hok
  · exact va_Nw.use rfl h
  · exact va_Nw.use rfl h
  · exact va_AO.use h
  · exact word_at (State.WarmedH.refl s) (good_of_word hok) h
theorem KK.use {g : GG} {s : State} (h : KK g s) {w : Cond} (hw : tw w) (A : Array Value) : w.before A s = true := wm_use hw.2 (h.2 w hw.1 hw.2) A
theorem KK.hts {g : GG} {s : State} (h : KK g s) (A : Array Value) : ∀ w ∈ lw_tbl.filter wm_ok, w.before A s = true := fun _ hw => h.use (List.mem_filter.mp hw) A
-- the place: program, launch, env, room, entry state, method, arguments, below, method's record, code
abbrev CX := Program × Launch × Env × Room × State × MethodId × Array Value × List Frame × Method × Code
abbrev xp (X : CX) : Program := X.1
abbrev xl (X : CX) : Launch := X.2.1
abbrev xe (X : CX) : Env := X.2.2.1
abbrev xR (X : CX) : Room := X.2.2.2.1
abbrev xs (X : CX) : State := X.2.2.2.2.1
abbrev xm (X : CX) : MethodId := X.2.2.2.2.2.1
abbrev xa (X : CX) : Array Value := X.2.2.2.2.2.2.1
abbrev xb (X : CX) : List Frame := X.2.2.2.2.2.2.2.1
abbrev xh (X : CX) : Method := X.2.2.2.2.2.2.2.2.1
abbrev xc (X : CX) : Code := X.2.2.2.2.2.2.2.2.2
abbrev WX (X : CX) (H : Heap) (locs : List Loc) (k n : Nat) (Q : State → Prop) (f : JFrame) : Prop := W (xp X) (xl X) (xe X) (xR X) (xs X) (xm X) (xa X) (xb X) (xh X) (xc X) H locs k n Q f
def asc : Nat → List (Option Value) → List (Nat × Value)
  | _, [] => []
  | i, none :: t => asc (i + 1) t
  | i, some v :: t => (i, v) :: asc (i + 1) t
theorem asc_mem : ∀ (L : List (Option Value)) (i j : Nat) (v : Value), (j, v) ∈ asc i L ↔ ∃ k, j = i + k ∧ L[k]? = some (some v)
  | [], i, j, v => by simp [asc]
  | none :: t, i, j, v => by
    rw [asc, asc_mem t (i + 1) j v]
    constructor
    · rintro ⟨k, rfl, h⟩
      exact ⟨k + 1, by omega, by simpa using h⟩
    · rintro ⟨k, rfl, h⟩
      cases k with
      | zero => simp at h
      | succ k => exact ⟨k, by omega, by simpa using h⟩
  | some w :: t, i, j, v => by
    rw [asc, List.mem_cons, asc_mem t (i + 1) j v]
    constructor
    · rintro (h | ⟨k, rfl, h⟩)
      · cases h
        exact ⟨0, rfl, by simp⟩
      · exact ⟨k + 1, by omega, by simpa using h⟩
    · rintro ⟨k, rfl, h⟩
      cases k with
      | zero => left; simp at h; subst h; rfl
      | succ k => right; exact ⟨k, by omega, by simpa using h⟩
def J (X : CX) (g : GG) (nL : Nat) (Q : State → Prop) (k n : Nat) (ad : AD) (C : CC) (pc : Nat) (L : List (Option Value)) (st : List Value) : Prop :=
  ∀ (H : Heap) (locs : List Loc) (ls : Array Slot), MM g ad C H → va_S (gA g) (xs X).heap H locs → lv_has ls nL (asc 0 L) → L.length = nL → WX X H locs k n Q (F0 (xm X) pc ls st)
/-- what holds all through a method: exec, code, locals, class, tables, no lock, name, room, result -/
def Cx (X : CX) (g : GG) (own nm : String) (cc : ByteArray) (nL d RC RS : Nat) (ret : Option FieldType) : Prop :=
  (xp X).tables.exec = Jvm.exec ∧ (xc X).code = cc ∧ (xc X).maxLocals = nL ∧ (xs X).vm.findClass own = some (xm X).cls ∧ KK g (xs X) ∧ (xh X).locks = false ∧ (xh X).name = nm ∧ d ≤ (xR X).frames ∧ 64 * d ≤ (xR X).locals ∧ RC = (xR X).cells ∧ RS = (xR X).slots ∧ (xh X).sig.returnType = ret ∧ g.1 ≤ (xs X).heap.size
def rmD (d mc ms : Nat) : Room := { frames := d, cells := mc, slots := ms, locals := 64 * d }
def Qp (g : GG) (post : Option Value → AD → CC → Prop) : Array Value → State → Outcome → State → Prop := fun _ st oc t => (∃ v ad C, oc = .returned v ∧ post v ad C ∧ MM g ad C t.heap) ∧ va_F (gA g) st t
def Ct (l : Launch) (g : GG) (y : MethodName) (cc : ByteArray) (nL : Nat) (ret : Option FieldType) (d mc ms : Nat) (as : List Value) (ad : AD) (C : CC) (post : Option Value → AD → CC → Prop) : Prop :=
  Met l y [Cond.code y cc nL ret] (rmD d mc ms) (va_Pc as (fun U => MM g ad C U.heap ∧ KK g U)) (Qp g post) mc ms (gA g)
/-- a read: the answer alone -/
abbrev Cr (l : Launch) (g : GG) (y : MethodName) (cc : ByteArray) (nL : Nat) (ret : Option FieldType) (d : Nat) (as : List Value) (ad : AD) (C : CC) (v : Value) : Prop :=
  Ct l g y cc nL ret d 0 0 as ad C (fun r ad' C' => r = some v ∧ ad' = ad ∧ C' = C)
/-- the method's own end -/
abbrev QX (X : CX) (g : GG) (mc ms : Nat) (post : Option Value → AD → CC → Prop) : State → Prop := MQ (xb X) (Qp g post) (xa X) (xs X) mc ms (gA g)
theorem Ct_of {l : Launch} {g : GG} {y : MethodName} {cc : ByteArray} {nL : Nat} {ret : Option FieldType} {d mc ms : Nat} {as : List Value} {ad : AD} {C : CC} {post : Option Value → AD → CC → Prop} {own nm : String} (L : List (Option Value))
    (hy : plainName y.cls = true) (ho : y.cls = own) (hn : y.name = nm) (hlen : (lg_sl as).length ≤ nL) (hL : asc 0 L = lv_args 0 as) (hLn : L.length = nL)
    (body : ∀ X : CX, xl X = l → Cx X g own nm cc nL d mc ms ret → J X g nL (QX X g mc ms post) 0 0 ad C 0 L []) : Ct l g y cc nL ret d mc ms as ad C post := by
  refine Met.ofW (cc := cc) (maxL := nL) (ret := ret) hy rfl ?_
  intro p e s m args below meth c s₁ B hml hv
  obtain ⟨rfl, hM, hK⟩ := hv
  have hX : Cx (p, l, e, (headSpec [Cond.code y cc nL ret] (rmD d mc ms)).room, s, m, as.toArray, below, meth, c) g own nm cc nL d mc ms ret := by
    refine ⟨B.exec, B.bytes, hml, ?_, hK, B.notSynchronized, ?_, Nat.le_refl _, Nat.le_refl _, rfl, rfl, B.returns, hM.1⟩
    · rw [← ho]; exact findClass_of_methodNamed B.named
    · rw [← hn]; exact (name_of_methodNamed B.named B.method).1
  have hl := lv_entry as (n := nL) hlen
  rw [lg_entry_eq]
  exact body (p, l, e, (headSpec [Cond.code y cc nL ret] (rmD d mc ms)).room, s, m, as.toArray, below, meth, c) rfl hX s.heap [] _ hM va_S.rf (hL ▸ hl) hLn
section JR
variable {X : CX} {g : GG} {own nm : String} {cc : ByteArray} {nL d RC RS : Nat} {ret : Option FieldType} {Q : State → Prop} {k n : Nat} {ad : AD} {C : CC} {L : List (Option Value)} {st : List Value}

theorem j_iconst {pc : Nat} (h : Cx X g own nm cc nL d RC RS ret) {i : Int} {v : Int32} (hd : decode cc pc = .ok (.iconst i, 1)) (hv : Int32.ofInt i = v) (kk : J X g nL Q k n ad C (pc + 1) L (.int v :: st)) : J X g nL Q k n ad C pc L (st) := fun H locs ls hM hS hl hL => lv_iconst h.1 h.2.1 hd hv (kk H locs ls hM hS hl hL)
theorem j_bipush {pc : Nat} (h : Cx X g own nm cc nL d RC RS ret) {i : Int} {v : Int32} (hd : decode cc pc = .ok (.bipush i, 2)) (hv : (Int8.ofInt i).toInt32 = v) (kk : J X g nL Q k n ad C (pc + 2) L (.int v :: st)) : J X g nL Q k n ad C pc L (st) := fun H locs ls hM hS hl hL => lv_bipush h.1 h.2.1 hd hv (kk H locs ls hM hS hl hL)
theorem j_sipush {pc : Nat} (h : Cx X g own nm cc nL d RC RS ret) {i : Int} {v : Int32} (hd : decode cc pc = .ok (.sipush i, 3)) (hv : (Int16.ofInt i).toInt32 = v) (kk : J X g nL Q k n ad C (pc + 3) L (.int v :: st)) : J X g nL Q k n ad C pc L (st) := fun H locs ls hM hS hl hL => lv_sipush h.1 h.2.1 hd hv (kk H locs ls hM hS hl hL)
theorem j_lconst {pc : Nat} (h : Cx X g own nm cc nL d RC RS ret) {i : Fin 2} {v : Int64} (hd : decode cc pc = .ok (.lconst i, 1)) (hv : Int64.ofNat (i : Nat) = v) (kk : J X g nL Q k n ad C (pc + 1) L (.long v :: st)) : J X g nL Q k n ad C pc L (st) := fun H locs ls hM hS hl hL => lv_lconst h.1 h.2.1 hd hv (kk H locs ls hM hS hl hL)
theorem j_iadd {pc : Nat} (h : Cx X g own nm cc nL d RC RS ret) {x y : Int32} (hd : decode cc pc = .ok (.iadd, 1))  (kk : J X g nL Q k n ad C (pc + 1) L (.int (x + y) :: st)) : J X g nL Q k n ad C pc L (.int y :: .int x :: st) := fun H locs ls hM hS hl hL => lv_iadd h.1 h.2.1 hd (kk H locs ls hM hS hl hL)
theorem j_isub {pc : Nat} (h : Cx X g own nm cc nL d RC RS ret) {x y : Int32} (hd : decode cc pc = .ok (.isub, 1))  (kk : J X g nL Q k n ad C (pc + 1) L (.int (x - y) :: st)) : J X g nL Q k n ad C pc L (.int y :: .int x :: st) := fun H locs ls hM hS hl hL => lv_isub h.1 h.2.1 hd (kk H locs ls hM hS hl hL)
theorem j_imul {pc : Nat} (h : Cx X g own nm cc nL d RC RS ret) {x y : Int32} (hd : decode cc pc = .ok (.imul, 1))  (kk : J X g nL Q k n ad C (pc + 1) L (.int (x * y) :: st)) : J X g nL Q k n ad C pc L (.int y :: .int x :: st) := fun H locs ls hM hS hl hL => lv_imul h.1 h.2.1 hd (kk H locs ls hM hS hl hL)
theorem j_iand {pc : Nat} (h : Cx X g own nm cc nL d RC RS ret) {x y : Int32} (hd : decode cc pc = .ok (.iand, 1))  (kk : J X g nL Q k n ad C (pc + 1) L (.int (x &&& y) :: st)) : J X g nL Q k n ad C pc L (.int y :: .int x :: st) := fun H locs ls hM hS hl hL => lv_iand h.1 h.2.1 hd (kk H locs ls hM hS hl hL)
theorem j_ior {pc : Nat} (h : Cx X g own nm cc nL d RC RS ret) {x y : Int32} (hd : decode cc pc = .ok (.ior, 1))  (kk : J X g nL Q k n ad C (pc + 1) L (.int (x ||| y) :: st)) : J X g nL Q k n ad C pc L (.int y :: .int x :: st) := fun H locs ls hM hS hl hL => lv_ior h.1 h.2.1 hd (kk H locs ls hM hS hl hL)
theorem j_ixor {pc : Nat} (h : Cx X g own nm cc nL d RC RS ret) {x y : Int32} (hd : decode cc pc = .ok (.ixor, 1))  (kk : J X g nL Q k n ad C (pc + 1) L (.int (x ^^^ y) :: st)) : J X g nL Q k n ad C pc L (.int y :: .int x :: st) := fun H locs ls hM hS hl hL => lv_ixor h.1 h.2.1 hd (kk H locs ls hM hS hl hL)
theorem j_ishl {pc : Nat} (h : Cx X g own nm cc nL d RC RS ret) {x y : Int32} (hd : decode cc pc = .ok (.ishl, 1))  (kk : J X g nL Q k n ad C (pc + 1) L (.int (x <<< (y &&& 31)) :: st)) : J X g nL Q k n ad C pc L (.int y :: .int x :: st) := fun H locs ls hM hS hl hL => lv_ishl h.1 h.2.1 hd (kk H locs ls hM hS hl hL)
theorem j_ishr {pc : Nat} (h : Cx X g own nm cc nL d RC RS ret) {x y : Int32} (hd : decode cc pc = .ok (.ishr, 1))  (kk : J X g nL Q k n ad C (pc + 1) L (.int (x >>> (y &&& 31)) :: st)) : J X g nL Q k n ad C pc L (.int y :: .int x :: st) := fun H locs ls hM hS hl hL => lv_ishr h.1 h.2.1 hd (kk H locs ls hM hS hl hL)
theorem j_idiv {pc : Nat} (h : Cx X g own nm cc nL d RC RS ret) {x y : Int32} (hd : decode cc pc = .ok (.idiv, 1)) (hne : ¬ y = 0) (kk : J X g nL Q k n ad C (pc + 1) L (.int (x / y) :: st)) : J X g nL Q k n ad C pc L (.int y :: .int x :: st) := fun H locs ls hM hS hl hL => lv_idiv h.1 h.2.1 hd hne (kk H locs ls hM hS hl hL)
theorem j_ineg {pc : Nat} (h : Cx X g own nm cc nL d RC RS ret) {x : Int32} (hd : decode cc pc = .ok (.ineg, 1))  (kk : J X g nL Q k n ad C (pc + 1) L (.int (-x) :: st)) : J X g nL Q k n ad C pc L (.int x :: st) := fun H locs ls hM hS hl hL => lv_ineg h.1 h.2.1 hd (kk H locs ls hM hS hl hL)
theorem j_ladd {pc : Nat} (h : Cx X g own nm cc nL d RC RS ret) {x y : Int64} (hd : decode cc pc = .ok (.ladd, 1))  (kk : J X g nL Q k n ad C (pc + 1) L (.long (x + y) :: st)) : J X g nL Q k n ad C pc L (.long y :: .long x :: st) := fun H locs ls hM hS hl hL => lv_ladd h.1 h.2.1 hd (kk H locs ls hM hS hl hL)
theorem j_lsub {pc : Nat} (h : Cx X g own nm cc nL d RC RS ret) {x y : Int64} (hd : decode cc pc = .ok (.lsub, 1))  (kk : J X g nL Q k n ad C (pc + 1) L (.long (x - y) :: st)) : J X g nL Q k n ad C pc L (.long y :: .long x :: st) := fun H locs ls hM hS hl hL => lv_lsub h.1 h.2.1 hd (kk H locs ls hM hS hl hL)
theorem j_land {pc : Nat} (h : Cx X g own nm cc nL d RC RS ret) {x y : Int64} (hd : decode cc pc = .ok (.land, 1))  (kk : J X g nL Q k n ad C (pc + 1) L (.long (x &&& y) :: st)) : J X g nL Q k n ad C pc L (.long y :: .long x :: st) := fun H locs ls hM hS hl hL => lv_land h.1 h.2.1 hd (kk H locs ls hM hS hl hL)
theorem j_lor {pc : Nat} (h : Cx X g own nm cc nL d RC RS ret) {x y : Int64} (hd : decode cc pc = .ok (.lor, 1))  (kk : J X g nL Q k n ad C (pc + 1) L (.long (x ||| y) :: st)) : J X g nL Q k n ad C pc L (.long y :: .long x :: st) := fun H locs ls hM hS hl hL => lv_lor h.1 h.2.1 hd (kk H locs ls hM hS hl hL)
theorem j_lxor {pc : Nat} (h : Cx X g own nm cc nL d RC RS ret) {x y : Int64} (hd : decode cc pc = .ok (.lxor, 1))  (kk : J X g nL Q k n ad C (pc + 1) L (.long (x ^^^ y) :: st)) : J X g nL Q k n ad C pc L (.long y :: .long x :: st) := fun H locs ls hM hS hl hL => lv_lxor h.1 h.2.1 hd (kk H locs ls hM hS hl hL)
theorem j_i2l {pc : Nat} (h : Cx X g own nm cc nL d RC RS ret) {x : Int32} (hd : decode cc pc = .ok (.i2l, 1))  (kk : J X g nL Q k n ad C (pc + 1) L (.long (x.toInt64) :: st)) : J X g nL Q k n ad C pc L (.int x :: st) := fun H locs ls hM hS hl hL => lv_i2l h.1 h.2.1 hd rfl (kk H locs ls hM hS hl hL)
theorem j_l2i {pc : Nat} (h : Cx X g own nm cc nL d RC RS ret) {x : Int64} (hd : decode cc pc = .ok (.l2i, 1))  (kk : J X g nL Q k n ad C (pc + 1) L (.int (x.toInt32) :: st)) : J X g nL Q k n ad C pc L (.long x :: st) := fun H locs ls hM hS hl hL => lv_l2i h.1 h.2.1 hd rfl (kk H locs ls hM hS hl hL)
theorem j_lushr {pc : Nat} (h : Cx X g own nm cc nL d RC RS ret) {x : Int64} {y : Int32} (hd : decode cc pc = .ok (.lushr, 1))  (kk : J X g nL Q k n ad C (pc + 1) L (.long ((x.toUInt64 >>> (y.toInt64.toUInt64 &&& Int64.toUInt64 63)).toInt64) :: st)) : J X g nL Q k n ad C pc L (.int y :: .long x :: st) := fun H locs ls hM hS hl hL => lv_lushr h.1 h.2.1 hd rfl (kk H locs ls hM hS hl hL)
theorem j_lshl {pc : Nat} (h : Cx X g own nm cc nL d RC RS ret) {x : Int64} {y : Int32} (hd : decode cc pc = .ok (.lshl, 1))  (kk : J X g nL Q k n ad C (pc + 1) L (.long (x <<< (y.toInt64 &&& 63)) :: st)) : J X g nL Q k n ad C pc L (.int y :: .long x :: st) := fun H locs ls hM hS hl hL => lv_lshl h.1 h.2.1 hd rfl (kk H locs ls hM hS hl hL)
theorem j_lshr {pc : Nat} (h : Cx X g own nm cc nL d RC RS ret) {x : Int64} {y : Int32} (hd : decode cc pc = .ok (.lshr, 1))  (kk : J X g nL Q k n ad C (pc + 1) L (.long (x >>> (y.toInt64 &&& 63)) :: st)) : J X g nL Q k n ad C pc L (.int y :: .long x :: st) := fun H locs ls hM hS hl hL => lv_lshr h.1 h.2.1 hd rfl (kk H locs ls hM hS hl hL)
theorem j_lcmp {pc : Nat} (h : Cx X g own nm cc nL d RC RS ret) {x y : Int64} (hd : decode cc pc = .ok (.lcmp, 1))  (kk : J X g nL Q k n ad C (pc + 1) L (.int (lg_cmp x y) :: st)) : J X g nL Q k n ad C pc L (.long y :: .long x :: st) := fun H locs ls hM hS hl hL => W.lcmp h.1 h.2.1 hd (kk H locs ls hM hS hl hL)
theorem j_dupI {pc : Nat} (h : Cx X g own nm cc nL d RC RS ret) {x : Int32} (hd : decode cc pc = .ok (.dup, 1))  (kk : J X g nL Q k n ad C (pc + 1) L (.int x :: .int x :: st)) : J X g nL Q k n ad C pc L (.int x :: st) := fun H locs ls hM hS hl hL => lv_dup h.1 h.2.1 hd rfl (kk H locs ls hM hS hl hL)
theorem j_dupR {pc : Nat} (h : Cx X g own nm cc nL d RC RS ret) {x : Nat} (hd : decode cc pc = .ok (.dup, 1))  (kk : J X g nL Q k n ad C (pc + 1) L (.ref x :: .ref x :: st)) : J X g nL Q k n ad C pc L (.ref x :: st) := fun H locs ls hM hS hl hL => lv_dup h.1 h.2.1 hd rfl (kk H locs ls hM hS hl hL)
theorem j_popI {pc : Nat} (h : Cx X g own nm cc nL d RC RS ret) {x : Int32} (hd : decode cc pc = .ok (.pop, 1))  (kk : J X g nL Q k n ad C (pc + 1) L (st)) : J X g nL Q k n ad C pc L (.int x :: st) := fun H locs ls hM hS hl hL => lv_pop h.1 h.2.1 hd rfl (kk H locs ls hM hS hl hL)
theorem j_dup2IR {pc : Nat} (h : Cx X g own nm cc nL d RC RS ret) {x : Int32} {q : Nat} (hd : decode cc pc = .ok (.dup2, 1))  (kk : J X g nL Q k n ad C (pc + 1) L (.int x :: .ref q :: .int x :: .ref q :: st)) : J X g nL Q k n ad C pc L (.int x :: .ref q :: st) := fun H locs ls hM hS hl hL => lv_dup2_11 h.1 h.2.1 hd rfl rfl (kk H locs ls hM hS hl hL)
theorem j_null {pc : Nat} (h : Cx X g own nm cc nL d RC RS ret)  (hd : decode cc pc = .ok (.aconst_null, 1))  (kk : J X g nL Q k n ad C (pc + 1) L (.null :: st)) : J X g nL Q k n ad C pc L (st) := fun H locs ls hM hS hl hL => lv_null h.1 h.2.1 hd (kk H locs ls hM hS hl hL)
theorem j_goto {pc tgt : Nat} (h : Cx X g own nm cc nL d RC RS ret) {off : Int} (hd : decode cc pc = .ok (.goto off, 3)) (ht : (pc : Int) + off = (tgt : Int)) (kk : J X g nL Q k n ad C tgt L st) : J X g nL Q k n ad C pc L st := fun H locs ls hM hS hl hL => lv_goto h.1 h.2.1 hd ht (kk H locs ls hM hS hl hL)
theorem j_ldc {pc : Nat} (h : Cx X g own nm cc nL d RC RS ret) {i : Nat} {v : Int32} (hd : decode cc pc = .ok (.ldc i, 2)) (hw : tw (Cond.constant own i v)) (kk : J X g nL Q k n ad C (pc + 2) L (.int v :: st)) : J X g nL Q k n ad C pc L st := fun H locs ls hM hS hl hL => lv_ldc h.1 h.2.1 h.2.2.2.1 (h.2.2.2.2.1.use hw _) hd (kk H locs ls hM hS hl hL)
theorem j_ldc2 {pc : Nat} (h : Cx X g own nm cc nL d RC RS ret) {i : Nat} {v : Int64} (hd : decode cc pc = .ok (.ldc2_w i, 3)) (hw : tw (Cond.constantLong own i v)) (kk : J X g nL Q k n ad C (pc + 3) L (.long v :: st)) : J X g nL Q k n ad C pc L st := fun H locs ls hM hS hl hL => lv_ldc2 h.1 h.2.1 h.2.2.2.1 (h.2.2.2.2.1.use hw _) hd (kk H locs ls hM hS hl hL)
theorem j_top {pc : Nat} {v v' : Value} (e : v = v') (kk : J X g nL Q k n ad C pc L (v' :: st)) : J X g nL Q k n ad C pc L (v :: st) := e ▸ kk
theorem j_topi {pc : Nat} {x x' : Int32} (e : x = x') (kk : J X g nL Q k n ad C pc L (.int x' :: st)) : J X g nL Q k n ad C pc L (.int x :: st) := e ▸ kk
theorem j_topl {pc : Nat} {x x' : Int64} (e : x = x') (kk : J X g nL Q k n ad C pc L (.long x' :: st)) : J X g nL Q k n ad C pc L (.long x :: st) := e ▸ kk
theorem j_mem {pc : Nat} {C' : CC} (e : C = C') (kk : J X g nL Q k n ad C' pc L st) : J X g nL Q k n ad C pc L st := e ▸ kk
theorem j_L {pc : Nat} {L' : List (Option Value)} (e : L = L') (kk : J X g nL Q k n ad C pc L' st) : J X g nL Q k n ad C pc L st := e ▸ kk
theorem j_widen {pc k' n' : Nat} (h1 : k ≤ k') (h2 : n ≤ n') (kk : J X g nL Q k' n' ad C pc L st) : J X g nL Q k n ad C pc L st := fun H locs ls hM hS hl hL => W.widen h1 h2 (kk H locs ls hM hS hl hL)
/-- locals that are no longer needed may be forgotten -/
theorem j_fg {pc : Nat} {L' : List (Option Value)} (hle : ∀ q ∈ asc 0 L', q ∈ asc 0 L) (hlen : L'.length = L.length) (kk : J X g nL Q k n ad C pc L' st) : J X g nL Q k n ad C pc L st := fun H locs ls hM hS hl hL => kk H locs ls hM hS ⟨hl.1, hl.2.1, fun q hq => hl.2.2 q (hle q hq)⟩ (hlen.trans hL)

theorem j_if_eq {pc tgt : Nat} (h : Cx X g own nm cc nL d RC RS ret) {x : Int32} {off : Int} (hd : decode cc pc = .ok (.ifCond .eq off, 3)) (ht : (pc : Int) + off = (tgt : Int)) (kt : x = 0 → J X g nL Q k n ad C tgt L st) (kf : ¬ x = 0 → J X g nL Q k n ad C (pc + 3) L st) : J X g nL Q k n ad C pc L (.int x :: st) := fun H locs ls hM hS hl hL => lv_if_eq h.1 h.2.1 hd ht (fun q => kt q H locs ls hM hS hl hL) (fun q => kf q H locs ls hM hS hl hL)
theorem j_icmp_eq {pc tgt : Nat} (h : Cx X g own nm cc nL d RC RS ret) {x y : Int32} {off : Int} (hd : decode cc pc = .ok (.if_icmp .eq off, 3)) (ht : (pc : Int) + off = (tgt : Int)) (kt : x = y → J X g nL Q k n ad C tgt L st) (kf : ¬ x = y → J X g nL Q k n ad C (pc + 3) L st) : J X g nL Q k n ad C pc L (.int y :: .int x :: st) := fun H locs ls hM hS hl hL => lv_icmp_eq h.1 h.2.1 hd ht (fun q => kt q H locs ls hM hS hl hL) (fun q => kf q H locs ls hM hS hl hL)
theorem j_if_ne {pc tgt : Nat} (h : Cx X g own nm cc nL d RC RS ret) {x : Int32} {off : Int} (hd : decode cc pc = .ok (.ifCond .ne off, 3)) (ht : (pc : Int) + off = (tgt : Int)) (kt : ¬ x = 0 → J X g nL Q k n ad C tgt L st) (kf : x = 0 → J X g nL Q k n ad C (pc + 3) L st) : J X g nL Q k n ad C pc L (.int x :: st) := fun H locs ls hM hS hl hL => lv_if_ne h.1 h.2.1 hd ht (fun q => kt q H locs ls hM hS hl hL) (fun q => kf q H locs ls hM hS hl hL)
theorem j_icmp_ne {pc tgt : Nat} (h : Cx X g own nm cc nL d RC RS ret) {x y : Int32} {off : Int} (hd : decode cc pc = .ok (.if_icmp .ne off, 3)) (ht : (pc : Int) + off = (tgt : Int)) (kt : ¬ x = y → J X g nL Q k n ad C tgt L st) (kf : x = y → J X g nL Q k n ad C (pc + 3) L st) : J X g nL Q k n ad C pc L (.int y :: .int x :: st) := fun H locs ls hM hS hl hL => lv_icmp_ne h.1 h.2.1 hd ht (fun q => kt q H locs ls hM hS hl hL) (fun q => kf q H locs ls hM hS hl hL)
theorem j_if_lt {pc tgt : Nat} (h : Cx X g own nm cc nL d RC RS ret) {x : Int32} {off : Int} (hd : decode cc pc = .ok (.ifCond .lt off, 3)) (ht : (pc : Int) + off = (tgt : Int)) (kt : x < 0 → J X g nL Q k n ad C tgt L st) (kf : ¬ x < 0 → J X g nL Q k n ad C (pc + 3) L st) : J X g nL Q k n ad C pc L (.int x :: st) := fun H locs ls hM hS hl hL => lv_if_lt h.1 h.2.1 hd ht (fun q => kt q H locs ls hM hS hl hL) (fun q => kf q H locs ls hM hS hl hL)
theorem j_icmp_lt {pc tgt : Nat} (h : Cx X g own nm cc nL d RC RS ret) {x y : Int32} {off : Int} (hd : decode cc pc = .ok (.if_icmp .lt off, 3)) (ht : (pc : Int) + off = (tgt : Int)) (kt : x < y → J X g nL Q k n ad C tgt L st) (kf : ¬ x < y → J X g nL Q k n ad C (pc + 3) L st) : J X g nL Q k n ad C pc L (.int y :: .int x :: st) := fun H locs ls hM hS hl hL => lv_icmp_lt h.1 h.2.1 hd ht (fun q => kt q H locs ls hM hS hl hL) (fun q => kf q H locs ls hM hS hl hL)
theorem j_if_ge {pc tgt : Nat} (h : Cx X g own nm cc nL d RC RS ret) {x : Int32} {off : Int} (hd : decode cc pc = .ok (.ifCond .ge off, 3)) (ht : (pc : Int) + off = (tgt : Int)) (kt : 0 ≤ x → J X g nL Q k n ad C tgt L st) (kf : ¬ 0 ≤ x → J X g nL Q k n ad C (pc + 3) L st) : J X g nL Q k n ad C pc L (.int x :: st) := fun H locs ls hM hS hl hL => lv_if_ge h.1 h.2.1 hd ht (fun q => kt q H locs ls hM hS hl hL) (fun q => kf q H locs ls hM hS hl hL)
theorem j_icmp_ge {pc tgt : Nat} (h : Cx X g own nm cc nL d RC RS ret) {x y : Int32} {off : Int} (hd : decode cc pc = .ok (.if_icmp .ge off, 3)) (ht : (pc : Int) + off = (tgt : Int)) (kt : y ≤ x → J X g nL Q k n ad C tgt L st) (kf : ¬ y ≤ x → J X g nL Q k n ad C (pc + 3) L st) : J X g nL Q k n ad C pc L (.int y :: .int x :: st) := fun H locs ls hM hS hl hL => lv_icmp_ge h.1 h.2.1 hd ht (fun q => kt q H locs ls hM hS hl hL) (fun q => kf q H locs ls hM hS hl hL)
theorem j_if_gt {pc tgt : Nat} (h : Cx X g own nm cc nL d RC RS ret) {x : Int32} {off : Int} (hd : decode cc pc = .ok (.ifCond .gt off, 3)) (ht : (pc : Int) + off = (tgt : Int)) (kt : 0 < x → J X g nL Q k n ad C tgt L st) (kf : ¬ 0 < x → J X g nL Q k n ad C (pc + 3) L st) : J X g nL Q k n ad C pc L (.int x :: st) := fun H locs ls hM hS hl hL => lv_if_gt h.1 h.2.1 hd ht (fun q => kt q H locs ls hM hS hl hL) (fun q => kf q H locs ls hM hS hl hL)
theorem j_icmp_gt {pc tgt : Nat} (h : Cx X g own nm cc nL d RC RS ret) {x y : Int32} {off : Int} (hd : decode cc pc = .ok (.if_icmp .gt off, 3)) (ht : (pc : Int) + off = (tgt : Int)) (kt : y < x → J X g nL Q k n ad C tgt L st) (kf : ¬ y < x → J X g nL Q k n ad C (pc + 3) L st) : J X g nL Q k n ad C pc L (.int y :: .int x :: st) := fun H locs ls hM hS hl hL => lv_icmp_gt h.1 h.2.1 hd ht (fun q => kt q H locs ls hM hS hl hL) (fun q => kf q H locs ls hM hS hl hL)
theorem j_if_le {pc tgt : Nat} (h : Cx X g own nm cc nL d RC RS ret) {x : Int32} {off : Int} (hd : decode cc pc = .ok (.ifCond .le off, 3)) (ht : (pc : Int) + off = (tgt : Int)) (kt : x ≤ 0 → J X g nL Q k n ad C tgt L st) (kf : ¬ x ≤ 0 → J X g nL Q k n ad C (pc + 3) L st) : J X g nL Q k n ad C pc L (.int x :: st) := fun H locs ls hM hS hl hL => lv_if_le h.1 h.2.1 hd ht (fun q => kt q H locs ls hM hS hl hL) (fun q => kf q H locs ls hM hS hl hL)
theorem j_icmp_le {pc tgt : Nat} (h : Cx X g own nm cc nL d RC RS ret) {x y : Int32} {off : Int} (hd : decode cc pc = .ok (.if_icmp .le off, 3)) (ht : (pc : Int) + off = (tgt : Int)) (kt : x ≤ y → J X g nL Q k n ad C tgt L st) (kf : ¬ x ≤ y → J X g nL Q k n ad C (pc + 3) L st) : J X g nL Q k n ad C pc L (.int y :: .int x :: st) := fun H locs ls hM hS hl hL => lv_icmp_le h.1 h.2.1 hd ht (fun q => kt q H locs ls hM hS hl hL) (fun q => kf q H locs ls hM hS hl hL)
theorem j_ifnonnull {pc tgt : Nat} (h : Cx X g own nm cc nL d RC RS ret) {x : Nat} {off : Int} (hd : decode cc pc = .ok (.ifnonnull off, 3)) (ht : (pc : Int) + off = (tgt : Int)) (kk : J X g nL Q k n ad C tgt L st) : J X g nL Q k n ad C pc L (.ref x :: st) := fun H locs ls hM hS hl hL => lv_ifnonnull h.1 h.2.1 hd ht (kk H locs ls hM hS hl hL)
theorem j_ifnonnullN {pc : Nat} (h : Cx X g own nm cc nL d RC RS ret) {off : Int} (hd : decode cc pc = .ok (.ifnonnull off, 3)) (kk : J X g nL Q k n ad C (pc + 3) L st) : J X g nL Q k n ad C pc L (.null :: st) := fun H locs ls hM hS hl hL => lv_ifnonnullN h.1 h.2.1 hd (kk H locs ls hM hS hl hL)
theorem j_ifnull {pc : Nat} (h : Cx X g own nm cc nL d RC RS ret) {x : Nat} {off : Int} (hd : decode cc pc = .ok (.ifnull off, 3)) (kk : J X g nL Q k n ad C (pc + 3) L st) : J X g nL Q k n ad C pc L (.ref x :: st) := fun H locs ls hM hS hl hL => lv_ifnull h.1 h.2.1 hd (kk H locs ls hM hS hl hL)
theorem j_ifnullN {pc tgt : Nat} (h : Cx X g own nm cc nL d RC RS ret) {off : Int} (hd : decode cc pc = .ok (.ifnull off, 3)) (ht : (pc : Int) + off = (tgt : Int)) (kk : J X g nL Q k n ad C tgt L st) : J X g nL Q k n ad C pc L (.null :: st) := fun H locs ls hM hS hl hL => lv_ifnullN h.1 h.2.1 hd ht (kk H locs ls hM hS hl hL)
theorem j_tableIn {pc tgt : Nat} (h : Cx X g own nm cc nL d RC RS ret) {dflt lo hi : Int} {offs : Array Int} {len : Nat} {x : Int32} {off : Int} (hd : decode cc pc = .ok (.tableswitch dflt lo hi offs, len)) (h1 : ¬ x.toInt < lo) (h2 : ¬ hi < x.toInt) (ho : offs[(x.toInt - lo).toNat]? = some off) (ht : (pc : Int) + off = (tgt : Int)) (kk : J X g nL Q k n ad C tgt L st) : J X g nL Q k n ad C pc L (.int x :: st) := fun H locs ls hM hS hl hL => lv_tableIn h.1 h.2.1 hd h1 h2 ho ht (kk H locs ls hM hS hl hL)
theorem j_tableOut {pc tgt : Nat} (h : Cx X g own nm cc nL d RC RS ret) {dflt lo hi : Int} {offs : Array Int} {len : Nat} {x : Int32} (hd : decode cc pc = .ok (.tableswitch dflt lo hi offs, len)) (h1 : x.toInt < lo ∨ hi < x.toInt) (ht : (pc : Int) + dflt = (tgt : Int)) (kk : J X g nL Q k n ad C tgt L st) : J X g nL Q k n ad C pc L (.int x :: st) := fun H locs ls hM hS hl hL => lv_tableOut h.1 h.2.1 hd h1 ht (kk H locs ls hM hS hl hL)
theorem j_lookup {pc tgt : Nat} (h : Cx X g own nm cc nL d RC RS ret) {dflt : Int} {ps : Array (Int × Int)} {len : Nat} {x : Int32} {off : Int} (hd : decode cc pc = .ok (.lookupswitch dflt ps, len)) (hp : (ps.toList.zip (ps.toList.drop 1)).all (fun (a, next) => a.1 < next.1) = true) (ho : Op.lookupswitch.offset ps.toList dflt x.toInt = off) (ht : (pc : Int) + off = (tgt : Int)) (kk : J X g nL Q k n ad C tgt L st) : J X g nL Q k n ad C pc L (.int x :: st) := fun H locs ls hM hS hl hL => lv_lookup h.1 h.2.1 hd hp ho ht (kk H locs ls hM hS hl hL)
/-- locals: by place -/
def c1 : Option Value → Bool
  | some v => v.category == 1
  | none => true
theorem asc_get {ls : Array Slot} {m : Nat} {L : List (Option Value)} (h : lv_has ls m (asc 0 L)) {i : Nat} {v : Value} (hi : L[i]? = some (some v)) : ls[i]? = some (.val v) := h.2.2 (i, v) ((asc_mem L 0 i v).mpr ⟨i, by omega, hi⟩)
theorem asc_set1 {ls : Array Slot} {m : Nat} {L : List (Option Value)} {i : Nat} {v : Value} (hp : ∀ j, j + 1 = i → ∀ w, L[j]? = some (some w) → w.category = 1) (h : lv_has ls m ((i, v) :: (asc 0 L).filter (fun q => !(q.1 == i) && !(q.1 + 1 == i && q.2.category == 2)))) : lv_has ls m (asc 0 (L.set i (some v))) := by
  refine ⟨h.1, h.2.1, fun q hq => h.2.2 q ?_⟩
  obtain ⟨j, w⟩ := q
  obtain ⟨k, rfl, hk⟩ := (asc_mem _ 0 j w).mp hq
  by_cases hki : i = k
  · subst hki
    rw [List.getElem?_set] at hk
    simp at hk
    rw [hk.2]; simp
  · rw [List.getElem?_set_ne hki] at hk
    refine List.mem_cons_of_mem _ (List.mem_filter.mpr ⟨(asc_mem L 0 _ w).mpr ⟨k, by omega, hk⟩, ?_⟩)
    have h1 : ¬ (0 + k = i) := by omega
    by_cases h2 : 0 + k + 1 = i
    · have := hp k (by omega) w hk
      simp [h1, this]; omega
    · simp [h1]; omega
theorem asc_set2 {ls : Array Slot} {m : Nat} {L : List (Option Value)} {i : Nat} {v : Value} (hp : ∀ j, j + 1 = i → ∀ w, L[j]? = some (some w) → w.category = 1) (h : lv_has ls m ((i, v) :: (asc 0 L).filter (fun q => !(q.1 == i) && (!(q.1 == i + 1) && !(q.1 + 1 == i && q.2.category == 2))))) : lv_has ls m (asc 0 ((L.set i (some v)).set (i + 1) none)) := by
  refine ⟨h.1, h.2.1, fun q hq => h.2.2 q ?_⟩
  obtain ⟨j, w⟩ := q
  obtain ⟨k, rfl, hk⟩ := (asc_mem _ 0 j w).mp hq
  by_cases hk1 : i + 1 = k
  · subst hk1
    rw [List.getElem?_set] at hk
    simp at hk
  · rw [List.getElem?_set_ne hk1] at hk
    by_cases hki : i = k
    · subst hki
      rw [List.getElem?_set] at hk
      simp at hk
      rw [hk.2]; simp
    · rw [List.getElem?_set_ne hki] at hk
      refine List.mem_cons_of_mem _ (List.mem_filter.mpr ⟨(asc_mem L 0 _ w).mpr ⟨k, by omega, hk⟩, ?_⟩)
      have h1 : ¬ (0 + k = i) := by omega
      have h3 : ¬ (0 + k = i + 1) := by omega
      by_cases h2 : 0 + k + 1 = i
      · have := hp k (by omega) w hk
        simp [h1, h3, this]; omega
      · simp [h1, h3]; omega
theorem c1_use {o : Option Value} (h : c1 o = true) {w : Value} (e : o = some w) : w.category = 1 := by subst e; simpa [c1] using h

theorem j_iload0 {pc : Nat} {t : List (Option Value)} {x : Int32} (h : Cx X g own nm cc nL d RC RS ret) (hd : decode cc pc = .ok (.iload_n 0, 1)) (kk : J X g nL Q k n ad C (pc + 1) (some (.int x) :: t) (.int x :: st)) : J X g nL Q k n ad C pc (some (.int x) :: t) st := fun H locs ls hM hS hl hL => lv_iload_n h.1 h.2.1 hd rfl (asc_get hl rfl) (kk H locs ls hM hS hl hL)
theorem j_lload0 {pc : Nat} {t : List (Option Value)} {x : Int64} (h : Cx X g own nm cc nL d RC RS ret) (hd : decode cc pc = .ok (.lload_n 0, 1)) (kk : J X g nL Q k n ad C (pc + 1) (some (.long x) :: t) (.long x :: st)) : J X g nL Q k n ad C pc (some (.long x) :: t) st := fun H locs ls hM hS hl hL => lv_lload_n h.1 h.2.1 hd rfl (asc_get hl rfl) (kk H locs ls hM hS hl hL)
theorem j_aload0 {pc : Nat} {t : List (Option Value)} {x : Nat} (h : Cx X g own nm cc nL d RC RS ret) (hd : decode cc pc = .ok (.aload_n 0, 1)) (kk : J X g nL Q k n ad C (pc + 1) (some (.ref x) :: t) (.ref x :: st)) : J X g nL Q k n ad C pc (some (.ref x) :: t) st := fun H locs ls hM hS hl hL => lv_aload_n h.1 h.2.1 hd rfl (asc_get hl rfl) (kk H locs ls hM hS hl hL)
theorem j_aload0N {pc : Nat} {t : List (Option Value)} (h : Cx X g own nm cc nL d RC RS ret) (hd : decode cc pc = .ok (.aload_n 0, 1)) (kk : J X g nL Q k n ad C (pc + 1) (some .null :: t) (.null :: st)) : J X g nL Q k n ad C pc (some .null :: t) st := fun H locs ls hM hS hl hL => lv_aload_nN h.1 h.2.1 hd rfl (asc_get hl rfl) (kk H locs ls hM hS hl hL)
theorem j_istore0 {pc : Nat} {a0 : Option Value} {t : List (Option Value)} {x : Int32} (h : Cx X g own nm cc nL d RC RS ret) (hd : decode cc pc = .ok (.istore_n 0, 1)) (kk : J X g nL Q k n ad C (pc + 1) (some (.int x) :: t) st) : J X g nL Q k n ad C pc (a0 :: t) (.int x :: st) := fun H locs ls hM hS hl hL => lv_istore_n h.1 h.2.1 hd rfl hl (by rw [← hL]; simp; try omega) rfl (fun ls' hl' => kk H locs ls' hM hS (asc_set1 (L := a0 :: t) (i := 0) (v := .int x) (fun j hj => by omega) hl') hL)
theorem j_astore0 {pc : Nat} {a0 : Option Value} {t : List (Option Value)} {x : Nat} (h : Cx X g own nm cc nL d RC RS ret) (hd : decode cc pc = .ok (.astore_n 0, 1)) (kk : J X g nL Q k n ad C (pc + 1) (some (.ref x) :: t) st) : J X g nL Q k n ad C pc (a0 :: t) (.ref x :: st) := fun H locs ls hM hS hl hL => lv_astore_n h.1 h.2.1 hd rfl hl (by rw [← hL]; simp; try omega) rfl (fun ls' hl' => kk H locs ls' hM hS (asc_set1 (L := a0 :: t) (i := 0) (v := .ref x) (fun j hj => by omega) hl') hL)
theorem j_astore0N {pc : Nat} {a0 : Option Value} {t : List (Option Value)} (h : Cx X g own nm cc nL d RC RS ret) (hd : decode cc pc = .ok (.astore_n 0, 1)) (kk : J X g nL Q k n ad C (pc + 1) (some (.null) :: t) st) : J X g nL Q k n ad C pc (a0 :: t) (.null :: st) := fun H locs ls hM hS hl hL => lv_astore_nN h.1 h.2.1 hd rfl hl (by rw [← hL]; simp; try omega) rfl (fun ls' hl' => kk H locs ls' hM hS (asc_set1 (L := a0 :: t) (i := 0) (v := .null) (fun j hj => by omega) hl') hL)
theorem j_lstore0 {pc : Nat} {a0 a1 : Option Value} {t : List (Option Value)} {x : Int64} (h : Cx X g own nm cc nL d RC RS ret) (hd : decode cc pc = .ok (.lstore_n 0, 1)) (kk : J X g nL Q k n ad C (pc + 1) (some (.long x) :: none :: t) st) : J X g nL Q k n ad C pc (a0 :: a1 :: t) (.long x :: st) := fun H locs ls hM hS hl hL => lv_lstore_n h.1 h.2.1 hd rfl hl (by rw [← hL]; simp; try omega) rfl (fun ls' hl' => kk H locs ls' hM hS (asc_set2 (L := a0 :: a1 :: t) (i := 0) (v := .long x) (fun j hj => by omega) hl') hL)
theorem j_iinc0 {pc : Nat} {t : List (Option Value)} {x v : Int32} {z : Int} (h : Cx X g own nm cc nL d RC RS ret) (hd : decode cc pc = .ok (.iinc 0 z, 3)) (hv : x + Int32.ofInt z = v) (kk : J X g nL Q k n ad C (pc + 3) (some (.int v) :: t) st) : J X g nL Q k n ad C pc (some (.int x) :: t) st := fun H locs ls hM hS hl hL => by
  obtain ⟨q, hq⟩ := List.getElem?_of_mem ((asc_mem (some (.int x) :: t) 0 0 (.int x)).mpr ⟨0, by omega, rfl⟩)
  exact lv_iinc h.1 h.2.1 hd hl hq hv (by rw [← hL]; simp; try omega) rfl (fun ls' hl' => kk H locs ls' hM hS (asc_set1 (L := some (.int x) :: t) (i := 0) (v := .int v) (fun j hj => by omega) hl') hL)
theorem j_iload1 {pc : Nat} {a0 : Option Value} {t : List (Option Value)} {x : Int32} (h : Cx X g own nm cc nL d RC RS ret) (hd : decode cc pc = .ok (.iload_n 1, 1)) (kk : J X g nL Q k n ad C (pc + 1) (a0 :: some (.int x) :: t) (.int x :: st)) : J X g nL Q k n ad C pc (a0 :: some (.int x) :: t) st := fun H locs ls hM hS hl hL => lv_iload_n h.1 h.2.1 hd rfl (asc_get hl rfl) (kk H locs ls hM hS hl hL)
theorem j_lload1 {pc : Nat} {a0 : Option Value} {t : List (Option Value)} {x : Int64} (h : Cx X g own nm cc nL d RC RS ret) (hd : decode cc pc = .ok (.lload_n 1, 1)) (kk : J X g nL Q k n ad C (pc + 1) (a0 :: some (.long x) :: t) (.long x :: st)) : J X g nL Q k n ad C pc (a0 :: some (.long x) :: t) st := fun H locs ls hM hS hl hL => lv_lload_n h.1 h.2.1 hd rfl (asc_get hl rfl) (kk H locs ls hM hS hl hL)
theorem j_aload1 {pc : Nat} {a0 : Option Value} {t : List (Option Value)} {x : Nat} (h : Cx X g own nm cc nL d RC RS ret) (hd : decode cc pc = .ok (.aload_n 1, 1)) (kk : J X g nL Q k n ad C (pc + 1) (a0 :: some (.ref x) :: t) (.ref x :: st)) : J X g nL Q k n ad C pc (a0 :: some (.ref x) :: t) st := fun H locs ls hM hS hl hL => lv_aload_n h.1 h.2.1 hd rfl (asc_get hl rfl) (kk H locs ls hM hS hl hL)
theorem j_aload1N {pc : Nat} {a0 : Option Value} {t : List (Option Value)} (h : Cx X g own nm cc nL d RC RS ret) (hd : decode cc pc = .ok (.aload_n 1, 1)) (kk : J X g nL Q k n ad C (pc + 1) (a0 :: some .null :: t) (.null :: st)) : J X g nL Q k n ad C pc (a0 :: some .null :: t) st := fun H locs ls hM hS hl hL => lv_aload_nN h.1 h.2.1 hd rfl (asc_get hl rfl) (kk H locs ls hM hS hl hL)
theorem j_istore1 {pc : Nat} {a0 a1 : Option Value} {t : List (Option Value)} {x : Int32} (h : Cx X g own nm cc nL d RC RS ret) (hd : decode cc pc = .ok (.istore_n 1, 1)) (hp : c1 a0 = true) (kk : J X g nL Q k n ad C (pc + 1) (a0 :: some (.int x) :: t) st) : J X g nL Q k n ad C pc (a0 :: a1 :: t) (.int x :: st) := fun H locs ls hM hS hl hL => lv_istore_n h.1 h.2.1 hd rfl hl (by rw [← hL]; simp; try omega) rfl (fun ls' hl' => kk H locs ls' hM hS (asc_set1 (L := a0 :: a1 :: t) (i := 1) (v := .int x) (fun j hj w hw => c1_use hp (by have e : j = 0 := (by omega); subst e; simpa using hw)) hl') hL)
theorem j_astore1 {pc : Nat} {a0 a1 : Option Value} {t : List (Option Value)} {x : Nat} (h : Cx X g own nm cc nL d RC RS ret) (hd : decode cc pc = .ok (.astore_n 1, 1)) (hp : c1 a0 = true) (kk : J X g nL Q k n ad C (pc + 1) (a0 :: some (.ref x) :: t) st) : J X g nL Q k n ad C pc (a0 :: a1 :: t) (.ref x :: st) := fun H locs ls hM hS hl hL => lv_astore_n h.1 h.2.1 hd rfl hl (by rw [← hL]; simp; try omega) rfl (fun ls' hl' => kk H locs ls' hM hS (asc_set1 (L := a0 :: a1 :: t) (i := 1) (v := .ref x) (fun j hj w hw => c1_use hp (by have e : j = 0 := (by omega); subst e; simpa using hw)) hl') hL)
theorem j_astore1N {pc : Nat} {a0 a1 : Option Value} {t : List (Option Value)} (h : Cx X g own nm cc nL d RC RS ret) (hd : decode cc pc = .ok (.astore_n 1, 1)) (hp : c1 a0 = true) (kk : J X g nL Q k n ad C (pc + 1) (a0 :: some (.null) :: t) st) : J X g nL Q k n ad C pc (a0 :: a1 :: t) (.null :: st) := fun H locs ls hM hS hl hL => lv_astore_nN h.1 h.2.1 hd rfl hl (by rw [← hL]; simp; try omega) rfl (fun ls' hl' => kk H locs ls' hM hS (asc_set1 (L := a0 :: a1 :: t) (i := 1) (v := .null) (fun j hj w hw => c1_use hp (by have e : j = 0 := (by omega); subst e; simpa using hw)) hl') hL)
theorem j_lstore1 {pc : Nat} {a0 a1 a2 : Option Value} {t : List (Option Value)} {x : Int64} (h : Cx X g own nm cc nL d RC RS ret) (hd : decode cc pc = .ok (.lstore_n 1, 1)) (hp : c1 a0 = true) (kk : J X g nL Q k n ad C (pc + 1) (a0 :: some (.long x) :: none :: t) st) : J X g nL Q k n ad C pc (a0 :: a1 :: a2 :: t) (.long x :: st) := fun H locs ls hM hS hl hL => lv_lstore_n h.1 h.2.1 hd rfl hl (by rw [← hL]; simp; try omega) rfl (fun ls' hl' => kk H locs ls' hM hS (asc_set2 (L := a0 :: a1 :: a2 :: t) (i := 1) (v := .long x) (fun j hj w hw => c1_use hp (by have e : j = 0 := (by omega); subst e; simpa using hw)) hl') hL)
theorem j_iinc1 {pc : Nat} {a0 : Option Value} {t : List (Option Value)} {x v : Int32} {z : Int} (h : Cx X g own nm cc nL d RC RS ret) (hd : decode cc pc = .ok (.iinc 1 z, 3)) (hp : c1 a0 = true) (hv : x + Int32.ofInt z = v) (kk : J X g nL Q k n ad C (pc + 3) (a0 :: some (.int v) :: t) st) : J X g nL Q k n ad C pc (a0 :: some (.int x) :: t) st := fun H locs ls hM hS hl hL => by
  obtain ⟨q, hq⟩ := List.getElem?_of_mem ((asc_mem (a0 :: some (.int x) :: t) 0 1 (.int x)).mpr ⟨1, by omega, rfl⟩)
  exact lv_iinc h.1 h.2.1 hd hl hq hv (by rw [← hL]; simp; try omega) rfl (fun ls' hl' => kk H locs ls' hM hS (asc_set1 (L := a0 :: some (.int x) :: t) (i := 1) (v := .int v) (fun j hj w hw => c1_use hp (by have e : j = 0 := (by omega); subst e; simpa using hw)) hl') hL)
theorem j_iload2 {pc : Nat} {a0 a1 : Option Value} {t : List (Option Value)} {x : Int32} (h : Cx X g own nm cc nL d RC RS ret) (hd : decode cc pc = .ok (.iload_n 2, 1)) (kk : J X g nL Q k n ad C (pc + 1) (a0 :: a1 :: some (.int x) :: t) (.int x :: st)) : J X g nL Q k n ad C pc (a0 :: a1 :: some (.int x) :: t) st := fun H locs ls hM hS hl hL => lv_iload_n h.1 h.2.1 hd rfl (asc_get hl rfl) (kk H locs ls hM hS hl hL)
theorem j_lload2 {pc : Nat} {a0 a1 : Option Value} {t : List (Option Value)} {x : Int64} (h : Cx X g own nm cc nL d RC RS ret) (hd : decode cc pc = .ok (.lload_n 2, 1)) (kk : J X g nL Q k n ad C (pc + 1) (a0 :: a1 :: some (.long x) :: t) (.long x :: st)) : J X g nL Q k n ad C pc (a0 :: a1 :: some (.long x) :: t) st := fun H locs ls hM hS hl hL => lv_lload_n h.1 h.2.1 hd rfl (asc_get hl rfl) (kk H locs ls hM hS hl hL)
theorem j_aload2 {pc : Nat} {a0 a1 : Option Value} {t : List (Option Value)} {x : Nat} (h : Cx X g own nm cc nL d RC RS ret) (hd : decode cc pc = .ok (.aload_n 2, 1)) (kk : J X g nL Q k n ad C (pc + 1) (a0 :: a1 :: some (.ref x) :: t) (.ref x :: st)) : J X g nL Q k n ad C pc (a0 :: a1 :: some (.ref x) :: t) st := fun H locs ls hM hS hl hL => lv_aload_n h.1 h.2.1 hd rfl (asc_get hl rfl) (kk H locs ls hM hS hl hL)
theorem j_aload2N {pc : Nat} {a0 a1 : Option Value} {t : List (Option Value)} (h : Cx X g own nm cc nL d RC RS ret) (hd : decode cc pc = .ok (.aload_n 2, 1)) (kk : J X g nL Q k n ad C (pc + 1) (a0 :: a1 :: some .null :: t) (.null :: st)) : J X g nL Q k n ad C pc (a0 :: a1 :: some .null :: t) st := fun H locs ls hM hS hl hL => lv_aload_nN h.1 h.2.1 hd rfl (asc_get hl rfl) (kk H locs ls hM hS hl hL)
theorem j_istore2 {pc : Nat} {a0 a1 a2 : Option Value} {t : List (Option Value)} {x : Int32} (h : Cx X g own nm cc nL d RC RS ret) (hd : decode cc pc = .ok (.istore_n 2, 1)) (hp : c1 a1 = true) (kk : J X g nL Q k n ad C (pc + 1) (a0 :: a1 :: some (.int x) :: t) st) : J X g nL Q k n ad C pc (a0 :: a1 :: a2 :: t) (.int x :: st) := fun H locs ls hM hS hl hL => lv_istore_n h.1 h.2.1 hd rfl hl (by rw [← hL]; simp; try omega) rfl (fun ls' hl' => kk H locs ls' hM hS (asc_set1 (L := a0 :: a1 :: a2 :: t) (i := 2) (v := .int x) (fun j hj w hw => c1_use hp (by have e : j = 1 := (by omega); subst e; simpa using hw)) hl') hL)
theorem j_astore2 {pc : Nat} {a0 a1 a2 : Option Value} {t : List (Option Value)} {x : Nat} (h : Cx X g own nm cc nL d RC RS ret) (hd : decode cc pc = .ok (.astore_n 2, 1)) (hp : c1 a1 = true) (kk : J X g nL Q k n ad C (pc + 1) (a0 :: a1 :: some (.ref x) :: t) st) : J X g nL Q k n ad C pc (a0 :: a1 :: a2 :: t) (.ref x :: st) := fun H locs ls hM hS hl hL => lv_astore_n h.1 h.2.1 hd rfl hl (by rw [← hL]; simp; try omega) rfl (fun ls' hl' => kk H locs ls' hM hS (asc_set1 (L := a0 :: a1 :: a2 :: t) (i := 2) (v := .ref x) (fun j hj w hw => c1_use hp (by have e : j = 1 := (by omega); subst e; simpa using hw)) hl') hL)
theorem j_astore2N {pc : Nat} {a0 a1 a2 : Option Value} {t : List (Option Value)} (h : Cx X g own nm cc nL d RC RS ret) (hd : decode cc pc = .ok (.astore_n 2, 1)) (hp : c1 a1 = true) (kk : J X g nL Q k n ad C (pc + 1) (a0 :: a1 :: some (.null) :: t) st) : J X g nL Q k n ad C pc (a0 :: a1 :: a2 :: t) (.null :: st) := fun H locs ls hM hS hl hL => lv_astore_nN h.1 h.2.1 hd rfl hl (by rw [← hL]; simp; try omega) rfl (fun ls' hl' => kk H locs ls' hM hS (asc_set1 (L := a0 :: a1 :: a2 :: t) (i := 2) (v := .null) (fun j hj w hw => c1_use hp (by have e : j = 1 := (by omega); subst e; simpa using hw)) hl') hL)
theorem j_lstore2 {pc : Nat} {a0 a1 a2 a3 : Option Value} {t : List (Option Value)} {x : Int64} (h : Cx X g own nm cc nL d RC RS ret) (hd : decode cc pc = .ok (.lstore_n 2, 1)) (hp : c1 a1 = true) (kk : J X g nL Q k n ad C (pc + 1) (a0 :: a1 :: some (.long x) :: none :: t) st) : J X g nL Q k n ad C pc (a0 :: a1 :: a2 :: a3 :: t) (.long x :: st) := fun H locs ls hM hS hl hL => lv_lstore_n h.1 h.2.1 hd rfl hl (by rw [← hL]; simp; try omega) rfl (fun ls' hl' => kk H locs ls' hM hS (asc_set2 (L := a0 :: a1 :: a2 :: a3 :: t) (i := 2) (v := .long x) (fun j hj w hw => c1_use hp (by have e : j = 1 := (by omega); subst e; simpa using hw)) hl') hL)
theorem j_iinc2 {pc : Nat} {a0 a1 : Option Value} {t : List (Option Value)} {x v : Int32} {z : Int} (h : Cx X g own nm cc nL d RC RS ret) (hd : decode cc pc = .ok (.iinc 2 z, 3)) (hp : c1 a1 = true) (hv : x + Int32.ofInt z = v) (kk : J X g nL Q k n ad C (pc + 3) (a0 :: a1 :: some (.int v) :: t) st) : J X g nL Q k n ad C pc (a0 :: a1 :: some (.int x) :: t) st := fun H locs ls hM hS hl hL => by
  obtain ⟨q, hq⟩ := List.getElem?_of_mem ((asc_mem (a0 :: a1 :: some (.int x) :: t) 0 2 (.int x)).mpr ⟨2, by omega, rfl⟩)
  exact lv_iinc h.1 h.2.1 hd hl hq hv (by rw [← hL]; simp; try omega) rfl (fun ls' hl' => kk H locs ls' hM hS (asc_set1 (L := a0 :: a1 :: some (.int x) :: t) (i := 2) (v := .int v) (fun j hj w hw => c1_use hp (by have e : j = 1 := (by omega); subst e; simpa using hw)) hl') hL)
theorem j_iload3 {pc : Nat} {a0 a1 a2 : Option Value} {t : List (Option Value)} {x : Int32} (h : Cx X g own nm cc nL d RC RS ret) (hd : decode cc pc = .ok (.iload_n 3, 1)) (kk : J X g nL Q k n ad C (pc + 1) (a0 :: a1 :: a2 :: some (.int x) :: t) (.int x :: st)) : J X g nL Q k n ad C pc (a0 :: a1 :: a2 :: some (.int x) :: t) st := fun H locs ls hM hS hl hL => lv_iload_n h.1 h.2.1 hd rfl (asc_get hl rfl) (kk H locs ls hM hS hl hL)
theorem j_lload3 {pc : Nat} {a0 a1 a2 : Option Value} {t : List (Option Value)} {x : Int64} (h : Cx X g own nm cc nL d RC RS ret) (hd : decode cc pc = .ok (.lload_n 3, 1)) (kk : J X g nL Q k n ad C (pc + 1) (a0 :: a1 :: a2 :: some (.long x) :: t) (.long x :: st)) : J X g nL Q k n ad C pc (a0 :: a1 :: a2 :: some (.long x) :: t) st := fun H locs ls hM hS hl hL => lv_lload_n h.1 h.2.1 hd rfl (asc_get hl rfl) (kk H locs ls hM hS hl hL)
theorem j_aload3 {pc : Nat} {a0 a1 a2 : Option Value} {t : List (Option Value)} {x : Nat} (h : Cx X g own nm cc nL d RC RS ret) (hd : decode cc pc = .ok (.aload_n 3, 1)) (kk : J X g nL Q k n ad C (pc + 1) (a0 :: a1 :: a2 :: some (.ref x) :: t) (.ref x :: st)) : J X g nL Q k n ad C pc (a0 :: a1 :: a2 :: some (.ref x) :: t) st := fun H locs ls hM hS hl hL => lv_aload_n h.1 h.2.1 hd rfl (asc_get hl rfl) (kk H locs ls hM hS hl hL)
theorem j_aload3N {pc : Nat} {a0 a1 a2 : Option Value} {t : List (Option Value)} (h : Cx X g own nm cc nL d RC RS ret) (hd : decode cc pc = .ok (.aload_n 3, 1)) (kk : J X g nL Q k n ad C (pc + 1) (a0 :: a1 :: a2 :: some .null :: t) (.null :: st)) : J X g nL Q k n ad C pc (a0 :: a1 :: a2 :: some .null :: t) st := fun H locs ls hM hS hl hL => lv_aload_nN h.1 h.2.1 hd rfl (asc_get hl rfl) (kk H locs ls hM hS hl hL)
theorem j_istore3 {pc : Nat} {a0 a1 a2 a3 : Option Value} {t : List (Option Value)} {x : Int32} (h : Cx X g own nm cc nL d RC RS ret) (hd : decode cc pc = .ok (.istore_n 3, 1)) (hp : c1 a2 = true) (kk : J X g nL Q k n ad C (pc + 1) (a0 :: a1 :: a2 :: some (.int x) :: t) st) : J X g nL Q k n ad C pc (a0 :: a1 :: a2 :: a3 :: t) (.int x :: st) := fun H locs ls hM hS hl hL => lv_istore_n h.1 h.2.1 hd rfl hl (by rw [← hL]; simp; try omega) rfl (fun ls' hl' => kk H locs ls' hM hS (asc_set1 (L := a0 :: a1 :: a2 :: a3 :: t) (i := 3) (v := .int x) (fun j hj w hw => c1_use hp (by have e : j = 2 := (by omega); subst e; simpa using hw)) hl') hL)
theorem j_astore3 {pc : Nat} {a0 a1 a2 a3 : Option Value} {t : List (Option Value)} {x : Nat} (h : Cx X g own nm cc nL d RC RS ret) (hd : decode cc pc = .ok (.astore_n 3, 1)) (hp : c1 a2 = true) (kk : J X g nL Q k n ad C (pc + 1) (a0 :: a1 :: a2 :: some (.ref x) :: t) st) : J X g nL Q k n ad C pc (a0 :: a1 :: a2 :: a3 :: t) (.ref x :: st) := fun H locs ls hM hS hl hL => lv_astore_n h.1 h.2.1 hd rfl hl (by rw [← hL]; simp; try omega) rfl (fun ls' hl' => kk H locs ls' hM hS (asc_set1 (L := a0 :: a1 :: a2 :: a3 :: t) (i := 3) (v := .ref x) (fun j hj w hw => c1_use hp (by have e : j = 2 := (by omega); subst e; simpa using hw)) hl') hL)
theorem j_astore3N {pc : Nat} {a0 a1 a2 a3 : Option Value} {t : List (Option Value)} (h : Cx X g own nm cc nL d RC RS ret) (hd : decode cc pc = .ok (.astore_n 3, 1)) (hp : c1 a2 = true) (kk : J X g nL Q k n ad C (pc + 1) (a0 :: a1 :: a2 :: some (.null) :: t) st) : J X g nL Q k n ad C pc (a0 :: a1 :: a2 :: a3 :: t) (.null :: st) := fun H locs ls hM hS hl hL => lv_astore_nN h.1 h.2.1 hd rfl hl (by rw [← hL]; simp; try omega) rfl (fun ls' hl' => kk H locs ls' hM hS (asc_set1 (L := a0 :: a1 :: a2 :: a3 :: t) (i := 3) (v := .null) (fun j hj w hw => c1_use hp (by have e : j = 2 := (by omega); subst e; simpa using hw)) hl') hL)
theorem j_lstore3 {pc : Nat} {a0 a1 a2 a3 a4 : Option Value} {t : List (Option Value)} {x : Int64} (h : Cx X g own nm cc nL d RC RS ret) (hd : decode cc pc = .ok (.lstore_n 3, 1)) (hp : c1 a2 = true) (kk : J X g nL Q k n ad C (pc + 1) (a0 :: a1 :: a2 :: some (.long x) :: none :: t) st) : J X g nL Q k n ad C pc (a0 :: a1 :: a2 :: a3 :: a4 :: t) (.long x :: st) := fun H locs ls hM hS hl hL => lv_lstore_n h.1 h.2.1 hd rfl hl (by rw [← hL]; simp; try omega) rfl (fun ls' hl' => kk H locs ls' hM hS (asc_set2 (L := a0 :: a1 :: a2 :: a3 :: a4 :: t) (i := 3) (v := .long x) (fun j hj w hw => c1_use hp (by have e : j = 2 := (by omega); subst e; simpa using hw)) hl') hL)
theorem j_iinc3 {pc : Nat} {a0 a1 a2 : Option Value} {t : List (Option Value)} {x v : Int32} {z : Int} (h : Cx X g own nm cc nL d RC RS ret) (hd : decode cc pc = .ok (.iinc 3 z, 3)) (hp : c1 a2 = true) (hv : x + Int32.ofInt z = v) (kk : J X g nL Q k n ad C (pc + 3) (a0 :: a1 :: a2 :: some (.int v) :: t) st) : J X g nL Q k n ad C pc (a0 :: a1 :: a2 :: some (.int x) :: t) st := fun H locs ls hM hS hl hL => by
  obtain ⟨q, hq⟩ := List.getElem?_of_mem ((asc_mem (a0 :: a1 :: a2 :: some (.int x) :: t) 0 3 (.int x)).mpr ⟨3, by omega, rfl⟩)
  exact lv_iinc h.1 h.2.1 hd hl hq hv (by rw [← hL]; simp; try omega) rfl (fun ls' hl' => kk H locs ls' hM hS (asc_set1 (L := a0 :: a1 :: a2 :: some (.int x) :: t) (i := 3) (v := .int v) (fun j hj w hw => c1_use hp (by have e : j = 2 := (by omega); subst e; simpa using hw)) hl') hL)
theorem j_iload4 {pc : Nat} {a0 a1 a2 a3 : Option Value} {t : List (Option Value)} {x : Int32} (h : Cx X g own nm cc nL d RC RS ret) (hd : decode cc pc = .ok (.iload 4, 2)) (kk : J X g nL Q k n ad C (pc + 2) (a0 :: a1 :: a2 :: a3 :: some (.int x) :: t) (.int x :: st)) : J X g nL Q k n ad C pc (a0 :: a1 :: a2 :: a3 :: some (.int x) :: t) st := fun H locs ls hM hS hl hL => lv_iload h.1 h.2.1 hd (asc_get hl rfl) (kk H locs ls hM hS hl hL)
theorem j_lload4 {pc : Nat} {a0 a1 a2 a3 : Option Value} {t : List (Option Value)} {x : Int64} (h : Cx X g own nm cc nL d RC RS ret) (hd : decode cc pc = .ok (.lload 4, 2)) (kk : J X g nL Q k n ad C (pc + 2) (a0 :: a1 :: a2 :: a3 :: some (.long x) :: t) (.long x :: st)) : J X g nL Q k n ad C pc (a0 :: a1 :: a2 :: a3 :: some (.long x) :: t) st := fun H locs ls hM hS hl hL => lv_lload h.1 h.2.1 hd (asc_get hl rfl) (kk H locs ls hM hS hl hL)
theorem j_aload4 {pc : Nat} {a0 a1 a2 a3 : Option Value} {t : List (Option Value)} {x : Nat} (h : Cx X g own nm cc nL d RC RS ret) (hd : decode cc pc = .ok (.aload 4, 2)) (kk : J X g nL Q k n ad C (pc + 2) (a0 :: a1 :: a2 :: a3 :: some (.ref x) :: t) (.ref x :: st)) : J X g nL Q k n ad C pc (a0 :: a1 :: a2 :: a3 :: some (.ref x) :: t) st := fun H locs ls hM hS hl hL => lv_aload h.1 h.2.1 hd (asc_get hl rfl) (kk H locs ls hM hS hl hL)
theorem j_aload4N {pc : Nat} {a0 a1 a2 a3 : Option Value} {t : List (Option Value)} (h : Cx X g own nm cc nL d RC RS ret) (hd : decode cc pc = .ok (.aload 4, 2)) (kk : J X g nL Q k n ad C (pc + 2) (a0 :: a1 :: a2 :: a3 :: some .null :: t) (.null :: st)) : J X g nL Q k n ad C pc (a0 :: a1 :: a2 :: a3 :: some .null :: t) st := fun H locs ls hM hS hl hL => lv_aloadN h.1 h.2.1 hd (asc_get hl rfl) (kk H locs ls hM hS hl hL)
theorem j_istore4 {pc : Nat} {a0 a1 a2 a3 a4 : Option Value} {t : List (Option Value)} {x : Int32} (h : Cx X g own nm cc nL d RC RS ret) (hd : decode cc pc = .ok (.istore 4, 2)) (hp : c1 a3 = true) (kk : J X g nL Q k n ad C (pc + 2) (a0 :: a1 :: a2 :: a3 :: some (.int x) :: t) st) : J X g nL Q k n ad C pc (a0 :: a1 :: a2 :: a3 :: a4 :: t) (.int x :: st) := fun H locs ls hM hS hl hL => lv_istore h.1 h.2.1 hd hl (by rw [← hL]; simp; try omega) rfl (fun ls' hl' => kk H locs ls' hM hS (asc_set1 (L := a0 :: a1 :: a2 :: a3 :: a4 :: t) (i := 4) (v := .int x) (fun j hj w hw => c1_use hp (by have e : j = 3 := (by omega); subst e; simpa using hw)) hl') hL)
theorem j_astore4 {pc : Nat} {a0 a1 a2 a3 a4 : Option Value} {t : List (Option Value)} {x : Nat} (h : Cx X g own nm cc nL d RC RS ret) (hd : decode cc pc = .ok (.astore 4, 2)) (hp : c1 a3 = true) (kk : J X g nL Q k n ad C (pc + 2) (a0 :: a1 :: a2 :: a3 :: some (.ref x) :: t) st) : J X g nL Q k n ad C pc (a0 :: a1 :: a2 :: a3 :: a4 :: t) (.ref x :: st) := fun H locs ls hM hS hl hL => lv_astore h.1 h.2.1 hd hl (by rw [← hL]; simp; try omega) rfl (fun ls' hl' => kk H locs ls' hM hS (asc_set1 (L := a0 :: a1 :: a2 :: a3 :: a4 :: t) (i := 4) (v := .ref x) (fun j hj w hw => c1_use hp (by have e : j = 3 := (by omega); subst e; simpa using hw)) hl') hL)
theorem j_astore4N {pc : Nat} {a0 a1 a2 a3 a4 : Option Value} {t : List (Option Value)} (h : Cx X g own nm cc nL d RC RS ret) (hd : decode cc pc = .ok (.astore 4, 2)) (hp : c1 a3 = true) (kk : J X g nL Q k n ad C (pc + 2) (a0 :: a1 :: a2 :: a3 :: some (.null) :: t) st) : J X g nL Q k n ad C pc (a0 :: a1 :: a2 :: a3 :: a4 :: t) (.null :: st) := fun H locs ls hM hS hl hL => lv_astoreN h.1 h.2.1 hd hl (by rw [← hL]; simp; try omega) rfl (fun ls' hl' => kk H locs ls' hM hS (asc_set1 (L := a0 :: a1 :: a2 :: a3 :: a4 :: t) (i := 4) (v := .null) (fun j hj w hw => c1_use hp (by have e : j = 3 := (by omega); subst e; simpa using hw)) hl') hL)
theorem j_lstore4 {pc : Nat} {a0 a1 a2 a3 a4 a5 : Option Value} {t : List (Option Value)} {x : Int64} (h : Cx X g own nm cc nL d RC RS ret) (hd : decode cc pc = .ok (.lstore 4, 2)) (hp : c1 a3 = true) (kk : J X g nL Q k n ad C (pc + 2) (a0 :: a1 :: a2 :: a3 :: some (.long x) :: none :: t) st) : J X g nL Q k n ad C pc (a0 :: a1 :: a2 :: a3 :: a4 :: a5 :: t) (.long x :: st) := fun H locs ls hM hS hl hL => lv_lstore h.1 h.2.1 hd hl (by rw [← hL]; simp; try omega) rfl (fun ls' hl' => kk H locs ls' hM hS (asc_set2 (L := a0 :: a1 :: a2 :: a3 :: a4 :: a5 :: t) (i := 4) (v := .long x) (fun j hj w hw => c1_use hp (by have e : j = 3 := (by omega); subst e; simpa using hw)) hl') hL)
theorem j_iinc4 {pc : Nat} {a0 a1 a2 a3 : Option Value} {t : List (Option Value)} {x v : Int32} {z : Int} (h : Cx X g own nm cc nL d RC RS ret) (hd : decode cc pc = .ok (.iinc 4 z, 3)) (hp : c1 a3 = true) (hv : x + Int32.ofInt z = v) (kk : J X g nL Q k n ad C (pc + 3) (a0 :: a1 :: a2 :: a3 :: some (.int v) :: t) st) : J X g nL Q k n ad C pc (a0 :: a1 :: a2 :: a3 :: some (.int x) :: t) st := fun H locs ls hM hS hl hL => by
  obtain ⟨q, hq⟩ := List.getElem?_of_mem ((asc_mem (a0 :: a1 :: a2 :: a3 :: some (.int x) :: t) 0 4 (.int x)).mpr ⟨4, by omega, rfl⟩)
  exact lv_iinc h.1 h.2.1 hd hl hq hv (by rw [← hL]; simp; try omega) rfl (fun ls' hl' => kk H locs ls' hM hS (asc_set1 (L := a0 :: a1 :: a2 :: a3 :: some (.int x) :: t) (i := 4) (v := .int v) (fun j hj w hw => c1_use hp (by have e : j = 3 := (by omega); subst e; simpa using hw)) hl') hL)
theorem j_iload5 {pc : Nat} {a0 a1 a2 a3 a4 : Option Value} {t : List (Option Value)} {x : Int32} (h : Cx X g own nm cc nL d RC RS ret) (hd : decode cc pc = .ok (.iload 5, 2)) (kk : J X g nL Q k n ad C (pc + 2) (a0 :: a1 :: a2 :: a3 :: a4 :: some (.int x) :: t) (.int x :: st)) : J X g nL Q k n ad C pc (a0 :: a1 :: a2 :: a3 :: a4 :: some (.int x) :: t) st := fun H locs ls hM hS hl hL => lv_iload h.1 h.2.1 hd (asc_get hl rfl) (kk H locs ls hM hS hl hL)
theorem j_lload5 {pc : Nat} {a0 a1 a2 a3 a4 : Option Value} {t : List (Option Value)} {x : Int64} (h : Cx X g own nm cc nL d RC RS ret) (hd : decode cc pc = .ok (.lload 5, 2)) (kk : J X g nL Q k n ad C (pc + 2) (a0 :: a1 :: a2 :: a3 :: a4 :: some (.long x) :: t) (.long x :: st)) : J X g nL Q k n ad C pc (a0 :: a1 :: a2 :: a3 :: a4 :: some (.long x) :: t) st := fun H locs ls hM hS hl hL => lv_lload h.1 h.2.1 hd (asc_get hl rfl) (kk H locs ls hM hS hl hL)
theorem j_aload5 {pc : Nat} {a0 a1 a2 a3 a4 : Option Value} {t : List (Option Value)} {x : Nat} (h : Cx X g own nm cc nL d RC RS ret) (hd : decode cc pc = .ok (.aload 5, 2)) (kk : J X g nL Q k n ad C (pc + 2) (a0 :: a1 :: a2 :: a3 :: a4 :: some (.ref x) :: t) (.ref x :: st)) : J X g nL Q k n ad C pc (a0 :: a1 :: a2 :: a3 :: a4 :: some (.ref x) :: t) st := fun H locs ls hM hS hl hL => lv_aload h.1 h.2.1 hd (asc_get hl rfl) (kk H locs ls hM hS hl hL)
theorem j_aload5N {pc : Nat} {a0 a1 a2 a3 a4 : Option Value} {t : List (Option Value)} (h : Cx X g own nm cc nL d RC RS ret) (hd : decode cc pc = .ok (.aload 5, 2)) (kk : J X g nL Q k n ad C (pc + 2) (a0 :: a1 :: a2 :: a3 :: a4 :: some .null :: t) (.null :: st)) : J X g nL Q k n ad C pc (a0 :: a1 :: a2 :: a3 :: a4 :: some .null :: t) st := fun H locs ls hM hS hl hL => lv_aloadN h.1 h.2.1 hd (asc_get hl rfl) (kk H locs ls hM hS hl hL)
theorem j_istore5 {pc : Nat} {a0 a1 a2 a3 a4 a5 : Option Value} {t : List (Option Value)} {x : Int32} (h : Cx X g own nm cc nL d RC RS ret) (hd : decode cc pc = .ok (.istore 5, 2)) (hp : c1 a4 = true) (kk : J X g nL Q k n ad C (pc + 2) (a0 :: a1 :: a2 :: a3 :: a4 :: some (.int x) :: t) st) : J X g nL Q k n ad C pc (a0 :: a1 :: a2 :: a3 :: a4 :: a5 :: t) (.int x :: st) := fun H locs ls hM hS hl hL => lv_istore h.1 h.2.1 hd hl (by rw [← hL]; simp; try omega) rfl (fun ls' hl' => kk H locs ls' hM hS (asc_set1 (L := a0 :: a1 :: a2 :: a3 :: a4 :: a5 :: t) (i := 5) (v := .int x) (fun j hj w hw => c1_use hp (by have e : j = 4 := (by omega); subst e; simpa using hw)) hl') hL)
theorem j_astore5 {pc : Nat} {a0 a1 a2 a3 a4 a5 : Option Value} {t : List (Option Value)} {x : Nat} (h : Cx X g own nm cc nL d RC RS ret) (hd : decode cc pc = .ok (.astore 5, 2)) (hp : c1 a4 = true) (kk : J X g nL Q k n ad C (pc + 2) (a0 :: a1 :: a2 :: a3 :: a4 :: some (.ref x) :: t) st) : J X g nL Q k n ad C pc (a0 :: a1 :: a2 :: a3 :: a4 :: a5 :: t) (.ref x :: st) := fun H locs ls hM hS hl hL => lv_astore h.1 h.2.1 hd hl (by rw [← hL]; simp; try omega) rfl (fun ls' hl' => kk H locs ls' hM hS (asc_set1 (L := a0 :: a1 :: a2 :: a3 :: a4 :: a5 :: t) (i := 5) (v := .ref x) (fun j hj w hw => c1_use hp (by have e : j = 4 := (by omega); subst e; simpa using hw)) hl') hL)
theorem j_astore5N {pc : Nat} {a0 a1 a2 a3 a4 a5 : Option Value} {t : List (Option Value)} (h : Cx X g own nm cc nL d RC RS ret) (hd : decode cc pc = .ok (.astore 5, 2)) (hp : c1 a4 = true) (kk : J X g nL Q k n ad C (pc + 2) (a0 :: a1 :: a2 :: a3 :: a4 :: some (.null) :: t) st) : J X g nL Q k n ad C pc (a0 :: a1 :: a2 :: a3 :: a4 :: a5 :: t) (.null :: st) := fun H locs ls hM hS hl hL => lv_astoreN h.1 h.2.1 hd hl (by rw [← hL]; simp; try omega) rfl (fun ls' hl' => kk H locs ls' hM hS (asc_set1 (L := a0 :: a1 :: a2 :: a3 :: a4 :: a5 :: t) (i := 5) (v := .null) (fun j hj w hw => c1_use hp (by have e : j = 4 := (by omega); subst e; simpa using hw)) hl') hL)
theorem j_lstore5 {pc : Nat} {a0 a1 a2 a3 a4 a5 a6 : Option Value} {t : List (Option Value)} {x : Int64} (h : Cx X g own nm cc nL d RC RS ret) (hd : decode cc pc = .ok (.lstore 5, 2)) (hp : c1 a4 = true) (kk : J X g nL Q k n ad C (pc + 2) (a0 :: a1 :: a2 :: a3 :: a4 :: some (.long x) :: none :: t) st) : J X g nL Q k n ad C pc (a0 :: a1 :: a2 :: a3 :: a4 :: a5 :: a6 :: t) (.long x :: st) := fun H locs ls hM hS hl hL => lv_lstore h.1 h.2.1 hd hl (by rw [← hL]; simp; try omega) rfl (fun ls' hl' => kk H locs ls' hM hS (asc_set2 (L := a0 :: a1 :: a2 :: a3 :: a4 :: a5 :: a6 :: t) (i := 5) (v := .long x) (fun j hj w hw => c1_use hp (by have e : j = 4 := (by omega); subst e; simpa using hw)) hl') hL)
theorem j_iinc5 {pc : Nat} {a0 a1 a2 a3 a4 : Option Value} {t : List (Option Value)} {x v : Int32} {z : Int} (h : Cx X g own nm cc nL d RC RS ret) (hd : decode cc pc = .ok (.iinc 5 z, 3)) (hp : c1 a4 = true) (hv : x + Int32.ofInt z = v) (kk : J X g nL Q k n ad C (pc + 3) (a0 :: a1 :: a2 :: a3 :: a4 :: some (.int v) :: t) st) : J X g nL Q k n ad C pc (a0 :: a1 :: a2 :: a3 :: a4 :: some (.int x) :: t) st := fun H locs ls hM hS hl hL => by
  obtain ⟨q, hq⟩ := List.getElem?_of_mem ((asc_mem (a0 :: a1 :: a2 :: a3 :: a4 :: some (.int x) :: t) 0 5 (.int x)).mpr ⟨5, by omega, rfl⟩)
  exact lv_iinc h.1 h.2.1 hd hl hq hv (by rw [← hL]; simp; try omega) rfl (fun ls' hl' => kk H locs ls' hM hS (asc_set1 (L := a0 :: a1 :: a2 :: a3 :: a4 :: some (.int x) :: t) (i := 5) (v := .int v) (fun j hj w hw => c1_use hp (by have e : j = 4 := (by omega); subst e; simpa using hw)) hl') hL)
theorem j_iload6 {pc : Nat} {a0 a1 a2 a3 a4 a5 : Option Value} {t : List (Option Value)} {x : Int32} (h : Cx X g own nm cc nL d RC RS ret) (hd : decode cc pc = .ok (.iload 6, 2)) (kk : J X g nL Q k n ad C (pc + 2) (a0 :: a1 :: a2 :: a3 :: a4 :: a5 :: some (.int x) :: t) (.int x :: st)) : J X g nL Q k n ad C pc (a0 :: a1 :: a2 :: a3 :: a4 :: a5 :: some (.int x) :: t) st := fun H locs ls hM hS hl hL => lv_iload h.1 h.2.1 hd (asc_get hl rfl) (kk H locs ls hM hS hl hL)
theorem j_lload6 {pc : Nat} {a0 a1 a2 a3 a4 a5 : Option Value} {t : List (Option Value)} {x : Int64} (h : Cx X g own nm cc nL d RC RS ret) (hd : decode cc pc = .ok (.lload 6, 2)) (kk : J X g nL Q k n ad C (pc + 2) (a0 :: a1 :: a2 :: a3 :: a4 :: a5 :: some (.long x) :: t) (.long x :: st)) : J X g nL Q k n ad C pc (a0 :: a1 :: a2 :: a3 :: a4 :: a5 :: some (.long x) :: t) st := fun H locs ls hM hS hl hL => lv_lload h.1 h.2.1 hd (asc_get hl rfl) (kk H locs ls hM hS hl hL)
theorem j_aload6 {pc : Nat} {a0 a1 a2 a3 a4 a5 : Option Value} {t : List (Option Value)} {x : Nat} (h : Cx X g own nm cc nL d RC RS ret) (hd : decode cc pc = .ok (.aload 6, 2)) (kk : J X g nL Q k n ad C (pc + 2) (a0 :: a1 :: a2 :: a3 :: a4 :: a5 :: some (.ref x) :: t) (.ref x :: st)) : J X g nL Q k n ad C pc (a0 :: a1 :: a2 :: a3 :: a4 :: a5 :: some (.ref x) :: t) st := fun H locs ls hM hS hl hL => lv_aload h.1 h.2.1 hd (asc_get hl rfl) (kk H locs ls hM hS hl hL)
theorem j_aload6N {pc : Nat} {a0 a1 a2 a3 a4 a5 : Option Value} {t : List (Option Value)} (h : Cx X g own nm cc nL d RC RS ret) (hd : decode cc pc = .ok (.aload 6, 2)) (kk : J X g nL Q k n ad C (pc + 2) (a0 :: a1 :: a2 :: a3 :: a4 :: a5 :: some .null :: t) (.null :: st)) : J X g nL Q k n ad C pc (a0 :: a1 :: a2 :: a3 :: a4 :: a5 :: some .null :: t) st := fun H locs ls hM hS hl hL => lv_aloadN h.1 h.2.1 hd (asc_get hl rfl) (kk H locs ls hM hS hl hL)
theorem j_istore6 {pc : Nat} {a0 a1 a2 a3 a4 a5 a6 : Option Value} {t : List (Option Value)} {x : Int32} (h : Cx X g own nm cc nL d RC RS ret) (hd : decode cc pc = .ok (.istore 6, 2)) (hp : c1 a5 = true) (kk : J X g nL Q k n ad C (pc + 2) (a0 :: a1 :: a2 :: a3 :: a4 :: a5 :: some (.int x) :: t) st) : J X g nL Q k n ad C pc (a0 :: a1 :: a2 :: a3 :: a4 :: a5 :: a6 :: t) (.int x :: st) := fun H locs ls hM hS hl hL => lv_istore h.1 h.2.1 hd hl (by rw [← hL]; simp; try omega) rfl (fun ls' hl' => kk H locs ls' hM hS (asc_set1 (L := a0 :: a1 :: a2 :: a3 :: a4 :: a5 :: a6 :: t) (i := 6) (v := .int x) (fun j hj w hw => c1_use hp (by have e : j = 5 := (by omega); subst e; simpa using hw)) hl') hL)
theorem j_astore6 {pc : Nat} {a0 a1 a2 a3 a4 a5 a6 : Option Value} {t : List (Option Value)} {x : Nat} (h : Cx X g own nm cc nL d RC RS ret) (hd : decode cc pc = .ok (.astore 6, 2)) (hp : c1 a5 = true) (kk : J X g nL Q k n ad C (pc + 2) (a0 :: a1 :: a2 :: a3 :: a4 :: a5 :: some (.ref x) :: t) st) : J X g nL Q k n ad C pc (a0 :: a1 :: a2 :: a3 :: a4 :: a5 :: a6 :: t) (.ref x :: st) := fun H locs ls hM hS hl hL => lv_astore h.1 h.2.1 hd hl (by rw [← hL]; simp; try omega) rfl (fun ls' hl' => kk H locs ls' hM hS (asc_set1 (L := a0 :: a1 :: a2 :: a3 :: a4 :: a5 :: a6 :: t) (i := 6) (v := .ref x) (fun j hj w hw => c1_use hp (by have e : j = 5 := (by omega); subst e; simpa using hw)) hl') hL)
theorem j_astore6N {pc : Nat} {a0 a1 a2 a3 a4 a5 a6 : Option Value} {t : List (Option Value)} (h : Cx X g own nm cc nL d RC RS ret) (hd : decode cc pc = .ok (.astore 6, 2)) (hp : c1 a5 = true) (kk : J X g nL Q k n ad C (pc + 2) (a0 :: a1 :: a2 :: a3 :: a4 :: a5 :: some (.null) :: t) st) : J X g nL Q k n ad C pc (a0 :: a1 :: a2 :: a3 :: a4 :: a5 :: a6 :: t) (.null :: st) := fun H locs ls hM hS hl hL => lv_astoreN h.1 h.2.1 hd hl (by rw [← hL]; simp; try omega) rfl (fun ls' hl' => kk H locs ls' hM hS (asc_set1 (L := a0 :: a1 :: a2 :: a3 :: a4 :: a5 :: a6 :: t) (i := 6) (v := .null) (fun j hj w hw => c1_use hp (by have e : j = 5 := (by omega); subst e; simpa using hw)) hl') hL)
theorem j_lstore6 {pc : Nat} {a0 a1 a2 a3 a4 a5 a6 a7 : Option Value} {t : List (Option Value)} {x : Int64} (h : Cx X g own nm cc nL d RC RS ret) (hd : decode cc pc = .ok (.lstore 6, 2)) (hp : c1 a5 = true) (kk : J X g nL Q k n ad C (pc + 2) (a0 :: a1 :: a2 :: a3 :: a4 :: a5 :: some (.long x) :: none :: t) st) : J X g nL Q k n ad C pc (a0 :: a1 :: a2 :: a3 :: a4 :: a5 :: a6 :: a7 :: t) (.long x :: st) := fun H locs ls hM hS hl hL => lv_lstore h.1 h.2.1 hd hl (by rw [← hL]; simp; try omega) rfl (fun ls' hl' => kk H locs ls' hM hS (asc_set2 (L := a0 :: a1 :: a2 :: a3 :: a4 :: a5 :: a6 :: a7 :: t) (i := 6) (v := .long x) (fun j hj w hw => c1_use hp (by have e : j = 5 := (by omega); subst e; simpa using hw)) hl') hL)
theorem j_iinc6 {pc : Nat} {a0 a1 a2 a3 a4 a5 : Option Value} {t : List (Option Value)} {x v : Int32} {z : Int} (h : Cx X g own nm cc nL d RC RS ret) (hd : decode cc pc = .ok (.iinc 6 z, 3)) (hp : c1 a5 = true) (hv : x + Int32.ofInt z = v) (kk : J X g nL Q k n ad C (pc + 3) (a0 :: a1 :: a2 :: a3 :: a4 :: a5 :: some (.int v) :: t) st) : J X g nL Q k n ad C pc (a0 :: a1 :: a2 :: a3 :: a4 :: a5 :: some (.int x) :: t) st := fun H locs ls hM hS hl hL => by
  obtain ⟨q, hq⟩ := List.getElem?_of_mem ((asc_mem (a0 :: a1 :: a2 :: a3 :: a4 :: a5 :: some (.int x) :: t) 0 6 (.int x)).mpr ⟨6, by omega, rfl⟩)
  exact lv_iinc h.1 h.2.1 hd hl hq hv (by rw [← hL]; simp; try omega) rfl (fun ls' hl' => kk H locs ls' hM hS (asc_set1 (L := a0 :: a1 :: a2 :: a3 :: a4 :: a5 :: some (.int x) :: t) (i := 6) (v := .int v) (fun j hj w hw => c1_use hp (by have e : j = 5 := (by omega); subst e; simpa using hw)) hl') hL)
theorem j_iload7 {pc : Nat} {a0 a1 a2 a3 a4 a5 a6 : Option Value} {t : List (Option Value)} {x : Int32} (h : Cx X g own nm cc nL d RC RS ret) (hd : decode cc pc = .ok (.iload 7, 2)) (kk : J X g nL Q k n ad C (pc + 2) (a0 :: a1 :: a2 :: a3 :: a4 :: a5 :: a6 :: some (.int x) :: t) (.int x :: st)) : J X g nL Q k n ad C pc (a0 :: a1 :: a2 :: a3 :: a4 :: a5 :: a6 :: some (.int x) :: t) st := fun H locs ls hM hS hl hL => lv_iload h.1 h.2.1 hd (asc_get hl rfl) (kk H locs ls hM hS hl hL)
theorem j_lload7 {pc : Nat} {a0 a1 a2 a3 a4 a5 a6 : Option Value} {t : List (Option Value)} {x : Int64} (h : Cx X g own nm cc nL d RC RS ret) (hd : decode cc pc = .ok (.lload 7, 2)) (kk : J X g nL Q k n ad C (pc + 2) (a0 :: a1 :: a2 :: a3 :: a4 :: a5 :: a6 :: some (.long x) :: t) (.long x :: st)) : J X g nL Q k n ad C pc (a0 :: a1 :: a2 :: a3 :: a4 :: a5 :: a6 :: some (.long x) :: t) st := fun H locs ls hM hS hl hL => lv_lload h.1 h.2.1 hd (asc_get hl rfl) (kk H locs ls hM hS hl hL)
theorem j_aload7 {pc : Nat} {a0 a1 a2 a3 a4 a5 a6 : Option Value} {t : List (Option Value)} {x : Nat} (h : Cx X g own nm cc nL d RC RS ret) (hd : decode cc pc = .ok (.aload 7, 2)) (kk : J X g nL Q k n ad C (pc + 2) (a0 :: a1 :: a2 :: a3 :: a4 :: a5 :: a6 :: some (.ref x) :: t) (.ref x :: st)) : J X g nL Q k n ad C pc (a0 :: a1 :: a2 :: a3 :: a4 :: a5 :: a6 :: some (.ref x) :: t) st := fun H locs ls hM hS hl hL => lv_aload h.1 h.2.1 hd (asc_get hl rfl) (kk H locs ls hM hS hl hL)
theorem j_aload7N {pc : Nat} {a0 a1 a2 a3 a4 a5 a6 : Option Value} {t : List (Option Value)} (h : Cx X g own nm cc nL d RC RS ret) (hd : decode cc pc = .ok (.aload 7, 2)) (kk : J X g nL Q k n ad C (pc + 2) (a0 :: a1 :: a2 :: a3 :: a4 :: a5 :: a6 :: some .null :: t) (.null :: st)) : J X g nL Q k n ad C pc (a0 :: a1 :: a2 :: a3 :: a4 :: a5 :: a6 :: some .null :: t) st := fun H locs ls hM hS hl hL => lv_aloadN h.1 h.2.1 hd (asc_get hl rfl) (kk H locs ls hM hS hl hL)
theorem j_istore7 {pc : Nat} {a0 a1 a2 a3 a4 a5 a6 a7 : Option Value} {t : List (Option Value)} {x : Int32} (h : Cx X g own nm cc nL d RC RS ret) (hd : decode cc pc = .ok (.istore 7, 2)) (hp : c1 a6 = true) (kk : J X g nL Q k n ad C (pc + 2) (a0 :: a1 :: a2 :: a3 :: a4 :: a5 :: a6 :: some (.int x) :: t) st) : J X g nL Q k n ad C pc (a0 :: a1 :: a2 :: a3 :: a4 :: a5 :: a6 :: a7 :: t) (.int x :: st) := fun H locs ls hM hS hl hL => lv_istore h.1 h.2.1 hd hl (by rw [← hL]; simp; try omega) rfl (fun ls' hl' => kk H locs ls' hM hS (asc_set1 (L := a0 :: a1 :: a2 :: a3 :: a4 :: a5 :: a6 :: a7 :: t) (i := 7) (v := .int x) (fun j hj w hw => c1_use hp (by have e : j = 6 := (by omega); subst e; simpa using hw)) hl') hL)
theorem j_astore7 {pc : Nat} {a0 a1 a2 a3 a4 a5 a6 a7 : Option Value} {t : List (Option Value)} {x : Nat} (h : Cx X g own nm cc nL d RC RS ret) (hd : decode cc pc = .ok (.astore 7, 2)) (hp : c1 a6 = true) (kk : J X g nL Q k n ad C (pc + 2) (a0 :: a1 :: a2 :: a3 :: a4 :: a5 :: a6 :: some (.ref x) :: t) st) : J X g nL Q k n ad C pc (a0 :: a1 :: a2 :: a3 :: a4 :: a5 :: a6 :: a7 :: t) (.ref x :: st) := fun H locs ls hM hS hl hL => lv_astore h.1 h.2.1 hd hl (by rw [← hL]; simp; try omega) rfl (fun ls' hl' => kk H locs ls' hM hS (asc_set1 (L := a0 :: a1 :: a2 :: a3 :: a4 :: a5 :: a6 :: a7 :: t) (i := 7) (v := .ref x) (fun j hj w hw => c1_use hp (by have e : j = 6 := (by omega); subst e; simpa using hw)) hl') hL)
theorem j_astore7N {pc : Nat} {a0 a1 a2 a3 a4 a5 a6 a7 : Option Value} {t : List (Option Value)} (h : Cx X g own nm cc nL d RC RS ret) (hd : decode cc pc = .ok (.astore 7, 2)) (hp : c1 a6 = true) (kk : J X g nL Q k n ad C (pc + 2) (a0 :: a1 :: a2 :: a3 :: a4 :: a5 :: a6 :: some (.null) :: t) st) : J X g nL Q k n ad C pc (a0 :: a1 :: a2 :: a3 :: a4 :: a5 :: a6 :: a7 :: t) (.null :: st) := fun H locs ls hM hS hl hL => lv_astoreN h.1 h.2.1 hd hl (by rw [← hL]; simp; try omega) rfl (fun ls' hl' => kk H locs ls' hM hS (asc_set1 (L := a0 :: a1 :: a2 :: a3 :: a4 :: a5 :: a6 :: a7 :: t) (i := 7) (v := .null) (fun j hj w hw => c1_use hp (by have e : j = 6 := (by omega); subst e; simpa using hw)) hl') hL)
theorem j_lstore7 {pc : Nat} {a0 a1 a2 a3 a4 a5 a6 a7 a8 : Option Value} {t : List (Option Value)} {x : Int64} (h : Cx X g own nm cc nL d RC RS ret) (hd : decode cc pc = .ok (.lstore 7, 2)) (hp : c1 a6 = true) (kk : J X g nL Q k n ad C (pc + 2) (a0 :: a1 :: a2 :: a3 :: a4 :: a5 :: a6 :: some (.long x) :: none :: t) st) : J X g nL Q k n ad C pc (a0 :: a1 :: a2 :: a3 :: a4 :: a5 :: a6 :: a7 :: a8 :: t) (.long x :: st) := fun H locs ls hM hS hl hL => lv_lstore h.1 h.2.1 hd hl (by rw [← hL]; simp; try omega) rfl (fun ls' hl' => kk H locs ls' hM hS (asc_set2 (L := a0 :: a1 :: a2 :: a3 :: a4 :: a5 :: a6 :: a7 :: a8 :: t) (i := 7) (v := .long x) (fun j hj w hw => c1_use hp (by have e : j = 6 := (by omega); subst e; simpa using hw)) hl') hL)
theorem j_iinc7 {pc : Nat} {a0 a1 a2 a3 a4 a5 a6 : Option Value} {t : List (Option Value)} {x v : Int32} {z : Int} (h : Cx X g own nm cc nL d RC RS ret) (hd : decode cc pc = .ok (.iinc 7 z, 3)) (hp : c1 a6 = true) (hv : x + Int32.ofInt z = v) (kk : J X g nL Q k n ad C (pc + 3) (a0 :: a1 :: a2 :: a3 :: a4 :: a5 :: a6 :: some (.int v) :: t) st) : J X g nL Q k n ad C pc (a0 :: a1 :: a2 :: a3 :: a4 :: a5 :: a6 :: some (.int x) :: t) st := fun H locs ls hM hS hl hL => by
  obtain ⟨q, hq⟩ := List.getElem?_of_mem ((asc_mem (a0 :: a1 :: a2 :: a3 :: a4 :: a5 :: a6 :: some (.int x) :: t) 0 7 (.int x)).mpr ⟨7, by omega, rfl⟩)
  exact lv_iinc h.1 h.2.1 hd hl hq hv (by rw [← hL]; simp; try omega) rfl (fun ls' hl' => kk H locs ls' hM hS (asc_set1 (L := a0 :: a1 :: a2 :: a3 :: a4 :: a5 :: a6 :: some (.int x) :: t) (i := 7) (v := .int v) (fun j hj w hw => c1_use hp (by have e : j = 6 := (by omega); subst e; simpa using hw)) hl') hL)
theorem j_iload8 {pc : Nat} {a0 a1 a2 a3 a4 a5 a6 a7 : Option Value} {t : List (Option Value)} {x : Int32} (h : Cx X g own nm cc nL d RC RS ret) (hd : decode cc pc = .ok (.iload 8, 2)) (kk : J X g nL Q k n ad C (pc + 2) (a0 :: a1 :: a2 :: a3 :: a4 :: a5 :: a6 :: a7 :: some (.int x) :: t) (.int x :: st)) : J X g nL Q k n ad C pc (a0 :: a1 :: a2 :: a3 :: a4 :: a5 :: a6 :: a7 :: some (.int x) :: t) st := fun H locs ls hM hS hl hL => lv_iload h.1 h.2.1 hd (asc_get hl rfl) (kk H locs ls hM hS hl hL)
theorem j_lload8 {pc : Nat} {a0 a1 a2 a3 a4 a5 a6 a7 : Option Value} {t : List (Option Value)} {x : Int64} (h : Cx X g own nm cc nL d RC RS ret) (hd : decode cc pc = .ok (.lload 8, 2)) (kk : J X g nL Q k n ad C (pc + 2) (a0 :: a1 :: a2 :: a3 :: a4 :: a5 :: a6 :: a7 :: some (.long x) :: t) (.long x :: st)) : J X g nL Q k n ad C pc (a0 :: a1 :: a2 :: a3 :: a4 :: a5 :: a6 :: a7 :: some (.long x) :: t) st := fun H locs ls hM hS hl hL => lv_lload h.1 h.2.1 hd (asc_get hl rfl) (kk H locs ls hM hS hl hL)
theorem j_aload8 {pc : Nat} {a0 a1 a2 a3 a4 a5 a6 a7 : Option Value} {t : List (Option Value)} {x : Nat} (h : Cx X g own nm cc nL d RC RS ret) (hd : decode cc pc = .ok (.aload 8, 2)) (kk : J X g nL Q k n ad C (pc + 2) (a0 :: a1 :: a2 :: a3 :: a4 :: a5 :: a6 :: a7 :: some (.ref x) :: t) (.ref x :: st)) : J X g nL Q k n ad C pc (a0 :: a1 :: a2 :: a3 :: a4 :: a5 :: a6 :: a7 :: some (.ref x) :: t) st := fun H locs ls hM hS hl hL => lv_aload h.1 h.2.1 hd (asc_get hl rfl) (kk H locs ls hM hS hl hL)
theorem j_aload8N {pc : Nat} {a0 a1 a2 a3 a4 a5 a6 a7 : Option Value} {t : List (Option Value)} (h : Cx X g own nm cc nL d RC RS ret) (hd : decode cc pc = .ok (.aload 8, 2)) (kk : J X g nL Q k n ad C (pc + 2) (a0 :: a1 :: a2 :: a3 :: a4 :: a5 :: a6 :: a7 :: some .null :: t) (.null :: st)) : J X g nL Q k n ad C pc (a0 :: a1 :: a2 :: a3 :: a4 :: a5 :: a6 :: a7 :: some .null :: t) st := fun H locs ls hM hS hl hL => lv_aloadN h.1 h.2.1 hd (asc_get hl rfl) (kk H locs ls hM hS hl hL)
theorem j_istore8 {pc : Nat} {a0 a1 a2 a3 a4 a5 a6 a7 a8 : Option Value} {t : List (Option Value)} {x : Int32} (h : Cx X g own nm cc nL d RC RS ret) (hd : decode cc pc = .ok (.istore 8, 2)) (hp : c1 a7 = true) (kk : J X g nL Q k n ad C (pc + 2) (a0 :: a1 :: a2 :: a3 :: a4 :: a5 :: a6 :: a7 :: some (.int x) :: t) st) : J X g nL Q k n ad C pc (a0 :: a1 :: a2 :: a3 :: a4 :: a5 :: a6 :: a7 :: a8 :: t) (.int x :: st) := fun H locs ls hM hS hl hL => lv_istore h.1 h.2.1 hd hl (by rw [← hL]; simp; try omega) rfl (fun ls' hl' => kk H locs ls' hM hS (asc_set1 (L := a0 :: a1 :: a2 :: a3 :: a4 :: a5 :: a6 :: a7 :: a8 :: t) (i := 8) (v := .int x) (fun j hj w hw => c1_use hp (by have e : j = 7 := (by omega); subst e; simpa using hw)) hl') hL)
theorem j_astore8 {pc : Nat} {a0 a1 a2 a3 a4 a5 a6 a7 a8 : Option Value} {t : List (Option Value)} {x : Nat} (h : Cx X g own nm cc nL d RC RS ret) (hd : decode cc pc = .ok (.astore 8, 2)) (hp : c1 a7 = true) (kk : J X g nL Q k n ad C (pc + 2) (a0 :: a1 :: a2 :: a3 :: a4 :: a5 :: a6 :: a7 :: some (.ref x) :: t) st) : J X g nL Q k n ad C pc (a0 :: a1 :: a2 :: a3 :: a4 :: a5 :: a6 :: a7 :: a8 :: t) (.ref x :: st) := fun H locs ls hM hS hl hL => lv_astore h.1 h.2.1 hd hl (by rw [← hL]; simp; try omega) rfl (fun ls' hl' => kk H locs ls' hM hS (asc_set1 (L := a0 :: a1 :: a2 :: a3 :: a4 :: a5 :: a6 :: a7 :: a8 :: t) (i := 8) (v := .ref x) (fun j hj w hw => c1_use hp (by have e : j = 7 := (by omega); subst e; simpa using hw)) hl') hL)
theorem j_astore8N {pc : Nat} {a0 a1 a2 a3 a4 a5 a6 a7 a8 : Option Value} {t : List (Option Value)} (h : Cx X g own nm cc nL d RC RS ret) (hd : decode cc pc = .ok (.astore 8, 2)) (hp : c1 a7 = true) (kk : J X g nL Q k n ad C (pc + 2) (a0 :: a1 :: a2 :: a3 :: a4 :: a5 :: a6 :: a7 :: some (.null) :: t) st) : J X g nL Q k n ad C pc (a0 :: a1 :: a2 :: a3 :: a4 :: a5 :: a6 :: a7 :: a8 :: t) (.null :: st) := fun H locs ls hM hS hl hL => lv_astoreN h.1 h.2.1 hd hl (by rw [← hL]; simp; try omega) rfl (fun ls' hl' => kk H locs ls' hM hS (asc_set1 (L := a0 :: a1 :: a2 :: a3 :: a4 :: a5 :: a6 :: a7 :: a8 :: t) (i := 8) (v := .null) (fun j hj w hw => c1_use hp (by have e : j = 7 := (by omega); subst e; simpa using hw)) hl') hL)
theorem j_lstore8 {pc : Nat} {a0 a1 a2 a3 a4 a5 a6 a7 a8 a9 : Option Value} {t : List (Option Value)} {x : Int64} (h : Cx X g own nm cc nL d RC RS ret) (hd : decode cc pc = .ok (.lstore 8, 2)) (hp : c1 a7 = true) (kk : J X g nL Q k n ad C (pc + 2) (a0 :: a1 :: a2 :: a3 :: a4 :: a5 :: a6 :: a7 :: some (.long x) :: none :: t) st) : J X g nL Q k n ad C pc (a0 :: a1 :: a2 :: a3 :: a4 :: a5 :: a6 :: a7 :: a8 :: a9 :: t) (.long x :: st) := fun H locs ls hM hS hl hL => lv_lstore h.1 h.2.1 hd hl (by rw [← hL]; simp; try omega) rfl (fun ls' hl' => kk H locs ls' hM hS (asc_set2 (L := a0 :: a1 :: a2 :: a3 :: a4 :: a5 :: a6 :: a7 :: a8 :: a9 :: t) (i := 8) (v := .long x) (fun j hj w hw => c1_use hp (by have e : j = 7 := (by omega); subst e; simpa using hw)) hl') hL)
theorem j_iinc8 {pc : Nat} {a0 a1 a2 a3 a4 a5 a6 a7 : Option Value} {t : List (Option Value)} {x v : Int32} {z : Int} (h : Cx X g own nm cc nL d RC RS ret) (hd : decode cc pc = .ok (.iinc 8 z, 3)) (hp : c1 a7 = true) (hv : x + Int32.ofInt z = v) (kk : J X g nL Q k n ad C (pc + 3) (a0 :: a1 :: a2 :: a3 :: a4 :: a5 :: a6 :: a7 :: some (.int v) :: t) st) : J X g nL Q k n ad C pc (a0 :: a1 :: a2 :: a3 :: a4 :: a5 :: a6 :: a7 :: some (.int x) :: t) st := fun H locs ls hM hS hl hL => by
  obtain ⟨q, hq⟩ := List.getElem?_of_mem ((asc_mem (a0 :: a1 :: a2 :: a3 :: a4 :: a5 :: a6 :: a7 :: some (.int x) :: t) 0 8 (.int x)).mpr ⟨8, by omega, rfl⟩)
  exact lv_iinc h.1 h.2.1 hd hl hq hv (by rw [← hL]; simp; try omega) rfl (fun ls' hl' => kk H locs ls' hM hS (asc_set1 (L := a0 :: a1 :: a2 :: a3 :: a4 :: a5 :: a6 :: a7 :: some (.int x) :: t) (i := 8) (v := .int v) (fun j hj w hw => c1_use hp (by have e : j = 7 := (by omega); subst e; simpa using hw)) hl') hL)
theorem j_iload9 {pc : Nat} {a0 a1 a2 a3 a4 a5 a6 a7 a8 : Option Value} {t : List (Option Value)} {x : Int32} (h : Cx X g own nm cc nL d RC RS ret) (hd : decode cc pc = .ok (.iload 9, 2)) (kk : J X g nL Q k n ad C (pc + 2) (a0 :: a1 :: a2 :: a3 :: a4 :: a5 :: a6 :: a7 :: a8 :: some (.int x) :: t) (.int x :: st)) : J X g nL Q k n ad C pc (a0 :: a1 :: a2 :: a3 :: a4 :: a5 :: a6 :: a7 :: a8 :: some (.int x) :: t) st := fun H locs ls hM hS hl hL => lv_iload h.1 h.2.1 hd (asc_get hl rfl) (kk H locs ls hM hS hl hL)
theorem j_lload9 {pc : Nat} {a0 a1 a2 a3 a4 a5 a6 a7 a8 : Option Value} {t : List (Option Value)} {x : Int64} (h : Cx X g own nm cc nL d RC RS ret) (hd : decode cc pc = .ok (.lload 9, 2)) (kk : J X g nL Q k n ad C (pc + 2) (a0 :: a1 :: a2 :: a3 :: a4 :: a5 :: a6 :: a7 :: a8 :: some (.long x) :: t) (.long x :: st)) : J X g nL Q k n ad C pc (a0 :: a1 :: a2 :: a3 :: a4 :: a5 :: a6 :: a7 :: a8 :: some (.long x) :: t) st := fun H locs ls hM hS hl hL => lv_lload h.1 h.2.1 hd (asc_get hl rfl) (kk H locs ls hM hS hl hL)
theorem j_aload9 {pc : Nat} {a0 a1 a2 a3 a4 a5 a6 a7 a8 : Option Value} {t : List (Option Value)} {x : Nat} (h : Cx X g own nm cc nL d RC RS ret) (hd : decode cc pc = .ok (.aload 9, 2)) (kk : J X g nL Q k n ad C (pc + 2) (a0 :: a1 :: a2 :: a3 :: a4 :: a5 :: a6 :: a7 :: a8 :: some (.ref x) :: t) (.ref x :: st)) : J X g nL Q k n ad C pc (a0 :: a1 :: a2 :: a3 :: a4 :: a5 :: a6 :: a7 :: a8 :: some (.ref x) :: t) st := fun H locs ls hM hS hl hL => lv_aload h.1 h.2.1 hd (asc_get hl rfl) (kk H locs ls hM hS hl hL)
theorem j_aload9N {pc : Nat} {a0 a1 a2 a3 a4 a5 a6 a7 a8 : Option Value} {t : List (Option Value)} (h : Cx X g own nm cc nL d RC RS ret) (hd : decode cc pc = .ok (.aload 9, 2)) (kk : J X g nL Q k n ad C (pc + 2) (a0 :: a1 :: a2 :: a3 :: a4 :: a5 :: a6 :: a7 :: a8 :: some .null :: t) (.null :: st)) : J X g nL Q k n ad C pc (a0 :: a1 :: a2 :: a3 :: a4 :: a5 :: a6 :: a7 :: a8 :: some .null :: t) st := fun H locs ls hM hS hl hL => lv_aloadN h.1 h.2.1 hd (asc_get hl rfl) (kk H locs ls hM hS hl hL)
theorem j_istore9 {pc : Nat} {a0 a1 a2 a3 a4 a5 a6 a7 a8 a9 : Option Value} {t : List (Option Value)} {x : Int32} (h : Cx X g own nm cc nL d RC RS ret) (hd : decode cc pc = .ok (.istore 9, 2)) (hp : c1 a8 = true) (kk : J X g nL Q k n ad C (pc + 2) (a0 :: a1 :: a2 :: a3 :: a4 :: a5 :: a6 :: a7 :: a8 :: some (.int x) :: t) st) : J X g nL Q k n ad C pc (a0 :: a1 :: a2 :: a3 :: a4 :: a5 :: a6 :: a7 :: a8 :: a9 :: t) (.int x :: st) := fun H locs ls hM hS hl hL => lv_istore h.1 h.2.1 hd hl (by rw [← hL]; simp; try omega) rfl (fun ls' hl' => kk H locs ls' hM hS (asc_set1 (L := a0 :: a1 :: a2 :: a3 :: a4 :: a5 :: a6 :: a7 :: a8 :: a9 :: t) (i := 9) (v := .int x) (fun j hj w hw => c1_use hp (by have e : j = 8 := (by omega); subst e; simpa using hw)) hl') hL)
theorem j_astore9 {pc : Nat} {a0 a1 a2 a3 a4 a5 a6 a7 a8 a9 : Option Value} {t : List (Option Value)} {x : Nat} (h : Cx X g own nm cc nL d RC RS ret) (hd : decode cc pc = .ok (.astore 9, 2)) (hp : c1 a8 = true) (kk : J X g nL Q k n ad C (pc + 2) (a0 :: a1 :: a2 :: a3 :: a4 :: a5 :: a6 :: a7 :: a8 :: some (.ref x) :: t) st) : J X g nL Q k n ad C pc (a0 :: a1 :: a2 :: a3 :: a4 :: a5 :: a6 :: a7 :: a8 :: a9 :: t) (.ref x :: st) := fun H locs ls hM hS hl hL => lv_astore h.1 h.2.1 hd hl (by rw [← hL]; simp; try omega) rfl (fun ls' hl' => kk H locs ls' hM hS (asc_set1 (L := a0 :: a1 :: a2 :: a3 :: a4 :: a5 :: a6 :: a7 :: a8 :: a9 :: t) (i := 9) (v := .ref x) (fun j hj w hw => c1_use hp (by have e : j = 8 := (by omega); subst e; simpa using hw)) hl') hL)
theorem j_astore9N {pc : Nat} {a0 a1 a2 a3 a4 a5 a6 a7 a8 a9 : Option Value} {t : List (Option Value)} (h : Cx X g own nm cc nL d RC RS ret) (hd : decode cc pc = .ok (.astore 9, 2)) (hp : c1 a8 = true) (kk : J X g nL Q k n ad C (pc + 2) (a0 :: a1 :: a2 :: a3 :: a4 :: a5 :: a6 :: a7 :: a8 :: some (.null) :: t) st) : J X g nL Q k n ad C pc (a0 :: a1 :: a2 :: a3 :: a4 :: a5 :: a6 :: a7 :: a8 :: a9 :: t) (.null :: st) := fun H locs ls hM hS hl hL => lv_astoreN h.1 h.2.1 hd hl (by rw [← hL]; simp; try omega) rfl (fun ls' hl' => kk H locs ls' hM hS (asc_set1 (L := a0 :: a1 :: a2 :: a3 :: a4 :: a5 :: a6 :: a7 :: a8 :: a9 :: t) (i := 9) (v := .null) (fun j hj w hw => c1_use hp (by have e : j = 8 := (by omega); subst e; simpa using hw)) hl') hL)
theorem j_lstore9 {pc : Nat} {a0 a1 a2 a3 a4 a5 a6 a7 a8 a9 a10 : Option Value} {t : List (Option Value)} {x : Int64} (h : Cx X g own nm cc nL d RC RS ret) (hd : decode cc pc = .ok (.lstore 9, 2)) (hp : c1 a8 = true) (kk : J X g nL Q k n ad C (pc + 2) (a0 :: a1 :: a2 :: a3 :: a4 :: a5 :: a6 :: a7 :: a8 :: some (.long x) :: none :: t) st) : J X g nL Q k n ad C pc (a0 :: a1 :: a2 :: a3 :: a4 :: a5 :: a6 :: a7 :: a8 :: a9 :: a10 :: t) (.long x :: st) := fun H locs ls hM hS hl hL => lv_lstore h.1 h.2.1 hd hl (by rw [← hL]; simp; try omega) rfl (fun ls' hl' => kk H locs ls' hM hS (asc_set2 (L := a0 :: a1 :: a2 :: a3 :: a4 :: a5 :: a6 :: a7 :: a8 :: a9 :: a10 :: t) (i := 9) (v := .long x) (fun j hj w hw => c1_use hp (by have e : j = 8 := (by omega); subst e; simpa using hw)) hl') hL)
theorem j_iinc9 {pc : Nat} {a0 a1 a2 a3 a4 a5 a6 a7 a8 : Option Value} {t : List (Option Value)} {x v : Int32} {z : Int} (h : Cx X g own nm cc nL d RC RS ret) (hd : decode cc pc = .ok (.iinc 9 z, 3)) (hp : c1 a8 = true) (hv : x + Int32.ofInt z = v) (kk : J X g nL Q k n ad C (pc + 3) (a0 :: a1 :: a2 :: a3 :: a4 :: a5 :: a6 :: a7 :: a8 :: some (.int v) :: t) st) : J X g nL Q k n ad C pc (a0 :: a1 :: a2 :: a3 :: a4 :: a5 :: a6 :: a7 :: a8 :: some (.int x) :: t) st := fun H locs ls hM hS hl hL => by
  obtain ⟨q, hq⟩ := List.getElem?_of_mem ((asc_mem (a0 :: a1 :: a2 :: a3 :: a4 :: a5 :: a6 :: a7 :: a8 :: some (.int x) :: t) 0 9 (.int x)).mpr ⟨9, by omega, rfl⟩)
  exact lv_iinc h.1 h.2.1 hd hl hq hv (by rw [← hL]; simp; try omega) rfl (fun ls' hl' => kk H locs ls' hM hS (asc_set1 (L := a0 :: a1 :: a2 :: a3 :: a4 :: a5 :: a6 :: a7 :: a8 :: some (.int x) :: t) (i := 9) (v := .int v) (fun j hj w hw => c1_use hp (by have e : j = 8 := (by omega); subst e; simpa using hw)) hl') hL)
theorem j_iload10 {pc : Nat} {a0 a1 a2 a3 a4 a5 a6 a7 a8 a9 : Option Value} {t : List (Option Value)} {x : Int32} (h : Cx X g own nm cc nL d RC RS ret) (hd : decode cc pc = .ok (.iload 10, 2)) (kk : J X g nL Q k n ad C (pc + 2) (a0 :: a1 :: a2 :: a3 :: a4 :: a5 :: a6 :: a7 :: a8 :: a9 :: some (.int x) :: t) (.int x :: st)) : J X g nL Q k n ad C pc (a0 :: a1 :: a2 :: a3 :: a4 :: a5 :: a6 :: a7 :: a8 :: a9 :: some (.int x) :: t) st := fun H locs ls hM hS hl hL => lv_iload h.1 h.2.1 hd (asc_get hl rfl) (kk H locs ls hM hS hl hL)
theorem j_lload10 {pc : Nat} {a0 a1 a2 a3 a4 a5 a6 a7 a8 a9 : Option Value} {t : List (Option Value)} {x : Int64} (h : Cx X g own nm cc nL d RC RS ret) (hd : decode cc pc = .ok (.lload 10, 2)) (kk : J X g nL Q k n ad C (pc + 2) (a0 :: a1 :: a2 :: a3 :: a4 :: a5 :: a6 :: a7 :: a8 :: a9 :: some (.long x) :: t) (.long x :: st)) : J X g nL Q k n ad C pc (a0 :: a1 :: a2 :: a3 :: a4 :: a5 :: a6 :: a7 :: a8 :: a9 :: some (.long x) :: t) st := fun H locs ls hM hS hl hL => lv_lload h.1 h.2.1 hd (asc_get hl rfl) (kk H locs ls hM hS hl hL)
theorem j_aload10 {pc : Nat} {a0 a1 a2 a3 a4 a5 a6 a7 a8 a9 : Option Value} {t : List (Option Value)} {x : Nat} (h : Cx X g own nm cc nL d RC RS ret) (hd : decode cc pc = .ok (.aload 10, 2)) (kk : J X g nL Q k n ad C (pc + 2) (a0 :: a1 :: a2 :: a3 :: a4 :: a5 :: a6 :: a7 :: a8 :: a9 :: some (.ref x) :: t) (.ref x :: st)) : J X g nL Q k n ad C pc (a0 :: a1 :: a2 :: a3 :: a4 :: a5 :: a6 :: a7 :: a8 :: a9 :: some (.ref x) :: t) st := fun H locs ls hM hS hl hL => lv_aload h.1 h.2.1 hd (asc_get hl rfl) (kk H locs ls hM hS hl hL)
theorem j_aload10N {pc : Nat} {a0 a1 a2 a3 a4 a5 a6 a7 a8 a9 : Option Value} {t : List (Option Value)} (h : Cx X g own nm cc nL d RC RS ret) (hd : decode cc pc = .ok (.aload 10, 2)) (kk : J X g nL Q k n ad C (pc + 2) (a0 :: a1 :: a2 :: a3 :: a4 :: a5 :: a6 :: a7 :: a8 :: a9 :: some .null :: t) (.null :: st)) : J X g nL Q k n ad C pc (a0 :: a1 :: a2 :: a3 :: a4 :: a5 :: a6 :: a7 :: a8 :: a9 :: some .null :: t) st := fun H locs ls hM hS hl hL => lv_aloadN h.1 h.2.1 hd (asc_get hl rfl) (kk H locs ls hM hS hl hL)
theorem j_istore10 {pc : Nat} {a0 a1 a2 a3 a4 a5 a6 a7 a8 a9 a10 : Option Value} {t : List (Option Value)} {x : Int32} (h : Cx X g own nm cc nL d RC RS ret) (hd : decode cc pc = .ok (.istore 10, 2)) (hp : c1 a9 = true) (kk : J X g nL Q k n ad C (pc + 2) (a0 :: a1 :: a2 :: a3 :: a4 :: a5 :: a6 :: a7 :: a8 :: a9 :: some (.int x) :: t) st) : J X g nL Q k n ad C pc (a0 :: a1 :: a2 :: a3 :: a4 :: a5 :: a6 :: a7 :: a8 :: a9 :: a10 :: t) (.int x :: st) := fun H locs ls hM hS hl hL => lv_istore h.1 h.2.1 hd hl (by rw [← hL]; simp; try omega) rfl (fun ls' hl' => kk H locs ls' hM hS (asc_set1 (L := a0 :: a1 :: a2 :: a3 :: a4 :: a5 :: a6 :: a7 :: a8 :: a9 :: a10 :: t) (i := 10) (v := .int x) (fun j hj w hw => c1_use hp (by have e : j = 9 := (by omega); subst e; simpa using hw)) hl') hL)
theorem j_astore10 {pc : Nat} {a0 a1 a2 a3 a4 a5 a6 a7 a8 a9 a10 : Option Value} {t : List (Option Value)} {x : Nat} (h : Cx X g own nm cc nL d RC RS ret) (hd : decode cc pc = .ok (.astore 10, 2)) (hp : c1 a9 = true) (kk : J X g nL Q k n ad C (pc + 2) (a0 :: a1 :: a2 :: a3 :: a4 :: a5 :: a6 :: a7 :: a8 :: a9 :: some (.ref x) :: t) st) : J X g nL Q k n ad C pc (a0 :: a1 :: a2 :: a3 :: a4 :: a5 :: a6 :: a7 :: a8 :: a9 :: a10 :: t) (.ref x :: st) := fun H locs ls hM hS hl hL => lv_astore h.1 h.2.1 hd hl (by rw [← hL]; simp; try omega) rfl (fun ls' hl' => kk H locs ls' hM hS (asc_set1 (L := a0 :: a1 :: a2 :: a3 :: a4 :: a5 :: a6 :: a7 :: a8 :: a9 :: a10 :: t) (i := 10) (v := .ref x) (fun j hj w hw => c1_use hp (by have e : j = 9 := (by omega); subst e; simpa using hw)) hl') hL)
theorem j_astore10N {pc : Nat} {a0 a1 a2 a3 a4 a5 a6 a7 a8 a9 a10 : Option Value} {t : List (Option Value)} (h : Cx X g own nm cc nL d RC RS ret) (hd : decode cc pc = .ok (.astore 10, 2)) (hp : c1 a9 = true) (kk : J X g nL Q k n ad C (pc + 2) (a0 :: a1 :: a2 :: a3 :: a4 :: a5 :: a6 :: a7 :: a8 :: a9 :: some (.null) :: t) st) : J X g nL Q k n ad C pc (a0 :: a1 :: a2 :: a3 :: a4 :: a5 :: a6 :: a7 :: a8 :: a9 :: a10 :: t) (.null :: st) := fun H locs ls hM hS hl hL => lv_astoreN h.1 h.2.1 hd hl (by rw [← hL]; simp; try omega) rfl (fun ls' hl' => kk H locs ls' hM hS (asc_set1 (L := a0 :: a1 :: a2 :: a3 :: a4 :: a5 :: a6 :: a7 :: a8 :: a9 :: a10 :: t) (i := 10) (v := .null) (fun j hj w hw => c1_use hp (by have e : j = 9 := (by omega); subst e; simpa using hw)) hl') hL)
theorem j_lstore10 {pc : Nat} {a0 a1 a2 a3 a4 a5 a6 a7 a8 a9 a10 a11 : Option Value} {t : List (Option Value)} {x : Int64} (h : Cx X g own nm cc nL d RC RS ret) (hd : decode cc pc = .ok (.lstore 10, 2)) (hp : c1 a9 = true) (kk : J X g nL Q k n ad C (pc + 2) (a0 :: a1 :: a2 :: a3 :: a4 :: a5 :: a6 :: a7 :: a8 :: a9 :: some (.long x) :: none :: t) st) : J X g nL Q k n ad C pc (a0 :: a1 :: a2 :: a3 :: a4 :: a5 :: a6 :: a7 :: a8 :: a9 :: a10 :: a11 :: t) (.long x :: st) := fun H locs ls hM hS hl hL => lv_lstore h.1 h.2.1 hd hl (by rw [← hL]; simp; try omega) rfl (fun ls' hl' => kk H locs ls' hM hS (asc_set2 (L := a0 :: a1 :: a2 :: a3 :: a4 :: a5 :: a6 :: a7 :: a8 :: a9 :: a10 :: a11 :: t) (i := 10) (v := .long x) (fun j hj w hw => c1_use hp (by have e : j = 9 := (by omega); subst e; simpa using hw)) hl') hL)
theorem j_iinc10 {pc : Nat} {a0 a1 a2 a3 a4 a5 a6 a7 a8 a9 : Option Value} {t : List (Option Value)} {x v : Int32} {z : Int} (h : Cx X g own nm cc nL d RC RS ret) (hd : decode cc pc = .ok (.iinc 10 z, 3)) (hp : c1 a9 = true) (hv : x + Int32.ofInt z = v) (kk : J X g nL Q k n ad C (pc + 3) (a0 :: a1 :: a2 :: a3 :: a4 :: a5 :: a6 :: a7 :: a8 :: a9 :: some (.int v) :: t) st) : J X g nL Q k n ad C pc (a0 :: a1 :: a2 :: a3 :: a4 :: a5 :: a6 :: a7 :: a8 :: a9 :: some (.int x) :: t) st := fun H locs ls hM hS hl hL => by
  obtain ⟨q, hq⟩ := List.getElem?_of_mem ((asc_mem (a0 :: a1 :: a2 :: a3 :: a4 :: a5 :: a6 :: a7 :: a8 :: a9 :: some (.int x) :: t) 0 10 (.int x)).mpr ⟨10, by omega, rfl⟩)
  exact lv_iinc h.1 h.2.1 hd hl hq hv (by rw [← hL]; simp; try omega) rfl (fun ls' hl' => kk H locs ls' hM hS (asc_set1 (L := a0 :: a1 :: a2 :: a3 :: a4 :: a5 :: a6 :: a7 :: a8 :: a9 :: some (.int x) :: t) (i := 10) (v := .int v) (fun j hj w hw => c1_use hp (by have e : j = 9 := (by omega); subst e; simpa using hw)) hl') hL)
theorem j_iload11 {pc : Nat} {a0 a1 a2 a3 a4 a5 a6 a7 a8 a9 a10 : Option Value} {t : List (Option Value)} {x : Int32} (h : Cx X g own nm cc nL d RC RS ret) (hd : decode cc pc = .ok (.iload 11, 2)) (kk : J X g nL Q k n ad C (pc + 2) (a0 :: a1 :: a2 :: a3 :: a4 :: a5 :: a6 :: a7 :: a8 :: a9 :: a10 :: some (.int x) :: t) (.int x :: st)) : J X g nL Q k n ad C pc (a0 :: a1 :: a2 :: a3 :: a4 :: a5 :: a6 :: a7 :: a8 :: a9 :: a10 :: some (.int x) :: t) st := fun H locs ls hM hS hl hL => lv_iload h.1 h.2.1 hd (asc_get hl rfl) (kk H locs ls hM hS hl hL)
theorem j_lload11 {pc : Nat} {a0 a1 a2 a3 a4 a5 a6 a7 a8 a9 a10 : Option Value} {t : List (Option Value)} {x : Int64} (h : Cx X g own nm cc nL d RC RS ret) (hd : decode cc pc = .ok (.lload 11, 2)) (kk : J X g nL Q k n ad C (pc + 2) (a0 :: a1 :: a2 :: a3 :: a4 :: a5 :: a6 :: a7 :: a8 :: a9 :: a10 :: some (.long x) :: t) (.long x :: st)) : J X g nL Q k n ad C pc (a0 :: a1 :: a2 :: a3 :: a4 :: a5 :: a6 :: a7 :: a8 :: a9 :: a10 :: some (.long x) :: t) st := fun H locs ls hM hS hl hL => lv_lload h.1 h.2.1 hd (asc_get hl rfl) (kk H locs ls hM hS hl hL)
theorem j_aload11 {pc : Nat} {a0 a1 a2 a3 a4 a5 a6 a7 a8 a9 a10 : Option Value} {t : List (Option Value)} {x : Nat} (h : Cx X g own nm cc nL d RC RS ret) (hd : decode cc pc = .ok (.aload 11, 2)) (kk : J X g nL Q k n ad C (pc + 2) (a0 :: a1 :: a2 :: a3 :: a4 :: a5 :: a6 :: a7 :: a8 :: a9 :: a10 :: some (.ref x) :: t) (.ref x :: st)) : J X g nL Q k n ad C pc (a0 :: a1 :: a2 :: a3 :: a4 :: a5 :: a6 :: a7 :: a8 :: a9 :: a10 :: some (.ref x) :: t) st := fun H locs ls hM hS hl hL => lv_aload h.1 h.2.1 hd (asc_get hl rfl) (kk H locs ls hM hS hl hL)
theorem j_aload11N {pc : Nat} {a0 a1 a2 a3 a4 a5 a6 a7 a8 a9 a10 : Option Value} {t : List (Option Value)} (h : Cx X g own nm cc nL d RC RS ret) (hd : decode cc pc = .ok (.aload 11, 2)) (kk : J X g nL Q k n ad C (pc + 2) (a0 :: a1 :: a2 :: a3 :: a4 :: a5 :: a6 :: a7 :: a8 :: a9 :: a10 :: some .null :: t) (.null :: st)) : J X g nL Q k n ad C pc (a0 :: a1 :: a2 :: a3 :: a4 :: a5 :: a6 :: a7 :: a8 :: a9 :: a10 :: some .null :: t) st := fun H locs ls hM hS hl hL => lv_aloadN h.1 h.2.1 hd (asc_get hl rfl) (kk H locs ls hM hS hl hL)
theorem j_istore11 {pc : Nat} {a0 a1 a2 a3 a4 a5 a6 a7 a8 a9 a10 a11 : Option Value} {t : List (Option Value)} {x : Int32} (h : Cx X g own nm cc nL d RC RS ret) (hd : decode cc pc = .ok (.istore 11, 2)) (hp : c1 a10 = true) (kk : J X g nL Q k n ad C (pc + 2) (a0 :: a1 :: a2 :: a3 :: a4 :: a5 :: a6 :: a7 :: a8 :: a9 :: a10 :: some (.int x) :: t) st) : J X g nL Q k n ad C pc (a0 :: a1 :: a2 :: a3 :: a4 :: a5 :: a6 :: a7 :: a8 :: a9 :: a10 :: a11 :: t) (.int x :: st) := fun H locs ls hM hS hl hL => lv_istore h.1 h.2.1 hd hl (by rw [← hL]; simp; try omega) rfl (fun ls' hl' => kk H locs ls' hM hS (asc_set1 (L := a0 :: a1 :: a2 :: a3 :: a4 :: a5 :: a6 :: a7 :: a8 :: a9 :: a10 :: a11 :: t) (i := 11) (v := .int x) (fun j hj w hw => c1_use hp (by have e : j = 10 := (by omega); subst e; simpa using hw)) hl') hL)
theorem j_astore11 {pc : Nat} {a0 a1 a2 a3 a4 a5 a6 a7 a8 a9 a10 a11 : Option Value} {t : List (Option Value)} {x : Nat} (h : Cx X g own nm cc nL d RC RS ret) (hd : decode cc pc = .ok (.astore 11, 2)) (hp : c1 a10 = true) (kk : J X g nL Q k n ad C (pc + 2) (a0 :: a1 :: a2 :: a3 :: a4 :: a5 :: a6 :: a7 :: a8 :: a9 :: a10 :: some (.ref x) :: t) st) : J X g nL Q k n ad C pc (a0 :: a1 :: a2 :: a3 :: a4 :: a5 :: a6 :: a7 :: a8 :: a9 :: a10 :: a11 :: t) (.ref x :: st) := fun H locs ls hM hS hl hL => lv_astore h.1 h.2.1 hd hl (by rw [← hL]; simp; try omega) rfl (fun ls' hl' => kk H locs ls' hM hS (asc_set1 (L := a0 :: a1 :: a2 :: a3 :: a4 :: a5 :: a6 :: a7 :: a8 :: a9 :: a10 :: a11 :: t) (i := 11) (v := .ref x) (fun j hj w hw => c1_use hp (by have e : j = 10 := (by omega); subst e; simpa using hw)) hl') hL)
theorem j_astore11N {pc : Nat} {a0 a1 a2 a3 a4 a5 a6 a7 a8 a9 a10 a11 : Option Value} {t : List (Option Value)} (h : Cx X g own nm cc nL d RC RS ret) (hd : decode cc pc = .ok (.astore 11, 2)) (hp : c1 a10 = true) (kk : J X g nL Q k n ad C (pc + 2) (a0 :: a1 :: a2 :: a3 :: a4 :: a5 :: a6 :: a7 :: a8 :: a9 :: a10 :: some (.null) :: t) st) : J X g nL Q k n ad C pc (a0 :: a1 :: a2 :: a3 :: a4 :: a5 :: a6 :: a7 :: a8 :: a9 :: a10 :: a11 :: t) (.null :: st) := fun H locs ls hM hS hl hL => lv_astoreN h.1 h.2.1 hd hl (by rw [← hL]; simp; try omega) rfl (fun ls' hl' => kk H locs ls' hM hS (asc_set1 (L := a0 :: a1 :: a2 :: a3 :: a4 :: a5 :: a6 :: a7 :: a8 :: a9 :: a10 :: a11 :: t) (i := 11) (v := .null) (fun j hj w hw => c1_use hp (by have e : j = 10 := (by omega); subst e; simpa using hw)) hl') hL)
theorem j_lstore11 {pc : Nat} {a0 a1 a2 a3 a4 a5 a6 a7 a8 a9 a10 a11 a12 : Option Value} {t : List (Option Value)} {x : Int64} (h : Cx X g own nm cc nL d RC RS ret) (hd : decode cc pc = .ok (.lstore 11, 2)) (hp : c1 a10 = true) (kk : J X g nL Q k n ad C (pc + 2) (a0 :: a1 :: a2 :: a3 :: a4 :: a5 :: a6 :: a7 :: a8 :: a9 :: a10 :: some (.long x) :: none :: t) st) : J X g nL Q k n ad C pc (a0 :: a1 :: a2 :: a3 :: a4 :: a5 :: a6 :: a7 :: a8 :: a9 :: a10 :: a11 :: a12 :: t) (.long x :: st) := fun H locs ls hM hS hl hL => lv_lstore h.1 h.2.1 hd hl (by rw [← hL]; simp; try omega) rfl (fun ls' hl' => kk H locs ls' hM hS (asc_set2 (L := a0 :: a1 :: a2 :: a3 :: a4 :: a5 :: a6 :: a7 :: a8 :: a9 :: a10 :: a11 :: a12 :: t) (i := 11) (v := .long x) (fun j hj w hw => c1_use hp (by have e : j = 10 := (by omega); subst e; simpa using hw)) hl') hL)
theorem j_iinc11 {pc : Nat} {a0 a1 a2 a3 a4 a5 a6 a7 a8 a9 a10 : Option Value} {t : List (Option Value)} {x v : Int32} {z : Int} (h : Cx X g own nm cc nL d RC RS ret) (hd : decode cc pc = .ok (.iinc 11 z, 3)) (hp : c1 a10 = true) (hv : x + Int32.ofInt z = v) (kk : J X g nL Q k n ad C (pc + 3) (a0 :: a1 :: a2 :: a3 :: a4 :: a5 :: a6 :: a7 :: a8 :: a9 :: a10 :: some (.int v) :: t) st) : J X g nL Q k n ad C pc (a0 :: a1 :: a2 :: a3 :: a4 :: a5 :: a6 :: a7 :: a8 :: a9 :: a10 :: some (.int x) :: t) st := fun H locs ls hM hS hl hL => by
  obtain ⟨q, hq⟩ := List.getElem?_of_mem ((asc_mem (a0 :: a1 :: a2 :: a3 :: a4 :: a5 :: a6 :: a7 :: a8 :: a9 :: a10 :: some (.int x) :: t) 0 11 (.int x)).mpr ⟨11, by omega, rfl⟩)
  exact lv_iinc h.1 h.2.1 hd hl hq hv (by rw [← hL]; simp; try omega) rfl (fun ls' hl' => kk H locs ls' hM hS (asc_set1 (L := a0 :: a1 :: a2 :: a3 :: a4 :: a5 :: a6 :: a7 :: a8 :: a9 :: a10 :: some (.int x) :: t) (i := 11) (v := .int v) (fun j hj w hw => c1_use hp (by have e : j = 10 := (by omega); subst e; simpa using hw)) hl') hL)
theorem j_iload12 {pc : Nat} {a0 a1 a2 a3 a4 a5 a6 a7 a8 a9 a10 a11 : Option Value} {t : List (Option Value)} {x : Int32} (h : Cx X g own nm cc nL d RC RS ret) (hd : decode cc pc = .ok (.iload 12, 2)) (kk : J X g nL Q k n ad C (pc + 2) (a0 :: a1 :: a2 :: a3 :: a4 :: a5 :: a6 :: a7 :: a8 :: a9 :: a10 :: a11 :: some (.int x) :: t) (.int x :: st)) : J X g nL Q k n ad C pc (a0 :: a1 :: a2 :: a3 :: a4 :: a5 :: a6 :: a7 :: a8 :: a9 :: a10 :: a11 :: some (.int x) :: t) st := fun H locs ls hM hS hl hL => lv_iload h.1 h.2.1 hd (asc_get hl rfl) (kk H locs ls hM hS hl hL)
theorem j_lload12 {pc : Nat} {a0 a1 a2 a3 a4 a5 a6 a7 a8 a9 a10 a11 : Option Value} {t : List (Option Value)} {x : Int64} (h : Cx X g own nm cc nL d RC RS ret) (hd : decode cc pc = .ok (.lload 12, 2)) (kk : J X g nL Q k n ad C (pc + 2) (a0 :: a1 :: a2 :: a3 :: a4 :: a5 :: a6 :: a7 :: a8 :: a9 :: a10 :: a11 :: some (.long x) :: t) (.long x :: st)) : J X g nL Q k n ad C pc (a0 :: a1 :: a2 :: a3 :: a4 :: a5 :: a6 :: a7 :: a8 :: a9 :: a10 :: a11 :: some (.long x) :: t) st := fun H locs ls hM hS hl hL => lv_lload h.1 h.2.1 hd (asc_get hl rfl) (kk H locs ls hM hS hl hL)
theorem j_aload12 {pc : Nat} {a0 a1 a2 a3 a4 a5 a6 a7 a8 a9 a10 a11 : Option Value} {t : List (Option Value)} {x : Nat} (h : Cx X g own nm cc nL d RC RS ret) (hd : decode cc pc = .ok (.aload 12, 2)) (kk : J X g nL Q k n ad C (pc + 2) (a0 :: a1 :: a2 :: a3 :: a4 :: a5 :: a6 :: a7 :: a8 :: a9 :: a10 :: a11 :: some (.ref x) :: t) (.ref x :: st)) : J X g nL Q k n ad C pc (a0 :: a1 :: a2 :: a3 :: a4 :: a5 :: a6 :: a7 :: a8 :: a9 :: a10 :: a11 :: some (.ref x) :: t) st := fun H locs ls hM hS hl hL => lv_aload h.1 h.2.1 hd (asc_get hl rfl) (kk H locs ls hM hS hl hL)
theorem j_aload12N {pc : Nat} {a0 a1 a2 a3 a4 a5 a6 a7 a8 a9 a10 a11 : Option Value} {t : List (Option Value)} (h : Cx X g own nm cc nL d RC RS ret) (hd : decode cc pc = .ok (.aload 12, 2)) (kk : J X g nL Q k n ad C (pc + 2) (a0 :: a1 :: a2 :: a3 :: a4 :: a5 :: a6 :: a7 :: a8 :: a9 :: a10 :: a11 :: some .null :: t) (.null :: st)) : J X g nL Q k n ad C pc (a0 :: a1 :: a2 :: a3 :: a4 :: a5 :: a6 :: a7 :: a8 :: a9 :: a10 :: a11 :: some .null :: t) st := fun H locs ls hM hS hl hL => lv_aloadN h.1 h.2.1 hd (asc_get hl rfl) (kk H locs ls hM hS hl hL)
theorem j_istore12 {pc : Nat} {a0 a1 a2 a3 a4 a5 a6 a7 a8 a9 a10 a11 a12 : Option Value} {t : List (Option Value)} {x : Int32} (h : Cx X g own nm cc nL d RC RS ret) (hd : decode cc pc = .ok (.istore 12, 2)) (hp : c1 a11 = true) (kk : J X g nL Q k n ad C (pc + 2) (a0 :: a1 :: a2 :: a3 :: a4 :: a5 :: a6 :: a7 :: a8 :: a9 :: a10 :: a11 :: some (.int x) :: t) st) : J X g nL Q k n ad C pc (a0 :: a1 :: a2 :: a3 :: a4 :: a5 :: a6 :: a7 :: a8 :: a9 :: a10 :: a11 :: a12 :: t) (.int x :: st) := fun H locs ls hM hS hl hL => lv_istore h.1 h.2.1 hd hl (by rw [← hL]; simp; try omega) rfl (fun ls' hl' => kk H locs ls' hM hS (asc_set1 (L := a0 :: a1 :: a2 :: a3 :: a4 :: a5 :: a6 :: a7 :: a8 :: a9 :: a10 :: a11 :: a12 :: t) (i := 12) (v := .int x) (fun j hj w hw => c1_use hp (by have e : j = 11 := (by omega); subst e; simpa using hw)) hl') hL)
theorem j_astore12 {pc : Nat} {a0 a1 a2 a3 a4 a5 a6 a7 a8 a9 a10 a11 a12 : Option Value} {t : List (Option Value)} {x : Nat} (h : Cx X g own nm cc nL d RC RS ret) (hd : decode cc pc = .ok (.astore 12, 2)) (hp : c1 a11 = true) (kk : J X g nL Q k n ad C (pc + 2) (a0 :: a1 :: a2 :: a3 :: a4 :: a5 :: a6 :: a7 :: a8 :: a9 :: a10 :: a11 :: some (.ref x) :: t) st) : J X g nL Q k n ad C pc (a0 :: a1 :: a2 :: a3 :: a4 :: a5 :: a6 :: a7 :: a8 :: a9 :: a10 :: a11 :: a12 :: t) (.ref x :: st) := fun H locs ls hM hS hl hL => lv_astore h.1 h.2.1 hd hl (by rw [← hL]; simp; try omega) rfl (fun ls' hl' => kk H locs ls' hM hS (asc_set1 (L := a0 :: a1 :: a2 :: a3 :: a4 :: a5 :: a6 :: a7 :: a8 :: a9 :: a10 :: a11 :: a12 :: t) (i := 12) (v := .ref x) (fun j hj w hw => c1_use hp (by have e : j = 11 := (by omega); subst e; simpa using hw)) hl') hL)
theorem j_astore12N {pc : Nat} {a0 a1 a2 a3 a4 a5 a6 a7 a8 a9 a10 a11 a12 : Option Value} {t : List (Option Value)} (h : Cx X g own nm cc nL d RC RS ret) (hd : decode cc pc = .ok (.astore 12, 2)) (hp : c1 a11 = true) (kk : J X g nL Q k n ad C (pc + 2) (a0 :: a1 :: a2 :: a3 :: a4 :: a5 :: a6 :: a7 :: a8 :: a9 :: a10 :: a11 :: some (.null) :: t) st) : J X g nL Q k n ad C pc (a0 :: a1 :: a2 :: a3 :: a4 :: a5 :: a6 :: a7 :: a8 :: a9 :: a10 :: a11 :: a12 :: t) (.null :: st) := fun H locs ls hM hS hl hL => lv_astoreN h.1 h.2.1 hd hl (by rw [← hL]; simp; try omega) rfl (fun ls' hl' => kk H locs ls' hM hS (asc_set1 (L := a0 :: a1 :: a2 :: a3 :: a4 :: a5 :: a6 :: a7 :: a8 :: a9 :: a10 :: a11 :: a12 :: t) (i := 12) (v := .null) (fun j hj w hw => c1_use hp (by have e : j = 11 := (by omega); subst e; simpa using hw)) hl') hL)
theorem j_lstore12 {pc : Nat} {a0 a1 a2 a3 a4 a5 a6 a7 a8 a9 a10 a11 a12 a13 : Option Value} {t : List (Option Value)} {x : Int64} (h : Cx X g own nm cc nL d RC RS ret) (hd : decode cc pc = .ok (.lstore 12, 2)) (hp : c1 a11 = true) (kk : J X g nL Q k n ad C (pc + 2) (a0 :: a1 :: a2 :: a3 :: a4 :: a5 :: a6 :: a7 :: a8 :: a9 :: a10 :: a11 :: some (.long x) :: none :: t) st) : J X g nL Q k n ad C pc (a0 :: a1 :: a2 :: a3 :: a4 :: a5 :: a6 :: a7 :: a8 :: a9 :: a10 :: a11 :: a12 :: a13 :: t) (.long x :: st) := fun H locs ls hM hS hl hL => lv_lstore h.1 h.2.1 hd hl (by rw [← hL]; simp; try omega) rfl (fun ls' hl' => kk H locs ls' hM hS (asc_set2 (L := a0 :: a1 :: a2 :: a3 :: a4 :: a5 :: a6 :: a7 :: a8 :: a9 :: a10 :: a11 :: a12 :: a13 :: t) (i := 12) (v := .long x) (fun j hj w hw => c1_use hp (by have e : j = 11 := (by omega); subst e; simpa using hw)) hl') hL)
theorem j_iinc12 {pc : Nat} {a0 a1 a2 a3 a4 a5 a6 a7 a8 a9 a10 a11 : Option Value} {t : List (Option Value)} {x v : Int32} {z : Int} (h : Cx X g own nm cc nL d RC RS ret) (hd : decode cc pc = .ok (.iinc 12 z, 3)) (hp : c1 a11 = true) (hv : x + Int32.ofInt z = v) (kk : J X g nL Q k n ad C (pc + 3) (a0 :: a1 :: a2 :: a3 :: a4 :: a5 :: a6 :: a7 :: a8 :: a9 :: a10 :: a11 :: some (.int v) :: t) st) : J X g nL Q k n ad C pc (a0 :: a1 :: a2 :: a3 :: a4 :: a5 :: a6 :: a7 :: a8 :: a9 :: a10 :: a11 :: some (.int x) :: t) st := fun H locs ls hM hS hl hL => by
  obtain ⟨q, hq⟩ := List.getElem?_of_mem ((asc_mem (a0 :: a1 :: a2 :: a3 :: a4 :: a5 :: a6 :: a7 :: a8 :: a9 :: a10 :: a11 :: some (.int x) :: t) 0 12 (.int x)).mpr ⟨12, by omega, rfl⟩)
  exact lv_iinc h.1 h.2.1 hd hl hq hv (by rw [← hL]; simp; try omega) rfl (fun ls' hl' => kk H locs ls' hM hS (asc_set1 (L := a0 :: a1 :: a2 :: a3 :: a4 :: a5 :: a6 :: a7 :: a8 :: a9 :: a10 :: a11 :: some (.int x) :: t) (i := 12) (v := .int v) (fun j hj w hw => c1_use hp (by have e : j = 11 := (by omega); subst e; simpa using hw)) hl') hL)
theorem j_iload13 {pc : Nat} {a0 a1 a2 a3 a4 a5 a6 a7 a8 a9 a10 a11 a12 : Option Value} {t : List (Option Value)} {x : Int32} (h : Cx X g own nm cc nL d RC RS ret) (hd : decode cc pc = .ok (.iload 13, 2)) (kk : J X g nL Q k n ad C (pc + 2) (a0 :: a1 :: a2 :: a3 :: a4 :: a5 :: a6 :: a7 :: a8 :: a9 :: a10 :: a11 :: a12 :: some (.int x) :: t) (.int x :: st)) : J X g nL Q k n ad C pc (a0 :: a1 :: a2 :: a3 :: a4 :: a5 :: a6 :: a7 :: a8 :: a9 :: a10 :: a11 :: a12 :: some (.int x) :: t) st := fun H locs ls hM hS hl hL => lv_iload h.1 h.2.1 hd (asc_get hl rfl) (kk H locs ls hM hS hl hL)
theorem j_lload13 {pc : Nat} {a0 a1 a2 a3 a4 a5 a6 a7 a8 a9 a10 a11 a12 : Option Value} {t : List (Option Value)} {x : Int64} (h : Cx X g own nm cc nL d RC RS ret) (hd : decode cc pc = .ok (.lload 13, 2)) (kk : J X g nL Q k n ad C (pc + 2) (a0 :: a1 :: a2 :: a3 :: a4 :: a5 :: a6 :: a7 :: a8 :: a9 :: a10 :: a11 :: a12 :: some (.long x) :: t) (.long x :: st)) : J X g nL Q k n ad C pc (a0 :: a1 :: a2 :: a3 :: a4 :: a5 :: a6 :: a7 :: a8 :: a9 :: a10 :: a11 :: a12 :: some (.long x) :: t) st := fun H locs ls hM hS hl hL => lv_lload h.1 h.2.1 hd (asc_get hl rfl) (kk H locs ls hM hS hl hL)
theorem j_aload13 {pc : Nat} {a0 a1 a2 a3 a4 a5 a6 a7 a8 a9 a10 a11 a12 : Option Value} {t : List (Option Value)} {x : Nat} (h : Cx X g own nm cc nL d RC RS ret) (hd : decode cc pc = .ok (.aload 13, 2)) (kk : J X g nL Q k n ad C (pc + 2) (a0 :: a1 :: a2 :: a3 :: a4 :: a5 :: a6 :: a7 :: a8 :: a9 :: a10 :: a11 :: a12 :: some (.ref x) :: t) (.ref x :: st)) : J X g nL Q k n ad C pc (a0 :: a1 :: a2 :: a3 :: a4 :: a5 :: a6 :: a7 :: a8 :: a9 :: a10 :: a11 :: a12 :: some (.ref x) :: t) st := fun H locs ls hM hS hl hL => lv_aload h.1 h.2.1 hd (asc_get hl rfl) (kk H locs ls hM hS hl hL)
theorem j_aload13N {pc : Nat} {a0 a1 a2 a3 a4 a5 a6 a7 a8 a9 a10 a11 a12 : Option Value} {t : List (Option Value)} (h : Cx X g own nm cc nL d RC RS ret) (hd : decode cc pc = .ok (.aload 13, 2)) (kk : J X g nL Q k n ad C (pc + 2) (a0 :: a1 :: a2 :: a3 :: a4 :: a5 :: a6 :: a7 :: a8 :: a9 :: a10 :: a11 :: a12 :: some .null :: t) (.null :: st)) : J X g nL Q k n ad C pc (a0 :: a1 :: a2 :: a3 :: a4 :: a5 :: a6 :: a7 :: a8 :: a9 :: a10 :: a11 :: a12 :: some .null :: t) st := fun H locs ls hM hS hl hL => lv_aloadN h.1 h.2.1 hd (asc_get hl rfl) (kk H locs ls hM hS hl hL)
theorem j_istore13 {pc : Nat} {a0 a1 a2 a3 a4 a5 a6 a7 a8 a9 a10 a11 a12 a13 : Option Value} {t : List (Option Value)} {x : Int32} (h : Cx X g own nm cc nL d RC RS ret) (hd : decode cc pc = .ok (.istore 13, 2)) (hp : c1 a12 = true) (kk : J X g nL Q k n ad C (pc + 2) (a0 :: a1 :: a2 :: a3 :: a4 :: a5 :: a6 :: a7 :: a8 :: a9 :: a10 :: a11 :: a12 :: some (.int x) :: t) st) : J X g nL Q k n ad C pc (a0 :: a1 :: a2 :: a3 :: a4 :: a5 :: a6 :: a7 :: a8 :: a9 :: a10 :: a11 :: a12 :: a13 :: t) (.int x :: st) := fun H locs ls hM hS hl hL => lv_istore h.1 h.2.1 hd hl (by rw [← hL]; simp; try omega) rfl (fun ls' hl' => kk H locs ls' hM hS (asc_set1 (L := a0 :: a1 :: a2 :: a3 :: a4 :: a5 :: a6 :: a7 :: a8 :: a9 :: a10 :: a11 :: a12 :: a13 :: t) (i := 13) (v := .int x) (fun j hj w hw => c1_use hp (by have e : j = 12 := (by omega); subst e; simpa using hw)) hl') hL)
theorem j_astore13 {pc : Nat} {a0 a1 a2 a3 a4 a5 a6 a7 a8 a9 a10 a11 a12 a13 : Option Value} {t : List (Option Value)} {x : Nat} (h : Cx X g own nm cc nL d RC RS ret) (hd : decode cc pc = .ok (.astore 13, 2)) (hp : c1 a12 = true) (kk : J X g nL Q k n ad C (pc + 2) (a0 :: a1 :: a2 :: a3 :: a4 :: a5 :: a6 :: a7 :: a8 :: a9 :: a10 :: a11 :: a12 :: some (.ref x) :: t) st) : J X g nL Q k n ad C pc (a0 :: a1 :: a2 :: a3 :: a4 :: a5 :: a6 :: a7 :: a8 :: a9 :: a10 :: a11 :: a12 :: a13 :: t) (.ref x :: st) := fun H locs ls hM hS hl hL => lv_astore h.1 h.2.1 hd hl (by rw [← hL]; simp; try omega) rfl (fun ls' hl' => kk H locs ls' hM hS (asc_set1 (L := a0 :: a1 :: a2 :: a3 :: a4 :: a5 :: a6 :: a7 :: a8 :: a9 :: a10 :: a11 :: a12 :: a13 :: t) (i := 13) (v := .ref x) (fun j hj w hw => c1_use hp (by have e : j = 12 := (by omega); subst e; simpa using hw)) hl') hL)
theorem j_astore13N {pc : Nat} {a0 a1 a2 a3 a4 a5 a6 a7 a8 a9 a10 a11 a12 a13 : Option Value} {t : List (Option Value)} (h : Cx X g own nm cc nL d RC RS ret) (hd : decode cc pc = .ok (.astore 13, 2)) (hp : c1 a12 = true) (kk : J X g nL Q k n ad C (pc + 2) (a0 :: a1 :: a2 :: a3 :: a4 :: a5 :: a6 :: a7 :: a8 :: a9 :: a10 :: a11 :: a12 :: some (.null) :: t) st) : J X g nL Q k n ad C pc (a0 :: a1 :: a2 :: a3 :: a4 :: a5 :: a6 :: a7 :: a8 :: a9 :: a10 :: a11 :: a12 :: a13 :: t) (.null :: st) := fun H locs ls hM hS hl hL => lv_astoreN h.1 h.2.1 hd hl (by rw [← hL]; simp; try omega) rfl (fun ls' hl' => kk H locs ls' hM hS (asc_set1 (L := a0 :: a1 :: a2 :: a3 :: a4 :: a5 :: a6 :: a7 :: a8 :: a9 :: a10 :: a11 :: a12 :: a13 :: t) (i := 13) (v := .null) (fun j hj w hw => c1_use hp (by have e : j = 12 := (by omega); subst e; simpa using hw)) hl') hL)
theorem j_lstore13 {pc : Nat} {a0 a1 a2 a3 a4 a5 a6 a7 a8 a9 a10 a11 a12 a13 a14 : Option Value} {t : List (Option Value)} {x : Int64} (h : Cx X g own nm cc nL d RC RS ret) (hd : decode cc pc = .ok (.lstore 13, 2)) (hp : c1 a12 = true) (kk : J X g nL Q k n ad C (pc + 2) (a0 :: a1 :: a2 :: a3 :: a4 :: a5 :: a6 :: a7 :: a8 :: a9 :: a10 :: a11 :: a12 :: some (.long x) :: none :: t) st) : J X g nL Q k n ad C pc (a0 :: a1 :: a2 :: a3 :: a4 :: a5 :: a6 :: a7 :: a8 :: a9 :: a10 :: a11 :: a12 :: a13 :: a14 :: t) (.long x :: st) := fun H locs ls hM hS hl hL => lv_lstore h.1 h.2.1 hd hl (by rw [← hL]; simp; try omega) rfl (fun ls' hl' => kk H locs ls' hM hS (asc_set2 (L := a0 :: a1 :: a2 :: a3 :: a4 :: a5 :: a6 :: a7 :: a8 :: a9 :: a10 :: a11 :: a12 :: a13 :: a14 :: t) (i := 13) (v := .long x) (fun j hj w hw => c1_use hp (by have e : j = 12 := (by omega); subst e; simpa using hw)) hl') hL)
theorem j_iinc13 {pc : Nat} {a0 a1 a2 a3 a4 a5 a6 a7 a8 a9 a10 a11 a12 : Option Value} {t : List (Option Value)} {x v : Int32} {z : Int} (h : Cx X g own nm cc nL d RC RS ret) (hd : decode cc pc = .ok (.iinc 13 z, 3)) (hp : c1 a12 = true) (hv : x + Int32.ofInt z = v) (kk : J X g nL Q k n ad C (pc + 3) (a0 :: a1 :: a2 :: a3 :: a4 :: a5 :: a6 :: a7 :: a8 :: a9 :: a10 :: a11 :: a12 :: some (.int v) :: t) st) : J X g nL Q k n ad C pc (a0 :: a1 :: a2 :: a3 :: a4 :: a5 :: a6 :: a7 :: a8 :: a9 :: a10 :: a11 :: a12 :: some (.int x) :: t) st := fun H locs ls hM hS hl hL => by
  obtain ⟨q, hq⟩ := List.getElem?_of_mem ((asc_mem (a0 :: a1 :: a2 :: a3 :: a4 :: a5 :: a6 :: a7 :: a8 :: a9 :: a10 :: a11 :: a12 :: some (.int x) :: t) 0 13 (.int x)).mpr ⟨13, by omega, rfl⟩)
  exact lv_iinc h.1 h.2.1 hd hl hq hv (by rw [← hL]; simp; try omega) rfl (fun ls' hl' => kk H locs ls' hM hS (asc_set1 (L := a0 :: a1 :: a2 :: a3 :: a4 :: a5 :: a6 :: a7 :: a8 :: a9 :: a10 :: a11 :: a12 :: some (.int x) :: t) (i := 13) (v := .int v) (fun j hj w hw => c1_use hp (by have e : j = 12 := (by omega); subst e; simpa using hw)) hl') hL)
end JR
end
section
/-! Rows of J that read and write the named memory, make cells, call, return. -/
theorem MM.one {g : GG} {ad : AD} {C : CC} {H : Heap} (h : MM g ad C H) {j : Nat} {e : va_E} (hj : C j = some e) : va_P (gD g) vwCl [(ad j, e)] H := by
  intro k q hk
  have hz : k < 1 := (List.getElem?_eq_some_iff.mp hk).1
  obtain rfl : k = 0 := by omega
  cases hk
  exact (h.2.1 j e hj).1
theorem MM.lt {g : GG} {ad : AD} {C : CC} {H : Heap} (h : MM g ad C H) {j : Nat} {e : va_E} (hj : C j = some e) : ad j < H.size := (h.2.1 j e hj).1.lt
theorem MM.set {g : GG} {ad : AD} {C : CC} {H H1 : Heap} (h : MM g ad C H) {j : Nat} {e0 e : va_E} (hj : C j = some e0) (he : va_at (gD g) vwCl (ad j, e) H1) (z : H1.size = H.size) (oq : ∀ q : Nat, q ≠ ad j → H1[q]? = H[q]?) : MM g ad (va_up C j (some e)) H1 := by
  refine ⟨by rw [z]; exact h.1, fun i e1 hi => ?_, fun i i' a b hi hi' hii => ?_⟩
  · by_cases hij : i = j
    · subst hij
      rw [va_up_self] at hi
      cases hi
      exact ⟨he, (h.2.1 i e0 hj).2⟩
    · rw [va_up_ne _ _ hij] at hi
      obtain ⟨p1, p2⟩ := h.2.1 i e1 hi
      exact ⟨p1.kept (oq _ (fun q => hij (h.2.2 i j e1 e0 hi hj q))), p2⟩
  · have key : ∀ i a, va_up C j (some e) i = some a → ∃ a', C i = some a' := by
      intro i a hi
      by_cases hij : i = j
      · subst hij; exact ⟨_, hj⟩
      · rw [va_up_ne _ _ hij] at hi; exact ⟨_, hi⟩
    obtain ⟨a', ha'⟩ := key i a hi
    obtain ⟨b', hb'⟩ := key i' b hi'
    exact h.2.2 i i' a' b' ha' hb' hii
theorem MM.new {g : GG} {ad : AD} {C : CC} {H H1 : Heap} (h : MM g ad C H) {j : Nat} {e : va_E} (hj : C j = none) (he : va_at (gD g) vwCl (H.size, e) H1) (z : H.size ≤ H1.size) (oq : ∀ q : Nat, q < H.size → H1[q]? = H[q]?) : MM g (va_up ad j H.size) (va_up C j (some e)) H1 := by
  have key : ∀ i a, va_up C j (some e) i = some a → (i = j ∧ va_up ad j H.size i = H.size ∧ a = e) ∨ (i ≠ j ∧ C i = some a ∧ va_up ad j H.size i = ad i ∧ ad i < H.size) := by
    intro i a hi
    by_cases hij : i = j
    · subst hij
      rw [va_up_self] at hi
      cases hi
      exact Or.inl ⟨rfl, va_up_self _ _ _, rfl⟩
    · rw [va_up_ne _ _ hij] at hi
      exact Or.inr ⟨hij, hi, va_up_ne _ _ hij, h.lt hi⟩
  refine ⟨Nat.le_trans h.1 z, fun i e1 hi => ?_, fun i i' a b hi hi' hii => ?_⟩
  · rcases key i e1 hi with ⟨h1, h2, h3⟩ | ⟨h1, h2, h3, h4⟩
    · rw [h2, h3]; exact ⟨he, h.1⟩
    · rw [h3]
      exact ⟨(h.2.1 i e1 h2).1.kept (oq _ h4), (h.2.1 i e1 h2).2⟩
  · rcases key i a hi with ⟨h1, h2, h3⟩ | ⟨h1, h2, h3, h4⟩ <;> rcases key i' b hi' with ⟨k1, k2, k3⟩ | ⟨k1, k2, k3, k4⟩
    · rw [h1, k1]
    · rw [h2, k3] at hii; omega
    · rw [h3, k2] at hii; omega
    · exact h.2.2 i i' a b h2 k2 (by rw [← h3, ← k3]; exact hii)
/-- a field's link -/
def FL (own : String) (idx ci i : Nat) : Prop := ∃ q : vw_C, vwCl[ci]? = some q ∧ i < q.2.2 ∧ (∀ w ∈ u_ws q.1 q.2.1 q.2.2, w ∈ lw_tbl.filter wm_ok) ∧ (q.2.1 i).1 = q.1 ∧ (tw (.fieldLink own idx q.1 (q.2.1 i).2.1 (q.2.1 i).2.2.1) ∨ ∃ host, tw (.fieldLinkNest own idx q.1 (q.2.1 i).2.1 (q.2.1 i).2.2.1 host))
/-- a field's link, to write -/
def PL (own : String) (idx ci i : Nat) (ty : FieldType) (fin : Bool) : Prop := ∃ (q : vw_C) (ty0 : Nat → FieldType), vwCl[ci]? = some q ∧ i < q.2.2 ∧ (∀ w ∈ u_ws q.1 q.2.1 q.2.2, w ∈ lw_tbl.filter wm_ok) ∧ (q.2.1 i).1 = q.1 ∧ (∀ k, k < q.2.2 → parseFieldDescriptor (q.2.1 k).2.2.1 = some (ty0 k)) ∧ (∀ a, a < q.2.2 → ∀ b, b < q.2.2 → a ≠ b → (q.2.1 a).2.1 ≠ (q.2.1 b).2.1) ∧ (q.2.1 i).2.2.2 = fin ∧ parseFieldDescriptor (q.2.1 i).2.2.1 = some ty ∧ tw (.fieldLink own idx q.1 (q.2.1 i).2.1 (q.2.1 i).2.2.1)
theorem z_nar {v : Int32} (hn : vp_nar .boolean v = v) : narrow .boolean (.int v) = .int v := by
  have e : v &&& 1 = v := by simpa [vp_nar, narrow] using hn
  simp [narrow, e]
section JM
variable {X : CX} {g : GG} {own nm : String} {cc : ByteArray} {nL d RC RS : Nat} {ret : Option FieldType} {Q : State → Prop} {k n : Nat} {ad : AD} {C : CC} {L : List (Option Value)} {st : List Value}
theorem j_getf {pc j ci i idx : Nat} {fs : List Value} {v : Value} (h : Cx X g own nm cc nL d RC RS ret) (hd : decode cc pc = .ok (.getfield idx, 3)) (hC : C j = some (.inr (ci, fs))) (hf : FL own idx ci i) (hv : fs[i]? = some v) (kk : J X g nL Q k n ad C (pc + 3) L (v :: st)) : J X g nL Q k n ad C pc L (.ref (ad j) :: st) := by
  intro H locs ls hM hS hl hL
  obtain ⟨q, h1, h2, h3, h4, h5⟩ := hf
  rcases h5 with h5 | ⟨host, h5⟩
  · exact va_get h.1 h.2.1 (h.2.2.2.2.1.hts _) h3 h.2.2.2.1 h.2.2.2.2.1.1 (hM.one hC) 0 rfl h1 i h2 (h.2.2.2.2.1.use h5 _) (by rw [h4]; exact fun _ z => z) hv hd (kk H locs ls hM hS hl hL)
  · exact va_getN h.1 h.2.1 (h.2.2.2.2.1.hts _) h3 h.2.2.2.1 h.2.2.2.2.1.1 (hM.one hC) 0 rfl h1 i h2 (h.2.2.2.2.1.use h5 _) (by rw [h4]; exact fun _ z => z) hv hd (kk H locs ls hM hS hl hL)
theorem j_putv {pc j ci i idx : Nat} {fs : List Value} {v : Value} {ty : FieldType} (h : Cx X g own nm cc nL d RC RS ret) (hd : decode cc pc = .ok (.putfield idx, 3)) (hC : C j = some (.inr (ci, fs))) (hf : PL own idx ci i ty false) (hn : narrow ty v = v) (hfit : fits ty v = true) (hlen : i < fs.length) (kk : J X g nL Q k n ad (va_up C j (some (.inr (ci, fs.set i v)))) (pc + 3) L st) : J X g nL Q k n ad C pc L (v :: .ref (ad j) :: st) := by
  intro H locs ls hM hS hl hL
  obtain ⟨⟨Cn, T, N⟩, ty0, hc, hk, hin, hdecl, hty, hnm, hfin, hdp, hlk⟩ := hf
  have hts := h.2.2.2.2.1.hts (xa X)
  have hK := h.2.2.2.2.1.1
  have hP := hM.one hC
  have hap := va_apart (own := own) hts hin ty0 hty hnm hK hc
  obtain ⟨r, h1, cell, q1, q2, q3, q4⟩ := hP 0 _ rfl
  have hr : r = (Cn, T, N) := Option.some.inj (h1.symm.trans hc)
  subst hr
  obtain ⟨hSl, hfc, kC, hkC, hkind⟩ := hK.1 ci _ hc
  obtain ⟨cf, kf, fi, f, hi, hsl⟩ := hSl i hk
  have hlay := hts _ (hin _ (u_in_lay hk))
  unfold u_lay at hlay
  rw [if_neg (by rw [hfin]; decide)] at hlay
  have hst := (u_facts hfc hkC (u_lays hts hin hk) hi).1
  have h6 := u_store hfc hkC hkind hlay hi hdp hn hfit
  have hi' : (xs X).fieldFound? Cn (T i).2.1 (T i).2.2.1 = some (cf, kf, fi, f) := by
    have := hdecl
    simp only at this
    rw [← this]; exact hi
  refine W.putK h.1 h.2.1 (f := f) ⟨h.2.2.2.1, h.2.2.2.2.1.use hlk _, ⟨_, _, _, hi'⟩, hst⟩ (by rw [q2]; exact h6) q1 q3 (by rw [hsl]; exact k2_hasslot (q4 i hk)) rfl rfl hd fun H' e1 e2 e3 => ?_
  rw [hsl] at e1 ⊢
  exact kk H' _ ls (hM.set hC ⟨_, hc, t_OB.to (V := updV (vp_V fs) i v) ⟨_, e1, q2, q3, t_set q4 hap hk v⟩ (fun j _ => vp_updV_set hlen v j)⟩ e2 e3) (hS.put e2 e3 (hM.2.1 j _ hC).2) hl hL
theorem j_putF {pc j ci i idx : Nat} {fs : List Value} {v : Value} {ty : FieldType} (h : Cx X g own nm cc nL d RC RS ret) (hnm0 : nm = "<init>") (hd : decode cc pc = .ok (.putfield idx, 3)) (hC : C j = some (.inr (ci, fs))) (hf : PL own idx ci i ty true) (hown : (vwCl[ci]?).map (fun q => q.1) = some own) (hn : narrow ty v = v) (hfit : fits ty v = true) (hlen : i < fs.length) (kk : J X g nL Q k n ad (va_up C j (some (.inr (ci, fs.set i v)))) (pc + 3) L st) : J X g nL Q k n ad C pc L (v :: .ref (ad j) :: st) := by
  intro H locs ls hM hS hl hL
  obtain ⟨⟨Cn, T, N⟩, ty0, hc, hk, hin, hdecl, hty, hnm, hfin, hdp, hlk⟩ := hf
  have hts := h.2.2.2.2.1.hts (xa X)
  have hK := h.2.2.2.2.1.1
  have hP := hM.one hC
  have hap := va_apart (own := own) hts hin ty0 hty hnm hK hc
  obtain ⟨r, h1, cell, q1, q2, q3, q4⟩ := hP 0 _ rfl
  have hr : r = (Cn, T, N) := Option.some.inj (h1.symm.trans hc)
  subst hr
  rw [hc] at hown
  have hown' : Cn = own := Option.some.inj hown
  obtain ⟨hSl, hfc, kC, hkC, hkind⟩ := hK.1 ci _ hc
  obtain ⟨cf, kf, fi, f, hi, hsl⟩ := hSl i hk
  have hlay := hts _ (hin _ (u_in_lay hk))
  unfold u_lay at hlay
  rw [if_pos hfin] at hlay
  have hst := (u_facts hfc hkC (u_lays hts hin hk) hi).1
  have hcf : (xm X).cls = cf := by
    obtain ⟨_, _, c', _, _, _, -, -, hf', -, -, -, hown2, -⟩ := Cond.laysFinal_spec hlay
    have e1 : c' = cf := by have := hi.symm.trans hf'; simp at this; exact this.1.symm
    have hd2 : (T i).1 = own := hdecl.trans hown'
    rw [hd2] at hown2
    rw [← e1]; exact Option.some.inj (h.2.2.2.1.symm.trans hown2)
  have h6 := u_fits hfc hkC hkind (Or.inr hlay) hi hdp hn hfit
  have hi' : (xs X).fieldFound? Cn (T i).2.1 (T i).2.2.1 = some (cf, kf, fi, f) := by
    have := hdecl
    simp only at this
    rw [← this]; exact hi
  refine W.putFinK h.1 h.2.1 h.2.2.2.1 (h.2.2.2.2.1.use hlk _) hi' hst hcf (h.2.2.2.2.2.2.1.trans hnm0) (by rw [q2]; exact h6) q1 q3 (by rw [hsl]; exact k2_hasslot (q4 i hk)) rfl rfl hd fun H' e1 e2 e3 => ?_
  rw [hsl] at e1 ⊢
  exact kk H' _ ls (hM.set hC ⟨_, hc, t_OB.to (V := updV (vp_V fs) i v) ⟨_, e1, q2, q3, t_set q4 hap hk v⟩ (fun j _ => vp_updV_set hlen v j)⟩ e2 e3) (hS.put e2 e3 (hM.2.1 j _ hC).2) hl hL
theorem gT0 : (gT g)[0]? = some (gI g, .int) := rfl
theorem gT1 : (gT g)[1]? = some (gZ g, .boolean) := rfl
theorem gT2 : (gT g)[2]? = some (gJ g, .long) := rfl
theorem gT3 : (gT g)[3]? = some (gO g, .object "RoomGone$StoredFile") := rfl
theorem nI_cl {i : Nat} (h : i < 2 ^ 31) : (nI i).toNatClampNeg = i := nI_clamp h
theorem j_iald {pc j i m : Nat} {f : Nat → Int32} (h : Cx X g own nm cc nL d RC RS ret) (hd : decode cc pc = .ok (.iaload, 1)) (hC : C j = some (eI g m f)) (hi : i < m) (hm : m ≤ 100000) (kk : J X g nL Q k n ad C (pc + 1) L (.int (f i) :: st)) : J X g nL Q k n ad C pc L (.int (nI i) :: .ref (ad j) :: st) := by
  intro H locs ls hM hS hl hL
  refine va_iald h.1 h.2.1 h.2.2.2.2.1.1 (hM.one hC) 0 0 rfl gT0 (vp_in_nI hi (by omega)) hd ?_
  rw [nI_cl (by omega)]
  exact kk H locs ls hM hS hl hL
theorem j_zald {pc j i m : Nat} {f : Nat → Int32} (h : Cx X g own nm cc nL d RC RS ret) (hd : decode cc pc = .ok (.baload, 1)) (hC : C j = some (eZ g m f)) (hi : i < m) (hm : m ≤ 100000) (kk : J X g nL Q k n ad C (pc + 1) L (.int (f i) :: st)) : J X g nL Q k n ad C pc L (.int (nI i) :: .ref (ad j) :: st) := by
  intro H locs ls hM hS hl hL
  refine va_zald h.1 h.2.1 h.2.2.2.2.1.1 (hM.one hC) 0 1 rfl gT1 (vp_in_nI hi (by omega)) hd ?_
  rw [nI_cl (by omega)]
  exact kk H locs ls hM hS hl hL
theorem j_lald {pc j i m : Nat} {f : Nat → Int64} (h : Cx X g own nm cc nL d RC RS ret) (hd : decode cc pc = .ok (.laload, 1)) (hC : C j = some (eJ g m f)) (hi : i < m) (hm : m ≤ 100000) (kk : J X g nL Q k n ad C (pc + 1) L (.long (f i) :: st)) : J X g nL Q k n ad C pc L (.int (nI i) :: .ref (ad j) :: st) := by
  intro H locs ls hM hS hl hL
  refine va_lald h.1 h.2.1 h.2.2.2.2.1.1 (hM.one hC) 0 2 rfl gT2 (vp_in_nI hi (by omega)) hd ?_
  rw [nI_cl (by omega)]
  exact kk H locs ls hM hS hl hL
theorem j_aald {pc j i m : Nat} {f : Nat → Option Nat} (h : Cx X g own nm cc nL d RC RS ret) (hd : decode cc pc = .ok (.aaload, 1)) (hC : C j = some (eO g m f)) (hi : i < m) (hm : m ≤ 100000) (kk : J X g nL Q k n ad C (pc + 1) L (va_rf (f i) :: st)) : J X g nL Q k n ad C pc L (.int (nI i) :: .ref (ad j) :: st) := by
  intro H locs ls hM hS hl hL
  refine va_aldq h.1 h.2.1 h.2.2.2.2.1.1 (hM.one hC) 0 3 rfl gT3 (vp_in_nI hi (by omega)) hd ?_
  rw [nI_cl (by omega)]
  exact kk H locs ls hM hS hl hL
theorem j_iast {pc j i m : Nat} {f : Nat → Int32} {x : Int32} (h : Cx X g own nm cc nL d RC RS ret) (hd : decode cc pc = .ok (.iastore, 1)) (hC : C j = some (eI g m f)) (hi : i < m) (hm : m ≤ 100000) (kk : J X g nL Q k n ad (va_up C j (some (eI g m (upd f i x)))) (pc + 1) L st) : J X g nL Q k n ad C pc L (.int x :: .int (nI i) :: .ref (ad j) :: st) := by
  intro H locs ls hM hS hl hL
  have hin : vp_in (nI i) m := vp_in_nI hi (by omega)
  have hcl : (nI i).toNatClampNeg = i := nI_cl (by omega)
  refine W.iast h.1 h.2.1 ((hM.one hC) 0 _ rfl) ((h.2.2.2.2.1.1.2 0 _ gT0).1 m (fun j => .int (f j))) (fun q => by cases q) (by show ¬ (nI i < 0 ∨ (arrV _ _ _).slots.size ≤ _); rw [arrV_size]; exact hin) rfl rfl hd fun H1 e z oq => ?_
  refine kk H1 _ ls (hM.set hC ?_ z oq) (hS.put z oq (hM.2.1 j _ hC).2) hl hL
  show H1[ad j]? = some (vp_cell _ _)
  rw [e]
  rw [vp_cell_i, vp_cell_i, arrV_store]
  congr 2
  funext q
  rw [hcl]
  by_cases hq : q = i
  · subst hq
    simp [updV, upd]
  · simp [updV, upd, hq]
theorem j_zast {pc j i m : Nat} {f : Nat → Int32} {x : Int32} (h : Cx X g own nm cc nL d RC RS ret) (hd : decode cc pc = .ok (.bastore, 1)) (hC : C j = some (eZ g m f)) (hi : i < m) (hm : m ≤ 100000) (hx : vp_nar .boolean x = x) (kk : J X g nL Q k n ad (va_up C j (some (eZ g m (upd f i x)))) (pc + 1) L st) : J X g nL Q k n ad C pc L (.int x :: .int (nI i) :: .ref (ad j) :: st) := by
  intro H locs ls hM hS hl hL
  have hin : vp_in (nI i) m := vp_in_nI hi (by omega)
  have hcl : (nI i).toNatClampNeg = i := nI_cl (by omega)
  have e0 : upd f i x = upd f i (vp_nar .boolean x) := by rw [hx]
  rw [e0] at kk
  refine W.zast h.1 h.2.1 ((hM.one hC) 0 _ rfl) ((h.2.2.2.2.1.1.2 1 _ gT1).1 m (fun j => .int (f j))) (fun q => by cases q) (by show ¬ (nI i < 0 ∨ (arrV _ _ _).slots.size ≤ _); rw [arrV_size]; exact hin) rfl rfl hd fun H1 e z oq => ?_
  refine kk H1 _ ls (hM.set hC ?_ z oq) (hS.put z oq (hM.2.1 j _ hC).2) hl hL
  show H1[ad j]? = some (vp_cell _ _)
  rw [e]
  rw [vp_cell_i, vp_cell_i, arrV_store]
  congr 2
  funext q
  rw [hcl]
  by_cases hq : q = i
  · subst hq
    simp [updV, upd, vp_nar]
    try rfl
  · simp [updV, upd, hq]
theorem j_last {pc j i m : Nat} {f : Nat → Int64} {x : Int64} (h : Cx X g own nm cc nL d RC RS ret) (hd : decode cc pc = .ok (.lastore, 1)) (hC : C j = some (eJ g m f)) (hi : i < m) (hm : m ≤ 100000) (kk : J X g nL Q k n ad (va_up C j (some (eJ g m (vp_updL f i x)))) (pc + 1) L st) : J X g nL Q k n ad C pc L (.long x :: .int (nI i) :: .ref (ad j) :: st) := by
  intro H locs ls hM hS hl hL
  have hin : vp_in (nI i) m := vp_in_nI hi (by omega)
  have hcl : (nI i).toNatClampNeg = i := nI_cl (by omega)
  refine W.last h.1 h.2.1 ((hM.one hC) 0 _ rfl) ((h.2.2.2.2.1.1.2 2 _ gT2).1 m (fun j => .long (f j))) (fun q => by cases q) (by show ¬ (nI i < 0 ∨ (arrV _ _ _).slots.size ≤ _); rw [arrV_size]; exact hin) rfl rfl hd fun H1 e z oq => ?_
  refine kk H1 _ ls (hM.set hC ?_ z oq) (hS.put z oq (hM.2.1 j _ hC).2) hl hL
  show H1[ad j]? = some (vp_cell _ _)
  rw [e]
  rw [vp_cell_l, vp_cell_l, arrV_store]
  congr 2
  funext q
  rw [hcl]
  by_cases hq : q = i
  · subst hq
    simp [updV, vp_updL]
  · simp [updV, vp_updL, hq]
theorem j_aast {pc j i m v ci : Nat} {vs : List Value} {f : Nat → Option Nat} (h : Cx X g own nm cc nL d RC RS ret) (hd : decode cc pc = .ok (.aastore, 1)) (hC : C j = some (eO g m f)) (hv : C v = some (.inr (ci, vs))) (hc : (vwCl[ci]?).map (fun q => q.1) = some "RoomGone$StoredFile") (hi : i < m) (hm : m ≤ 100000) (kk : J X g nL Q k n ad (va_up C j (some (eO g m (va_up f i (some (ad v)))))) (pc + 1) L st) : J X g nL Q k n ad C pc L (.ref (ad v) :: .int (nI i) :: .ref (ad j) :: st) := by
  intro H locs ls hM hS hl hL
  have hin : vp_in (nI i) m := vp_in_nI hi (by omega)
  have hcl : (nI i).toNatClampNeg = i := nI_cl (by omega)
  have hlt : (nI i).toNatClampNeg < m := Nat.not_le.mp fun q => hin (Or.inr q)
  have h0 : ¬ nI i < 0 := fun q => hin (Or.inl q)
  have hK := h.2.2.2.2.1.1
  obtain ⟨r, hr, hr1⟩ : ∃ r, vwCl[ci]? = some r ∧ r.1 = "RoomGone$StoredFile" := by
    cases hq : vwCl[ci]? with
    | none => rw [hq] at hc; cases hc
    | some r => rw [hq] at hc; exact ⟨r, rfl, Option.some.inj hc⟩
  obtain ⟨r', hr', cellV, g1, g2, g3, -⟩ := (hM.one hv) 0 _ rfl
  have hcls := (hK.1 ci r hr).2
  obtain ⟨kA, comp, k1, k2, k3, -⟩ := (hK.2 3 _ gT3).2
  rw [hr1] at hcls
  have hcomp : comp = (gD g).1 ci := Option.some.inj (k3.symm.trans hcls.1)
  subst hcomp
  obtain ⟨kC, hkC, -⟩ := hcls.2
  refine W.aast h.1 h.2.1 ((hM.one hC) 0 _ rfl) (fun q h => by cases h) (fun h => by cases h) k1 k2 rfl hkC ⟨h0, by show _ < (arrV _ _ _).slots.size; rw [arrV_size]; exact hlt⟩ g1 (fun q h => by rw [g3] at h; cases h) (by rw [g2]; exact hkC) (by rw [g2]; exact va_assign hcls) rfl rfl hd fun H1 e z oq => ?_
  refine kk H1 _ ls (hM.set hC ?_ z oq) (hS.put z oq (hM.2.1 j _ hC).2) hl hL
  show H1[ad j]? = some (vp_cell _ _)
  rw [e]
  rw [vp_cell_q, vp_cell_q, arrV_store]
  congr 2
  funext q
  rw [hcl]
  by_cases hq : q = i
  · subst hq
    simp [updV, va_up, va_rf]
  · simp [updV, va_up, hq]
theorem j_aastN {pc j i m : Nat} {f : Nat → Option Nat} (h : Cx X g own nm cc nL d RC RS ret) (hd : decode cc pc = .ok (.aastore, 1)) (hC : C j = some (eO g m f)) (hi : i < m) (hm : m ≤ 100000) (kk : J X g nL Q k n ad (va_up C j (some (eO g m (va_up f i none)))) (pc + 1) L st) : J X g nL Q k n ad C pc L (.null :: .int (nI i) :: .ref (ad j) :: st) := by
  intro H locs ls hM hS hl hL
  have hin : vp_in (nI i) m := vp_in_nI hi (by omega)
  have hcl : (nI i).toNatClampNeg = i := nI_cl (by omega)
  refine va_WaastN (C := "RoomGone$StoredFile") h.1 h.2.1 ((hM.one hC) 0 _ rfl) ((h.2.2.2.2.1.1.2 3 _ gT3).1 m (fun j => va_rf (f j))) (fun h => by cases h) (by show ¬ (nI i < 0 ∨ (arrV _ _ _).slots.size ≤ _); rw [arrV_size]; exact hin) rfl rfl hd fun H1 e z oq => ?_
  refine kk H1 _ ls (hM.set hC ?_ z oq) (hS.put z oq (hM.2.1 j _ hC).2) hl hL
  show H1[ad j]? = some (vp_cell _ _)
  rw [e]
  rw [vp_cell_q, vp_cell_q, arrV_store]
  congr 2
  funext q
  rw [hcl]
  by_cases hq : q = i
  · subst hq
    simp [updV, va_up, va_rf]
  · simp [updV, va_up, hq]
/-- a new array of numbers, at the free name j -/
theorem j_newa {pc j m : Nat} {at0 : ArrayType} {ty : FieldType} {e : ClassId → va_E} {t0 : Nat} (h : Cx X g own nm cc nL d RC RS ret) (hd : decode cc pc = .ok (.newarray at0, 2)) (hj : C j = none) (hty : newarray.typeOf at0 = ty) (hw : tw (.arrayClass ty)) (cA : ClassId) (hT : (gT g)[t0]? = some (cA, ty)) (hty2 : ∀ x, ty ≠ .object x) (he : ∀ cA, ∃ a, e cA = .inl (cA, a) ∧ vp_cell cA a = arrV cA m (fun _ => defaultValue ty)) (hm : m ≤ 100000) (hbytes : componentBytes ty ≤ 8) (hc : k + 1 ≤ RC) (hs : n + m ≤ RS)
    (kk : ∀ q, J X g nL Q (k + 1) (n + m) (va_up ad j q) (va_up C j (some (e cA))) (pc + 2) L (.ref q :: st)) : J X g nL Q k n ad C pc L (.int (nI m) :: st) := by
  intro H locs ls hM hS hl hL
  subst hty
  have hK := h.2.2.2.2.1.1
  refine va_newaK h.1 h.2.1 (h.2.2.2.2.1.use hw _) rfl hd rfl (nI_pos (by omega)) (nI_cl (by omega)) (by have := Nat.mul_le_mul hm hbytes; omega) (by rw [← h.2.2.2.2.2.2.2.2.2.1]; exact hc) (by rw [← h.2.2.2.2.2.2.2.2.2.2.1]; exact hs) rfl fun H1 cA' e1 z1 o1 hAr hNm => ?_
  have hcA : cA' = cA := by
    have h2 := (hK.2 t0 _ hT).2
    have h3 : (xs X).vm.findClass ("[" ++ (newarray.typeOf at0).toString) = some cA := by
      cases at0 <;> exact h2
    exact Option.some.inj (hNm.symm.trans h3)
  subst hcA
  obtain ⟨a, ha1, ha2⟩ := he cA'
  refine kk H.size H1 locs ls (hM.new hj ?_ (by omega) o1) ⟨Nat.le_trans hS.1 (by omega), fun x h1 h2 => (o1 x (Nat.lt_of_lt_of_le h1 hS.1)).trans (hS.2.1 x h1 h2), hS.2.2⟩ hl hL
  rw [ha1]
  show H1[H.size]? = some (vp_cell _ _)
  rw [ha2]
  exact e1
theorem j_newI {pc j m : Nat} (h : Cx X g own nm cc nL d RC RS ret) (hd : decode cc pc = .ok (.newarray .int, 2)) (hj : C j = none) (hw : tw (.arrayClass .int)) (hm : m ≤ 100000) (hc : k + 1 ≤ RC) (hs : n + m ≤ RS) (kk : ∀ q, J X g nL Q (k + 1) (n + m) (va_up ad j q) (va_up C j (some (eI g m (fun _ => 0)))) (pc + 2) L (.ref q :: st)) : J X g nL Q k n ad C pc L (.int (nI m) :: st) :=
  j_newa (ty := .int) (t0 := 0) (e := fun cA => .inl (cA, m, .inl (fun _ => 0))) h hd hj rfl hw (gI g) rfl (fun x q => by cases q) (fun cA => ⟨_, rfl, rfl⟩) hm (by decide) hc hs kk
theorem j_newZ {pc j m : Nat} (h : Cx X g own nm cc nL d RC RS ret) (hd : decode cc pc = .ok (.newarray .boolean, 2)) (hj : C j = none) (hw : tw (.arrayClass .boolean)) (hm : m ≤ 100000) (hc : k + 1 ≤ RC) (hs : n + m ≤ RS) (kk : ∀ q, J X g nL Q (k + 1) (n + m) (va_up ad j q) (va_up C j (some (eZ g m (fun _ => 0)))) (pc + 2) L (.ref q :: st)) : J X g nL Q k n ad C pc L (.int (nI m) :: st) :=
  j_newa (ty := .boolean) (t0 := 1) (e := fun cA => .inl (cA, m, .inl (fun _ => 0))) h hd hj rfl hw (gZ g) rfl (fun x q => by cases q) (fun cA => ⟨_, rfl, rfl⟩) hm (by decide) hc hs kk
theorem j_newJ {pc j m : Nat} (h : Cx X g own nm cc nL d RC RS ret) (hd : decode cc pc = .ok (.newarray .long, 2)) (hj : C j = none) (hw : tw (.arrayClass .long)) (hm : m ≤ 100000) (hc : k + 1 ≤ RC) (hs : n + m ≤ RS) (kk : ∀ q, J X g nL Q (k + 1) (n + m) (va_up ad j q) (va_up C j (some (eJ g m (fun _ => 0)))) (pc + 2) L (.ref q :: st)) : J X g nL Q k n ad C pc L (.int (nI m) :: st) :=
  j_newa (ty := .long) (t0 := 2) (e := fun cA => .inl (cA, m, .inr (.inl (fun _ => 0)))) h hd hj rfl hw (gJ g) rfl (fun x q => by cases q) (fun cA => ⟨_, rfl, rfl⟩) hm (by decide) hc hs kk
/-- the array of references to files -/
theorem j_newO {pc j m idx : Nat} (h : Cx X g own nm cc nL d RC RS ret) (hd : decode cc pc = .ok (.anewarray idx, 3)) (hj : C j = none) (hw : tw (.classLink own idx "RoomGone$StoredFile")) (hw2 : tw (.arrayOver (.object "RoomGone$StoredFile"))) (hm : m ≤ 100000) (hc : k + 1 ≤ RC) (hs : n + m ≤ RS)
    (kk : ∀ q, J X g nL Q (k + 1) (n + m) (va_up ad j q) (va_up C j (some (eO g m (fun _ => none)))) (pc + 3) L (.ref q :: st)) : J X g nL Q k n ad C pc L (.int (nI m) :: st) := by
  intro H locs ls hM hS hl hL
  have hK := h.2.2.2.2.1.1
  have hcl : (nI m).toNatClampNeg = m := nI_cl (by omega)
  refine W.anew h.1 h.2.1 h.2.2.2.1 (h.2.2.2.2.1.use hw _) (h.2.2.2.2.1.use hw2 _) rfl hd rfl (nI_pos (by omega)) (by rw [hcl]; show m * 4 ≤ _; omega) (by rw [← h.2.2.2.2.2.2.2.2.2.1]; exact hc) (by rw [hcl, ← h.2.2.2.2.2.2.2.2.2.2.1]; exact hs) fun cA kA comp f1 f2 f3 f4 => ?_
  rw [hcl]
  have hcA : cA = gO g := by
    obtain ⟨kA', comp', c1', c2', c3', c4'⟩ := (hK.2 3 _ gT3).2
    exact Option.some.inj (f1.symm.trans c4')
  subst hcA
  generalize hH1 : H.push ({ cls := gO g, slots := Array.replicate m .null, vm := .none } : Cell) = H1
  have z1 : H1.size = H.size + 1 := by rw [← hH1, Array.size_push]
  have e1 : H1[H.size]? = some (arrV (gO g) m (fun _ => .null)) := by rw [← hH1, Array.getElem?_push_size, ← arrV_new]
  have o1 : ∀ q : Nat, q < H.size → H1[q]? = H[q]? := fun q hq => by rw [← hH1, Array.getElem?_push, if_neg (Nat.ne_of_lt hq)]
  refine kk H.size H1 locs ls (hM.new hj ?_ (by omega) o1) ⟨Nat.le_trans hS.1 (by omega), fun x h1 h2 => (o1 x (Nat.lt_of_lt_of_le h1 hS.1)).trans (hS.2.1 x h1 h2), hS.2.2⟩ hl hL
  show H1[H.size]? = some (vp_cell _ _)
  rw [vp_cell_q]
  exact e1
/-- a new object's links -/
def NL (own : String) (idx ci : Nat) (N : Nat) (fs : List Value) : Prop := ∃ (q : vw_C) (ty : Nat → FieldType), vwCl[ci]? = some q ∧ q.2.2 = N ∧ (∀ w ∈ u_ws q.1 q.2.1 q.2.2, w ∈ lw_tbl.filter wm_ok) ∧ (∀ k, k < q.2.2 → parseFieldDescriptor (q.2.1 k).2.2.1 = some (ty k)) ∧ tw (.classLink own idx q.1) ∧ tw (.instantiable q.1 q.2.2) ∧ tw (.initialized q.1) ∧ ∀ j, j < q.2.2 → defaultValue (ty j) = vp_V fs j
theorem j_new {pc j idx ci N : Nat} {fs : List Value} (h : Cx X g own nm cc nL d RC RS ret) (hd : decode cc pc = .ok (.new idx, 3)) (hj : C j = none) (hN : NL own idx ci N fs) (hc : k + 1 ≤ RC) (hs : n + N ≤ RS)
    (kk : ∀ q, J X g nL Q (k + 1) (n + N) (va_up ad j q) (va_up C j (some (.inr (ci, fs)))) (pc + 3) L (.ref q :: st)) : J X g nL Q k n ad C pc L st := by
  intro H locs ls hM hS hl hL
  obtain ⟨⟨Cn, T, N'⟩, ty, h1, rfl, hin, hty, w1, w2, w3, hfs⟩ := hN
  have hKK := h.2.2.2.2.1
  have hts := hKK.hts (xa X)
  have hKn := hKK.1.1 ci _ h1
  refine W.newcK h.1 h.2.1 h.2.2.2.1 (hKK.use w1 _) (hKK.use w2 _) (hKK.use w3 _) rfl hd (by rw [← h.2.2.2.2.2.2.2.2.2.1]; exact hc) (by rw [← h.2.2.2.2.2.2.2.2.2.2.1]; exact hs) hKn.2.1 rfl fun H1 kC hkC e1 z1 o1 => ?_
  refine kk H.size H1 locs ls (hM.new hj ?_ (by omega) o1) ⟨Nat.le_trans hS.1 (by omega), fun x h1 h2 => (o1 x (Nat.lt_of_lt_of_le h1 hS.1)).trans (hS.2.1 x h1 h2), hS.2.2⟩ hl hL
  exact ⟨_, h1, (u_born ty hts hin hKn hkC e1 hty).to hfs⟩
theorem j_objInit {pc idx a : Nat} (h : Cx X g own nm cc nL d RC RS ret) (hd : decode cc pc = .ok (.invokespecial idx, 3)) (hw : tw (.methodLink own idx objectInit)) (hw2 : tw (.instanceMethod objectInit)) (hw3 : tw (.code objectInit ⟨#[0xb1]⟩ 1 none)) (hd1 : 1 ≤ d) (hcat : (st.map fun v => v.category).sum ≤ 8) (kk : J X g nL Q k n ad C (pc + 3) L st) : J X g nL Q k n ad C pc L (.ref a :: st) := by
  intro H locs ls hM hS hl hL
  have hKK := h.2.2.2.2.1
  have h1 := h.2.2.2.2.2.2.2.1
  have h2 := h.2.2.2.2.2.2.2.2.1
  refine W.objInit h.1 h.2.1 h.2.2.2.1 (hKK.use hw _) (hKK.use hw2 _) (hKK.use hw3 _) rfl (by rw [h.2.2.1]; exact hl.1) rfl hd (Nat.le_trans hd1 h1) ?_ ?_
  · have := lv_room (m := xm X) (pc := pc) (ls := ls) (rest := .ref a :: st) hcat
    omega
  · exact kk H locs ls hM hS hl hL
/-- returns -/
theorem j_iret {pc : Nat} {v : Int32} {post : Option Value → AD → CC → Prop} (h : Cx X g own nm cc nL d RC RS (some .int)) (hd : decode cc pc = .ok (.ireturn, 1)) (hp : post (some (.int v)) ad C) : J X g nL (QX X g RC RS post) RC RS ad C pc L [.int v] :=
  fun H locs ls hM hS hl hL => W.iret h.1 h.2.1 h.2.2.2.2.2.2.2.2.2.2.2.1 (fun t ht hW => ⟨⟨_, _, _, rfl, hp, by rw [ht]; exact hM⟩, hS.F ht⟩) hS.2.2 hd h.2.2.2.2.2.1
theorem j_zret {pc : Nat} {v : Int32} {post : Option Value → AD → CC → Prop} (h : Cx X g own nm cc nL d RC RS (some .boolean)) (hd : decode cc pc = .ok (.ireturn, 1)) (hn : vp_nar .boolean v = v) (hp : post (some (.int v)) ad C) : J X g nL (QX X g RC RS post) RC RS ad C pc L [.int v] :=
  fun H locs ls hM hS hl hL => W.zret h.1 h.2.1 h.2.2.2.2.2.2.2.2.2.2.2.1 (z_nar hn) (fun t ht hW => ⟨⟨_, _, _, rfl, hp, by rw [ht]; exact hM⟩, hS.F ht⟩) hS.2.2 hd h.2.2.2.2.2.1
theorem j_lret {pc : Nat} {v : Int64} {post : Option Value → AD → CC → Prop} (h : Cx X g own nm cc nL d RC RS (some .long)) (hd : decode cc pc = .ok (.lreturn, 1)) (hp : post (some (.long v)) ad C) : J X g nL (QX X g RC RS post) RC RS ad C pc L [.long v] :=
  fun H locs ls hM hS hl hL => W.lret h.1 h.2.1 h.2.2.2.2.2.2.2.2.2.2.2.1 (fun t ht hW => ⟨⟨_, _, _, rfl, hp, by rw [ht]; exact hM⟩, hS.F ht⟩) hS.2.2 hd h.2.2.2.2.2.1
theorem j_vret {pc : Nat} {post : Option Value → AD → CC → Prop} (h : Cx X g own nm cc nL d RC RS none) (hd : decode cc pc = .ok (.return_, 1)) (hp : post none ad C) : J X g nL (QX X g RC RS post) RC RS ad C pc L [] :=
  fun H locs ls hM hS hl hL => W.vret h.1 h.2.1 h.2.2.2.2.2.2.2.2.2.2.2.1 (fun t ht hW => ⟨⟨_, _, _, rfl, hp, by rw [ht]; exact hM⟩, hS.F ht⟩) hS.2.2 hd h.2.2.2.2.2.1
theorem j_aret {pc : Nat} {v : Option Nat} {o : String} {post : Option Value → AD → CC → Prop} (h : Cx X g own nm cc nL d RC RS (some (.object o))) (hd : decode cc pc = .ok (.areturn, 1)) (hp : post (some (va_rf v)) ad C) : J X g nL (QX X g RC RS post) RC RS ad C pc L [va_rf v] :=
  fun H locs ls hM hS hl hL => W.aret h.1 h.2.1 h.2.2.2.2.2.2.2.2.2.2.2.1 (Or.inl ⟨_, rfl⟩) (by cases v with | none => exact Or.inl rfl | some a => exact Or.inr ⟨a, rfl⟩) (fun t ht hW => ⟨⟨_, _, _, rfl, hp, by rw [ht]; exact hM⟩, hS.F ht⟩) hS.2.2 hd h.2.2.2.2.2.1
/-- calls: links -/
def ML (own : String) (idx : Nat) (y : MethodName) (cb : ByteArray) (nb : Nat) (rb : Option FieldType) (np : Nat) : Prop :=
  (tw (.methodLink own idx y) ∨ ∃ host, tw (.methodLinkNest own idx y host)) ∧ tw (.code y cb nb rb) ∧ tw (.initialized y.cls) ∧ (y.cls ≠ "java/lang/invoke/MethodHandle" ∧ y.cls ≠ "java/lang/invoke/VarHandle" ∧ (parseMethodDescriptor y.desc).map (fun d => d.parameters.length) = some np) ∧ nb ≤ 45
def MV (own : String) (idx ci : Nat) (y : MethodName) (cb : ByteArray) (nb : Nat) (rb : Option FieldType) (np : Nat) : Prop := ML own idx y cb nb rb np ∧ tw (.instanceMethod y) ∧ tw (.selects y.cls y y) ∧ (vwCl[ci]?).map (fun q => q.1) = some y.cls
def MS (own : String) (idx : Nat) (y : MethodName) (cb : ByteArray) (nb : Nat) (rb : Option FieldType) (np : Nat) : Prop := ML own idx y cb nb rb np ∧ tw (.static y)
def MI (own : String) (idx : Nat) (y : MethodName) (cb : ByteArray) (nb : Nat) (np : Nat) : Prop := ML own idx y cb nb none np ∧ tw (.instanceMethod y) ∧ y.name = "<init>"
theorem Ct_blind {g : GG} {as : List Value} {ad : AD} {C : CC} : FrameBlind (va_Pc as (fun U => MM g ad C U.heap ∧ KK g U)) := fun a U f mk q => ⟨q.1, q.2.1, KK.warm (s := U) (U := U.calling f mk a) (State.WarmedH.refl U) q.2.2⟩
theorem j_ofRun {pc mc ms : Nat} {ls : Array Slot} {H : Heap} {locs : List Loc} {st0 rest : List Value} {a : Array Value} {post : Option Value → AD → CC → Prop}
    (hr : va_Run (xp X) (xl X) (xe X) (xR X) (xs X) (xm X) (xa X) (xb X) (xh X) (xc X) H locs k n mc ms (F0 (xm X) pc ls st0) rest (Qp g post a) (gA g)) (hS : va_S (gA g) (xs X).heap H locs)
    (kk : ∀ v ad' C' H1 locs1, post v ad' C' → MM g ad' C' H1 → va_S (gA g) (xs X).heap H1 locs1 → WX X H1 locs1 (k + mc) (n + ms) Q (F0 (xm X) (pc + 3) ls (v.toList ++ rest))) : WX X H locs k n Q (F0 (xm X) pc ls st0) := by
  intro T hT X0
  obtain ⟨v, st₀, t, T', Lc, h0, X', hLc, e1, e2, ⟨⟨v', ad', C', hv, hp, hM⟩, hz, hk⟩, stp⟩ := hr T hT X0
  cases hv
  rw [h0] at hz hk
  obtain ⟨t2, a1, b1⟩ := kk v ad' C' T'.heap (locs ++ Lc) hp (by rw [e1]; exact hM)
    ⟨Nat.le_trans hS.1 (by rw [e1]; exact hz), fun q h1 h2 => by rw [e1, hk q (Nat.lt_of_lt_of_le h1 hS.1) h2]; exact hS.2.1 q h1 h2, fun q hq => by
      rcases List.mem_append.mp hq with h | h
      · exact hS.2.2 q h
      · exact hLc q h⟩ T' rfl X'
  exact ⟨t2, stp t2 a1, b1⟩
theorem ml_ws {s : State} (hKK : KK g s) {y : MethodName} {cb : ByteArray} {nb : Nat} {rb : Option FieldType} (hw : tw (.code y cb nb rb)) : ∀ w ∈ [Cond.code y cb nb rb], ∀ (a' : Array Value) (U : State), s.WarmedH U.vm → w.before a' U = true := by
  intro w hm a' U hW
  rw [List.mem_singleton.mp hm]
  exact (KK.warm hW hKK).use hw a'
theorem j_callV {pc j idx ci np mc ms d' nb : Nat} {fs : List Value} {y : MethodName} {cb : ByteArray} {rb : Option FieldType} {As st0 rest : List Value} {post : Option Value → AD → CC → Prop} (h : Cx X g own nm cc nL d RC RS ret) (hd : decode cc pc = .ok (.invokevirtual idx, 3)) (hc : Ct (xl X) g y cb nb rb d' mc ms (.ref (ad j) :: As) ad C post) (hm : MV own idx ci y cb nb rb np) (hC : C j = some (.inr (ci, fs))) (hn : As.length = np) (hst : st0 = As.reverse ++ .ref (ad j) :: rest) (hdd : d' + 1 ≤ d) (hcat : (rest.map fun v => v.category).sum ≤ 8) (hcm : k + mc ≤ RC) (hsm : n + ms ≤ RS)
    (kk : ∀ v ad' C', post v ad' C' → J X g nL Q (k + mc) (n + ms) ad' C' (pc + 3) L (v.toList ++ rest)) : J X g nL Q k n ad C pc L st0 := by
  intro H locs ls hM hS hl hL
  have hKK := h.2.2.2.2.1
  have hfr := h.2.2.2.2.2.2.2.1
  have hlo := h.2.2.2.2.2.2.2.2.1
  obtain ⟨⟨hlk, hcode, hini, hnames, hnb⟩, hinst, hsel, hcls⟩ := hm
  have hn' : ∀ sig, parseMethodDescriptor y.desc = some sig → np = sig.parameters.length := fun sig h2 => by
    have h3 := hnames.2.2
    rw [h2] at h3
    exact (Option.some.inj h3).symm
  obtain ⟨r, hr, hr1⟩ : ∃ r, vwCl[ci]? = some r ∧ r.1 = y.cls := by
    cases hq : vwCl[ci]? with
    | none => rw [hq] at hcls; cases hcls
    | some r => rw [hq] at hcls; exact ⟨r, rfl, Option.some.inj hcls⟩
  have hrec := va_recv (q0 := 0) hKK.1 (hM.one hC) hr rfl
  rw [hr1] at hrec
  have hpre : PreV (xs X) H y.cls (ad j) (va_Pc (.ref (ad j) :: As) (fun U => MM g ad C U.heap ∧ KK g U)) As := ⟨Ct_blind, hrec, fun U hU hW => ⟨rfl, by rw [hU]; exact hM, KK.warm hW hKK⟩⟩
  have hcells : k + mc ≤ (xR X).cells ∧ n + ms ≤ (xR X).slots := ⟨by rw [← h.2.2.2.2.2.2.2.2.2.1]; exact hcm, by rw [← h.2.2.2.2.2.2.2.2.2.2.1]; exact hsm⟩
  have hrm : (rmD d' mc ms).frames + 1 ≤ (xR X).frames ∧ 8 + (nb + 11) + (rmD d' mc ms).locals ≤ (xR X).locals := ⟨Nat.le_trans hdd hfr, by show 8 + (nb + 11) + 64 * d' ≤ _; omega⟩
  have hsz : (F0 (xm X) pc ls st0).locals.size = nL := hl.1
  refine j_ofRun (rest := rest) (a := (.ref (ad j) :: As).toArray) ?_ hS (fun v ad' C' H1 locs1 hp hM1 hS1 => kk v ad' C' hp H1 locs1 ls hM1 hS1 hl hL)
  rcases hlk with hlk | ⟨host, hlk⟩
  · exact va_runV (C := y.cls) (Ts := lw_tbl.filter wm_ok) ⟨h.1, h.2.1, h.2.2.1, h.2.2.2.1, hKK.hts _⟩ hc ⟨⟨rfl, rfl, hrm.1, hrm.2, ml_ws hKK hcode, List.mem_singleton.mpr rfl, hKK.use hcode _, hKK.use hini _, ⟨hnames.1, hnames.2.1⟩, hn', hKK.use hlk _⟩, hKK.use hinst _, hKK.use hsel _⟩ hpre rfl hn hsz hst (lv_room hcat) hd hcells
  · exact va_runVN (C := y.cls) (Ts := lw_tbl.filter wm_ok) ⟨h.1, h.2.1, h.2.2.1, h.2.2.2.1, hKK.hts _⟩ hc ⟨⟨⟨rfl, rfl, hrm.1, hrm.2, ml_ws hKK hcode, List.mem_singleton.mpr rfl⟩, hKK.use hcode _, hKK.use hini _, ⟨hnames.1, hnames.2.1⟩, hn', hKK.use hlk _⟩, hKK.use hinst _, hKK.use hsel _⟩ hpre rfl hn hsz hst (lv_room hcat) hd hcells
theorem j_callS {pc idx np mc ms d' nb : Nat} {y : MethodName} {cb : ByteArray} {rb : Option FieldType} {As st0 rest : List Value} {post : Option Value → AD → CC → Prop} (h : Cx X g own nm cc nL d RC RS ret) (hd : decode cc pc = .ok (.invokestatic idx, 3)) (hc : Ct (xl X) g y cb nb rb d' mc ms As ad C post) (hm : MS own idx y cb nb rb np) (hn : As.length = np) (hst : st0 = As.reverse ++ rest) (hdd : d' + 1 ≤ d) (hcat : (rest.map fun v => v.category).sum ≤ 8) (hcm : k + mc ≤ RC) (hsm : n + ms ≤ RS)
    (kk : ∀ v ad' C', post v ad' C' → J X g nL Q (k + mc) (n + ms) ad' C' (pc + 3) L (v.toList ++ rest)) : J X g nL Q k n ad C pc L st0 := by
  intro H locs ls hM hS hl hL
  have hKK := h.2.2.2.2.1
  have hfr := h.2.2.2.2.2.2.2.1
  have hlo := h.2.2.2.2.2.2.2.2.1
  obtain ⟨⟨hlk, hcode, hini, hnames, hnb⟩, hstat⟩ := hm
  have hn' : ∀ sig, parseMethodDescriptor y.desc = some sig → np = sig.parameters.length := fun sig h2 => by
    have h3 := hnames.2.2
    rw [h2] at h3
    exact (Option.some.inj h3).symm
  have hpre : PreS (xs X) H (va_Pc As (fun U => MM g ad C U.heap ∧ KK g U)) As := ⟨Ct_blind, fun U hU hW => ⟨rfl, by rw [hU]; exact hM, KK.warm hW hKK⟩⟩
  have hcells : k + mc ≤ (xR X).cells ∧ n + ms ≤ (xR X).slots := ⟨by rw [← h.2.2.2.2.2.2.2.2.2.1]; exact hcm, by rw [← h.2.2.2.2.2.2.2.2.2.2.1]; exact hsm⟩
  have hrm : (rmD d' mc ms).frames + 1 ≤ (xR X).frames ∧ 8 + (nb + 11) + (rmD d' mc ms).locals ≤ (xR X).locals := ⟨Nat.le_trans hdd hfr, by show 8 + (nb + 11) + 64 * d' ≤ _; omega⟩
  have hsz : (F0 (xm X) pc ls st0).locals.size = nL := hl.1
  refine j_ofRun (rest := rest) (a := As.toArray) ?_ hS (fun v ad' C' H1 locs1 hp hM1 hS1 => kk v ad' C' hp H1 locs1 ls hM1 hS1 hl hL)
  rcases hlk with hlk | ⟨host, hlk⟩
  · exact va_runS (Ts := lw_tbl.filter wm_ok) ⟨h.1, h.2.1, h.2.2.1, h.2.2.2.1, hKK.hts _⟩ hc ⟨⟨rfl, rfl, hrm.1, hrm.2, ml_ws hKK hcode, List.mem_singleton.mpr rfl, hKK.use hcode _, hKK.use hini _, ⟨hnames.1, hnames.2.1⟩, hn', hKK.use hlk _⟩, hKK.use hstat _⟩ hpre rfl hn hsz hst (lv_room hcat) hd hcells
  · exact va_runSN (Ts := lw_tbl.filter wm_ok) ⟨h.1, h.2.1, h.2.2.1, h.2.2.2.1, hKK.hts _⟩ hc ⟨⟨⟨rfl, rfl, hrm.1, hrm.2, ml_ws hKK hcode, List.mem_singleton.mpr rfl⟩, hKK.use hcode _, hKK.use hini _, ⟨hnames.1, hnames.2.1⟩, hn', hKK.use hlk _⟩, hKK.use hstat _, trivial⟩ hpre rfl hn hsz hst (lv_room hcat) hd hcells
theorem j_callI {pc idx np mc ms d' nb a : Nat} {y : MethodName} {cb : ByteArray} {As st0 rest : List Value} {post : Option Value → AD → CC → Prop} (h : Cx X g own nm cc nL d RC RS ret) (hd : decode cc pc = .ok (.invokespecial idx, 3)) (hc : Ct (xl X) g y cb nb none d' mc ms (.ref a :: As) ad C post) (hm : MI own idx y cb nb np) (hn : As.length = np) (hst : st0 = As.reverse ++ .ref a :: rest) (hdd : d' + 1 ≤ d) (hcat : (rest.map fun v => v.category).sum ≤ 8) (hcm : k + mc ≤ RC) (hsm : n + ms ≤ RS)
    (kk : ∀ v ad' C', post v ad' C' → J X g nL Q (k + mc) (n + ms) ad' C' (pc + 3) L (v.toList ++ rest)) : J X g nL Q k n ad C pc L st0 := by
  intro H locs ls hM hS hl hL
  have hKK := h.2.2.2.2.1
  have hfr := h.2.2.2.2.2.2.2.1
  have hlo := h.2.2.2.2.2.2.2.2.1
  obtain ⟨⟨hlk, hcode, hini, hnames, hnb⟩, hinst, hnmi⟩ := hm
  have hn' : ∀ sig, parseMethodDescriptor y.desc = some sig → np = sig.parameters.length := fun sig h2 => by
    have h3 := hnames.2.2
    rw [h2] at h3
    exact (Option.some.inj h3).symm
  have hpre : PreS (xs X) H (va_Pc (.ref a :: As) (fun U => MM g ad C U.heap ∧ KK g U)) (.ref a :: As) := ⟨Ct_blind, fun U hU hW => ⟨rfl, by rw [hU]; exact hM, KK.warm hW hKK⟩⟩
  have hcells : k + mc ≤ (xR X).cells ∧ n + ms ≤ (xR X).slots := ⟨by rw [← h.2.2.2.2.2.2.2.2.2.1]; exact hcm, by rw [← h.2.2.2.2.2.2.2.2.2.2.1]; exact hsm⟩
  have hrm : (rmD d' mc ms).frames + 1 ≤ (xR X).frames ∧ 8 + (nb + 11) + (rmD d' mc ms).locals ≤ (xR X).locals := ⟨Nat.le_trans hdd hfr, by show 8 + (nb + 11) + 64 * d' ≤ _; omega⟩
  have hsz : (F0 (xm X) pc ls st0).locals.size = nL := hl.1
  refine j_ofRun (rest := rest) (a := (.ref a :: As).toArray) ?_ hS (fun v ad' C' H1 locs1 hp hM1 hS1 => kk v ad' C' hp H1 locs1 ls hM1 hS1 hl hL)
  rcases hlk with hlk | ⟨host, hlk⟩
  · exact va_runI (Ts := lw_tbl.filter wm_ok) ⟨h.1, h.2.1, h.2.2.1, h.2.2.2.1, hKK.hts _⟩ hc ⟨⟨rfl, rfl, hrm.1, hrm.2, ml_ws hKK hcode, List.mem_singleton.mpr rfl, hKK.use hcode _, hKK.use hini _, ⟨hnames.1, hnames.2.1⟩, hn', hKK.use hlk _⟩, hnmi, hKK.use hinst _⟩ hpre rfl hn hsz hst (lv_room hcat) hd hcells
  · exact va_runIN (Ts := lw_tbl.filter wm_ok) ⟨h.1, h.2.1, h.2.2.1, h.2.2.2.1, hKK.hts _⟩ hc ⟨⟨⟨rfl, rfl, hrm.1, hrm.2, ml_ws hKK hcode, List.mem_singleton.mpr rfl⟩, hKK.use hcode _, hKK.use hini _, ⟨hnames.1, hnames.2.1⟩, hn', hKK.use hlk _⟩, hnmi, hKK.use hinst _⟩ hpre rfl hn hsz hst (lv_room hcat) hd hcells
end JM
end
section
theorem tw_oi : tw (.instanceMethod objectInit) := tw_at 49 (by decide +kernel) (by decide +kernel)
theorem tw_oc : tw (.code objectInit ⟨#[0xb1]⟩ 1 none) := tw_at 50 (by decide +kernel) (by decide +kernel)
theorem tw_ac_int : tw (.arrayClass .int) := tw_at 71 (by decide +kernel) (by decide +kernel)
theorem tw_ac_boolean : tw (.arrayClass .boolean) := tw_at 72 (by decide +kernel) (by decide +kernel)
theorem tw_ao : tw (.arrayOver (.object "RoomGone$StoredFile")) := tw_at 80 (by decide +kernel) (by decide +kernel)
theorem tw_ac_long : tw (.arrayClass .long) := tw_at 118 (by decide +kernel) (by decide +kernel)
theorem kc_X7_131 : tw (.constantLong RX7 131 (-1)) := tw_at 340 (by decide +kernel) (by decide +kernel)
theorem kc_J13_314 : tw (.constantLong RJ13 314 (6148914691236517205)) := tw_at 364 (by decide +kernel) (by decide +kernel)
theorem kc_J13_316 : tw (.constantLong RJ13 316 (3689348814741910323)) := tw_at 365 (by decide +kernel) (by decide +kernel)
theorem kc_J13_318 : tw (.constantLong RJ13 318 (1085102592571150095)) := tw_at 366 (by decide +kernel) (by decide +kernel)
theorem kc_X7_187 : tw (.constant RX7 187 (-2147483648)) := tw_at 502 (by decide +kernel) (by decide +kernel)
theorem kc_X4_69 : tw (.constantLong RX4 69 (-1)) := tw_at 541 (by decide +kernel) (by decide +kernel)
theorem kc_X8_149 : tw (.constantLong RX8 149 (-1)) := tw_at 836 (by decide +kernel) (by decide +kernel)
theorem kc_X8_157 : tw (.constant RX8 157 (-2147483648)) := tw_at 850 (by decide +kernel) (by decide +kernel)
theorem ui_X0 : ∀ w ∈ u_ws RX0 TX0 2, w ∈ lw_tbl.filter wm_ok := by decide +kernel
theorem ui_X1 : ∀ w ∈ u_ws RX1 TX1 4, w ∈ lw_tbl.filter wm_ok := by decide +kernel
theorem ui_X2 : ∀ w ∈ u_ws RX2 TX2 3, w ∈ lw_tbl.filter wm_ok := by decide +kernel
theorem ui_X3 : ∀ w ∈ u_ws RX3 TX3 3, w ∈ lw_tbl.filter wm_ok := by decide +kernel
theorem ui_X4 : ∀ w ∈ u_ws RX4 TX4 7, w ∈ lw_tbl.filter wm_ok := by decide +kernel
theorem ui_X5 : ∀ w ∈ u_ws RX5 TX5 2, w ∈ lw_tbl.filter wm_ok := by decide +kernel
theorem ui_X6 : ∀ w ∈ u_ws RX6 TX6 6, w ∈ lw_tbl.filter wm_ok := by decide +kernel
theorem ui_X7 : ∀ w ∈ u_ws RX7 TX7 8, w ∈ lw_tbl.filter wm_ok := by decide +kernel
theorem ui_X8 : ∀ w ∈ u_ws RX8 TX8 26, w ∈ lw_tbl.filter wm_ok := by decide +kernel
theorem fl_X1_9 : FL RX1 9 1 0 := ⟨_, rfl, by decide, ui_X1, rfl, Or.inl (tw_at 57 (by decide +kernel) (by decide +kernel))⟩
theorem pl_X1_9 : PL RX1 9 1 0 (.array .int) true := ⟨_, tyX1, rfl, by decide, ui_X1, rfl, tyX1_ok, nmX1, rfl, by decide +kernel, tw_at 57 (by decide +kernel) (by decide +kernel)⟩
theorem fl_X1_15 : FL RX1 15 1 1 := ⟨_, rfl, by decide, ui_X1, rfl, Or.inl (tw_at 58 (by decide +kernel) (by decide +kernel))⟩
theorem pl_X1_15 : PL RX1 15 1 1 (.array .int) true := ⟨_, tyX1, rfl, by decide, ui_X1, rfl, tyX1_ok, nmX1, rfl, by decide +kernel, tw_at 58 (by decide +kernel) (by decide +kernel)⟩
theorem fl_X1_18 : FL RX1 18 1 2 := ⟨_, rfl, by decide, ui_X1, rfl, Or.inl (tw_at 59 (by decide +kernel) (by decide +kernel))⟩
theorem pl_X1_18 : PL RX1 18 1 2 (.array .boolean) true := ⟨_, tyX1, rfl, by decide, ui_X1, rfl, tyX1_ok, nmX1, rfl, by decide +kernel, tw_at 59 (by decide +kernel) (by decide +kernel)⟩
theorem fl_X1_22 : FL RX1 22 1 3 := ⟨_, rfl, by decide, ui_X1, rfl, Or.inl (tw_at 60 (by decide +kernel) (by decide +kernel))⟩
theorem pl_X1_22 : PL RX1 22 1 3 .int false := ⟨_, tyX1, rfl, by decide, ui_X1, rfl, tyX1_ok, nmX1, rfl, by decide +kernel, tw_at 60 (by decide +kernel) (by decide +kernel)⟩
theorem fl_X7_177 : FL RX7 177 1 3 := ⟨_, rfl, by decide, ui_X1, rfl, Or.inr ⟨"RoomGone", tw_at 61 (by decide +kernel) (by decide +kernel)⟩⟩
theorem fl_X0_11 : FL RX0 11 0 0 := ⟨_, rfl, by decide, ui_X0, rfl, Or.inl (tw_at 81 (by decide +kernel) (by decide +kernel))⟩
theorem pl_X0_11 : PL RX0 11 0 0 (.array (.object "RoomGone$StoredFile")) true := ⟨_, tyX0, rfl, by decide, ui_X0, rfl, tyX0_ok, nmX0, rfl, by decide +kernel, tw_at 81 (by decide +kernel) (by decide +kernel)⟩
theorem fl_X0_17 : FL RX0 17 0 1 := ⟨_, rfl, by decide, ui_X0, rfl, Or.inl (tw_at 82 (by decide +kernel) (by decide +kernel))⟩
theorem pl_X0_17 : PL RX0 17 0 1 .int false := ⟨_, tyX0, rfl, by decide, ui_X0, rfl, tyX0_ok, nmX0, rfl, by decide +kernel, tw_at 82 (by decide +kernel) (by decide +kernel)⟩
theorem fl_X4_44 : FL RX4 44 0 1 := ⟨_, rfl, by decide, ui_X0, rfl, Or.inr ⟨"RoomGone", tw_at 83 (by decide +kernel) (by decide +kernel)⟩⟩
theorem fl_X3_9 : FL RX3 9 3 0 := ⟨_, rfl, by decide, ui_X3, rfl, Or.inl (tw_at 95 (by decide +kernel) (by decide +kernel))⟩
theorem pl_X3_9 : PL RX3 9 3 0 (.array .int) true := ⟨_, tyX3, rfl, by decide, ui_X3, rfl, tyX3_ok, nmX3, rfl, by decide +kernel, tw_at 95 (by decide +kernel) (by decide +kernel)⟩
theorem fl_X3_15 : FL RX3 15 3 1 := ⟨_, rfl, by decide, ui_X3, rfl, Or.inl (tw_at 96 (by decide +kernel) (by decide +kernel))⟩
theorem pl_X3_15 : PL RX3 15 3 1 (.array .int) true := ⟨_, tyX3, rfl, by decide, ui_X3, rfl, tyX3_ok, nmX3, rfl, by decide +kernel, tw_at 96 (by decide +kernel) (by decide +kernel)⟩
theorem fl_X3_18 : FL RX3 18 3 2 := ⟨_, rfl, by decide, ui_X3, rfl, Or.inl (tw_at 97 (by decide +kernel) (by decide +kernel))⟩
theorem pl_X3_18 : PL RX3 18 3 2 .int false := ⟨_, tyX3, rfl, by decide, ui_X3, rfl, tyX3_ok, nmX3, rfl, by decide +kernel, tw_at 97 (by decide +kernel) (by decide +kernel)⟩
theorem fl_X5_9 : FL RX5 9 5 0 := ⟨_, rfl, by decide, ui_X5, rfl, Or.inl (tw_at 111 (by decide +kernel) (by decide +kernel))⟩
theorem pl_X5_9 : PL RX5 9 5 0 (.array .boolean) true := ⟨_, tyX5, rfl, by decide, ui_X5, rfl, tyX5_ok, nmX5, rfl, by decide +kernel, tw_at 111 (by decide +kernel) (by decide +kernel)⟩
theorem fl_X5_15 : FL RX5 15 5 1 := ⟨_, rfl, by decide, ui_X5, rfl, Or.inl (tw_at 112 (by decide +kernel) (by decide +kernel))⟩
theorem pl_X5_15 : PL RX5 15 5 1 (.array .long) true := ⟨_, tyX5, rfl, by decide, ui_X5, rfl, tyX5_ok, nmX5, rfl, by decide +kernel, tw_at 112 (by decide +kernel) (by decide +kernel)⟩
theorem fl_X2_9 : FL RX2 9 2 0 := ⟨_, rfl, by decide, ui_X2, rfl, Or.inl (tw_at 125 (by decide +kernel) (by decide +kernel))⟩
theorem pl_X2_9 : PL RX2 9 2 0 (.array .int) true := ⟨_, tyX2, rfl, by decide, ui_X2, rfl, tyX2_ok, nmX2, rfl, by decide +kernel, tw_at 125 (by decide +kernel) (by decide +kernel)⟩
theorem fl_X2_15 : FL RX2 15 2 1 := ⟨_, rfl, by decide, ui_X2, rfl, Or.inl (tw_at 126 (by decide +kernel) (by decide +kernel))⟩
theorem pl_X2_15 : PL RX2 15 2 1 (.array .int) true := ⟨_, tyX2, rfl, by decide, ui_X2, rfl, tyX2_ok, nmX2, rfl, by decide +kernel, tw_at 126 (by decide +kernel) (by decide +kernel)⟩
theorem fl_X2_18 : FL RX2 18 2 2 := ⟨_, rfl, by decide, ui_X2, rfl, Or.inl (tw_at 127 (by decide +kernel) (by decide +kernel))⟩
theorem pl_X2_18 : PL RX2 18 2 2 .int false := ⟨_, tyX2, rfl, by decide, ui_X2, rfl, tyX2_ok, nmX2, rfl, by decide +kernel, tw_at 127 (by decide +kernel) (by decide +kernel)⟩
theorem fl_X7_244 : FL RX7 244 2 2 := ⟨_, rfl, by decide, ui_X2, rfl, Or.inr ⟨"RoomGone", tw_at 128 (by decide +kernel) (by decide +kernel)⟩⟩
theorem fl_X4_9 : FL RX4 9 4 0 := ⟨_, rfl, by decide, ui_X4, rfl, Or.inl (tw_at 142 (by decide +kernel) (by decide +kernel))⟩
theorem pl_X4_9 : PL RX4 9 4 0 (.array .int) true := ⟨_, tyX4, rfl, by decide, ui_X4, rfl, tyX4_ok, nmX4, rfl, by decide +kernel, tw_at 142 (by decide +kernel) (by decide +kernel)⟩
theorem fl_X4_15 : FL RX4 15 4 1 := ⟨_, rfl, by decide, ui_X4, rfl, Or.inl (tw_at 143 (by decide +kernel) (by decide +kernel))⟩
theorem pl_X4_15 : PL RX4 15 4 1 (.array .int) true := ⟨_, tyX4, rfl, by decide, ui_X4, rfl, tyX4_ok, nmX4, rfl, by decide +kernel, tw_at 143 (by decide +kernel) (by decide +kernel)⟩
theorem fl_X4_18 : FL RX4 18 4 2 := ⟨_, rfl, by decide, ui_X4, rfl, Or.inl (tw_at 144 (by decide +kernel) (by decide +kernel))⟩
theorem pl_X4_18 : PL RX4 18 4 2 (.array .long) true := ⟨_, tyX4, rfl, by decide, ui_X4, rfl, tyX4_ok, nmX4, rfl, by decide +kernel, tw_at 144 (by decide +kernel) (by decide +kernel)⟩
theorem fl_X4_37 : FL RX4 37 4 3 := ⟨_, rfl, by decide, ui_X4, rfl, Or.inl (tw_at 145 (by decide +kernel) (by decide +kernel))⟩
theorem pl_X4_37 : PL RX4 37 4 3 .int false := ⟨_, tyX4, rfl, by decide, ui_X4, rfl, tyX4_ok, nmX4, rfl, by decide +kernel, tw_at 145 (by decide +kernel) (by decide +kernel)⟩
theorem fl_X4_26 : FL RX4 26 4 4 := ⟨_, rfl, by decide, ui_X4, rfl, Or.inl (tw_at 146 (by decide +kernel) (by decide +kernel))⟩
theorem pl_X4_26 : PL RX4 26 4 4 .int false := ⟨_, tyX4, rfl, by decide, ui_X4, rfl, tyX4_ok, nmX4, rfl, by decide +kernel, tw_at 146 (by decide +kernel) (by decide +kernel)⟩
theorem fl_X4_30 : FL RX4 30 4 5 := ⟨_, rfl, by decide, ui_X4, rfl, Or.inl (tw_at 147 (by decide +kernel) (by decide +kernel))⟩
theorem pl_X4_30 : PL RX4 30 4 5 .int false := ⟨_, tyX4, rfl, by decide, ui_X4, rfl, tyX4_ok, nmX4, rfl, by decide +kernel, tw_at 147 (by decide +kernel) (by decide +kernel)⟩
theorem fl_X7_203 : FL RX7 203 4 5 := ⟨_, rfl, by decide, ui_X4, rfl, Or.inr ⟨"RoomGone", tw_at 148 (by decide +kernel) (by decide +kernel)⟩⟩
theorem fl_X4_33 : FL RX4 33 4 6 := ⟨_, rfl, by decide, ui_X4, rfl, Or.inl (tw_at 149 (by decide +kernel) (by decide +kernel))⟩
theorem pl_X4_33 : PL RX4 33 4 6 .long false := ⟨_, tyX4, rfl, by decide, ui_X4, rfl, tyX4_ok, nmX4, rfl, by decide +kernel, tw_at 149 (by decide +kernel) (by decide +kernel)⟩
theorem fl_X7_206 : FL RX7 206 4 6 := ⟨_, rfl, by decide, ui_X4, rfl, Or.inr ⟨"RoomGone", tw_at 150 (by decide +kernel) (by decide +kernel)⟩⟩
theorem fl_X7_12 : FL RX7 12 7 0 := ⟨_, rfl, by decide, ui_X7, rfl, Or.inl (tw_at 166 (by decide +kernel) (by decide +kernel))⟩
theorem pl_X7_12 : PL RX7 12 7 0 (.object "RoomGone$Folders") true := ⟨_, tyX7, rfl, by decide, ui_X7, rfl, tyX7_ok, nmX7, rfl, by decide +kernel, tw_at 166 (by decide +kernel) (by decide +kernel)⟩
theorem fl_X7_19 : FL RX7 19 7 1 := ⟨_, rfl, by decide, ui_X7, rfl, Or.inl (tw_at 167 (by decide +kernel) (by decide +kernel))⟩
theorem pl_X7_19 : PL RX7 19 7 1 (.object "RoomGone$Files") true := ⟨_, tyX7, rfl, by decide, ui_X7, rfl, tyX7_ok, nmX7, rfl, by decide +kernel, tw_at 167 (by decide +kernel) (by decide +kernel)⟩
theorem fl_X7_26 : FL RX7 26 7 2 := ⟨_, rfl, by decide, ui_X7, rfl, Or.inl (tw_at 168 (by decide +kernel) (by decide +kernel))⟩
theorem pl_X7_26 : PL RX7 26 7 2 (.object "RoomGone$Names") true := ⟨_, tyX7, rfl, by decide, ui_X7, rfl, tyX7_ok, nmX7, rfl, by decide +kernel, tw_at 168 (by decide +kernel) (by decide +kernel)⟩
theorem fl_X7_33 : FL RX7 33 7 3 := ⟨_, rfl, by decide, ui_X7, rfl, Or.inl (tw_at 169 (by decide +kernel) (by decide +kernel))⟩
theorem pl_X7_33 : PL RX7 33 7 3 (.object "RoomGone$Snapshots") true := ⟨_, tyX7, rfl, by decide, ui_X7, rfl, tyX7_ok, nmX7, rfl, by decide +kernel, tw_at 169 (by decide +kernel) (by decide +kernel)⟩
theorem fl_X7_40 : FL RX7 40 7 4 := ⟨_, rfl, by decide, ui_X7, rfl, Or.inl (tw_at 170 (by decide +kernel) (by decide +kernel))⟩
theorem pl_X7_40 : PL RX7 40 7 4 (.object "RoomGone$Marks") true := ⟨_, tyX7, rfl, by decide, ui_X7, rfl, tyX7_ok, nmX7, rfl, by decide +kernel, tw_at 170 (by decide +kernel) (by decide +kernel)⟩
theorem fl_X7_47 : FL RX7 47 7 5 := ⟨_, rfl, by decide, ui_X7, rfl, Or.inl (tw_at 171 (by decide +kernel) (by decide +kernel))⟩
theorem pl_X7_47 : PL RX7 47 7 5 (.object "RoomGone$Planner") true := ⟨_, tyX7, rfl, by decide, ui_X7, rfl, tyX7_ok, nmX7, rfl, by decide +kernel, tw_at 171 (by decide +kernel) (by decide +kernel)⟩
theorem fl_X7_51 : FL RX7 51 7 6 := ⟨_, rfl, by decide, ui_X7, rfl, Or.inl (tw_at 172 (by decide +kernel) (by decide +kernel))⟩
theorem pl_X7_51 : PL RX7 51 7 6 .int false := ⟨_, tyX7, rfl, by decide, ui_X7, rfl, tyX7_ok, nmX7, rfl, by decide +kernel, tw_at 172 (by decide +kernel) (by decide +kernel)⟩
theorem fl_X7_55 : FL RX7 55 7 7 := ⟨_, rfl, by decide, ui_X7, rfl, Or.inl (tw_at 173 (by decide +kernel) (by decide +kernel))⟩
theorem pl_X7_55 : PL RX7 55 7 7 .int false := ⟨_, tyX7, rfl, by decide, ui_X7, rfl, tyX7_ok, nmX7, rfl, by decide +kernel, tw_at 173 (by decide +kernel) (by decide +kernel)⟩
theorem fl_X6_15 : FL RX6 15 6 0 := ⟨_, rfl, by decide, ui_X6, rfl, Or.inl (tw_at 248 (by decide +kernel) (by decide +kernel))⟩
theorem pl_X6_15 : PL RX6 15 6 0 .int true := ⟨_, tyX6, rfl, by decide, ui_X6, rfl, tyX6_ok, nmX6, rfl, by decide +kernel, tw_at 248 (by decide +kernel) (by decide +kernel)⟩
theorem fl_X7_224 : FL RX7 224 6 0 := ⟨_, rfl, by decide, ui_X6, rfl, Or.inr ⟨"RoomGone", tw_at 249 (by decide +kernel) (by decide +kernel)⟩⟩
theorem fl_X6_19 : FL RX6 19 6 1 := ⟨_, rfl, by decide, ui_X6, rfl, Or.inl (tw_at 250 (by decide +kernel) (by decide +kernel))⟩
theorem pl_X6_19 : PL RX6 19 6 1 .int true := ⟨_, tyX6, rfl, by decide, ui_X6, rfl, tyX6_ok, nmX6, rfl, by decide +kernel, tw_at 250 (by decide +kernel) (by decide +kernel)⟩
theorem fl_X4_57 : FL RX4 57 6 1 := ⟨_, rfl, by decide, ui_X6, rfl, Or.inr ⟨"RoomGone", tw_at 251 (by decide +kernel) (by decide +kernel)⟩⟩
theorem fl_X7_227 : FL RX7 227 6 1 := ⟨_, rfl, by decide, ui_X6, rfl, Or.inr ⟨"RoomGone", tw_at 252 (by decide +kernel) (by decide +kernel)⟩⟩
theorem fl_X6_9 : FL RX6 9 6 2 := ⟨_, rfl, by decide, ui_X6, rfl, Or.inl (tw_at 253 (by decide +kernel) (by decide +kernel))⟩
theorem pl_X6_9 : PL RX6 9 6 2 (.array .int) true := ⟨_, tyX6, rfl, by decide, ui_X6, rfl, tyX6_ok, nmX6, rfl, by decide +kernel, tw_at 253 (by decide +kernel) (by decide +kernel)⟩
theorem fl_X6_28 : FL RX6 28 6 3 := ⟨_, rfl, by decide, ui_X6, rfl, Or.inl (tw_at 254 (by decide +kernel) (by decide +kernel))⟩
theorem pl_X6_28 : PL RX6 28 6 3 .int false := ⟨_, tyX6, rfl, by decide, ui_X6, rfl, tyX6_ok, nmX6, rfl, by decide +kernel, tw_at 254 (by decide +kernel) (by decide +kernel)⟩
theorem fl_X0_37 : FL RX0 37 6 3 := ⟨_, rfl, by decide, ui_X6, rfl, Or.inr ⟨"RoomGone", tw_at 255 (by decide +kernel) (by decide +kernel)⟩⟩
theorem fl_X7_143 : FL RX7 143 6 3 := ⟨_, rfl, by decide, ui_X6, rfl, Or.inr ⟨"RoomGone", tw_at 256 (by decide +kernel) (by decide +kernel)⟩⟩
theorem fl_X6_22 : FL RX6 22 6 4 := ⟨_, rfl, by decide, ui_X6, rfl, Or.inl (tw_at 257 (by decide +kernel) (by decide +kernel))⟩
theorem pl_X6_22 : PL RX6 22 6 4 .int false := ⟨_, tyX6, rfl, by decide, ui_X6, rfl, tyX6_ok, nmX6, rfl, by decide +kernel, tw_at 257 (by decide +kernel) (by decide +kernel)⟩
theorem fl_X7_230 : FL RX7 230 6 4 := ⟨_, rfl, by decide, ui_X6, rfl, Or.inr ⟨"RoomGone", tw_at 258 (by decide +kernel) (by decide +kernel)⟩⟩
theorem fl_X6_31 : FL RX6 31 6 5 := ⟨_, rfl, by decide, ui_X6, rfl, Or.inl (tw_at 259 (by decide +kernel) (by decide +kernel))⟩
theorem pl_X6_31 : PL RX6 31 6 5 .long false := ⟨_, tyX6, rfl, by decide, ui_X6, rfl, tyX6_ok, nmX6, rfl, by decide +kernel, tw_at 259 (by decide +kernel) (by decide +kernel)⟩
theorem fl_X4_61 : FL RX4 61 6 5 := ⟨_, rfl, by decide, ui_X6, rfl, Or.inr ⟨"RoomGone", tw_at 260 (by decide +kernel) (by decide +kernel)⟩⟩
theorem fl_X0_33 : FL RX0 33 6 5 := ⟨_, rfl, by decide, ui_X6, rfl, Or.inr ⟨"RoomGone", tw_at 261 (by decide +kernel) (by decide +kernel)⟩⟩
theorem fl_X7_233 : FL RX7 233 6 5 := ⟨_, rfl, by decide, ui_X6, rfl, Or.inr ⟨"RoomGone", tw_at 262 (by decide +kernel) (by decide +kernel)⟩⟩
theorem fl_X8_77 : FL RX8 77 8 0 := ⟨_, rfl, by decide, ui_X8, rfl, Or.inl (tw_at 624 (by decide +kernel) (by decide +kernel))⟩
theorem pl_X8_77 : PL RX8 77 8 0 .int false := ⟨_, tyX8, rfl, by decide, ui_X8, rfl, tyX8_ok, nmX8, rfl, by decide +kernel, tw_at 624 (by decide +kernel) (by decide +kernel)⟩
theorem fl_X8_7 : FL RX8 7 8 1 := ⟨_, rfl, by decide, ui_X8, rfl, Or.inl (tw_at 625 (by decide +kernel) (by decide +kernel))⟩
theorem pl_X8_7 : PL RX8 7 8 1 .int false := ⟨_, tyX8, rfl, by decide, ui_X8, rfl, tyX8_ok, nmX8, rfl, by decide +kernel, tw_at 625 (by decide +kernel) (by decide +kernel)⟩
theorem fl_X8_13 : FL RX8 13 8 2 := ⟨_, rfl, by decide, ui_X8, rfl, Or.inl (tw_at 626 (by decide +kernel) (by decide +kernel))⟩
theorem pl_X8_13 : PL RX8 13 8 2 (.array .int) true := ⟨_, tyX8, rfl, by decide, ui_X8, rfl, tyX8_ok, nmX8, rfl, by decide +kernel, tw_at 626 (by decide +kernel) (by decide +kernel)⟩
theorem fl_X8_17 : FL RX8 17 8 3 := ⟨_, rfl, by decide, ui_X8, rfl, Or.inl (tw_at 627 (by decide +kernel) (by decide +kernel))⟩
theorem pl_X8_17 : PL RX8 17 8 3 (.array .int) true := ⟨_, tyX8, rfl, by decide, ui_X8, rfl, tyX8_ok, nmX8, rfl, by decide +kernel, tw_at 627 (by decide +kernel) (by decide +kernel)⟩
theorem fl_X8_20 : FL RX8 20 8 4 := ⟨_, rfl, by decide, ui_X8, rfl, Or.inl (tw_at 628 (by decide +kernel) (by decide +kernel))⟩
theorem pl_X8_20 : PL RX8 20 8 4 (.array .boolean) true := ⟨_, tyX8, rfl, by decide, ui_X8, rfl, tyX8_ok, nmX8, rfl, by decide +kernel, tw_at 628 (by decide +kernel) (by decide +kernel)⟩
theorem fl_X8_91 : FL RX8 91 8 5 := ⟨_, rfl, by decide, ui_X8, rfl, Or.inl (tw_at 629 (by decide +kernel) (by decide +kernel))⟩
theorem pl_X8_91 : PL RX8 91 8 5 .int false := ⟨_, tyX8, rfl, by decide, ui_X8, rfl, tyX8_ok, nmX8, rfl, by decide +kernel, tw_at 629 (by decide +kernel) (by decide +kernel)⟩
theorem fl_X8_24 : FL RX8 24 8 6 := ⟨_, rfl, by decide, ui_X8, rfl, Or.inl (tw_at 630 (by decide +kernel) (by decide +kernel))⟩
theorem pl_X8_24 : PL RX8 24 8 6 (.array .int) true := ⟨_, tyX8, rfl, by decide, ui_X8, rfl, tyX8_ok, nmX8, rfl, by decide +kernel, tw_at 630 (by decide +kernel) (by decide +kernel)⟩
theorem fl_X8_27 : FL RX8 27 8 7 := ⟨_, rfl, by decide, ui_X8, rfl, Or.inl (tw_at 631 (by decide +kernel) (by decide +kernel))⟩
theorem pl_X8_27 : PL RX8 27 8 7 (.array .int) true := ⟨_, tyX8, rfl, by decide, ui_X8, rfl, tyX8_ok, nmX8, rfl, by decide +kernel, tw_at 631 (by decide +kernel) (by decide +kernel)⟩
theorem fl_X8_30 : FL RX8 30 8 8 := ⟨_, rfl, by decide, ui_X8, rfl, Or.inl (tw_at 632 (by decide +kernel) (by decide +kernel))⟩
theorem pl_X8_30 : PL RX8 30 8 8 (.array .int) true := ⟨_, tyX8, rfl, by decide, ui_X8, rfl, tyX8_ok, nmX8, rfl, by decide +kernel, tw_at 632 (by decide +kernel) (by decide +kernel)⟩
theorem fl_X8_33 : FL RX8 33 8 9 := ⟨_, rfl, by decide, ui_X8, rfl, Or.inl (tw_at 633 (by decide +kernel) (by decide +kernel))⟩
theorem pl_X8_33 : PL RX8 33 8 9 (.array .int) true := ⟨_, tyX8, rfl, by decide, ui_X8, rfl, tyX8_ok, nmX8, rfl, by decide +kernel, tw_at 633 (by decide +kernel) (by decide +kernel)⟩
theorem fl_X8_36 : FL RX8 36 8 10 := ⟨_, rfl, by decide, ui_X8, rfl, Or.inl (tw_at 634 (by decide +kernel) (by decide +kernel))⟩
theorem pl_X8_36 : PL RX8 36 8 10 (.array .int) true := ⟨_, tyX8, rfl, by decide, ui_X8, rfl, tyX8_ok, nmX8, rfl, by decide +kernel, tw_at 634 (by decide +kernel) (by decide +kernel)⟩
theorem fl_X8_88 : FL RX8 88 8 11 := ⟨_, rfl, by decide, ui_X8, rfl, Or.inl (tw_at 635 (by decide +kernel) (by decide +kernel))⟩
theorem pl_X8_88 : PL RX8 88 8 11 .int false := ⟨_, tyX8, rfl, by decide, ui_X8, rfl, tyX8_ok, nmX8, rfl, by decide +kernel, tw_at 635 (by decide +kernel) (by decide +kernel)⟩
theorem fl_X8_39 : FL RX8 39 8 12 := ⟨_, rfl, by decide, ui_X8, rfl, Or.inl (tw_at 636 (by decide +kernel) (by decide +kernel))⟩
theorem pl_X8_39 : PL RX8 39 8 12 (.array .int) true := ⟨_, tyX8, rfl, by decide, ui_X8, rfl, tyX8_ok, nmX8, rfl, by decide +kernel, tw_at 636 (by decide +kernel) (by decide +kernel)⟩
theorem fl_X8_42 : FL RX8 42 8 13 := ⟨_, rfl, by decide, ui_X8, rfl, Or.inl (tw_at 637 (by decide +kernel) (by decide +kernel))⟩
theorem pl_X8_42 : PL RX8 42 8 13 (.array .int) true := ⟨_, tyX8, rfl, by decide, ui_X8, rfl, tyX8_ok, nmX8, rfl, by decide +kernel, tw_at 637 (by decide +kernel) (by decide +kernel)⟩
theorem fl_X8_45 : FL RX8 45 8 14 := ⟨_, rfl, by decide, ui_X8, rfl, Or.inl (tw_at 638 (by decide +kernel) (by decide +kernel))⟩
theorem pl_X8_45 : PL RX8 45 8 14 (.array .boolean) true := ⟨_, tyX8, rfl, by decide, ui_X8, rfl, tyX8_ok, nmX8, rfl, by decide +kernel, tw_at 638 (by decide +kernel) (by decide +kernel)⟩
theorem fl_X8_48 : FL RX8 48 8 15 := ⟨_, rfl, by decide, ui_X8, rfl, Or.inl (tw_at 639 (by decide +kernel) (by decide +kernel))⟩
theorem pl_X8_48 : PL RX8 48 8 15 (.array .boolean) true := ⟨_, tyX8, rfl, by decide, ui_X8, rfl, tyX8_ok, nmX8, rfl, by decide +kernel, tw_at 639 (by decide +kernel) (by decide +kernel)⟩
theorem fl_X8_51 : FL RX8 51 8 16 := ⟨_, rfl, by decide, ui_X8, rfl, Or.inl (tw_at 640 (by decide +kernel) (by decide +kernel))⟩
theorem pl_X8_51 : PL RX8 51 8 16 (.array .long) true := ⟨_, tyX8, rfl, by decide, ui_X8, rfl, tyX8_ok, nmX8, rfl, by decide +kernel, tw_at 640 (by decide +kernel) (by decide +kernel)⟩
theorem fl_X8_154 : FL RX8 154 8 17 := ⟨_, rfl, by decide, ui_X8, rfl, Or.inl (tw_at 641 (by decide +kernel) (by decide +kernel))⟩
theorem pl_X8_154 : PL RX8 154 8 17 .int false := ⟨_, tyX8, rfl, by decide, ui_X8, rfl, tyX8_ok, nmX8, rfl, by decide +kernel, tw_at 641 (by decide +kernel) (by decide +kernel)⟩
theorem fl_X8_55 : FL RX8 55 8 18 := ⟨_, rfl, by decide, ui_X8, rfl, Or.inl (tw_at 642 (by decide +kernel) (by decide +kernel))⟩
theorem pl_X8_55 : PL RX8 55 8 18 (.array .int) true := ⟨_, tyX8, rfl, by decide, ui_X8, rfl, tyX8_ok, nmX8, rfl, by decide +kernel, tw_at 642 (by decide +kernel) (by decide +kernel)⟩
theorem fl_X8_58 : FL RX8 58 8 19 := ⟨_, rfl, by decide, ui_X8, rfl, Or.inl (tw_at 643 (by decide +kernel) (by decide +kernel))⟩
theorem pl_X8_58 : PL RX8 58 8 19 (.array .int) true := ⟨_, tyX8, rfl, by decide, ui_X8, rfl, tyX8_ok, nmX8, rfl, by decide +kernel, tw_at 643 (by decide +kernel) (by decide +kernel)⟩
theorem fl_X8_61 : FL RX8 61 8 20 := ⟨_, rfl, by decide, ui_X8, rfl, Or.inl (tw_at 644 (by decide +kernel) (by decide +kernel))⟩
theorem pl_X8_61 : PL RX8 61 8 20 .int false := ⟨_, tyX8, rfl, by decide, ui_X8, rfl, tyX8_ok, nmX8, rfl, by decide +kernel, tw_at 644 (by decide +kernel) (by decide +kernel)⟩
theorem fl_X8_64 : FL RX8 64 8 21 := ⟨_, rfl, by decide, ui_X8, rfl, Or.inl (tw_at 645 (by decide +kernel) (by decide +kernel))⟩
theorem pl_X8_64 : PL RX8 64 8 21 (.array .boolean) true := ⟨_, tyX8, rfl, by decide, ui_X8, rfl, tyX8_ok, nmX8, rfl, by decide +kernel, tw_at 645 (by decide +kernel) (by decide +kernel)⟩
theorem fl_X8_67 : FL RX8 67 8 22 := ⟨_, rfl, by decide, ui_X8, rfl, Or.inl (tw_at 646 (by decide +kernel) (by decide +kernel))⟩
theorem pl_X8_67 : PL RX8 67 8 22 (.array .int) true := ⟨_, tyX8, rfl, by decide, ui_X8, rfl, tyX8_ok, nmX8, rfl, by decide +kernel, tw_at 646 (by decide +kernel) (by decide +kernel)⟩
theorem fl_X8_70 : FL RX8 70 8 23 := ⟨_, rfl, by decide, ui_X8, rfl, Or.inl (tw_at 647 (by decide +kernel) (by decide +kernel))⟩
theorem pl_X8_70 : PL RX8 70 8 23 (.array .long) true := ⟨_, tyX8, rfl, by decide, ui_X8, rfl, tyX8_ok, nmX8, rfl, by decide +kernel, tw_at 647 (by decide +kernel) (by decide +kernel)⟩
theorem fl_X8_165 : FL RX8 165 8 24 := ⟨_, rfl, by decide, ui_X8, rfl, Or.inl (tw_at 648 (by decide +kernel) (by decide +kernel))⟩
theorem pl_X8_165 : PL RX8 165 8 24 .int false := ⟨_, tyX8, rfl, by decide, ui_X8, rfl, tyX8_ok, nmX8, rfl, by decide +kernel, tw_at 648 (by decide +kernel) (by decide +kernel)⟩
theorem fl_X8_168 : FL RX8 168 8 25 := ⟨_, rfl, by decide, ui_X8, rfl, Or.inl (tw_at 649 (by decide +kernel) (by decide +kernel))⟩
theorem pl_X8_168 : PL RX8 168 8 25 .int false := ⟨_, tyX8, rfl, by decide, ui_X8, rfl, tyX8_ok, nmX8, rfl, by decide +kernel, tw_at 649 (by decide +kernel) (by decide +kernel)⟩
theorem tc_X7_init : tw (.code yX7_init cX7_init 1 none) := tw_at 47 (by decide +kernel) (by decide +kernel)
theorem tn_X7_init : tw (.initialized (yX7_init).cls) := tw_at 32 (by decide +kernel) (by decide +kernel)
theorem mi_L_9 : MI RL 9 yX7_init cX7_init 1 0 := ⟨⟨Or.inl (tw_at 45 (by decide +kernel) (by decide +kernel)), tc_X7_init, tn_X7_init, ⟨by decide +kernel, by decide +kernel, by decide +kernel⟩, by decide⟩, tw_at 46 (by decide +kernel) (by decide +kernel), rfl⟩
theorem oi_X7_3 : tw (.methodLink RX7 3 objectInit) := tw_at 48 (by decide +kernel) (by decide +kernel)
theorem tc_X1_init : tw (.code yX1_init cX1_init 1 none) := tw_at 55 (by decide +kernel) (by decide +kernel)
theorem tn_X1_init : tw (.initialized (yX1_init).cls) := tw_at 33 (by decide +kernel) (by decide +kernel)
theorem mi_X7_11 : MI RX7 11 yX1_init cX1_init 1 0 := ⟨⟨Or.inl (tw_at 53 (by decide +kernel) (by decide +kernel)), tc_X1_init, tn_X1_init, ⟨by decide +kernel, by decide +kernel, by decide +kernel⟩, by decide⟩, tw_at 54 (by decide +kernel) (by decide +kernel), rfl⟩
theorem oi_X1_3 : tw (.methodLink RX1 3 objectInit) := tw_at 56 (by decide +kernel) (by decide +kernel)
theorem tc_X0_init : tw (.code yX0_init cX0_init 1 none) := tw_at 77 (by decide +kernel) (by decide +kernel)
theorem tn_X0_init : tw (.initialized (yX0_init).cls) := tw_at 34 (by decide +kernel) (by decide +kernel)
theorem mi_X7_18 : MI RX7 18 yX0_init cX0_init 1 0 := ⟨⟨Or.inr ⟨"RoomGone", tw_at 75 (by decide +kernel) (by decide +kernel)⟩, tc_X0_init, tn_X0_init, ⟨by decide +kernel, by decide +kernel, by decide +kernel⟩, by decide⟩, tw_at 76 (by decide +kernel) (by decide +kernel), rfl⟩
theorem oi_X0_3 : tw (.methodLink RX0 3 objectInit) := tw_at 78 (by decide +kernel) (by decide +kernel)
theorem tc_X3_init : tw (.code yX3_init cX3_init 1 none) := tw_at 93 (by decide +kernel) (by decide +kernel)
theorem tn_X3_init : tw (.initialized (yX3_init).cls) := tw_at 35 (by decide +kernel) (by decide +kernel)
theorem mi_X7_25 : MI RX7 25 yX3_init cX3_init 1 0 := ⟨⟨Or.inr ⟨"RoomGone", tw_at 91 (by decide +kernel) (by decide +kernel)⟩, tc_X3_init, tn_X3_init, ⟨by decide +kernel, by decide +kernel, by decide +kernel⟩, by decide⟩, tw_at 92 (by decide +kernel) (by decide +kernel), rfl⟩
theorem oi_X3_3 : tw (.methodLink RX3 3 objectInit) := tw_at 94 (by decide +kernel) (by decide +kernel)
theorem tc_X5_init : tw (.code yX5_init cX5_init 1 none) := tw_at 109 (by decide +kernel) (by decide +kernel)
theorem tn_X5_init : tw (.initialized (yX5_init).cls) := tw_at 36 (by decide +kernel) (by decide +kernel)
theorem mi_X7_32 : MI RX7 32 yX5_init cX5_init 1 0 := ⟨⟨Or.inr ⟨"RoomGone", tw_at 107 (by decide +kernel) (by decide +kernel)⟩, tc_X5_init, tn_X5_init, ⟨by decide +kernel, by decide +kernel, by decide +kernel⟩, by decide⟩, tw_at 108 (by decide +kernel) (by decide +kernel), rfl⟩
theorem oi_X5_3 : tw (.methodLink RX5 3 objectInit) := tw_at 110 (by decide +kernel) (by decide +kernel)
theorem tc_X2_init : tw (.code yX2_init cX2_init 1 none) := tw_at 123 (by decide +kernel) (by decide +kernel)
theorem tn_X2_init : tw (.initialized (yX2_init).cls) := tw_at 37 (by decide +kernel) (by decide +kernel)
theorem mi_X7_39 : MI RX7 39 yX2_init cX2_init 1 0 := ⟨⟨Or.inr ⟨"RoomGone", tw_at 121 (by decide +kernel) (by decide +kernel)⟩, tc_X2_init, tn_X2_init, ⟨by decide +kernel, by decide +kernel, by decide +kernel⟩, by decide⟩, tw_at 122 (by decide +kernel) (by decide +kernel), rfl⟩
theorem oi_X2_3 : tw (.methodLink RX2 3 objectInit) := tw_at 124 (by decide +kernel) (by decide +kernel)
theorem tc_X4_init : tw (.code yX4_init cX4_init 1 none) := tw_at 140 (by decide +kernel) (by decide +kernel)
theorem tn_X4_init : tw (.initialized (yX4_init).cls) := tw_at 38 (by decide +kernel) (by decide +kernel)
theorem mi_X7_46 : MI RX7 46 yX4_init cX4_init 1 0 := ⟨⟨Or.inr ⟨"RoomGone", tw_at 138 (by decide +kernel) (by decide +kernel)⟩, tc_X4_init, tn_X4_init, ⟨by decide +kernel, by decide +kernel, by decide +kernel⟩, by decide⟩, tw_at 139 (by decide +kernel) (by decide +kernel), rfl⟩
theorem oi_X4_3 : tw (.methodLink RX4 3 objectInit) := tw_at 141 (by decide +kernel) (by decide +kernel)
theorem tc_X7_go : tw (.code yX7_go cX7_go 2 (some .int)) := tw_at 194 (by decide +kernel) (by decide +kernel)
theorem tn_X7_go : tw (.initialized (yX7_go).cls) := tw_at 32 (by decide +kernel) (by decide +kernel)
theorem mv_L_13 : MV RL 13 7 yX7_go cX7_go 2 (some .int) 1 := ⟨⟨Or.inl (tw_at 191 (by decide +kernel) (by decide +kernel)), tc_X7_go, tn_X7_go, ⟨by decide +kernel, by decide +kernel, by decide +kernel⟩, by decide⟩, tw_at 192 (by decide +kernel) (by decide +kernel), tw_at 193 (by decide +kernel) (by decide +kernel), by decide +kernel⟩
theorem tc_J9_min_7cf53 : tw (.code yJ9_min_7cf53 cJ9_min_7cf53 2 (some .int)) := tw_at 197 (by decide +kernel) (by decide +kernel)
theorem tn_J9_min_7cf53 : tw (.initialized (yJ9_min_7cf53).cls) := tw_at 40 (by decide +kernel) (by decide +kernel)
theorem ms_X7_58 : MS RX7 58 yJ9_min_7cf53 cJ9_min_7cf53 2 (some .int) 2 := ⟨⟨Or.inl (tw_at 195 (by decide +kernel) (by decide +kernel)), tc_J9_min_7cf53, tn_J9_min_7cf53, ⟨by decide +kernel, by decide +kernel, by decide +kernel⟩, by decide⟩, tw_at 196 (by decide +kernel) (by decide +kernel)⟩
theorem tc_X7_folder : tw (.code yX7_folder cX7_folder 4 (some .int)) := tw_at 201 (by decide +kernel) (by decide +kernel)
theorem tn_X7_folder : tw (.initialized (yX7_folder).cls) := tw_at 32 (by decide +kernel) (by decide +kernel)
theorem mv_L_18 : MV RL 18 7 yX7_folder cX7_folder 4 (some .int) 3 := ⟨⟨Or.inl (tw_at 198 (by decide +kernel) (by decide +kernel)), tc_X7_folder, tn_X7_folder, ⟨by decide +kernel, by decide +kernel, by decide +kernel⟩, by decide⟩, tw_at 199 (by decide +kernel) (by decide +kernel), tw_at 200 (by decide +kernel) (by decide +kernel), by decide +kernel⟩
theorem tc_X1_has : tw (.code yX1_has cX1_has 2 (some .boolean)) := tw_at 205 (by decide +kernel) (by decide +kernel)
theorem tn_X1_has : tw (.initialized (yX1_has).cls) := tw_at 33 (by decide +kernel) (by decide +kernel)
theorem mv_X7_64 : MV RX7 64 1 yX1_has cX1_has 2 (some .boolean) 1 := ⟨⟨Or.inl (tw_at 202 (by decide +kernel) (by decide +kernel)), tc_X1_has, tn_X1_has, ⟨by decide +kernel, by decide +kernel, by decide +kernel⟩, by decide⟩, tw_at 203 (by decide +kernel) (by decide +kernel), tw_at 204 (by decide +kernel) (by decide +kernel), by decide +kernel⟩
theorem tc_X7_isPerson : tw (.code yX7_isPerson cX7_isPerson 1 (some .boolean)) := tw_at 208 (by decide +kernel) (by decide +kernel)
theorem tn_X7_isPerson : tw (.initialized (yX7_isPerson).cls) := tw_at 32 (by decide +kernel) (by decide +kernel)
theorem ms_X7_68 : MS RX7 68 yX7_isPerson cX7_isPerson 1 (some .boolean) 1 := ⟨⟨Or.inl (tw_at 206 (by decide +kernel) (by decide +kernel)), tc_X7_isPerson, tn_X7_isPerson, ⟨by decide +kernel, by decide +kernel, by decide +kernel⟩, by decide⟩, tw_at 207 (by decide +kernel) (by decide +kernel)⟩
theorem tc_X1_add : tw (.code yX1_add cX1_add 4 (some .int)) := tw_at 212 (by decide +kernel) (by decide +kernel)
theorem tn_X1_add : tw (.initialized (yX1_add).cls) := tw_at 33 (by decide +kernel) (by decide +kernel)
theorem mv_X7_71 : MV RX7 71 1 yX1_add cX1_add 4 (some .int) 3 := ⟨⟨Or.inl (tw_at 209 (by decide +kernel) (by decide +kernel)), tc_X1_add, tn_X1_add, ⟨by decide +kernel, by decide +kernel, by decide +kernel⟩, by decide⟩, tw_at 210 (by decide +kernel) (by decide +kernel), tw_at 211 (by decide +kernel) (by decide +kernel), by decide +kernel⟩
theorem tc_X7_move : tw (.code yX7_move cX7_move 3 (some .boolean)) := tw_at 216 (by decide +kernel) (by decide +kernel)
theorem tn_X7_move : tw (.initialized (yX7_move).cls) := tw_at 32 (by decide +kernel) (by decide +kernel)
theorem mv_L_23 : MV RL 23 7 yX7_move cX7_move 3 (some .boolean) 2 := ⟨⟨Or.inl (tw_at 213 (by decide +kernel) (by decide +kernel)), tc_X7_move, tn_X7_move, ⟨by decide +kernel, by decide +kernel, by decide +kernel⟩, by decide⟩, tw_at 214 (by decide +kernel) (by decide +kernel), tw_at 215 (by decide +kernel) (by decide +kernel), by decide +kernel⟩
theorem tc_X1_isInTree : tw (.code yX1_isInTree cX1_isInTree 5 (some .boolean)) := tw_at 220 (by decide +kernel) (by decide +kernel)
theorem tn_X1_isInTree : tw (.initialized (yX1_isInTree).cls) := tw_at 33 (by decide +kernel) (by decide +kernel)
theorem mv_X7_75 : MV RX7 75 1 yX1_isInTree cX1_isInTree 5 (some .boolean) 2 := ⟨⟨Or.inl (tw_at 217 (by decide +kernel) (by decide +kernel)), tc_X1_isInTree, tn_X1_isInTree, ⟨by decide +kernel, by decide +kernel, by decide +kernel⟩, by decide⟩, tw_at 218 (by decide +kernel) (by decide +kernel), tw_at 219 (by decide +kernel) (by decide +kernel), by decide +kernel⟩
theorem mv_X1_26 : MV RX1 26 1 yX1_has cX1_has 2 (some .boolean) 1 := ⟨⟨Or.inl (tw_at 221 (by decide +kernel) (by decide +kernel)), tc_X1_has, tn_X1_has, ⟨by decide +kernel, by decide +kernel, by decide +kernel⟩, by decide⟩, tw_at 203 (by decide +kernel) (by decide +kernel), tw_at 204 (by decide +kernel) (by decide +kernel), by decide +kernel⟩
theorem tc_X1_putIn : tw (.code yX1_putIn cX1_putIn 3 none) := tw_at 225 (by decide +kernel) (by decide +kernel)
theorem tn_X1_putIn : tw (.initialized (yX1_putIn).cls) := tw_at 33 (by decide +kernel) (by decide +kernel)
theorem mv_X7_79 : MV RX7 79 1 yX1_putIn cX1_putIn 3 none 2 := ⟨⟨Or.inl (tw_at 222 (by decide +kernel) (by decide +kernel)), tc_X1_putIn, tn_X1_putIn, ⟨by decide +kernel, by decide +kernel, by decide +kernel⟩, by decide⟩, tw_at 223 (by decide +kernel) (by decide +kernel), tw_at 224 (by decide +kernel) (by decide +kernel), by decide +kernel⟩
theorem tc_X7_file : tw (.code yX7_file cX7_file 4 (some .int)) := tw_at 229 (by decide +kernel) (by decide +kernel)
theorem tn_X7_file : tw (.initialized (yX7_file).cls) := tw_at 32 (by decide +kernel) (by decide +kernel)
theorem mv_L_28 : MV RL 28 7 yX7_file cX7_file 4 (some .int) 3 := ⟨⟨Or.inl (tw_at 226 (by decide +kernel) (by decide +kernel)), tc_X7_file, tn_X7_file, ⟨by decide +kernel, by decide +kernel, by decide +kernel⟩, by decide⟩, tw_at 227 (by decide +kernel) (by decide +kernel), tw_at 228 (by decide +kernel) (by decide +kernel), by decide +kernel⟩
theorem tc_X7_canTakeFile : tw (.code yX7_canTakeFile cX7_canTakeFile 1 (some .boolean)) := tw_at 233 (by decide +kernel) (by decide +kernel)
theorem tn_X7_canTakeFile : tw (.initialized (yX7_canTakeFile).cls) := tw_at 32 (by decide +kernel) (by decide +kernel)
theorem mv_X7_83 : MV RX7 83 7 yX7_canTakeFile cX7_canTakeFile 1 (some .boolean) 0 := ⟨⟨Or.inl (tw_at 230 (by decide +kernel) (by decide +kernel)), tc_X7_canTakeFile, tn_X7_canTakeFile, ⟨by decide +kernel, by decide +kernel, by decide +kernel⟩, by decide⟩, tw_at 232 (by decide +kernel) (by decide +kernel), tw_at 0 (by decide +kernel) (by decide +kernel), by decide +kernel⟩
theorem tc_X0_hasRoom : tw (.code yX0_hasRoom cX0_hasRoom 1 (some .boolean)) := tw_at 237 (by decide +kernel) (by decide +kernel)
theorem tn_X0_hasRoom : tw (.initialized (yX0_hasRoom).cls) := tw_at 34 (by decide +kernel) (by decide +kernel)
theorem mv_X7_249 : MV RX7 249 0 yX0_hasRoom cX0_hasRoom 1 (some .boolean) 0 := ⟨⟨Or.inl (tw_at 234 (by decide +kernel) (by decide +kernel)), tc_X0_hasRoom, tn_X0_hasRoom, ⟨by decide +kernel, by decide +kernel, by decide +kernel⟩, by decide⟩, tw_at 235 (by decide +kernel) (by decide +kernel), tw_at 236 (by decide +kernel) (by decide +kernel), by decide +kernel⟩
theorem tc_X3_hasRoom : tw (.code yX3_hasRoom cX3_hasRoom 1 (some .boolean)) := tw_at 241 (by decide +kernel) (by decide +kernel)
theorem tn_X3_hasRoom : tw (.initialized (yX3_hasRoom).cls) := tw_at 35 (by decide +kernel) (by decide +kernel)
theorem mv_X7_252 : MV RX7 252 3 yX3_hasRoom cX3_hasRoom 1 (some .boolean) 0 := ⟨⟨Or.inl (tw_at 238 (by decide +kernel) (by decide +kernel)), tc_X3_hasRoom, tn_X3_hasRoom, ⟨by decide +kernel, by decide +kernel, by decide +kernel⟩, by decide⟩, tw_at 239 (by decide +kernel) (by decide +kernel), tw_at 240 (by decide +kernel) (by decide +kernel), by decide +kernel⟩
theorem tc_X6_init : tw (.code yX6_init cX6_init 4 none) := tw_at 246 (by decide +kernel) (by decide +kernel)
theorem tn_X6_init : tw (.initialized (yX6_init).cls) := tw_at 41 (by decide +kernel) (by decide +kernel)
theorem mi_X7_89 : MI RX7 89 yX6_init cX6_init 4 3 := ⟨⟨Or.inl (tw_at 244 (by decide +kernel) (by decide +kernel)), tc_X6_init, tn_X6_init, ⟨by decide +kernel, by decide +kernel, by decide +kernel⟩, by decide⟩, tw_at 245 (by decide +kernel) (by decide +kernel), rfl⟩
theorem oi_X6_3 : tw (.methodLink RX6 3 objectInit) := tw_at 247 (by decide +kernel) (by decide +kernel)
theorem tc_X0_add : tw (.code yX0_add cX0_add 2 (some .int)) := tw_at 279 (by decide +kernel) (by decide +kernel)
theorem tn_X0_add : tw (.initialized (yX0_add).cls) := tw_at 34 (by decide +kernel) (by decide +kernel)
theorem mv_X7_92 : MV RX7 92 0 yX0_add cX0_add 2 (some .int) 1 := ⟨⟨Or.inl (tw_at 276 (by decide +kernel) (by decide +kernel)), tc_X0_add, tn_X0_add, ⟨by decide +kernel, by decide +kernel, by decide +kernel⟩, by decide⟩, tw_at 277 (by decide +kernel) (by decide +kernel), tw_at 278 (by decide +kernel) (by decide +kernel), by decide +kernel⟩
theorem mv_X0_21 : MV RX0 21 0 yX0_hasRoom cX0_hasRoom 1 (some .boolean) 0 := ⟨⟨Or.inl (tw_at 280 (by decide +kernel) (by decide +kernel)), tc_X0_hasRoom, tn_X0_hasRoom, ⟨by decide +kernel, by decide +kernel, by decide +kernel⟩, by decide⟩, tw_at 235 (by decide +kernel) (by decide +kernel), tw_at 236 (by decide +kernel) (by decide +kernel), by decide +kernel⟩
theorem tc_X3_add : tw (.code yX3_add cX3_add 3 (some .int)) := tw_at 284 (by decide +kernel) (by decide +kernel)
theorem tn_X3_add : tw (.initialized (yX3_add).cls) := tw_at 35 (by decide +kernel) (by decide +kernel)
theorem mv_X7_95 : MV RX7 95 3 yX3_add cX3_add 3 (some .int) 2 := ⟨⟨Or.inl (tw_at 281 (by decide +kernel) (by decide +kernel)), tc_X3_add, tn_X3_add, ⟨by decide +kernel, by decide +kernel, by decide +kernel⟩, by decide⟩, tw_at 282 (by decide +kernel) (by decide +kernel), tw_at 283 (by decide +kernel) (by decide +kernel), by decide +kernel⟩
theorem mv_X3_22 : MV RX3 22 3 yX3_hasRoom cX3_hasRoom 1 (some .boolean) 0 := ⟨⟨Or.inl (tw_at 285 (by decide +kernel) (by decide +kernel)), tc_X3_hasRoom, tn_X3_hasRoom, ⟨by decide +kernel, by decide +kernel, by decide +kernel⟩, by decide⟩, tw_at 239 (by decide +kernel) (by decide +kernel), tw_at 240 (by decide +kernel) (by decide +kernel), by decide +kernel⟩
theorem tc_X7_copy : tw (.code yX7_copy cX7_copy 4 (some .int)) := tw_at 289 (by decide +kernel) (by decide +kernel)
theorem tn_X7_copy : tw (.initialized (yX7_copy).cls) := tw_at 32 (by decide +kernel) (by decide +kernel)
theorem mv_L_33 : MV RL 33 7 yX7_copy cX7_copy 4 (some .int) 2 := ⟨⟨Or.inl (tw_at 286 (by decide +kernel) (by decide +kernel)), tc_X7_copy, tn_X7_copy, ⟨by decide +kernel, by decide +kernel, by decide +kernel⟩, by decide⟩, tw_at 287 (by decide +kernel) (by decide +kernel), tw_at 288 (by decide +kernel) (by decide +kernel), by decide +kernel⟩
theorem tc_X3_fileOf : tw (.code yX3_fileOf cX3_fileOf 2 (some .int)) := tw_at 293 (by decide +kernel) (by decide +kernel)
theorem tn_X3_fileOf : tw (.initialized (yX3_fileOf).cls) := tw_at 35 (by decide +kernel) (by decide +kernel)
theorem mv_X7_97 : MV RX7 97 3 yX3_fileOf cX3_fileOf 2 (some .int) 1 := ⟨⟨Or.inl (tw_at 290 (by decide +kernel) (by decide +kernel)), tc_X3_fileOf, tn_X3_fileOf, ⟨by decide +kernel, by decide +kernel, by decide +kernel⟩, by decide⟩, tw_at 291 (by decide +kernel) (by decide +kernel), tw_at 292 (by decide +kernel) (by decide +kernel), by decide +kernel⟩
theorem tc_X0_find : tw (.code yX0_find cX0_find 2 (some (.object "RoomGone$StoredFile"))) := tw_at 297 (by decide +kernel) (by decide +kernel)
theorem tn_X0_find : tw (.initialized (yX0_find).cls) := tw_at 34 (by decide +kernel) (by decide +kernel)
theorem mv_X7_101 : MV RX7 101 0 yX0_find cX0_find 2 (some (.object "RoomGone$StoredFile")) 1 := ⟨⟨Or.inl (tw_at 294 (by decide +kernel) (by decide +kernel)), tc_X0_find, tn_X0_find, ⟨by decide +kernel, by decide +kernel, by decide +kernel⟩, by decide⟩, tw_at 295 (by decide +kernel) (by decide +kernel), tw_at 296 (by decide +kernel) (by decide +kernel), by decide +kernel⟩
theorem tc_X6_duplicate : tw (.code yX6_duplicate cX6_duplicate 4 (some (.object "RoomGone$StoredFile"))) := tw_at 301 (by decide +kernel) (by decide +kernel)
theorem tn_X6_duplicate : tw (.initialized (yX6_duplicate).cls) := tw_at 41 (by decide +kernel) (by decide +kernel)
theorem mv_X7_105 : MV RX7 105 6 yX6_duplicate cX6_duplicate 4 (some (.object "RoomGone$StoredFile")) 1 := ⟨⟨Or.inl (tw_at 298 (by decide +kernel) (by decide +kernel)), tc_X6_duplicate, tn_X6_duplicate, ⟨by decide +kernel, by decide +kernel, by decide +kernel⟩, by decide⟩, tw_at 299 (by decide +kernel) (by decide +kernel), tw_at 300 (by decide +kernel) (by decide +kernel), by decide +kernel⟩
theorem mi_X6_25 : MI RX6 25 yX6_init cX6_init 4 3 := ⟨⟨Or.inl (tw_at 303 (by decide +kernel) (by decide +kernel)), tc_X6_init, tn_X6_init, ⟨by decide +kernel, by decide +kernel, by decide +kernel⟩, by decide⟩, tw_at 245 (by decide +kernel) (by decide +kernel), rfl⟩
theorem tc_X7_link : tw (.code yX7_link cX7_link 3 (some .int)) := tw_at 307 (by decide +kernel) (by decide +kernel)
theorem tn_X7_link : tw (.initialized (yX7_link).cls) := tw_at 32 (by decide +kernel) (by decide +kernel)
theorem mv_L_38 : MV RL 38 7 yX7_link cX7_link 3 (some .int) 2 := ⟨⟨Or.inl (tw_at 304 (by decide +kernel) (by decide +kernel)), tc_X7_link, tn_X7_link, ⟨by decide +kernel, by decide +kernel, by decide +kernel⟩, by decide⟩, tw_at 305 (by decide +kernel) (by decide +kernel), tw_at 306 (by decide +kernel) (by decide +kernel), by decide +kernel⟩
theorem tc_X7_unlink : tw (.code yX7_unlink cX7_unlink 3 (some .boolean)) := tw_at 311 (by decide +kernel) (by decide +kernel)
theorem tn_X7_unlink : tw (.initialized (yX7_unlink).cls) := tw_at 32 (by decide +kernel) (by decide +kernel)
theorem mv_L_42 : MV RL 42 7 yX7_unlink cX7_unlink 3 (some .boolean) 1 := ⟨⟨Or.inl (tw_at 308 (by decide +kernel) (by decide +kernel)), tc_X7_unlink, tn_X7_unlink, ⟨by decide +kernel, by decide +kernel, by decide +kernel⟩, by decide⟩, tw_at 309 (by decide +kernel) (by decide +kernel), tw_at 310 (by decide +kernel) (by decide +kernel), by decide +kernel⟩
theorem tc_X3_remove : tw (.code yX3_remove cX3_remove 2 none) := tw_at 315 (by decide +kernel) (by decide +kernel)
theorem tn_X3_remove : tw (.initialized (yX3_remove).cls) := tw_at 35 (by decide +kernel) (by decide +kernel)
theorem mv_X7_108 : MV RX7 108 3 yX3_remove cX3_remove 2 none 1 := ⟨⟨Or.inl (tw_at 312 (by decide +kernel) (by decide +kernel)), tc_X3_remove, tn_X3_remove, ⟨by decide +kernel, by decide +kernel, by decide +kernel⟩, by decide⟩, tw_at 313 (by decide +kernel) (by decide +kernel), tw_at 314 (by decide +kernel) (by decide +kernel), by decide +kernel⟩
theorem tc_X3_countOf : tw (.code yX3_countOf cX3_countOf 4 (some .int)) := tw_at 319 (by decide +kernel) (by decide +kernel)
theorem tn_X3_countOf : tw (.initialized (yX3_countOf).cls) := tw_at 35 (by decide +kernel) (by decide +kernel)
theorem mv_X7_112 : MV RX7 112 3 yX3_countOf cX3_countOf 4 (some .int) 1 := ⟨⟨Or.inl (tw_at 316 (by decide +kernel) (by decide +kernel)), tc_X3_countOf, tn_X3_countOf, ⟨by decide +kernel, by decide +kernel, by decide +kernel⟩, by decide⟩, tw_at 317 (by decide +kernel) (by decide +kernel), tw_at 318 (by decide +kernel) (by decide +kernel), by decide +kernel⟩
theorem tc_X0_forget : tw (.code yX0_forget cX0_forget 2 none) := tw_at 323 (by decide +kernel) (by decide +kernel)
theorem tn_X0_forget : tw (.initialized (yX0_forget).cls) := tw_at 34 (by decide +kernel) (by decide +kernel)
theorem mv_X7_115 : MV RX7 115 0 yX0_forget cX0_forget 2 none 1 := ⟨⟨Or.inl (tw_at 320 (by decide +kernel) (by decide +kernel)), tc_X0_forget, tn_X0_forget, ⟨by decide +kernel, by decide +kernel, by decide +kernel⟩, by decide⟩, tw_at 321 (by decide +kernel) (by decide +kernel), tw_at 322 (by decide +kernel) (by decide +kernel), by decide +kernel⟩
theorem tc_X7_of : tw (.code yX7_of cX7_of 2 (some .int)) := tw_at 327 (by decide +kernel) (by decide +kernel)
theorem tn_X7_of : tw (.initialized (yX7_of).cls) := tw_at 32 (by decide +kernel) (by decide +kernel)
theorem mv_L_47 : MV RL 47 7 yX7_of cX7_of 2 (some .int) 1 := ⟨⟨Or.inl (tw_at 324 (by decide +kernel) (by decide +kernel)), tc_X7_of, tn_X7_of, ⟨by decide +kernel, by decide +kernel, by decide +kernel⟩, by decide⟩, tw_at 325 (by decide +kernel) (by decide +kernel), tw_at 326 (by decide +kernel) (by decide +kernel), by decide +kernel⟩
theorem tc_X7_write : tw (.code yX7_write cX7_write 7 (some .int)) := tw_at 331 (by decide +kernel) (by decide +kernel)
theorem tn_X7_write : tw (.initialized (yX7_write).cls) := tw_at 32 (by decide +kernel) (by decide +kernel)
theorem mv_L_51 : MV RL 51 7 yX7_write cX7_write 7 (some .int) 2 := ⟨⟨Or.inl (tw_at 328 (by decide +kernel) (by decide +kernel)), tc_X7_write, tn_X7_write, ⟨by decide +kernel, by decide +kernel, by decide +kernel⟩, by decide⟩, tw_at 329 (by decide +kernel) (by decide +kernel), tw_at 330 (by decide +kernel) (by decide +kernel), by decide +kernel⟩
theorem tc_X6_canPutAt : tw (.code yX6_canPutAt cX6_canPutAt 2 (some .boolean)) := tw_at 335 (by decide +kernel) (by decide +kernel)
theorem tn_X6_canPutAt : tw (.initialized (yX6_canPutAt).cls) := tw_at 41 (by decide +kernel) (by decide +kernel)
theorem mv_X7_118 : MV RX7 118 6 yX6_canPutAt cX6_canPutAt 2 (some .boolean) 1 := ⟨⟨Or.inl (tw_at 332 (by decide +kernel) (by decide +kernel)), tc_X6_canPutAt, tn_X6_canPutAt, ⟨by decide +kernel, by decide +kernel, by decide +kernel⟩, by decide⟩, tw_at 333 (by decide +kernel) (by decide +kernel), tw_at 334 (by decide +kernel) (by decide +kernel), by decide +kernel⟩
theorem tc_X7_blocksHad : tw (.code yX7_blocksHad cX7_blocksHad 1 (some .long)) := tw_at 339 (by decide +kernel) (by decide +kernel)
theorem tn_X7_blocksHad : tw (.initialized (yX7_blocksHad).cls) := tw_at 32 (by decide +kernel) (by decide +kernel)
theorem mv_X7_121 : MV RX7 121 7 yX7_blocksHad cX7_blocksHad 1 (some .long) 0 := ⟨⟨Or.inl (tw_at 336 (by decide +kernel) (by decide +kernel)), tc_X7_blocksHad, tn_X7_blocksHad, ⟨by decide +kernel, by decide +kernel, by decide +kernel⟩, by decide⟩, tw_at 338 (by decide +kernel) (by decide +kernel), tw_at 1 (by decide +kernel) (by decide +kernel), by decide +kernel⟩
theorem tc_X0_hadBy : tw (.code yX0_hadBy cX0_hadBy 7 (some .long)) := tw_at 344 (by decide +kernel) (by decide +kernel)
theorem tn_X0_hadBy : tw (.initialized (yX0_hadBy).cls) := tw_at 34 (by decide +kernel) (by decide +kernel)
theorem mv_X7_156 : MV RX7 156 0 yX0_hadBy cX0_hadBy 7 (some .long) 1 := ⟨⟨Or.inl (tw_at 341 (by decide +kernel) (by decide +kernel)), tc_X0_hadBy, tn_X0_hadBy, ⟨by decide +kernel, by decide +kernel, by decide +kernel⟩, by decide⟩, tw_at 342 (by decide +kernel) (by decide +kernel), tw_at 343 (by decide +kernel) (by decide +kernel), by decide +kernel⟩
theorem mv_X0_25 : MV RX0 25 0 yX0_find cX0_find 2 (some (.object "RoomGone$StoredFile")) 1 := ⟨⟨Or.inl (tw_at 345 (by decide +kernel) (by decide +kernel)), tc_X0_find, tn_X0_find, ⟨by decide +kernel, by decide +kernel, by decide +kernel⟩, by decide⟩, tw_at 295 (by decide +kernel) (by decide +kernel), tw_at 296 (by decide +kernel) (by decide +kernel), by decide +kernel⟩
theorem tc_X7_isMember : tw (.code yX7_isMember cX7_isMember 3 (some .boolean)) := tw_at 348 (by decide +kernel) (by decide +kernel)
theorem tn_X7_isMember : tw (.initialized (yX7_isMember).cls) := tw_at 32 (by decide +kernel) (by decide +kernel)
theorem ms_X0_29 : MS RX0 29 yX7_isMember cX7_isMember 3 (some .boolean) 2 := ⟨⟨Or.inr ⟨"RoomGone", tw_at 346 (by decide +kernel) (by decide +kernel)⟩, tc_X7_isMember, tn_X7_isMember, ⟨by decide +kernel, by decide +kernel, by decide +kernel⟩, by decide⟩, tw_at 347 (by decide +kernel) (by decide +kernel)⟩
theorem tc_X5_heldBesides : tw (.code yX5_heldBesides cX5_heldBesides 5 (some .long)) := tw_at 352 (by decide +kernel) (by decide +kernel)
theorem tn_X5_heldBesides : tw (.initialized (yX5_heldBesides).cls) := tw_at 36 (by decide +kernel) (by decide +kernel)
theorem mv_X7_253 : MV RX7 253 5 yX5_heldBesides cX5_heldBesides 5 (some .long) 1 := ⟨⟨Or.inl (tw_at 349 (by decide +kernel) (by decide +kernel)), tc_X5_heldBesides, tn_X5_heldBesides, ⟨by decide +kernel, by decide +kernel, by decide +kernel⟩, by decide⟩, tw_at 350 (by decide +kernel) (by decide +kernel), tw_at 351 (by decide +kernel) (by decide +kernel), by decide +kernel⟩
theorem tc_X5_heldBy : tw (.code yX5_heldBy cX5_heldBy 2 (some .long)) := tw_at 356 (by decide +kernel) (by decide +kernel)
theorem tn_X5_heldBy : tw (.initialized (yX5_heldBy).cls) := tw_at 36 (by decide +kernel) (by decide +kernel)
theorem mv_X5_23 : MV RX5 23 5 yX5_heldBy cX5_heldBy 2 (some .long) 1 := ⟨⟨Or.inl (tw_at 353 (by decide +kernel) (by decide +kernel)), tc_X5_heldBy, tn_X5_heldBy, ⟨by decide +kernel, by decide +kernel, by decide +kernel⟩, by decide⟩, tw_at 354 (by decide +kernel) (by decide +kernel), tw_at 355 (by decide +kernel) (by decide +kernel), by decide +kernel⟩
theorem tc_X5_has : tw (.code yX5_has cX5_has 2 (some .boolean)) := tw_at 360 (by decide +kernel) (by decide +kernel)
theorem tn_X5_has : tw (.initialized (yX5_has).cls) := tw_at 36 (by decide +kernel) (by decide +kernel)
theorem mv_X5_19 : MV RX5 19 5 yX5_has cX5_has 2 (some .boolean) 1 := ⟨⟨Or.inl (tw_at 357 (by decide +kernel) (by decide +kernel)), tc_X5_has, tn_X5_has, ⟨by decide +kernel, by decide +kernel, by decide +kernel⟩, by decide⟩, tw_at 358 (by decide +kernel) (by decide +kernel), tw_at 359 (by decide +kernel) (by decide +kernel), by decide +kernel⟩
theorem tc_J13_bitCount_95d88 : tw (.code yJ13_bitCount_95d88 cJ13_bitCount_95d88 2 (some .int)) := tw_at 363 (by decide +kernel) (by decide +kernel)
theorem tn_J13_bitCount_95d88 : tw (.initialized (yJ13_bitCount_95d88).cls) := tw_at 42 (by decide +kernel) (by decide +kernel)
theorem ms_X7_125 : MS RX7 125 yJ13_bitCount_95d88 cJ13_bitCount_95d88 2 (some .int) 1 := ⟨⟨Or.inl (tw_at 361 (by decide +kernel) (by decide +kernel)), tc_J13_bitCount_95d88, tn_J13_bitCount_95d88, ⟨by decide +kernel, by decide +kernel, by decide +kernel⟩, by decide⟩, tw_at 362 (by decide +kernel) (by decide +kernel)⟩
theorem tc_X7_memberOf : tw (.code yX7_memberOf cX7_memberOf 6 (some .int)) := tw_at 369 (by decide +kernel) (by decide +kernel)
theorem tn_X7_memberOf : tw (.initialized (yX7_memberOf).cls) := tw_at 32 (by decide +kernel) (by decide +kernel)
theorem ms_X7_133 : MS RX7 133 yX7_memberOf cX7_memberOf 6 (some .int) 3 := ⟨⟨Or.inl (tw_at 367 (by decide +kernel) (by decide +kernel)), tc_X7_memberOf, tn_X7_memberOf, ⟨by decide +kernel, by decide +kernel, by decide +kernel⟩, by decide⟩, tw_at 368 (by decide +kernel) (by decide +kernel)⟩
theorem ms_X7_245 : MS RX7 245 yX7_isMember cX7_isMember 3 (some .boolean) 2 := ⟨⟨Or.inl (tw_at 370 (by decide +kernel) (by decide +kernel)), tc_X7_isMember, tn_X7_isMember, ⟨by decide +kernel, by decide +kernel, by decide +kernel⟩, by decide⟩, tw_at 347 (by decide +kernel) (by decide +kernel)⟩
theorem tc_X6_put : tw (.code yX6_put cX6_put 4 none) := tw_at 374 (by decide +kernel) (by decide +kernel)
theorem tn_X6_put : tw (.initialized (yX6_put).cls) := tw_at 41 (by decide +kernel) (by decide +kernel)
theorem mv_X7_137 : MV RX7 137 6 yX6_put cX6_put 4 none 3 := ⟨⟨Or.inl (tw_at 371 (by decide +kernel) (by decide +kernel)), tc_X6_put, tn_X6_put, ⟨by decide +kernel, by decide +kernel, by decide +kernel⟩, by decide⟩, tw_at 372 (by decide +kernel) (by decide +kernel), tw_at 373 (by decide +kernel) (by decide +kernel), by decide +kernel⟩
theorem mv_X6_35 : MV RX6 35 6 yX6_canPutAt cX6_canPutAt 2 (some .boolean) 1 := ⟨⟨Or.inl (tw_at 375 (by decide +kernel) (by decide +kernel)), tc_X6_canPutAt, tn_X6_canPutAt, ⟨by decide +kernel, by decide +kernel, by decide +kernel⟩, by decide⟩, tw_at 333 (by decide +kernel) (by decide +kernel), tw_at 334 (by decide +kernel) (by decide +kernel), by decide +kernel⟩
theorem tc_J9_max_7cf53 : tw (.code yJ9_max_7cf53 cJ9_max_7cf53 2 (some .int)) := tw_at 378 (by decide +kernel) (by decide +kernel)
theorem tn_J9_max_7cf53 : tw (.initialized (yJ9_max_7cf53).cls) := tw_at 40 (by decide +kernel) (by decide +kernel)
theorem ms_X6_39 : MS RX6 39 yJ9_max_7cf53 cJ9_max_7cf53 2 (some .int) 2 := ⟨⟨Or.inl (tw_at 376 (by decide +kernel) (by decide +kernel)), tc_J9_max_7cf53, tn_J9_max_7cf53, ⟨by decide +kernel, by decide +kernel, by decide +kernel⟩, by decide⟩, tw_at 377 (by decide +kernel) (by decide +kernel)⟩
theorem tc_X6_noteChange : tw (.code yX6_noteChange cX6_noteChange 4 none) := tw_at 382 (by decide +kernel) (by decide +kernel)
theorem tn_X6_noteChange : tw (.initialized (yX6_noteChange).cls) := tw_at 41 (by decide +kernel) (by decide +kernel)
theorem mv_X6_45 : MV RX6 45 6 yX6_noteChange cX6_noteChange 4 none 1 := ⟨⟨Or.inl (tw_at 379 (by decide +kernel) (by decide +kernel)), tc_X6_noteChange, tn_X6_noteChange, ⟨by decide +kernel, by decide +kernel, by decide +kernel⟩, by decide⟩, tw_at 381 (by decide +kernel) (by decide +kernel), tw_at 2 (by decide +kernel) (by decide +kernel), by decide +kernel⟩
theorem tc_X6_blockAt : tw (.code yX6_blockAt cX6_blockAt 2 (some .int)) := tw_at 386 (by decide +kernel) (by decide +kernel)
theorem tn_X6_blockAt : tw (.initialized (yX6_blockAt).cls) := tw_at 41 (by decide +kernel) (by decide +kernel)
theorem mv_X6_49 : MV RX6 49 6 yX6_blockAt cX6_blockAt 2 (some .int) 1 := ⟨⟨Or.inl (tw_at 383 (by decide +kernel) (by decide +kernel)), tc_X6_blockAt, tn_X6_blockAt, ⟨by decide +kernel, by decide +kernel, by decide +kernel⟩, by decide⟩, tw_at 384 (by decide +kernel) (by decide +kernel), tw_at 385 (by decide +kernel) (by decide +kernel), by decide +kernel⟩
theorem tc_X7_hole : tw (.code yX7_hole cX7_hole 4 (some .boolean)) := tw_at 390 (by decide +kernel) (by decide +kernel)
theorem tn_X7_hole : tw (.initialized (yX7_hole).cls) := tw_at 32 (by decide +kernel) (by decide +kernel)
theorem mv_L_55 : MV RL 55 7 yX7_hole cX7_hole 4 (some .boolean) 2 := ⟨⟨Or.inl (tw_at 387 (by decide +kernel) (by decide +kernel)), tc_X7_hole, tn_X7_hole, ⟨by decide +kernel, by decide +kernel, by decide +kernel⟩, by decide⟩, tw_at 388 (by decide +kernel) (by decide +kernel), tw_at 389 (by decide +kernel) (by decide +kernel), by decide +kernel⟩
theorem tc_X7_share : tw (.code yX7_share cX7_share 8 (some .boolean)) := tw_at 394 (by decide +kernel) (by decide +kernel)
theorem tn_X7_share : tw (.initialized (yX7_share).cls) := tw_at 32 (by decide +kernel) (by decide +kernel)
theorem mv_L_59 : MV RL 59 7 yX7_share cX7_share 8 (some .boolean) 4 := ⟨⟨Or.inl (tw_at 391 (by decide +kernel) (by decide +kernel)), tc_X7_share, tn_X7_share, ⟨by decide +kernel, by decide +kernel, by decide +kernel⟩, by decide⟩, tw_at 392 (by decide +kernel) (by decide +kernel), tw_at 393 (by decide +kernel) (by decide +kernel), by decide +kernel⟩
theorem mv_X7_140 : MV RX7 140 6 yX6_blockAt cX6_blockAt 2 (some .int) 1 := ⟨⟨Or.inl (tw_at 395 (by decide +kernel) (by decide +kernel)), tc_X6_blockAt, tn_X6_blockAt, ⟨by decide +kernel, by decide +kernel, by decide +kernel⟩, by decide⟩, tw_at 384 (by decide +kernel) (by decide +kernel), tw_at 385 (by decide +kernel) (by decide +kernel), by decide +kernel⟩
theorem tc_X7_cut : tw (.code yX7_cut cX7_cut 4 (some .boolean)) := tw_at 399 (by decide +kernel) (by decide +kernel)
theorem tn_X7_cut : tw (.initialized (yX7_cut).cls) := tw_at 32 (by decide +kernel) (by decide +kernel)
theorem mv_L_64 : MV RL 64 7 yX7_cut cX7_cut 4 (some .boolean) 2 := ⟨⟨Or.inl (tw_at 396 (by decide +kernel) (by decide +kernel)), tc_X7_cut, tn_X7_cut, ⟨by decide +kernel, by decide +kernel, by decide +kernel⟩, by decide⟩, tw_at 397 (by decide +kernel) (by decide +kernel), tw_at 398 (by decide +kernel) (by decide +kernel), by decide +kernel⟩
theorem tc_X6_shorten : tw (.code yX6_shorten cX6_shorten 3 none) := tw_at 403 (by decide +kernel) (by decide +kernel)
theorem tn_X6_shorten : tw (.initialized (yX6_shorten).cls) := tw_at 41 (by decide +kernel) (by decide +kernel)
theorem mv_X7_146 : MV RX7 146 6 yX6_shorten cX6_shorten 3 none 2 := ⟨⟨Or.inl (tw_at 400 (by decide +kernel) (by decide +kernel)), tc_X6_shorten, tn_X6_shorten, ⟨by decide +kernel, by decide +kernel, by decide +kernel⟩, by decide⟩, tw_at 401 (by decide +kernel) (by decide +kernel), tw_at 402 (by decide +kernel) (by decide +kernel), by decide +kernel⟩
theorem tc_X7_block : tw (.code yX7_block cX7_block 4 (some .int)) := tw_at 407 (by decide +kernel) (by decide +kernel)
theorem tn_X7_block : tw (.initialized (yX7_block).cls) := tw_at 32 (by decide +kernel) (by decide +kernel)
theorem mv_L_68 : MV RL 68 7 yX7_block cX7_block 4 (some .int) 2 := ⟨⟨Or.inl (tw_at 404 (by decide +kernel) (by decide +kernel)), tc_X7_block, tn_X7_block, ⟨by decide +kernel, by decide +kernel, by decide +kernel⟩, by decide⟩, tw_at 405 (by decide +kernel) (by decide +kernel), tw_at 406 (by decide +kernel) (by decide +kernel), by decide +kernel⟩
theorem tc_X7_sum : tw (.code yX7_sum cX7_sum 6 (some .int)) := tw_at 411 (by decide +kernel) (by decide +kernel)
theorem tn_X7_sum : tw (.initialized (yX7_sum).cls) := tw_at 32 (by decide +kernel) (by decide +kernel)
theorem mv_L_72 : MV RL 72 7 yX7_sum cX7_sum 6 (some .int) 3 := ⟨⟨Or.inl (tw_at 408 (by decide +kernel) (by decide +kernel)), tc_X7_sum, tn_X7_sum, ⟨by decide +kernel, by decide +kernel, by decide +kernel⟩, by decide⟩, tw_at 409 (by decide +kernel) (by decide +kernel), tw_at 410 (by decide +kernel) (by decide +kernel), by decide +kernel⟩
theorem tc_X1_maySum : tw (.code yX1_maySum cX1_maySum 3 (some .boolean)) := tw_at 415 (by decide +kernel) (by decide +kernel)
theorem tn_X1_maySum : tw (.initialized (yX1_maySum).cls) := tw_at 33 (by decide +kernel) (by decide +kernel)
theorem mv_X7_149 : MV RX7 149 1 yX1_maySum cX1_maySum 3 (some .boolean) 2 := ⟨⟨Or.inl (tw_at 412 (by decide +kernel) (by decide +kernel)), tc_X1_maySum, tn_X1_maySum, ⟨by decide +kernel, by decide +kernel, by decide +kernel⟩, by decide⟩, tw_at 413 (by decide +kernel) (by decide +kernel), tw_at 414 (by decide +kernel) (by decide +kernel), by decide +kernel⟩
theorem tc_X1_isSeen : tw (.code yX1_isSeen cX1_isSeen 5 (some .boolean)) := tw_at 419 (by decide +kernel) (by decide +kernel)
theorem tn_X1_isSeen : tw (.initialized (yX1_isSeen).cls) := tw_at 33 (by decide +kernel) (by decide +kernel)
theorem mv_X1_34 : MV RX1 34 1 yX1_isSeen cX1_isSeen 5 (some .boolean) 2 := ⟨⟨Or.inl (tw_at 416 (by decide +kernel) (by decide +kernel)), tc_X1_isSeen, tn_X1_isSeen, ⟨by decide +kernel, by decide +kernel, by decide +kernel⟩, by decide⟩, tw_at 417 (by decide +kernel) (by decide +kernel), tw_at 418 (by decide +kernel) (by decide +kernel), by decide +kernel⟩
theorem tc_X7_filesOfTree : tw (.code yX7_filesOfTree cX7_filesOfTree 2 (some .long)) := tw_at 423 (by decide +kernel) (by decide +kernel)
theorem tn_X7_filesOfTree : tw (.initialized (yX7_filesOfTree).cls) := tw_at 32 (by decide +kernel) (by decide +kernel)
theorem mv_X7_152 : MV RX7 152 7 yX7_filesOfTree cX7_filesOfTree 2 (some .long) 1 := ⟨⟨Or.inl (tw_at 420 (by decide +kernel) (by decide +kernel)), tc_X7_filesOfTree, tn_X7_filesOfTree, ⟨by decide +kernel, by decide +kernel, by decide +kernel⟩, by decide⟩, tw_at 422 (by decide +kernel) (by decide +kernel), tw_at 3 (by decide +kernel) (by decide +kernel), by decide +kernel⟩
theorem tc_X1_treeOf : tw (.code yX1_treeOf cX1_treeOf 4 (some .int)) := tw_at 427 (by decide +kernel) (by decide +kernel)
theorem tn_X1_treeOf : tw (.initialized (yX1_treeOf).cls) := tw_at 33 (by decide +kernel) (by decide +kernel)
theorem mv_X7_191 : MV RX7 191 1 yX1_treeOf cX1_treeOf 4 (some .int) 1 := ⟨⟨Or.inl (tw_at 424 (by decide +kernel) (by decide +kernel)), tc_X1_treeOf, tn_X1_treeOf, ⟨by decide +kernel, by decide +kernel, by decide +kernel⟩, by decide⟩, tw_at 425 (by decide +kernel) (by decide +kernel), tw_at 426 (by decide +kernel) (by decide +kernel), by decide +kernel⟩
theorem mv_X1_30 : MV RX1 30 1 yX1_isInTree cX1_isInTree 5 (some .boolean) 2 := ⟨⟨Or.inl (tw_at 428 (by decide +kernel) (by decide +kernel)), tc_X1_isInTree, tn_X1_isInTree, ⟨by decide +kernel, by decide +kernel, by decide +kernel⟩, by decide⟩, tw_at 218 (by decide +kernel) (by decide +kernel), tw_at 219 (by decide +kernel) (by decide +kernel), by decide +kernel⟩
theorem tc_X3_filesWithin : tw (.code yX3_filesWithin cX3_filesWithin 5 (some .long)) := tw_at 432 (by decide +kernel) (by decide +kernel)
theorem tn_X3_filesWithin : tw (.initialized (yX3_filesWithin).cls) := tw_at 35 (by decide +kernel) (by decide +kernel)
theorem mv_X7_194 : MV RX7 194 3 yX3_filesWithin cX3_filesWithin 5 (some .long) 1 := ⟨⟨Or.inl (tw_at 429 (by decide +kernel) (by decide +kernel)), tc_X3_filesWithin, tn_X3_filesWithin, ⟨by decide +kernel, by decide +kernel, by decide +kernel⟩, by decide⟩, tw_at 430 (by decide +kernel) (by decide +kernel), tw_at 431 (by decide +kernel) (by decide +kernel), by decide +kernel⟩
theorem ms_X3_30 : MS RX3 30 yX7_isMember cX7_isMember 3 (some .boolean) 2 := ⟨⟨Or.inr ⟨"RoomGone", tw_at 433 (by decide +kernel) (by decide +kernel)⟩, tc_X7_isMember, tn_X7_isMember, ⟨by decide +kernel, by decide +kernel, by decide +kernel⟩, by decide⟩, tw_at 347 (by decide +kernel) (by decide +kernel)⟩
theorem tc_X0_lengthOf : tw (.code yX0_lengthOf cX0_lengthOf 6 (some .int)) := tw_at 437 (by decide +kernel) (by decide +kernel)
theorem tn_X0_lengthOf : tw (.initialized (yX0_lengthOf).cls) := tw_at 34 (by decide +kernel) (by decide +kernel)
theorem mv_X7_160 : MV RX7 160 0 yX0_lengthOf cX0_lengthOf 6 (some .int) 1 := ⟨⟨Or.inl (tw_at 434 (by decide +kernel) (by decide +kernel)), tc_X0_lengthOf, tn_X0_lengthOf, ⟨by decide +kernel, by decide +kernel, by decide +kernel⟩, by decide⟩, tw_at 435 (by decide +kernel) (by decide +kernel), tw_at 436 (by decide +kernel) (by decide +kernel), by decide +kernel⟩
theorem tc_X7_named : tw (.code yX7_named cX7_named 4 (some .int)) := tw_at 441 (by decide +kernel) (by decide +kernel)
theorem tn_X7_named : tw (.initialized (yX7_named).cls) := tw_at 32 (by decide +kernel) (by decide +kernel)
theorem mv_L_76 : MV RL 76 7 yX7_named cX7_named 4 (some .int) 3 := ⟨⟨Or.inl (tw_at 438 (by decide +kernel) (by decide +kernel)), tc_X7_named, tn_X7_named, ⟨by decide +kernel, by decide +kernel, by decide +kernel⟩, by decide⟩, tw_at 439 (by decide +kernel) (by decide +kernel), tw_at 440 (by decide +kernel) (by decide +kernel), by decide +kernel⟩
theorem mv_X7_163 : MV RX7 163 1 yX1_isSeen cX1_isSeen 5 (some .boolean) 2 := ⟨⟨Or.inl (tw_at 442 (by decide +kernel) (by decide +kernel)), tc_X1_isSeen, tn_X1_isSeen, ⟨by decide +kernel, by decide +kernel, by decide +kernel⟩, by decide⟩, tw_at 417 (by decide +kernel) (by decide +kernel), tw_at 418 (by decide +kernel) (by decide +kernel), by decide +kernel⟩
theorem tc_X3_memberIn : tw (.code yX3_memberIn cX3_memberIn 5 (some .int)) := tw_at 446 (by decide +kernel) (by decide +kernel)
theorem tn_X3_memberIn : tw (.initialized (yX3_memberIn).cls) := tw_at 35 (by decide +kernel) (by decide +kernel)
theorem mv_X7_166 : MV RX7 166 3 yX3_memberIn cX3_memberIn 5 (some .int) 2 := ⟨⟨Or.inl (tw_at 443 (by decide +kernel) (by decide +kernel)), tc_X3_memberIn, tn_X3_memberIn, ⟨by decide +kernel, by decide +kernel, by decide +kernel⟩, by decide⟩, tw_at 444 (by decide +kernel) (by decide +kernel), tw_at 445 (by decide +kernel) (by decide +kernel), by decide +kernel⟩
theorem tc_X7_snapshot : tw (.code yX7_snapshot cX7_snapshot 1 (some .int)) := tw_at 450 (by decide +kernel) (by decide +kernel)
theorem tn_X7_snapshot : tw (.initialized (yX7_snapshot).cls) := tw_at 32 (by decide +kernel) (by decide +kernel)
theorem mv_L_80 : MV RL 80 7 yX7_snapshot cX7_snapshot 1 (some .int) 0 := ⟨⟨Or.inl (tw_at 447 (by decide +kernel) (by decide +kernel)), tc_X7_snapshot, tn_X7_snapshot, ⟨by decide +kernel, by decide +kernel, by decide +kernel⟩, by decide⟩, tw_at 448 (by decide +kernel) (by decide +kernel), tw_at 449 (by decide +kernel) (by decide +kernel), by decide +kernel⟩
theorem tc_X5_add : tw (.code yX5_add cX5_add 4 (some .int)) := tw_at 454 (by decide +kernel) (by decide +kernel)
theorem tn_X5_add : tw (.initialized (yX5_add).cls) := tw_at 36 (by decide +kernel) (by decide +kernel)
theorem mv_X7_169 : MV RX7 169 5 yX5_add cX5_add 4 (some .int) 1 := ⟨⟨Or.inl (tw_at 451 (by decide +kernel) (by decide +kernel)), tc_X5_add, tn_X5_add, ⟨by decide +kernel, by decide +kernel, by decide +kernel⟩, by decide⟩, tw_at 452 (by decide +kernel) (by decide +kernel), tw_at 453 (by decide +kernel) (by decide +kernel), by decide +kernel⟩
theorem tc_X7_drop : tw (.code yX7_drop cX7_drop 3 (some .int)) := tw_at 458 (by decide +kernel) (by decide +kernel)
theorem tn_X7_drop : tw (.initialized (yX7_drop).cls) := tw_at 32 (by decide +kernel) (by decide +kernel)
theorem mv_L_85 : MV RL 85 7 yX7_drop cX7_drop 3 (some .int) 1 := ⟨⟨Or.inl (tw_at 455 (by decide +kernel) (by decide +kernel)), tc_X7_drop, tn_X7_drop, ⟨by decide +kernel, by decide +kernel, by decide +kernel⟩, by decide⟩, tw_at 456 (by decide +kernel) (by decide +kernel), tw_at 457 (by decide +kernel) (by decide +kernel), by decide +kernel⟩
theorem tc_X7_heldAlone : tw (.code yX7_heldAlone cX7_heldAlone 4 (some .int)) := tw_at 462 (by decide +kernel) (by decide +kernel)
theorem tn_X7_heldAlone : tw (.initialized (yX7_heldAlone).cls) := tw_at 32 (by decide +kernel) (by decide +kernel)
theorem mv_X7_171 : MV RX7 171 7 yX7_heldAlone cX7_heldAlone 4 (some .int) 1 := ⟨⟨Or.inl (tw_at 459 (by decide +kernel) (by decide +kernel)), tc_X7_heldAlone, tn_X7_heldAlone, ⟨by decide +kernel, by decide +kernel, by decide +kernel⟩, by decide⟩, tw_at 461 (by decide +kernel) (by decide +kernel), tw_at 4 (by decide +kernel) (by decide +kernel), by decide +kernel⟩
theorem mv_X7_256 : MV RX7 256 5 yX5_has cX5_has 2 (some .boolean) 1 := ⟨⟨Or.inl (tw_at 463 (by decide +kernel) (by decide +kernel)), tc_X5_has, tn_X5_has, ⟨by decide +kernel, by decide +kernel, by decide +kernel⟩, by decide⟩, tw_at 358 (by decide +kernel) (by decide +kernel), tw_at 359 (by decide +kernel) (by decide +kernel), by decide +kernel⟩
theorem mv_X7_257 : MV RX7 257 5 yX5_heldBy cX5_heldBy 2 (some .long) 1 := ⟨⟨Or.inl (tw_at 464 (by decide +kernel) (by decide +kernel)), tc_X5_heldBy, tn_X5_heldBy, ⟨by decide +kernel, by decide +kernel, by decide +kernel⟩, by decide⟩, tw_at 354 (by decide +kernel) (by decide +kernel), tw_at 355 (by decide +kernel) (by decide +kernel), by decide +kernel⟩
theorem tc_X5_remove : tw (.code yX5_remove cX5_remove 2 none) := tw_at 468 (by decide +kernel) (by decide +kernel)
theorem tn_X5_remove : tw (.initialized (yX5_remove).cls) := tw_at 36 (by decide +kernel) (by decide +kernel)
theorem mv_X7_174 : MV RX7 174 5 yX5_remove cX5_remove 2 none 1 := ⟨⟨Or.inl (tw_at 465 (by decide +kernel) (by decide +kernel)), tc_X5_remove, tn_X5_remove, ⟨by decide +kernel, by decide +kernel, by decide +kernel⟩, by decide⟩, tw_at 466 (by decide +kernel) (by decide +kernel), tw_at 467 (by decide +kernel) (by decide +kernel), by decide +kernel⟩
theorem tc_X7_alone : tw (.code yX7_alone cX7_alone 2 (some .int)) := tw_at 472 (by decide +kernel) (by decide +kernel)
theorem tn_X7_alone : tw (.initialized (yX7_alone).cls) := tw_at 32 (by decide +kernel) (by decide +kernel)
theorem mv_L_89 : MV RL 89 7 yX7_alone cX7_alone 2 (some .int) 1 := ⟨⟨Or.inl (tw_at 469 (by decide +kernel) (by decide +kernel)), tc_X7_alone, tn_X7_alone, ⟨by decide +kernel, by decide +kernel, by decide +kernel⟩, by decide⟩, tw_at 470 (by decide +kernel) (by decide +kernel), tw_at 471 (by decide +kernel) (by decide +kernel), by decide +kernel⟩
theorem tc_X7_mark : tw (.code yX7_mark cX7_mark 3 (some .int)) := tw_at 476 (by decide +kernel) (by decide +kernel)
theorem tn_X7_mark : tw (.initialized (yX7_mark).cls) := tw_at 32 (by decide +kernel) (by decide +kernel)
theorem mv_L_93 : MV RL 93 7 yX7_mark cX7_mark 3 (some .int) 0 := ⟨⟨Or.inl (tw_at 473 (by decide +kernel) (by decide +kernel)), tc_X7_mark, tn_X7_mark, ⟨by decide +kernel, by decide +kernel, by decide +kernel⟩, by decide⟩, tw_at 474 (by decide +kernel) (by decide +kernel), tw_at 475 (by decide +kernel) (by decide +kernel), by decide +kernel⟩
theorem tc_X2_add : tw (.code yX2_add cX2_add 2 (some .int)) := tw_at 480 (by decide +kernel) (by decide +kernel)
theorem tn_X2_add : tw (.initialized (yX2_add).cls) := tw_at 37 (by decide +kernel) (by decide +kernel)
theorem mv_X7_175 : MV RX7 175 2 yX2_add cX2_add 2 (some .int) 1 := ⟨⟨Or.inl (tw_at 477 (by decide +kernel) (by decide +kernel)), tc_X2_add, tn_X2_add, ⟨by decide +kernel, by decide +kernel, by decide +kernel⟩, by decide⟩, tw_at 478 (by decide +kernel) (by decide +kernel), tw_at 479 (by decide +kernel) (by decide +kernel), by decide +kernel⟩
theorem tc_X7_takenBy : tw (.code yX7_takenBy cX7_takenBy 2 (some .int)) := tw_at 484 (by decide +kernel) (by decide +kernel)
theorem tn_X7_takenBy : tw (.initialized (yX7_takenBy).cls) := tw_at 32 (by decide +kernel) (by decide +kernel)
theorem mv_X7_180 : MV RX7 180 7 yX7_takenBy cX7_takenBy 2 (some .int) 1 := ⟨⟨Or.inl (tw_at 481 (by decide +kernel) (by decide +kernel)), tc_X7_takenBy, tn_X7_takenBy, ⟨by decide +kernel, by decide +kernel, by decide +kernel⟩, by decide⟩, tw_at 483 (by decide +kernel) (by decide +kernel), tw_at 5 (by decide +kernel) (by decide +kernel), by decide +kernel⟩
theorem tc_X2_keep : tw (.code yX2_keep cX2_keep 4 none) := tw_at 488 (by decide +kernel) (by decide +kernel)
theorem tn_X2_keep : tw (.initialized (yX2_keep).cls) := tw_at 37 (by decide +kernel) (by decide +kernel)
theorem mv_X7_183 : MV RX7 183 2 yX2_keep cX2_keep 4 none 3 := ⟨⟨Or.inl (tw_at 485 (by decide +kernel) (by decide +kernel)), tc_X2_keep, tn_X2_keep, ⟨by decide +kernel, by decide +kernel, by decide +kernel⟩, by decide⟩, tw_at 486 (by decide +kernel) (by decide +kernel), tw_at 487 (by decide +kernel) (by decide +kernel), by decide +kernel⟩
theorem tc_X2_isKept : tw (.code yX2_isKept cX2_isKept 3 (some .boolean)) := tw_at 492 (by decide +kernel) (by decide +kernel)
theorem tn_X2_isKept : tw (.initialized (yX2_isKept).cls) := tw_at 37 (by decide +kernel) (by decide +kernel)
theorem mv_X2_22 : MV RX2 22 2 yX2_isKept cX2_isKept 3 (some .boolean) 2 := ⟨⟨Or.inl (tw_at 489 (by decide +kernel) (by decide +kernel)), tc_X2_isKept, tn_X2_isKept, ⟨by decide +kernel, by decide +kernel, by decide +kernel⟩, by decide⟩, tw_at 491 (by decide +kernel) (by decide +kernel), tw_at 6 (by decide +kernel) (by decide +kernel), by decide +kernel⟩
theorem tc_X2_has : tw (.code yX2_has cX2_has 2 (some .boolean)) := tw_at 496 (by decide +kernel) (by decide +kernel)
theorem tn_X2_has : tw (.initialized (yX2_has).cls) := tw_at 37 (by decide +kernel) (by decide +kernel)
theorem mv_X2_45 : MV RX2 45 2 yX2_has cX2_has 2 (some .boolean) 1 := ⟨⟨Or.inl (tw_at 493 (by decide +kernel) (by decide +kernel)), tc_X2_has, tn_X2_has, ⟨by decide +kernel, by decide +kernel, by decide +kernel⟩, by decide⟩, tw_at 494 (by decide +kernel) (by decide +kernel), tw_at 495 (by decide +kernel) (by decide +kernel), by decide +kernel⟩
theorem tc_X7_grew : tw (.code yX7_grew cX7_grew 4 (some .int)) := tw_at 500 (by decide +kernel) (by decide +kernel)
theorem tn_X7_grew : tw (.initialized (yX7_grew).cls) := tw_at 32 (by decide +kernel) (by decide +kernel)
theorem mv_L_97 : MV RL 97 7 yX7_grew cX7_grew 4 (some .int) 3 := ⟨⟨Or.inl (tw_at 497 (by decide +kernel) (by decide +kernel)), tc_X7_grew, tn_X7_grew, ⟨by decide +kernel, by decide +kernel, by decide +kernel⟩, by decide⟩, tw_at 498 (by decide +kernel) (by decide +kernel), tw_at 499 (by decide +kernel) (by decide +kernel), by decide +kernel⟩
theorem mv_X7_186 : MV RX7 186 2 yX2_has cX2_has 2 (some .boolean) 1 := ⟨⟨Or.inl (tw_at 501 (by decide +kernel) (by decide +kernel)), tc_X2_has, tn_X2_has, ⟨by decide +kernel, by decide +kernel, by decide +kernel⟩, by decide⟩, tw_at 494 (by decide +kernel) (by decide +kernel), tw_at 495 (by decide +kernel) (by decide +kernel), by decide +kernel⟩
theorem tc_X2_takenAt : tw (.code yX2_takenAt cX2_takenAt 3 (some .int)) := tw_at 506 (by decide +kernel) (by decide +kernel)
theorem tn_X2_takenAt : tw (.initialized (yX2_takenAt).cls) := tw_at 37 (by decide +kernel) (by decide +kernel)
theorem mv_X7_188 : MV RX7 188 2 yX2_takenAt cX2_takenAt 3 (some .int) 2 := ⟨⟨Or.inl (tw_at 503 (by decide +kernel) (by decide +kernel)), tc_X2_takenAt, tn_X2_takenAt, ⟨by decide +kernel, by decide +kernel, by decide +kernel⟩, by decide⟩, tw_at 504 (by decide +kernel) (by decide +kernel), tw_at 505 (by decide +kernel) (by decide +kernel), by decide +kernel⟩
theorem tc_X7_freed : tw (.code yX7_freed cX7_freed 5 (some .int)) := tw_at 510 (by decide +kernel) (by decide +kernel)
theorem tn_X7_freed : tw (.initialized (yX7_freed).cls) := tw_at 32 (by decide +kernel) (by decide +kernel)
theorem mv_L_101 : MV RL 101 7 yX7_freed cX7_freed 5 (some .int) 1 := ⟨⟨Or.inl (tw_at 507 (by decide +kernel) (by decide +kernel)), tc_X7_freed, tn_X7_freed, ⟨by decide +kernel, by decide +kernel, by decide +kernel⟩, by decide⟩, tw_at 508 (by decide +kernel) (by decide +kernel), tw_at 509 (by decide +kernel) (by decide +kernel), by decide +kernel⟩
theorem tc_X7_blocksFreedBy : tw (.code yX7_blocksFreedBy cX7_blocksFreedBy 3 (some .long)) := tw_at 514 (by decide +kernel) (by decide +kernel)
theorem tn_X7_blocksFreedBy : tw (.initialized (yX7_blocksFreedBy).cls) := tw_at 32 (by decide +kernel) (by decide +kernel)
theorem mv_X7_197 : MV RX7 197 7 yX7_blocksFreedBy cX7_blocksFreedBy 3 (some .long) 1 := ⟨⟨Or.inl (tw_at 511 (by decide +kernel) (by decide +kernel)), tc_X7_blocksFreedBy, tn_X7_blocksFreedBy, ⟨by decide +kernel, by decide +kernel, by decide +kernel⟩, by decide⟩, tw_at 513 (by decide +kernel) (by decide +kernel), tw_at 7 (by decide +kernel) (by decide +kernel), by decide +kernel⟩
theorem tc_X7_both : tw (.code yX7_both cX7_both 3 (some .int)) := tw_at 518 (by decide +kernel) (by decide +kernel)
theorem tn_X7_both : tw (.initialized (yX7_both).cls) := tw_at 32 (by decide +kernel) (by decide +kernel)
theorem mv_L_105 : MV RL 105 7 yX7_both cX7_both 3 (some .int) 2 := ⟨⟨Or.inl (tw_at 515 (by decide +kernel) (by decide +kernel)), tc_X7_both, tn_X7_both, ⟨by decide +kernel, by decide +kernel, by decide +kernel⟩, by decide⟩, tw_at 516 (by decide +kernel) (by decide +kernel), tw_at 517 (by decide +kernel) (by decide +kernel), by decide +kernel⟩
theorem tc_X7_plan : tw (.code yX7_plan cX7_plan 3 (some .int)) := tw_at 522 (by decide +kernel) (by decide +kernel)
theorem tn_X7_plan : tw (.initialized (yX7_plan).cls) := tw_at 32 (by decide +kernel) (by decide +kernel)
theorem mv_L_109 : MV RL 109 7 yX7_plan cX7_plan 3 (some .int) 2 := ⟨⟨Or.inl (tw_at 519 (by decide +kernel) (by decide +kernel)), tc_X7_plan, tn_X7_plan, ⟨by decide +kernel, by decide +kernel, by decide +kernel⟩, by decide⟩, tw_at 520 (by decide +kernel) (by decide +kernel), tw_at 521 (by decide +kernel) (by decide +kernel), by decide +kernel⟩
theorem tc_X7_findPlan : tw (.code yX7_findPlan cX7_findPlan 5 (some .boolean)) := tw_at 526 (by decide +kernel) (by decide +kernel)
theorem tn_X7_findPlan : tw (.initialized (yX7_findPlan).cls) := tw_at 32 (by decide +kernel) (by decide +kernel)
theorem mv_X7_200 : MV RX7 200 7 yX7_findPlan cX7_findPlan 5 (some .boolean) 2 := ⟨⟨Or.inl (tw_at 523 (by decide +kernel) (by decide +kernel)), tc_X7_findPlan, tn_X7_findPlan, ⟨by decide +kernel, by decide +kernel, by decide +kernel⟩, by decide⟩, tw_at 525 (by decide +kernel) (by decide +kernel), tw_at 8 (by decide +kernel) (by decide +kernel), by decide +kernel⟩
theorem tc_X4_search : tw (.code yX4_search cX4_search 7 (some .boolean)) := tw_at 530 (by decide +kernel) (by decide +kernel)
theorem tn_X4_search : tw (.initialized (yX4_search).cls) := tw_at 38 (by decide +kernel) (by decide +kernel)
theorem mv_X7_260 : MV RX7 260 4 yX4_search cX4_search 7 (some .boolean) 4 := ⟨⟨Or.inl (tw_at 527 (by decide +kernel) (by decide +kernel)), tc_X4_search, tn_X4_search, ⟨by decide +kernel, by decide +kernel, by decide +kernel⟩, by decide⟩, tw_at 528 (by decide +kernel) (by decide +kernel), tw_at 529 (by decide +kernel) (by decide +kernel), by decide +kernel⟩
theorem tc_X4_gather : tw (.code yX4_gather cX4_gather 6 none) := tw_at 534 (by decide +kernel) (by decide +kernel)
theorem tn_X4_gather : tw (.initialized (yX4_gather).cls) := tw_at 38 (by decide +kernel) (by decide +kernel)
theorem mv_X4_22 : MV RX4 22 4 yX4_gather cX4_gather 6 none 2 := ⟨⟨Or.inl (tw_at 531 (by decide +kernel) (by decide +kernel)), tc_X4_gather, tn_X4_gather, ⟨by decide +kernel, by decide +kernel, by decide +kernel⟩, by decide⟩, tw_at 533 (by decide +kernel) (by decide +kernel), tw_at 9 (by decide +kernel) (by decide +kernel), by decide +kernel⟩
theorem mv_X4_49 : MV RX4 49 0 yX0_find cX0_find 2 (some (.object "RoomGone$StoredFile")) 1 := ⟨⟨Or.inl (tw_at 535 (by decide +kernel) (by decide +kernel)), tc_X0_find, tn_X0_find, ⟨by decide +kernel, by decide +kernel, by decide +kernel⟩, by decide⟩, tw_at 295 (by decide +kernel) (by decide +kernel), tw_at 296 (by decide +kernel) (by decide +kernel), by decide +kernel⟩
theorem ms_X4_53 : MS RX4 53 yX7_isMember cX7_isMember 3 (some .boolean) 2 := ⟨⟨Or.inr ⟨"RoomGone", tw_at 536 (by decide +kernel) (by decide +kernel)⟩, tc_X7_isMember, tn_X7_isMember, ⟨by decide +kernel, by decide +kernel, by decide +kernel⟩, by decide⟩, tw_at 347 (by decide +kernel) (by decide +kernel)⟩
theorem tc_X4_decide : tw (.code yX4_decide cX4_decide 10 none) := tw_at 539 (by decide +kernel) (by decide +kernel)
theorem tn_X4_decide : tw (.initialized (yX4_decide).cls) := tw_at 38 (by decide +kernel) (by decide +kernel)
theorem ms_X4_40 : MS RX4 40 yX4_decide cX4_decide 10 none 5 := ⟨⟨Or.inl (tw_at 537 (by decide +kernel) (by decide +kernel)), tc_X4_decide, tn_X4_decide, ⟨by decide +kernel, by decide +kernel, by decide +kernel⟩, by decide⟩, tw_at 538 (by decide +kernel) (by decide +kernel)⟩
theorem ms_X4_63 : MS RX4 63 yJ13_bitCount_95d88 cJ13_bitCount_95d88 2 (some .int) 1 := ⟨⟨Or.inl (tw_at 540 (by decide +kernel) (by decide +kernel)), tc_J13_bitCount_95d88, tn_J13_bitCount_95d88, ⟨by decide +kernel, by decide +kernel, by decide +kernel⟩, by decide⟩, tw_at 362 (by decide +kernel) (by decide +kernel)⟩
theorem tc_X7_planned : tw (.code yX7_planned cX7_planned 4 (some .int)) := tw_at 545 (by decide +kernel) (by decide +kernel)
theorem tn_X7_planned : tw (.initialized (yX7_planned).cls) := tw_at 32 (by decide +kernel) (by decide +kernel)
theorem mv_L_113 : MV RL 113 7 yX7_planned cX7_planned 4 (some .int) 3 := ⟨⟨Or.inl (tw_at 542 (by decide +kernel) (by decide +kernel)), tc_X7_planned, tn_X7_planned, ⟨by decide +kernel, by decide +kernel, by decide +kernel⟩, by decide⟩, tw_at 543 (by decide +kernel) (by decide +kernel), tw_at 544 (by decide +kernel) (by decide +kernel), by decide +kernel⟩
theorem tc_X7_largest : tw (.code yX7_largest cX7_largest 3 (some .int)) := tw_at 549 (by decide +kernel) (by decide +kernel)
theorem tn_X7_largest : tw (.initialized (yX7_largest).cls) := tw_at 32 (by decide +kernel) (by decide +kernel)
theorem mv_L_117 : MV RL 117 7 yX7_largest cX7_largest 3 (some .int) 2 := ⟨⟨Or.inl (tw_at 546 (by decide +kernel) (by decide +kernel)), tc_X7_largest, tn_X7_largest, ⟨by decide +kernel, by decide +kernel, by decide +kernel⟩, by decide⟩, tw_at 547 (by decide +kernel) (by decide +kernel), tw_at 548 (by decide +kernel) (by decide +kernel), by decide +kernel⟩
theorem tc_X0_byBlocks : tw (.code yX0_byBlocks cX0_byBlocks 5 (some .int)) := tw_at 553 (by decide +kernel) (by decide +kernel)
theorem tn_X0_byBlocks : tw (.initialized (yX0_byBlocks).cls) := tw_at 34 (by decide +kernel) (by decide +kernel)
theorem mv_X7_210 : MV RX7 210 0 yX0_byBlocks cX0_byBlocks 5 (some .int) 2 := ⟨⟨Or.inl (tw_at 550 (by decide +kernel) (by decide +kernel)), tc_X0_byBlocks, tn_X0_byBlocks, ⟨by decide +kernel, by decide +kernel, by decide +kernel⟩, by decide⟩, tw_at 551 (by decide +kernel) (by decide +kernel), tw_at 552 (by decide +kernel) (by decide +kernel), by decide +kernel⟩
theorem tc_X0_countAhead : tw (.code yX0_countAhead cX0_countAhead 8 (some .int)) := tw_at 557 (by decide +kernel) (by decide +kernel)
theorem tn_X0_countAhead : tw (.initialized (yX0_countAhead).cls) := tw_at 34 (by decide +kernel) (by decide +kernel)
theorem mv_X0_40 : MV RX0 40 0 yX0_countAhead cX0_countAhead 8 (some .int) 2 := ⟨⟨Or.inl (tw_at 554 (by decide +kernel) (by decide +kernel)), tc_X0_countAhead, tn_X0_countAhead, ⟨by decide +kernel, by decide +kernel, by decide +kernel⟩, by decide⟩, tw_at 556 (by decide +kernel) (by decide +kernel), tw_at 10 (by decide +kernel) (by decide +kernel), by decide +kernel⟩
theorem tc_X0_sizeOf : tw (.code yX0_sizeOf cX0_sizeOf 3 (some .int)) := tw_at 561 (by decide +kernel) (by decide +kernel)
theorem tn_X0_sizeOf : tw (.initialized (yX0_sizeOf).cls) := tw_at 34 (by decide +kernel) (by decide +kernel)
theorem mv_X0_44 : MV RX0 44 0 yX0_sizeOf cX0_sizeOf 3 (some .int) 1 := ⟨⟨Or.inl (tw_at 558 (by decide +kernel) (by decide +kernel)), tc_X0_sizeOf, tn_X0_sizeOf, ⟨by decide +kernel, by decide +kernel, by decide +kernel⟩, by decide⟩, tw_at 560 (by decide +kernel) (by decide +kernel), tw_at 11 (by decide +kernel) (by decide +kernel), by decide +kernel⟩
theorem ms_X0_48 : MS RX0 48 yJ13_bitCount_95d88 cJ13_bitCount_95d88 2 (some .int) 1 := ⟨⟨Or.inl (tw_at 562 (by decide +kernel) (by decide +kernel)), tc_J13_bitCount_95d88, tn_J13_bitCount_95d88, ⟨by decide +kernel, by decide +kernel, by decide +kernel⟩, by decide⟩, tw_at 362 (by decide +kernel) (by decide +kernel)⟩
theorem tc_X7_holds : tw (.code yX7_holds cX7_holds 2 (some .boolean)) := tw_at 566 (by decide +kernel) (by decide +kernel)
theorem tn_X7_holds : tw (.initialized (yX7_holds).cls) := tw_at 32 (by decide +kernel) (by decide +kernel)
theorem mv_L_121 : MV RL 121 7 yX7_holds cX7_holds 2 (some .boolean) 1 := ⟨⟨Or.inl (tw_at 563 (by decide +kernel) (by decide +kernel)), tc_X7_holds, tn_X7_holds, ⟨by decide +kernel, by decide +kernel, by decide +kernel⟩, by decide⟩, tw_at 564 (by decide +kernel) (by decide +kernel), tw_at 565 (by decide +kernel) (by decide +kernel), by decide +kernel⟩
theorem tc_X7_full : tw (.code yX7_full cX7_full 2 (some .int)) := tw_at 570 (by decide +kernel) (by decide +kernel)
theorem tn_X7_full : tw (.initialized (yX7_full).cls) := tw_at 32 (by decide +kernel) (by decide +kernel)
theorem mv_L_125 : MV RL 125 7 yX7_full cX7_full 2 (some .int) 1 := ⟨⟨Or.inl (tw_at 567 (by decide +kernel) (by decide +kernel)), tc_X7_full, tn_X7_full, ⟨by decide +kernel, by decide +kernel, by decide +kernel⟩, by decide⟩, tw_at 568 (by decide +kernel) (by decide +kernel), tw_at 569 (by decide +kernel) (by decide +kernel), by decide +kernel⟩
theorem tc_X2_greatestGrowth : tw (.code yX2_greatestGrowth cX2_greatestGrowth 4 (some .int)) := tw_at 574 (by decide +kernel) (by decide +kernel)
theorem tn_X2_greatestGrowth : tw (.initialized (yX2_greatestGrowth).cls) := tw_at 37 (by decide +kernel) (by decide +kernel)
theorem mv_X7_214 : MV RX7 214 2 yX2_greatestGrowth cX2_greatestGrowth 4 (some .int) 0 := ⟨⟨Or.inl (tw_at 571 (by decide +kernel) (by decide +kernel)), tc_X2_greatestGrowth, tn_X2_greatestGrowth, ⟨by decide +kernel, by decide +kernel, by decide +kernel⟩, by decide⟩, tw_at 572 (by decide +kernel) (by decide +kernel), tw_at 573 (by decide +kernel) (by decide +kernel), by decide +kernel⟩
theorem tc_X2_moreAt : tw (.code yX2_moreAt cX2_moreAt 2 (some .int)) := tw_at 578 (by decide +kernel) (by decide +kernel)
theorem tn_X2_moreAt : tw (.initialized (yX2_moreAt).cls) := tw_at 37 (by decide +kernel) (by decide +kernel)
theorem mv_X2_26 : MV RX2 26 2 yX2_moreAt cX2_moreAt 2 (some .int) 1 := ⟨⟨Or.inl (tw_at 575 (by decide +kernel) (by decide +kernel)), tc_X2_moreAt, tn_X2_moreAt, ⟨by decide +kernel, by decide +kernel, by decide +kernel⟩, by decide⟩, tw_at 577 (by decide +kernel) (by decide +kernel), tw_at 12 (by decide +kernel) (by decide +kernel), by decide +kernel⟩
theorem mv_X2_42 : MV RX2 42 2 yX2_takenAt cX2_takenAt 3 (some .int) 2 := ⟨⟨Or.inl (tw_at 579 (by decide +kernel) (by decide +kernel)), tc_X2_takenAt, tn_X2_takenAt, ⟨by decide +kernel, by decide +kernel, by decide +kernel⟩, by decide⟩, tw_at 504 (by decide +kernel) (by decide +kernel), tw_at 505 (by decide +kernel) (by decide +kernel), by decide +kernel⟩
theorem tc_J9_floorDiv_7cf53 : tw (.code yJ9_floorDiv_7cf53 cJ9_floorDiv_7cf53 3 (some .int)) := tw_at 582 (by decide +kernel) (by decide +kernel)
theorem tn_J9_floorDiv_7cf53 : tw (.initialized (yJ9_floorDiv_7cf53).cls) := tw_at 40 (by decide +kernel) (by decide +kernel)
theorem ms_X2_30 : MS RX2 30 yJ9_floorDiv_7cf53 cJ9_floorDiv_7cf53 3 (some .int) 2 := ⟨⟨Or.inl (tw_at 580 (by decide +kernel) (by decide +kernel)), tc_J9_floorDiv_7cf53, tn_J9_floorDiv_7cf53, ⟨by decide +kernel, by decide +kernel, by decide +kernel⟩, by decide⟩, tw_at 581 (by decide +kernel) (by decide +kernel)⟩
theorem ms_X2_39 : MS RX2 39 yJ9_max_7cf53 cJ9_max_7cf53 2 (some .int) 2 := ⟨⟨Or.inl (tw_at 583 (by decide +kernel) (by decide +kernel)), tc_J9_max_7cf53, tn_J9_max_7cf53, ⟨by decide +kernel, by decide +kernel, by decide +kernel⟩, by decide⟩, tw_at 377 (by decide +kernel) (by decide +kernel)⟩
theorem tc_X7_dayFullBy : tw (.code yX7_dayFullBy cX7_dayFullBy 3 (some .int)) := tw_at 587 (by decide +kernel) (by decide +kernel)
theorem tn_X7_dayFullBy : tw (.initialized (yX7_dayFullBy).cls) := tw_at 32 (by decide +kernel) (by decide +kernel)
theorem mv_X7_218 : MV RX7 218 7 yX7_dayFullBy cX7_dayFullBy 3 (some .int) 1 := ⟨⟨Or.inl (tw_at 584 (by decide +kernel) (by decide +kernel)), tc_X7_dayFullBy, tn_X7_dayFullBy, ⟨by decide +kernel, by decide +kernel, by decide +kernel⟩, by decide⟩, tw_at 586 (by decide +kernel) (by decide +kernel), tw_at 13 (by decide +kernel) (by decide +kernel), by decide +kernel⟩
theorem tc_X2_leastGrowth : tw (.code yX2_leastGrowth cX2_leastGrowth 6 (some .int)) := tw_at 591 (by decide +kernel) (by decide +kernel)
theorem tn_X2_leastGrowth : tw (.initialized (yX2_leastGrowth).cls) := tw_at 37 (by decide +kernel) (by decide +kernel)
theorem mv_X7_221 : MV RX7 221 2 yX2_leastGrowth cX2_leastGrowth 6 (some .int) 0 := ⟨⟨Or.inl (tw_at 588 (by decide +kernel) (by decide +kernel)), tc_X2_leastGrowth, tn_X2_leastGrowth, ⟨by decide +kernel, by decide +kernel, by decide +kernel⟩, by decide⟩, tw_at 589 (by decide +kernel) (by decide +kernel), tw_at 590 (by decide +kernel) (by decide +kernel), by decide +kernel⟩
theorem ms_X2_36 : MS RX2 36 yJ9_min_7cf53 cJ9_min_7cf53 2 (some .int) 2 := ⟨⟨Or.inl (tw_at 592 (by decide +kernel) (by decide +kernel)), tc_J9_min_7cf53, tn_J9_min_7cf53, ⟨by decide +kernel, by decide +kernel, by decide +kernel⟩, by decide⟩, tw_at 196 (by decide +kernel) (by decide +kernel)⟩
theorem tc_X7_told : tw (.code yX7_told cX7_told 4 (some .int)) := tw_at 596 (by decide +kernel) (by decide +kernel)
theorem tn_X7_told : tw (.initialized (yX7_told).cls) := tw_at 32 (by decide +kernel) (by decide +kernel)
theorem mv_L_129 : MV RL 129 7 yX7_told cX7_told 4 (some .int) 2 := ⟨⟨Or.inl (tw_at 593 (by decide +kernel) (by decide +kernel)), tc_X7_told, tn_X7_told, ⟨by decide +kernel, by decide +kernel, by decide +kernel⟩, by decide⟩, tw_at 594 (by decide +kernel) (by decide +kernel), tw_at 595 (by decide +kernel) (by decide +kernel), by decide +kernel⟩
theorem tc_X6_countHoles : tw (.code yX6_countHoles cX6_countHoles 3 (some .int)) := tw_at 600 (by decide +kernel) (by decide +kernel)
theorem tn_X6_countHoles : tw (.initialized (yX6_countHoles).cls) := tw_at 41 (by decide +kernel) (by decide +kernel)
theorem mv_X7_236 : MV RX7 236 6 yX6_countHoles cX6_countHoles 3 (some .int) 0 := ⟨⟨Or.inl (tw_at 597 (by decide +kernel) (by decide +kernel)), tc_X6_countHoles, tn_X6_countHoles, ⟨by decide +kernel, by decide +kernel, by decide +kernel⟩, by decide⟩, tw_at 598 (by decide +kernel) (by decide +kernel), tw_at 599 (by decide +kernel) (by decide +kernel), by decide +kernel⟩
theorem tc_X7_count : tw (.code yX7_count cX7_count 2 (some .int)) := tw_at 604 (by decide +kernel) (by decide +kernel)
theorem tn_X7_count : tw (.initialized (yX7_count).cls) := tw_at 32 (by decide +kernel) (by decide +kernel)
theorem mv_L_133 : MV RL 133 7 yX7_count cX7_count 2 (some .int) 1 := ⟨⟨Or.inl (tw_at 601 (by decide +kernel) (by decide +kernel)), tc_X7_count, tn_X7_count, ⟨by decide +kernel, by decide +kernel, by decide +kernel⟩, by decide⟩, tw_at 602 (by decide +kernel) (by decide +kernel), tw_at 603 (by decide +kernel) (by decide +kernel), by decide +kernel⟩
theorem tc_X0_countThere : tw (.code yX0_countThere cX0_countThere 3 (some .int)) := tw_at 608 (by decide +kernel) (by decide +kernel)
theorem tn_X0_countThere : tw (.initialized (yX0_countThere).cls) := tw_at 34 (by decide +kernel) (by decide +kernel)
theorem mv_X7_239 : MV RX7 239 0 yX0_countThere cX0_countThere 3 (some .int) 0 := ⟨⟨Or.inl (tw_at 605 (by decide +kernel) (by decide +kernel)), tc_X0_countThere, tn_X0_countThere, ⟨by decide +kernel, by decide +kernel, by decide +kernel⟩, by decide⟩, tw_at 606 (by decide +kernel) (by decide +kernel), tw_at 607 (by decide +kernel) (by decide +kernel), by decide +kernel⟩
theorem tc_X3_countThere : tw (.code yX3_countThere cX3_countThere 1 (some .int)) := tw_at 612 (by decide +kernel) (by decide +kernel)
theorem tn_X3_countThere : tw (.initialized (yX3_countThere).cls) := tw_at 35 (by decide +kernel) (by decide +kernel)
theorem mv_X7_242 : MV RX7 242 3 yX3_countThere cX3_countThere 1 (some .int) 0 := ⟨⟨Or.inl (tw_at 609 (by decide +kernel) (by decide +kernel)), tc_X3_countThere, tn_X3_countThere, ⟨by decide +kernel, by decide +kernel, by decide +kernel⟩, by decide⟩, tw_at 610 (by decide +kernel) (by decide +kernel), tw_at 611 (by decide +kernel) (by decide +kernel), by decide +kernel⟩
theorem mv_X3_26 : MV RX3 26 3 yX3_countOf cX3_countOf 4 (some .int) 1 := ⟨⟨Or.inl (tw_at 613 (by decide +kernel) (by decide +kernel)), tc_X3_countOf, tn_X3_countOf, ⟨by decide +kernel, by decide +kernel, by decide +kernel⟩, by decide⟩, tw_at 317 (by decide +kernel) (by decide +kernel), tw_at 318 (by decide +kernel) (by decide +kernel), by decide +kernel⟩
theorem tc_X5_countThere : tw (.code yX5_countThere cX5_countThere 3 (some .int)) := tw_at 617 (by decide +kernel) (by decide +kernel)
theorem tn_X5_countThere : tw (.initialized (yX5_countThere).cls) := tw_at 36 (by decide +kernel) (by decide +kernel)
theorem mv_X7_243 : MV RX7 243 5 yX5_countThere cX5_countThere 3 (some .int) 0 := ⟨⟨Or.inl (tw_at 614 (by decide +kernel) (by decide +kernel)), tc_X5_countThere, tn_X5_countThere, ⟨by decide +kernel, by decide +kernel, by decide +kernel⟩, by decide⟩, tw_at 615 (by decide +kernel) (by decide +kernel), tw_at 616 (by decide +kernel) (by decide +kernel), by decide +kernel⟩
theorem tc_X8_init : tw (.code yX8_init cX8_init 1 none) := tw_at 622 (by decide +kernel) (by decide +kernel)
theorem tn_X8_init : tw (.initialized (yX8_init).cls) := tw_at 39 (by decide +kernel) (by decide +kernel)
theorem mi_L_12 : MI RL 12 yX8_init cX8_init 1 0 := ⟨⟨Or.inl (tw_at 620 (by decide +kernel) (by decide +kernel)), tc_X8_init, tn_X8_init, ⟨by decide +kernel, by decide +kernel, by decide +kernel⟩, by decide⟩, tw_at 621 (by decide +kernel) (by decide +kernel), rfl⟩
theorem oi_X8_1 : tw (.methodLink RX8 1 objectInit) := tw_at 623 (by decide +kernel) (by decide +kernel)
theorem tc_X8_go : tw (.code yX8_go cX8_go 2 (some .int)) := tw_at 706 (by decide +kernel) (by decide +kernel)
theorem tn_X8_go : tw (.initialized (yX8_go).cls) := tw_at 39 (by decide +kernel) (by decide +kernel)
theorem mv_L_17 : MV RL 17 8 yX8_go cX8_go 2 (some .int) 1 := ⟨⟨Or.inl (tw_at 703 (by decide +kernel) (by decide +kernel)), tc_X8_go, tn_X8_go, ⟨by decide +kernel, by decide +kernel, by decide +kernel⟩, by decide⟩, tw_at 704 (by decide +kernel) (by decide +kernel), tw_at 705 (by decide +kernel) (by decide +kernel), by decide +kernel⟩
theorem tc_X8_in : tw (.code yX8_in cX8_in 3 (some .boolean)) := tw_at 709 (by decide +kernel) (by decide +kernel)
theorem tn_X8_in : tw (.initialized (yX8_in).cls) := tw_at 39 (by decide +kernel) (by decide +kernel)
theorem ms_X8_73 : MS RX8 73 yX8_in cX8_in 3 (some .boolean) 3 := ⟨⟨Or.inl (tw_at 707 (by decide +kernel) (by decide +kernel)), tc_X8_in, tn_X8_in, ⟨by decide +kernel, by decide +kernel, by decide +kernel⟩, by decide⟩, tw_at 708 (by decide +kernel) (by decide +kernel)⟩
theorem tc_X8_folder : tw (.code yX8_folder cX8_folder 4 (some .int)) := tw_at 713 (by decide +kernel) (by decide +kernel)
theorem tn_X8_folder : tw (.initialized (yX8_folder).cls) := tw_at 39 (by decide +kernel) (by decide +kernel)
theorem mv_L_22 : MV RL 22 8 yX8_folder cX8_folder 4 (some .int) 3 := ⟨⟨Or.inl (tw_at 710 (by decide +kernel) (by decide +kernel)), tc_X8_folder, tn_X8_folder, ⟨by decide +kernel, by decide +kernel, by decide +kernel⟩, by decide⟩, tw_at 711 (by decide +kernel) (by decide +kernel), tw_at 712 (by decide +kernel) (by decide +kernel), by decide +kernel⟩
theorem tc_X8_isFolder : tw (.code yX8_isFolder cX8_isFolder 2 (some .boolean)) := tw_at 717 (by decide +kernel) (by decide +kernel)
theorem tn_X8_isFolder : tw (.initialized (yX8_isFolder).cls) := tw_at 39 (by decide +kernel) (by decide +kernel)
theorem mv_X8_80 : MV RX8 80 8 yX8_isFolder cX8_isFolder 2 (some .boolean) 1 := ⟨⟨Or.inl (tw_at 714 (by decide +kernel) (by decide +kernel)), tc_X8_isFolder, tn_X8_isFolder, ⟨by decide +kernel, by decide +kernel, by decide +kernel⟩, by decide⟩, tw_at 716 (by decide +kernel) (by decide +kernel), tw_at 14 (by decide +kernel) (by decide +kernel), by decide +kernel⟩
theorem tc_X8_move : tw (.code yX8_move cX8_move 3 (some .boolean)) := tw_at 721 (by decide +kernel) (by decide +kernel)
theorem tn_X8_move : tw (.initialized (yX8_move).cls) := tw_at 39 (by decide +kernel) (by decide +kernel)
theorem mv_L_27 : MV RL 27 8 yX8_move cX8_move 3 (some .boolean) 2 := ⟨⟨Or.inl (tw_at 718 (by decide +kernel) (by decide +kernel)), tc_X8_move, tn_X8_move, ⟨by decide +kernel, by decide +kernel, by decide +kernel⟩, by decide⟩, tw_at 719 (by decide +kernel) (by decide +kernel), tw_at 720 (by decide +kernel) (by decide +kernel), by decide +kernel⟩
theorem tc_X8_isOf : tw (.code yX8_isOf cX8_isOf 4 (some .boolean)) := tw_at 725 (by decide +kernel) (by decide +kernel)
theorem tn_X8_isOf : tw (.initialized (yX8_isOf).cls) := tw_at 39 (by decide +kernel) (by decide +kernel)
theorem mv_X8_84 : MV RX8 84 8 yX8_isOf cX8_isOf 4 (some .boolean) 2 := ⟨⟨Or.inl (tw_at 722 (by decide +kernel) (by decide +kernel)), tc_X8_isOf, tn_X8_isOf, ⟨by decide +kernel, by decide +kernel, by decide +kernel⟩, by decide⟩, tw_at 724 (by decide +kernel) (by decide +kernel), tw_at 15 (by decide +kernel) (by decide +kernel), by decide +kernel⟩
theorem tc_X8_file : tw (.code yX8_file cX8_file 4 (some .int)) := tw_at 729 (by decide +kernel) (by decide +kernel)
theorem tn_X8_file : tw (.initialized (yX8_file).cls) := tw_at 39 (by decide +kernel) (by decide +kernel)
theorem mv_L_32 : MV RL 32 8 yX8_file cX8_file 4 (some .int) 3 := ⟨⟨Or.inl (tw_at 726 (by decide +kernel) (by decide +kernel)), tc_X8_file, tn_X8_file, ⟨by decide +kernel, by decide +kernel, by decide +kernel⟩, by decide⟩, tw_at 727 (by decide +kernel) (by decide +kernel), tw_at 728 (by decide +kernel) (by decide +kernel), by decide +kernel⟩
theorem tc_X8_newName : tw (.code yX8_newName cX8_newName 3 (some .int)) := tw_at 733 (by decide +kernel) (by decide +kernel)
theorem tn_X8_newName : tw (.initialized (yX8_newName).cls) := tw_at 39 (by decide +kernel) (by decide +kernel)
theorem mv_X8_98 : MV RX8 98 8 yX8_newName cX8_newName 3 (some .int) 2 := ⟨⟨Or.inl (tw_at 730 (by decide +kernel) (by decide +kernel)), tc_X8_newName, tn_X8_newName, ⟨by decide +kernel, by decide +kernel, by decide +kernel⟩, by decide⟩, tw_at 732 (by decide +kernel) (by decide +kernel), tw_at 16 (by decide +kernel) (by decide +kernel), by decide +kernel⟩
theorem tc_X8_of : tw (.code yX8_of cX8_of 2 (some .int)) := tw_at 737 (by decide +kernel) (by decide +kernel)
theorem tn_X8_of : tw (.initialized (yX8_of).cls) := tw_at 39 (by decide +kernel) (by decide +kernel)
theorem mv_L_50 : MV RL 50 8 yX8_of cX8_of 2 (some .int) 1 := ⟨⟨Or.inl (tw_at 734 (by decide +kernel) (by decide +kernel)), tc_X8_of, tn_X8_of, ⟨by decide +kernel, by decide +kernel, by decide +kernel⟩, by decide⟩, tw_at 735 (by decide +kernel) (by decide +kernel), tw_at 736 (by decide +kernel) (by decide +kernel), by decide +kernel⟩
theorem tc_X8_copy : tw (.code yX8_copy cX8_copy 6 (some .int)) := tw_at 741 (by decide +kernel) (by decide +kernel)
theorem tn_X8_copy : tw (.initialized (yX8_copy).cls) := tw_at 39 (by decide +kernel) (by decide +kernel)
theorem mv_L_37 : MV RL 37 8 yX8_copy cX8_copy 6 (some .int) 2 := ⟨⟨Or.inl (tw_at 738 (by decide +kernel) (by decide +kernel)), tc_X8_copy, tn_X8_copy, ⟨by decide +kernel, by decide +kernel, by decide +kernel⟩, by decide⟩, tw_at 739 (by decide +kernel) (by decide +kernel), tw_at 740 (by decide +kernel) (by decide +kernel), by decide +kernel⟩
theorem mv_X8_102 : MV RX8 102 8 yX8_of cX8_of 2 (some .int) 1 := ⟨⟨Or.inl (tw_at 742 (by decide +kernel) (by decide +kernel)), tc_X8_of, tn_X8_of, ⟨by decide +kernel, by decide +kernel, by decide +kernel⟩, by decide⟩, tw_at 735 (by decide +kernel) (by decide +kernel), tw_at 736 (by decide +kernel) (by decide +kernel), by decide +kernel⟩
theorem mv_X8_105 : MV RX8 105 8 yX8_file cX8_file 4 (some .int) 3 := ⟨⟨Or.inl (tw_at 743 (by decide +kernel) (by decide +kernel)), tc_X8_file, tn_X8_file, ⟨by decide +kernel, by decide +kernel, by decide +kernel⟩, by decide⟩, tw_at 727 (by decide +kernel) (by decide +kernel), tw_at 728 (by decide +kernel) (by decide +kernel), by decide +kernel⟩
theorem tc_X8_link : tw (.code yX8_link cX8_link 3 (some .int)) := tw_at 747 (by decide +kernel) (by decide +kernel)
theorem tn_X8_link : tw (.initialized (yX8_link).cls) := tw_at 39 (by decide +kernel) (by decide +kernel)
theorem mv_L_41 : MV RL 41 8 yX8_link cX8_link 3 (some .int) 2 := ⟨⟨Or.inl (tw_at 744 (by decide +kernel) (by decide +kernel)), tc_X8_link, tn_X8_link, ⟨by decide +kernel, by decide +kernel, by decide +kernel⟩, by decide⟩, tw_at 745 (by decide +kernel) (by decide +kernel), tw_at 746 (by decide +kernel) (by decide +kernel), by decide +kernel⟩
theorem tc_X8_isFile : tw (.code yX8_isFile cX8_isFile 2 (some .boolean)) := tw_at 751 (by decide +kernel) (by decide +kernel)
theorem tn_X8_isFile : tw (.initialized (yX8_isFile).cls) := tw_at 39 (by decide +kernel) (by decide +kernel)
theorem mv_X8_109 : MV RX8 109 8 yX8_isFile cX8_isFile 2 (some .boolean) 1 := ⟨⟨Or.inl (tw_at 748 (by decide +kernel) (by decide +kernel)), tc_X8_isFile, tn_X8_isFile, ⟨by decide +kernel, by decide +kernel, by decide +kernel⟩, by decide⟩, tw_at 750 (by decide +kernel) (by decide +kernel), tw_at 17 (by decide +kernel) (by decide +kernel), by decide +kernel⟩
theorem tc_X8_namesOf : tw (.code yX8_namesOf cX8_namesOf 4 (some .int)) := tw_at 755 (by decide +kernel) (by decide +kernel)
theorem tn_X8_namesOf : tw (.initialized (yX8_namesOf).cls) := tw_at 39 (by decide +kernel) (by decide +kernel)
theorem mv_X8_94 : MV RX8 94 8 yX8_namesOf cX8_namesOf 4 (some .int) 1 := ⟨⟨Or.inl (tw_at 752 (by decide +kernel) (by decide +kernel)), tc_X8_namesOf, tn_X8_namesOf, ⟨by decide +kernel, by decide +kernel, by decide +kernel⟩, by decide⟩, tw_at 754 (by decide +kernel) (by decide +kernel), tw_at 18 (by decide +kernel) (by decide +kernel), by decide +kernel⟩
theorem tc_X8_unlink : tw (.code yX8_unlink cX8_unlink 2 (some .boolean)) := tw_at 759 (by decide +kernel) (by decide +kernel)
theorem tn_X8_unlink : tw (.initialized (yX8_unlink).cls) := tw_at 39 (by decide +kernel) (by decide +kernel)
theorem mv_L_46 : MV RL 46 8 yX8_unlink cX8_unlink 2 (some .boolean) 1 := ⟨⟨Or.inl (tw_at 756 (by decide +kernel) (by decide +kernel)), tc_X8_unlink, tn_X8_unlink, ⟨by decide +kernel, by decide +kernel, by decide +kernel⟩, by decide⟩, tw_at 757 (by decide +kernel) (by decide +kernel), tw_at 758 (by decide +kernel) (by decide +kernel), by decide +kernel⟩
theorem tc_X8_write : tw (.code yX8_write cX8_write 6 (some .int)) := tw_at 763 (by decide +kernel) (by decide +kernel)
theorem tn_X8_write : tw (.initialized (yX8_write).cls) := tw_at 39 (by decide +kernel) (by decide +kernel)
theorem mv_L_54 : MV RL 54 8 yX8_write cX8_write 6 (some .int) 2 := ⟨⟨Or.inl (tw_at 760 (by decide +kernel) (by decide +kernel)), tc_X8_write, tn_X8_write, ⟨by decide +kernel, by decide +kernel, by decide +kernel⟩, by decide⟩, tw_at 761 (by decide +kernel) (by decide +kernel), tw_at 762 (by decide +kernel) (by decide +kernel), by decide +kernel⟩
theorem tc_X8_isPlace : tw (.code yX8_isPlace cX8_isPlace 3 (some .boolean)) := tw_at 767 (by decide +kernel) (by decide +kernel)
theorem tn_X8_isPlace : tw (.initialized (yX8_isPlace).cls) := tw_at 39 (by decide +kernel) (by decide +kernel)
theorem mv_X8_116 : MV RX8 116 8 yX8_isPlace cX8_isPlace 3 (some .boolean) 2 := ⟨⟨Or.inl (tw_at 764 (by decide +kernel) (by decide +kernel)), tc_X8_isPlace, tn_X8_isPlace, ⟨by decide +kernel, by decide +kernel, by decide +kernel⟩, by decide⟩, tw_at 766 (by decide +kernel) (by decide +kernel), tw_at 19 (by decide +kernel) (by decide +kernel), by decide +kernel⟩
theorem tc_X8_allFiles : tw (.code yX8_allFiles cX8_allFiles 4 (some .long)) := tw_at 771 (by decide +kernel) (by decide +kernel)
theorem tn_X8_allFiles : tw (.initialized (yX8_allFiles).cls) := tw_at 39 (by decide +kernel) (by decide +kernel)
theorem mv_X8_119 : MV RX8 119 8 yX8_allFiles cX8_allFiles 4 (some .long) 0 := ⟨⟨Or.inl (tw_at 768 (by decide +kernel) (by decide +kernel)), tc_X8_allFiles, tn_X8_allFiles, ⟨by decide +kernel, by decide +kernel, by decide +kernel⟩, by decide⟩, tw_at 770 (by decide +kernel) (by decide +kernel), tw_at 20 (by decide +kernel) (by decide +kernel), by decide +kernel⟩
theorem tc_X8_blocksOf : tw (.code yX8_blocksOf cX8_blocksOf 5 (some .long)) := tw_at 775 (by decide +kernel) (by decide +kernel)
theorem tn_X8_blocksOf : tw (.initialized (yX8_blocksOf).cls) := tw_at 39 (by decide +kernel) (by decide +kernel)
theorem mv_X8_112 : MV RX8 112 8 yX8_blocksOf cX8_blocksOf 5 (some .long) 1 := ⟨⟨Or.inl (tw_at 772 (by decide +kernel) (by decide +kernel)), tc_X8_blocksOf, tn_X8_blocksOf, ⟨by decide +kernel, by decide +kernel, by decide +kernel⟩, by decide⟩, tw_at 774 (by decide +kernel) (by decide +kernel), tw_at 21 (by decide +kernel) (by decide +kernel), by decide +kernel⟩
theorem tc_X8_shots : tw (.code yX8_shots cX8_shots 5 (some .long)) := tw_at 779 (by decide +kernel) (by decide +kernel)
theorem tn_X8_shots : tw (.initialized (yX8_shots).cls) := tw_at 39 (by decide +kernel) (by decide +kernel)
theorem mv_X8_123 : MV RX8 123 8 yX8_shots cX8_shots 5 (some .long) 1 := ⟨⟨Or.inl (tw_at 776 (by decide +kernel) (by decide +kernel)), tc_X8_shots, tn_X8_shots, ⟨by decide +kernel, by decide +kernel, by decide +kernel⟩, by decide⟩, tw_at 778 (by decide +kernel) (by decide +kernel), tw_at 22 (by decide +kernel) (by decide +kernel), by decide +kernel⟩
theorem tc_X8_bits : tw (.code yX8_bits cX8_bits 4 (some .int)) := tw_at 782 (by decide +kernel) (by decide +kernel)
theorem tn_X8_bits : tw (.initialized (yX8_bits).cls) := tw_at 39 (by decide +kernel) (by decide +kernel)
theorem ms_X8_126 : MS RX8 126 yX8_bits cX8_bits 4 (some .int) 1 := ⟨⟨Or.inl (tw_at 780 (by decide +kernel) (by decide +kernel)), tc_X8_bits, tn_X8_bits, ⟨by decide +kernel, by decide +kernel, by decide +kernel⟩, by decide⟩, tw_at 781 (by decide +kernel) (by decide +kernel)⟩
theorem tc_X8_puts : tw (.code yX8_puts cX8_puts 4 none) := tw_at 786 (by decide +kernel) (by decide +kernel)
theorem tn_X8_puts : tw (.initialized (yX8_puts).cls) := tw_at 39 (by decide +kernel) (by decide +kernel)
theorem mv_X8_130 : MV RX8 130 8 yX8_puts cX8_puts 4 none 3 := ⟨⟨Or.inl (tw_at 783 (by decide +kernel) (by decide +kernel)), tc_X8_puts, tn_X8_puts, ⟨by decide +kernel, by decide +kernel, by decide +kernel⟩, by decide⟩, tw_at 785 (by decide +kernel) (by decide +kernel), tw_at 23 (by decide +kernel) (by decide +kernel), by decide +kernel⟩
theorem tc_X8_hole : tw (.code yX8_hole cX8_hole 3 (some .boolean)) := tw_at 790 (by decide +kernel) (by decide +kernel)
theorem tn_X8_hole : tw (.initialized (yX8_hole).cls) := tw_at 39 (by decide +kernel) (by decide +kernel)
theorem mv_L_58 : MV RL 58 8 yX8_hole cX8_hole 3 (some .boolean) 2 := ⟨⟨Or.inl (tw_at 787 (by decide +kernel) (by decide +kernel)), tc_X8_hole, tn_X8_hole, ⟨by decide +kernel, by decide +kernel, by decide +kernel⟩, by decide⟩, tw_at 788 (by decide +kernel) (by decide +kernel), tw_at 789 (by decide +kernel) (by decide +kernel), by decide +kernel⟩
theorem tc_X8_block : tw (.code yX8_block cX8_block 3 (some .int)) := tw_at 794 (by decide +kernel) (by decide +kernel)
theorem tn_X8_block : tw (.initialized (yX8_block).cls) := tw_at 39 (by decide +kernel) (by decide +kernel)
theorem mv_L_71 : MV RL 71 8 yX8_block cX8_block 3 (some .int) 2 := ⟨⟨Or.inl (tw_at 791 (by decide +kernel) (by decide +kernel)), tc_X8_block, tn_X8_block, ⟨by decide +kernel, by decide +kernel, by decide +kernel⟩, by decide⟩, tw_at 792 (by decide +kernel) (by decide +kernel), tw_at 793 (by decide +kernel) (by decide +kernel), by decide +kernel⟩
theorem tc_X8_share : tw (.code yX8_share cX8_share 5 (some .boolean)) := tw_at 798 (by decide +kernel) (by decide +kernel)
theorem tn_X8_share : tw (.initialized (yX8_share).cls) := tw_at 39 (by decide +kernel) (by decide +kernel)
theorem mv_L_63 : MV RL 63 8 yX8_share cX8_share 5 (some .boolean) 4 := ⟨⟨Or.inl (tw_at 795 (by decide +kernel) (by decide +kernel)), tc_X8_share, tn_X8_share, ⟨by decide +kernel, by decide +kernel, by decide +kernel⟩, by decide⟩, tw_at 796 (by decide +kernel) (by decide +kernel), tw_at 797 (by decide +kernel) (by decide +kernel), by decide +kernel⟩
theorem mv_X8_134 : MV RX8 134 8 yX8_block cX8_block 3 (some .int) 2 := ⟨⟨Or.inl (tw_at 799 (by decide +kernel) (by decide +kernel)), tc_X8_block, tn_X8_block, ⟨by decide +kernel, by decide +kernel, by decide +kernel⟩, by decide⟩, tw_at 792 (by decide +kernel) (by decide +kernel), tw_at 793 (by decide +kernel) (by decide +kernel), by decide +kernel⟩
theorem tc_X8_cut : tw (.code yX8_cut cX8_cut 3 (some .boolean)) := tw_at 803 (by decide +kernel) (by decide +kernel)
theorem tn_X8_cut : tw (.initialized (yX8_cut).cls) := tw_at 39 (by decide +kernel) (by decide +kernel)
theorem mv_L_67 : MV RL 67 8 yX8_cut cX8_cut 3 (some .boolean) 2 := ⟨⟨Or.inl (tw_at 800 (by decide +kernel) (by decide +kernel)), tc_X8_cut, tn_X8_cut, ⟨by decide +kernel, by decide +kernel, by decide +kernel⟩, by decide⟩, tw_at 801 (by decide +kernel) (by decide +kernel), tw_at 802 (by decide +kernel) (by decide +kernel), by decide +kernel⟩
theorem tc_X8_sum : tw (.code yX8_sum cX8_sum 6 (some .int)) := tw_at 807 (by decide +kernel) (by decide +kernel)
theorem tn_X8_sum : tw (.initialized (yX8_sum).cls) := tw_at 39 (by decide +kernel) (by decide +kernel)
theorem mv_L_75 : MV RL 75 8 yX8_sum cX8_sum 6 (some .int) 3 := ⟨⟨Or.inl (tw_at 804 (by decide +kernel) (by decide +kernel)), tc_X8_sum, tn_X8_sum, ⟨by decide +kernel, by decide +kernel, by decide +kernel⟩, by decide⟩, tw_at 805 (by decide +kernel) (by decide +kernel), tw_at 806 (by decide +kernel) (by decide +kernel), by decide +kernel⟩
theorem tc_X8_isSeen : tw (.code yX8_isSeen cX8_isSeen 4 (some .boolean)) := tw_at 811 (by decide +kernel) (by decide +kernel)
theorem tn_X8_isSeen : tw (.initialized (yX8_isSeen).cls) := tw_at 39 (by decide +kernel) (by decide +kernel)
theorem mv_X8_140 : MV RX8 140 8 yX8_isSeen cX8_isSeen 4 (some .boolean) 2 := ⟨⟨Or.inl (tw_at 808 (by decide +kernel) (by decide +kernel)), tc_X8_isSeen, tn_X8_isSeen, ⟨by decide +kernel, by decide +kernel, by decide +kernel⟩, by decide⟩, tw_at 810 (by decide +kernel) (by decide +kernel), tw_at 24 (by decide +kernel) (by decide +kernel), by decide +kernel⟩
theorem tc_X8_taken : tw (.code yX8_taken cX8_taken 5 (some .int)) := tw_at 815 (by decide +kernel) (by decide +kernel)
theorem tn_X8_taken : tw (.initialized (yX8_taken).cls) := tw_at 39 (by decide +kernel) (by decide +kernel)
theorem mv_X8_143 : MV RX8 143 8 yX8_taken cX8_taken 5 (some .int) 1 := ⟨⟨Or.inl (tw_at 812 (by decide +kernel) (by decide +kernel)), tc_X8_taken, tn_X8_taken, ⟨by decide +kernel, by decide +kernel, by decide +kernel⟩, by decide⟩, tw_at 814 (by decide +kernel) (by decide +kernel), tw_at 25 (by decide +kernel) (by decide +kernel), by decide +kernel⟩
theorem tc_X8_isIn : tw (.code yX8_isIn cX8_isIn 4 (some .boolean)) := tw_at 819 (by decide +kernel) (by decide +kernel)
theorem tn_X8_isIn : tw (.initialized (yX8_isIn).cls) := tw_at 39 (by decide +kernel) (by decide +kernel)
theorem mv_X8_137 : MV RX8 137 8 yX8_isIn cX8_isIn 4 (some .boolean) 2 := ⟨⟨Or.inl (tw_at 816 (by decide +kernel) (by decide +kernel)), tc_X8_isIn, tn_X8_isIn, ⟨by decide +kernel, by decide +kernel, by decide +kernel⟩, by decide⟩, tw_at 818 (by decide +kernel) (by decide +kernel), tw_at 26 (by decide +kernel) (by decide +kernel), by decide +kernel⟩
theorem tc_X8_named : tw (.code yX8_named cX8_named 6 (some .int)) := tw_at 823 (by decide +kernel) (by decide +kernel)
theorem tn_X8_named : tw (.initialized (yX8_named).cls) := tw_at 39 (by decide +kernel) (by decide +kernel)
theorem mv_L_79 : MV RL 79 8 yX8_named cX8_named 6 (some .int) 3 := ⟨⟨Or.inl (tw_at 820 (by decide +kernel) (by decide +kernel)), tc_X8_named, tn_X8_named, ⟨by decide +kernel, by decide +kernel, by decide +kernel⟩, by decide⟩, tw_at 821 (by decide +kernel) (by decide +kernel), tw_at 822 (by decide +kernel) (by decide +kernel), by decide +kernel⟩
theorem tc_X8_snapshot : tw (.code yX8_snapshot cX8_snapshot 2 (some .int)) := tw_at 827 (by decide +kernel) (by decide +kernel)
theorem tn_X8_snapshot : tw (.initialized (yX8_snapshot).cls) := tw_at 39 (by decide +kernel) (by decide +kernel)
theorem mv_L_84 : MV RL 84 8 yX8_snapshot cX8_snapshot 2 (some .int) 0 := ⟨⟨Or.inl (tw_at 824 (by decide +kernel) (by decide +kernel)), tc_X8_snapshot, tn_X8_snapshot, ⟨by decide +kernel, by decide +kernel, by decide +kernel⟩, by decide⟩, tw_at 825 (by decide +kernel) (by decide +kernel), tw_at 826 (by decide +kernel) (by decide +kernel), by decide +kernel⟩
theorem tc_X8_alone : tw (.code yX8_alone cX8_alone 2 (some .int)) := tw_at 831 (by decide +kernel) (by decide +kernel)
theorem tn_X8_alone : tw (.initialized (yX8_alone).cls) := tw_at 39 (by decide +kernel) (by decide +kernel)
theorem mv_L_92 : MV RL 92 8 yX8_alone cX8_alone 2 (some .int) 1 := ⟨⟨Or.inl (tw_at 828 (by decide +kernel) (by decide +kernel)), tc_X8_alone, tn_X8_alone, ⟨by decide +kernel, by decide +kernel, by decide +kernel⟩, by decide⟩, tw_at 829 (by decide +kernel) (by decide +kernel), tw_at 830 (by decide +kernel) (by decide +kernel), by decide +kernel⟩
theorem tc_X8_isSnapshot : tw (.code yX8_isSnapshot cX8_isSnapshot 2 (some .boolean)) := tw_at 835 (by decide +kernel) (by decide +kernel)
theorem tn_X8_isSnapshot : tw (.initialized (yX8_isSnapshot).cls) := tw_at 39 (by decide +kernel) (by decide +kernel)
theorem mv_X8_146 : MV RX8 146 8 yX8_isSnapshot cX8_isSnapshot 2 (some .boolean) 1 := ⟨⟨Or.inl (tw_at 832 (by decide +kernel) (by decide +kernel)), tc_X8_isSnapshot, tn_X8_isSnapshot, ⟨by decide +kernel, by decide +kernel, by decide +kernel⟩, by decide⟩, tw_at 834 (by decide +kernel) (by decide +kernel), tw_at 27 (by decide +kernel) (by decide +kernel), by decide +kernel⟩
theorem tc_X8_drop : tw (.code yX8_drop cX8_drop 3 (some .int)) := tw_at 840 (by decide +kernel) (by decide +kernel)
theorem tn_X8_drop : tw (.initialized (yX8_drop).cls) := tw_at 39 (by decide +kernel) (by decide +kernel)
theorem mv_L_88 : MV RL 88 8 yX8_drop cX8_drop 3 (some .int) 1 := ⟨⟨Or.inl (tw_at 837 (by decide +kernel) (by decide +kernel)), tc_X8_drop, tn_X8_drop, ⟨by decide +kernel, by decide +kernel, by decide +kernel⟩, by decide⟩, tw_at 838 (by decide +kernel) (by decide +kernel), tw_at 839 (by decide +kernel) (by decide +kernel), by decide +kernel⟩
theorem mv_X8_151 : MV RX8 151 8 yX8_alone cX8_alone 2 (some .int) 1 := ⟨⟨Or.inl (tw_at 841 (by decide +kernel) (by decide +kernel)), tc_X8_alone, tn_X8_alone, ⟨by decide +kernel, by decide +kernel, by decide +kernel⟩, by decide⟩, tw_at 829 (by decide +kernel) (by decide +kernel), tw_at 830 (by decide +kernel) (by decide +kernel), by decide +kernel⟩
theorem tc_X8_mark : tw (.code yX8_mark cX8_mark 2 (some .int)) := tw_at 845 (by decide +kernel) (by decide +kernel)
theorem tn_X8_mark : tw (.initialized (yX8_mark).cls) := tw_at 39 (by decide +kernel) (by decide +kernel)
theorem mv_L_96 : MV RL 96 8 yX8_mark cX8_mark 2 (some .int) 0 := ⟨⟨Or.inl (tw_at 842 (by decide +kernel) (by decide +kernel)), tc_X8_mark, tn_X8_mark, ⟨by decide +kernel, by decide +kernel, by decide +kernel⟩, by decide⟩, tw_at 843 (by decide +kernel) (by decide +kernel), tw_at 844 (by decide +kernel) (by decide +kernel), by decide +kernel⟩
theorem tc_X8_grew : tw (.code yX8_grew cX8_grew 4 (some .int)) := tw_at 849 (by decide +kernel) (by decide +kernel)
theorem tn_X8_grew : tw (.initialized (yX8_grew).cls) := tw_at 39 (by decide +kernel) (by decide +kernel)
theorem mv_L_100 : MV RL 100 8 yX8_grew cX8_grew 4 (some .int) 3 := ⟨⟨Or.inl (tw_at 846 (by decide +kernel) (by decide +kernel)), tc_X8_grew, tn_X8_grew, ⟨by decide +kernel, by decide +kernel, by decide +kernel⟩, by decide⟩, tw_at 847 (by decide +kernel) (by decide +kernel), tw_at 848 (by decide +kernel) (by decide +kernel), by decide +kernel⟩
theorem tc_X8_freed : tw (.code yX8_freed cX8_freed 3 (some .int)) := tw_at 854 (by decide +kernel) (by decide +kernel)
theorem tn_X8_freed : tw (.initialized (yX8_freed).cls) := tw_at 39 (by decide +kernel) (by decide +kernel)
theorem mv_L_104 : MV RL 104 8 yX8_freed cX8_freed 3 (some .int) 1 := ⟨⟨Or.inl (tw_at 851 (by decide +kernel) (by decide +kernel)), tc_X8_freed, tn_X8_freed, ⟨by decide +kernel, by decide +kernel, by decide +kernel⟩, by decide⟩, tw_at 852 (by decide +kernel) (by decide +kernel), tw_at 853 (by decide +kernel) (by decide +kernel), by decide +kernel⟩
theorem tc_X8_hasOutside : tw (.code yX8_hasOutside cX8_hasOutside 4 (some .boolean)) := tw_at 858 (by decide +kernel) (by decide +kernel)
theorem tn_X8_hasOutside : tw (.initialized (yX8_hasOutside).cls) := tw_at 39 (by decide +kernel) (by decide +kernel)
theorem mv_X8_158 : MV RX8 158 8 yX8_hasOutside cX8_hasOutside 4 (some .boolean) 2 := ⟨⟨Or.inl (tw_at 855 (by decide +kernel) (by decide +kernel)), tc_X8_hasOutside, tn_X8_hasOutside, ⟨by decide +kernel, by decide +kernel, by decide +kernel⟩, by decide⟩, tw_at 857 (by decide +kernel) (by decide +kernel), tw_at 28 (by decide +kernel) (by decide +kernel), by decide +kernel⟩
theorem tc_X8_freedBy : tw (.code yX8_freedBy cX8_freedBy 6 (some .int)) := tw_at 862 (by decide +kernel) (by decide +kernel)
theorem tn_X8_freedBy : tw (.initialized (yX8_freedBy).cls) := tw_at 39 (by decide +kernel) (by decide +kernel)
theorem mv_X8_161 : MV RX8 161 8 yX8_freedBy cX8_freedBy 6 (some .int) 0 := ⟨⟨Or.inl (tw_at 859 (by decide +kernel) (by decide +kernel)), tc_X8_freedBy, tn_X8_freedBy, ⟨by decide +kernel, by decide +kernel, by decide +kernel⟩, by decide⟩, tw_at 861 (by decide +kernel) (by decide +kernel), tw_at 29 (by decide +kernel) (by decide +kernel), by decide +kernel⟩
theorem tc_X8_both : tw (.code yX8_both cX8_both 4 (some .int)) := tw_at 866 (by decide +kernel) (by decide +kernel)
theorem tn_X8_both : tw (.initialized (yX8_both).cls) := tw_at 39 (by decide +kernel) (by decide +kernel)
theorem mv_L_108 : MV RL 108 8 yX8_both cX8_both 4 (some .int) 2 := ⟨⟨Or.inl (tw_at 863 (by decide +kernel) (by decide +kernel)), tc_X8_both, tn_X8_both, ⟨by decide +kernel, by decide +kernel, by decide +kernel⟩, by decide⟩, tw_at 864 (by decide +kernel) (by decide +kernel), tw_at 865 (by decide +kernel) (by decide +kernel), by decide +kernel⟩
theorem tc_X8_plan : tw (.code yX8_plan cX8_plan 3 (some .int)) := tw_at 870 (by decide +kernel) (by decide +kernel)
theorem tn_X8_plan : tw (.initialized (yX8_plan).cls) := tw_at 39 (by decide +kernel) (by decide +kernel)
theorem mv_L_112 : MV RL 112 8 yX8_plan cX8_plan 3 (some .int) 2 := ⟨⟨Or.inl (tw_at 867 (by decide +kernel) (by decide +kernel)), tc_X8_plan, tn_X8_plan, ⟨by decide +kernel, by decide +kernel, by decide +kernel⟩, by decide⟩, tw_at 868 (by decide +kernel) (by decide +kernel), tw_at 869 (by decide +kernel) (by decide +kernel), by decide +kernel⟩
theorem tc_X8_plans : tw (.code yX8_plans cX8_plans 13 (some .int)) := tw_at 874 (by decide +kernel) (by decide +kernel)
theorem tn_X8_plans : tw (.initialized (yX8_plans).cls) := tw_at 39 (by decide +kernel) (by decide +kernel)
theorem mv_X8_171 : MV RX8 171 8 yX8_plans cX8_plans 13 (some .int) 2 := ⟨⟨Or.inl (tw_at 871 (by decide +kernel) (by decide +kernel)), tc_X8_plans, tn_X8_plans, ⟨by decide +kernel, by decide +kernel, by decide +kernel⟩, by decide⟩, tw_at 873 (by decide +kernel) (by decide +kernel), tw_at 30 (by decide +kernel) (by decide +kernel), by decide +kernel⟩
theorem tc_X8_planned : tw (.code yX8_planned cX8_planned 7 (some .int)) := tw_at 878 (by decide +kernel) (by decide +kernel)
theorem tn_X8_planned : tw (.initialized (yX8_planned).cls) := tw_at 39 (by decide +kernel) (by decide +kernel)
theorem mv_L_116 : MV RL 116 8 yX8_planned cX8_planned 7 (some .int) 3 := ⟨⟨Or.inl (tw_at 875 (by decide +kernel) (by decide +kernel)), tc_X8_planned, tn_X8_planned, ⟨by decide +kernel, by decide +kernel, by decide +kernel⟩, by decide⟩, tw_at 876 (by decide +kernel) (by decide +kernel), tw_at 877 (by decide +kernel) (by decide +kernel), by decide +kernel⟩
theorem tc_X8_largest : tw (.code yX8_largest cX8_largest 6 (some .int)) := tw_at 882 (by decide +kernel) (by decide +kernel)
theorem tn_X8_largest : tw (.initialized (yX8_largest).cls) := tw_at 39 (by decide +kernel) (by decide +kernel)
theorem mv_L_120 : MV RL 120 8 yX8_largest cX8_largest 6 (some .int) 2 := ⟨⟨Or.inl (tw_at 879 (by decide +kernel) (by decide +kernel)), tc_X8_largest, tn_X8_largest, ⟨by decide +kernel, by decide +kernel, by decide +kernel⟩, by decide⟩, tw_at 880 (by decide +kernel) (by decide +kernel), tw_at 881 (by decide +kernel) (by decide +kernel), by decide +kernel⟩
theorem tc_X8_holds : tw (.code yX8_holds cX8_holds 2 (some .boolean)) := tw_at 886 (by decide +kernel) (by decide +kernel)
theorem tn_X8_holds : tw (.initialized (yX8_holds).cls) := tw_at 39 (by decide +kernel) (by decide +kernel)
theorem mv_L_124 : MV RL 124 8 yX8_holds cX8_holds 2 (some .boolean) 1 := ⟨⟨Or.inl (tw_at 883 (by decide +kernel) (by decide +kernel)), tc_X8_holds, tn_X8_holds, ⟨by decide +kernel, by decide +kernel, by decide +kernel⟩, by decide⟩, tw_at 884 (by decide +kernel) (by decide +kernel), tw_at 885 (by decide +kernel) (by decide +kernel), by decide +kernel⟩
theorem tc_X8_full : tw (.code yX8_full cX8_full 8 (some .int)) := tw_at 890 (by decide +kernel) (by decide +kernel)
theorem tn_X8_full : tw (.initialized (yX8_full).cls) := tw_at 39 (by decide +kernel) (by decide +kernel)
theorem mv_L_128 : MV RL 128 8 yX8_full cX8_full 8 (some .int) 1 := ⟨⟨Or.inl (tw_at 887 (by decide +kernel) (by decide +kernel)), tc_X8_full, tn_X8_full, ⟨by decide +kernel, by decide +kernel, by decide +kernel⟩, by decide⟩, tw_at 888 (by decide +kernel) (by decide +kernel), tw_at 889 (by decide +kernel) (by decide +kernel), by decide +kernel⟩
theorem tc_X8_down : tw (.code yX8_down cX8_down 2 (some .int)) := tw_at 893 (by decide +kernel) (by decide +kernel)
theorem tn_X8_down : tw (.initialized (yX8_down).cls) := tw_at 39 (by decide +kernel) (by decide +kernel)
theorem ms_X8_174 : MS RX8 174 yX8_down cX8_down 2 (some .int) 2 := ⟨⟨Or.inl (tw_at 891 (by decide +kernel) (by decide +kernel)), tc_X8_down, tn_X8_down, ⟨by decide +kernel, by decide +kernel, by decide +kernel⟩, by decide⟩, tw_at 892 (by decide +kernel) (by decide +kernel)⟩
theorem tc_X8_told : tw (.code yX8_told cX8_told 5 (some .int)) := tw_at 897 (by decide +kernel) (by decide +kernel)
theorem tn_X8_told : tw (.initialized (yX8_told).cls) := tw_at 39 (by decide +kernel) (by decide +kernel)
theorem mv_L_132 : MV RL 132 8 yX8_told cX8_told 5 (some .int) 2 := ⟨⟨Or.inl (tw_at 894 (by decide +kernel) (by decide +kernel)), tc_X8_told, tn_X8_told, ⟨by decide +kernel, by decide +kernel, by decide +kernel⟩, by decide⟩, tw_at 895 (by decide +kernel) (by decide +kernel), tw_at 896 (by decide +kernel) (by decide +kernel), by decide +kernel⟩
theorem tc_X8_count : tw (.code yX8_count cX8_count 4 (some .int)) := tw_at 901 (by decide +kernel) (by decide +kernel)
theorem tn_X8_count : tw (.initialized (yX8_count).cls) := tw_at 39 (by decide +kernel) (by decide +kernel)
theorem mv_L_136 : MV RL 136 8 yX8_count cX8_count 4 (some .int) 1 := ⟨⟨Or.inl (tw_at 898 (by decide +kernel) (by decide +kernel)), tc_X8_count, tn_X8_count, ⟨by decide +kernel, by decide +kernel, by decide +kernel⟩, by decide⟩, tw_at 899 (by decide +kernel) (by decide +kernel), tw_at 900 (by decide +kernel) (by decide +kernel), by decide +kernel⟩
theorem tl_L_7 : tw (.classLink RL 7 RX7) := tw_at 43 (by decide +kernel) (by decide +kernel)
theorem nl_L_7 : NL RL 7 7 8 [.null, .null, .null, .null, .null, .null, .int 0, .int 0] := ⟨_, tyX7, rfl, rfl, ui_X7, tyX7_ok, tl_L_7, tw_at 44 (by decide +kernel) (by decide +kernel), tw_at 32 (by decide +kernel) (by decide +kernel), by decide +kernel⟩
theorem tl_X7_9 : tw (.classLink RX7 9 RX1) := tw_at 51 (by decide +kernel) (by decide +kernel)
theorem nl_X7_9 : NL RX7 9 1 4 [.null, .null, .null, .int 0] := ⟨_, tyX1, rfl, rfl, ui_X1, tyX1_ok, tl_X7_9, tw_at 52 (by decide +kernel) (by decide +kernel), tw_at 33 (by decide +kernel) (by decide +kernel), by decide +kernel⟩
theorem tl_X7_16 : tw (.classLink RX7 16 RX0) := tw_at 73 (by decide +kernel) (by decide +kernel)
theorem nl_X7_16 : NL RX7 16 0 2 [.null, .int 0] := ⟨_, tyX0, rfl, rfl, ui_X0, tyX0_ok, tl_X7_16, tw_at 74 (by decide +kernel) (by decide +kernel), tw_at 34 (by decide +kernel) (by decide +kernel), by decide +kernel⟩
theorem tl_X0_9 : tw (.classLink RX0 9 RX6) := tw_at 79 (by decide +kernel) (by decide +kernel)
theorem nl_X0_9 : NL RX0 9 6 6 [.int 0, .int 0, .null, .int 0, .int 0, .long 0] := ⟨_, tyX6, rfl, rfl, ui_X6, tyX6_ok, tl_X0_9, tw_at 243 (by decide +kernel) (by decide +kernel), tw_at 41 (by decide +kernel) (by decide +kernel), by decide +kernel⟩
theorem tl_X7_23 : tw (.classLink RX7 23 RX3) := tw_at 89 (by decide +kernel) (by decide +kernel)
theorem nl_X7_23 : NL RX7 23 3 3 [.null, .null, .int 0] := ⟨_, tyX3, rfl, rfl, ui_X3, tyX3_ok, tl_X7_23, tw_at 90 (by decide +kernel) (by decide +kernel), tw_at 35 (by decide +kernel) (by decide +kernel), by decide +kernel⟩
theorem tl_X7_30 : tw (.classLink RX7 30 RX5) := tw_at 105 (by decide +kernel) (by decide +kernel)
theorem nl_X7_30 : NL RX7 30 5 2 [.null, .null] := ⟨_, tyX5, rfl, rfl, ui_X5, tyX5_ok, tl_X7_30, tw_at 106 (by decide +kernel) (by decide +kernel), tw_at 36 (by decide +kernel) (by decide +kernel), by decide +kernel⟩
theorem tl_X7_37 : tw (.classLink RX7 37 RX2) := tw_at 119 (by decide +kernel) (by decide +kernel)
theorem nl_X7_37 : NL RX7 37 2 3 [.null, .null, .int 0] := ⟨_, tyX2, rfl, rfl, ui_X2, tyX2_ok, tl_X7_37, tw_at 120 (by decide +kernel) (by decide +kernel), tw_at 37 (by decide +kernel) (by decide +kernel), by decide +kernel⟩
theorem tl_X7_44 : tw (.classLink RX7 44 RX4) := tw_at 136 (by decide +kernel) (by decide +kernel)
theorem nl_X7_44 : NL RX7 44 4 7 [.null, .null, .null, .int 0, .int 0, .int 0, .long 0] := ⟨_, tyX4, rfl, rfl, ui_X4, tyX4_ok, tl_X7_44, tw_at 137 (by decide +kernel) (by decide +kernel), tw_at 38 (by decide +kernel) (by decide +kernel), by decide +kernel⟩
theorem tl_X7_87 : tw (.classLink RX7 87 RX6) := tw_at 242 (by decide +kernel) (by decide +kernel)
theorem nl_X7_87 : NL RX7 87 6 6 [.int 0, .int 0, .null, .int 0, .int 0, .long 0] := ⟨_, tyX6, rfl, rfl, ui_X6, tyX6_ok, tl_X7_87, tw_at 243 (by decide +kernel) (by decide +kernel), tw_at 41 (by decide +kernel) (by decide +kernel), by decide +kernel⟩
theorem tl_X6_10 : tw (.classLink RX6 10 RX6) := tw_at 302 (by decide +kernel) (by decide +kernel)
theorem nl_X6_10 : NL RX6 10 6 6 [.int 0, .int 0, .null, .int 0, .int 0, .long 0] := ⟨_, tyX6, rfl, rfl, ui_X6, tyX6_ok, tl_X6_10, tw_at 243 (by decide +kernel) (by decide +kernel), tw_at 41 (by decide +kernel) (by decide +kernel), by decide +kernel⟩
theorem tl_L_10 : tw (.classLink RL 10 RX8) := tw_at 618 (by decide +kernel) (by decide +kernel)
theorem nl_L_10 : NL RL 10 8 26 [.int 0, .int 0, .null, .null, .null, .int 0, .null, .null, .null, .null, .null, .int 0, .null, .null, .null, .null, .null, .int 0, .null, .null, .int 0, .null, .null, .null, .int 0, .int 0] := ⟨_, tyX8, rfl, rfl, ui_X8, tyX8_ok, tl_L_10, tw_at 619 (by decide +kernel) (by decide +kernel), tw_at 39 (by decide +kernel) (by decide +kernel), by decide +kernel⟩
end
section
/-! Numbers, truth values, rows of J in the forms that the walks use. -/
theorem ic_m1 : Int32.ofInt (-1) = -1 := by decide
theorem ic_0 : Int32.ofInt (0) = nI 0 := by decide
theorem ic_1 : Int32.ofInt (1) = nI 1 := by decide
theorem ic_2 : Int32.ofInt (2) = nI 2 := by decide
theorem ic_3 : Int32.ofInt (3) = nI 3 := by decide
theorem ic_4 : Int32.ofInt (4) = nI 4 := by decide
theorem ic_5 : Int32.ofInt (5) = nI 5 := by decide
theorem bp_6 : (Int8.ofInt (6)).toInt32 = nI 6 := by decide
theorem bp_7 : (Int8.ofInt (7)).toInt32 = nI 7 := by decide
theorem bp_8 : (Int8.ofInt (8)).toInt32 = nI 8 := by decide
theorem bp_12 : (Int8.ofInt (12)).toInt32 = nI 12 := by decide
theorem bp_16 : (Int8.ofInt (16)).toInt32 = nI 16 := by decide
theorem bp_20 : (Int8.ofInt (20)).toInt32 = nI 20 := by decide
theorem bp_30 : (Int8.ofInt (30)).toInt32 = nI 30 := by decide
theorem bp_31 : (Int8.ofInt (31)).toInt32 = nI 31 := by decide
theorem bp_32 : (Int8.ofInt (32)).toInt32 = nI 32 := by decide
theorem bp_40 : (Int8.ofInt (40)).toInt32 = nI 40 := by decide
theorem bp_59 : (Int8.ofInt (59)).toInt32 = nI 59 := by decide
theorem bp_60 : (Int8.ofInt (60)).toInt32 = nI 60 := by decide
theorem bp_100 : (Int8.ofInt (100)).toInt32 = nI 100 := by decide
theorem bp_127 : (Int8.ofInt (127)).toInt32 = nI 127 := by decide
theorem sp_500 : (Int16.ofInt (500)).toInt32 = nI 500 := by decide
theorem sp_600 : (Int16.ofInt (600)).toInt32 = nI 600 := by decide
theorem sp_999 : (Int16.ofInt (999)).toInt32 = nI 999 := by decide
theorem sp_1000 : (Int16.ofInt (1000)).toInt32 = nI 1000 := by decide
theorem sp_2400 : (Int16.ofInt (2400)).toInt32 = nI 2400 := by decide
theorem sp_5000 : (Int16.ofInt (5000)).toInt32 = nI 5000 := by decide
theorem sp_12000 : (Int16.ofInt (12000)).toInt32 = nI 12000 := by decide
theorem lc_0 : Int64.ofNat ((0 : Fin 2) : Nat) = 0 := rfl
theorem lc_1 : Int64.ofNat ((1 : Fin 2) : Nat) = 1 := rfl
def bI (b : Bool) : Int32 := cond b (nI 1) (nI 0)
theorem bI_nar (b : Bool) : vp_nar .boolean (bI b) = bI b := by cases b <;> decide
theorem nar_0 : vp_nar .boolean (nI 0) = nI 0 := by decide
theorem nar_1 : vp_nar .boolean (nI 1) = nI 1 := by decide
theorem bI_0 {b : Bool} : bI b = 0 ↔ b = false := by cases b <;> decide
theorem bI_t {b : Bool} (h : b = true) : nI 1 = bI b := by subst h; rfl
theorem bI_f {b : Bool} (h : b = false) : nI 0 = bI b := by subst h; rfl
theorem inc_n (i : Nat) : nI i + Int32.ofInt 1 = nI (i + 1) := by rw [show Int32.ofInt 1 = 1 from by decide]; exact nI_1 i
theorem dec_n (i : Nat) : nI (i + 1) + Int32.ofInt (-1) = nI i := by rw [show Int32.ofInt (-1) = -1 from by decide]; exact pk_m1 i
/-- a number of n, as Java's tests say it -/
def inN (x : Int32) (n : Nat) : Bool := decide (0 ≤ x.toInt) && decide (x.toInt < (n : Int))
theorem inN_of {x : Int32} {n : Nat} (h : inN x n = true) : ∃ i, i < n ∧ x = nI i := by
  simp [inN] at h
  have h0 : ¬ x < 0 := by rw [Int32.lt_iff_toInt_lt]; simp; omega
  obtain ⟨i, hi, rfl⟩ := nI_of h0
  rw [nI_toInt hi] at h
  exact ⟨i, by omega, rfl⟩
theorem inN_nI {i n : Nat} (hi : i < 2 ^ 31) : inN (nI i) n = decide (i < n) := by
  simp [inN, nI_toInt hi]
theorem lt0_iff {x : Int32} : x < 0 ↔ x.toInt < 0 := by rw [Int32.lt_iff_toInt_lt]; simp
theorem inN_no0 {x : Int32} {n : Nat} (h : x < 0) : inN x n = false := by
  have := lt0_iff.mp h
  simp [inN]; omega
theorem inN_noN {x : Int32} {n : Nat} (hn : n < 2 ^ 31) (h : nI n ≤ x) : inN x n = false := by
  rw [Int32.le_iff_toInt_le, nI_toInt hn] at h
  simp [inN]; omega
theorem inN_yes {x : Int32} {n : Nat} (hn : n < 2 ^ 31) (h : ¬ x < 0) (h2 : ¬ nI n ≤ x) : inN x n = true := by
  have h0 : ¬ x.toInt < 0 := fun q => h (lt0_iff.mpr q)
  rw [Int32.le_iff_toInt_le, nI_toInt hn] at h2
  simp [inN]; omega
theorem inN_cases (x : Int32) (n : Nat) : inN x n = false ∨ ∃ i, i < n ∧ x = nI i := by
  cases h : inN x n with
  | false => exact Or.inl rfl
  | true => exact Or.inr (inN_of h)
section JB
variable {X : CX} {g : GG} {own nm : String} {cc : ByteArray} {nL d RC RS : Nat} {ret : Option FieldType} {Q : State → Prop} {k n : Nat} {ad : AD} {C : CC} {L : List (Option Value)} {st : List Value}
theorem j_iaddN {pc a b : Nat} (h : Cx X g own nm cc nL d RC RS ret) (hd : decode cc pc = .ok (.iadd, 1)) (kk : J X g nL Q k n ad C (pc + 1) L (.int (nI (a + b)) :: st)) : J X g nL Q k n ad C pc L (.int (nI b) :: .int (nI a) :: st) := j_iadd h hd (by rw [nI_add]; exact kk)
theorem j_imulN {pc a b : Nat} (h : Cx X g own nm cc nL d RC RS ret) (hd : decode cc pc = .ok (.imul, 1)) (kk : J X g nL Q k n ad C (pc + 1) L (.int (nI (a * b)) :: st)) : J X g nL Q k n ad C pc L (.int (nI b) :: .int (nI a) :: st) := j_imul h hd (by rw [pk_mul]; exact kk)
theorem j_isubN {pc a b : Nat} (h : Cx X g own nm cc nL d RC RS ret) (hd : decode cc pc = .ok (.isub, 1)) (hab : b ≤ a) (kk : J X g nL Q k n ad C (pc + 1) L (.int (nI (a - b)) :: st)) : J X g nL Q k n ad C pc L (.int (nI b) :: .int (nI a) :: st) := j_isub h hd (by rw [pk_sub hab]; exact kk)
theorem j_if_eqB {pc tgt : Nat} {b : Bool} (h : Cx X g own nm cc nL d RC RS ret) {off : Int} (hd : decode cc pc = .ok (.ifCond .eq off, 3)) (ht : (pc : Int) + off = (tgt : Int)) (kt : b = false → J X g nL Q k n ad C tgt L st) (kf : b = true → J X g nL Q k n ad C (pc + 3) L st) : J X g nL Q k n ad C pc L (.int (bI b) :: st) :=
  j_if_eq h hd ht (fun q => kt (bI_0.mp q)) (fun q => kf (by cases b with | false => exact absurd rfl q | true => rfl))
theorem j_if_neB {pc tgt : Nat} {b : Bool} (h : Cx X g own nm cc nL d RC RS ret) {off : Int} (hd : decode cc pc = .ok (.ifCond .ne off, 3)) (ht : (pc : Int) + off = (tgt : Int)) (kt : b = true → J X g nL Q k n ad C tgt L st) (kf : b = false → J X g nL Q k n ad C (pc + 3) L st) : J X g nL Q k n ad C pc L (.int (bI b) :: st) :=
  j_if_ne h hd ht (fun q => kt (by cases b with | false => exact absurd rfl q | true => rfl)) (fun q => kf (bI_0.mp q))
theorem j_callVr {pc j idx ci np d' nb : Nat} {fs : List Value} {y : MethodName} {cb : ByteArray} {rb : Option FieldType} {As st0 rest : List Value} {v : Value} (h : Cx X g own nm cc nL d RC RS ret) (hd : decode cc pc = .ok (.invokevirtual idx, 3)) (hc : Cr (xl X) g y cb nb rb d' (.ref (ad j) :: As) ad C v) (hm : MV own idx ci y cb nb rb np) (hC : C j = some (.inr (ci, fs))) (hn : As.length = np) (hst : st0 = As.reverse ++ .ref (ad j) :: rest) (hdd : d' + 1 ≤ d) (hcat : (rest.map fun v => v.category).sum ≤ 8) (hcm : k ≤ RC) (hsm : n ≤ RS)
    (kk : J X g nL Q k n ad C (pc + 3) L (v :: rest)) : J X g nL Q k n ad C pc L st0 :=
  j_callV h hd hc hm hC hn hst hdd hcat hcm hsm (fun v' ad' C' hp => by obtain ⟨rfl, rfl, rfl⟩ := hp; exact kk)
theorem j_callSr {pc idx np d' nb : Nat} {y : MethodName} {cb : ByteArray} {rb : Option FieldType} {As st0 rest : List Value} {v : Value} (h : Cx X g own nm cc nL d RC RS ret) (hd : decode cc pc = .ok (.invokestatic idx, 3)) (hc : Cr (xl X) g y cb nb rb d' As ad C v) (hm : MS own idx y cb nb rb np) (hn : As.length = np) (hst : st0 = As.reverse ++ rest) (hdd : d' + 1 ≤ d) (hcat : (rest.map fun v => v.category).sum ≤ 8) (hcm : k ≤ RC) (hsm : n ≤ RS)
    (kk : J X g nL Q k n ad C (pc + 3) L (v :: rest)) : J X g nL Q k n ad C pc L st0 :=
  j_callS h hd hc hm hn hst hdd hcat hcm hsm (fun v' ad' C' hp => by obtain ⟨rfl, rfl, rfl⟩ := hp; exact kk)
theorem j_iretr {pc : Nat} {v r : Int32} (h : Cx X g own nm cc nL d 0 0 (some .int)) (hd : decode cc pc = .ok (.ireturn, 1)) (e : v = r) : J X g nL (QX X g 0 0 (fun r' ad' C' => r' = some (.int r) ∧ ad' = ad ∧ C' = C)) 0 0 ad C pc L [.int v] := j_iret h hd ⟨by rw [e], rfl, rfl⟩
theorem j_zretr {pc : Nat} {v r : Int32} (h : Cx X g own nm cc nL d 0 0 (some .boolean)) (hd : decode cc pc = .ok (.ireturn, 1)) (hn : vp_nar .boolean v = v) (e : v = r) : J X g nL (QX X g 0 0 (fun r' ad' C' => r' = some (.int r) ∧ ad' = ad ∧ C' = C)) 0 0 ad C pc L [.int v] := j_zret h hd hn ⟨by rw [e], rfl, rfl⟩
theorem j_lretr {pc : Nat} {v r : Int64} (h : Cx X g own nm cc nL d 0 0 (some .long)) (hd : decode cc pc = .ok (.lreturn, 1)) (e : v = r) : J X g nL (QX X g 0 0 (fun r' ad' C' => r' = some (.long r) ∧ ad' = ad ∧ C' = C)) 0 0 ad C pc L [.long v] := j_lret h hd ⟨by rw [e], rfl, rfl⟩
end JB
/-- how many below n -/
def cnt (p : Nat → Bool) : Nat → Nat
  | 0 => 0
  | n + 1 => cnt p n + (if p n then 1 else 0)
theorem cnt_le (p : Nat → Bool) : ∀ n, cnt p n ≤ n
  | 0 => Nat.le_refl _
  | n + 1 => by have := cnt_le p n; rw [cnt]; split <;> omega
theorem cnt_t {p : Nat → Bool} {n : Nat} (h : p n = true) : cnt p (n + 1) = cnt p n + 1 := by rw [cnt, if_pos h]
theorem cnt_f {p : Nat → Bool} {n : Nat} (h : p n = false) : cnt p (n + 1) = cnt p n := by rw [cnt, if_neg (by rw [h]; decide)]; rfl
theorem cnt_cong {p q : Nat → Bool} : ∀ {n : Nat}, (∀ k, k < n → p k = q k) → cnt p n = cnt q n
  | 0, _ => rfl
  | n + 1, h => by rw [cnt, cnt, cnt_cong (fun k hk => h k (by omega)), h n (by omega)]
/-- the or of all below n -/
def orr (f : Nat → Int64) : Nat → Int64
  | 0 => 0
  | n + 1 => orr f n ||| f n
theorem orr_cong {p q : Nat → Int64} : ∀ {n : Nat}, (∀ k, k < n → p k = q k) → orr p n = orr q n
  | 0, _ => rfl
  | n + 1, h => by rw [orr, orr, orr_cong (fun k hk => h k (by omega)), h n (by omega)]
/-- is there one below n -/
def anyN (p : Nat → Bool) : Nat → Bool
  | 0 => false
  | n + 1 => anyN p n || p n
theorem anyN_iff {p : Nat → Bool} : ∀ {n : Nat}, anyN p n = true ↔ ∃ k, k < n ∧ p k = true
  | 0 => by simp [anyN]
  | n + 1 => by
    rw [anyN, Bool.or_eq_true, anyN_iff]
    constructor
    · rintro (⟨k, hk, h⟩ | h)
      · exact ⟨k, by omega, h⟩
      · exact ⟨n, by omega, h⟩
    · rintro ⟨k, hk, h⟩
      rcases Nat.lt_or_ge k n with q | q
      · exact Or.inl ⟨k, q, h⟩
      · obtain rfl : k = n := by omega
        exact Or.inr h
theorem anyN_no {p : Nat → Bool} {n : Nat} (h : ∀ k, k < n → p k = false) : anyN p n = false := by
  cases e : anyN p n with
  | false => rfl
  | true => obtain ⟨k, hk, q⟩ := anyN_iff.mp e; rw [h k hk] at q; cases q
theorem anyN_yes {p : Nat → Bool} {n k : Nat} (hk : k < n) (h : p k = true) : anyN p n = true := anyN_iff.mpr ⟨k, hk, h⟩
theorem anyN_cong {p q : Nat → Bool} : ∀ {n : Nat}, (∀ k, k < n → p k = q k) → anyN p n = anyN q n
  | 0, _ => rfl
  | n + 1, h => by rw [anyN, anyN, anyN_cong (fun k hk => h k (by omega)), h n (by omega)]
/-- from i on, m more: the one with x of its kind ahead of it -/
def scan (p : Nat → Bool) (x : Int32) : Nat → Nat → Int32
  | _, 0 => -1
  | i, m + 1 => if p i = true ∧ nI (cnt p i) = x then nI i else scan p x (i + 1) m
theorem scan_cong {p q : Nat → Bool} {x : Int32} : ∀ {m i : Nat}, (∀ k, k < i + m → p k = q k) → scan p x i m = scan q x i m
  | 0, _, _ => rfl
  | m + 1, i, h => by
    have hc : cnt p i = cnt q i := cnt_cong (fun k hk => h k (by omega))
    rw [scan, scan, h i (by omega), hc, scan_cong (m := m) (i := i + 1) (fun k hk => h k (by omega))]
theorem nI_lt_of {a b : Nat} (h : nI a < nI b) (ha : a < 2 ^ 31) (hb : b < 2 ^ 31) : a < b := (nI_ltI ha hb).mp h
theorem nI_le_of {a b : Nat} (h : nI a ≤ nI b) (ha : a < 2 ^ 31) (hb : b < 2 ^ 31) : a ≤ b := (nI_leI ha hb).mp h
theorem nI_inj {a b : Nat} (h : nI a = nI b) (ha : a < 2 ^ 31) (hb : b < 2 ^ 31) : a = b := (nI_eq ha hb).mp h
theorem nI_m1 {a : Nat} (ha : a < 2 ^ 31) : nI a ≠ -1 := by
  intro h
  have h2 := congrArg Int32.toInt h
  rw [nI_toInt ha] at h2
  have h3 : (-1 : Int32).toInt = -1 := by decide
  omega
end
section
/-! Words of the two programs: codings of rows, sets as longs, chains of folders. -/
/-- a read's end -/
abbrev QR (X : CX) (g : GG) (ad : AD) (C : CC) (v : Value) : State → Prop := QX X g 0 0 (fun r' ad' C' => r' = some v ∧ ad' = ad ∧ C' = C)
/-- a change's end -/
abbrev QW (X : CX) (g : GG) (r : Option Value) (ad : AD) (C : CC) : State → Prop := QX X g 0 0 (fun r' ad' C' => r' = r ∧ ad' = ad ∧ C' = C)
abbrev Cw (l : Launch) (g : GG) (y : MethodName) (cc : ByteArray) (nL : Nat) (ret : Option FieldType) (d : Nat) (as : List Value) (ad : AD) (C : CC) (r : Option Value) (C' : CC) : Prop :=
  Ct l g y cc nL ret d 0 0 as ad C (fun r' ad' C'' => r' = r ∧ ad' = ad ∧ C'' = C')
def parF (pr : Nat → Nat) : Nat → Int32 := fun j => if j = 0 then -1 else nI (pr j)
def rI : Option Nat → Int32
  | none => -1
  | some b => nI b
def bF (f : Nat → Bool) : Nat → Int32 := fun i => bI (f i)
/-- the set has x, as isMember says it -/
def mbr (s : Int64) (x : Int32) : Bool := decide (¬ ((s >>> (x.toInt64 &&& 63)) &&& 1 = 0))
def b1 (x : Int32) : Int64 := 1 <<< (x.toInt64 &&& 63)
/-- a place's block, as a set -/
def bO : Option Nat → Int64
  | none => 0
  | some b => b1 (nI b)
/-- folder j's chain comes to the root within n steps -/
def okc (pr : Nat → Nat) (nf : Nat) : Nat → Nat → Prop
  | 0, j => j = 0
  | n + 1, j => j = 0 ∨ (pr j < nf ∧ okc pr nf n (pr j))
/-- t is j, or above it -/
def anc (pr : Nat → Nat) : Nat → Nat → Nat → Bool
  | 0, j, t => j == t
  | n + 1, j, t => j == t || (j != 0 && anc pr n (pr j) t)
/-- who sees folder j: nothing hidden from him on its chain -/
def sees (pr : Nat → Nat) (hd : Nat → Bool) (fow : Nat → Int32) (who : Int32) : Nat → Nat → Bool
  | 0, j => !(hd j && fow j != who)
  | n + 1, j => !(hd j && fow j != who) && (j == 0 || sees pr hd fow who n (pr j))
/-- numbers below n that p has, as bits of an int -/
def bitsI (p : Nat → Bool) : Nat → Int32
  | 0 => nI 0
  | n + 1 => if p n = true then bitsI p n ||| (nI 1 <<< (nI n &&& 31)) else bitsI p n
def sumN (f : Nat → Nat) : Nat → Nat
  | 0 => 0
  | n + 1 => sumN f n + f n
/-- how many of the 64 bits -/
def pcn (v : Int64) : Nat := cnt (fun i => v.toBitVec.getLsbD i) 64
def fdv (a b : Int32) : Int32 := if (a ^^^ b) < 0 ∧ ¬ (a / b * b = a) then a / b - nI 1 else a / b
theorem Ct_ofF {l : Launch} {g : GG} {y : MethodName} {cc : ByteArray} {nL : Nat} {ret : Option FieldType} {d mc ms : Nat} {as : List Value} {ad : AD} {C : CC} {post : Option Value → AD → CC → Prop} {own nm : String} (L : List (Option Value))
    (hy : plainFor y = true) (ho : y.cls = own) (hn : y.name = nm) (hlen : (lg_sl as).length ≤ nL) (hL : asc 0 L = lv_args 0 as) (hLn : L.length = nL)
    (body : ∀ X : CX, xl X = l → Cx X g own nm cc nL d mc ms ret → J X g nL (QX X g mc ms post) 0 0 ad C 0 L []) : Ct l g y cc nL ret d mc ms as ad C post := by
  refine va_MetF (cc := cc) (maxL := nL) (ret := ret) hy rfl ?_
  intro p e s m args below meth c s₁ B hml hv
  obtain ⟨rfl, hM, hK⟩ := hv
  have hX : Cx (p, l, e, (headSpec [Cond.code y cc nL ret] (rmD d mc ms)).room, s, m, as.toArray, below, meth, c) g own nm cc nL d mc ms ret := by
    refine ⟨B.exec, B.bytes, hml, ?_, hK, B.notSynchronized, ?_, Nat.le_refl _, Nat.le_refl _, rfl, rfl, B.returns, hM.1⟩
    · rw [← ho]; exact findClass_of_methodNamed B.named
    · rw [← hn]; exact (name_of_methodNamed B.named B.method).1
  have hl := lv_entry as (n := nL) hlen
  rw [lg_entry_eq]
  exact body (p, l, e, (headSpec [Cond.code y cc nL ret] (rmD d mc ms)).room, s, m, as.toArray, below, meth, c) rfl hX s.heap [] _ hM va_S.rf (hL ▸ hl) hLn
end
section
theorem dJ9_floorDiv_7cf53_0 : decode cJ9_floorDiv_7cf53 0 = .ok (.iload_n 0, 1) := by decide +kernel
theorem dJ9_floorDiv_7cf53_1 : decode cJ9_floorDiv_7cf53 1 = .ok (.iload_n 1, 1) := by decide +kernel
theorem dJ9_floorDiv_7cf53_2 : decode cJ9_floorDiv_7cf53 2 = .ok (.idiv, 1) := by decide +kernel
theorem dJ9_floorDiv_7cf53_3 : decode cJ9_floorDiv_7cf53 3 = .ok (.istore_n 2, 1) := by decide +kernel
theorem dJ9_floorDiv_7cf53_4 : decode cJ9_floorDiv_7cf53 4 = .ok (.iload_n 0, 1) := by decide +kernel
theorem dJ9_floorDiv_7cf53_5 : decode cJ9_floorDiv_7cf53 5 = .ok (.iload_n 1, 1) := by decide +kernel
theorem dJ9_floorDiv_7cf53_6 : decode cJ9_floorDiv_7cf53 6 = .ok (.ixor, 1) := by decide +kernel
theorem dJ9_floorDiv_7cf53_7 : decode cJ9_floorDiv_7cf53 7 = .ok (.ifCond .ge 14, 3) := by decide +kernel
theorem dJ9_floorDiv_7cf53_10 : decode cJ9_floorDiv_7cf53 10 = .ok (.iload_n 2, 1) := by decide +kernel
theorem dJ9_floorDiv_7cf53_11 : decode cJ9_floorDiv_7cf53 11 = .ok (.iload_n 1, 1) := by decide +kernel
theorem dJ9_floorDiv_7cf53_12 : decode cJ9_floorDiv_7cf53 12 = .ok (.imul, 1) := by decide +kernel
theorem dJ9_floorDiv_7cf53_13 : decode cJ9_floorDiv_7cf53 13 = .ok (.iload_n 0, 1) := by decide +kernel
theorem dJ9_floorDiv_7cf53_14 : decode cJ9_floorDiv_7cf53 14 = .ok (.if_icmp .eq 7, 3) := by decide +kernel
theorem dJ9_floorDiv_7cf53_17 : decode cJ9_floorDiv_7cf53 17 = .ok (.iload_n 2, 1) := by decide +kernel
theorem dJ9_floorDiv_7cf53_18 : decode cJ9_floorDiv_7cf53 18 = .ok (.iconst 1, 1) := by decide +kernel
theorem dJ9_floorDiv_7cf53_19 : decode cJ9_floorDiv_7cf53 19 = .ok (.isub, 1) := by decide +kernel
theorem dJ9_floorDiv_7cf53_20 : decode cJ9_floorDiv_7cf53 20 = .ok (.ireturn, 1) := by decide +kernel
theorem dJ9_floorDiv_7cf53_21 : decode cJ9_floorDiv_7cf53 21 = .ok (.iload_n 2, 1) := by decide +kernel
theorem dJ9_floorDiv_7cf53_22 : decode cJ9_floorDiv_7cf53 22 = .ok (.ireturn, 1) := by decide +kernel
theorem dJ9_max_7cf53_0 : decode cJ9_max_7cf53 0 = .ok (.iload_n 0, 1) := by decide +kernel
theorem dJ9_max_7cf53_1 : decode cJ9_max_7cf53 1 = .ok (.iload_n 1, 1) := by decide +kernel
theorem dJ9_max_7cf53_2 : decode cJ9_max_7cf53 2 = .ok (.if_icmp .lt 7, 3) := by decide +kernel
theorem dJ9_max_7cf53_5 : decode cJ9_max_7cf53 5 = .ok (.iload_n 0, 1) := by decide +kernel
theorem dJ9_max_7cf53_6 : decode cJ9_max_7cf53 6 = .ok (.goto 4, 3) := by decide +kernel
theorem dJ9_max_7cf53_9 : decode cJ9_max_7cf53 9 = .ok (.iload_n 1, 1) := by decide +kernel
theorem dJ9_max_7cf53_10 : decode cJ9_max_7cf53 10 = .ok (.ireturn, 1) := by decide +kernel
theorem dJ9_min_7cf53_0 : decode cJ9_min_7cf53 0 = .ok (.iload_n 0, 1) := by decide +kernel
theorem dJ9_min_7cf53_1 : decode cJ9_min_7cf53 1 = .ok (.iload_n 1, 1) := by decide +kernel
theorem dJ9_min_7cf53_2 : decode cJ9_min_7cf53 2 = .ok (.if_icmp .gt 7, 3) := by decide +kernel
theorem dJ9_min_7cf53_5 : decode cJ9_min_7cf53 5 = .ok (.iload_n 0, 1) := by decide +kernel
theorem dJ9_min_7cf53_6 : decode cJ9_min_7cf53 6 = .ok (.goto 4, 3) := by decide +kernel
theorem dJ9_min_7cf53_9 : decode cJ9_min_7cf53 9 = .ok (.iload_n 1, 1) := by decide +kernel
theorem dJ9_min_7cf53_10 : decode cJ9_min_7cf53 10 = .ok (.ireturn, 1) := by decide +kernel
/-! Static methods without memory. -/
section ST
variable {l : Launch} {g : GG} {ad : AD} {C : CC}
theorem k_J9_max_7cf53 {x y : Int32} : Cr l g yJ9_max_7cf53 cJ9_max_7cf53 2 (some .int) 1 [.int x, .int y] ad C (.int (if x < y then y else x)) := by
  refine Ct_ofF [some (.int x), some (.int y)] (by decide +kernel) rfl rfl (Nat.le_of_ble_eq_true rfl) rfl rfl (fun X hX h => ?_)
  subst hX
  refine j_iload0 (pc := 0) h dJ9_max_7cf53_0 ?_
  refine j_iload1 (pc := 1) h dJ9_max_7cf53_1 ?_
  refine j_icmp_lt (pc := 2) (tgt := 9) h dJ9_max_7cf53_2 (by decide) (fun c2 => ?_) (fun c2 => ?_)
  · refine j_iload1 (pc := 9) h dJ9_max_7cf53_9 ?_
    refine j_iretr (pc := 10) h dJ9_max_7cf53_10 (by rw [if_pos c2])
  · refine j_iload0 (pc := 5) h dJ9_max_7cf53_5 ?_
    refine j_goto (pc := 6) (tgt := 10) h dJ9_max_7cf53_6 (by decide) ?_
    refine j_iretr (pc := 10) h dJ9_max_7cf53_10 (by rw [if_neg c2])
theorem k_J9_min_7cf53 {x y : Int32} : Cr l g yJ9_min_7cf53 cJ9_min_7cf53 2 (some .int) 1 [.int x, .int y] ad C (.int (if y < x then y else x)) := by
  refine Ct_ofF [some (.int x), some (.int y)] (by decide +kernel) rfl rfl (Nat.le_of_ble_eq_true rfl) rfl rfl (fun X hX h => ?_)
  subst hX
  refine j_iload0 (pc := 0) h dJ9_min_7cf53_0 ?_
  refine j_iload1 (pc := 1) h dJ9_min_7cf53_1 ?_
  refine j_icmp_gt (pc := 2) (tgt := 9) h dJ9_min_7cf53_2 (by decide) (fun c2 => ?_) (fun c2 => ?_)
  · refine j_iload1 (pc := 9) h dJ9_min_7cf53_9 ?_
    refine j_iretr (pc := 10) h dJ9_min_7cf53_10 (by rw [if_pos c2])
  · refine j_iload0 (pc := 5) h dJ9_min_7cf53_5 ?_
    refine j_goto (pc := 6) (tgt := 10) h dJ9_min_7cf53_6 (by decide) ?_
    refine j_iretr (pc := 10) h dJ9_min_7cf53_10 (by rw [if_neg c2])
theorem k_J9_floorDiv_7cf53 {x y : Int32} (hy : ¬ y = 0) : Cr l g yJ9_floorDiv_7cf53 cJ9_floorDiv_7cf53 3 (some .int) 1 [.int x, .int y] ad C (.int (fdv x y)) := by
  refine Ct_ofF [some (.int x), some (.int y), none] (by decide +kernel) rfl rfl (Nat.le_of_ble_eq_true rfl) rfl rfl (fun X hX h => ?_)
  subst hX
  refine j_iload0 (pc := 0) h dJ9_floorDiv_7cf53_0 ?_
  refine j_iload1 (pc := 1) h dJ9_floorDiv_7cf53_1 ?_
  refine j_idiv (pc := 2) h dJ9_floorDiv_7cf53_2 (hy) ?_
  refine j_istore2 (pc := 3) h dJ9_floorDiv_7cf53_3 rfl ?_
  refine j_iload0 (pc := 4) h dJ9_floorDiv_7cf53_4 ?_
  refine j_iload1 (pc := 5) h dJ9_floorDiv_7cf53_5 ?_
  refine j_ixor (pc := 6) h dJ9_floorDiv_7cf53_6 ?_
  refine j_if_ge (pc := 7) (tgt := 21) h dJ9_floorDiv_7cf53_7 (by decide) (fun c7 => ?_) (fun c7 => ?_)
  · refine j_iload2 (pc := 21) h dJ9_floorDiv_7cf53_21 ?_
    refine j_iretr (pc := 22) h dJ9_floorDiv_7cf53_22 (by rw [fdv, if_neg]; intro q; have h1 := Int32.lt_iff_toInt_lt.mp q.1; have h2 := Int32.le_iff_toInt_le.mp c7; omega)
  · refine j_iload2 (pc := 10) h dJ9_floorDiv_7cf53_10 ?_
    refine j_iload1 (pc := 11) h dJ9_floorDiv_7cf53_11 ?_
    refine j_imul (pc := 12) h dJ9_floorDiv_7cf53_12 ?_
    refine j_iload0 (pc := 13) h dJ9_floorDiv_7cf53_13 ?_
    refine j_icmp_eq (pc := 14) (tgt := 21) h dJ9_floorDiv_7cf53_14 (by decide) (fun c14 => ?_) (fun c14 => ?_)
    · refine j_iload2 (pc := 21) h dJ9_floorDiv_7cf53_21 ?_
      refine j_iretr (pc := 22) h dJ9_floorDiv_7cf53_22 (by rw [fdv, if_neg]; intro q; exact q.2 c14)
    · refine j_iload2 (pc := 17) h dJ9_floorDiv_7cf53_17 ?_
      refine j_iconst (pc := 18) h dJ9_floorDiv_7cf53_18 ic_1 ?_
      refine j_isub (pc := 19) h dJ9_floorDiv_7cf53_19 ?_
      refine j_iretr (pc := 20) h dJ9_floorDiv_7cf53_20 (by rw [fdv, if_pos]; refine ⟨?_, c14⟩; rw [Int32.lt_iff_toInt_lt]; rw [Int32.le_iff_toInt_le] at c7; omega)
theorem dX7_isPerson_0 : decode cX7_isPerson 0 = .ok (.iload_n 0, 1) := by decide +kernel
theorem dX7_isPerson_1 : decode cX7_isPerson 1 = .ok (.ifCond .lt 13, 3) := by decide +kernel
theorem dX7_isPerson_4 : decode cX7_isPerson 4 = .ok (.iload_n 0, 1) := by decide +kernel
theorem dX7_isPerson_5 : decode cX7_isPerson 5 = .ok (.bipush 6, 2) := by decide +kernel
theorem dX7_isPerson_7 : decode cX7_isPerson 7 = .ok (.if_icmp .ge 7, 3) := by decide +kernel
theorem dX7_isPerson_10 : decode cX7_isPerson 10 = .ok (.iconst 1, 1) := by decide +kernel
theorem dX7_isPerson_11 : decode cX7_isPerson 11 = .ok (.goto 4, 3) := by decide +kernel
theorem dX7_isPerson_14 : decode cX7_isPerson 14 = .ok (.iconst 0, 1) := by decide +kernel
theorem dX7_isPerson_15 : decode cX7_isPerson 15 = .ok (.ireturn, 1) := by decide +kernel
theorem k_X7_isPerson {x : Int32} : Cr l g yX7_isPerson cX7_isPerson 1 (some .boolean) 1 [.int x] ad C (.int (bI (inN x 6))) := by
  refine Ct_of [some (.int x)] (by decide) rfl rfl (Nat.le_of_ble_eq_true rfl) rfl rfl (fun X hX h => ?_)
  subst hX
  refine j_iload0 (pc := 0) h dX7_isPerson_0 ?_
  refine j_if_lt (pc := 1) (tgt := 14) h dX7_isPerson_1 (by decide) (fun c1 => ?_) (fun c1 => ?_)
  · refine j_iconst (pc := 14) h dX7_isPerson_14 ic_0 ?_
    refine j_zretr (pc := 15) h dX7_isPerson_15 (by decide) (bI_f (inN_no0 c1))
  · refine j_iload0 (pc := 4) h dX7_isPerson_4 ?_
    refine j_bipush (pc := 5) h dX7_isPerson_5 bp_6 ?_
    refine j_icmp_ge (pc := 7) (tgt := 14) h dX7_isPerson_7 (by decide) (fun c7 => ?_) (fun c7 => ?_)
    · refine j_iconst (pc := 14) h dX7_isPerson_14 ic_0 ?_
      refine j_zretr (pc := 15) h dX7_isPerson_15 (by decide) (bI_f (inN_noN (by decide) c7))
    · refine j_iconst (pc := 10) h dX7_isPerson_10 ic_1 ?_
      refine j_goto (pc := 11) (tgt := 15) h dX7_isPerson_11 (by decide) ?_
      refine j_zretr (pc := 15) h dX7_isPerson_15 (by decide) (bI_t (inN_yes (by decide) c1 c7))
end ST
end
section
theorem dX7_isMember_0 : decode cX7_isMember 0 = .ok (.lload_n 0, 1) := by decide +kernel
theorem dX7_isMember_1 : decode cX7_isMember 1 = .ok (.iload_n 2, 1) := by decide +kernel
theorem dX7_isMember_2 : decode cX7_isMember 2 = .ok (.lshr, 1) := by decide +kernel
theorem dX7_isMember_3 : decode cX7_isMember 3 = .ok (.lconst 1, 1) := by decide +kernel
theorem dX7_isMember_4 : decode cX7_isMember 4 = .ok (.land, 1) := by decide +kernel
theorem dX7_isMember_5 : decode cX7_isMember 5 = .ok (.lconst 0, 1) := by decide +kernel
theorem dX7_isMember_6 : decode cX7_isMember 6 = .ok (.lcmp, 1) := by decide +kernel
theorem dX7_isMember_7 : decode cX7_isMember 7 = .ok (.ifCond .eq 7, 3) := by decide +kernel
theorem dX7_isMember_10 : decode cX7_isMember 10 = .ok (.iconst 1, 1) := by decide +kernel
theorem dX7_isMember_11 : decode cX7_isMember 11 = .ok (.goto 4, 3) := by decide +kernel
theorem dX7_isMember_14 : decode cX7_isMember 14 = .ok (.iconst 0, 1) := by decide +kernel
theorem dX7_isMember_15 : decode cX7_isMember 15 = .ok (.ireturn, 1) := by decide +kernel
theorem lg_cmp0 {x y : Int64} : lg_cmp x y = 0 ↔ x = y := by
  unfold lg_cmp
  constructor
  · intro h
    by_cases h1 : y < x
    · simp [h1] at h
    · by_cases h2 : x = y
      · exact h2
      · simp [h1, h2] at h
  · intro h
    subst h
    simp
theorem upn {α : Type} {f : Nat → α} {k j : Nat} {v e : α} (h : f j = e) (hj : j ≠ k) : va_up f k v j = e := by rw [va_up_ne _ _ hj]; exact h
theorem scan_no {p : Nat → Bool} {x : Int32} {i m : Nat} (h : p i = false) : scan p x i (m + 1) = scan p x (i + 1) m := by
  rw [scan, if_neg]; intro q; exact absurd (h.symm.trans q.1) (by decide)
theorem scan_nx {p : Nat → Bool} {x : Int32} {i m : Nat} (h : ¬ nI (cnt p i) = x) : scan p x i (m + 1) = scan p x (i + 1) m := by
  rw [scan, if_neg]; intro q; exact h q.2
theorem scan_hit {p : Nat → Bool} {x : Int32} {i m : Nat} (h : p i = true) (h2 : nI (cnt p i) = x) : scan p x i (m + 1) = nI i := by
  rw [scan, if_pos ⟨h, h2⟩]
theorem orr_no {f : Nat → Int64} {i : Nat} (h : f i = 0) : orr f i = orr f (i + 1) := by rw [orr, h]; simp
theorem j_isub1 {X : CX} {g : GG} {own nm : String} {cc : ByteArray} {nL d RC RS : Nat} {ret : Option FieldType} {Q : State → Prop} {k n : Nat} {ad : AD} {C : CC} {L : List (Option Value)} {st : List Value} {pc a : Nat} (h : Cx X g own nm cc nL d RC RS ret) (hd : decode cc pc = .ok (.isub, 1)) (kk : J X g nL Q k n ad C (pc + 1) L (.int (nI a) :: st)) : J X g nL Q k n ad C pc L (.int (nI 1) :: .int (nI (a + 1)) :: st) := j_isubN h hd (by omega) kk
section MB
variable {l : Launch} {g : GG} {ad : AD} {C : CC}
theorem k_X7_isMember {s : Int64} {x : Int32} : Cr l g yX7_isMember cX7_isMember 3 (some .boolean) 1 [.long s, .int x] ad C (.int (bI (mbr s x))) := by
  refine Ct_of [some (.long s), none, some (.int x)] (by decide) rfl rfl (Nat.le_of_ble_eq_true rfl) rfl rfl (fun X hX h => ?_)
  subst hX
  refine j_lload0 (pc := 0) h dX7_isMember_0 ?_
  refine j_iload2 (pc := 1) h dX7_isMember_1 ?_
  refine j_lshr (pc := 2) h dX7_isMember_2 ?_
  refine j_lconst (pc := 3) h dX7_isMember_3 lc_1 ?_
  refine j_land (pc := 4) h dX7_isMember_4 ?_
  refine j_lconst (pc := 5) h dX7_isMember_5 lc_0 ?_
  refine j_lcmp (pc := 6) h dX7_isMember_6 ?_
  refine j_if_eq (pc := 7) (tgt := 14) h dX7_isMember_7 (by decide) (fun c7 => ?_) (fun c7 => ?_)
  · refine j_iconst (pc := 14) h dX7_isMember_14 ic_0 ?_
    refine j_zretr (pc := 15) h dX7_isMember_15 (by decide) (bI_f (by simpa [mbr] using lg_cmp0.mp c7))
  · refine j_iconst (pc := 10) h dX7_isMember_10 ic_1 ?_
    refine j_goto (pc := 11) (tgt := 15) h dX7_isMember_11 (by decide) ?_
    refine j_zretr (pc := 15) h dX7_isMember_15 (by decide) (bI_t (by simpa [mbr] using fun q => c7 (lg_cmp0.mpr q)))
theorem dX7_memberOf_0 : decode cX7_memberOf 0 = .ok (.iconst 0, 1) := by decide +kernel
theorem dX7_memberOf_1 : decode cX7_memberOf 1 = .ok (.istore 4, 2) := by decide +kernel
theorem dX7_memberOf_3 : decode cX7_memberOf 3 = .ok (.iconst 0, 1) := by decide +kernel
theorem dX7_memberOf_4 : decode cX7_memberOf 4 = .ok (.istore 5, 2) := by decide +kernel
theorem dX7_memberOf_6 : decode cX7_memberOf 6 = .ok (.iload 5, 2) := by decide +kernel
theorem dX7_memberOf_8 : decode cX7_memberOf 8 = .ok (.iload_n 3, 1) := by decide +kernel
theorem dX7_memberOf_9 : decode cX7_memberOf 9 = .ok (.if_icmp .ge 30, 3) := by decide +kernel
theorem dX7_memberOf_12 : decode cX7_memberOf 12 = .ok (.lload_n 0, 1) := by decide +kernel
theorem dX7_memberOf_13 : decode cX7_memberOf 13 = .ok (.iload 5, 2) := by decide +kernel
theorem dX7_memberOf_15 : decode cX7_memberOf 15 = .ok (.invokestatic 245, 3) := by decide +kernel
theorem dX7_memberOf_18 : decode cX7_memberOf 18 = .ok (.ifCond .eq 15, 3) := by decide +kernel
theorem dX7_memberOf_21 : decode cX7_memberOf 21 = .ok (.iload 4, 2) := by decide +kernel
theorem dX7_memberOf_23 : decode cX7_memberOf 23 = .ok (.iload_n 2, 1) := by decide +kernel
theorem dX7_memberOf_24 : decode cX7_memberOf 24 = .ok (.if_icmp .ne 6, 3) := by decide +kernel
theorem dX7_memberOf_27 : decode cX7_memberOf 27 = .ok (.iload 5, 2) := by decide +kernel
theorem dX7_memberOf_29 : decode cX7_memberOf 29 = .ok (.ireturn, 1) := by decide +kernel
theorem dX7_memberOf_30 : decode cX7_memberOf 30 = .ok (.iinc 4 1, 3) := by decide +kernel
theorem dX7_memberOf_33 : decode cX7_memberOf 33 = .ok (.iinc 5 1, 3) := by decide +kernel
theorem dX7_memberOf_36 : decode cX7_memberOf 36 = .ok (.goto (-30), 3) := by decide +kernel
theorem dX7_memberOf_39 : decode cX7_memberOf 39 = .ok (.iconst (-1), 1) := by decide +kernel
theorem dX7_memberOf_40 : decode cX7_memberOf 40 = .ok (.ireturn, 1) := by decide +kernel
theorem k_X7_memberOf {s : Int64} {x : Int32} {n : Nat} (hn : n ≤ 64) : Cr l g yX7_memberOf cX7_memberOf 6 (some .int) 2 [.long s, .int x, .int (nI n)] ad C (.int (scan (fun i => mbr s (nI i)) x 0 n)) := by
  refine Ct_of [some (.long s), none, some (.int x), some (.int (nI n)), none, none] (by decide) rfl rfl (Nat.le_of_ble_eq_true rfl) rfl rfl (fun X hX h => ?_)
  subst hX
  have lp : ∀ m i, i + m = n → scan (fun i => mbr s (nI i)) x i m = scan (fun i => mbr s (nI i)) x 0 n → J X g 6 (QR X g ad C (.int (scan (fun i => mbr s (nI i)) x 0 n))) 0 0 ad C 6 [some (.long s), none, some (.int x), some (.int (nI n)), some (.int (nI (cnt (fun i => mbr s (nI i)) i))), some (.int (nI i))] [] := by
    intro m
    induction m with
    | zero =>
      intro i hi hs
      refine j_iload5 (pc := 6) h dX7_memberOf_6 ?_
      refine j_iload3 (pc := 8) h dX7_memberOf_8 ?_
      refine j_icmp_ge (pc := 9) (tgt := 39) h dX7_memberOf_9 (by decide) (fun c9 => ?_) (fun c9 => absurd (nI_le (by omega) (by omega)) c9)
      refine j_iconst (pc := 39) h dX7_memberOf_39 ic_m1 ?_
      refine j_iretr (pc := 40) h dX7_memberOf_40 (hs)
    | succ m ih =>
      intro i hi hs
      refine j_iload5 (pc := 6) h dX7_memberOf_6 ?_
      refine j_iload3 (pc := 8) h dX7_memberOf_8 ?_
      refine j_icmp_ge (pc := 9) (tgt := 39) h dX7_memberOf_9 (by decide) (fun c9 => absurd c9 (nI_ge (by omega) (by omega))) (fun c9 => ?_)
      refine j_lload0 (pc := 12) h dX7_memberOf_12 ?_
      refine j_iload5 (pc := 13) h dX7_memberOf_13 ?_
      refine j_callSr (pc := 15) h dX7_memberOf_15 (k_X7_isMember) ms_X7_245 rfl rfl (by decide) (Nat.le_of_ble_eq_true rfl) (Nat.le_of_ble_eq_true rfl) (Nat.le_of_ble_eq_true rfl) ?_
      refine j_if_eqB (pc := 18) (tgt := 33) h dX7_memberOf_18 (by decide) (fun c18 => ?_) (fun c18 => ?_)
      · refine j_iinc5 (pc := 33) h dX7_memberOf_33 rfl (inc_n _) ?_
        refine j_goto (pc := 36) (tgt := 6) h dX7_memberOf_36 (by decide) ?_
        rw [show cnt (fun i => mbr s (nI i)) i = cnt (fun i => mbr s (nI i)) (i + 1) from (cnt_f c18).symm]
        exact ih (i + 1) (by omega) (by rw [← hs, scan, if_neg]; intro q; rw [c18] at q; exact absurd q.1 (by decide))
      · refine j_iload4 (pc := 21) h dX7_memberOf_21 ?_
        refine j_iload2 (pc := 23) h dX7_memberOf_23 ?_
        refine j_icmp_ne (pc := 24) (tgt := 30) h dX7_memberOf_24 (by decide) (fun c24 => ?_) (fun c24 => ?_)
        · refine j_iinc4 (pc := 30) h dX7_memberOf_30 rfl (inc_n _) ?_
          refine j_iinc5 (pc := 33) h dX7_memberOf_33 rfl (inc_n _) ?_
          refine j_goto (pc := 36) (tgt := 6) h dX7_memberOf_36 (by decide) ?_
          rw [show cnt (fun i => mbr s (nI i)) i + 1 = cnt (fun i => mbr s (nI i)) (i + 1) from (cnt_t c18).symm]
          exact ih (i + 1) (by omega) (by rw [← hs, scan, if_neg]; intro q; exact c24 q.2)
        · refine j_iload5 (pc := 27) h dX7_memberOf_27 ?_
          refine j_iretr (pc := 29) h dX7_memberOf_29 (by rw [← hs, scan, if_pos ⟨c18, c24⟩])
  refine j_iconst (pc := 0) h dX7_memberOf_0 ic_0 ?_
  refine j_istore4 (pc := 1) h dX7_memberOf_1 rfl ?_
  refine j_iconst (pc := 3) h dX7_memberOf_3 ic_0 ?_
  refine j_istore5 (pc := 4) h dX7_memberOf_4 rfl ?_
  exact lp n 0 (by omega) rfl
end MB
end
section
theorem dX3_init_0 : decode cX3_init 0 = .ok (.aload_n 0, 1) := by decide +kernel
theorem dX3_init_1 : decode cX3_init 1 = .ok (.invokespecial 3, 3) := by decide +kernel
theorem dX3_init_4 : decode cX3_init 4 = .ok (.aload_n 0, 1) := by decide +kernel
theorem dX3_init_5 : decode cX3_init 5 = .ok (.bipush 100, 2) := by decide +kernel
theorem dX3_init_7 : decode cX3_init 7 = .ok (.newarray .int, 2) := by decide +kernel
theorem dX3_init_9 : decode cX3_init 9 = .ok (.putfield 9, 3) := by decide +kernel
theorem dX3_init_12 : decode cX3_init 12 = .ok (.aload_n 0, 1) := by decide +kernel
theorem dX3_init_13 : decode cX3_init 13 = .ok (.bipush 100, 2) := by decide +kernel
theorem dX3_init_15 : decode cX3_init 15 = .ok (.newarray .int, 2) := by decide +kernel
theorem dX3_init_17 : decode cX3_init 17 = .ok (.putfield 15, 3) := by decide +kernel
theorem dX3_init_20 : decode cX3_init 20 = .ok (.return_, 1) := by decide +kernel
theorem dX3_hasRoom_0 : decode cX3_hasRoom 0 = .ok (.aload_n 0, 1) := by decide +kernel
theorem dX3_hasRoom_1 : decode cX3_hasRoom 1 = .ok (.getfield 18, 3) := by decide +kernel
theorem dX3_hasRoom_4 : decode cX3_hasRoom 4 = .ok (.bipush 100, 2) := by decide +kernel
theorem dX3_hasRoom_6 : decode cX3_hasRoom 6 = .ok (.if_icmp .ge 7, 3) := by decide +kernel
theorem dX3_hasRoom_9 : decode cX3_hasRoom 9 = .ok (.iconst 1, 1) := by decide +kernel
theorem dX3_hasRoom_10 : decode cX3_hasRoom 10 = .ok (.goto 4, 3) := by decide +kernel
theorem dX3_hasRoom_13 : decode cX3_hasRoom 13 = .ok (.iconst 0, 1) := by decide +kernel
theorem dX3_hasRoom_14 : decode cX3_hasRoom 14 = .ok (.ireturn, 1) := by decide +kernel
theorem dX3_add_0 : decode cX3_add 0 = .ok (.aload_n 0, 1) := by decide +kernel
theorem dX3_add_1 : decode cX3_add 1 = .ok (.invokevirtual 22, 3) := by decide +kernel
theorem dX3_add_4 : decode cX3_add 4 = .ok (.ifCond .ne 5, 3) := by decide +kernel
theorem dX3_add_7 : decode cX3_add 7 = .ok (.iconst (-1), 1) := by decide +kernel
theorem dX3_add_8 : decode cX3_add 8 = .ok (.ireturn, 1) := by decide +kernel
theorem dX3_add_9 : decode cX3_add 9 = .ok (.aload_n 0, 1) := by decide +kernel
theorem dX3_add_10 : decode cX3_add 10 = .ok (.getfield 9, 3) := by decide +kernel
theorem dX3_add_13 : decode cX3_add 13 = .ok (.aload_n 0, 1) := by decide +kernel
theorem dX3_add_14 : decode cX3_add 14 = .ok (.getfield 18, 3) := by decide +kernel
theorem dX3_add_17 : decode cX3_add 17 = .ok (.iload_n 1, 1) := by decide +kernel
theorem dX3_add_18 : decode cX3_add 18 = .ok (.iastore, 1) := by decide +kernel
theorem dX3_add_19 : decode cX3_add 19 = .ok (.aload_n 0, 1) := by decide +kernel
theorem dX3_add_20 : decode cX3_add 20 = .ok (.getfield 15, 3) := by decide +kernel
theorem dX3_add_23 : decode cX3_add 23 = .ok (.aload_n 0, 1) := by decide +kernel
theorem dX3_add_24 : decode cX3_add 24 = .ok (.getfield 18, 3) := by decide +kernel
theorem dX3_add_27 : decode cX3_add 27 = .ok (.iload_n 2, 1) := by decide +kernel
theorem dX3_add_28 : decode cX3_add 28 = .ok (.iastore, 1) := by decide +kernel
theorem dX3_add_29 : decode cX3_add 29 = .ok (.aload_n 0, 1) := by decide +kernel
theorem dX3_add_30 : decode cX3_add 30 = .ok (.dup, 1) := by decide +kernel
theorem dX3_add_31 : decode cX3_add 31 = .ok (.getfield 18, 3) := by decide +kernel
theorem dX3_add_34 : decode cX3_add 34 = .ok (.iconst 1, 1) := by decide +kernel
theorem dX3_add_35 : decode cX3_add 35 = .ok (.iadd, 1) := by decide +kernel
theorem dX3_add_36 : decode cX3_add 36 = .ok (.putfield 18, 3) := by decide +kernel
theorem dX3_add_39 : decode cX3_add 39 = .ok (.aload_n 0, 1) := by decide +kernel
theorem dX3_add_40 : decode cX3_add 40 = .ok (.getfield 18, 3) := by decide +kernel
theorem dX3_add_43 : decode cX3_add 43 = .ok (.iconst 1, 1) := by decide +kernel
theorem dX3_add_44 : decode cX3_add 44 = .ok (.isub, 1) := by decide +kernel
theorem dX3_add_45 : decode cX3_add 45 = .ok (.ireturn, 1) := by decide +kernel
theorem dX3_fileOf_0 : decode cX3_fileOf 0 = .ok (.iload_n 1, 1) := by decide +kernel
theorem dX3_fileOf_1 : decode cX3_fileOf 1 = .ok (.ifCond .lt 20, 3) := by decide +kernel
theorem dX3_fileOf_4 : decode cX3_fileOf 4 = .ok (.iload_n 1, 1) := by decide +kernel
theorem dX3_fileOf_5 : decode cX3_fileOf 5 = .ok (.aload_n 0, 1) := by decide +kernel
theorem dX3_fileOf_6 : decode cX3_fileOf 6 = .ok (.getfield 18, 3) := by decide +kernel
theorem dX3_fileOf_9 : decode cX3_fileOf 9 = .ok (.if_icmp .ge 12, 3) := by decide +kernel
theorem dX3_fileOf_12 : decode cX3_fileOf 12 = .ok (.aload_n 0, 1) := by decide +kernel
theorem dX3_fileOf_13 : decode cX3_fileOf 13 = .ok (.getfield 9, 3) := by decide +kernel
theorem dX3_fileOf_16 : decode cX3_fileOf 16 = .ok (.iload_n 1, 1) := by decide +kernel
theorem dX3_fileOf_17 : decode cX3_fileOf 17 = .ok (.iaload, 1) := by decide +kernel
theorem dX3_fileOf_18 : decode cX3_fileOf 18 = .ok (.goto 4, 3) := by decide +kernel
theorem dX3_fileOf_21 : decode cX3_fileOf 21 = .ok (.iconst (-1), 1) := by decide +kernel
theorem dX3_fileOf_22 : decode cX3_fileOf 22 = .ok (.ireturn, 1) := by decide +kernel
theorem dX3_remove_0 : decode cX3_remove 0 = .ok (.iload_n 1, 1) := by decide +kernel
theorem dX3_remove_1 : decode cX3_remove 1 = .ok (.ifCond .lt 18, 3) := by decide +kernel
theorem dX3_remove_4 : decode cX3_remove 4 = .ok (.iload_n 1, 1) := by decide +kernel
theorem dX3_remove_5 : decode cX3_remove 5 = .ok (.aload_n 0, 1) := by decide +kernel
theorem dX3_remove_6 : decode cX3_remove 6 = .ok (.getfield 18, 3) := by decide +kernel
theorem dX3_remove_9 : decode cX3_remove 9 = .ok (.if_icmp .ge 10, 3) := by decide +kernel
theorem dX3_remove_12 : decode cX3_remove 12 = .ok (.aload_n 0, 1) := by decide +kernel
theorem dX3_remove_13 : decode cX3_remove 13 = .ok (.getfield 9, 3) := by decide +kernel
theorem dX3_remove_16 : decode cX3_remove 16 = .ok (.iload_n 1, 1) := by decide +kernel
theorem dX3_remove_17 : decode cX3_remove 17 = .ok (.iconst (-1), 1) := by decide +kernel
theorem dX3_remove_18 : decode cX3_remove 18 = .ok (.iastore, 1) := by decide +kernel
theorem dX3_remove_19 : decode cX3_remove 19 = .ok (.return_, 1) := by decide +kernel
theorem dX3_countOf_0 : decode cX3_countOf 0 = .ok (.iconst 0, 1) := by decide +kernel
theorem dX3_countOf_1 : decode cX3_countOf 1 = .ok (.istore_n 2, 1) := by decide +kernel
theorem dX3_countOf_2 : decode cX3_countOf 2 = .ok (.iconst 0, 1) := by decide +kernel
theorem dX3_countOf_3 : decode cX3_countOf 3 = .ok (.istore_n 3, 1) := by decide +kernel
theorem dX3_countOf_4 : decode cX3_countOf 4 = .ok (.iload_n 3, 1) := by decide +kernel
theorem dX3_countOf_5 : decode cX3_countOf 5 = .ok (.aload_n 0, 1) := by decide +kernel
theorem dX3_countOf_6 : decode cX3_countOf 6 = .ok (.getfield 18, 3) := by decide +kernel
theorem dX3_countOf_9 : decode cX3_countOf 9 = .ok (.if_icmp .ge 22, 3) := by decide +kernel
theorem dX3_countOf_12 : decode cX3_countOf 12 = .ok (.aload_n 0, 1) := by decide +kernel
theorem dX3_countOf_13 : decode cX3_countOf 13 = .ok (.getfield 9, 3) := by decide +kernel
theorem dX3_countOf_16 : decode cX3_countOf 16 = .ok (.iload_n 3, 1) := by decide +kernel
theorem dX3_countOf_17 : decode cX3_countOf 17 = .ok (.iaload, 1) := by decide +kernel
theorem dX3_countOf_18 : decode cX3_countOf 18 = .ok (.iload_n 1, 1) := by decide +kernel
theorem dX3_countOf_19 : decode cX3_countOf 19 = .ok (.if_icmp .ne 6, 3) := by decide +kernel
theorem dX3_countOf_22 : decode cX3_countOf 22 = .ok (.iinc 2 1, 3) := by decide +kernel
theorem dX3_countOf_25 : decode cX3_countOf 25 = .ok (.iinc 3 1, 3) := by decide +kernel
theorem dX3_countOf_28 : decode cX3_countOf 28 = .ok (.goto (-24), 3) := by decide +kernel
theorem dX3_countOf_31 : decode cX3_countOf 31 = .ok (.iload_n 2, 1) := by decide +kernel
theorem dX3_countOf_32 : decode cX3_countOf 32 = .ok (.ireturn, 1) := by decide +kernel
theorem dX3_countThere_0 : decode cX3_countThere 0 = .ok (.aload_n 0, 1) := by decide +kernel
theorem dX3_countThere_1 : decode cX3_countThere 1 = .ok (.getfield 18, 3) := by decide +kernel
theorem dX3_countThere_4 : decode cX3_countThere 4 = .ok (.aload_n 0, 1) := by decide +kernel
theorem dX3_countThere_5 : decode cX3_countThere 5 = .ok (.iconst (-1), 1) := by decide +kernel
theorem dX3_countThere_6 : decode cX3_countThere 6 = .ok (.invokevirtual 26, 3) := by decide +kernel
theorem dX3_countThere_9 : decode cX3_countThere 9 = .ok (.isub, 1) := by decide +kernel
theorem dX3_countThere_10 : decode cX3_countThere 10 = .ok (.ireturn, 1) := by decide +kernel
theorem dX3_memberIn_0 : decode cX3_memberIn 0 = .ok (.iconst 0, 1) := by decide +kernel
theorem dX3_memberIn_1 : decode cX3_memberIn 1 = .ok (.istore_n 3, 1) := by decide +kernel
theorem dX3_memberIn_2 : decode cX3_memberIn 2 = .ok (.iconst 0, 1) := by decide +kernel
theorem dX3_memberIn_3 : decode cX3_memberIn 3 = .ok (.istore 4, 2) := by decide +kernel
theorem dX3_memberIn_5 : decode cX3_memberIn 5 = .ok (.iload 4, 2) := by decide +kernel
theorem dX3_memberIn_7 : decode cX3_memberIn 7 = .ok (.aload_n 0, 1) := by decide +kernel
theorem dX3_memberIn_8 : decode cX3_memberIn 8 = .ok (.getfield 18, 3) := by decide +kernel
theorem dX3_memberIn_11 : decode cX3_memberIn 11 = .ok (.if_icmp .ge 42, 3) := by decide +kernel
theorem dX3_memberIn_14 : decode cX3_memberIn 14 = .ok (.aload_n 0, 1) := by decide +kernel
theorem dX3_memberIn_15 : decode cX3_memberIn 15 = .ok (.getfield 9, 3) := by decide +kernel
theorem dX3_memberIn_18 : decode cX3_memberIn 18 = .ok (.iload 4, 2) := by decide +kernel
theorem dX3_memberIn_20 : decode cX3_memberIn 20 = .ok (.iaload, 1) := by decide +kernel
theorem dX3_memberIn_21 : decode cX3_memberIn 21 = .ok (.iconst (-1), 1) := by decide +kernel
theorem dX3_memberIn_22 : decode cX3_memberIn 22 = .ok (.if_icmp .eq 25, 3) := by decide +kernel
theorem dX3_memberIn_25 : decode cX3_memberIn 25 = .ok (.aload_n 0, 1) := by decide +kernel
theorem dX3_memberIn_26 : decode cX3_memberIn 26 = .ok (.getfield 15, 3) := by decide +kernel
theorem dX3_memberIn_29 : decode cX3_memberIn 29 = .ok (.iload 4, 2) := by decide +kernel
theorem dX3_memberIn_31 : decode cX3_memberIn 31 = .ok (.iaload, 1) := by decide +kernel
theorem dX3_memberIn_32 : decode cX3_memberIn 32 = .ok (.iload_n 1, 1) := by decide +kernel
theorem dX3_memberIn_33 : decode cX3_memberIn 33 = .ok (.if_icmp .ne 14, 3) := by decide +kernel
theorem dX3_memberIn_36 : decode cX3_memberIn 36 = .ok (.iload_n 3, 1) := by decide +kernel
theorem dX3_memberIn_37 : decode cX3_memberIn 37 = .ok (.iload_n 2, 1) := by decide +kernel
theorem dX3_memberIn_38 : decode cX3_memberIn 38 = .ok (.if_icmp .ne 6, 3) := by decide +kernel
theorem dX3_memberIn_41 : decode cX3_memberIn 41 = .ok (.iload 4, 2) := by decide +kernel
theorem dX3_memberIn_43 : decode cX3_memberIn 43 = .ok (.ireturn, 1) := by decide +kernel
theorem dX3_memberIn_44 : decode cX3_memberIn 44 = .ok (.iinc 3 1, 3) := by decide +kernel
theorem dX3_memberIn_47 : decode cX3_memberIn 47 = .ok (.iinc 4 1, 3) := by decide +kernel
theorem dX3_memberIn_50 : decode cX3_memberIn 50 = .ok (.goto (-45), 3) := by decide +kernel
theorem dX3_memberIn_53 : decode cX3_memberIn 53 = .ok (.iconst (-1), 1) := by decide +kernel
theorem dX3_memberIn_54 : decode cX3_memberIn 54 = .ok (.ireturn, 1) := by decide +kernel
theorem dX3_filesWithin_0 : decode cX3_filesWithin 0 = .ok (.lconst 0, 1) := by decide +kernel
theorem dX3_filesWithin_1 : decode cX3_filesWithin 1 = .ok (.lstore_n 2, 1) := by decide +kernel
theorem dX3_filesWithin_2 : decode cX3_filesWithin 2 = .ok (.iconst 0, 1) := by decide +kernel
theorem dX3_filesWithin_3 : decode cX3_filesWithin 3 = .ok (.istore 4, 2) := by decide +kernel
theorem dX3_filesWithin_5 : decode cX3_filesWithin 5 = .ok (.iload 4, 2) := by decide +kernel
theorem dX3_filesWithin_7 : decode cX3_filesWithin 7 = .ok (.aload_n 0, 1) := by decide +kernel
theorem dX3_filesWithin_8 : decode cX3_filesWithin 8 = .ok (.getfield 18, 3) := by decide +kernel
theorem dX3_filesWithin_11 : decode cX3_filesWithin 11 = .ok (.if_icmp .ge 47, 3) := by decide +kernel
theorem dX3_filesWithin_14 : decode cX3_filesWithin 14 = .ok (.aload_n 0, 1) := by decide +kernel
theorem dX3_filesWithin_15 : decode cX3_filesWithin 15 = .ok (.getfield 9, 3) := by decide +kernel
theorem dX3_filesWithin_18 : decode cX3_filesWithin 18 = .ok (.iload 4, 2) := by decide +kernel
theorem dX3_filesWithin_20 : decode cX3_filesWithin 20 = .ok (.iaload, 1) := by decide +kernel
theorem dX3_filesWithin_21 : decode cX3_filesWithin 21 = .ok (.iconst (-1), 1) := by decide +kernel
theorem dX3_filesWithin_22 : decode cX3_filesWithin 22 = .ok (.if_icmp .eq 30, 3) := by decide +kernel
theorem dX3_filesWithin_25 : decode cX3_filesWithin 25 = .ok (.iload_n 1, 1) := by decide +kernel
theorem dX3_filesWithin_26 : decode cX3_filesWithin 26 = .ok (.i2l, 1) := by decide +kernel
theorem dX3_filesWithin_27 : decode cX3_filesWithin 27 = .ok (.aload_n 0, 1) := by decide +kernel
theorem dX3_filesWithin_28 : decode cX3_filesWithin 28 = .ok (.getfield 15, 3) := by decide +kernel
theorem dX3_filesWithin_31 : decode cX3_filesWithin 31 = .ok (.iload 4, 2) := by decide +kernel
theorem dX3_filesWithin_33 : decode cX3_filesWithin 33 = .ok (.iaload, 1) := by decide +kernel
theorem dX3_filesWithin_34 : decode cX3_filesWithin 34 = .ok (.invokestatic 30, 3) := by decide +kernel
theorem dX3_filesWithin_37 : decode cX3_filesWithin 37 = .ok (.ifCond .eq 15, 3) := by decide +kernel
theorem dX3_filesWithin_40 : decode cX3_filesWithin 40 = .ok (.lload_n 2, 1) := by decide +kernel
theorem dX3_filesWithin_41 : decode cX3_filesWithin 41 = .ok (.lconst 1, 1) := by decide +kernel
theorem dX3_filesWithin_42 : decode cX3_filesWithin 42 = .ok (.aload_n 0, 1) := by decide +kernel
theorem dX3_filesWithin_43 : decode cX3_filesWithin 43 = .ok (.getfield 9, 3) := by decide +kernel
theorem dX3_filesWithin_46 : decode cX3_filesWithin 46 = .ok (.iload 4, 2) := by decide +kernel
theorem dX3_filesWithin_48 : decode cX3_filesWithin 48 = .ok (.iaload, 1) := by decide +kernel
theorem dX3_filesWithin_49 : decode cX3_filesWithin 49 = .ok (.lshl, 1) := by decide +kernel
theorem dX3_filesWithin_50 : decode cX3_filesWithin 50 = .ok (.lor, 1) := by decide +kernel
theorem dX3_filesWithin_51 : decode cX3_filesWithin 51 = .ok (.lstore_n 2, 1) := by decide +kernel
theorem dX3_filesWithin_52 : decode cX3_filesWithin 52 = .ok (.iinc 4 1, 3) := by decide +kernel
theorem dX3_filesWithin_55 : decode cX3_filesWithin 55 = .ok (.goto (-50), 3) := by decide +kernel
theorem dX3_filesWithin_58 : decode cX3_filesWithin 58 = .ok (.lload_n 2, 1) := by decide +kernel
theorem dX3_filesWithin_59 : decode cX3_filesWithin 59 = .ok (.lreturn, 1) := by decide +kernel
/-! Names -/
def oNa (ad : AD) (nn : Nat) : va_E := eC 3 [.ref (ad 8), .ref (ad 9), .int (nI nn)]
section NA
variable {l : Launch} {g : GG} {ad : AD} {C : CC} {nn : Nat} {fn fo : Nat → Int32}
theorem k_X3_countOf {x : Int32} (f7 : C 7 = some (oNa ad nn)) (f8 : C 8 = some (eI g 100 fn)) (hn : nn ≤ 100) : Cr l g yX3_countOf cX3_countOf 4 (some .int) 1 [.ref (ad 7), .int x] ad C (.int (nI (cnt (fun k => fn k == x) nn))) := by
  refine Ct_of [some (.ref (ad 7)), some (.int x), none, none] (by decide) rfl rfl (Nat.le_of_ble_eq_true rfl) rfl rfl (fun X hX h => ?_)
  subst hX
  have lp : ∀ m i, i + m = nn → J X g 4 (QR X g ad C (.int (nI (cnt (fun k => fn k == x) nn)))) 0 0 ad C 4 [some (.ref (ad 7)), some (.int x), some (.int (nI (cnt (fun k => fn k == x) i))), some (.int (nI i))] [] := by
    intro m
    induction m with
    | zero =>
      intro i hi
      refine j_iload3 (pc := 4) h dX3_countOf_4 ?_
      refine j_aload0 (pc := 5) h dX3_countOf_5 ?_
      refine j_getf (pc := 6) h dX3_countOf_6 (f7) fl_X3_18 rfl ?_
      refine j_icmp_ge (pc := 9) (tgt := 31) h dX3_countOf_9 (by decide) (fun c9 => ?_) (fun c9 => absurd (nI_le (by omega) (by omega)) c9)
      refine j_iload2 (pc := 31) h dX3_countOf_31 ?_
      refine j_iretr (pc := 32) h dX3_countOf_32 (by rw [show i = nn by omega])
    | succ m ih =>
      intro i hi
      refine j_iload3 (pc := 4) h dX3_countOf_4 ?_
      refine j_aload0 (pc := 5) h dX3_countOf_5 ?_
      refine j_getf (pc := 6) h dX3_countOf_6 (f7) fl_X3_18 rfl ?_
      refine j_icmp_ge (pc := 9) (tgt := 31) h dX3_countOf_9 (by decide) (fun c9 => absurd c9 (nI_ge (by omega) (by omega))) (fun c9 => ?_)
      refine j_aload0 (pc := 12) h dX3_countOf_12 ?_
      refine j_getf (pc := 13) h dX3_countOf_13 (f7) fl_X3_9 rfl ?_
      refine j_iload3 (pc := 16) h dX3_countOf_16 ?_
      refine j_iald (pc := 17) h dX3_countOf_17 (f8) (by omega) (by decide) ?_
      refine j_iload1 (pc := 18) h dX3_countOf_18 ?_
      refine j_icmp_ne (pc := 19) (tgt := 25) h dX3_countOf_19 (by decide) (fun c19 => ?_) (fun c19 => ?_)
      · refine j_iinc3 (pc := 25) h dX3_countOf_25 rfl (inc_n _) ?_
        refine j_goto (pc := 28) (tgt := 4) h dX3_countOf_28 (by decide) ?_
        rw [show cnt (fun k => fn k == x) i = cnt (fun k => fn k == x) (i + 1) from (cnt_f (by simpa using c19)).symm]
        exact ih (i + 1) (by omega)
      · refine j_iinc2 (pc := 22) h dX3_countOf_22 rfl (inc_n _) ?_
        refine j_iinc3 (pc := 25) h dX3_countOf_25 rfl (inc_n _) ?_
        refine j_goto (pc := 28) (tgt := 4) h dX3_countOf_28 (by decide) ?_
        rw [show cnt (fun k => fn k == x) i + 1 = cnt (fun k => fn k == x) (i + 1) from (cnt_t (by simpa using c19)).symm]
        exact ih (i + 1) (by omega)
  refine j_iconst (pc := 0) h dX3_countOf_0 ic_0 ?_
  refine j_istore2 (pc := 1) h dX3_countOf_1 rfl ?_
  refine j_iconst (pc := 2) h dX3_countOf_2 ic_0 ?_
  refine j_istore3 (pc := 3) h dX3_countOf_3 rfl ?_
  exact lp nn 0 (by omega)
theorem k_X3_countThere (f7 : C 7 = some (oNa ad nn)) (f8 : C 8 = some (eI g 100 fn)) (hn : nn ≤ 100) : Cr l g yX3_countThere cX3_countThere 1 (some .int) 2 [.ref (ad 7)] ad C (.int (nI (nn - cnt (fun k => fn k == -1) nn))) := by
  refine Ct_of [some (.ref (ad 7))] (by decide) rfl rfl (Nat.le_of_ble_eq_true rfl) rfl rfl (fun X hX h => ?_)
  subst hX
  refine j_aload0 (pc := 0) h dX3_countThere_0 ?_
  refine j_getf (pc := 1) h dX3_countThere_1 (f7) fl_X3_18 rfl ?_
  refine j_aload0 (pc := 4) h dX3_countThere_4 ?_
  refine j_iconst (pc := 5) h dX3_countThere_5 ic_m1 ?_
  refine j_callVr (pc := 6) h dX3_countThere_6 (k_X3_countOf f7 f8 hn) mv_X3_26 (f7) rfl rfl (by decide) (Nat.le_of_ble_eq_true rfl) (Nat.le_of_ble_eq_true rfl) (Nat.le_of_ble_eq_true rfl) ?_
  refine j_isubN (pc := 9) h dX3_countThere_9 (cnt_le _ _) ?_
  refine j_iretr (pc := 10) h dX3_countThere_10 (rfl)
theorem k_X3_hasRoom (f7 : C 7 = some (oNa ad nn)) (hn : nn ≤ 100) : Cr l g yX3_hasRoom cX3_hasRoom 1 (some .boolean) 1 [.ref (ad 7)] ad C (.int (bI (decide (nn < 100)))) := by
  refine Ct_of [some (.ref (ad 7))] (by decide) rfl rfl (Nat.le_of_ble_eq_true rfl) rfl rfl (fun X hX h => ?_)
  subst hX
  refine j_aload0 (pc := 0) h dX3_hasRoom_0 ?_
  refine j_getf (pc := 1) h dX3_hasRoom_1 (f7) fl_X3_18 rfl ?_
  refine j_bipush (pc := 4) h dX3_hasRoom_4 bp_100 ?_
  refine j_icmp_ge (pc := 6) (tgt := 13) h dX3_hasRoom_6 (by decide) (fun c6 => ?_) (fun c6 => ?_)
  · refine j_iconst (pc := 13) h dX3_hasRoom_13 ic_0 ?_
    refine j_zretr (pc := 14) h dX3_hasRoom_14 (by decide) (bI_f (by have := nI_le_of c6 (by omega) (by omega); simp; omega))
  · refine j_iconst (pc := 9) h dX3_hasRoom_9 ic_1 ?_
    refine j_goto (pc := 10) (tgt := 14) h dX3_hasRoom_10 (by decide) ?_
    refine j_zretr (pc := 14) h dX3_hasRoom_14 (by decide) (bI_t (by have h1 : ¬ 100 ≤ nn := fun q => c6 (nI_le q (by omega)); simp; omega))
theorem k_X3_fileOf_no {x : Int32} (f7 : C 7 = some (oNa ad nn)) (hn : nn ≤ 100) (hx : inN x nn = false) : Cr l g yX3_fileOf cX3_fileOf 2 (some .int) 1 [.ref (ad 7), .int x] ad C (.int (-1)) := by
  refine Ct_of [some (.ref (ad 7)), some (.int x)] (by decide) rfl rfl (Nat.le_of_ble_eq_true rfl) rfl rfl (fun X hX h => ?_)
  subst hX
  refine j_iload1 (pc := 0) h dX3_fileOf_0 ?_
  refine j_if_lt (pc := 1) (tgt := 21) h dX3_fileOf_1 (by decide) (fun c1 => ?_) (fun c1 => ?_)
  · refine j_iconst (pc := 21) h dX3_fileOf_21 ic_m1 ?_
    refine j_iretr (pc := 22) h dX3_fileOf_22 (rfl)
  · refine j_iload1 (pc := 4) h dX3_fileOf_4 ?_
    refine j_aload0 (pc := 5) h dX3_fileOf_5 ?_
    refine j_getf (pc := 6) h dX3_fileOf_6 (f7) fl_X3_18 rfl ?_
    refine j_icmp_ge (pc := 9) (tgt := 21) h dX3_fileOf_9 (by decide) (fun c9 => ?_) (fun c9 => ?_)
    · refine j_iconst (pc := 21) h dX3_fileOf_21 ic_m1 ?_
      refine j_iretr (pc := 22) h dX3_fileOf_22 (rfl)
    · exact absurd (inN_yes (by omega) c1 c9) (by rw [hx]; decide)
theorem k_X3_fileOf {i : Nat} (f7 : C 7 = some (oNa ad nn)) (f8 : C 8 = some (eI g 100 fn)) (hn : nn ≤ 100) (hi : i < nn) : Cr l g yX3_fileOf cX3_fileOf 2 (some .int) 1 [.ref (ad 7), .int (nI i)] ad C (.int (fn i)) := by
  refine Ct_of [some (.ref (ad 7)), some (.int (nI i))] (by decide) rfl rfl (Nat.le_of_ble_eq_true rfl) rfl rfl (fun X hX h => ?_)
  subst hX
  refine j_iload1 (pc := 0) h dX3_fileOf_0 ?_
  refine j_if_lt (pc := 1) (tgt := 21) h dX3_fileOf_1 (by decide) (fun c1 => absurd c1 (nI_pos (by omega))) (fun c1 => ?_)
  refine j_iload1 (pc := 4) h dX3_fileOf_4 ?_
  refine j_aload0 (pc := 5) h dX3_fileOf_5 ?_
  refine j_getf (pc := 6) h dX3_fileOf_6 (f7) fl_X3_18 rfl ?_
  refine j_icmp_ge (pc := 9) (tgt := 21) h dX3_fileOf_9 (by decide) (fun c9 => absurd c9 (nI_ge (by omega) (by omega))) (fun c9 => ?_)
  refine j_aload0 (pc := 12) h dX3_fileOf_12 ?_
  refine j_getf (pc := 13) h dX3_fileOf_13 (f7) fl_X3_9 rfl ?_
  refine j_iload1 (pc := 16) h dX3_fileOf_16 ?_
  refine j_iald (pc := 17) h dX3_fileOf_17 (f8) (by omega) (by decide) ?_
  refine j_goto (pc := 18) (tgt := 22) h dX3_fileOf_18 (by decide) ?_
  refine j_iretr (pc := 22) h dX3_fileOf_22 (rfl)
theorem k_X3_remove {i : Nat} (f7 : C 7 = some (oNa ad nn)) (f8 : C 8 = some (eI g 100 fn)) (hn : nn ≤ 100) (hi : i < nn) : Cw l g yX3_remove cX3_remove 2 none 1 [.ref (ad 7), .int (nI i)] ad C none (va_up C 8 (some (eI g 100 (upd fn i (-1))))) := by
  refine Ct_of [some (.ref (ad 7)), some (.int (nI i))] (by decide) rfl rfl (Nat.le_of_ble_eq_true rfl) rfl rfl (fun X hX h => ?_)
  subst hX
  refine j_iload1 (pc := 0) h dX3_remove_0 ?_
  refine j_if_lt (pc := 1) (tgt := 19) h dX3_remove_1 (by decide) (fun c1 => absurd c1 (nI_pos (by omega))) (fun c1 => ?_)
  refine j_iload1 (pc := 4) h dX3_remove_4 ?_
  refine j_aload0 (pc := 5) h dX3_remove_5 ?_
  refine j_getf (pc := 6) h dX3_remove_6 (f7) fl_X3_18 rfl ?_
  refine j_icmp_ge (pc := 9) (tgt := 19) h dX3_remove_9 (by decide) (fun c9 => absurd c9 (nI_ge (by omega) (by omega))) (fun c9 => ?_)
  refine j_aload0 (pc := 12) h dX3_remove_12 ?_
  refine j_getf (pc := 13) h dX3_remove_13 (f7) fl_X3_9 rfl ?_
  refine j_iload1 (pc := 16) h dX3_remove_16 ?_
  refine j_iconst (pc := 17) h dX3_remove_17 ic_m1 ?_
  refine j_iast (pc := 18) h dX3_remove_18 (f8) (by omega) (by decide) ?_
  refine j_vret (pc := 19) h dX3_remove_19 (⟨rfl, rfl, rfl⟩)
theorem k_X3_add {x y : Int32} (f7 : C 7 = some (oNa ad nn)) (f8 : C 8 = some (eI g 100 fn)) (f9 : C 9 = some (eI g 100 fo)) (hn : nn < 100) : Cw l g yX3_add cX3_add 3 (some .int) 2 [.ref (ad 7), .int x, .int y] ad C (some (.int (nI nn))) (va_up (va_up (va_up C 8 (some (eI g 100 (upd fn nn x)))) 9 (some (eI g 100 (upd fo nn y)))) 7 (some (oNa ad (nn + 1)))) := by
  refine Ct_of [some (.ref (ad 7)), some (.int x), some (.int y)] (by decide) rfl rfl (Nat.le_of_ble_eq_true rfl) rfl rfl (fun X hX h => ?_)
  subst hX
  refine j_aload0 (pc := 0) h dX3_add_0 ?_
  refine j_callVr (pc := 1) h dX3_add_1 (k_X3_hasRoom f7 (by omega)) mv_X3_22 (f7) rfl rfl (by decide) (Nat.le_of_ble_eq_true rfl) (Nat.le_of_ble_eq_true rfl) (Nat.le_of_ble_eq_true rfl) ?_
  refine j_if_neB (pc := 4) (tgt := 9) h dX3_add_4 (by decide) (fun c4 => ?_) (fun c4 => absurd c4 (by simp; omega))
  refine j_aload0 (pc := 9) h dX3_add_9 ?_
  refine j_getf (pc := 10) h dX3_add_10 (f7) fl_X3_9 rfl ?_
  refine j_aload0 (pc := 13) h dX3_add_13 ?_
  refine j_getf (pc := 14) h dX3_add_14 (f7) fl_X3_18 rfl ?_
  refine j_iload1 (pc := 17) h dX3_add_17 ?_
  refine j_iast (pc := 18) h dX3_add_18 (f8) (by omega) (by decide) ?_
  refine j_aload0 (pc := 19) h dX3_add_19 ?_
  refine j_getf (pc := 20) h dX3_add_20 (f7) fl_X3_15 rfl ?_
  refine j_aload0 (pc := 23) h dX3_add_23 ?_
  refine j_getf (pc := 24) h dX3_add_24 (f7) fl_X3_18 rfl ?_
  refine j_iload2 (pc := 27) h dX3_add_27 ?_
  refine j_iast (pc := 28) h dX3_add_28 (f9) (by omega) (by decide) ?_
  refine j_aload0 (pc := 29) h dX3_add_29 ?_
  refine j_dupR (pc := 30) h dX3_add_30 ?_
  refine j_getf (pc := 31) h dX3_add_31 (f7) fl_X3_18 rfl ?_
  refine j_iconst (pc := 34) h dX3_add_34 ic_1 ?_
  refine j_iaddN (pc := 35) h dX3_add_35 ?_
  refine j_putv (pc := 36) h dX3_add_36 (f7) pl_X3_18 rfl rfl (Nat.le_of_ble_eq_true rfl) ?_
  refine j_aload0 (pc := 39) h dX3_add_39 ?_
  refine j_getf (pc := 40) h dX3_add_40 (rfl) fl_X3_18 rfl ?_
  refine j_iconst (pc := 43) h dX3_add_43 ic_1 ?_
  refine j_isubN (pc := 44) h dX3_add_44 (by omega) ?_
  refine j_iret (pc := 45) h dX3_add_45 (⟨rfl, rfl, rfl⟩)
theorem k_X3_add_no {x y : Int32} (f7 : C 7 = some (oNa ad nn)) (hn : nn = 100) : Cr l g yX3_add cX3_add 3 (some .int) 2 [.ref (ad 7), .int x, .int y] ad C (.int (-1)) := by
  refine Ct_of [some (.ref (ad 7)), some (.int x), some (.int y)] (by decide) rfl rfl (Nat.le_of_ble_eq_true rfl) rfl rfl (fun X hX h => ?_)
  subst hX
  refine j_aload0 (pc := 0) h dX3_add_0 ?_
  refine j_callVr (pc := 1) h dX3_add_1 (k_X3_hasRoom f7 (by omega)) mv_X3_22 (f7) rfl rfl (by decide) (Nat.le_of_ble_eq_true rfl) (Nat.le_of_ble_eq_true rfl) (Nat.le_of_ble_eq_true rfl) ?_
  refine j_if_neB (pc := 4) (tgt := 9) h dX3_add_4 (by decide) (fun c4 => absurd c4 (by simp; omega)) (fun c4 => ?_)
  refine j_iconst (pc := 7) h dX3_add_7 ic_m1 ?_
  refine j_iretr (pc := 8) h dX3_add_8 (rfl)
theorem k_X3_memberIn {x y : Int32} (f7 : C 7 = some (oNa ad nn)) (f8 : C 8 = some (eI g 100 fn)) (f9 : C 9 = some (eI g 100 fo)) (hn : nn ≤ 100) : Cr l g yX3_memberIn cX3_memberIn 5 (some .int) 1 [.ref (ad 7), .int x, .int y] ad C (.int (scan (fun k => fn k != -1 && fo k == x) y 0 nn)) := by
  refine Ct_of [some (.ref (ad 7)), some (.int x), some (.int y), none, none] (by decide) rfl rfl (Nat.le_of_ble_eq_true rfl) rfl rfl (fun X hX h => ?_)
  subst hX
  have lp : ∀ m i, i + m = nn → scan (fun k => fn k != -1 && fo k == x) y i m = scan (fun k => fn k != -1 && fo k == x) y 0 nn → J X g 5 (QR X g ad C (.int (scan (fun k => fn k != -1 && fo k == x) y 0 nn))) 0 0 ad C 5 [some (.ref (ad 7)), some (.int x), some (.int y), some (.int (nI (cnt (fun k => fn k != -1 && fo k == x) i))), some (.int (nI i))] [] := by
    intro m
    induction m with
    | zero =>
      intro i hi hs
      refine j_iload4 (pc := 5) h dX3_memberIn_5 ?_
      refine j_aload0 (pc := 7) h dX3_memberIn_7 ?_
      refine j_getf (pc := 8) h dX3_memberIn_8 (f7) fl_X3_18 rfl ?_
      refine j_icmp_ge (pc := 11) (tgt := 53) h dX3_memberIn_11 (by decide) (fun c11 => ?_) (fun c11 => absurd (nI_le (by omega) (by omega)) c11)
      refine j_iconst (pc := 53) h dX3_memberIn_53 ic_m1 ?_
      refine j_iretr (pc := 54) h dX3_memberIn_54 (hs)
    | succ m ih =>
      intro i hi hs
      have no : (fun k => fn k != -1 && fo k == x) i = false → J X g 5 (QR X g ad C (.int (scan (fun k => fn k != -1 && fo k == x) y 0 nn))) 0 0 ad C 47 [some (.ref (ad 7)), some (.int x), some (.int y), some (.int (nI (cnt (fun k => fn k != -1 && fo k == x) i))), some (.int (nI i))] [] := by
        intro hf
        refine j_iinc4 (pc := 47) h dX3_memberIn_47 rfl (inc_n _) ?_
        refine j_goto (pc := 50) (tgt := 5) h dX3_memberIn_50 (by decide) ?_
        rw [show cnt (fun k => fn k != -1 && fo k == x) i = cnt (fun k => fn k != -1 && fo k == x) (i + 1) from (cnt_f hf).symm]
        exact ih (i + 1) (by omega) (by rw [← hs, scan, if_neg]; intro q; exact absurd (hf.symm.trans q.1) (by decide))
      refine j_iload4 (pc := 5) h dX3_memberIn_5 ?_
      refine j_aload0 (pc := 7) h dX3_memberIn_7 ?_
      refine j_getf (pc := 8) h dX3_memberIn_8 (f7) fl_X3_18 rfl ?_
      refine j_icmp_ge (pc := 11) (tgt := 53) h dX3_memberIn_11 (by decide) (fun c11 => absurd c11 (nI_ge (by omega) (by omega))) (fun c11 => ?_)
      refine j_aload0 (pc := 14) h dX3_memberIn_14 ?_
      refine j_getf (pc := 15) h dX3_memberIn_15 (f7) fl_X3_9 rfl ?_
      refine j_iload4 (pc := 18) h dX3_memberIn_18 ?_
      refine j_iald (pc := 20) h dX3_memberIn_20 (f8) (by omega) (by decide) ?_
      refine j_iconst (pc := 21) h dX3_memberIn_21 ic_m1 ?_
      refine j_icmp_eq (pc := 22) (tgt := 47) h dX3_memberIn_22 (by decide) (fun c22 => ?_) (fun c22 => ?_)
      · exact no (by simp [c22])
      · refine j_aload0 (pc := 25) h dX3_memberIn_25 ?_
        refine j_getf (pc := 26) h dX3_memberIn_26 (f7) fl_X3_15 rfl ?_
        refine j_iload4 (pc := 29) h dX3_memberIn_29 ?_
        refine j_iald (pc := 31) h dX3_memberIn_31 (f9) (by omega) (by decide) ?_
        refine j_iload1 (pc := 32) h dX3_memberIn_32 ?_
        refine j_icmp_ne (pc := 33) (tgt := 47) h dX3_memberIn_33 (by decide) (fun c33 => ?_) (fun c33 => ?_)
        · exact no (by simp [c33])
        · have hf : (fun k => fn k != -1 && fo k == x) i = true := by simp [c33, c22]
          refine j_iload3 (pc := 36) h dX3_memberIn_36 ?_
          refine j_iload2 (pc := 37) h dX3_memberIn_37 ?_
          refine j_icmp_ne (pc := 38) (tgt := 44) h dX3_memberIn_38 (by decide) (fun c38 => ?_) (fun c38 => ?_)
          · refine j_iinc3 (pc := 44) h dX3_memberIn_44 rfl (inc_n _) ?_
            refine j_iinc4 (pc := 47) h dX3_memberIn_47 rfl (inc_n _) ?_
            refine j_goto (pc := 50) (tgt := 5) h dX3_memberIn_50 (by decide) ?_
            rw [show cnt (fun k => fn k != -1 && fo k == x) i + 1 = cnt (fun k => fn k != -1 && fo k == x) (i + 1) from (cnt_t hf).symm]
            exact ih (i + 1) (by omega) (by rw [← hs, scan, if_neg]; intro q; exact c38 q.2)
          · refine j_iload4 (pc := 41) h dX3_memberIn_41 ?_
            refine j_iretr (pc := 43) h dX3_memberIn_43 (by rw [← hs, scan, if_pos ⟨hf, c38⟩])
  refine j_iconst (pc := 0) h dX3_memberIn_0 ic_0 ?_
  refine j_istore3 (pc := 1) h dX3_memberIn_1 rfl ?_
  refine j_iconst (pc := 2) h dX3_memberIn_2 ic_0 ?_
  refine j_istore4 (pc := 3) h dX3_memberIn_3 rfl ?_
  exact lp nn 0 (by omega) rfl
theorem k_X3_filesWithin {x : Int32} (f7 : C 7 = some (oNa ad nn)) (f8 : C 8 = some (eI g 100 fn)) (f9 : C 9 = some (eI g 100 fo)) (hn : nn ≤ 100) : Cr l g yX3_filesWithin cX3_filesWithin 5 (some .long) 2 [.ref (ad 7), .int x] ad C (.long (orr (fun k => if (fn k != -1 && mbr x.toInt64 (fo k)) = true then b1 (fn k) else 0) nn)) := by
  refine Ct_of [some (.ref (ad 7)), some (.int x), none, none, none] (by decide) rfl rfl (Nat.le_of_ble_eq_true rfl) rfl rfl (fun X hX h => ?_)
  subst hX
  have lp : ∀ m i, i + m = nn → J X g 5 (QR X g ad C (.long (orr (fun k => if (fn k != -1 && mbr x.toInt64 (fo k)) = true then b1 (fn k) else 0) nn))) 0 0 ad C 5 [some (.ref (ad 7)), some (.int x), some (.long (orr (fun k => if (fn k != -1 && mbr x.toInt64 (fo k)) = true then b1 (fn k) else 0) i)), none, some (.int (nI i))] [] := by
    intro m
    induction m with
    | zero =>
      intro i hi
      refine j_iload4 (pc := 5) h dX3_filesWithin_5 ?_
      refine j_aload0 (pc := 7) h dX3_filesWithin_7 ?_
      refine j_getf (pc := 8) h dX3_filesWithin_8 (f7) fl_X3_18 rfl ?_
      refine j_icmp_ge (pc := 11) (tgt := 58) h dX3_filesWithin_11 (by decide) (fun c11 => ?_) (fun c11 => absurd (nI_le (by omega) (by omega)) c11)
      refine j_lload2 (pc := 58) h dX3_filesWithin_58 ?_
      refine j_lretr (pc := 59) h dX3_filesWithin_59 (by rw [show i = nn by omega])
    | succ m ih =>
      intro i hi
      have no : (fn i != -1 && mbr x.toInt64 (fo i)) = false → J X g 5 (QR X g ad C (.long (orr (fun k => if (fn k != -1 && mbr x.toInt64 (fo k)) = true then b1 (fn k) else 0) nn))) 0 0 ad C 52 [some (.ref (ad 7)), some (.int x), some (.long (orr (fun k => if (fn k != -1 && mbr x.toInt64 (fo k)) = true then b1 (fn k) else 0) i)), none, some (.int (nI i))] [] := by
        intro hf
        refine j_iinc4 (pc := 52) h dX3_filesWithin_52 rfl (inc_n _) ?_
        refine j_goto (pc := 55) (tgt := 5) h dX3_filesWithin_55 (by decide) ?_
        rw [show orr (fun k => if (fn k != -1 && mbr x.toInt64 (fo k)) = true then b1 (fn k) else 0) i = orr (fun k => if (fn k != -1 && mbr x.toInt64 (fo k)) = true then b1 (fn k) else 0) (i + 1) from by rw [orr, if_neg (by rw [hf]; decide)]; simp]
        exact ih (i + 1) (by omega)
      refine j_iload4 (pc := 5) h dX3_filesWithin_5 ?_
      refine j_aload0 (pc := 7) h dX3_filesWithin_7 ?_
      refine j_getf (pc := 8) h dX3_filesWithin_8 (f7) fl_X3_18 rfl ?_
      refine j_icmp_ge (pc := 11) (tgt := 58) h dX3_filesWithin_11 (by decide) (fun c11 => absurd c11 (nI_ge (by omega) (by omega))) (fun c11 => ?_)
      refine j_aload0 (pc := 14) h dX3_filesWithin_14 ?_
      refine j_getf (pc := 15) h dX3_filesWithin_15 (f7) fl_X3_9 rfl ?_
      refine j_iload4 (pc := 18) h dX3_filesWithin_18 ?_
      refine j_iald (pc := 20) h dX3_filesWithin_20 (f8) (by omega) (by decide) ?_
      refine j_iconst (pc := 21) h dX3_filesWithin_21 ic_m1 ?_
      refine j_icmp_eq (pc := 22) (tgt := 52) h dX3_filesWithin_22 (by decide) (fun c22 => ?_) (fun c22 => ?_)
      · exact no (by simp [c22])
      · refine j_iload1 (pc := 25) h dX3_filesWithin_25 ?_
        refine j_i2l (pc := 26) h dX3_filesWithin_26 ?_
        refine j_aload0 (pc := 27) h dX3_filesWithin_27 ?_
        refine j_getf (pc := 28) h dX3_filesWithin_28 (f7) fl_X3_15 rfl ?_
        refine j_iload4 (pc := 31) h dX3_filesWithin_31 ?_
        refine j_iald (pc := 33) h dX3_filesWithin_33 (f9) (by omega) (by decide) ?_
        refine j_callSr (pc := 34) h dX3_filesWithin_34 (k_X7_isMember) ms_X3_30 rfl rfl (by decide) (Nat.le_of_ble_eq_true rfl) (Nat.le_of_ble_eq_true rfl) (Nat.le_of_ble_eq_true rfl) ?_
        refine j_if_eqB (pc := 37) (tgt := 52) h dX3_filesWithin_37 (by decide) (fun c37 => ?_) (fun c37 => ?_)
        · exact no (by rw [c37]; simp)
        · have hf : (fn i != -1 && mbr x.toInt64 (fo i)) = true := by rw [c37]; simp [c22]
          refine j_lload2 (pc := 40) h dX3_filesWithin_40 ?_
          refine j_lconst (pc := 41) h dX3_filesWithin_41 lc_1 ?_
          refine j_aload0 (pc := 42) h dX3_filesWithin_42 ?_
          refine j_getf (pc := 43) h dX3_filesWithin_43 (f7) fl_X3_9 rfl ?_
          refine j_iload4 (pc := 46) h dX3_filesWithin_46 ?_
          refine j_iald (pc := 48) h dX3_filesWithin_48 (f8) (by omega) (by decide) ?_
          refine j_lshl (pc := 49) h dX3_filesWithin_49 ?_
          refine j_lor (pc := 50) h dX3_filesWithin_50 ?_
          refine j_lstore2 (pc := 51) h dX3_filesWithin_51 rfl ?_
          refine j_iinc4 (pc := 52) h dX3_filesWithin_52 rfl (inc_n _) ?_
          refine j_goto (pc := 55) (tgt := 5) h dX3_filesWithin_55 (by decide) ?_
          rw [show orr (fun k => if (fn k != -1 && mbr x.toInt64 (fo k)) = true then b1 (fn k) else 0) i ||| (1 <<< ((fn i).toInt64 &&& 63)) = orr (fun k => if (fn k != -1 && mbr x.toInt64 (fo k)) = true then b1 (fn k) else 0) (i + 1) from by rw [orr, if_pos hf]; rfl]
          exact ih (i + 1) (by omega)
  refine j_lconst (pc := 0) h dX3_filesWithin_0 lc_0 ?_
  refine j_lstore2 (pc := 1) h dX3_filesWithin_1 rfl ?_
  refine j_iconst (pc := 2) h dX3_filesWithin_2 ic_0 ?_
  refine j_istore4 (pc := 3) h dX3_filesWithin_3 rfl ?_
  exact lp nn 0 (by omega)
end NA
end
section
theorem dX6_init_0 : decode cX6_init 0 = .ok (.aload_n 0, 1) := by decide +kernel
theorem dX6_init_1 : decode cX6_init 1 = .ok (.invokespecial 3, 3) := by decide +kernel
theorem dX6_init_4 : decode cX6_init 4 = .ok (.aload_n 0, 1) := by decide +kernel
theorem dX6_init_5 : decode cX6_init 5 = .ok (.bipush 60, 2) := by decide +kernel
theorem dX6_init_7 : decode cX6_init 7 = .ok (.newarray .int, 2) := by decide +kernel
theorem dX6_init_9 : decode cX6_init 9 = .ok (.putfield 9, 3) := by decide +kernel
theorem dX6_init_12 : decode cX6_init 12 = .ok (.aload_n 0, 1) := by decide +kernel
theorem dX6_init_13 : decode cX6_init 13 = .ok (.iload_n 1, 1) := by decide +kernel
theorem dX6_init_14 : decode cX6_init 14 = .ok (.putfield 15, 3) := by decide +kernel
theorem dX6_init_17 : decode cX6_init 17 = .ok (.aload_n 0, 1) := by decide +kernel
theorem dX6_init_18 : decode cX6_init 18 = .ok (.iload_n 2, 1) := by decide +kernel
theorem dX6_init_19 : decode cX6_init 19 = .ok (.putfield 19, 3) := by decide +kernel
theorem dX6_init_22 : decode cX6_init 22 = .ok (.aload_n 0, 1) := by decide +kernel
theorem dX6_init_23 : decode cX6_init 23 = .ok (.iload_n 3, 1) := by decide +kernel
theorem dX6_init_24 : decode cX6_init 24 = .ok (.putfield 22, 3) := by decide +kernel
theorem dX6_init_27 : decode cX6_init 27 = .ok (.return_, 1) := by decide +kernel
theorem dX6_duplicate_0 : decode cX6_duplicate 0 = .ok (.new 10, 3) := by decide +kernel
theorem dX6_duplicate_3 : decode cX6_duplicate 3 = .ok (.dup, 1) := by decide +kernel
theorem dX6_duplicate_4 : decode cX6_duplicate 4 = .ok (.aload_n 0, 1) := by decide +kernel
theorem dX6_duplicate_5 : decode cX6_duplicate 5 = .ok (.getfield 15, 3) := by decide +kernel
theorem dX6_duplicate_8 : decode cX6_duplicate 8 = .ok (.aload_n 0, 1) := by decide +kernel
theorem dX6_duplicate_9 : decode cX6_duplicate 9 = .ok (.getfield 19, 3) := by decide +kernel
theorem dX6_duplicate_12 : decode cX6_duplicate 12 = .ok (.iload_n 1, 1) := by decide +kernel
theorem dX6_duplicate_13 : decode cX6_duplicate 13 = .ok (.invokespecial 25, 3) := by decide +kernel
theorem dX6_duplicate_16 : decode cX6_duplicate 16 = .ok (.astore_n 2, 1) := by decide +kernel
theorem dX6_duplicate_17 : decode cX6_duplicate 17 = .ok (.iconst 0, 1) := by decide +kernel
theorem dX6_duplicate_18 : decode cX6_duplicate 18 = .ok (.istore_n 3, 1) := by decide +kernel
theorem dX6_duplicate_19 : decode cX6_duplicate 19 = .ok (.iload_n 3, 1) := by decide +kernel
theorem dX6_duplicate_20 : decode cX6_duplicate 20 = .ok (.aload_n 0, 1) := by decide +kernel
theorem dX6_duplicate_21 : decode cX6_duplicate 21 = .ok (.getfield 28, 3) := by decide +kernel
theorem dX6_duplicate_24 : decode cX6_duplicate 24 = .ok (.if_icmp .ge 27, 3) := by decide +kernel
theorem dX6_duplicate_27 : decode cX6_duplicate 27 = .ok (.iload_n 3, 1) := by decide +kernel
theorem dX6_duplicate_28 : decode cX6_duplicate 28 = .ok (.bipush 60, 2) := by decide +kernel
theorem dX6_duplicate_30 : decode cX6_duplicate 30 = .ok (.if_icmp .ge 21, 3) := by decide +kernel
theorem dX6_duplicate_33 : decode cX6_duplicate 33 = .ok (.aload_n 2, 1) := by decide +kernel
theorem dX6_duplicate_34 : decode cX6_duplicate 34 = .ok (.getfield 9, 3) := by decide +kernel
theorem dX6_duplicate_37 : decode cX6_duplicate 37 = .ok (.iload_n 3, 1) := by decide +kernel
theorem dX6_duplicate_38 : decode cX6_duplicate 38 = .ok (.aload_n 0, 1) := by decide +kernel
theorem dX6_duplicate_39 : decode cX6_duplicate 39 = .ok (.getfield 9, 3) := by decide +kernel
theorem dX6_duplicate_42 : decode cX6_duplicate 42 = .ok (.iload_n 3, 1) := by decide +kernel
theorem dX6_duplicate_43 : decode cX6_duplicate 43 = .ok (.iaload, 1) := by decide +kernel
theorem dX6_duplicate_44 : decode cX6_duplicate 44 = .ok (.iastore, 1) := by decide +kernel
theorem dX6_duplicate_45 : decode cX6_duplicate 45 = .ok (.iinc 3 1, 3) := by decide +kernel
theorem dX6_duplicate_48 : decode cX6_duplicate 48 = .ok (.goto (-29), 3) := by decide +kernel
theorem dX6_duplicate_51 : decode cX6_duplicate 51 = .ok (.aload_n 2, 1) := by decide +kernel
theorem dX6_duplicate_52 : decode cX6_duplicate 52 = .ok (.aload_n 0, 1) := by decide +kernel
theorem dX6_duplicate_53 : decode cX6_duplicate 53 = .ok (.getfield 28, 3) := by decide +kernel
theorem dX6_duplicate_56 : decode cX6_duplicate 56 = .ok (.putfield 28, 3) := by decide +kernel
theorem dX6_duplicate_59 : decode cX6_duplicate 59 = .ok (.aload_n 2, 1) := by decide +kernel
theorem dX6_duplicate_60 : decode cX6_duplicate 60 = .ok (.aload_n 0, 1) := by decide +kernel
theorem dX6_duplicate_61 : decode cX6_duplicate 61 = .ok (.getfield 31, 3) := by decide +kernel
theorem dX6_duplicate_64 : decode cX6_duplicate 64 = .ok (.putfield 31, 3) := by decide +kernel
theorem dX6_duplicate_67 : decode cX6_duplicate 67 = .ok (.aload_n 2, 1) := by decide +kernel
theorem dX6_duplicate_68 : decode cX6_duplicate 68 = .ok (.areturn, 1) := by decide +kernel
theorem dX6_canPutAt_0 : decode cX6_canPutAt 0 = .ok (.iload_n 1, 1) := by decide +kernel
theorem dX6_canPutAt_1 : decode cX6_canPutAt 1 = .ok (.ifCond .lt 21, 3) := by decide +kernel
theorem dX6_canPutAt_4 : decode cX6_canPutAt 4 = .ok (.iload_n 1, 1) := by decide +kernel
theorem dX6_canPutAt_5 : decode cX6_canPutAt 5 = .ok (.aload_n 0, 1) := by decide +kernel
theorem dX6_canPutAt_6 : decode cX6_canPutAt 6 = .ok (.getfield 28, 3) := by decide +kernel
theorem dX6_canPutAt_9 : decode cX6_canPutAt 9 = .ok (.if_icmp .gt 13, 3) := by decide +kernel
theorem dX6_canPutAt_12 : decode cX6_canPutAt 12 = .ok (.iload_n 1, 1) := by decide +kernel
theorem dX6_canPutAt_13 : decode cX6_canPutAt 13 = .ok (.bipush 60, 2) := by decide +kernel
theorem dX6_canPutAt_15 : decode cX6_canPutAt 15 = .ok (.if_icmp .ge 7, 3) := by decide +kernel
theorem dX6_canPutAt_18 : decode cX6_canPutAt 18 = .ok (.iconst 1, 1) := by decide +kernel
theorem dX6_canPutAt_19 : decode cX6_canPutAt 19 = .ok (.goto 4, 3) := by decide +kernel
theorem dX6_canPutAt_22 : decode cX6_canPutAt 22 = .ok (.iconst 0, 1) := by decide +kernel
theorem dX6_canPutAt_23 : decode cX6_canPutAt 23 = .ok (.ireturn, 1) := by decide +kernel
theorem dX6_blockAt_0 : decode cX6_blockAt 0 = .ok (.iload_n 1, 1) := by decide +kernel
theorem dX6_blockAt_1 : decode cX6_blockAt 1 = .ok (.ifCond .lt 26, 3) := by decide +kernel
theorem dX6_blockAt_4 : decode cX6_blockAt 4 = .ok (.iload_n 1, 1) := by decide +kernel
theorem dX6_blockAt_5 : decode cX6_blockAt 5 = .ok (.aload_n 0, 1) := by decide +kernel
theorem dX6_blockAt_6 : decode cX6_blockAt 6 = .ok (.getfield 28, 3) := by decide +kernel
theorem dX6_blockAt_9 : decode cX6_blockAt 9 = .ok (.if_icmp .ge 18, 3) := by decide +kernel
theorem dX6_blockAt_12 : decode cX6_blockAt 12 = .ok (.iload_n 1, 1) := by decide +kernel
theorem dX6_blockAt_13 : decode cX6_blockAt 13 = .ok (.bipush 60, 2) := by decide +kernel
theorem dX6_blockAt_15 : decode cX6_blockAt 15 = .ok (.if_icmp .ge 12, 3) := by decide +kernel
theorem dX6_blockAt_18 : decode cX6_blockAt 18 = .ok (.aload_n 0, 1) := by decide +kernel
theorem dX6_blockAt_19 : decode cX6_blockAt 19 = .ok (.getfield 9, 3) := by decide +kernel
theorem dX6_blockAt_22 : decode cX6_blockAt 22 = .ok (.iload_n 1, 1) := by decide +kernel
theorem dX6_blockAt_23 : decode cX6_blockAt 23 = .ok (.iaload, 1) := by decide +kernel
theorem dX6_blockAt_24 : decode cX6_blockAt 24 = .ok (.goto 4, 3) := by decide +kernel
theorem dX6_blockAt_27 : decode cX6_blockAt 27 = .ok (.iconst (-1), 1) := by decide +kernel
theorem dX6_blockAt_28 : decode cX6_blockAt 28 = .ok (.ireturn, 1) := by decide +kernel
theorem dX6_put_0 : decode cX6_put 0 = .ok (.aload_n 0, 1) := by decide +kernel
theorem dX6_put_1 : decode cX6_put 1 = .ok (.iload_n 1, 1) := by decide +kernel
theorem dX6_put_2 : decode cX6_put 2 = .ok (.invokevirtual 35, 3) := by decide +kernel
theorem dX6_put_5 : decode cX6_put 5 = .ok (.ifCond .ne 4, 3) := by decide +kernel
theorem dX6_put_8 : decode cX6_put 8 = .ok (.return_, 1) := by decide +kernel
theorem dX6_put_9 : decode cX6_put 9 = .ok (.aload_n 0, 1) := by decide +kernel
theorem dX6_put_10 : decode cX6_put 10 = .ok (.getfield 9, 3) := by decide +kernel
theorem dX6_put_13 : decode cX6_put 13 = .ok (.iload_n 1, 1) := by decide +kernel
theorem dX6_put_14 : decode cX6_put 14 = .ok (.iload_n 2, 1) := by decide +kernel
theorem dX6_put_15 : decode cX6_put 15 = .ok (.iastore, 1) := by decide +kernel
theorem dX6_put_16 : decode cX6_put 16 = .ok (.aload_n 0, 1) := by decide +kernel
theorem dX6_put_17 : decode cX6_put 17 = .ok (.aload_n 0, 1) := by decide +kernel
theorem dX6_put_18 : decode cX6_put 18 = .ok (.getfield 28, 3) := by decide +kernel
theorem dX6_put_21 : decode cX6_put 21 = .ok (.iload_n 1, 1) := by decide +kernel
theorem dX6_put_22 : decode cX6_put 22 = .ok (.iconst 1, 1) := by decide +kernel
theorem dX6_put_23 : decode cX6_put 23 = .ok (.iadd, 1) := by decide +kernel
theorem dX6_put_24 : decode cX6_put 24 = .ok (.invokestatic 39, 3) := by decide +kernel
theorem dX6_put_27 : decode cX6_put 27 = .ok (.putfield 28, 3) := by decide +kernel
theorem dX6_put_30 : decode cX6_put 30 = .ok (.aload_n 0, 1) := by decide +kernel
theorem dX6_put_31 : decode cX6_put 31 = .ok (.iload_n 3, 1) := by decide +kernel
theorem dX6_put_32 : decode cX6_put 32 = .ok (.invokevirtual 45, 3) := by decide +kernel
theorem dX6_put_35 : decode cX6_put 35 = .ok (.return_, 1) := by decide +kernel
theorem dX6_shorten_0 : decode cX6_shorten 0 = .ok (.aload_n 0, 1) := by decide +kernel
theorem dX6_shorten_1 : decode cX6_shorten 1 = .ok (.iload_n 1, 1) := by decide +kernel
theorem dX6_shorten_2 : decode cX6_shorten 2 = .ok (.putfield 28, 3) := by decide +kernel
theorem dX6_shorten_5 : decode cX6_shorten 5 = .ok (.aload_n 0, 1) := by decide +kernel
theorem dX6_shorten_6 : decode cX6_shorten 6 = .ok (.iload_n 2, 1) := by decide +kernel
theorem dX6_shorten_7 : decode cX6_shorten 7 = .ok (.invokevirtual 45, 3) := by decide +kernel
theorem dX6_shorten_10 : decode cX6_shorten 10 = .ok (.return_, 1) := by decide +kernel
theorem dX6_countHoles_0 : decode cX6_countHoles 0 = .ok (.iconst 0, 1) := by decide +kernel
theorem dX6_countHoles_1 : decode cX6_countHoles 1 = .ok (.istore_n 1, 1) := by decide +kernel
theorem dX6_countHoles_2 : decode cX6_countHoles 2 = .ok (.iconst 0, 1) := by decide +kernel
theorem dX6_countHoles_3 : decode cX6_countHoles 3 = .ok (.istore_n 2, 1) := by decide +kernel
theorem dX6_countHoles_4 : decode cX6_countHoles 4 = .ok (.iload_n 2, 1) := by decide +kernel
theorem dX6_countHoles_5 : decode cX6_countHoles 5 = .ok (.aload_n 0, 1) := by decide +kernel
theorem dX6_countHoles_6 : decode cX6_countHoles 6 = .ok (.getfield 28, 3) := by decide +kernel
theorem dX6_countHoles_9 : decode cX6_countHoles 9 = .ok (.if_icmp .ge 21, 3) := by decide +kernel
theorem dX6_countHoles_12 : decode cX6_countHoles 12 = .ok (.aload_n 0, 1) := by decide +kernel
theorem dX6_countHoles_13 : decode cX6_countHoles 13 = .ok (.iload_n 2, 1) := by decide +kernel
theorem dX6_countHoles_14 : decode cX6_countHoles 14 = .ok (.invokevirtual 49, 3) := by decide +kernel
theorem dX6_countHoles_17 : decode cX6_countHoles 17 = .ok (.iconst (-1), 1) := by decide +kernel
theorem dX6_countHoles_18 : decode cX6_countHoles 18 = .ok (.if_icmp .ne 6, 3) := by decide +kernel
theorem dX6_countHoles_21 : decode cX6_countHoles 21 = .ok (.iinc 1 1, 3) := by decide +kernel
theorem dX6_countHoles_24 : decode cX6_countHoles 24 = .ok (.iinc 2 1, 3) := by decide +kernel
theorem dX6_countHoles_27 : decode cX6_countHoles 27 = .ok (.goto (-23), 3) := by decide +kernel
theorem dX6_countHoles_30 : decode cX6_countHoles 30 = .ok (.iload_n 1, 1) := by decide +kernel
theorem dX6_countHoles_31 : decode cX6_countHoles 31 = .ok (.ireturn, 1) := by decide +kernel
theorem dX6_noteChange_0 : decode cX6_noteChange 0 = .ok (.aload_n 0, 1) := by decide +kernel
theorem dX6_noteChange_1 : decode cX6_noteChange 1 = .ok (.iload_n 1, 1) := by decide +kernel
theorem dX6_noteChange_2 : decode cX6_noteChange 2 = .ok (.putfield 22, 3) := by decide +kernel
theorem dX6_noteChange_5 : decode cX6_noteChange 5 = .ok (.aload_n 0, 1) := by decide +kernel
theorem dX6_noteChange_6 : decode cX6_noteChange 6 = .ok (.lconst 0, 1) := by decide +kernel
theorem dX6_noteChange_7 : decode cX6_noteChange 7 = .ok (.putfield 31, 3) := by decide +kernel
theorem dX6_noteChange_10 : decode cX6_noteChange 10 = .ok (.iconst 0, 1) := by decide +kernel
theorem dX6_noteChange_11 : decode cX6_noteChange 11 = .ok (.istore_n 2, 1) := by decide +kernel
theorem dX6_noteChange_12 : decode cX6_noteChange 12 = .ok (.iload_n 2, 1) := by decide +kernel
theorem dX6_noteChange_13 : decode cX6_noteChange 13 = .ok (.aload_n 0, 1) := by decide +kernel
theorem dX6_noteChange_14 : decode cX6_noteChange 14 = .ok (.getfield 28, 3) := by decide +kernel
theorem dX6_noteChange_17 : decode cX6_noteChange 17 = .ok (.if_icmp .ge 32, 3) := by decide +kernel
theorem dX6_noteChange_20 : decode cX6_noteChange 20 = .ok (.aload_n 0, 1) := by decide +kernel
theorem dX6_noteChange_21 : decode cX6_noteChange 21 = .ok (.iload_n 2, 1) := by decide +kernel
theorem dX6_noteChange_22 : decode cX6_noteChange 22 = .ok (.invokevirtual 49, 3) := by decide +kernel
theorem dX6_noteChange_25 : decode cX6_noteChange 25 = .ok (.istore_n 3, 1) := by decide +kernel
theorem dX6_noteChange_26 : decode cX6_noteChange 26 = .ok (.iload_n 3, 1) := by decide +kernel
theorem dX6_noteChange_27 : decode cX6_noteChange 27 = .ok (.iconst (-1), 1) := by decide +kernel
theorem dX6_noteChange_28 : decode cX6_noteChange 28 = .ok (.if_icmp .eq 15, 3) := by decide +kernel
theorem dX6_noteChange_31 : decode cX6_noteChange 31 = .ok (.aload_n 0, 1) := by decide +kernel
theorem dX6_noteChange_32 : decode cX6_noteChange 32 = .ok (.dup, 1) := by decide +kernel
theorem dX6_noteChange_33 : decode cX6_noteChange 33 = .ok (.getfield 31, 3) := by decide +kernel
theorem dX6_noteChange_36 : decode cX6_noteChange 36 = .ok (.lconst 1, 1) := by decide +kernel
theorem dX6_noteChange_37 : decode cX6_noteChange 37 = .ok (.iload_n 3, 1) := by decide +kernel
theorem dX6_noteChange_38 : decode cX6_noteChange 38 = .ok (.lshl, 1) := by decide +kernel
theorem dX6_noteChange_39 : decode cX6_noteChange 39 = .ok (.lor, 1) := by decide +kernel
theorem dX6_noteChange_40 : decode cX6_noteChange 40 = .ok (.putfield 31, 3) := by decide +kernel
theorem dX6_noteChange_43 : decode cX6_noteChange 43 = .ok (.iinc 2 1, 3) := by decide +kernel
theorem dX6_noteChange_46 : decode cX6_noteChange 46 = .ok (.goto (-34), 3) := by decide +kernel
theorem dX6_noteChange_49 : decode cX6_noteChange 49 = .ok (.return_, 1) := by decide +kernel
/-! StoredFile: the object at name j, its row at name j + 1 -/
def oSt (ad : AD) (j : Nat) (ow wo : Int32) (ln : Nat) (ch : Int32) (bl : Int64) : va_E := eC 6 [.int ow, .int wo, .ref (ad (j + 1)), .int (nI ln), .int ch, .long bl]
/-- places that can be written -/
def cpl (ln : Nat) : Nat := if ln < 60 then ln + 1 else 60
theorem cpl_le (ln : Nat) : cpl ln ≤ 60 := by unfold cpl; split <;> omega
theorem cp_gt {x : Int32} {ln : Nat} (hl : ln ≤ 60) (c : nI ln < x) : inN x (cpl ln) = false := by
  rcases inN_cases x (cpl ln) with q | ⟨i, hi, rfl⟩
  · exact q
  · exfalso
    have h1 := cpl_le ln
    have h2 := nI_lt_of c (by omega) (by omega)
    unfold cpl at hi
    split at hi <;> omega
theorem cp_60 {x : Int32} {ln : Nat} (c : nI 60 ≤ x) : inN x (cpl ln) = false := by
  rcases inN_cases x (cpl ln) with q | ⟨i, hi, rfl⟩
  · exact q
  · exfalso
    have h1 := cpl_le ln
    have h2 := nI_le_of c (by omega) (by omega)
    omega
theorem cp_yes {x : Int32} {ln : Nat} (hl : ln ≤ 60) (a : ¬ x < 0) (b : ¬ nI ln < x) (c : ¬ nI 60 ≤ x) : inN x (cpl ln) = true := by
  obtain ⟨i, hi, rfl⟩ := inN_of (inN_yes (n := 60) (by decide) a c)
  rw [inN_nI (by omega)]
  have h2 : ¬ ln < i := fun q => b (nI_lt q (by omega))
  unfold cpl
  simp
  split <;> omega
section SF
variable {l : Launch} {g : GG} {ad : AD} {C : CC} {j ln : Nat} {ow wo ch : Int32} {bl : Int64} {pl : Nat → Int32}
theorem k_X6_canPutAt {x : Int32} (fs : C j = some (oSt ad j ow wo ln ch bl)) (hl : ln ≤ 60) : Cr l g yX6_canPutAt cX6_canPutAt 2 (some .boolean) 1 [.ref (ad j), .int x] ad C (.int (bI (inN x (cpl ln)))) := by
  refine Ct_of [some (.ref (ad j)), some (.int x)] (by decide) rfl rfl (Nat.le_of_ble_eq_true rfl) rfl rfl (fun X hX h => ?_)
  subst hX
  refine j_iload1 (pc := 0) h dX6_canPutAt_0 ?_
  refine j_if_lt (pc := 1) (tgt := 22) h dX6_canPutAt_1 (by decide) (fun c1 => ?_) (fun c1 => ?_)
  · refine j_iconst (pc := 22) h dX6_canPutAt_22 ic_0 ?_
    refine j_zretr (pc := 23) h dX6_canPutAt_23 (by decide) (bI_f (inN_no0 c1))
  · refine j_iload1 (pc := 4) h dX6_canPutAt_4 ?_
    refine j_aload0 (pc := 5) h dX6_canPutAt_5 ?_
    refine j_getf (pc := 6) h dX6_canPutAt_6 (fs) fl_X6_28 rfl ?_
    refine j_icmp_gt (pc := 9) (tgt := 22) h dX6_canPutAt_9 (by decide) (fun c9 => ?_) (fun c9 => ?_)
    · refine j_iconst (pc := 22) h dX6_canPutAt_22 ic_0 ?_
      refine j_zretr (pc := 23) h dX6_canPutAt_23 (by decide) (bI_f (cp_gt hl c9))
    · refine j_iload1 (pc := 12) h dX6_canPutAt_12 ?_
      refine j_bipush (pc := 13) h dX6_canPutAt_13 bp_60 ?_
      refine j_icmp_ge (pc := 15) (tgt := 22) h dX6_canPutAt_15 (by decide) (fun c15 => ?_) (fun c15 => ?_)
      · refine j_iconst (pc := 22) h dX6_canPutAt_22 ic_0 ?_
        refine j_zretr (pc := 23) h dX6_canPutAt_23 (by decide) (bI_f (cp_60 c15))
      · refine j_iconst (pc := 18) h dX6_canPutAt_18 ic_1 ?_
        refine j_goto (pc := 19) (tgt := 23) h dX6_canPutAt_19 (by decide) ?_
        refine j_zretr (pc := 23) h dX6_canPutAt_23 (by decide) (bI_t (cp_yes hl c1 c9 c15))
theorem k_X6_blockAt_no {x : Int32} (fs : C j = some (oSt ad j ow wo ln ch bl)) (hl : ln ≤ 60) (hx : inN x ln = false) : Cr l g yX6_blockAt cX6_blockAt 2 (some .int) 1 [.ref (ad j), .int x] ad C (.int (-1)) := by
  refine Ct_of [some (.ref (ad j)), some (.int x)] (by decide) rfl rfl (Nat.le_of_ble_eq_true rfl) rfl rfl (fun X hX h => ?_)
  subst hX
  refine j_iload1 (pc := 0) h dX6_blockAt_0 ?_
  refine j_if_lt (pc := 1) (tgt := 27) h dX6_blockAt_1 (by decide) (fun c1 => ?_) (fun c1 => ?_)
  · refine j_iconst (pc := 27) h dX6_blockAt_27 ic_m1 ?_
    refine j_iretr (pc := 28) h dX6_blockAt_28 (rfl)
  · refine j_iload1 (pc := 4) h dX6_blockAt_4 ?_
    refine j_aload0 (pc := 5) h dX6_blockAt_5 ?_
    refine j_getf (pc := 6) h dX6_blockAt_6 (fs) fl_X6_28 rfl ?_
    refine j_icmp_ge (pc := 9) (tgt := 27) h dX6_blockAt_9 (by decide) (fun c9 => ?_) (fun c9 => ?_)
    · refine j_iconst (pc := 27) h dX6_blockAt_27 ic_m1 ?_
      refine j_iretr (pc := 28) h dX6_blockAt_28 (rfl)
    · exact absurd (inN_yes (by omega) c1 c9) (by rw [hx]; decide)
theorem k_X6_blockAt {i : Nat} (fs : C j = some (oSt ad j ow wo ln ch bl)) (fsp : C (j + 1) = some (eI g 60 pl)) (hl : ln ≤ 60) (hi : i < ln) : Cr l g yX6_blockAt cX6_blockAt 2 (some .int) 1 [.ref (ad j), .int (nI i)] ad C (.int (pl i)) := by
  refine Ct_of [some (.ref (ad j)), some (.int (nI i))] (by decide) rfl rfl (Nat.le_of_ble_eq_true rfl) rfl rfl (fun X hX h => ?_)
  subst hX
  refine j_iload1 (pc := 0) h dX6_blockAt_0 ?_
  refine j_if_lt (pc := 1) (tgt := 27) h dX6_blockAt_1 (by decide) (fun c1 => absurd c1 (nI_pos (by omega))) (fun c1 => ?_)
  refine j_iload1 (pc := 4) h dX6_blockAt_4 ?_
  refine j_aload0 (pc := 5) h dX6_blockAt_5 ?_
  refine j_getf (pc := 6) h dX6_blockAt_6 (fs) fl_X6_28 rfl ?_
  refine j_icmp_ge (pc := 9) (tgt := 27) h dX6_blockAt_9 (by decide) (fun c9 => absurd c9 (nI_ge (by omega) (by omega))) (fun c9 => ?_)
  refine j_iload1 (pc := 12) h dX6_blockAt_12 ?_
  refine j_bipush (pc := 13) h dX6_blockAt_13 bp_60 ?_
  refine j_icmp_ge (pc := 15) (tgt := 27) h dX6_blockAt_15 (by decide) (fun c15 => absurd c15 (nI_ge (by omega) (by omega))) (fun c15 => ?_)
  refine j_aload0 (pc := 18) h dX6_blockAt_18 ?_
  refine j_getf (pc := 19) h dX6_blockAt_19 (fs) fl_X6_9 rfl ?_
  refine j_iload1 (pc := 22) h dX6_blockAt_22 ?_
  refine j_iald (pc := 23) h dX6_blockAt_23 (fsp) (by omega) (by decide) ?_
  refine j_goto (pc := 24) (tgt := 28) h dX6_blockAt_24 (by decide) ?_
  refine j_iretr (pc := 28) h dX6_blockAt_28 (rfl)
theorem k_X6_countHoles (fs : C j = some (oSt ad j ow wo ln ch bl)) (fsp : C (j + 1) = some (eI g 60 pl)) (hl : ln ≤ 60) : Cr l g yX6_countHoles cX6_countHoles 3 (some .int) 2 [.ref (ad j)] ad C (.int (nI (cnt (fun i => pl i == -1) ln))) := by
  refine Ct_of [some (.ref (ad j)), none, none] (by decide) rfl rfl (Nat.le_of_ble_eq_true rfl) rfl rfl (fun X hX h => ?_)
  subst hX
  have lp : ∀ m i, i + m = ln → J X g 3 (QR X g ad C (.int (nI (cnt (fun i => pl i == -1) ln)))) 0 0 ad C 4 [some (.ref (ad j)), some (.int (nI (cnt (fun i => pl i == -1) i))), some (.int (nI i))] [] := by
    intro m
    induction m with
    | zero =>
      intro i hi
      refine j_iload2 (pc := 4) h dX6_countHoles_4 ?_
      refine j_aload0 (pc := 5) h dX6_countHoles_5 ?_
      refine j_getf (pc := 6) h dX6_countHoles_6 (fs) fl_X6_28 rfl ?_
      refine j_icmp_ge (pc := 9) (tgt := 30) h dX6_countHoles_9 (by decide) (fun c9 => ?_) (fun c9 => absurd (nI_le (by omega) (by omega)) c9)
      refine j_iload1 (pc := 30) h dX6_countHoles_30 ?_
      refine j_iretr (pc := 31) h dX6_countHoles_31 (by rw [show i = ln by omega])
    | succ m ih =>
      intro i hi
      refine j_iload2 (pc := 4) h dX6_countHoles_4 ?_
      refine j_aload0 (pc := 5) h dX6_countHoles_5 ?_
      refine j_getf (pc := 6) h dX6_countHoles_6 (fs) fl_X6_28 rfl ?_
      refine j_icmp_ge (pc := 9) (tgt := 30) h dX6_countHoles_9 (by decide) (fun c9 => absurd c9 (nI_ge (by omega) (by omega))) (fun c9 => ?_)
      refine j_aload0 (pc := 12) h dX6_countHoles_12 ?_
      refine j_iload2 (pc := 13) h dX6_countHoles_13 ?_
      refine j_callVr (pc := 14) h dX6_countHoles_14 (k_X6_blockAt (i := i) fs fsp hl (by omega)) mv_X6_49 (fs) rfl rfl (by decide) (Nat.le_of_ble_eq_true rfl) (Nat.le_of_ble_eq_true rfl) (Nat.le_of_ble_eq_true rfl) ?_
      refine j_iconst (pc := 17) h dX6_countHoles_17 ic_m1 ?_
      refine j_icmp_ne (pc := 18) (tgt := 24) h dX6_countHoles_18 (by decide) (fun c18 => ?_) (fun c18 => ?_)
      · refine j_iinc2 (pc := 24) h dX6_countHoles_24 rfl (inc_n _) ?_
        refine j_goto (pc := 27) (tgt := 4) h dX6_countHoles_27 (by decide) ?_
        rw [show cnt (fun i => pl i == -1) i = cnt (fun i => pl i == -1) (i + 1) from (cnt_f (by simpa using c18)).symm]
        exact ih (i + 1) (by omega)
      · refine j_iinc1 (pc := 21) h dX6_countHoles_21 rfl (inc_n _) ?_
        refine j_iinc2 (pc := 24) h dX6_countHoles_24 rfl (inc_n _) ?_
        refine j_goto (pc := 27) (tgt := 4) h dX6_countHoles_27 (by decide) ?_
        rw [show cnt (fun i => pl i == -1) i + 1 = cnt (fun i => pl i == -1) (i + 1) from (cnt_t (by simpa using c18)).symm]
        exact ih (i + 1) (by omega)
  refine j_iconst (pc := 0) h dX6_countHoles_0 ic_0 ?_
  refine j_istore1 (pc := 1) h dX6_countHoles_1 rfl ?_
  refine j_iconst (pc := 2) h dX6_countHoles_2 ic_0 ?_
  refine j_istore2 (pc := 3) h dX6_countHoles_3 rfl ?_
  exact lp ln 0 (by omega)
def blF (pl : Nat → Int32) : Nat → Int64 := fun i => if pl i = -1 then 0 else b1 (pl i)
theorem up_up {α : Type} (f : Nat → α) (k : Nat) (v w : α) : va_up (va_up f k v) k w = va_up f k w := bx_uu f k v w
theorem k_X6_noteChange {day : Int32} (fs : C j = some (oSt ad j ow wo ln ch bl)) (fsp : C (j + 1) = some (eI g 60 pl)) (hl : ln ≤ 60) : Cw l g yX6_noteChange cX6_noteChange 4 none 2 [.ref (ad j), .int day] ad C none (va_up C j (some (oSt ad j ow wo ln day (orr (blF pl) ln)))) := by
  refine Ct_of [some (.ref (ad j)), some (.int day), none, none] (by decide) rfl rfl (Nat.le_of_ble_eq_true rfl) rfl rfl (fun X hX h => ?_)
  subst hX
  have lp : ∀ m i z, i + m = ln → J X g 4 (QW X g none ad (va_up C j (some (oSt ad j ow wo ln day (orr (blF pl) ln))))) 0 0 ad (va_up C j (some (oSt ad j ow wo ln day (orr (blF pl) i)))) 12 [some (.ref (ad j)), some (.int day), some (.int (nI i)), z] [] := by
    intro m
    induction m with
    | zero =>
      intro i z hi
      refine j_iload2 (pc := 12) h dX6_noteChange_12 ?_
      refine j_aload0 (pc := 13) h dX6_noteChange_13 ?_
      refine j_getf (pc := 14) h dX6_noteChange_14 (va_up_self _ _ _) fl_X6_28 rfl ?_
      refine j_icmp_ge (pc := 17) (tgt := 49) h dX6_noteChange_17 (by decide) (fun c17 => ?_) (fun c17 => absurd (nI_le (by omega) (by omega)) c17)
      refine j_vret (pc := 49) h dX6_noteChange_49 (⟨rfl, rfl, by rw [show i = ln by omega]⟩)
    | succ m ih =>
      intro i z hi
      refine j_iload2 (pc := 12) h dX6_noteChange_12 ?_
      refine j_aload0 (pc := 13) h dX6_noteChange_13 ?_
      refine j_getf (pc := 14) h dX6_noteChange_14 (va_up_self _ _ _) fl_X6_28 rfl ?_
      refine j_icmp_ge (pc := 17) (tgt := 49) h dX6_noteChange_17 (by decide) (fun c17 => absurd c17 (nI_ge (by omega) (by omega))) (fun c17 => ?_)
      refine j_aload0 (pc := 20) h dX6_noteChange_20 ?_
      refine j_iload2 (pc := 21) h dX6_noteChange_21 ?_
      refine j_callVr (pc := 22) h dX6_noteChange_22 (k_X6_blockAt (i := i) (pl := pl) (va_up_self _ _ _) (upn fsp (by omega)) hl (by omega)) mv_X6_49 (va_up_self _ _ _) rfl rfl (by decide) (Nat.le_of_ble_eq_true rfl) (Nat.le_of_ble_eq_true rfl) (Nat.le_of_ble_eq_true rfl) ?_
      refine j_istore3 (pc := 25) h dX6_noteChange_25 rfl ?_
      refine j_iload3 (pc := 26) h dX6_noteChange_26 ?_
      refine j_iconst (pc := 27) h dX6_noteChange_27 ic_m1 ?_
      refine j_icmp_eq (pc := 28) (tgt := 43) h dX6_noteChange_28 (by decide) (fun c28 => ?_) (fun c28 => ?_)
      · refine j_iinc2 (pc := 43) h dX6_noteChange_43 rfl (inc_n _) ?_
        refine j_goto (pc := 46) (tgt := 12) h dX6_noteChange_46 (by decide) ?_
        rw [show orr (blF pl) i = orr (blF pl) (i + 1) from orr_no (by simp [blF, c28])]
        exact ih (i + 1) _ (by omega)
      · refine j_aload0 (pc := 31) h dX6_noteChange_31 ?_
        refine j_dupR (pc := 32) h dX6_noteChange_32 ?_
        refine j_getf (pc := 33) h dX6_noteChange_33 (va_up_self _ _ _) fl_X6_31 rfl ?_
        refine j_lconst (pc := 36) h dX6_noteChange_36 lc_1 ?_
        refine j_iload3 (pc := 37) h dX6_noteChange_37 ?_
        refine j_lshl (pc := 38) h dX6_noteChange_38 ?_
        refine j_lor (pc := 39) h dX6_noteChange_39 ?_
        refine j_putv (pc := 40) h dX6_noteChange_40 (va_up_self _ _ _) pl_X6_31 rfl rfl (Nat.le_of_ble_eq_true rfl) ?_
        refine j_mem (up_up _ _ _ _) ?_
        refine j_iinc2 (pc := 43) h dX6_noteChange_43 rfl (inc_n _) ?_
        refine j_goto (pc := 46) (tgt := 12) h dX6_noteChange_46 (by decide) ?_
        have e : orr (blF pl) (i + 1) = orr (blF pl) i ||| (1 <<< ((pl i).toInt64 &&& 63)) := by rw [orr, blF, if_neg c28]; rfl
        exact j_mem (C' := va_up C j (some (oSt ad j ow wo ln day (orr (blF pl) (i + 1))))) (by rw [e]; rfl) (ih (i + 1) _ (by omega))
  refine j_aload0 (pc := 0) h dX6_noteChange_0 ?_
  refine j_iload1 (pc := 1) h dX6_noteChange_1 ?_
  refine j_putv (pc := 2) h dX6_noteChange_2 (fs) pl_X6_22 rfl rfl (Nat.le_of_ble_eq_true rfl) ?_
  refine j_aload0 (pc := 5) h dX6_noteChange_5 ?_
  refine j_lconst (pc := 6) h dX6_noteChange_6 lc_0 ?_
  refine j_putv (pc := 7) h dX6_noteChange_7 (va_up_self _ _ _) pl_X6_31 rfl rfl (Nat.le_of_ble_eq_true rfl) ?_
  refine j_mem (up_up _ _ _ _) ?_
  refine j_iconst (pc := 10) h dX6_noteChange_10 ic_0 ?_
  refine j_istore2 (pc := 11) h dX6_noteChange_11 rfl ?_
  exact lp ln 0 none (by omega)
theorem k_X6_put {p : Nat} {x day : Int32} (fs : C j = some (oSt ad j ow wo ln ch bl)) (fsp : C (j + 1) = some (eI g 60 pl)) (hl : ln ≤ 60) (hp : p < cpl ln) : Cw l g yX6_put cX6_put 4 none 3 [.ref (ad j), .int (nI p), .int x, .int day] ad C none (va_up (va_up C (j + 1) (some (eI g 60 (upd pl p x)))) j (some (oSt ad j ow wo (if p < ln then ln else p + 1) day (orr (blF (upd pl p x)) (if p < ln then ln else p + 1))))) := by
  have hp6 := cpl_le ln
  have hpl : p ≤ ln := by unfold cpl at hp; split at hp <;> omega
  refine Ct_of [some (.ref (ad j)), some (.int (nI p)), some (.int x), some (.int day)] (by decide) rfl rfl (Nat.le_of_ble_eq_true rfl) rfl rfl (fun X hX h => ?_)
  subst hX
  refine j_aload0 (pc := 0) h dX6_put_0 ?_
  refine j_iload1 (pc := 1) h dX6_put_1 ?_
  refine j_callVr (pc := 2) h dX6_put_2 (k_X6_canPutAt fs hl) mv_X6_35 (fs) rfl rfl (by decide) (Nat.le_of_ble_eq_true rfl) (Nat.le_of_ble_eq_true rfl) (Nat.le_of_ble_eq_true rfl) ?_
  refine j_if_neB (pc := 5) (tgt := 9) h dX6_put_5 (by decide) (fun c5 => ?_) (fun c5 => absurd c5 (by rw [inN_nI (by omega)]; simpa using hp))
  refine j_aload0 (pc := 9) h dX6_put_9 ?_
  refine j_getf (pc := 10) h dX6_put_10 (fs) fl_X6_9 rfl ?_
  refine j_iload1 (pc := 13) h dX6_put_13 ?_
  refine j_iload2 (pc := 14) h dX6_put_14 ?_
  refine j_iast (pc := 15) h dX6_put_15 (fsp) (by omega) (by decide) ?_
  have fs1 : va_up C (j + 1) (some (eI g 60 (upd pl p x))) j = some (oSt ad j ow wo ln ch bl) := upn fs (by omega)
  have e0 : (if nI ln < nI (p + 1) then nI (p + 1) else nI ln) = nI (if p < ln then ln else p + 1) := by
    by_cases q : p < ln
    · rw [if_pos q, if_neg (nI_nlt (by omega) (by omega))]
    · rw [if_neg q, if_pos (nI_lt (by omega) (by omega))]
  refine j_aload0 (pc := 16) h dX6_put_16 ?_
  refine j_aload0 (pc := 17) h dX6_put_17 ?_
  refine j_getf (pc := 18) h dX6_put_18 (fs1) fl_X6_28 rfl ?_
  refine j_iload1 (pc := 21) h dX6_put_21 ?_
  refine j_iconst (pc := 22) h dX6_put_22 ic_1 ?_
  refine j_iaddN (pc := 23) h dX6_put_23 ?_
  refine j_callSr (pc := 24) h dX6_put_24 (k_J9_max_7cf53) ms_X6_39 rfl rfl (by decide) (Nat.le_of_ble_eq_true rfl) (Nat.le_of_ble_eq_true rfl) (Nat.le_of_ble_eq_true rfl) ?_
  refine j_topi (e0) ?_
  refine j_putv (pc := 27) h dX6_put_27 (fs1) pl_X6_28 rfl rfl (Nat.le_of_ble_eq_true rfl) ?_
  refine j_aload0 (pc := 30) h dX6_put_30 ?_
  refine j_iload3 (pc := 31) h dX6_put_31 ?_
  refine j_callV (pc := 32) h dX6_put_32 (k_X6_noteChange (ln := if p < ln then ln else p + 1) (va_up_self _ _ _) (upn (va_up_self _ _ _) (by omega)) (by split <;> omega)) mv_X6_45 (va_up_self _ _ _) rfl rfl (by decide) (Nat.le_of_ble_eq_true rfl) (Nat.le_of_ble_eq_true rfl) (Nat.le_of_ble_eq_true rfl) (fun v32 ad32 C32 hp32 => ?_)
  obtain ⟨rfl, rfl, rfl⟩ := hp32
  refine j_vret (pc := 35) h dX6_put_35 (⟨rfl, rfl, up_up _ _ _ _⟩)
theorem k_X6_shorten {n : Nat} {day : Int32} (fs : C j = some (oSt ad j ow wo ln ch bl)) (fsp : C (j + 1) = some (eI g 60 pl)) (hl : n ≤ 60) : Cw l g yX6_shorten cX6_shorten 3 none 3 [.ref (ad j), .int (nI n), .int day] ad C none (va_up C j (some (oSt ad j ow wo n day (orr (blF pl) n)))) := by
  refine Ct_of [some (.ref (ad j)), some (.int (nI n)), some (.int day)] (by decide) rfl rfl (Nat.le_of_ble_eq_true rfl) rfl rfl (fun X hX h => ?_)
  subst hX
  refine j_aload0 (pc := 0) h dX6_shorten_0 ?_
  refine j_iload1 (pc := 1) h dX6_shorten_1 ?_
  refine j_putv (pc := 2) h dX6_shorten_2 (fs) pl_X6_28 rfl rfl (Nat.le_of_ble_eq_true rfl) ?_
  refine j_aload0 (pc := 5) h dX6_shorten_5 ?_
  refine j_iload2 (pc := 6) h dX6_shorten_6 ?_
  refine j_callV (pc := 7) h dX6_shorten_7 (k_X6_noteChange (ln := n) (va_up_self _ _ _) (upn fsp (by omega)) hl) mv_X6_45 (va_up_self _ _ _) rfl rfl (by decide) (Nat.le_of_ble_eq_true rfl) (Nat.le_of_ble_eq_true rfl) (Nat.le_of_ble_eq_true rfl) (fun v7 ad7 C7 hp7 => ?_)
  obtain ⟨rfl, rfl, rfl⟩ := hp7
  refine j_vret (pc := 10) h dX6_shorten_10 (⟨rfl, rfl, up_up _ _ _ _⟩)
end SF
end
section
theorem dX1_init_0 : decode cX1_init 0 = .ok (.aload_n 0, 1) := by decide +kernel
theorem dX1_init_1 : decode cX1_init 1 = .ok (.invokespecial 3, 3) := by decide +kernel
theorem dX1_init_4 : decode cX1_init 4 = .ok (.aload_n 0, 1) := by decide +kernel
theorem dX1_init_5 : decode cX1_init 5 = .ok (.bipush 30, 2) := by decide +kernel
theorem dX1_init_7 : decode cX1_init 7 = .ok (.newarray .int, 2) := by decide +kernel
theorem dX1_init_9 : decode cX1_init 9 = .ok (.putfield 9, 3) := by decide +kernel
theorem dX1_init_12 : decode cX1_init 12 = .ok (.aload_n 0, 1) := by decide +kernel
theorem dX1_init_13 : decode cX1_init 13 = .ok (.bipush 30, 2) := by decide +kernel
theorem dX1_init_15 : decode cX1_init 15 = .ok (.newarray .int, 2) := by decide +kernel
theorem dX1_init_17 : decode cX1_init 17 = .ok (.putfield 15, 3) := by decide +kernel
theorem dX1_init_20 : decode cX1_init 20 = .ok (.aload_n 0, 1) := by decide +kernel
theorem dX1_init_21 : decode cX1_init 21 = .ok (.bipush 30, 2) := by decide +kernel
theorem dX1_init_23 : decode cX1_init 23 = .ok (.newarray .boolean, 2) := by decide +kernel
theorem dX1_init_25 : decode cX1_init 25 = .ok (.putfield 18, 3) := by decide +kernel
theorem dX1_init_28 : decode cX1_init 28 = .ok (.aload_n 0, 1) := by decide +kernel
theorem dX1_init_29 : decode cX1_init 29 = .ok (.getfield 9, 3) := by decide +kernel
theorem dX1_init_32 : decode cX1_init 32 = .ok (.iconst 0, 1) := by decide +kernel
theorem dX1_init_33 : decode cX1_init 33 = .ok (.iconst (-1), 1) := by decide +kernel
theorem dX1_init_34 : decode cX1_init 34 = .ok (.iastore, 1) := by decide +kernel
theorem dX1_init_35 : decode cX1_init 35 = .ok (.aload_n 0, 1) := by decide +kernel
theorem dX1_init_36 : decode cX1_init 36 = .ok (.iconst 1, 1) := by decide +kernel
theorem dX1_init_37 : decode cX1_init 37 = .ok (.putfield 22, 3) := by decide +kernel
theorem dX1_init_40 : decode cX1_init 40 = .ok (.return_, 1) := by decide +kernel
theorem dX1_has_0 : decode cX1_has 0 = .ok (.iload_n 1, 1) := by decide +kernel
theorem dX1_has_1 : decode cX1_has 1 = .ok (.ifCond .lt 15, 3) := by decide +kernel
theorem dX1_has_4 : decode cX1_has 4 = .ok (.iload_n 1, 1) := by decide +kernel
theorem dX1_has_5 : decode cX1_has 5 = .ok (.aload_n 0, 1) := by decide +kernel
theorem dX1_has_6 : decode cX1_has 6 = .ok (.getfield 22, 3) := by decide +kernel
theorem dX1_has_9 : decode cX1_has 9 = .ok (.if_icmp .ge 7, 3) := by decide +kernel
theorem dX1_has_12 : decode cX1_has 12 = .ok (.iconst 1, 1) := by decide +kernel
theorem dX1_has_13 : decode cX1_has 13 = .ok (.goto 4, 3) := by decide +kernel
theorem dX1_has_16 : decode cX1_has 16 = .ok (.iconst 0, 1) := by decide +kernel
theorem dX1_has_17 : decode cX1_has 17 = .ok (.ireturn, 1) := by decide +kernel
theorem dX1_add_0 : decode cX1_add 0 = .ok (.aload_n 0, 1) := by decide +kernel
theorem dX1_add_1 : decode cX1_add 1 = .ok (.getfield 22, 3) := by decide +kernel
theorem dX1_add_4 : decode cX1_add 4 = .ok (.bipush 30, 2) := by decide +kernel
theorem dX1_add_6 : decode cX1_add 6 = .ok (.if_icmp .lt 5, 3) := by decide +kernel
theorem dX1_add_9 : decode cX1_add 9 = .ok (.iconst (-1), 1) := by decide +kernel
theorem dX1_add_10 : decode cX1_add 10 = .ok (.ireturn, 1) := by decide +kernel
theorem dX1_add_11 : decode cX1_add 11 = .ok (.aload_n 0, 1) := by decide +kernel
theorem dX1_add_12 : decode cX1_add 12 = .ok (.getfield 9, 3) := by decide +kernel
theorem dX1_add_15 : decode cX1_add 15 = .ok (.aload_n 0, 1) := by decide +kernel
theorem dX1_add_16 : decode cX1_add 16 = .ok (.getfield 22, 3) := by decide +kernel
theorem dX1_add_19 : decode cX1_add 19 = .ok (.iload_n 1, 1) := by decide +kernel
theorem dX1_add_20 : decode cX1_add 20 = .ok (.iastore, 1) := by decide +kernel
theorem dX1_add_21 : decode cX1_add 21 = .ok (.aload_n 0, 1) := by decide +kernel
theorem dX1_add_22 : decode cX1_add 22 = .ok (.getfield 15, 3) := by decide +kernel
theorem dX1_add_25 : decode cX1_add 25 = .ok (.aload_n 0, 1) := by decide +kernel
theorem dX1_add_26 : decode cX1_add 26 = .ok (.getfield 22, 3) := by decide +kernel
theorem dX1_add_29 : decode cX1_add 29 = .ok (.iload_n 2, 1) := by decide +kernel
theorem dX1_add_30 : decode cX1_add 30 = .ok (.iastore, 1) := by decide +kernel
theorem dX1_add_31 : decode cX1_add 31 = .ok (.aload_n 0, 1) := by decide +kernel
theorem dX1_add_32 : decode cX1_add 32 = .ok (.getfield 18, 3) := by decide +kernel
theorem dX1_add_35 : decode cX1_add 35 = .ok (.aload_n 0, 1) := by decide +kernel
theorem dX1_add_36 : decode cX1_add 36 = .ok (.getfield 22, 3) := by decide +kernel
theorem dX1_add_39 : decode cX1_add 39 = .ok (.iload_n 3, 1) := by decide +kernel
theorem dX1_add_40 : decode cX1_add 40 = .ok (.bastore, 1) := by decide +kernel
theorem dX1_add_41 : decode cX1_add 41 = .ok (.aload_n 0, 1) := by decide +kernel
theorem dX1_add_42 : decode cX1_add 42 = .ok (.dup, 1) := by decide +kernel
theorem dX1_add_43 : decode cX1_add 43 = .ok (.getfield 22, 3) := by decide +kernel
theorem dX1_add_46 : decode cX1_add 46 = .ok (.iconst 1, 1) := by decide +kernel
theorem dX1_add_47 : decode cX1_add 47 = .ok (.iadd, 1) := by decide +kernel
theorem dX1_add_48 : decode cX1_add 48 = .ok (.putfield 22, 3) := by decide +kernel
theorem dX1_add_51 : decode cX1_add 51 = .ok (.aload_n 0, 1) := by decide +kernel
theorem dX1_add_52 : decode cX1_add 52 = .ok (.getfield 22, 3) := by decide +kernel
theorem dX1_add_55 : decode cX1_add 55 = .ok (.iconst 1, 1) := by decide +kernel
theorem dX1_add_56 : decode cX1_add 56 = .ok (.isub, 1) := by decide +kernel
theorem dX1_add_57 : decode cX1_add 57 = .ok (.ireturn, 1) := by decide +kernel
theorem dX1_putIn_0 : decode cX1_putIn 0 = .ok (.aload_n 0, 1) := by decide +kernel
theorem dX1_putIn_1 : decode cX1_putIn 1 = .ok (.iload_n 1, 1) := by decide +kernel
theorem dX1_putIn_2 : decode cX1_putIn 2 = .ok (.invokevirtual 26, 3) := by decide +kernel
theorem dX1_putIn_5 : decode cX1_putIn 5 = .ok (.ifCond .eq 10, 3) := by decide +kernel
theorem dX1_putIn_8 : decode cX1_putIn 8 = .ok (.aload_n 0, 1) := by decide +kernel
theorem dX1_putIn_9 : decode cX1_putIn 9 = .ok (.getfield 9, 3) := by decide +kernel
theorem dX1_putIn_12 : decode cX1_putIn 12 = .ok (.iload_n 1, 1) := by decide +kernel
theorem dX1_putIn_13 : decode cX1_putIn 13 = .ok (.iload_n 2, 1) := by decide +kernel
theorem dX1_putIn_14 : decode cX1_putIn 14 = .ok (.iastore, 1) := by decide +kernel
theorem dX1_putIn_15 : decode cX1_putIn 15 = .ok (.return_, 1) := by decide +kernel
theorem dX1_isInTree_0 : decode cX1_isInTree 0 = .ok (.iload_n 1, 1) := by decide +kernel
theorem dX1_isInTree_1 : decode cX1_isInTree 1 = .ok (.istore_n 3, 1) := by decide +kernel
theorem dX1_isInTree_2 : decode cX1_isInTree 2 = .ok (.iconst 0, 1) := by decide +kernel
theorem dX1_isInTree_3 : decode cX1_isInTree 3 = .ok (.istore 4, 2) := by decide +kernel
theorem dX1_isInTree_5 : decode cX1_isInTree 5 = .ok (.iload 4, 2) := by decide +kernel
theorem dX1_isInTree_7 : decode cX1_isInTree 7 = .ok (.bipush 30, 2) := by decide +kernel
theorem dX1_isInTree_9 : decode cX1_isInTree 9 = .ok (.if_icmp .ge 31, 3) := by decide +kernel
theorem dX1_isInTree_12 : decode cX1_isInTree 12 = .ok (.aload_n 0, 1) := by decide +kernel
theorem dX1_isInTree_13 : decode cX1_isInTree 13 = .ok (.iload_n 3, 1) := by decide +kernel
theorem dX1_isInTree_14 : decode cX1_isInTree 14 = .ok (.invokevirtual 26, 3) := by decide +kernel
theorem dX1_isInTree_17 : decode cX1_isInTree 17 = .ok (.ifCond .eq 23, 3) := by decide +kernel
theorem dX1_isInTree_20 : decode cX1_isInTree 20 = .ok (.iload_n 3, 1) := by decide +kernel
theorem dX1_isInTree_21 : decode cX1_isInTree 21 = .ok (.iload_n 2, 1) := by decide +kernel
theorem dX1_isInTree_22 : decode cX1_isInTree 22 = .ok (.if_icmp .ne 5, 3) := by decide +kernel
theorem dX1_isInTree_25 : decode cX1_isInTree 25 = .ok (.iconst 1, 1) := by decide +kernel
theorem dX1_isInTree_26 : decode cX1_isInTree 26 = .ok (.ireturn, 1) := by decide +kernel
theorem dX1_isInTree_27 : decode cX1_isInTree 27 = .ok (.aload_n 0, 1) := by decide +kernel
theorem dX1_isInTree_28 : decode cX1_isInTree 28 = .ok (.getfield 9, 3) := by decide +kernel
theorem dX1_isInTree_31 : decode cX1_isInTree 31 = .ok (.iload_n 3, 1) := by decide +kernel
theorem dX1_isInTree_32 : decode cX1_isInTree 32 = .ok (.iaload, 1) := by decide +kernel
theorem dX1_isInTree_33 : decode cX1_isInTree 33 = .ok (.istore_n 3, 1) := by decide +kernel
theorem dX1_isInTree_34 : decode cX1_isInTree 34 = .ok (.iinc 4 1, 3) := by decide +kernel
theorem dX1_isInTree_37 : decode cX1_isInTree 37 = .ok (.goto (-32), 3) := by decide +kernel
theorem dX1_isInTree_40 : decode cX1_isInTree 40 = .ok (.iconst 0, 1) := by decide +kernel
theorem dX1_isInTree_41 : decode cX1_isInTree 41 = .ok (.ireturn, 1) := by decide +kernel
theorem dX1_treeOf_0 : decode cX1_treeOf 0 = .ok (.iconst 0, 1) := by decide +kernel
theorem dX1_treeOf_1 : decode cX1_treeOf 1 = .ok (.istore_n 2, 1) := by decide +kernel
theorem dX1_treeOf_2 : decode cX1_treeOf 2 = .ok (.iconst 0, 1) := by decide +kernel
theorem dX1_treeOf_3 : decode cX1_treeOf 3 = .ok (.istore_n 3, 1) := by decide +kernel
theorem dX1_treeOf_4 : decode cX1_treeOf 4 = .ok (.iload_n 3, 1) := by decide +kernel
theorem dX1_treeOf_5 : decode cX1_treeOf 5 = .ok (.aload_n 0, 1) := by decide +kernel
theorem dX1_treeOf_6 : decode cX1_treeOf 6 = .ok (.getfield 22, 3) := by decide +kernel
theorem dX1_treeOf_9 : decode cX1_treeOf 9 = .ok (.if_icmp .ge 24, 3) := by decide +kernel
theorem dX1_treeOf_12 : decode cX1_treeOf 12 = .ok (.aload_n 0, 1) := by decide +kernel
theorem dX1_treeOf_13 : decode cX1_treeOf 13 = .ok (.iload_n 3, 1) := by decide +kernel
theorem dX1_treeOf_14 : decode cX1_treeOf 14 = .ok (.iload_n 1, 1) := by decide +kernel
theorem dX1_treeOf_15 : decode cX1_treeOf 15 = .ok (.invokevirtual 30, 3) := by decide +kernel
theorem dX1_treeOf_18 : decode cX1_treeOf 18 = .ok (.ifCond .eq 9, 3) := by decide +kernel
theorem dX1_treeOf_21 : decode cX1_treeOf 21 = .ok (.iload_n 2, 1) := by decide +kernel
theorem dX1_treeOf_22 : decode cX1_treeOf 22 = .ok (.iconst 1, 1) := by decide +kernel
theorem dX1_treeOf_23 : decode cX1_treeOf 23 = .ok (.iload_n 3, 1) := by decide +kernel
theorem dX1_treeOf_24 : decode cX1_treeOf 24 = .ok (.ishl, 1) := by decide +kernel
theorem dX1_treeOf_25 : decode cX1_treeOf 25 = .ok (.ior, 1) := by decide +kernel
theorem dX1_treeOf_26 : decode cX1_treeOf 26 = .ok (.istore_n 2, 1) := by decide +kernel
theorem dX1_treeOf_27 : decode cX1_treeOf 27 = .ok (.iinc 3 1, 3) := by decide +kernel
theorem dX1_treeOf_30 : decode cX1_treeOf 30 = .ok (.goto (-26), 3) := by decide +kernel
theorem dX1_treeOf_33 : decode cX1_treeOf 33 = .ok (.iload_n 2, 1) := by decide +kernel
theorem dX1_treeOf_34 : decode cX1_treeOf 34 = .ok (.ireturn, 1) := by decide +kernel
theorem dX1_isSeen_0 : decode cX1_isSeen 0 = .ok (.iload_n 1, 1) := by decide +kernel
theorem dX1_isSeen_1 : decode cX1_isSeen 1 = .ok (.istore_n 3, 1) := by decide +kernel
theorem dX1_isSeen_2 : decode cX1_isSeen 2 = .ok (.iconst 0, 1) := by decide +kernel
theorem dX1_isSeen_3 : decode cX1_isSeen 3 = .ok (.istore 4, 2) := by decide +kernel
theorem dX1_isSeen_5 : decode cX1_isSeen 5 = .ok (.iload 4, 2) := by decide +kernel
theorem dX1_isSeen_7 : decode cX1_isSeen 7 = .ok (.bipush 30, 2) := by decide +kernel
theorem dX1_isSeen_9 : decode cX1_isSeen 9 = .ok (.if_icmp .ge 45, 3) := by decide +kernel
theorem dX1_isSeen_12 : decode cX1_isSeen 12 = .ok (.aload_n 0, 1) := by decide +kernel
theorem dX1_isSeen_13 : decode cX1_isSeen 13 = .ok (.iload_n 3, 1) := by decide +kernel
theorem dX1_isSeen_14 : decode cX1_isSeen 14 = .ok (.invokevirtual 26, 3) := by decide +kernel
theorem dX1_isSeen_17 : decode cX1_isSeen 17 = .ok (.ifCond .eq 37, 3) := by decide +kernel
theorem dX1_isSeen_20 : decode cX1_isSeen 20 = .ok (.aload_n 0, 1) := by decide +kernel
theorem dX1_isSeen_21 : decode cX1_isSeen 21 = .ok (.getfield 18, 3) := by decide +kernel
theorem dX1_isSeen_24 : decode cX1_isSeen 24 = .ok (.iload_n 3, 1) := by decide +kernel
theorem dX1_isSeen_25 : decode cX1_isSeen 25 = .ok (.baload, 1) := by decide +kernel
theorem dX1_isSeen_26 : decode cX1_isSeen 26 = .ok (.ifCond .eq 15, 3) := by decide +kernel
theorem dX1_isSeen_29 : decode cX1_isSeen 29 = .ok (.aload_n 0, 1) := by decide +kernel
theorem dX1_isSeen_30 : decode cX1_isSeen 30 = .ok (.getfield 15, 3) := by decide +kernel
theorem dX1_isSeen_33 : decode cX1_isSeen 33 = .ok (.iload_n 3, 1) := by decide +kernel
theorem dX1_isSeen_34 : decode cX1_isSeen 34 = .ok (.iaload, 1) := by decide +kernel
theorem dX1_isSeen_35 : decode cX1_isSeen 35 = .ok (.iload_n 2, 1) := by decide +kernel
theorem dX1_isSeen_36 : decode cX1_isSeen 36 = .ok (.if_icmp .eq 5, 3) := by decide +kernel
theorem dX1_isSeen_39 : decode cX1_isSeen 39 = .ok (.iconst 0, 1) := by decide +kernel
theorem dX1_isSeen_40 : decode cX1_isSeen 40 = .ok (.ireturn, 1) := by decide +kernel
theorem dX1_isSeen_41 : decode cX1_isSeen 41 = .ok (.aload_n 0, 1) := by decide +kernel
theorem dX1_isSeen_42 : decode cX1_isSeen 42 = .ok (.getfield 9, 3) := by decide +kernel
theorem dX1_isSeen_45 : decode cX1_isSeen 45 = .ok (.iload_n 3, 1) := by decide +kernel
theorem dX1_isSeen_46 : decode cX1_isSeen 46 = .ok (.iaload, 1) := by decide +kernel
theorem dX1_isSeen_47 : decode cX1_isSeen 47 = .ok (.istore_n 3, 1) := by decide +kernel
theorem dX1_isSeen_48 : decode cX1_isSeen 48 = .ok (.iinc 4 1, 3) := by decide +kernel
theorem dX1_isSeen_51 : decode cX1_isSeen 51 = .ok (.goto (-46), 3) := by decide +kernel
theorem dX1_isSeen_54 : decode cX1_isSeen 54 = .ok (.iconst 1, 1) := by decide +kernel
theorem dX1_isSeen_55 : decode cX1_isSeen 55 = .ok (.ireturn, 1) := by decide +kernel
theorem dX1_maySum_0 : decode cX1_maySum 0 = .ok (.aload_n 0, 1) := by decide +kernel
theorem dX1_maySum_1 : decode cX1_maySum 1 = .ok (.iload_n 1, 1) := by decide +kernel
theorem dX1_maySum_2 : decode cX1_maySum 2 = .ok (.invokevirtual 26, 3) := by decide +kernel
theorem dX1_maySum_5 : decode cX1_maySum 5 = .ok (.ifCond .eq 30, 3) := by decide +kernel
theorem dX1_maySum_8 : decode cX1_maySum 8 = .ok (.aload_n 0, 1) := by decide +kernel
theorem dX1_maySum_9 : decode cX1_maySum 9 = .ok (.iload_n 1, 1) := by decide +kernel
theorem dX1_maySum_10 : decode cX1_maySum 10 = .ok (.iload_n 2, 1) := by decide +kernel
theorem dX1_maySum_11 : decode cX1_maySum 11 = .ok (.invokevirtual 34, 3) := by decide +kernel
theorem dX1_maySum_14 : decode cX1_maySum 14 = .ok (.ifCond .ne 17, 3) := by decide +kernel
theorem dX1_maySum_17 : decode cX1_maySum 17 = .ok (.aload_n 0, 1) := by decide +kernel
theorem dX1_maySum_18 : decode cX1_maySum 18 = .ok (.aload_n 0, 1) := by decide +kernel
theorem dX1_maySum_19 : decode cX1_maySum 19 = .ok (.getfield 9, 3) := by decide +kernel
theorem dX1_maySum_22 : decode cX1_maySum 22 = .ok (.iload_n 1, 1) := by decide +kernel
theorem dX1_maySum_23 : decode cX1_maySum 23 = .ok (.iaload, 1) := by decide +kernel
theorem dX1_maySum_24 : decode cX1_maySum 24 = .ok (.iload_n 2, 1) := by decide +kernel
theorem dX1_maySum_25 : decode cX1_maySum 25 = .ok (.invokevirtual 34, 3) := by decide +kernel
theorem dX1_maySum_28 : decode cX1_maySum 28 = .ok (.ifCond .eq 7, 3) := by decide +kernel
theorem dX1_maySum_31 : decode cX1_maySum 31 = .ok (.iconst 1, 1) := by decide +kernel
theorem dX1_maySum_32 : decode cX1_maySum 32 = .ok (.goto 4, 3) := by decide +kernel
theorem dX1_maySum_35 : decode cX1_maySum 35 = .ok (.iconst 0, 1) := by decide +kernel
theorem dX1_maySum_36 : decode cX1_maySum 36 = .ok (.ireturn, 1) := by decide +kernel
/-! Folders -/
def oFo (ad : AD) (nf : Nat) : va_E := eC 1 [.ref (ad 2), .ref (ad 3), .ref (ad 4), .int (nI nf)]
theorem anc_eq {pr : Nat → Nat} {n j t : Nat} (h : j = t) : anc pr n j t = true := by cases n <;> simp [anc, h]
theorem anc_0 {pr : Nat → Nat} {n t : Nat} (h : ¬ 0 = t) : anc pr n 0 t = false := by cases n <;> simp [anc, h]
theorem anc_s {pr : Nat → Nat} {n j t : Nat} (h : ¬ j = t) (h0 : j ≠ 0) : anc pr (n + 1) j t = anc pr n (pr j) t := by
  have e1 : (j == t) = false := by simpa using h
  have e2 : (j != 0) = true := by simpa using h0
  rw [anc, e1, e2]; simp
theorem parF_0 {pr : Nat → Nat} : parF pr 0 = -1 := rfl
theorem parF_s {pr : Nat → Nat} {j : Nat} (h : j ≠ 0) : parF pr j = nI (pr j) := by simp [parF, h]
theorem inN_m1 {n : Nat} : inN (-1) n = false := inN_no0 (by decide)
theorem okc_s {pr : Nat → Nat} {nf n j : Nat} (h : okc pr nf n j) (h0 : j ≠ 0) : ∃ m, n = m + 1 ∧ pr j < nf ∧ okc pr nf m (pr j) := by
  cases n with
  | zero => exact absurd h h0
  | succ m => rcases h with h | h; exact absurd h h0; exact ⟨m, rfl, h⟩
section FO
variable {l : Launch} {g : GG} {ad : AD} {C : CC} {nf : Nat} {pr : Nat → Nat} {par fow hid : Nat → Int32} {hd : Nat → Bool}
theorem k_X1_has {x : Int32} (f1 : C 1 = some (oFo ad nf)) (hn : nf ≤ 30) : Cr l g yX1_has cX1_has 2 (some .boolean) 1 [.ref (ad 1), .int x] ad C (.int (bI (inN x nf))) := by
  refine Ct_of [some (.ref (ad 1)), some (.int x)] (by decide) rfl rfl (Nat.le_of_ble_eq_true rfl) rfl rfl (fun X hX h => ?_)
  subst hX
  refine j_iload1 (pc := 0) h dX1_has_0 ?_
  refine j_if_lt (pc := 1) (tgt := 16) h dX1_has_1 (by decide) (fun c1 => ?_) (fun c1 => ?_)
  · refine j_iconst (pc := 16) h dX1_has_16 ic_0 ?_
    refine j_zretr (pc := 17) h dX1_has_17 (by decide) (bI_f (inN_no0 c1))
  · refine j_iload1 (pc := 4) h dX1_has_4 ?_
    refine j_aload0 (pc := 5) h dX1_has_5 ?_
    refine j_getf (pc := 6) h dX1_has_6 (f1) fl_X1_22 rfl ?_
    refine j_icmp_ge (pc := 9) (tgt := 16) h dX1_has_9 (by decide) (fun c9 => ?_) (fun c9 => ?_)
    · refine j_iconst (pc := 16) h dX1_has_16 ic_0 ?_
      refine j_zretr (pc := 17) h dX1_has_17 (by decide) (bI_f (inN_noN (by omega) c9))
    · refine j_iconst (pc := 12) h dX1_has_12 ic_1 ?_
      refine j_goto (pc := 13) (tgt := 17) h dX1_has_13 (by decide) ?_
      refine j_zretr (pc := 17) h dX1_has_17 (by decide) (bI_t (inN_yes (by omega) c1 c9))
theorem k_X1_isInTree {a t : Nat} (f1 : C 1 = some (oFo ad nf)) (f2 : C 2 = some (eI g 30 (parF pr))) (hn : nf ≤ 30) (ha : a < nf) (hok : okc pr nf 29 a) (ht : t < nf) : Cr l g yX1_isInTree cX1_isInTree 5 (some .boolean) 2 [.ref (ad 1), .int (nI a), .int (nI t)] ad C (.int (bI (anc pr 29 a t))) := by
  refine Ct_of [some (.ref (ad 1)), some (.int (nI a)), some (.int (nI t)), none, none] (by decide) rfl rfl (Nat.le_of_ble_eq_true rfl) rfl rfl (fun X hX h => ?_)
  subst hX
  have ex : ∀ s, s ≤ 30 → anc pr 29 a t = false → J X g 5 (QR X g ad C (.int (bI (anc pr 29 a t)))) 0 0 ad C 5 [some (.ref (ad 1)), some (.int (nI a)), some (.int (nI t)), some (.int (-1)), some (.int (nI s))] [] := by
    intro s hs hB
    refine j_iload4 (pc := 5) h dX1_isInTree_5 ?_
    refine j_bipush (pc := 7) h dX1_isInTree_7 bp_30 ?_
    refine j_icmp_ge (pc := 9) (tgt := 40) h dX1_isInTree_9 (by decide) (fun c9 => ?_) (fun c9 => ?_)
    · refine j_iconst (pc := 40) h dX1_isInTree_40 ic_0 ?_
      refine j_zretr (pc := 41) h dX1_isInTree_41 (by decide) (bI_f hB)
    · refine j_aload0 (pc := 12) h dX1_isInTree_12 ?_
      refine j_iload3 (pc := 13) h dX1_isInTree_13 ?_
      refine j_callVr (pc := 14) h dX1_isInTree_14 (k_X1_has f1 hn) mv_X1_26 (f1) rfl rfl (by decide) (Nat.le_of_ble_eq_true rfl) (Nat.le_of_ble_eq_true rfl) (Nat.le_of_ble_eq_true rfl) ?_
      refine j_if_eqB (pc := 17) (tgt := 40) h dX1_isInTree_17 (by decide) (fun c17 => ?_) (fun c17 => absurd c17 (by rw [inN_m1]; decide))
      refine j_iconst (pc := 40) h dX1_isInTree_40 ic_0 ?_
      refine j_zretr (pc := 41) h dX1_isInTree_41 (by decide) (bI_f hB)
  have lp : ∀ n s j, s + n + 1 ≤ 30 → okc pr nf n j → j < nf → anc pr n j t = anc pr 29 a t → J X g 5 (QR X g ad C (.int (bI (anc pr 29 a t)))) 0 0 ad C 5 [some (.ref (ad 1)), some (.int (nI a)), some (.int (nI t)), some (.int (nI j)), some (.int (nI s))] [] := by
    intro n
    induction n with
    | zero =>
      intro s j hs ho hj hB
      obtain rfl : j = 0 := ho
      refine j_iload4 (pc := 5) h dX1_isInTree_5 ?_
      refine j_bipush (pc := 7) h dX1_isInTree_7 bp_30 ?_
      refine j_icmp_ge (pc := 9) (tgt := 40) h dX1_isInTree_9 (by decide) (fun c9 => absurd c9 (nI_ge (by omega) (by omega))) (fun c9 => ?_)
      refine j_aload0 (pc := 12) h dX1_isInTree_12 ?_
      refine j_iload3 (pc := 13) h dX1_isInTree_13 ?_
      refine j_callVr (pc := 14) h dX1_isInTree_14 (k_X1_has f1 hn) mv_X1_26 (f1) rfl rfl (by decide) (Nat.le_of_ble_eq_true rfl) (Nat.le_of_ble_eq_true rfl) (Nat.le_of_ble_eq_true rfl) ?_
      refine j_if_eqB (pc := 17) (tgt := 40) h dX1_isInTree_17 (by decide) (fun c17 => absurd c17 (by rw [inN_nI (by omega)]; simp; omega)) (fun c17 => ?_)
      refine j_iload3 (pc := 20) h dX1_isInTree_20 ?_
      refine j_iload2 (pc := 21) h dX1_isInTree_21 ?_
      refine j_icmp_ne (pc := 22) (tgt := 27) h dX1_isInTree_22 (by decide) (fun c22 => ?_) (fun c22 => ?_)
      · refine j_aload0 (pc := 27) h dX1_isInTree_27 ?_
        refine j_getf (pc := 28) h dX1_isInTree_28 (f1) fl_X1_9 rfl ?_
        refine j_iload3 (pc := 31) h dX1_isInTree_31 ?_
        refine j_iald (pc := 32) h dX1_isInTree_32 (f2) (by omega) (by decide) ?_
        refine j_istore3 (pc := 33) h dX1_isInTree_33 rfl ?_
        refine j_iinc4 (pc := 34) h dX1_isInTree_34 rfl (inc_n _) ?_
        refine j_goto (pc := 37) (tgt := 5) h dX1_isInTree_37 (by decide) ?_
        exact ex (s + 1) (by omega) (by rw [← hB]; exact anc_0 (fun q => c22 (by rw [q])))
      · refine j_iconst (pc := 25) h dX1_isInTree_25 ic_1 ?_
        refine j_zretr (pc := 26) h dX1_isInTree_26 (by decide) (bI_t (by rw [← hB]; exact anc_eq (nI_inj c22 (by omega) (by omega))))
    | succ n ih =>
      intro s j hs ho hj hB
      refine j_iload4 (pc := 5) h dX1_isInTree_5 ?_
      refine j_bipush (pc := 7) h dX1_isInTree_7 bp_30 ?_
      refine j_icmp_ge (pc := 9) (tgt := 40) h dX1_isInTree_9 (by decide) (fun c9 => absurd c9 (nI_ge (by omega) (by omega))) (fun c9 => ?_)
      refine j_aload0 (pc := 12) h dX1_isInTree_12 ?_
      refine j_iload3 (pc := 13) h dX1_isInTree_13 ?_
      refine j_callVr (pc := 14) h dX1_isInTree_14 (k_X1_has f1 hn) mv_X1_26 (f1) rfl rfl (by decide) (Nat.le_of_ble_eq_true rfl) (Nat.le_of_ble_eq_true rfl) (Nat.le_of_ble_eq_true rfl) ?_
      refine j_if_eqB (pc := 17) (tgt := 40) h dX1_isInTree_17 (by decide) (fun c17 => absurd c17 (by rw [inN_nI (by omega)]; simp; omega)) (fun c17 => ?_)
      refine j_iload3 (pc := 20) h dX1_isInTree_20 ?_
      refine j_iload2 (pc := 21) h dX1_isInTree_21 ?_
      refine j_icmp_ne (pc := 22) (tgt := 27) h dX1_isInTree_22 (by decide) (fun c22 => ?_) (fun c22 => ?_)
      · by_cases h0 : j = 0
        · subst h0
          refine j_aload0 (pc := 27) h dX1_isInTree_27 ?_
          refine j_getf (pc := 28) h dX1_isInTree_28 (f1) fl_X1_9 rfl ?_
          refine j_iload3 (pc := 31) h dX1_isInTree_31 ?_
          refine j_iald (pc := 32) h dX1_isInTree_32 (f2) (by omega) (by decide) ?_
          refine j_istore3 (pc := 33) h dX1_isInTree_33 rfl ?_
          refine j_iinc4 (pc := 34) h dX1_isInTree_34 rfl (inc_n _) ?_
          refine j_goto (pc := 37) (tgt := 5) h dX1_isInTree_37 (by decide) ?_
          exact ex (s + 1) (by omega) (by rw [← hB]; exact anc_0 (fun q => c22 (by rw [q])))
        · obtain ⟨m, hm, h1, h2⟩ := okc_s ho h0
          obtain rfl : n = m := by omega
          refine j_aload0 (pc := 27) h dX1_isInTree_27 ?_
          refine j_getf (pc := 28) h dX1_isInTree_28 (f1) fl_X1_9 rfl ?_
          refine j_iload3 (pc := 31) h dX1_isInTree_31 ?_
          refine j_iald (pc := 32) h dX1_isInTree_32 (f2) (by omega) (by decide) ?_
          refine j_topi (parF_s h0) ?_
          refine j_istore3 (pc := 33) h dX1_isInTree_33 rfl ?_
          refine j_iinc4 (pc := 34) h dX1_isInTree_34 rfl (inc_n _) ?_
          refine j_goto (pc := 37) (tgt := 5) h dX1_isInTree_37 (by decide) ?_
          exact ih (s + 1) (pr j) (by omega) h2 h1 (by rw [← hB]; exact (anc_s (fun q => c22 (by rw [q])) h0).symm)
      · refine j_iconst (pc := 25) h dX1_isInTree_25 ic_1 ?_
        refine j_zretr (pc := 26) h dX1_isInTree_26 (by decide) (bI_t (by rw [← hB]; exact anc_eq (nI_inj c22 (by omega) (by omega))))
  refine j_iload1 (pc := 0) h dX1_isInTree_0 ?_
  refine j_istore3 (pc := 1) h dX1_isInTree_1 rfl ?_
  refine j_iconst (pc := 2) h dX1_isInTree_2 ic_0 ?_
  refine j_istore4 (pc := 3) h dX1_isInTree_3 rfl ?_
  exact lp 29 0 a (by omega) hok ha rfl
theorem k_X1_treeOf {t : Nat} (f1 : C 1 = some (oFo ad nf)) (f2 : C 2 = some (eI g 30 (parF pr))) (hn : nf ≤ 30) (hok : ∀ j, j < nf → okc pr nf 29 j) (ht : t < nf) : Cr l g yX1_treeOf cX1_treeOf 4 (some .int) 3 [.ref (ad 1), .int (nI t)] ad C (.int (bitsI (fun j => anc pr 29 j t) nf)) := by
  refine Ct_of [some (.ref (ad 1)), some (.int (nI t)), none, none] (by decide) rfl rfl (Nat.le_of_ble_eq_true rfl) rfl rfl (fun X hX h => ?_)
  subst hX
  have lp : ∀ m i, i + m = nf → J X g 4 (QR X g ad C (.int (bitsI (fun j => anc pr 29 j t) nf))) 0 0 ad C 4 [some (.ref (ad 1)), some (.int (nI t)), some (.int (bitsI (fun j => anc pr 29 j t) i)), some (.int (nI i))] [] := by
    intro m
    induction m with
    | zero =>
      intro i hi
      refine j_iload3 (pc := 4) h dX1_treeOf_4 ?_
      refine j_aload0 (pc := 5) h dX1_treeOf_5 ?_
      refine j_getf (pc := 6) h dX1_treeOf_6 (f1) fl_X1_22 rfl ?_
      refine j_icmp_ge (pc := 9) (tgt := 33) h dX1_treeOf_9 (by decide) (fun c9 => ?_) (fun c9 => absurd (nI_le (by omega) (by omega)) c9)
      refine j_iload2 (pc := 33) h dX1_treeOf_33 ?_
      refine j_iretr (pc := 34) h dX1_treeOf_34 (by rw [show i = nf by omega])
    | succ m ih =>
      intro i hi
      refine j_iload3 (pc := 4) h dX1_treeOf_4 ?_
      refine j_aload0 (pc := 5) h dX1_treeOf_5 ?_
      refine j_getf (pc := 6) h dX1_treeOf_6 (f1) fl_X1_22 rfl ?_
      refine j_icmp_ge (pc := 9) (tgt := 33) h dX1_treeOf_9 (by decide) (fun c9 => absurd c9 (nI_ge (by omega) (by omega))) (fun c9 => ?_)
      refine j_aload0 (pc := 12) h dX1_treeOf_12 ?_
      refine j_iload3 (pc := 13) h dX1_treeOf_13 ?_
      refine j_iload1 (pc := 14) h dX1_treeOf_14 ?_
      refine j_callVr (pc := 15) h dX1_treeOf_15 (k_X1_isInTree f1 f2 hn (by omega) (hok i (by omega)) ht) mv_X1_30 (f1) rfl rfl (by decide) (Nat.le_of_ble_eq_true rfl) (Nat.le_of_ble_eq_true rfl) (Nat.le_of_ble_eq_true rfl) ?_
      refine j_if_eqB (pc := 18) (tgt := 27) h dX1_treeOf_18 (by decide) (fun c18 => ?_) (fun c18 => ?_)
      · refine j_iinc3 (pc := 27) h dX1_treeOf_27 rfl (inc_n _) ?_
        refine j_goto (pc := 30) (tgt := 4) h dX1_treeOf_30 (by decide) ?_
        rw [show bitsI (fun j => anc pr 29 j t) i = bitsI (fun j => anc pr 29 j t) (i + 1) from by rw [bitsI, if_neg (by rw [c18]; decide)]]
        exact ih (i + 1) (by omega)
      · refine j_iload2 (pc := 21) h dX1_treeOf_21 ?_
        refine j_iconst (pc := 22) h dX1_treeOf_22 ic_1 ?_
        refine j_iload3 (pc := 23) h dX1_treeOf_23 ?_
        refine j_ishl (pc := 24) h dX1_treeOf_24 ?_
        refine j_ior (pc := 25) h dX1_treeOf_25 ?_
        refine j_istore2 (pc := 26) h dX1_treeOf_26 rfl ?_
        refine j_iinc3 (pc := 27) h dX1_treeOf_27 rfl (inc_n _) ?_
        refine j_goto (pc := 30) (tgt := 4) h dX1_treeOf_30 (by decide) ?_
        rw [show bitsI (fun j => anc pr 29 j t) i ||| (nI 1 <<< (nI i &&& 31)) = bitsI (fun j => anc pr 29 j t) (i + 1) from by rw [bitsI, if_pos c18]]
        exact ih (i + 1) (by omega)
  refine j_iconst (pc := 0) h dX1_treeOf_0 ic_0 ?_
  refine j_istore2 (pc := 1) h dX1_treeOf_1 rfl ?_
  refine j_iconst (pc := 2) h dX1_treeOf_2 ic_0 ?_
  refine j_istore3 (pc := 3) h dX1_treeOf_3 rfl ?_
  exact lp nf 0 (by omega)
theorem k_X1_isSeen_m1 {who : Int32} (f1 : C 1 = some (oFo ad nf)) (hn : nf ≤ 30) : Cr l g yX1_isSeen cX1_isSeen 5 (some .boolean) 2 [.ref (ad 1), .int (-1), .int who] ad C (.int (bI true)) := by
  refine Ct_of [some (.ref (ad 1)), some (.int (-1)), some (.int who), none, none] (by decide) rfl rfl (Nat.le_of_ble_eq_true rfl) rfl rfl (fun X hX h => ?_)
  subst hX
  refine j_iload1 (pc := 0) h dX1_isSeen_0 ?_
  refine j_istore3 (pc := 1) h dX1_isSeen_1 rfl ?_
  refine j_iconst (pc := 2) h dX1_isSeen_2 ic_0 ?_
  refine j_istore4 (pc := 3) h dX1_isSeen_3 rfl ?_
  refine j_iload4 (pc := 5) h dX1_isSeen_5 ?_
  refine j_bipush (pc := 7) h dX1_isSeen_7 bp_30 ?_
  refine j_icmp_ge (pc := 9) (tgt := 54) h dX1_isSeen_9 (by decide) (fun c9 => absurd c9 (nI_ge (by omega) (by omega))) (fun c9 => ?_)
  refine j_aload0 (pc := 12) h dX1_isSeen_12 ?_
  refine j_iload3 (pc := 13) h dX1_isSeen_13 ?_
  refine j_callVr (pc := 14) h dX1_isSeen_14 (k_X1_has f1 hn) mv_X1_26 (f1) rfl rfl (by decide) (Nat.le_of_ble_eq_true rfl) (Nat.le_of_ble_eq_true rfl) (Nat.le_of_ble_eq_true rfl) ?_
  refine j_if_eqB (pc := 17) (tgt := 54) h dX1_isSeen_17 (by decide) (fun c17 => ?_) (fun c17 => absurd c17 (by rw [inN_m1]; decide))
  refine j_iconst (pc := 54) h dX1_isSeen_54 ic_1 ?_
  refine j_zretr (pc := 55) h dX1_isSeen_55 (by decide) (rfl)
theorem k_X1_isSeen {a : Nat} {who : Int32} (f1 : C 1 = some (oFo ad nf)) (f2 : C 2 = some (eI g 30 (parF pr))) (f3 : C 3 = some (eI g 30 fow)) (f4 : C 4 = some (eZ g 30 (bF hd))) (hn : nf ≤ 30) (ha : a < nf) (hok : okc pr nf 29 a) : Cr l g yX1_isSeen cX1_isSeen 5 (some .boolean) 2 [.ref (ad 1), .int (nI a), .int who] ad C (.int (bI (sees pr hd fow who 29 a))) := by
  refine Ct_of [some (.ref (ad 1)), some (.int (nI a)), some (.int who), none, none] (by decide) rfl rfl (Nat.le_of_ble_eq_true rfl) rfl rfl (fun X hX h => ?_)
  subst hX
  have ex : ∀ s, s ≤ 30 → sees pr hd fow who 29 a = true → J X g 5 (QR X g ad C (.int (bI (sees pr hd fow who 29 a)))) 0 0 ad C 5 [some (.ref (ad 1)), some (.int (nI a)), some (.int who), some (.int (-1)), some (.int (nI s))] [] := by
    intro s hs hB
    refine j_iload4 (pc := 5) h dX1_isSeen_5 ?_
    refine j_bipush (pc := 7) h dX1_isSeen_7 bp_30 ?_
    refine j_icmp_ge (pc := 9) (tgt := 54) h dX1_isSeen_9 (by decide) (fun c9 => ?_) (fun c9 => ?_)
    · refine j_iconst (pc := 54) h dX1_isSeen_54 ic_1 ?_
      refine j_zretr (pc := 55) h dX1_isSeen_55 (by decide) (bI_t hB)
    · refine j_aload0 (pc := 12) h dX1_isSeen_12 ?_
      refine j_iload3 (pc := 13) h dX1_isSeen_13 ?_
      refine j_callVr (pc := 14) h dX1_isSeen_14 (k_X1_has f1 hn) mv_X1_26 (f1) rfl rfl (by decide) (Nat.le_of_ble_eq_true rfl) (Nat.le_of_ble_eq_true rfl) (Nat.le_of_ble_eq_true rfl) ?_
      refine j_if_eqB (pc := 17) (tgt := 54) h dX1_isSeen_17 (by decide) (fun c17 => ?_) (fun c17 => absurd c17 (by rw [inN_m1]; decide))
      refine j_iconst (pc := 54) h dX1_isSeen_54 ic_1 ?_
      refine j_zretr (pc := 55) h dX1_isSeen_55 (by decide) (bI_t hB)
  have lp : ∀ n s j, s + n + 1 ≤ 30 → okc pr nf n j → j < nf → sees pr hd fow who n j = sees pr hd fow who 29 a → J X g 5 (QR X g ad C (.int (bI (sees pr hd fow who 29 a)))) 0 0 ad C 5 [some (.ref (ad 1)), some (.int (nI a)), some (.int who), some (.int (nI j)), some (.int (nI s))] [] := by
    intro n
    induction n with
    | zero =>
      intro s j hs ho hj hB
      obtain rfl : j = 0 := ho
      have nx : (hd 0 && fow 0 != who) = false → J X g 5 (QR X g ad C (.int (bI (sees pr hd fow who 29 a)))) 0 0 ad C 41 [some (.ref (ad 1)), some (.int (nI a)), some (.int who), some (.int (nI 0)), some (.int (nI s))] [] := by
        intro hq
        refine j_aload0 (pc := 41) h dX1_isSeen_41 ?_
        refine j_getf (pc := 42) h dX1_isSeen_42 (f1) fl_X1_9 rfl ?_
        refine j_iload3 (pc := 45) h dX1_isSeen_45 ?_
        refine j_iald (pc := 46) h dX1_isSeen_46 (f2) (by omega) (by decide) ?_
        refine j_istore3 (pc := 47) h dX1_isSeen_47 rfl ?_
        refine j_iinc4 (pc := 48) h dX1_isSeen_48 rfl (inc_n _) ?_
        refine j_goto (pc := 51) (tgt := 5) h dX1_isSeen_51 (by decide) ?_
        exact ex (s + 1) (by omega) (by rw [← hB, sees, hq]; rfl)
      refine j_iload4 (pc := 5) h dX1_isSeen_5 ?_
      refine j_bipush (pc := 7) h dX1_isSeen_7 bp_30 ?_
      refine j_icmp_ge (pc := 9) (tgt := 54) h dX1_isSeen_9 (by decide) (fun c9 => absurd c9 (nI_ge (by omega) (by omega))) (fun c9 => ?_)
      refine j_aload0 (pc := 12) h dX1_isSeen_12 ?_
      refine j_iload3 (pc := 13) h dX1_isSeen_13 ?_
      refine j_callVr (pc := 14) h dX1_isSeen_14 (k_X1_has f1 hn) mv_X1_26 (f1) rfl rfl (by decide) (Nat.le_of_ble_eq_true rfl) (Nat.le_of_ble_eq_true rfl) (Nat.le_of_ble_eq_true rfl) ?_
      refine j_if_eqB (pc := 17) (tgt := 54) h dX1_isSeen_17 (by decide) (fun c17 => absurd c17 (by rw [inN_nI (by omega)]; simp; omega)) (fun c17 => ?_)
      refine j_aload0 (pc := 20) h dX1_isSeen_20 ?_
      refine j_getf (pc := 21) h dX1_isSeen_21 (f1) fl_X1_18 rfl ?_
      refine j_iload3 (pc := 24) h dX1_isSeen_24 ?_
      refine j_zald (pc := 25) h dX1_isSeen_25 (f4) (by omega) (by decide) ?_
      refine j_if_eq (pc := 26) (tgt := 41) h dX1_isSeen_26 (by decide) (fun c26 => ?_) (fun c26 => ?_)
      · exact nx (by rw [bI_0.mp c26]; rfl)
      · have hh : hd 0 = true := by cases q : hd 0 with | true => rfl | false => exact absurd (show bI (hd 0) = 0 by rw [q]; rfl) c26
        refine j_aload0 (pc := 29) h dX1_isSeen_29 ?_
        refine j_getf (pc := 30) h dX1_isSeen_30 (f1) fl_X1_15 rfl ?_
        refine j_iload3 (pc := 33) h dX1_isSeen_33 ?_
        refine j_iald (pc := 34) h dX1_isSeen_34 (f3) (by omega) (by decide) ?_
        refine j_iload2 (pc := 35) h dX1_isSeen_35 ?_
        refine j_icmp_eq (pc := 36) (tgt := 41) h dX1_isSeen_36 (by decide) (fun c36 => ?_) (fun c36 => ?_)
        · exact nx (by simp [c36])
        · refine j_iconst (pc := 39) h dX1_isSeen_39 ic_0 ?_
          refine j_zretr (pc := 40) h dX1_isSeen_40 (by decide) (bI_f (by rw [← hB, sees, hh]; simp [c36]))
    | succ n ih =>
      intro s j hs ho hj hB
      have nx : (hd j && fow j != who) = false → J X g 5 (QR X g ad C (.int (bI (sees pr hd fow who 29 a)))) 0 0 ad C 41 [some (.ref (ad 1)), some (.int (nI a)), some (.int who), some (.int (nI j)), some (.int (nI s))] [] := by
        intro hq
        by_cases h0 : j = 0
        · subst h0
          refine j_aload0 (pc := 41) h dX1_isSeen_41 ?_
          refine j_getf (pc := 42) h dX1_isSeen_42 (f1) fl_X1_9 rfl ?_
          refine j_iload3 (pc := 45) h dX1_isSeen_45 ?_
          refine j_iald (pc := 46) h dX1_isSeen_46 (f2) (by omega) (by decide) ?_
          refine j_istore3 (pc := 47) h dX1_isSeen_47 rfl ?_
          refine j_iinc4 (pc := 48) h dX1_isSeen_48 rfl (inc_n _) ?_
          refine j_goto (pc := 51) (tgt := 5) h dX1_isSeen_51 (by decide) ?_
          exact ex (s + 1) (by omega) (by rw [← hB, sees, hq]; rfl)
        · obtain ⟨m, hm, h1, h2⟩ := okc_s ho h0
          obtain rfl : n = m := by omega
          refine j_aload0 (pc := 41) h dX1_isSeen_41 ?_
          refine j_getf (pc := 42) h dX1_isSeen_42 (f1) fl_X1_9 rfl ?_
          refine j_iload3 (pc := 45) h dX1_isSeen_45 ?_
          refine j_iald (pc := 46) h dX1_isSeen_46 (f2) (by omega) (by decide) ?_
          refine j_topi (parF_s h0) ?_
          refine j_istore3 (pc := 47) h dX1_isSeen_47 rfl ?_
          refine j_iinc4 (pc := 48) h dX1_isSeen_48 rfl (inc_n _) ?_
          refine j_goto (pc := 51) (tgt := 5) h dX1_isSeen_51 (by decide) ?_
          exact ih (s + 1) (pr j) (by omega) h2 h1 (by rw [← hB, sees, hq]; simp [h0])
      refine j_iload4 (pc := 5) h dX1_isSeen_5 ?_
      refine j_bipush (pc := 7) h dX1_isSeen_7 bp_30 ?_
      refine j_icmp_ge (pc := 9) (tgt := 54) h dX1_isSeen_9 (by decide) (fun c9 => absurd c9 (nI_ge (by omega) (by omega))) (fun c9 => ?_)
      refine j_aload0 (pc := 12) h dX1_isSeen_12 ?_
      refine j_iload3 (pc := 13) h dX1_isSeen_13 ?_
      refine j_callVr (pc := 14) h dX1_isSeen_14 (k_X1_has f1 hn) mv_X1_26 (f1) rfl rfl (by decide) (Nat.le_of_ble_eq_true rfl) (Nat.le_of_ble_eq_true rfl) (Nat.le_of_ble_eq_true rfl) ?_
      refine j_if_eqB (pc := 17) (tgt := 54) h dX1_isSeen_17 (by decide) (fun c17 => absurd c17 (by rw [inN_nI (by omega)]; simp; omega)) (fun c17 => ?_)
      refine j_aload0 (pc := 20) h dX1_isSeen_20 ?_
      refine j_getf (pc := 21) h dX1_isSeen_21 (f1) fl_X1_18 rfl ?_
      refine j_iload3 (pc := 24) h dX1_isSeen_24 ?_
      refine j_zald (pc := 25) h dX1_isSeen_25 (f4) (by omega) (by decide) ?_
      refine j_if_eq (pc := 26) (tgt := 41) h dX1_isSeen_26 (by decide) (fun c26 => ?_) (fun c26 => ?_)
      · exact nx (by rw [bI_0.mp c26]; rfl)
      · have hh : hd j = true := by cases q : hd j with | true => rfl | false => exact absurd (show bI (hd j) = 0 by rw [q]; rfl) c26
        refine j_aload0 (pc := 29) h dX1_isSeen_29 ?_
        refine j_getf (pc := 30) h dX1_isSeen_30 (f1) fl_X1_15 rfl ?_
        refine j_iload3 (pc := 33) h dX1_isSeen_33 ?_
        refine j_iald (pc := 34) h dX1_isSeen_34 (f3) (by omega) (by decide) ?_
        refine j_iload2 (pc := 35) h dX1_isSeen_35 ?_
        refine j_icmp_eq (pc := 36) (tgt := 41) h dX1_isSeen_36 (by decide) (fun c36 => ?_) (fun c36 => ?_)
        · exact nx (by simp [c36])
        · refine j_iconst (pc := 39) h dX1_isSeen_39 ic_0 ?_
          refine j_zretr (pc := 40) h dX1_isSeen_40 (by decide) (bI_f (by rw [← hB, sees, hh]; simp [c36]))
  refine j_iload1 (pc := 0) h dX1_isSeen_0 ?_
  refine j_istore3 (pc := 1) h dX1_isSeen_1 rfl ?_
  refine j_iconst (pc := 2) h dX1_isSeen_2 ic_0 ?_
  refine j_istore4 (pc := 3) h dX1_isSeen_3 rfl ?_
  exact lp 29 0 a (by omega) hok ha rfl
theorem k_X1_maySum {a : Nat} {who : Int32} (f1 : C 1 = some (oFo ad nf)) (f2 : C 2 = some (eI g 30 (parF pr))) (f3 : C 3 = some (eI g 30 fow)) (f4 : C 4 = some (eZ g 30 (bF hd))) (hn : nf ≤ 30) (ha : a < nf) (hok : ∀ j, j < nf → okc pr nf 29 j) (hpr : ∀ j, j < nf → j ≠ 0 → pr j < nf) : Cr l g yX1_maySum cX1_maySum 3 (some .boolean) 3 [.ref (ad 1), .int (nI a), .int who] ad C (.int (bI (sees pr hd fow who 29 a || (a == 0 || sees pr hd fow who 29 (pr a))))) := by
  refine Ct_of [some (.ref (ad 1)), some (.int (nI a)), some (.int who)] (by decide) rfl rfl (Nat.le_of_ble_eq_true rfl) rfl rfl (fun X hX h => ?_)
  subst hX
  refine j_aload0 (pc := 0) h dX1_maySum_0 ?_
  refine j_iload1 (pc := 1) h dX1_maySum_1 ?_
  refine j_callVr (pc := 2) h dX1_maySum_2 (k_X1_has f1 hn) mv_X1_26 (f1) rfl rfl (by decide) (Nat.le_of_ble_eq_true rfl) (Nat.le_of_ble_eq_true rfl) (Nat.le_of_ble_eq_true rfl) ?_
  refine j_if_eqB (pc := 5) (tgt := 35) h dX1_maySum_5 (by decide) (fun c5 => absurd c5 (by rw [inN_nI (by omega)]; simpa using ha)) (fun c5 => ?_)
  refine j_aload0 (pc := 8) h dX1_maySum_8 ?_
  refine j_iload1 (pc := 9) h dX1_maySum_9 ?_
  refine j_iload2 (pc := 10) h dX1_maySum_10 ?_
  refine j_callVr (pc := 11) h dX1_maySum_11 (k_X1_isSeen f1 f2 f3 f4 hn ha (hok a ha)) mv_X1_34 (f1) rfl rfl (by decide) (Nat.le_of_ble_eq_true rfl) (Nat.le_of_ble_eq_true rfl) (Nat.le_of_ble_eq_true rfl) ?_
  refine j_if_neB (pc := 14) (tgt := 31) h dX1_maySum_14 (by decide) (fun c14 => ?_) (fun c14 => ?_)
  · refine j_iconst (pc := 31) h dX1_maySum_31 ic_1 ?_
    refine j_goto (pc := 32) (tgt := 36) h dX1_maySum_32 (by decide) ?_
    refine j_zretr (pc := 36) h dX1_maySum_36 (by decide) (bI_t (by rw [c14]; rfl))
  · by_cases h0 : a = 0
    · subst h0
      refine j_aload0 (pc := 17) h dX1_maySum_17 ?_
      refine j_aload0 (pc := 18) h dX1_maySum_18 ?_
      refine j_getf (pc := 19) h dX1_maySum_19 (f1) fl_X1_9 rfl ?_
      refine j_iload1 (pc := 22) h dX1_maySum_22 ?_
      refine j_iald (pc := 23) h dX1_maySum_23 (f2) (by omega) (by decide) ?_
      refine j_iload2 (pc := 24) h dX1_maySum_24 ?_
      refine j_callVr (pc := 25) h dX1_maySum_25 (k_X1_isSeen_m1 f1 hn) mv_X1_34 (f1) rfl rfl (by decide) (Nat.le_of_ble_eq_true rfl) (Nat.le_of_ble_eq_true rfl) (Nat.le_of_ble_eq_true rfl) ?_
      refine j_if_eqB (pc := 28) (tgt := 35) h dX1_maySum_28 (by decide) (fun c28 => absurd c28 (by decide)) (fun c28 => ?_)
      refine j_iconst (pc := 31) h dX1_maySum_31 ic_1 ?_
      refine j_goto (pc := 32) (tgt := 36) h dX1_maySum_32 (by decide) ?_
      refine j_zretr (pc := 36) h dX1_maySum_36 (by decide) (bI_t (by simp))
    · have h1 := hpr a ha h0
      refine j_aload0 (pc := 17) h dX1_maySum_17 ?_
      refine j_aload0 (pc := 18) h dX1_maySum_18 ?_
      refine j_getf (pc := 19) h dX1_maySum_19 (f1) fl_X1_9 rfl ?_
      refine j_iload1 (pc := 22) h dX1_maySum_22 ?_
      refine j_iald (pc := 23) h dX1_maySum_23 (f2) (by omega) (by decide) ?_
      refine j_topi (parF_s h0) ?_
      refine j_iload2 (pc := 24) h dX1_maySum_24 ?_
      refine j_callVr (pc := 25) h dX1_maySum_25 (k_X1_isSeen f1 f2 f3 f4 hn h1 (hok _ h1)) mv_X1_34 (f1) rfl rfl (by decide) (Nat.le_of_ble_eq_true rfl) (Nat.le_of_ble_eq_true rfl) (Nat.le_of_ble_eq_true rfl) ?_
      refine j_if_eqB (pc := 28) (tgt := 35) h dX1_maySum_28 (by decide) (fun c28 => ?_) (fun c28 => ?_)
      · refine j_iconst (pc := 35) h dX1_maySum_35 ic_0 ?_
        refine j_zretr (pc := 36) h dX1_maySum_36 (by decide) (bI_f (by rw [c14, c28]; simp [h0]))
      · refine j_iconst (pc := 31) h dX1_maySum_31 ic_1 ?_
        refine j_goto (pc := 32) (tgt := 36) h dX1_maySum_32 (by decide) ?_
        refine j_zretr (pc := 36) h dX1_maySum_36 (by decide) (bI_t (by rw [c28]; simp))
theorem k_X1_add {x y : Int32} {b : Bool} (f1 : C 1 = some (oFo ad nf)) (f2 : C 2 = some (eI g 30 par)) (f3 : C 3 = some (eI g 30 fow)) (f4 : C 4 = some (eZ g 30 hid)) (hn : nf < 30) : Cw l g yX1_add cX1_add 4 (some .int) 1 [.ref (ad 1), .int x, .int y, .int (bI b)] ad C (some (.int (nI nf))) (va_up (va_up (va_up (va_up C 2 (some (eI g 30 (upd par nf x)))) 3 (some (eI g 30 (upd fow nf y)))) 4 (some (eZ g 30 (upd hid nf (bI b))))) 1 (some (oFo ad (nf + 1)))) := by
  refine Ct_of [some (.ref (ad 1)), some (.int x), some (.int y), some (.int (bI b))] (by decide) rfl rfl (Nat.le_of_ble_eq_true rfl) rfl rfl (fun X hX h => ?_)
  subst hX
  refine j_aload0 (pc := 0) h dX1_add_0 ?_
  refine j_getf (pc := 1) h dX1_add_1 (f1) fl_X1_22 rfl ?_
  refine j_bipush (pc := 4) h dX1_add_4 bp_30 ?_
  refine j_icmp_lt (pc := 6) (tgt := 11) h dX1_add_6 (by decide) (fun c6 => ?_) (fun c6 => absurd (nI_lt (by omega) (by omega)) c6)
  refine j_aload0 (pc := 11) h dX1_add_11 ?_
  refine j_getf (pc := 12) h dX1_add_12 (f1) fl_X1_9 rfl ?_
  refine j_aload0 (pc := 15) h dX1_add_15 ?_
  refine j_getf (pc := 16) h dX1_add_16 (f1) fl_X1_22 rfl ?_
  refine j_iload1 (pc := 19) h dX1_add_19 ?_
  refine j_iast (pc := 20) h dX1_add_20 (f2) (by omega) (by decide) ?_
  refine j_aload0 (pc := 21) h dX1_add_21 ?_
  refine j_getf (pc := 22) h dX1_add_22 (f1) fl_X1_15 rfl ?_
  refine j_aload0 (pc := 25) h dX1_add_25 ?_
  refine j_getf (pc := 26) h dX1_add_26 (f1) fl_X1_22 rfl ?_
  refine j_iload2 (pc := 29) h dX1_add_29 ?_
  refine j_iast (pc := 30) h dX1_add_30 (f3) (by omega) (by decide) ?_
  refine j_aload0 (pc := 31) h dX1_add_31 ?_
  refine j_getf (pc := 32) h dX1_add_32 (f1) fl_X1_18 rfl ?_
  refine j_aload0 (pc := 35) h dX1_add_35 ?_
  refine j_getf (pc := 36) h dX1_add_36 (f1) fl_X1_22 rfl ?_
  refine j_iload3 (pc := 39) h dX1_add_39 ?_
  refine j_zast (pc := 40) h dX1_add_40 (f4) (by omega) (by decide) (bI_nar b) ?_
  refine j_aload0 (pc := 41) h dX1_add_41 ?_
  refine j_dupR (pc := 42) h dX1_add_42 ?_
  refine j_getf (pc := 43) h dX1_add_43 (f1) fl_X1_22 rfl ?_
  refine j_iconst (pc := 46) h dX1_add_46 ic_1 ?_
  refine j_iaddN (pc := 47) h dX1_add_47 ?_
  refine j_putv (pc := 48) h dX1_add_48 (f1) pl_X1_22 rfl rfl (Nat.le_of_ble_eq_true rfl) ?_
  refine j_aload0 (pc := 51) h dX1_add_51 ?_
  refine j_getf (pc := 52) h dX1_add_52 (rfl) fl_X1_22 rfl ?_
  refine j_iconst (pc := 55) h dX1_add_55 ic_1 ?_
  refine j_isubN (pc := 56) h dX1_add_56 (by omega) ?_
  refine j_iret (pc := 57) h dX1_add_57 (⟨rfl, rfl, rfl⟩)
theorem k_X1_add_no {x y z : Int32} (f1 : C 1 = some (oFo ad nf)) (hn : nf = 30) : Cr l g yX1_add cX1_add 4 (some .int) 1 [.ref (ad 1), .int x, .int y, .int z] ad C (.int (-1)) := by
  refine Ct_of [some (.ref (ad 1)), some (.int x), some (.int y), some (.int z)] (by decide) rfl rfl (Nat.le_of_ble_eq_true rfl) rfl rfl (fun X hX h => ?_)
  subst hX
  refine j_aload0 (pc := 0) h dX1_add_0 ?_
  refine j_getf (pc := 1) h dX1_add_1 (f1) fl_X1_22 rfl ?_
  refine j_bipush (pc := 4) h dX1_add_4 bp_30 ?_
  refine j_icmp_lt (pc := 6) (tgt := 11) h dX1_add_6 (by decide) (fun c6 => absurd c6 (nI_nlt (by omega) (by omega))) (fun c6 => ?_)
  refine j_iconst (pc := 9) h dX1_add_9 ic_m1 ?_
  refine j_iretr (pc := 10) h dX1_add_10 (rfl)
theorem k_X1_putIn {a : Nat} {y : Int32} (f1 : C 1 = some (oFo ad nf)) (f2 : C 2 = some (eI g 30 par)) (hn : nf ≤ 30) (ha : a < nf) : Cw l g yX1_putIn cX1_putIn 3 none 2 [.ref (ad 1), .int (nI a), .int y] ad C none (va_up C 2 (some (eI g 30 (upd par a y)))) := by
  refine Ct_of [some (.ref (ad 1)), some (.int (nI a)), some (.int y)] (by decide) rfl rfl (Nat.le_of_ble_eq_true rfl) rfl rfl (fun X hX h => ?_)
  subst hX
  refine j_aload0 (pc := 0) h dX1_putIn_0 ?_
  refine j_iload1 (pc := 1) h dX1_putIn_1 ?_
  refine j_callVr (pc := 2) h dX1_putIn_2 (k_X1_has f1 hn) mv_X1_26 (f1) rfl rfl (by decide) (Nat.le_of_ble_eq_true rfl) (Nat.le_of_ble_eq_true rfl) (Nat.le_of_ble_eq_true rfl) ?_
  refine j_if_eqB (pc := 5) (tgt := 15) h dX1_putIn_5 (by decide) (fun c5 => absurd c5 (by rw [inN_nI (by omega)]; simpa using ha)) (fun c5 => ?_)
  refine j_aload0 (pc := 8) h dX1_putIn_8 ?_
  refine j_getf (pc := 9) h dX1_putIn_9 (f1) fl_X1_9 rfl ?_
  refine j_iload1 (pc := 12) h dX1_putIn_12 ?_
  refine j_iload2 (pc := 13) h dX1_putIn_13 ?_
  refine j_iast (pc := 14) h dX1_putIn_14 (f2) (by omega) (by decide) ?_
  refine j_vret (pc := 15) h dX1_putIn_15 (⟨rfl, rfl, rfl⟩)
end FO
end
section
theorem dX5_init_0 : decode cX5_init 0 = .ok (.aload_n 0, 1) := by decide +kernel
theorem dX5_init_1 : decode cX5_init 1 = .ok (.invokespecial 3, 3) := by decide +kernel
theorem dX5_init_4 : decode cX5_init 4 = .ok (.aload_n 0, 1) := by decide +kernel
theorem dX5_init_5 : decode cX5_init 5 = .ok (.bipush 8, 2) := by decide +kernel
theorem dX5_init_7 : decode cX5_init 7 = .ok (.newarray .boolean, 2) := by decide +kernel
theorem dX5_init_9 : decode cX5_init 9 = .ok (.putfield 9, 3) := by decide +kernel
theorem dX5_init_12 : decode cX5_init 12 = .ok (.aload_n 0, 1) := by decide +kernel
theorem dX5_init_13 : decode cX5_init 13 = .ok (.bipush 8, 2) := by decide +kernel
theorem dX5_init_15 : decode cX5_init 15 = .ok (.newarray .long, 2) := by decide +kernel
theorem dX5_init_17 : decode cX5_init 17 = .ok (.putfield 15, 3) := by decide +kernel
theorem dX5_init_20 : decode cX5_init 20 = .ok (.return_, 1) := by decide +kernel
theorem dX5_has_0 : decode cX5_has 0 = .ok (.iload_n 1, 1) := by decide +kernel
theorem dX5_has_1 : decode cX5_has 1 = .ok (.ifCond .lt 22, 3) := by decide +kernel
theorem dX5_has_4 : decode cX5_has 4 = .ok (.iload_n 1, 1) := by decide +kernel
theorem dX5_has_5 : decode cX5_has 5 = .ok (.bipush 8, 2) := by decide +kernel
theorem dX5_has_7 : decode cX5_has 7 = .ok (.if_icmp .ge 16, 3) := by decide +kernel
theorem dX5_has_10 : decode cX5_has 10 = .ok (.aload_n 0, 1) := by decide +kernel
theorem dX5_has_11 : decode cX5_has 11 = .ok (.getfield 9, 3) := by decide +kernel
theorem dX5_has_14 : decode cX5_has 14 = .ok (.iload_n 1, 1) := by decide +kernel
theorem dX5_has_15 : decode cX5_has 15 = .ok (.baload, 1) := by decide +kernel
theorem dX5_has_16 : decode cX5_has 16 = .ok (.ifCond .eq 7, 3) := by decide +kernel
theorem dX5_has_19 : decode cX5_has 19 = .ok (.iconst 1, 1) := by decide +kernel
theorem dX5_has_20 : decode cX5_has 20 = .ok (.goto 4, 3) := by decide +kernel
theorem dX5_has_23 : decode cX5_has 23 = .ok (.iconst 0, 1) := by decide +kernel
theorem dX5_has_24 : decode cX5_has 24 = .ok (.ireturn, 1) := by decide +kernel
theorem dX5_add_0 : decode cX5_add 0 = .ok (.iconst 0, 1) := by decide +kernel
theorem dX5_add_1 : decode cX5_add 1 = .ok (.istore_n 3, 1) := by decide +kernel
theorem dX5_add_2 : decode cX5_add 2 = .ok (.iload_n 3, 1) := by decide +kernel
theorem dX5_add_3 : decode cX5_add 3 = .ok (.bipush 8, 2) := by decide +kernel
theorem dX5_add_5 : decode cX5_add 5 = .ok (.if_icmp .ge 34, 3) := by decide +kernel
theorem dX5_add_8 : decode cX5_add 8 = .ok (.aload_n 0, 1) := by decide +kernel
theorem dX5_add_9 : decode cX5_add 9 = .ok (.getfield 9, 3) := by decide +kernel
theorem dX5_add_12 : decode cX5_add 12 = .ok (.iload_n 3, 1) := by decide +kernel
theorem dX5_add_13 : decode cX5_add 13 = .ok (.baload, 1) := by decide +kernel
theorem dX5_add_14 : decode cX5_add 14 = .ok (.ifCond .ne 19, 3) := by decide +kernel
theorem dX5_add_17 : decode cX5_add 17 = .ok (.aload_n 0, 1) := by decide +kernel
theorem dX5_add_18 : decode cX5_add 18 = .ok (.getfield 9, 3) := by decide +kernel
theorem dX5_add_21 : decode cX5_add 21 = .ok (.iload_n 3, 1) := by decide +kernel
theorem dX5_add_22 : decode cX5_add 22 = .ok (.iconst 1, 1) := by decide +kernel
theorem dX5_add_23 : decode cX5_add 23 = .ok (.bastore, 1) := by decide +kernel
theorem dX5_add_24 : decode cX5_add 24 = .ok (.aload_n 0, 1) := by decide +kernel
theorem dX5_add_25 : decode cX5_add 25 = .ok (.getfield 15, 3) := by decide +kernel
theorem dX5_add_28 : decode cX5_add 28 = .ok (.iload_n 3, 1) := by decide +kernel
theorem dX5_add_29 : decode cX5_add 29 = .ok (.lload_n 1, 1) := by decide +kernel
theorem dX5_add_30 : decode cX5_add 30 = .ok (.lastore, 1) := by decide +kernel
theorem dX5_add_31 : decode cX5_add 31 = .ok (.iload_n 3, 1) := by decide +kernel
theorem dX5_add_32 : decode cX5_add 32 = .ok (.ireturn, 1) := by decide +kernel
theorem dX5_add_33 : decode cX5_add 33 = .ok (.iinc 3 1, 3) := by decide +kernel
theorem dX5_add_36 : decode cX5_add 36 = .ok (.goto (-34), 3) := by decide +kernel
theorem dX5_add_39 : decode cX5_add 39 = .ok (.iconst (-1), 1) := by decide +kernel
theorem dX5_add_40 : decode cX5_add 40 = .ok (.ireturn, 1) := by decide +kernel
theorem dX5_remove_0 : decode cX5_remove 0 = .ok (.aload_n 0, 1) := by decide +kernel
theorem dX5_remove_1 : decode cX5_remove 1 = .ok (.iload_n 1, 1) := by decide +kernel
theorem dX5_remove_2 : decode cX5_remove 2 = .ok (.invokevirtual 19, 3) := by decide +kernel
theorem dX5_remove_5 : decode cX5_remove 5 = .ok (.ifCond .eq 10, 3) := by decide +kernel
theorem dX5_remove_8 : decode cX5_remove 8 = .ok (.aload_n 0, 1) := by decide +kernel
theorem dX5_remove_9 : decode cX5_remove 9 = .ok (.getfield 9, 3) := by decide +kernel
theorem dX5_remove_12 : decode cX5_remove 12 = .ok (.iload_n 1, 1) := by decide +kernel
theorem dX5_remove_13 : decode cX5_remove 13 = .ok (.iconst 0, 1) := by decide +kernel
theorem dX5_remove_14 : decode cX5_remove 14 = .ok (.bastore, 1) := by decide +kernel
theorem dX5_remove_15 : decode cX5_remove 15 = .ok (.return_, 1) := by decide +kernel
theorem dX5_countThere_0 : decode cX5_countThere 0 = .ok (.iconst 0, 1) := by decide +kernel
theorem dX5_countThere_1 : decode cX5_countThere 1 = .ok (.istore_n 1, 1) := by decide +kernel
theorem dX5_countThere_2 : decode cX5_countThere 2 = .ok (.iconst 0, 1) := by decide +kernel
theorem dX5_countThere_3 : decode cX5_countThere 3 = .ok (.istore_n 2, 1) := by decide +kernel
theorem dX5_countThere_4 : decode cX5_countThere 4 = .ok (.iload_n 2, 1) := by decide +kernel
theorem dX5_countThere_5 : decode cX5_countThere 5 = .ok (.bipush 8, 2) := by decide +kernel
theorem dX5_countThere_7 : decode cX5_countThere 7 = .ok (.if_icmp .ge 21, 3) := by decide +kernel
theorem dX5_countThere_10 : decode cX5_countThere 10 = .ok (.aload_n 0, 1) := by decide +kernel
theorem dX5_countThere_11 : decode cX5_countThere 11 = .ok (.getfield 9, 3) := by decide +kernel
theorem dX5_countThere_14 : decode cX5_countThere 14 = .ok (.iload_n 2, 1) := by decide +kernel
theorem dX5_countThere_15 : decode cX5_countThere 15 = .ok (.baload, 1) := by decide +kernel
theorem dX5_countThere_16 : decode cX5_countThere 16 = .ok (.ifCond .eq 6, 3) := by decide +kernel
theorem dX5_countThere_19 : decode cX5_countThere 19 = .ok (.iinc 1 1, 3) := by decide +kernel
theorem dX5_countThere_22 : decode cX5_countThere 22 = .ok (.iinc 2 1, 3) := by decide +kernel
theorem dX5_countThere_25 : decode cX5_countThere 25 = .ok (.goto (-21), 3) := by decide +kernel
theorem dX5_countThere_28 : decode cX5_countThere 28 = .ok (.iload_n 1, 1) := by decide +kernel
theorem dX5_countThere_29 : decode cX5_countThere 29 = .ok (.ireturn, 1) := by decide +kernel
theorem dX5_heldBy_0 : decode cX5_heldBy 0 = .ok (.aload_n 0, 1) := by decide +kernel
theorem dX5_heldBy_1 : decode cX5_heldBy 1 = .ok (.iload_n 1, 1) := by decide +kernel
theorem dX5_heldBy_2 : decode cX5_heldBy 2 = .ok (.invokevirtual 19, 3) := by decide +kernel
theorem dX5_heldBy_5 : decode cX5_heldBy 5 = .ok (.ifCond .eq 12, 3) := by decide +kernel
theorem dX5_heldBy_8 : decode cX5_heldBy 8 = .ok (.aload_n 0, 1) := by decide +kernel
theorem dX5_heldBy_9 : decode cX5_heldBy 9 = .ok (.getfield 15, 3) := by decide +kernel
theorem dX5_heldBy_12 : decode cX5_heldBy 12 = .ok (.iload_n 1, 1) := by decide +kernel
theorem dX5_heldBy_13 : decode cX5_heldBy 13 = .ok (.laload, 1) := by decide +kernel
theorem dX5_heldBy_14 : decode cX5_heldBy 14 = .ok (.goto 4, 3) := by decide +kernel
theorem dX5_heldBy_17 : decode cX5_heldBy 17 = .ok (.lconst 0, 1) := by decide +kernel
theorem dX5_heldBy_18 : decode cX5_heldBy 18 = .ok (.lreturn, 1) := by decide +kernel
theorem dX5_heldBesides_0 : decode cX5_heldBesides 0 = .ok (.lconst 0, 1) := by decide +kernel
theorem dX5_heldBesides_1 : decode cX5_heldBesides 1 = .ok (.lstore_n 2, 1) := by decide +kernel
theorem dX5_heldBesides_2 : decode cX5_heldBesides 2 = .ok (.iconst 0, 1) := by decide +kernel
theorem dX5_heldBesides_3 : decode cX5_heldBesides 3 = .ok (.istore 4, 2) := by decide +kernel
theorem dX5_heldBesides_5 : decode cX5_heldBesides 5 = .ok (.iload 4, 2) := by decide +kernel
theorem dX5_heldBesides_7 : decode cX5_heldBesides 7 = .ok (.bipush 8, 2) := by decide +kernel
theorem dX5_heldBesides_9 : decode cX5_heldBesides 9 = .ok (.if_icmp .ge 24, 3) := by decide +kernel
theorem dX5_heldBesides_12 : decode cX5_heldBesides 12 = .ok (.iload 4, 2) := by decide +kernel
theorem dX5_heldBesides_14 : decode cX5_heldBesides 14 = .ok (.iload_n 1, 1) := by decide +kernel
theorem dX5_heldBesides_15 : decode cX5_heldBesides 15 = .ok (.if_icmp .eq 12, 3) := by decide +kernel
theorem dX5_heldBesides_18 : decode cX5_heldBesides 18 = .ok (.lload_n 2, 1) := by decide +kernel
theorem dX5_heldBesides_19 : decode cX5_heldBesides 19 = .ok (.aload_n 0, 1) := by decide +kernel
theorem dX5_heldBesides_20 : decode cX5_heldBesides 20 = .ok (.iload 4, 2) := by decide +kernel
theorem dX5_heldBesides_22 : decode cX5_heldBesides 22 = .ok (.invokevirtual 23, 3) := by decide +kernel
theorem dX5_heldBesides_25 : decode cX5_heldBesides 25 = .ok (.lor, 1) := by decide +kernel
theorem dX5_heldBesides_26 : decode cX5_heldBesides 26 = .ok (.lstore_n 2, 1) := by decide +kernel
theorem dX5_heldBesides_27 : decode cX5_heldBesides 27 = .ok (.iinc 4 1, 3) := by decide +kernel
theorem dX5_heldBesides_30 : decode cX5_heldBesides 30 = .ok (.goto (-25), 3) := by decide +kernel
theorem dX5_heldBesides_33 : decode cX5_heldBesides 33 = .ok (.lload_n 2, 1) := by decide +kernel
theorem dX5_heldBesides_34 : decode cX5_heldBesides 34 = .ok (.lreturn, 1) := by decide +kernel
/-! Snapshots -/
def oSn (ad : AD) : va_E := eC 5 [.ref (ad 11), .ref (ad 12)]
section SN
variable {l : Launch} {g : GG} {ad : AD} {C : CC} {sb : Nat → Bool} {sh : Nat → Int64}
theorem bI_n0 {b : Bool} (h : ¬ bI b = 0) : b = true := by cases b with | true => rfl | false => exact absurd rfl h
theorem nI_lt' {a b : Nat} (h : ¬ nI b ≤ nI a) (ha : a < 2 ^ 31) : a < b := by
  rcases Nat.lt_or_ge a b with q | q
  · exact q
  · exact absurd (nI_le q ha) h
theorem k_X5_has_no {x : Int32} (f10 : C 10 = some (oSn ad)) (hx : inN x 8 = false) : Cr l g yX5_has cX5_has 2 (some .boolean) 1 [.ref (ad 10), .int x] ad C (.int (bI false)) := by
  refine Ct_of [some (.ref (ad 10)), some (.int x)] (by decide) rfl rfl (Nat.le_of_ble_eq_true rfl) rfl rfl (fun X hX h => ?_)
  subst hX
  refine j_iload1 (pc := 0) h dX5_has_0 ?_
  refine j_if_lt (pc := 1) (tgt := 23) h dX5_has_1 (by decide) (fun c1 => ?_) (fun c1 => ?_)
  · refine j_iconst (pc := 23) h dX5_has_23 ic_0 ?_
    refine j_zretr (pc := 24) h dX5_has_24 (by decide) (rfl)
  · refine j_iload1 (pc := 4) h dX5_has_4 ?_
    refine j_bipush (pc := 5) h dX5_has_5 bp_8 ?_
    refine j_icmp_ge (pc := 7) (tgt := 23) h dX5_has_7 (by decide) (fun c7 => ?_) (fun c7 => ?_)
    · refine j_iconst (pc := 23) h dX5_has_23 ic_0 ?_
      refine j_zretr (pc := 24) h dX5_has_24 (by decide) (rfl)
    · exact absurd (inN_yes (by decide) c1 c7) (by rw [hx]; decide)
theorem k_X5_has {i : Nat} (f10 : C 10 = some (oSn ad)) (f11 : C 11 = some (eZ g 8 (bF sb))) (hi : i < 8) : Cr l g yX5_has cX5_has 2 (some .boolean) 1 [.ref (ad 10), .int (nI i)] ad C (.int (bI (sb i))) := by
  refine Ct_of [some (.ref (ad 10)), some (.int (nI i))] (by decide) rfl rfl (Nat.le_of_ble_eq_true rfl) rfl rfl (fun X hX h => ?_)
  subst hX
  refine j_iload1 (pc := 0) h dX5_has_0 ?_
  refine j_if_lt (pc := 1) (tgt := 23) h dX5_has_1 (by decide) (fun c1 => absurd c1 (nI_pos (by omega))) (fun c1 => ?_)
  refine j_iload1 (pc := 4) h dX5_has_4 ?_
  refine j_bipush (pc := 5) h dX5_has_5 bp_8 ?_
  refine j_icmp_ge (pc := 7) (tgt := 23) h dX5_has_7 (by decide) (fun c7 => absurd c7 (nI_ge (by omega) (by omega))) (fun c7 => ?_)
  refine j_aload0 (pc := 10) h dX5_has_10 ?_
  refine j_getf (pc := 11) h dX5_has_11 (f10) fl_X5_9 rfl ?_
  refine j_iload1 (pc := 14) h dX5_has_14 ?_
  refine j_zald (pc := 15) h dX5_has_15 (f11) (by omega) (by decide) ?_
  refine j_if_eq (pc := 16) (tgt := 23) h dX5_has_16 (by decide) (fun c16 => ?_) (fun c16 => ?_)
  · refine j_iconst (pc := 23) h dX5_has_23 ic_0 ?_
    refine j_zretr (pc := 24) h dX5_has_24 (by decide) (bI_f (bI_0.mp c16))
  · refine j_iconst (pc := 19) h dX5_has_19 ic_1 ?_
    refine j_goto (pc := 20) (tgt := 24) h dX5_has_20 (by decide) ?_
    refine j_zretr (pc := 24) h dX5_has_24 (by decide) (bI_t (bI_n0 c16))
theorem k_X5_heldBy_no {x : Int32} (f10 : C 10 = some (oSn ad)) (hx : inN x 8 = false) : Cr l g yX5_heldBy cX5_heldBy 2 (some .long) 2 [.ref (ad 10), .int x] ad C (.long 0) := by
  refine Ct_of [some (.ref (ad 10)), some (.int x)] (by decide) rfl rfl (Nat.le_of_ble_eq_true rfl) rfl rfl (fun X hX h => ?_)
  subst hX
  refine j_aload0 (pc := 0) h dX5_heldBy_0 ?_
  refine j_iload1 (pc := 1) h dX5_heldBy_1 ?_
  refine j_callVr (pc := 2) h dX5_heldBy_2 (k_X5_has_no f10 hx) mv_X5_19 (f10) rfl rfl (by decide) (Nat.le_of_ble_eq_true rfl) (Nat.le_of_ble_eq_true rfl) (Nat.le_of_ble_eq_true rfl) ?_
  refine j_if_eqB (pc := 5) (tgt := 17) h dX5_heldBy_5 (by decide) (fun c5 => ?_) (fun c5 => absurd c5 (by decide))
  refine j_lconst (pc := 17) h dX5_heldBy_17 lc_0 ?_
  refine j_lretr (pc := 18) h dX5_heldBy_18 (rfl)
theorem k_X5_heldBy {i : Nat} (f10 : C 10 = some (oSn ad)) (f11 : C 11 = some (eZ g 8 (bF sb))) (f12 : C 12 = some (eJ g 8 sh)) (hi : i < 8) : Cr l g yX5_heldBy cX5_heldBy 2 (some .long) 2 [.ref (ad 10), .int (nI i)] ad C (.long (if sb i = true then sh i else 0)) := by
  refine Ct_of [some (.ref (ad 10)), some (.int (nI i))] (by decide) rfl rfl (Nat.le_of_ble_eq_true rfl) rfl rfl (fun X hX h => ?_)
  subst hX
  refine j_aload0 (pc := 0) h dX5_heldBy_0 ?_
  refine j_iload1 (pc := 1) h dX5_heldBy_1 ?_
  refine j_callVr (pc := 2) h dX5_heldBy_2 (k_X5_has f10 f11 hi) mv_X5_19 (f10) rfl rfl (by decide) (Nat.le_of_ble_eq_true rfl) (Nat.le_of_ble_eq_true rfl) (Nat.le_of_ble_eq_true rfl) ?_
  refine j_if_eqB (pc := 5) (tgt := 17) h dX5_heldBy_5 (by decide) (fun c5 => ?_) (fun c5 => ?_)
  · refine j_lconst (pc := 17) h dX5_heldBy_17 lc_0 ?_
    refine j_lretr (pc := 18) h dX5_heldBy_18 (by rw [if_neg (by rw [c5]; decide)])
  · refine j_aload0 (pc := 8) h dX5_heldBy_8 ?_
    refine j_getf (pc := 9) h dX5_heldBy_9 (f10) fl_X5_15 rfl ?_
    refine j_iload1 (pc := 12) h dX5_heldBy_12 ?_
    refine j_lald (pc := 13) h dX5_heldBy_13 (f12) (by omega) (by decide) ?_
    refine j_goto (pc := 14) (tgt := 18) h dX5_heldBy_14 (by decide) ?_
    refine j_lretr (pc := 18) h dX5_heldBy_18 (by rw [if_pos c5])
/-- what all snapshots but x hold -/
def shF (sb : Nat → Bool) (sh : Nat → Int64) (x : Int32) : Nat → Int64 := fun i => if sb i = true ∧ ¬ nI i = x then sh i else 0
theorem k_X5_heldBesides {x : Int32} (f10 : C 10 = some (oSn ad)) (f11 : C 11 = some (eZ g 8 (bF sb))) (f12 : C 12 = some (eJ g 8 sh)) : Cr l g yX5_heldBesides cX5_heldBesides 5 (some .long) 3 [.ref (ad 10), .int x] ad C (.long (orr (shF sb sh x) 8)) := by
  refine Ct_of [some (.ref (ad 10)), some (.int x), none, none, none] (by decide) rfl rfl (Nat.le_of_ble_eq_true rfl) rfl rfl (fun X hX h => ?_)
  subst hX
  have lp : ∀ m i, i + m = 8 → J X g 5 (QR X g ad C (.long (orr (shF sb sh x) 8))) 0 0 ad C 5 [some (.ref (ad 10)), some (.int x), some (.long (orr (shF sb sh x) i)), none, some (.int (nI i))] [] := by
    intro m
    induction m with
    | zero =>
      intro i hi
      refine j_iload4 (pc := 5) h dX5_heldBesides_5 ?_
      refine j_bipush (pc := 7) h dX5_heldBesides_7 bp_8 ?_
      refine j_icmp_ge (pc := 9) (tgt := 33) h dX5_heldBesides_9 (by decide) (fun c9 => ?_) (fun c9 => absurd (nI_le (by omega) (by omega)) c9)
      refine j_lload2 (pc := 33) h dX5_heldBesides_33 ?_
      refine j_lretr (pc := 34) h dX5_heldBesides_34 (by rw [show i = 8 by omega])
    | succ m ih =>
      intro i hi
      refine j_iload4 (pc := 5) h dX5_heldBesides_5 ?_
      refine j_bipush (pc := 7) h dX5_heldBesides_7 bp_8 ?_
      refine j_icmp_ge (pc := 9) (tgt := 33) h dX5_heldBesides_9 (by decide) (fun c9 => absurd c9 (nI_ge (by omega) (by omega))) (fun c9 => ?_)
      refine j_iload4 (pc := 12) h dX5_heldBesides_12 ?_
      refine j_iload1 (pc := 14) h dX5_heldBesides_14 ?_
      refine j_icmp_eq (pc := 15) (tgt := 27) h dX5_heldBesides_15 (by decide) (fun c15 => ?_) (fun c15 => ?_)
      · refine j_iinc4 (pc := 27) h dX5_heldBesides_27 rfl (inc_n _) ?_
        refine j_goto (pc := 30) (tgt := 5) h dX5_heldBesides_30 (by decide) ?_
        rw [show orr (shF sb sh x) i = orr (shF sb sh x) (i + 1) from orr_no (by simp [shF, c15])]
        exact ih (i + 1) (by omega)
      · refine j_lload2 (pc := 18) h dX5_heldBesides_18 ?_
        refine j_aload0 (pc := 19) h dX5_heldBesides_19 ?_
        refine j_iload4 (pc := 20) h dX5_heldBesides_20 ?_
        refine j_callVr (pc := 22) h dX5_heldBesides_22 (k_X5_heldBy f10 f11 f12 (by omega)) mv_X5_23 (f10) rfl rfl (by decide) (Nat.le_of_ble_eq_true rfl) (Nat.le_of_ble_eq_true rfl) (Nat.le_of_ble_eq_true rfl) ?_
        refine j_lor (pc := 25) h dX5_heldBesides_25 ?_
        refine j_lstore2 (pc := 26) h dX5_heldBesides_26 rfl ?_
        refine j_iinc4 (pc := 27) h dX5_heldBesides_27 rfl (inc_n _) ?_
        refine j_goto (pc := 30) (tgt := 5) h dX5_heldBesides_30 (by decide) ?_
        rw [show orr (shF sb sh x) i ||| (if sb i = true then sh i else 0) = orr (shF sb sh x) (i + 1) from by rw [orr, shF]; simp [c15]]
        exact ih (i + 1) (by omega)
  refine j_lconst (pc := 0) h dX5_heldBesides_0 lc_0 ?_
  refine j_lstore2 (pc := 1) h dX5_heldBesides_1 rfl ?_
  refine j_iconst (pc := 2) h dX5_heldBesides_2 ic_0 ?_
  refine j_istore4 (pc := 3) h dX5_heldBesides_3 rfl ?_
  exact lp 8 0 (by omega)
theorem k_X5_countThere (f10 : C 10 = some (oSn ad)) (f11 : C 11 = some (eZ g 8 (bF sb))) : Cr l g yX5_countThere cX5_countThere 3 (some .int) 1 [.ref (ad 10)] ad C (.int (nI (cnt sb 8))) := by
  refine Ct_of [some (.ref (ad 10)), none, none] (by decide) rfl rfl (Nat.le_of_ble_eq_true rfl) rfl rfl (fun X hX h => ?_)
  subst hX
  have lp : ∀ m i, i + m = 8 → J X g 3 (QR X g ad C (.int (nI (cnt sb 8)))) 0 0 ad C 4 [some (.ref (ad 10)), some (.int (nI (cnt sb i))), some (.int (nI i))] [] := by
    intro m
    induction m with
    | zero =>
      intro i hi
      refine j_iload2 (pc := 4) h dX5_countThere_4 ?_
      refine j_bipush (pc := 5) h dX5_countThere_5 bp_8 ?_
      refine j_icmp_ge (pc := 7) (tgt := 28) h dX5_countThere_7 (by decide) (fun c7 => ?_) (fun c7 => absurd (nI_le (by omega) (by omega)) c7)
      refine j_iload1 (pc := 28) h dX5_countThere_28 ?_
      refine j_iretr (pc := 29) h dX5_countThere_29 (by rw [show i = 8 by omega])
    | succ m ih =>
      intro i hi
      refine j_iload2 (pc := 4) h dX5_countThere_4 ?_
      refine j_bipush (pc := 5) h dX5_countThere_5 bp_8 ?_
      refine j_icmp_ge (pc := 7) (tgt := 28) h dX5_countThere_7 (by decide) (fun c7 => absurd c7 (nI_ge (by omega) (by omega))) (fun c7 => ?_)
      refine j_aload0 (pc := 10) h dX5_countThere_10 ?_
      refine j_getf (pc := 11) h dX5_countThere_11 (f10) fl_X5_9 rfl ?_
      refine j_iload2 (pc := 14) h dX5_countThere_14 ?_
      refine j_zald (pc := 15) h dX5_countThere_15 (f11) (by omega) (by decide) ?_
      refine j_if_eq (pc := 16) (tgt := 22) h dX5_countThere_16 (by decide) (fun c16 => ?_) (fun c16 => ?_)
      · refine j_iinc2 (pc := 22) h dX5_countThere_22 rfl (inc_n _) ?_
        refine j_goto (pc := 25) (tgt := 4) h dX5_countThere_25 (by decide) ?_
        rw [show cnt sb i = cnt sb (i + 1) from (cnt_f (bI_0.mp c16)).symm]
        exact ih (i + 1) (by omega)
      · refine j_iinc1 (pc := 19) h dX5_countThere_19 rfl (inc_n _) ?_
        refine j_iinc2 (pc := 22) h dX5_countThere_22 rfl (inc_n _) ?_
        refine j_goto (pc := 25) (tgt := 4) h dX5_countThere_25 (by decide) ?_
        rw [show cnt sb i + 1 = cnt sb (i + 1) from (cnt_t (bI_n0 c16)).symm]
        exact ih (i + 1) (by omega)
  refine j_iconst (pc := 0) h dX5_countThere_0 ic_0 ?_
  refine j_istore1 (pc := 1) h dX5_countThere_1 rfl ?_
  refine j_iconst (pc := 2) h dX5_countThere_2 ic_0 ?_
  refine j_istore2 (pc := 3) h dX5_countThere_3 rfl ?_
  exact lp 8 0 (by omega)
theorem k_X5_remove {i : Nat} (f10 : C 10 = some (oSn ad)) (f11 : C 11 = some (eZ g 8 (bF sb))) (hi : i < 8) (hb : sb i = true) : Cw l g yX5_remove cX5_remove 2 none 2 [.ref (ad 10), .int (nI i)] ad C none (va_up C 11 (some (eZ g 8 (upd (bF sb) i (nI 0))))) := by
  refine Ct_of [some (.ref (ad 10)), some (.int (nI i))] (by decide) rfl rfl (Nat.le_of_ble_eq_true rfl) rfl rfl (fun X hX h => ?_)
  subst hX
  refine j_aload0 (pc := 0) h dX5_remove_0 ?_
  refine j_iload1 (pc := 1) h dX5_remove_1 ?_
  refine j_callVr (pc := 2) h dX5_remove_2 (k_X5_has f10 f11 hi) mv_X5_19 (f10) rfl rfl (by decide) (Nat.le_of_ble_eq_true rfl) (Nat.le_of_ble_eq_true rfl) (Nat.le_of_ble_eq_true rfl) ?_
  refine j_if_eqB (pc := 5) (tgt := 15) h dX5_remove_5 (by decide) (fun c5 => absurd c5 (by rw [hb]; decide)) (fun c5 => ?_)
  refine j_aload0 (pc := 8) h dX5_remove_8 ?_
  refine j_getf (pc := 9) h dX5_remove_9 (f10) fl_X5_9 rfl ?_
  refine j_iload1 (pc := 12) h dX5_remove_12 ?_
  refine j_iconst (pc := 13) h dX5_remove_13 ic_0 ?_
  refine j_zast (pc := 14) h dX5_remove_14 (f11) (by omega) (by decide) (nar_0) ?_
  refine j_vret (pc := 15) h dX5_remove_15 (⟨rfl, rfl, rfl⟩)
theorem k_X5_remove_f {i : Nat} (f10 : C 10 = some (oSn ad)) (f11 : C 11 = some (eZ g 8 (bF sb))) (hi : i < 8) (hb : sb i = false) : Cw l g yX5_remove cX5_remove 2 none 2 [.ref (ad 10), .int (nI i)] ad C none C := by
  refine Ct_of [some (.ref (ad 10)), some (.int (nI i))] (by decide) rfl rfl (Nat.le_of_ble_eq_true rfl) rfl rfl (fun X hX h => ?_)
  subst hX
  refine j_aload0 (pc := 0) h dX5_remove_0 ?_
  refine j_iload1 (pc := 1) h dX5_remove_1 ?_
  refine j_callVr (pc := 2) h dX5_remove_2 (k_X5_has f10 f11 hi) mv_X5_19 (f10) rfl rfl (by decide) (Nat.le_of_ble_eq_true rfl) (Nat.le_of_ble_eq_true rfl) (Nat.le_of_ble_eq_true rfl) ?_
  refine j_if_eqB (pc := 5) (tgt := 15) h dX5_remove_5 (by decide) (fun c5 => ?_) (fun c5 => absurd c5 (by rw [hb]; decide))
  refine j_vret (pc := 15) h dX5_remove_15 (⟨rfl, rfl, rfl⟩)
theorem k_X5_remove_no {x : Int32} (f10 : C 10 = some (oSn ad)) (hx : inN x 8 = false) : Cw l g yX5_remove cX5_remove 2 none 2 [.ref (ad 10), .int x] ad C none C := by
  refine Ct_of [some (.ref (ad 10)), some (.int x)] (by decide) rfl rfl (Nat.le_of_ble_eq_true rfl) rfl rfl (fun X hX h => ?_)
  subst hX
  refine j_aload0 (pc := 0) h dX5_remove_0 ?_
  refine j_iload1 (pc := 1) h dX5_remove_1 ?_
  refine j_callVr (pc := 2) h dX5_remove_2 (k_X5_has_no f10 hx) mv_X5_19 (f10) rfl rfl (by decide) (Nat.le_of_ble_eq_true rfl) (Nat.le_of_ble_eq_true rfl) (Nat.le_of_ble_eq_true rfl) ?_
  refine j_if_eqB (pc := 5) (tgt := 15) h dX5_remove_5 (by decide) (fun c5 => ?_) (fun c5 => absurd c5 (by decide))
  refine j_vret (pc := 15) h dX5_remove_15 (⟨rfl, rfl, rfl⟩)
/-- the first that is free: i of 8 -/
theorem k_X5_add {a : Nat} {v : Int64} (f10 : C 10 = some (oSn ad)) (f11 : C 11 = some (eZ g 8 (bF sb))) (f12 : C 12 = some (eJ g 8 sh)) (ha : a < 8) (hb : sb a = false) (hlo : ∀ i, i < a → sb i = true) : Cw l g yX5_add cX5_add 4 (some .int) 1 [.ref (ad 10), .long v] ad C (some (.int (nI a))) (va_up (va_up C 11 (some (eZ g 8 (upd (bF sb) a (nI 1))))) 12 (some (eJ g 8 (vp_updL sh a v)))) := by
  refine Ct_of [some (.ref (ad 10)), some (.long v), none, none] (by decide) rfl rfl (Nat.le_of_ble_eq_true rfl) rfl rfl (fun X hX h => ?_)
  subst hX
  have lp : ∀ m i, i + m = a → J X g 4 (QW X g (some (.int (nI a))) ad (va_up (va_up C 11 (some (eZ g 8 (upd (bF sb) a (nI 1))))) 12 (some (eJ g 8 (vp_updL sh a v))))) 0 0 ad C 2 [some (.ref (ad 10)), some (.long v), none, some (.int (nI i))] [] := by
    intro m
    induction m with
    | zero =>
      intro i hi
      obtain rfl : i = a := by omega
      refine j_iload3 (pc := 2) h dX5_add_2 ?_
      refine j_bipush (pc := 3) h dX5_add_3 bp_8 ?_
      refine j_icmp_ge (pc := 5) (tgt := 39) h dX5_add_5 (by decide) (fun c5 => absurd c5 (nI_ge (by omega) (by omega))) (fun c5 => ?_)
      refine j_aload0 (pc := 8) h dX5_add_8 ?_
      refine j_getf (pc := 9) h dX5_add_9 (f10) fl_X5_9 rfl ?_
      refine j_iload3 (pc := 12) h dX5_add_12 ?_
      refine j_zald (pc := 13) h dX5_add_13 (f11) (by omega) (by decide) ?_
      refine j_if_ne (pc := 14) (tgt := 33) h dX5_add_14 (by decide) (fun c14 => absurd (by show bI (sb i) = 0; rw [hb]; rfl) c14) (fun c14 => ?_)
      refine j_aload0 (pc := 17) h dX5_add_17 ?_
      refine j_getf (pc := 18) h dX5_add_18 (f10) fl_X5_9 rfl ?_
      refine j_iload3 (pc := 21) h dX5_add_21 ?_
      refine j_iconst (pc := 22) h dX5_add_22 ic_1 ?_
      refine j_zast (pc := 23) h dX5_add_23 (f11) (by omega) (by decide) (nar_1) ?_
      refine j_aload0 (pc := 24) h dX5_add_24 ?_
      refine j_getf (pc := 25) h dX5_add_25 (f10) fl_X5_15 rfl ?_
      refine j_iload3 (pc := 28) h dX5_add_28 ?_
      refine j_lload1 (pc := 29) h dX5_add_29 ?_
      refine j_last (pc := 30) h dX5_add_30 (f12) (by omega) (by decide) ?_
      refine j_iload3 (pc := 31) h dX5_add_31 ?_
      refine j_iret (pc := 32) h dX5_add_32 (⟨rfl, rfl, rfl⟩)
    | succ m ih =>
      intro i hi
      refine j_iload3 (pc := 2) h dX5_add_2 ?_
      refine j_bipush (pc := 3) h dX5_add_3 bp_8 ?_
      refine j_icmp_ge (pc := 5) (tgt := 39) h dX5_add_5 (by decide) (fun c5 => absurd c5 (nI_ge (by omega) (by omega))) (fun c5 => ?_)
      refine j_aload0 (pc := 8) h dX5_add_8 ?_
      refine j_getf (pc := 9) h dX5_add_9 (f10) fl_X5_9 rfl ?_
      refine j_iload3 (pc := 12) h dX5_add_12 ?_
      refine j_zald (pc := 13) h dX5_add_13 (f11) (by omega) (by decide) ?_
      refine j_if_ne (pc := 14) (tgt := 33) h dX5_add_14 (by decide) (fun c14 => ?_) (fun c14 => absurd c14 (by show ¬ bI (sb i) = 0; rw [hlo i (by omega)]; decide))
      refine j_iinc3 (pc := 33) h dX5_add_33 rfl (inc_n _) ?_
      refine j_goto (pc := 36) (tgt := 2) h dX5_add_36 (by decide) ?_
      exact ih (i + 1) (by omega)
  refine j_iconst (pc := 0) h dX5_add_0 ic_0 ?_
  refine j_istore3 (pc := 1) h dX5_add_1 rfl ?_
  exact lp a 0 (by omega)
theorem k_X5_add_no {v : Int64} (f10 : C 10 = some (oSn ad)) (f11 : C 11 = some (eZ g 8 (bF sb))) (hlo : ∀ i, i < 8 → sb i = true) : Cr l g yX5_add cX5_add 4 (some .int) 1 [.ref (ad 10), .long v] ad C (.int (-1)) := by
  refine Ct_of [some (.ref (ad 10)), some (.long v), none, none] (by decide) rfl rfl (Nat.le_of_ble_eq_true rfl) rfl rfl (fun X hX h => ?_)
  subst hX
  have lp : ∀ m i, i + m = 8 → J X g 4 (QR X g ad C (.int (-1))) 0 0 ad C 2 [some (.ref (ad 10)), some (.long v), none, some (.int (nI i))] [] := by
    intro m
    induction m with
    | zero =>
      intro i hi
      refine j_iload3 (pc := 2) h dX5_add_2 ?_
      refine j_bipush (pc := 3) h dX5_add_3 bp_8 ?_
      refine j_icmp_ge (pc := 5) (tgt := 39) h dX5_add_5 (by decide) (fun c5 => ?_) (fun c5 => absurd (nI_le (by omega) (by omega)) c5)
      refine j_iconst (pc := 39) h dX5_add_39 ic_m1 ?_
      refine j_iretr (pc := 40) h dX5_add_40 (rfl)
    | succ m ih =>
      intro i hi
      refine j_iload3 (pc := 2) h dX5_add_2 ?_
      refine j_bipush (pc := 3) h dX5_add_3 bp_8 ?_
      refine j_icmp_ge (pc := 5) (tgt := 39) h dX5_add_5 (by decide) (fun c5 => absurd c5 (nI_ge (by omega) (by omega))) (fun c5 => ?_)
      refine j_aload0 (pc := 8) h dX5_add_8 ?_
      refine j_getf (pc := 9) h dX5_add_9 (f10) fl_X5_9 rfl ?_
      refine j_iload3 (pc := 12) h dX5_add_12 ?_
      refine j_zald (pc := 13) h dX5_add_13 (f11) (by omega) (by decide) ?_
      refine j_if_ne (pc := 14) (tgt := 33) h dX5_add_14 (by decide) (fun c14 => ?_) (fun c14 => absurd c14 (by show ¬ bI (sb i) = 0; rw [hlo i (by omega)]; decide))
      refine j_iinc3 (pc := 33) h dX5_add_33 rfl (inc_n _) ?_
      refine j_goto (pc := 36) (tgt := 2) h dX5_add_36 (by decide) ?_
      exact ih (i + 1) (by omega)
  refine j_iconst (pc := 0) h dX5_add_0 ic_0 ?_
  refine j_istore3 (pc := 1) h dX5_add_1 rfl ?_
  exact lp 8 0 (by omega)
end SN
end
section
theorem dX2_init_0 : decode cX2_init 0 = .ok (.aload_n 0, 1) := by decide +kernel
theorem dX2_init_1 : decode cX2_init 1 = .ok (.invokespecial 3, 3) := by decide +kernel
theorem dX2_init_4 : decode cX2_init 4 = .ok (.aload_n 0, 1) := by decide +kernel
theorem dX2_init_5 : decode cX2_init 5 = .ok (.bipush 20, 2) := by decide +kernel
theorem dX2_init_7 : decode cX2_init 7 = .ok (.newarray .int, 2) := by decide +kernel
theorem dX2_init_9 : decode cX2_init 9 = .ok (.putfield 9, 3) := by decide +kernel
theorem dX2_init_12 : decode cX2_init 12 = .ok (.aload_n 0, 1) := by decide +kernel
theorem dX2_init_13 : decode cX2_init 13 = .ok (.sipush 600, 3) := by decide +kernel
theorem dX2_init_16 : decode cX2_init 16 = .ok (.newarray .int, 2) := by decide +kernel
theorem dX2_init_18 : decode cX2_init 18 = .ok (.putfield 15, 3) := by decide +kernel
theorem dX2_init_21 : decode cX2_init 21 = .ok (.return_, 1) := by decide +kernel
theorem dX2_has_0 : decode cX2_has 0 = .ok (.iload_n 1, 1) := by decide +kernel
theorem dX2_has_1 : decode cX2_has 1 = .ok (.ifCond .lt 15, 3) := by decide +kernel
theorem dX2_has_4 : decode cX2_has 4 = .ok (.iload_n 1, 1) := by decide +kernel
theorem dX2_has_5 : decode cX2_has 5 = .ok (.aload_n 0, 1) := by decide +kernel
theorem dX2_has_6 : decode cX2_has 6 = .ok (.getfield 18, 3) := by decide +kernel
theorem dX2_has_9 : decode cX2_has 9 = .ok (.if_icmp .ge 7, 3) := by decide +kernel
theorem dX2_has_12 : decode cX2_has 12 = .ok (.iconst 1, 1) := by decide +kernel
theorem dX2_has_13 : decode cX2_has 13 = .ok (.goto 4, 3) := by decide +kernel
theorem dX2_has_16 : decode cX2_has 16 = .ok (.iconst 0, 1) := by decide +kernel
theorem dX2_has_17 : decode cX2_has 17 = .ok (.ireturn, 1) := by decide +kernel
theorem dX2_add_0 : decode cX2_add 0 = .ok (.aload_n 0, 1) := by decide +kernel
theorem dX2_add_1 : decode cX2_add 1 = .ok (.getfield 18, 3) := by decide +kernel
theorem dX2_add_4 : decode cX2_add 4 = .ok (.bipush 20, 2) := by decide +kernel
theorem dX2_add_6 : decode cX2_add 6 = .ok (.if_icmp .lt 5, 3) := by decide +kernel
theorem dX2_add_9 : decode cX2_add 9 = .ok (.iconst (-1), 1) := by decide +kernel
theorem dX2_add_10 : decode cX2_add 10 = .ok (.ireturn, 1) := by decide +kernel
theorem dX2_add_11 : decode cX2_add 11 = .ok (.aload_n 0, 1) := by decide +kernel
theorem dX2_add_12 : decode cX2_add 12 = .ok (.getfield 9, 3) := by decide +kernel
theorem dX2_add_15 : decode cX2_add 15 = .ok (.aload_n 0, 1) := by decide +kernel
theorem dX2_add_16 : decode cX2_add 16 = .ok (.getfield 18, 3) := by decide +kernel
theorem dX2_add_19 : decode cX2_add 19 = .ok (.iload_n 1, 1) := by decide +kernel
theorem dX2_add_20 : decode cX2_add 20 = .ok (.iastore, 1) := by decide +kernel
theorem dX2_add_21 : decode cX2_add 21 = .ok (.aload_n 0, 1) := by decide +kernel
theorem dX2_add_22 : decode cX2_add 22 = .ok (.dup, 1) := by decide +kernel
theorem dX2_add_23 : decode cX2_add 23 = .ok (.getfield 18, 3) := by decide +kernel
theorem dX2_add_26 : decode cX2_add 26 = .ok (.iconst 1, 1) := by decide +kernel
theorem dX2_add_27 : decode cX2_add 27 = .ok (.iadd, 1) := by decide +kernel
theorem dX2_add_28 : decode cX2_add 28 = .ok (.putfield 18, 3) := by decide +kernel
theorem dX2_add_31 : decode cX2_add 31 = .ok (.aload_n 0, 1) := by decide +kernel
theorem dX2_add_32 : decode cX2_add 32 = .ok (.getfield 18, 3) := by decide +kernel
theorem dX2_add_35 : decode cX2_add 35 = .ok (.iconst 1, 1) := by decide +kernel
theorem dX2_add_36 : decode cX2_add 36 = .ok (.isub, 1) := by decide +kernel
theorem dX2_add_37 : decode cX2_add 37 = .ok (.ireturn, 1) := by decide +kernel
theorem dX2_keep_0 : decode cX2_keep 0 = .ok (.aload_n 0, 1) := by decide +kernel
theorem dX2_keep_1 : decode cX2_keep 1 = .ok (.iload_n 1, 1) := by decide +kernel
theorem dX2_keep_2 : decode cX2_keep 2 = .ok (.iload_n 2, 1) := by decide +kernel
theorem dX2_keep_3 : decode cX2_keep 3 = .ok (.invokevirtual 22, 3) := by decide +kernel
theorem dX2_keep_6 : decode cX2_keep 6 = .ok (.ifCond .eq 15, 3) := by decide +kernel
theorem dX2_keep_9 : decode cX2_keep 9 = .ok (.aload_n 0, 1) := by decide +kernel
theorem dX2_keep_10 : decode cX2_keep 10 = .ok (.getfield 15, 3) := by decide +kernel
theorem dX2_keep_13 : decode cX2_keep 13 = .ok (.iload_n 1, 1) := by decide +kernel
theorem dX2_keep_14 : decode cX2_keep 14 = .ok (.bipush 30, 2) := by decide +kernel
theorem dX2_keep_16 : decode cX2_keep 16 = .ok (.imul, 1) := by decide +kernel
theorem dX2_keep_17 : decode cX2_keep 17 = .ok (.iload_n 2, 1) := by decide +kernel
theorem dX2_keep_18 : decode cX2_keep 18 = .ok (.iadd, 1) := by decide +kernel
theorem dX2_keep_19 : decode cX2_keep 19 = .ok (.iload_n 3, 1) := by decide +kernel
theorem dX2_keep_20 : decode cX2_keep 20 = .ok (.iastore, 1) := by decide +kernel
theorem dX2_keep_21 : decode cX2_keep 21 = .ok (.return_, 1) := by decide +kernel
theorem dX2_takenAt_0 : decode cX2_takenAt 0 = .ok (.aload_n 0, 1) := by decide +kernel
theorem dX2_takenAt_1 : decode cX2_takenAt 1 = .ok (.iload_n 1, 1) := by decide +kernel
theorem dX2_takenAt_2 : decode cX2_takenAt 2 = .ok (.iload_n 2, 1) := by decide +kernel
theorem dX2_takenAt_3 : decode cX2_takenAt 3 = .ok (.invokevirtual 22, 3) := by decide +kernel
theorem dX2_takenAt_6 : decode cX2_takenAt 6 = .ok (.ifCond .eq 17, 3) := by decide +kernel
theorem dX2_takenAt_9 : decode cX2_takenAt 9 = .ok (.aload_n 0, 1) := by decide +kernel
theorem dX2_takenAt_10 : decode cX2_takenAt 10 = .ok (.getfield 15, 3) := by decide +kernel
theorem dX2_takenAt_13 : decode cX2_takenAt 13 = .ok (.iload_n 1, 1) := by decide +kernel
theorem dX2_takenAt_14 : decode cX2_takenAt 14 = .ok (.bipush 30, 2) := by decide +kernel
theorem dX2_takenAt_16 : decode cX2_takenAt 16 = .ok (.imul, 1) := by decide +kernel
theorem dX2_takenAt_17 : decode cX2_takenAt 17 = .ok (.iload_n 2, 1) := by decide +kernel
theorem dX2_takenAt_18 : decode cX2_takenAt 18 = .ok (.iadd, 1) := by decide +kernel
theorem dX2_takenAt_19 : decode cX2_takenAt 19 = .ok (.iaload, 1) := by decide +kernel
theorem dX2_takenAt_20 : decode cX2_takenAt 20 = .ok (.goto 4, 3) := by decide +kernel
theorem dX2_takenAt_23 : decode cX2_takenAt 23 = .ok (.iconst 0, 1) := by decide +kernel
theorem dX2_takenAt_24 : decode cX2_takenAt 24 = .ok (.ireturn, 1) := by decide +kernel
theorem dX2_leastGrowth_0 : decode cX2_leastGrowth 0 = .ok (.iconst 0, 1) := by decide +kernel
theorem dX2_leastGrowth_1 : decode cX2_leastGrowth 1 = .ok (.istore_n 1, 1) := by decide +kernel
theorem dX2_leastGrowth_2 : decode cX2_leastGrowth 2 = .ok (.iconst 0, 1) := by decide +kernel
theorem dX2_leastGrowth_3 : decode cX2_leastGrowth 3 = .ok (.istore_n 2, 1) := by decide +kernel
theorem dX2_leastGrowth_4 : decode cX2_leastGrowth 4 = .ok (.iconst 1, 1) := by decide +kernel
theorem dX2_leastGrowth_5 : decode cX2_leastGrowth 5 = .ok (.istore_n 3, 1) := by decide +kernel
theorem dX2_leastGrowth_6 : decode cX2_leastGrowth 6 = .ok (.iload_n 3, 1) := by decide +kernel
theorem dX2_leastGrowth_7 : decode cX2_leastGrowth 7 = .ok (.aload_n 0, 1) := by decide +kernel
theorem dX2_leastGrowth_8 : decode cX2_leastGrowth 8 = .ok (.getfield 18, 3) := by decide +kernel
theorem dX2_leastGrowth_11 : decode cX2_leastGrowth 11 = .ok (.if_icmp .ge 61, 3) := by decide +kernel
theorem dX2_leastGrowth_14 : decode cX2_leastGrowth 14 = .ok (.aload_n 0, 1) := by decide +kernel
theorem dX2_leastGrowth_15 : decode cX2_leastGrowth 15 = .ok (.getfield 9, 3) := by decide +kernel
theorem dX2_leastGrowth_18 : decode cX2_leastGrowth 18 = .ok (.iload_n 3, 1) := by decide +kernel
theorem dX2_leastGrowth_19 : decode cX2_leastGrowth 19 = .ok (.iaload, 1) := by decide +kernel
theorem dX2_leastGrowth_20 : decode cX2_leastGrowth 20 = .ok (.aload_n 0, 1) := by decide +kernel
theorem dX2_leastGrowth_21 : decode cX2_leastGrowth 21 = .ok (.getfield 9, 3) := by decide +kernel
theorem dX2_leastGrowth_24 : decode cX2_leastGrowth 24 = .ok (.iload_n 3, 1) := by decide +kernel
theorem dX2_leastGrowth_25 : decode cX2_leastGrowth 25 = .ok (.iconst 1, 1) := by decide +kernel
theorem dX2_leastGrowth_26 : decode cX2_leastGrowth 26 = .ok (.isub, 1) := by decide +kernel
theorem dX2_leastGrowth_27 : decode cX2_leastGrowth 27 = .ok (.iaload, 1) := by decide +kernel
theorem dX2_leastGrowth_28 : decode cX2_leastGrowth 28 = .ok (.isub, 1) := by decide +kernel
theorem dX2_leastGrowth_29 : decode cX2_leastGrowth 29 = .ok (.istore 4, 2) := by decide +kernel
theorem dX2_leastGrowth_31 : decode cX2_leastGrowth 31 = .ok (.iload 4, 2) := by decide +kernel
theorem dX2_leastGrowth_33 : decode cX2_leastGrowth 33 = .ok (.ifCond .le 33, 3) := by decide +kernel
theorem dX2_leastGrowth_36 : decode cX2_leastGrowth 36 = .ok (.aload_n 0, 1) := by decide +kernel
theorem dX2_leastGrowth_37 : decode cX2_leastGrowth 37 = .ok (.iload_n 3, 1) := by decide +kernel
theorem dX2_leastGrowth_38 : decode cX2_leastGrowth 38 = .ok (.invokevirtual 26, 3) := by decide +kernel
theorem dX2_leastGrowth_41 : decode cX2_leastGrowth 41 = .ok (.iload 4, 2) := by decide +kernel
theorem dX2_leastGrowth_43 : decode cX2_leastGrowth 43 = .ok (.invokestatic 30, 3) := by decide +kernel
theorem dX2_leastGrowth_46 : decode cX2_leastGrowth 46 = .ok (.istore 5, 2) := by decide +kernel
theorem dX2_leastGrowth_48 : decode cX2_leastGrowth 48 = .ok (.iload_n 2, 1) := by decide +kernel
theorem dX2_leastGrowth_49 : decode cX2_leastGrowth 49 = .ok (.ifCond .eq 12, 3) := by decide +kernel
theorem dX2_leastGrowth_52 : decode cX2_leastGrowth 52 = .ok (.iload_n 1, 1) := by decide +kernel
theorem dX2_leastGrowth_53 : decode cX2_leastGrowth 53 = .ok (.iload 5, 2) := by decide +kernel
theorem dX2_leastGrowth_55 : decode cX2_leastGrowth 55 = .ok (.invokestatic 36, 3) := by decide +kernel
theorem dX2_leastGrowth_58 : decode cX2_leastGrowth 58 = .ok (.goto 5, 3) := by decide +kernel
theorem dX2_leastGrowth_61 : decode cX2_leastGrowth 61 = .ok (.iload 5, 2) := by decide +kernel
theorem dX2_leastGrowth_63 : decode cX2_leastGrowth 63 = .ok (.istore_n 1, 1) := by decide +kernel
theorem dX2_leastGrowth_64 : decode cX2_leastGrowth 64 = .ok (.iconst 1, 1) := by decide +kernel
theorem dX2_leastGrowth_65 : decode cX2_leastGrowth 65 = .ok (.istore_n 2, 1) := by decide +kernel
theorem dX2_leastGrowth_66 : decode cX2_leastGrowth 66 = .ok (.iinc 3 1, 3) := by decide +kernel
theorem dX2_leastGrowth_69 : decode cX2_leastGrowth 69 = .ok (.goto (-63), 3) := by decide +kernel
theorem dX2_leastGrowth_72 : decode cX2_leastGrowth 72 = .ok (.iload_n 1, 1) := by decide +kernel
theorem dX2_leastGrowth_73 : decode cX2_leastGrowth 73 = .ok (.ireturn, 1) := by decide +kernel
theorem dX2_greatestGrowth_0 : decode cX2_greatestGrowth 0 = .ok (.iconst 0, 1) := by decide +kernel
theorem dX2_greatestGrowth_1 : decode cX2_greatestGrowth 1 = .ok (.istore_n 1, 1) := by decide +kernel
theorem dX2_greatestGrowth_2 : decode cX2_greatestGrowth 2 = .ok (.iconst 1, 1) := by decide +kernel
theorem dX2_greatestGrowth_3 : decode cX2_greatestGrowth 3 = .ok (.istore_n 2, 1) := by decide +kernel
theorem dX2_greatestGrowth_4 : decode cX2_greatestGrowth 4 = .ok (.iload_n 2, 1) := by decide +kernel
theorem dX2_greatestGrowth_5 : decode cX2_greatestGrowth 5 = .ok (.aload_n 0, 1) := by decide +kernel
theorem dX2_greatestGrowth_6 : decode cX2_greatestGrowth 6 = .ok (.getfield 18, 3) := by decide +kernel
theorem dX2_greatestGrowth_9 : decode cX2_greatestGrowth 9 = .ok (.if_icmp .ge 45, 3) := by decide +kernel
theorem dX2_greatestGrowth_12 : decode cX2_greatestGrowth 12 = .ok (.aload_n 0, 1) := by decide +kernel
theorem dX2_greatestGrowth_13 : decode cX2_greatestGrowth 13 = .ok (.getfield 9, 3) := by decide +kernel
theorem dX2_greatestGrowth_16 : decode cX2_greatestGrowth 16 = .ok (.iload_n 2, 1) := by decide +kernel
theorem dX2_greatestGrowth_17 : decode cX2_greatestGrowth 17 = .ok (.iaload, 1) := by decide +kernel
theorem dX2_greatestGrowth_18 : decode cX2_greatestGrowth 18 = .ok (.aload_n 0, 1) := by decide +kernel
theorem dX2_greatestGrowth_19 : decode cX2_greatestGrowth 19 = .ok (.getfield 9, 3) := by decide +kernel
theorem dX2_greatestGrowth_22 : decode cX2_greatestGrowth 22 = .ok (.iload_n 2, 1) := by decide +kernel
theorem dX2_greatestGrowth_23 : decode cX2_greatestGrowth 23 = .ok (.iconst 1, 1) := by decide +kernel
theorem dX2_greatestGrowth_24 : decode cX2_greatestGrowth 24 = .ok (.isub, 1) := by decide +kernel
theorem dX2_greatestGrowth_25 : decode cX2_greatestGrowth 25 = .ok (.iaload, 1) := by decide +kernel
theorem dX2_greatestGrowth_26 : decode cX2_greatestGrowth 26 = .ok (.isub, 1) := by decide +kernel
theorem dX2_greatestGrowth_27 : decode cX2_greatestGrowth 27 = .ok (.istore_n 3, 1) := by decide +kernel
theorem dX2_greatestGrowth_28 : decode cX2_greatestGrowth 28 = .ok (.iload_n 3, 1) := by decide +kernel
theorem dX2_greatestGrowth_29 : decode cX2_greatestGrowth 29 = .ok (.ifCond .le 19, 3) := by decide +kernel
theorem dX2_greatestGrowth_32 : decode cX2_greatestGrowth 32 = .ok (.iload_n 1, 1) := by decide +kernel
theorem dX2_greatestGrowth_33 : decode cX2_greatestGrowth 33 = .ok (.aload_n 0, 1) := by decide +kernel
theorem dX2_greatestGrowth_34 : decode cX2_greatestGrowth 34 = .ok (.iload_n 2, 1) := by decide +kernel
theorem dX2_greatestGrowth_35 : decode cX2_greatestGrowth 35 = .ok (.invokevirtual 26, 3) := by decide +kernel
theorem dX2_greatestGrowth_38 : decode cX2_greatestGrowth 38 = .ok (.ineg, 1) := by decide +kernel
theorem dX2_greatestGrowth_39 : decode cX2_greatestGrowth 39 = .ok (.iload_n 3, 1) := by decide +kernel
theorem dX2_greatestGrowth_40 : decode cX2_greatestGrowth 40 = .ok (.invokestatic 30, 3) := by decide +kernel
theorem dX2_greatestGrowth_43 : decode cX2_greatestGrowth 43 = .ok (.ineg, 1) := by decide +kernel
theorem dX2_greatestGrowth_44 : decode cX2_greatestGrowth 44 = .ok (.invokestatic 39, 3) := by decide +kernel
theorem dX2_greatestGrowth_47 : decode cX2_greatestGrowth 47 = .ok (.istore_n 1, 1) := by decide +kernel
theorem dX2_greatestGrowth_48 : decode cX2_greatestGrowth 48 = .ok (.iinc 2 1, 3) := by decide +kernel
theorem dX2_greatestGrowth_51 : decode cX2_greatestGrowth 51 = .ok (.goto (-47), 3) := by decide +kernel
theorem dX2_greatestGrowth_54 : decode cX2_greatestGrowth 54 = .ok (.iload_n 1, 1) := by decide +kernel
theorem dX2_greatestGrowth_55 : decode cX2_greatestGrowth 55 = .ok (.ireturn, 1) := by decide +kernel
theorem dX2_moreAt_0 : decode cX2_moreAt 0 = .ok (.aload_n 0, 1) := by decide +kernel
theorem dX2_moreAt_1 : decode cX2_moreAt 1 = .ok (.iload_n 1, 1) := by decide +kernel
theorem dX2_moreAt_2 : decode cX2_moreAt 2 = .ok (.iconst 0, 1) := by decide +kernel
theorem dX2_moreAt_3 : decode cX2_moreAt 3 = .ok (.invokevirtual 42, 3) := by decide +kernel
theorem dX2_moreAt_6 : decode cX2_moreAt 6 = .ok (.aload_n 0, 1) := by decide +kernel
theorem dX2_moreAt_7 : decode cX2_moreAt 7 = .ok (.iload_n 1, 1) := by decide +kernel
theorem dX2_moreAt_8 : decode cX2_moreAt 8 = .ok (.iconst 1, 1) := by decide +kernel
theorem dX2_moreAt_9 : decode cX2_moreAt 9 = .ok (.isub, 1) := by decide +kernel
theorem dX2_moreAt_10 : decode cX2_moreAt 10 = .ok (.iconst 0, 1) := by decide +kernel
theorem dX2_moreAt_11 : decode cX2_moreAt 11 = .ok (.invokevirtual 42, 3) := by decide +kernel
theorem dX2_moreAt_14 : decode cX2_moreAt 14 = .ok (.isub, 1) := by decide +kernel
theorem dX2_moreAt_15 : decode cX2_moreAt 15 = .ok (.ireturn, 1) := by decide +kernel
theorem dX2_isKept_0 : decode cX2_isKept 0 = .ok (.aload_n 0, 1) := by decide +kernel
theorem dX2_isKept_1 : decode cX2_isKept 1 = .ok (.iload_n 1, 1) := by decide +kernel
theorem dX2_isKept_2 : decode cX2_isKept 2 = .ok (.invokevirtual 45, 3) := by decide +kernel
theorem dX2_isKept_5 : decode cX2_isKept 5 = .ok (.ifCond .eq 17, 3) := by decide +kernel
theorem dX2_isKept_8 : decode cX2_isKept 8 = .ok (.iload_n 2, 1) := by decide +kernel
theorem dX2_isKept_9 : decode cX2_isKept 9 = .ok (.ifCond .lt 13, 3) := by decide +kernel
theorem dX2_isKept_12 : decode cX2_isKept 12 = .ok (.iload_n 2, 1) := by decide +kernel
theorem dX2_isKept_13 : decode cX2_isKept 13 = .ok (.bipush 30, 2) := by decide +kernel
theorem dX2_isKept_15 : decode cX2_isKept 15 = .ok (.if_icmp .ge 7, 3) := by decide +kernel
theorem dX2_isKept_18 : decode cX2_isKept 18 = .ok (.iconst 1, 1) := by decide +kernel
theorem dX2_isKept_19 : decode cX2_isKept 19 = .ok (.goto 4, 3) := by decide +kernel
theorem dX2_isKept_22 : decode cX2_isKept 22 = .ok (.iconst 0, 1) := by decide +kernel
theorem dX2_isKept_23 : decode cX2_isKept 23 = .ok (.ireturn, 1) := by decide +kernel
/-! Marks -/
def oMa (ad : AD) (nm : Nat) : va_E := eC 2 [.ref (ad 14), .ref (ad 15), .int (nI nm)]
section MA
variable {l : Launch} {g : GG} {ad : AD} {C : CC} {nm : Nat} {md mt : Nat → Nat} {dy tk : Nat → Int32}
theorem k_X2_has {x : Int32} (f13 : C 13 = some (oMa ad nm)) (hn : nm ≤ 20) : Cr l g yX2_has cX2_has 2 (some .boolean) 1 [.ref (ad 13), .int x] ad C (.int (bI (inN x nm))) := by
  refine Ct_of [some (.ref (ad 13)), some (.int x)] (by decide) rfl rfl (Nat.le_of_ble_eq_true rfl) rfl rfl (fun X hX h => ?_)
  subst hX
  refine j_iload1 (pc := 0) h dX2_has_0 ?_
  refine j_if_lt (pc := 1) (tgt := 16) h dX2_has_1 (by decide) (fun c1 => ?_) (fun c1 => ?_)
  · refine j_iconst (pc := 16) h dX2_has_16 ic_0 ?_
    refine j_zretr (pc := 17) h dX2_has_17 (by decide) (bI_f (inN_no0 c1))
  · refine j_iload1 (pc := 4) h dX2_has_4 ?_
    refine j_aload0 (pc := 5) h dX2_has_5 ?_
    refine j_getf (pc := 6) h dX2_has_6 (f13) fl_X2_18 rfl ?_
    refine j_icmp_ge (pc := 9) (tgt := 16) h dX2_has_9 (by decide) (fun c9 => ?_) (fun c9 => ?_)
    · refine j_iconst (pc := 16) h dX2_has_16 ic_0 ?_
      refine j_zretr (pc := 17) h dX2_has_17 (by decide) (bI_f (inN_noN (by omega) c9))
    · refine j_iconst (pc := 12) h dX2_has_12 ic_1 ?_
      refine j_goto (pc := 13) (tgt := 17) h dX2_has_13 (by decide) ?_
      refine j_zretr (pc := 17) h dX2_has_17 (by decide) (bI_t (inN_yes (by omega) c1 c9))
theorem k_X2_isKept {x y : Int32} (f13 : C 13 = some (oMa ad nm)) (hn : nm ≤ 20) : Cr l g yX2_isKept cX2_isKept 3 (some .boolean) 2 [.ref (ad 13), .int x, .int y] ad C (.int (bI (inN x nm && inN y 30))) := by
  refine Ct_of [some (.ref (ad 13)), some (.int x), some (.int y)] (by decide) rfl rfl (Nat.le_of_ble_eq_true rfl) rfl rfl (fun X hX h => ?_)
  subst hX
  refine j_aload0 (pc := 0) h dX2_isKept_0 ?_
  refine j_iload1 (pc := 1) h dX2_isKept_1 ?_
  refine j_callVr (pc := 2) h dX2_isKept_2 (k_X2_has f13 hn) mv_X2_45 (f13) rfl rfl (by decide) (Nat.le_of_ble_eq_true rfl) (Nat.le_of_ble_eq_true rfl) (Nat.le_of_ble_eq_true rfl) ?_
  refine j_if_eqB (pc := 5) (tgt := 22) h dX2_isKept_5 (by decide) (fun c5 => ?_) (fun c5 => ?_)
  · refine j_iconst (pc := 22) h dX2_isKept_22 ic_0 ?_
    refine j_zretr (pc := 23) h dX2_isKept_23 (by decide) (bI_f (by rw [c5]; rfl))
  · refine j_iload2 (pc := 8) h dX2_isKept_8 ?_
    refine j_if_lt (pc := 9) (tgt := 22) h dX2_isKept_9 (by decide) (fun c9 => ?_) (fun c9 => ?_)
    · refine j_iconst (pc := 22) h dX2_isKept_22 ic_0 ?_
      refine j_zretr (pc := 23) h dX2_isKept_23 (by decide) (bI_f (by rw [inN_no0 c9]; simp))
    · refine j_iload2 (pc := 12) h dX2_isKept_12 ?_
      refine j_bipush (pc := 13) h dX2_isKept_13 bp_30 ?_
      refine j_icmp_ge (pc := 15) (tgt := 22) h dX2_isKept_15 (by decide) (fun c15 => ?_) (fun c15 => ?_)
      · refine j_iconst (pc := 22) h dX2_isKept_22 ic_0 ?_
        refine j_zretr (pc := 23) h dX2_isKept_23 (by decide) (bI_f (by rw [inN_noN (by decide) c15]; simp))
      · refine j_iconst (pc := 18) h dX2_isKept_18 ic_1 ?_
        refine j_goto (pc := 19) (tgt := 23) h dX2_isKept_19 (by decide) ?_
        refine j_zretr (pc := 23) h dX2_isKept_23 (by decide) (bI_t (by rw [c5, inN_yes (by decide) c9 c15]; rfl))
theorem k_X2_takenAt {i j : Nat} (f13 : C 13 = some (oMa ad nm)) (f15 : C 15 = some (eI g 600 tk)) (hn : nm ≤ 20) (hi : i < nm) (hj : j < 30) : Cr l g yX2_takenAt cX2_takenAt 3 (some .int) 3 [.ref (ad 13), .int (nI i), .int (nI j)] ad C (.int (tk (i * 30 + j))) := by
  refine Ct_of [some (.ref (ad 13)), some (.int (nI i)), some (.int (nI j))] (by decide) rfl rfl (Nat.le_of_ble_eq_true rfl) rfl rfl (fun X hX h => ?_)
  subst hX
  refine j_aload0 (pc := 0) h dX2_takenAt_0 ?_
  refine j_iload1 (pc := 1) h dX2_takenAt_1 ?_
  refine j_iload2 (pc := 2) h dX2_takenAt_2 ?_
  refine j_callVr (pc := 3) h dX2_takenAt_3 (k_X2_isKept f13 hn) mv_X2_22 (f13) rfl rfl (by decide) (Nat.le_of_ble_eq_true rfl) (Nat.le_of_ble_eq_true rfl) (Nat.le_of_ble_eq_true rfl) ?_
  refine j_if_eqB (pc := 6) (tgt := 23) h dX2_takenAt_6 (by decide) (fun c6 => absurd c6 (by rw [inN_nI (by omega), inN_nI (by omega)]; simp; omega)) (fun c6 => ?_)
  refine j_aload0 (pc := 9) h dX2_takenAt_9 ?_
  refine j_getf (pc := 10) h dX2_takenAt_10 (f13) fl_X2_15 rfl ?_
  refine j_iload1 (pc := 13) h dX2_takenAt_13 ?_
  refine j_bipush (pc := 14) h dX2_takenAt_14 bp_30 ?_
  refine j_imulN (pc := 16) h dX2_takenAt_16 ?_
  refine j_iload2 (pc := 17) h dX2_takenAt_17 ?_
  refine j_iaddN (pc := 18) h dX2_takenAt_18 ?_
  refine j_iald (pc := 19) h dX2_takenAt_19 (f15) (by omega) (by decide) ?_
  refine j_goto (pc := 20) (tgt := 24) h dX2_takenAt_20 (by decide) ?_
  refine j_iretr (pc := 24) h dX2_takenAt_24 (rfl)
theorem k_X2_keep {i j : Nat} {x : Int32} (f13 : C 13 = some (oMa ad nm)) (f15 : C 15 = some (eI g 600 tk)) (hn : nm ≤ 20) (hi : i < nm) (hj : j < 30) : Cw l g yX2_keep cX2_keep 4 none 3 [.ref (ad 13), .int (nI i), .int (nI j), .int x] ad C none (va_up C 15 (some (eI g 600 (upd tk (i * 30 + j) x)))) := by
  refine Ct_of [some (.ref (ad 13)), some (.int (nI i)), some (.int (nI j)), some (.int x)] (by decide) rfl rfl (Nat.le_of_ble_eq_true rfl) rfl rfl (fun X hX h => ?_)
  subst hX
  refine j_aload0 (pc := 0) h dX2_keep_0 ?_
  refine j_iload1 (pc := 1) h dX2_keep_1 ?_
  refine j_iload2 (pc := 2) h dX2_keep_2 ?_
  refine j_callVr (pc := 3) h dX2_keep_3 (k_X2_isKept f13 hn) mv_X2_22 (f13) rfl rfl (by decide) (Nat.le_of_ble_eq_true rfl) (Nat.le_of_ble_eq_true rfl) (Nat.le_of_ble_eq_true rfl) ?_
  refine j_if_eqB (pc := 6) (tgt := 21) h dX2_keep_6 (by decide) (fun c6 => absurd c6 (by rw [inN_nI (by omega), inN_nI (by omega)]; simp; omega)) (fun c6 => ?_)
  refine j_aload0 (pc := 9) h dX2_keep_9 ?_
  refine j_getf (pc := 10) h dX2_keep_10 (f13) fl_X2_15 rfl ?_
  refine j_iload1 (pc := 13) h dX2_keep_13 ?_
  refine j_bipush (pc := 14) h dX2_keep_14 bp_30 ?_
  refine j_imulN (pc := 16) h dX2_keep_16 ?_
  refine j_iload2 (pc := 17) h dX2_keep_17 ?_
  refine j_iaddN (pc := 18) h dX2_keep_18 ?_
  refine j_iload3 (pc := 19) h dX2_keep_19 ?_
  refine j_iast (pc := 20) h dX2_keep_20 (f15) (by omega) (by decide) ?_
  refine j_vret (pc := 21) h dX2_keep_21 (⟨rfl, rfl, rfl⟩)
theorem k_X2_add {x : Int32} (f13 : C 13 = some (oMa ad nm)) (f14 : C 14 = some (eI g 20 dy)) (hn : nm < 20) : Cw l g yX2_add cX2_add 2 (some .int) 1 [.ref (ad 13), .int x] ad C (some (.int (nI nm))) (va_up (va_up C 14 (some (eI g 20 (upd dy nm x)))) 13 (some (oMa ad (nm + 1)))) := by
  refine Ct_of [some (.ref (ad 13)), some (.int x)] (by decide) rfl rfl (Nat.le_of_ble_eq_true rfl) rfl rfl (fun X hX h => ?_)
  subst hX
  refine j_aload0 (pc := 0) h dX2_add_0 ?_
  refine j_getf (pc := 1) h dX2_add_1 (f13) fl_X2_18 rfl ?_
  refine j_bipush (pc := 4) h dX2_add_4 bp_20 ?_
  refine j_icmp_lt (pc := 6) (tgt := 11) h dX2_add_6 (by decide) (fun c6 => ?_) (fun c6 => absurd (nI_lt (by omega) (by omega)) c6)
  refine j_aload0 (pc := 11) h dX2_add_11 ?_
  refine j_getf (pc := 12) h dX2_add_12 (f13) fl_X2_9 rfl ?_
  refine j_aload0 (pc := 15) h dX2_add_15 ?_
  refine j_getf (pc := 16) h dX2_add_16 (f13) fl_X2_18 rfl ?_
  refine j_iload1 (pc := 19) h dX2_add_19 ?_
  refine j_iast (pc := 20) h dX2_add_20 (f14) (by omega) (by decide) ?_
  refine j_aload0 (pc := 21) h dX2_add_21 ?_
  refine j_dupR (pc := 22) h dX2_add_22 ?_
  refine j_getf (pc := 23) h dX2_add_23 (f13) fl_X2_18 rfl ?_
  refine j_iconst (pc := 26) h dX2_add_26 ic_1 ?_
  refine j_iaddN (pc := 27) h dX2_add_27 ?_
  refine j_putv (pc := 28) h dX2_add_28 (f13) pl_X2_18 rfl rfl (Nat.le_of_ble_eq_true rfl) ?_
  refine j_aload0 (pc := 31) h dX2_add_31 ?_
  refine j_getf (pc := 32) h dX2_add_32 (rfl) fl_X2_18 rfl ?_
  refine j_iconst (pc := 35) h dX2_add_35 ic_1 ?_
  refine j_isubN (pc := 36) h dX2_add_36 (by omega) ?_
  refine j_iret (pc := 37) h dX2_add_37 (⟨rfl, rfl, rfl⟩)
theorem k_X2_add_no {x : Int32} (f13 : C 13 = some (oMa ad nm)) (hn : nm = 20) : Cr l g yX2_add cX2_add 2 (some .int) 1 [.ref (ad 13), .int x] ad C (.int (-1)) := by
  refine Ct_of [some (.ref (ad 13)), some (.int x)] (by decide) rfl rfl (Nat.le_of_ble_eq_true rfl) rfl rfl (fun X hX h => ?_)
  subst hX
  refine j_aload0 (pc := 0) h dX2_add_0 ?_
  refine j_getf (pc := 1) h dX2_add_1 (f13) fl_X2_18 rfl ?_
  refine j_bipush (pc := 4) h dX2_add_4 bp_20 ?_
  refine j_icmp_lt (pc := 6) (tgt := 11) h dX2_add_6 (by decide) (fun c6 => absurd c6 (nI_nlt (by omega) (by omega))) (fun c6 => ?_)
  refine j_iconst (pc := 9) h dX2_add_9 ic_m1 ?_
  refine j_iretr (pc := 10) h dX2_add_10 (rfl)
theorem k_X2_moreAt {i : Nat} (f13 : C 13 = some (oMa ad nm)) (f15 : C 15 = some (eI g 600 tk)) (hn : nm ≤ 20) (hi : i + 1 < nm) : Cr l g yX2_moreAt cX2_moreAt 2 (some .int) 4 [.ref (ad 13), .int (nI (i + 1))] ad C (.int (tk ((i + 1) * 30) - tk (i * 30))) := by
  refine Ct_of [some (.ref (ad 13)), some (.int (nI (i + 1)))] (by decide) rfl rfl (Nat.le_of_ble_eq_true rfl) rfl rfl (fun X hX h => ?_)
  subst hX
  refine j_aload0 (pc := 0) h dX2_moreAt_0 ?_
  refine j_iload1 (pc := 1) h dX2_moreAt_1 ?_
  refine j_iconst (pc := 2) h dX2_moreAt_2 ic_0 ?_
  refine j_callVr (pc := 3) h dX2_moreAt_3 (k_X2_takenAt f13 f15 hn (by omega) (by omega)) mv_X2_42 (f13) rfl rfl (by decide) (Nat.le_of_ble_eq_true rfl) (Nat.le_of_ble_eq_true rfl) (Nat.le_of_ble_eq_true rfl) ?_
  refine j_aload0 (pc := 6) h dX2_moreAt_6 ?_
  refine j_iload1 (pc := 7) h dX2_moreAt_7 ?_
  refine j_iconst (pc := 8) h dX2_moreAt_8 ic_1 ?_
  refine j_isub1 (pc := 9) h dX2_moreAt_9 ?_
  refine j_iconst (pc := 10) h dX2_moreAt_10 ic_0 ?_
  refine j_callVr (pc := 11) h dX2_moreAt_11 (k_X2_takenAt f13 f15 hn (by omega) (by omega)) mv_X2_42 (f13) rfl rfl (by decide) (Nat.le_of_ble_eq_true rfl) (Nat.le_of_ble_eq_true rfl) (Nat.le_of_ble_eq_true rfl) ?_
  refine j_isub (pc := 14) h dX2_moreAt_14 ?_
  refine j_iretr (pc := 15) h dX2_moreAt_15 (rfl)
/-- the greatest and the least growth, over the first k + 1 marks -/
def grG (md : Nat → Nat) (tk : Nat → Int32) : Nat → Int32
  | 0 => nI 0
  | k + 1 => if md k < md (k + 1) then (let z := -fdv (-(tk ((k + 1) * 30) - tk (k * 30))) (nI (md (k + 1)) - nI (md k)); if grG md tk k < z then z else grG md tk k) else grG md tk k
def anyD (md : Nat → Nat) : Nat → Bool
  | 0 => false
  | k + 1 => anyD md k || decide (md k < md (k + 1))
def grL (md : Nat → Nat) (tk : Nat → Int32) : Nat → Int32
  | 0 => nI 0
  | k + 1 => if md k < md (k + 1) then (let z := fdv (tk ((k + 1) * 30) - tk (k * 30)) (nI (md (k + 1)) - nI (md k)); if anyD md k = true then (if z < grL md tk k then z else grL md tk k) else z) else grL md tk k
theorem days_le {a b : Nat} (ha : a < 2 ^ 30) (hb : b < 2 ^ 30) : nI b - nI a ≤ 0 ↔ ¬ a < b := by
  rw [Int32.le_iff_toInt_le, pk_sub_toInt hb ha]
  simp
  omega
theorem days_ne {a b : Nat} (ha : a < 2 ^ 30) (hb : b < 2 ^ 30) (h : a < b) : ¬ nI b - nI a = 0 := by
  intro q
  have := congrArg Int32.toInt q
  rw [pk_sub_toInt hb ha] at this
  simp at this
  omega
theorem k_X2_greatestGrowth (f13 : C 13 = some (oMa ad nm)) (f14 : C 14 = some (eI g 20 (fun i => nI (md i)))) (f15 : C 15 = some (eI g 600 tk)) (hn : nm ≤ 20) (hmd : ∀ i, i < nm → md i ≤ 5000) : Cr l g yX2_greatestGrowth cX2_greatestGrowth 4 (some .int) 5 [.ref (ad 13)] ad C (.int (grG md tk (nm - 1))) := by
  refine Ct_of [some (.ref (ad 13)), none, none, none] (by decide) rfl rfl (Nat.le_of_ble_eq_true rfl) rfl rfl (fun X hX h => ?_)
  subst hX
  have lp : ∀ m i z, i + 1 + m = nm ∨ (m = 0 ∧ nm = 0 ∧ i = 0) → J X g 4 (QR X g ad C (.int (grG md tk (nm - 1)))) 0 0 ad C 4 [some (.ref (ad 13)), some (.int (grG md tk i)), some (.int (nI (i + 1))), z] [] := by
    intro m
    induction m with
    | zero =>
      intro i z hi
      refine j_iload2 (pc := 4) h dX2_greatestGrowth_4 ?_
      refine j_aload0 (pc := 5) h dX2_greatestGrowth_5 ?_
      refine j_getf (pc := 6) h dX2_greatestGrowth_6 (f13) fl_X2_18 rfl ?_
      refine j_icmp_ge (pc := 9) (tgt := 54) h dX2_greatestGrowth_9 (by decide) (fun c9 => ?_) (fun c9 => absurd (nI_le (by omega) (by omega)) c9)
      refine j_iload1 (pc := 54) h dX2_greatestGrowth_54 ?_
      refine j_iretr (pc := 55) h dX2_greatestGrowth_55 (by rw [show i = nm - 1 by omega])
    | succ m ih =>
      intro i z hi
      have h1 := hmd i (by omega)
      have h2 := hmd (i + 1) (by omega)
      refine j_iload2 (pc := 4) h dX2_greatestGrowth_4 ?_
      refine j_aload0 (pc := 5) h dX2_greatestGrowth_5 ?_
      refine j_getf (pc := 6) h dX2_greatestGrowth_6 (f13) fl_X2_18 rfl ?_
      refine j_icmp_ge (pc := 9) (tgt := 54) h dX2_greatestGrowth_9 (by decide) (fun c9 => absurd c9 (nI_ge (by omega) (by omega))) (fun c9 => ?_)
      refine j_aload0 (pc := 12) h dX2_greatestGrowth_12 ?_
      refine j_getf (pc := 13) h dX2_greatestGrowth_13 (f13) fl_X2_9 rfl ?_
      refine j_iload2 (pc := 16) h dX2_greatestGrowth_16 ?_
      refine j_iald (pc := 17) h dX2_greatestGrowth_17 (f14) (by omega) (by decide) ?_
      refine j_aload0 (pc := 18) h dX2_greatestGrowth_18 ?_
      refine j_getf (pc := 19) h dX2_greatestGrowth_19 (f13) fl_X2_9 rfl ?_
      refine j_iload2 (pc := 22) h dX2_greatestGrowth_22 ?_
      refine j_iconst (pc := 23) h dX2_greatestGrowth_23 ic_1 ?_
      refine j_isub1 (pc := 24) h dX2_greatestGrowth_24 ?_
      refine j_iald (pc := 25) h dX2_greatestGrowth_25 (f14) (by omega) (by decide) ?_
      refine j_isub (pc := 26) h dX2_greatestGrowth_26 ?_
      refine j_istore3 (pc := 27) h dX2_greatestGrowth_27 rfl ?_
      refine j_iload3 (pc := 28) h dX2_greatestGrowth_28 ?_
      refine j_if_le (pc := 29) (tgt := 48) h dX2_greatestGrowth_29 (by decide) (fun c29 => ?_) (fun c29 => ?_)
      · refine j_iinc2 (pc := 48) h dX2_greatestGrowth_48 rfl (inc_n _) ?_
        refine j_goto (pc := 51) (tgt := 4) h dX2_greatestGrowth_51 (by decide) ?_
        rw [show grG md tk i = grG md tk (i + 1) from by rw [grG, if_neg ((days_le (by omega) (by omega)).mp c29)]]
        exact ih (i + 1) _ (by omega)
      · have hd : md i < md (i + 1) := Decidable.byContradiction (fun q => c29 ((days_le (by omega) (by omega)).mpr q))
        refine j_iload1 (pc := 32) h dX2_greatestGrowth_32 ?_
        refine j_aload0 (pc := 33) h dX2_greatestGrowth_33 ?_
        refine j_iload2 (pc := 34) h dX2_greatestGrowth_34 ?_
        refine j_callVr (pc := 35) h dX2_greatestGrowth_35 (k_X2_moreAt f13 f15 hn (by omega)) mv_X2_26 (f13) rfl rfl (by decide) (Nat.le_of_ble_eq_true rfl) (Nat.le_of_ble_eq_true rfl) (Nat.le_of_ble_eq_true rfl) ?_
        refine j_ineg (pc := 38) h dX2_greatestGrowth_38 ?_
        refine j_iload3 (pc := 39) h dX2_greatestGrowth_39 ?_
        refine j_callSr (pc := 40) h dX2_greatestGrowth_40 (k_J9_floorDiv_7cf53 (days_ne (by omega) (by omega) hd)) ms_X2_30 rfl rfl (by decide) (Nat.le_of_ble_eq_true rfl) (Nat.le_of_ble_eq_true rfl) (Nat.le_of_ble_eq_true rfl) ?_
        refine j_ineg (pc := 43) h dX2_greatestGrowth_43 ?_
        refine j_callSr (pc := 44) h dX2_greatestGrowth_44 (k_J9_max_7cf53) ms_X2_39 rfl rfl (by decide) (Nat.le_of_ble_eq_true rfl) (Nat.le_of_ble_eq_true rfl) (Nat.le_of_ble_eq_true rfl) ?_
        refine j_istore1 (pc := 47) h dX2_greatestGrowth_47 rfl ?_
        refine j_iinc2 (pc := 48) h dX2_greatestGrowth_48 rfl (inc_n _) ?_
        refine j_goto (pc := 51) (tgt := 4) h dX2_greatestGrowth_51 (by decide) ?_
        have ih' := ih (i + 1)
        rw [show grG md tk (i + 1) = if grG md tk i < -fdv (-(tk ((i + 1) * 30) - tk (i * 30))) (nI (md (i + 1)) - nI (md i)) then -fdv (-(tk ((i + 1) * 30) - tk (i * 30))) (nI (md (i + 1)) - nI (md i)) else grG md tk i from by rw [grG, if_pos hd]] at ih'
        exact ih' _ (by omega)
  refine j_iconst (pc := 0) h dX2_greatestGrowth_0 ic_0 ?_
  refine j_istore1 (pc := 1) h dX2_greatestGrowth_1 rfl ?_
  refine j_iconst (pc := 2) h dX2_greatestGrowth_2 ic_1 ?_
  refine j_istore2 (pc := 3) h dX2_greatestGrowth_3 rfl ?_
  exact lp (nm - 1) 0 none (by omega)
theorem k_X2_leastGrowth (f13 : C 13 = some (oMa ad nm)) (f14 : C 14 = some (eI g 20 (fun i => nI (md i)))) (f15 : C 15 = some (eI g 600 tk)) (hn : nm ≤ 20) (hmd : ∀ i, i < nm → md i ≤ 5000) : Cr l g yX2_leastGrowth cX2_leastGrowth 6 (some .int) 5 [.ref (ad 13)] ad C (.int (grL md tk (nm - 1))) := by
  refine Ct_of [some (.ref (ad 13)), none, none, none, none, none] (by decide) rfl rfl (Nat.le_of_ble_eq_true rfl) rfl rfl (fun X hX h => ?_)
  subst hX
  have lp : ∀ m i z z2, i + 1 + m = nm ∨ (m = 0 ∧ nm = 0 ∧ i = 0) → J X g 6 (QR X g ad C (.int (grL md tk (nm - 1)))) 0 0 ad C 6 [some (.ref (ad 13)), some (.int (grL md tk i)), some (.int (bI (anyD md i))), some (.int (nI (i + 1))), z, z2] [] := by
    intro m
    induction m with
    | zero =>
      intro i z z2 hi
      refine j_iload3 (pc := 6) h dX2_leastGrowth_6 ?_
      refine j_aload0 (pc := 7) h dX2_leastGrowth_7 ?_
      refine j_getf (pc := 8) h dX2_leastGrowth_8 (f13) fl_X2_18 rfl ?_
      refine j_icmp_ge (pc := 11) (tgt := 72) h dX2_leastGrowth_11 (by decide) (fun c11 => ?_) (fun c11 => absurd (nI_le (by omega) (by omega)) c11)
      refine j_iload1 (pc := 72) h dX2_leastGrowth_72 ?_
      refine j_iretr (pc := 73) h dX2_leastGrowth_73 (by rw [show i = nm - 1 by omega])
    | succ m ih =>
      intro i z z2 hi
      have h1 := hmd i (by omega)
      have h2 := hmd (i + 1) (by omega)
      refine j_iload3 (pc := 6) h dX2_leastGrowth_6 ?_
      refine j_aload0 (pc := 7) h dX2_leastGrowth_7 ?_
      refine j_getf (pc := 8) h dX2_leastGrowth_8 (f13) fl_X2_18 rfl ?_
      refine j_icmp_ge (pc := 11) (tgt := 72) h dX2_leastGrowth_11 (by decide) (fun c11 => absurd c11 (nI_ge (by omega) (by omega))) (fun c11 => ?_)
      refine j_aload0 (pc := 14) h dX2_leastGrowth_14 ?_
      refine j_getf (pc := 15) h dX2_leastGrowth_15 (f13) fl_X2_9 rfl ?_
      refine j_iload3 (pc := 18) h dX2_leastGrowth_18 ?_
      refine j_iald (pc := 19) h dX2_leastGrowth_19 (f14) (by omega) (by decide) ?_
      refine j_aload0 (pc := 20) h dX2_leastGrowth_20 ?_
      refine j_getf (pc := 21) h dX2_leastGrowth_21 (f13) fl_X2_9 rfl ?_
      refine j_iload3 (pc := 24) h dX2_leastGrowth_24 ?_
      refine j_iconst (pc := 25) h dX2_leastGrowth_25 ic_1 ?_
      refine j_isub1 (pc := 26) h dX2_leastGrowth_26 ?_
      refine j_iald (pc := 27) h dX2_leastGrowth_27 (f14) (by omega) (by decide) ?_
      refine j_isub (pc := 28) h dX2_leastGrowth_28 ?_
      refine j_istore4 (pc := 29) h dX2_leastGrowth_29 rfl ?_
      refine j_iload4 (pc := 31) h dX2_leastGrowth_31 ?_
      refine j_if_le (pc := 33) (tgt := 66) h dX2_leastGrowth_33 (by decide) (fun c33 => ?_) (fun c33 => ?_)
      · have hd := (days_le (by omega) (by omega)).mp c33
        refine j_iinc3 (pc := 66) h dX2_leastGrowth_66 rfl (inc_n _) ?_
        refine j_goto (pc := 69) (tgt := 6) h dX2_leastGrowth_69 (by decide) ?_
        rw [show grL md tk i = grL md tk (i + 1) from by rw [grL, if_neg hd], show anyD md i = anyD md (i + 1) from by simp [anyD, hd]]
        exact ih (i + 1) _ _ (by omega)
      · have hd : md i < md (i + 1) := Decidable.byContradiction (fun q => c33 ((days_le (by omega) (by omega)).mpr q))
        have ha : anyD md (i + 1) = true := by simp [anyD, hd]
        refine j_aload0 (pc := 36) h dX2_leastGrowth_36 ?_
        refine j_iload3 (pc := 37) h dX2_leastGrowth_37 ?_
        refine j_callVr (pc := 38) h dX2_leastGrowth_38 (k_X2_moreAt f13 f15 hn (by omega)) mv_X2_26 (f13) rfl rfl (by decide) (Nat.le_of_ble_eq_true rfl) (Nat.le_of_ble_eq_true rfl) (Nat.le_of_ble_eq_true rfl) ?_
        refine j_iload4 (pc := 41) h dX2_leastGrowth_41 ?_
        refine j_callSr (pc := 43) h dX2_leastGrowth_43 (k_J9_floorDiv_7cf53 (days_ne (by omega) (by omega) hd)) ms_X2_30 rfl rfl (by decide) (Nat.le_of_ble_eq_true rfl) (Nat.le_of_ble_eq_true rfl) (Nat.le_of_ble_eq_true rfl) ?_
        refine j_istore5 (pc := 46) h dX2_leastGrowth_46 rfl ?_
        refine j_iload2 (pc := 48) h dX2_leastGrowth_48 ?_
        refine j_if_eqB (pc := 49) (tgt := 61) h dX2_leastGrowth_49 (by decide) (fun c49 => ?_) (fun c49 => ?_)
        · refine j_iload5 (pc := 61) h dX2_leastGrowth_61 ?_
          refine j_istore1 (pc := 63) h dX2_leastGrowth_63 rfl ?_
          refine j_iconst (pc := 64) h dX2_leastGrowth_64 ic_1 ?_
          refine j_istore2 (pc := 65) h dX2_leastGrowth_65 rfl ?_
          refine j_iinc3 (pc := 66) h dX2_leastGrowth_66 rfl (inc_n _) ?_
          refine j_goto (pc := 69) (tgt := 6) h dX2_leastGrowth_69 (by decide) ?_
          have ih' := ih (i + 1)
          rw [show grL md tk (i + 1) = fdv (tk ((i + 1) * 30) - tk (i * 30)) (nI (md (i + 1)) - nI (md i)) from by rw [grL, if_pos hd]; simp [c49], ha] at ih'
          exact ih' _ _ (by omega)
        · refine j_iload1 (pc := 52) h dX2_leastGrowth_52 ?_
          refine j_iload5 (pc := 53) h dX2_leastGrowth_53 ?_
          refine j_callSr (pc := 55) h dX2_leastGrowth_55 (k_J9_min_7cf53) ms_X2_36 rfl rfl (by decide) (Nat.le_of_ble_eq_true rfl) (Nat.le_of_ble_eq_true rfl) (Nat.le_of_ble_eq_true rfl) ?_
          refine j_goto (pc := 58) (tgt := 63) h dX2_leastGrowth_58 (by decide) ?_
          refine j_istore1 (pc := 63) h dX2_leastGrowth_63 rfl ?_
          refine j_iconst (pc := 64) h dX2_leastGrowth_64 ic_1 ?_
          refine j_istore2 (pc := 65) h dX2_leastGrowth_65 rfl ?_
          refine j_iinc3 (pc := 66) h dX2_leastGrowth_66 rfl (inc_n _) ?_
          refine j_goto (pc := 69) (tgt := 6) h dX2_leastGrowth_69 (by decide) ?_
          have ih' := ih (i + 1)
          rw [show grL md tk (i + 1) = if fdv (tk ((i + 1) * 30) - tk (i * 30)) (nI (md (i + 1)) - nI (md i)) < grL md tk i then fdv (tk ((i + 1) * 30) - tk (i * 30)) (nI (md (i + 1)) - nI (md i)) else grL md tk i from by rw [grL, if_pos hd]; simp [c49], ha] at ih'
          exact ih' _ _ (by omega)
  refine j_iconst (pc := 0) h dX2_leastGrowth_0 ic_0 ?_
  refine j_istore1 (pc := 1) h dX2_leastGrowth_1 rfl ?_
  refine j_iconst (pc := 2) h dX2_leastGrowth_2 ic_0 ?_
  refine j_istore2 (pc := 3) h dX2_leastGrowth_3 rfl ?_
  refine j_iconst (pc := 4) h dX2_leastGrowth_4 ic_1 ?_
  refine j_istore3 (pc := 5) h dX2_leastGrowth_5 rfl ?_
  exact lp (nm - 1) 0 none none (by omega)
end MA
end
section
theorem dJ13_bitCount_95d88_0 : decode cJ13_bitCount_95d88 0 = .ok (.lload_n 0, 1) := by decide +kernel
theorem dJ13_bitCount_95d88_1 : decode cJ13_bitCount_95d88 1 = .ok (.lload_n 0, 1) := by decide +kernel
theorem dJ13_bitCount_95d88_2 : decode cJ13_bitCount_95d88 2 = .ok (.iconst 1, 1) := by decide +kernel
theorem dJ13_bitCount_95d88_3 : decode cJ13_bitCount_95d88 3 = .ok (.lushr, 1) := by decide +kernel
theorem dJ13_bitCount_95d88_4 : decode cJ13_bitCount_95d88 4 = .ok (.ldc2_w 314, 3) := by decide +kernel
theorem dJ13_bitCount_95d88_7 : decode cJ13_bitCount_95d88 7 = .ok (.land, 1) := by decide +kernel
theorem dJ13_bitCount_95d88_8 : decode cJ13_bitCount_95d88 8 = .ok (.lsub, 1) := by decide +kernel
theorem dJ13_bitCount_95d88_9 : decode cJ13_bitCount_95d88 9 = .ok (.lstore_n 0, 1) := by decide +kernel
theorem dJ13_bitCount_95d88_10 : decode cJ13_bitCount_95d88 10 = .ok (.lload_n 0, 1) := by decide +kernel
theorem dJ13_bitCount_95d88_11 : decode cJ13_bitCount_95d88 11 = .ok (.ldc2_w 316, 3) := by decide +kernel
theorem dJ13_bitCount_95d88_14 : decode cJ13_bitCount_95d88 14 = .ok (.land, 1) := by decide +kernel
theorem dJ13_bitCount_95d88_15 : decode cJ13_bitCount_95d88 15 = .ok (.lload_n 0, 1) := by decide +kernel
theorem dJ13_bitCount_95d88_16 : decode cJ13_bitCount_95d88 16 = .ok (.iconst 2, 1) := by decide +kernel
theorem dJ13_bitCount_95d88_17 : decode cJ13_bitCount_95d88 17 = .ok (.lushr, 1) := by decide +kernel
theorem dJ13_bitCount_95d88_18 : decode cJ13_bitCount_95d88 18 = .ok (.ldc2_w 316, 3) := by decide +kernel
theorem dJ13_bitCount_95d88_21 : decode cJ13_bitCount_95d88 21 = .ok (.land, 1) := by decide +kernel
theorem dJ13_bitCount_95d88_22 : decode cJ13_bitCount_95d88 22 = .ok (.ladd, 1) := by decide +kernel
theorem dJ13_bitCount_95d88_23 : decode cJ13_bitCount_95d88 23 = .ok (.lstore_n 0, 1) := by decide +kernel
theorem dJ13_bitCount_95d88_24 : decode cJ13_bitCount_95d88 24 = .ok (.lload_n 0, 1) := by decide +kernel
theorem dJ13_bitCount_95d88_25 : decode cJ13_bitCount_95d88 25 = .ok (.lload_n 0, 1) := by decide +kernel
theorem dJ13_bitCount_95d88_26 : decode cJ13_bitCount_95d88 26 = .ok (.iconst 4, 1) := by decide +kernel
theorem dJ13_bitCount_95d88_27 : decode cJ13_bitCount_95d88 27 = .ok (.lushr, 1) := by decide +kernel
theorem dJ13_bitCount_95d88_28 : decode cJ13_bitCount_95d88 28 = .ok (.ladd, 1) := by decide +kernel
theorem dJ13_bitCount_95d88_29 : decode cJ13_bitCount_95d88 29 = .ok (.ldc2_w 318, 3) := by decide +kernel
theorem dJ13_bitCount_95d88_32 : decode cJ13_bitCount_95d88 32 = .ok (.land, 1) := by decide +kernel
theorem dJ13_bitCount_95d88_33 : decode cJ13_bitCount_95d88 33 = .ok (.lstore_n 0, 1) := by decide +kernel
theorem dJ13_bitCount_95d88_34 : decode cJ13_bitCount_95d88 34 = .ok (.lload_n 0, 1) := by decide +kernel
theorem dJ13_bitCount_95d88_35 : decode cJ13_bitCount_95d88 35 = .ok (.lload_n 0, 1) := by decide +kernel
theorem dJ13_bitCount_95d88_36 : decode cJ13_bitCount_95d88 36 = .ok (.bipush 8, 2) := by decide +kernel
theorem dJ13_bitCount_95d88_38 : decode cJ13_bitCount_95d88 38 = .ok (.lushr, 1) := by decide +kernel
theorem dJ13_bitCount_95d88_39 : decode cJ13_bitCount_95d88 39 = .ok (.ladd, 1) := by decide +kernel
theorem dJ13_bitCount_95d88_40 : decode cJ13_bitCount_95d88 40 = .ok (.lstore_n 0, 1) := by decide +kernel
theorem dJ13_bitCount_95d88_41 : decode cJ13_bitCount_95d88 41 = .ok (.lload_n 0, 1) := by decide +kernel
theorem dJ13_bitCount_95d88_42 : decode cJ13_bitCount_95d88 42 = .ok (.lload_n 0, 1) := by decide +kernel
theorem dJ13_bitCount_95d88_43 : decode cJ13_bitCount_95d88 43 = .ok (.bipush 16, 2) := by decide +kernel
theorem dJ13_bitCount_95d88_45 : decode cJ13_bitCount_95d88 45 = .ok (.lushr, 1) := by decide +kernel
theorem dJ13_bitCount_95d88_46 : decode cJ13_bitCount_95d88 46 = .ok (.ladd, 1) := by decide +kernel
theorem dJ13_bitCount_95d88_47 : decode cJ13_bitCount_95d88 47 = .ok (.lstore_n 0, 1) := by decide +kernel
theorem dJ13_bitCount_95d88_48 : decode cJ13_bitCount_95d88 48 = .ok (.lload_n 0, 1) := by decide +kernel
theorem dJ13_bitCount_95d88_49 : decode cJ13_bitCount_95d88 49 = .ok (.lload_n 0, 1) := by decide +kernel
theorem dJ13_bitCount_95d88_50 : decode cJ13_bitCount_95d88 50 = .ok (.bipush 32, 2) := by decide +kernel
theorem dJ13_bitCount_95d88_52 : decode cJ13_bitCount_95d88 52 = .ok (.lushr, 1) := by decide +kernel
theorem dJ13_bitCount_95d88_53 : decode cJ13_bitCount_95d88 53 = .ok (.ladd, 1) := by decide +kernel
theorem dJ13_bitCount_95d88_54 : decode cJ13_bitCount_95d88 54 = .ok (.lstore_n 0, 1) := by decide +kernel
theorem dJ13_bitCount_95d88_55 : decode cJ13_bitCount_95d88 55 = .ok (.lload_n 0, 1) := by decide +kernel
theorem dJ13_bitCount_95d88_56 : decode cJ13_bitCount_95d88 56 = .ok (.l2i, 1) := by decide +kernel
theorem dJ13_bitCount_95d88_57 : decode cJ13_bitCount_95d88 57 = .ok (.bipush 127, 2) := by decide +kernel
theorem dJ13_bitCount_95d88_59 : decode cJ13_bitCount_95d88 59 = .ok (.iand, 1) := by decide +kernel
theorem dJ13_bitCount_95d88_60 : decode cJ13_bitCount_95d88 60 = .ok (.ireturn, 1) := by decide +kernel
/-! Bits of longs (the family wb_ is the kit's, pasted), and Long.bitCount -/
theorem wb_tb (n : Nat) : (lN n).toBitVec = BitVec.ofNat 64 n := rfl
theorem wb_inj {a b : Int64} (h : a.toBitVec = b.toBitVec) : a = b := Int64.toBitVec_inj.mp h
theorem wb_tn {n : Nat} (h : n < 2 ^ 64) : (lN n).toBitVec.toNat = n := by rw [wb_tb, BitVec.toNat_ofNat, Nat.mod_eq_of_lt h]
theorem wb_of (x : Int64) : ∃ n, n < 2 ^ 64 ∧ x = lN n := ⟨x.toBitVec.toNat, x.toBitVec.isLt, wb_inj (by rw [wb_tb]; simp)⟩
theorem wb_of32 (x : Int32) : ∃ n, n < 2 ^ 32 ∧ x = nI n := ⟨x.toBitVec.toNat, x.toBitVec.isLt, Int32.toBitVec_inj.mp (by show _ = BitVec.ofNat 32 _; simp)⟩
theorem wb_c : ∀ k, k < 64 → ((nI k).toInt64 &&& 63) = lN k := by decide +kernel
theorem wb_cu : ∀ k, k < 64 → ((nI k).toInt64.toUInt64 &&& Int64.toUInt64 63) = UInt64.ofNat k := by decide +kernel
theorem wb_sm : ∀ k, k < 64 → (BitVec.ofNat 64 k).smod 64 = BitVec.ofNat 64 k := by decide +kernel
theorem wb_pw {a b : Nat} (h : a ≤ b) : 2 ^ b = 2 ^ a * 2 ^ (b - a) := by rw [← Nat.pow_add]; congr 1; omega
theorem wb_lt2 {a b : Nat} (h : a < b) : 2 ^ a < 2 ^ b := Nat.pow_lt_pow_right (by decide) h
theorem wb_mod (n : Nat) : lN n = lN (n % 2 ^ 64) := wb_inj (by rw [wb_tb, wb_tb]; apply BitVec.eq_of_toNat_eq; rw [BitVec.toNat_ofNat, BitVec.toNat_ofNat, Nat.mod_mod])
theorem wb_shr {n k : Nat} (hn : n < 2 ^ 64) (hk : k < 64) : ((lN n).toUInt64 >>> ((nI k).toInt64.toUInt64 &&& Int64.toUInt64 63)).toInt64 = lN (n / 2 ^ k) := by
  rw [wb_cu k hk]
  apply wb_inj
  apply BitVec.eq_of_toNat_eq
  show ((lN n).toUInt64 >>> UInt64.ofNat k).toNat = (BitVec.ofNat 64 _).toNat
  have h1 : (UInt64.ofNat k).toNat = k := by
    show (BitVec.ofNat 64 k).toNat = k
    rw [BitVec.toNat_ofNat, Nat.mod_eq_of_lt (by omega)]
  have h2 : (lN n).toUInt64.toNat = n := wb_tn hn
  rw [UInt64.toNat_shiftRight, h1, h2, Nat.mod_eq_of_lt hk, Nat.shiftRight_eq_div_pow, BitVec.toNat_ofNat, Nat.mod_eq_of_lt (Nat.lt_of_le_of_lt (Nat.div_le_self _ _) hn)]
theorem wb_shl (n : Nat) {k : Nat} (hk : k < 64) : lN n <<< ((nI k).toInt64 &&& 63) = lN (n * 2 ^ k) := by
  rw [wb_c k hk]
  apply wb_inj
  rw [Int64.toBitVec_shiftLeft, wb_tb, wb_tb, wb_tb, wb_sm k hk]
  apply BitVec.eq_of_toNat_eq
  rw [BitVec.shiftLeft_eq', BitVec.toNat_shiftLeft, BitVec.toNat_ofNat, BitVec.toNat_ofNat, BitVec.toNat_ofNat, Nat.mod_eq_of_lt (show k < 2 ^ 64 by omega), Nat.shiftLeft_eq, Nat.mul_mod, Nat.mod_mod, ← Nat.mul_mod]
theorem wb_and {a b : Nat} (ha : a < 2 ^ 64) (hb : b < 2 ^ 64) : lN a &&& lN b = lN (a &&& b) := by
  apply wb_inj
  rw [Int64.toBitVec_and, wb_tb, wb_tb, wb_tb]
  apply BitVec.eq_of_toNat_eq
  rw [BitVec.toNat_and, BitVec.toNat_ofNat, BitVec.toNat_ofNat, BitVec.toNat_ofNat, Nat.mod_eq_of_lt ha, Nat.mod_eq_of_lt hb, Nat.mod_eq_of_lt (Nat.and_lt_two_pow _ hb)]
theorem wb_or {a b : Nat} (ha : a < 2 ^ 64) (hb : b < 2 ^ 64) : lN a ||| lN b = lN (a ||| b) := by
  apply wb_inj
  rw [Int64.toBitVec_or, wb_tb, wb_tb, wb_tb]
  apply BitVec.eq_of_toNat_eq
  rw [BitVec.toNat_or, BitVec.toNat_ofNat, BitVec.toNat_ofNat, BitVec.toNat_ofNat, Nat.mod_eq_of_lt ha, Nat.mod_eq_of_lt hb, Nat.mod_eq_of_lt (Nat.or_lt_two_pow ha hb)]
theorem wb_mask {n k : Nat} (hn : n < 2 ^ 64) (hk : k < 64) : lN n &&& lN (2 ^ k - 1) = lN (n % 2 ^ k) := by
  rw [wb_and hn (by have := wb_lt2 hk; omega), Nat.and_two_pow_sub_one_eq_mod]
theorem wb_a1 {n : Nat} (hn : n < 2 ^ 64) : lN n &&& 1 = lN (n % 2) := wb_mask (k := 1) hn (by decide)
theorem wb_bit {n k : Nat} (hn : n < 2 ^ 64) (hk : k < 64) : ((lN n).toUInt64 >>> ((nI k).toInt64.toUInt64 &&& Int64.toUInt64 63)).toInt64 &&& 1 = lN (n / 2 ^ k % 2) := by
  rw [wb_shr hn hk, wb_a1 (Nat.lt_of_le_of_lt (Nat.div_le_self _ _) hn)]
theorem cnt_split (p : Nat → Bool) (m : Nat) : ∀ n, cnt p (m + n) = cnt p m + cnt (fun i => p (m + i)) n
  | 0 => rfl
  | n + 1 => by rw [← Nat.add_assoc, cnt, cnt_split p m n, cnt]; omega
def mk8 (c : Nat) : Nat → Nat
  | 0 => 0
  | k + 1 => 256 * mk8 c k + c
theorem and_split (a c : Nat) {b d : Nat} (hb : b < 256) (hd : d < 256) : (256 * a + b) &&& (256 * c + d) = 256 * (a &&& c) + (b &&& d) := by
  have e1 : ((256 * a + b) &&& (256 * c + d)) / 2 ^ 8 = a &&& c := by
    rw [Nat.and_div_two_pow]
    congr 1 <;> omega
  have e2 : ((256 * a + b) &&& (256 * c + d)) % 2 ^ 8 = b &&& d := by
    rw [Nat.and_mod_two_pow]
    congr 1 <;> omega
  have := Nat.div_add_mod ((256 * a + b) &&& (256 * c + d)) (2 ^ 8)
  rw [e1, e2] at this
  omega
def ps1 (k n : Nat) : Nat := n - ((n / 2) &&& mk8 0x55 k)
def ps2 (k n : Nat) : Nat := (n &&& mk8 0x33 k) + ((n / 4) &&& mk8 0x33 k)
def ps3 (k n : Nat) : Nat := (n + n / 16) &&& mk8 0x0f k
theorem fin1 : ∀ r, r < 2 → ∀ b, b < 256 → (128 * r + b / 2) &&& 0x55 = (b / 2) &&& 0x55 := by decide +kernel
theorem fin2 : ∀ r, r < 4 → ∀ b, b < 256 → (64 * r + b / 4) &&& 0x33 = (b / 4) &&& 0x33 := by decide +kernel
def pb1 (b : Nat) : Nat := b - ((b / 2) &&& 0x55)
def pb2 (b : Nat) : Nat := (pb1 b &&& 0x33) + ((pb1 b / 4) &&& 0x33)
def pop8 (b : Nat) : Nat := cnt (fun i => b.testBit i) 8
theorem fin3 : ∀ r, r < 5 → ∀ b, b < 256 → pb2 b + (16 * r + pb2 b / 16) < 256 ∧ (pb2 b + (16 * r + pb2 b / 16)) &&& 0x0f = pop8 b := by decide +kernel
theorem fin4 : ∀ b, b < 256 → pb1 b < 256 ∧ pb2 b % 16 < 5 ∧ pb2 b < 256 := by decide +kernel
theorem ps1_s (k h b : Nat) (hb : b < 256) : ps1 (k + 1) (256 * h + b) = 256 * ps1 k h + pb1 b := by
  unfold ps1 pb1
  rw [show (256 * h + b) / 2 = 256 * (h / 2) + (128 * (h % 2) + b / 2) by omega, mk8, and_split _ _ (by omega) (by omega), fin1 _ (by omega) _ hb]
  have h1 : (h / 2) &&& mk8 0x55 k ≤ h / 2 := Nat.and_le_left
  have h2 : (b / 2) &&& 0x55 ≤ b / 2 := Nat.and_le_left
  omega
theorem ps2_s (k h b : Nat) (hb : b < 256) : ps2 (k + 1) (256 * h + b) = 256 * ps2 k h + ((b &&& 0x33) + ((b / 4) &&& 0x33)) := by
  unfold ps2
  rw [show (256 * h + b) / 4 = 256 * (h / 4) + (64 * (h % 4) + b / 4) by omega, mk8, and_split _ _ hb (by omega), and_split _ _ (by omega) (by omega), fin2 _ (by omega) _ hb]
  omega
theorem pt2_s (k h b : Nat) (hb : b < 256) : ps2 (k + 1) (ps1 (k + 1) (256 * h + b)) = 256 * ps2 k (ps1 k h) + pb2 b := by
  rw [ps1_s k h b hb, ps2_s k _ _ (fin4 b hb).1]; rfl
theorem pt2_low : ∀ k n, n < 256 ^ k → ps2 k (ps1 k n) % 16 < 5
  | 0, n, h => by
    have : n = 0 := by simpa using h
    subst this; decide
  | k + 1, n, h => by
    have e : n = 256 * (n / 256) + n % 256 := by omega
    rw [e, pt2_s k _ _ (Nat.mod_lt _ (by decide))]
    have := (fin4 (n % 256) (Nat.mod_lt _ (by decide))).2.1
    omega
def pT (k n : Nat) : Nat := ps3 k (ps2 k (ps1 k n))
theorem pT_s (k n : Nat) (hn : n < 256 ^ (k + 1)) : pT (k + 1) n = 256 * pT k (n / 256) + pop8 (n % 256) := by
  have hb : n % 256 < 256 := Nat.mod_lt _ (by decide)
  have hh : n / 256 < 256 ^ k := by
    rw [Nat.pow_succ] at hn
    exact Nat.div_lt_of_lt_mul (by rw [Nat.mul_comm]; exact hn)
  have e : n = 256 * (n / 256) + n % 256 := by omega
  have hl := pt2_low k _ hh
  unfold pT
  conv => lhs; rw [e, pt2_s k _ _ hb]
  unfold ps3
  generalize ps2 k (ps1 k (n / 256)) = z at hl
  obtain ⟨f1, f2⟩ := fin3 (z % 16) hl _ hb
  rw [show 256 * z + pb2 (n % 256) + (256 * z + pb2 (n % 256)) / 16 = 256 * (z + z / 16) + (pb2 (n % 256) + (16 * (z % 16) + pb2 (n % 256) / 16)) by omega, mk8, and_split _ _ f1 (by decide), f2]
theorem pop8_le : ∀ b, b < 256 → pop8 b ≤ 8 := by decide +kernel
theorem cnt_byte (n k : Nat) : cnt (fun i => n.testBit i) (8 + k) = pop8 (n % 256) + cnt (fun i => (n / 256).testBit i) k := by
  rw [cnt_split]
  congr 1
  · refine cnt_cong (fun i hi => ?_)
    rw [show 256 = 2 ^ 8 from rfl, Nat.testBit_mod_two_pow]
    simp [hi]
  · refine cnt_cong (fun i hi => ?_)
    rw [show 256 = 2 ^ 8 from rfl, Nat.testBit_div_two_pow, Nat.add_comm]
def pfin (x : Nat) : Nat := (x + x / 256 + (x + x / 256) / 65536 + (x + x / 256 + (x + x / 256) / 65536) / 4294967296) % 128
theorem dv8 {x X a : Nat} (h : x = 256 * X + a) (ha : a < 256) : x / 256 = X := by omega
theorem ad8 {x y X Y a b : Nat} (h : x = 256 * X + a) (h2 : y = 256 * Y + b) : x + y = 256 * (X + Y) + (a + b) := by omega
theorem md8 {x y X Y a b : Nat} (h : x = 256 * X + a) (h2 : y = 256 * Y + b) (hab : a + b < 128) : (x + y) % 128 = a + b := by omega
theorem lt8 {a b : Nat} {m n : Nat} (ha : a ≤ m) (hb : b ≤ n) : a + b ≤ m + n := Nat.add_le_add ha hb
theorem pfin_ok {A0 A1 A2 A3 A4 A5 A6 A7 a b c d e f g h : Nat} (r0 : A0 = 256 * A1 + a) (r1 : A1 = 256 * A2 + b) (r2 : A2 = 256 * A3 + c) (r3 : A3 = 256 * A4 + d) (r4 : A4 = 256 * A5 + e) (r5 : A5 = 256 * A6 + f) (r6 : A6 = 256 * A7 + g) (r7 : A7 = 256 * 0 + h) (ha : a ≤ 8) (hb : b ≤ 8) (hc : c ≤ 8) (hd : d ≤ 8) (he : e ≤ 8) (hf : f ≤ 8) (hg : g ≤ 8) (hh : h ≤ 8) : pfin A0 = ((a + b) + (c + d)) + ((e + f) + (g + h)) := by
  have r8 : (0 : Nat) = 256 * 0 + 0 := rfl
  have B0 := ad8 r0 r1
  have B1 := ad8 r1 r2
  have B2 := ad8 r2 r3
  have B3 := ad8 r3 r4
  have B4 := ad8 r4 r5
  have B5 := ad8 r5 r6
  have B6 := ad8 r6 r7
  have B7 := ad8 r7 r8
  have C0 := ad8 B0 B2
  have C1 := ad8 B1 B3
  have C2 := ad8 B2 B4
  have C3 := ad8 B3 B5
  have C4 := ad8 B4 B6
  have e1 : A0 / 256 = A1 := dv8 r0 (by clear r0 r1 r2 r3 r4 r5 r6 r7 B0 B1 B2 B3 B4 B5 B6 B7 C0 C1 C2 C3 C4; omega)
  have e2 : (A0 + A1) / 65536 = A2 + A3 := by
    rw [show (65536 : Nat) = 256 * 256 from rfl, ← Nat.div_div_eq_div_mul, dv8 B0 (by clear r0 r1 r2 r3 r4 r5 r6 r7 B0 B1 B2 B3 B4 B5 B6 B7 C0 C1 C2 C3 C4; omega), dv8 B1 (by clear r0 r1 r2 r3 r4 r5 r6 r7 B0 B1 B2 B3 B4 B5 B6 B7 C0 C1 C2 C3 C4; omega)]
  have e3 : (A0 + A1 + (A2 + A3)) / 4294967296 = A4 + A5 + (A6 + A7) := by
    rw [show (4294967296 : Nat) = 256 * 256 * 256 * 256 from rfl, ← Nat.div_div_eq_div_mul, ← Nat.div_div_eq_div_mul, ← Nat.div_div_eq_div_mul, dv8 C0 (by clear r0 r1 r2 r3 r4 r5 r6 r7 B0 B1 B2 B3 B4 B5 B6 B7 C0 C1 C2 C3 C4; omega), dv8 C1 (by clear r0 r1 r2 r3 r4 r5 r6 r7 B0 B1 B2 B3 B4 B5 B6 B7 C0 C1 C2 C3 C4; omega), dv8 C2 (by clear r0 r1 r2 r3 r4 r5 r6 r7 B0 B1 B2 B3 B4 B5 B6 B7 C0 C1 C2 C3 C4; omega), dv8 C3 (by clear r0 r1 r2 r3 r4 r5 r6 r7 B0 B1 B2 B3 B4 B5 B6 B7 C0 C1 C2 C3 C4; omega)]
  unfold pfin
  rw [e1, e2, e3]
  exact md8 C0 C4 (by clear r0 r1 r2 r3 r4 r5 r6 r7 B0 B1 B2 B3 B4 B5 B6 B7 C0 C1 C2 C3 C4; omega)
theorem pT_all (n : Nat) (hn : n < 2 ^ 64) : pfin (pT 8 n) = cnt (fun i => n.testBit i) 64 ∧ pT 8 n ≤ 578721382704613384 := by
  have q0 := pT_s 7 n (by omega)
  have q1 := pT_s 6 (n / 256) (by omega)
  have q2 := pT_s 5 (n / 256 / 256) (by omega)
  have q3 := pT_s 4 (n / 256 / 256 / 256) (by omega)
  have q4 := pT_s 3 (n / 256 / 256 / 256 / 256) (by omega)
  have q5 := pT_s 2 (n / 256 / 256 / 256 / 256 / 256) (by omega)
  have q6 := pT_s 1 (n / 256 / 256 / 256 / 256 / 256 / 256) (by omega)
  have q7 := pT_s 0 (n / 256 / 256 / 256 / 256 / 256 / 256 / 256) (by omega)
  have z0 : pT 0 (n / 256 / 256 / 256 / 256 / 256 / 256 / 256 / 256) = 0 := by
    have : n / 256 / 256 / 256 / 256 / 256 / 256 / 256 / 256 = 0 := by omega
    rw [this]; decide
  rw [z0] at q7
  have b : ∀ m, pop8 (m % 256) ≤ 8 := fun m => pop8_le _ (Nat.mod_lt _ (by decide))
  have b0 := b n
  have b1 := b (n / 256)
  have b2 := b (n / 256 / 256)
  have b3 := b (n / 256 / 256 / 256)
  have b4 := b (n / 256 / 256 / 256 / 256)
  have b5 := b (n / 256 / 256 / 256 / 256 / 256)
  have b6 := b (n / 256 / 256 / 256 / 256 / 256 / 256)
  have b7 := b (n / 256 / 256 / 256 / 256 / 256 / 256 / 256)
  have s7 : pT 1 (n / 256 / 256 / 256 / 256 / 256 / 256 / 256) ≤ 8 := by rw [q7]; omega
  have st : ∀ {x y p M : Nat}, x = 256 * y + p → y ≤ M → p ≤ 8 → x ≤ 256 * M + 8 := fun h1 h2 h3 => by omega
  have s6 := st q6 s7 b6
  have s5 := st q5 s6 b5
  have s4 := st q4 s5 b4
  have s3 := st q3 s4 b3
  have s2 := st q2 s3 b2
  have s1 := st q1 s2 b1
  have s0 := st q0 s1 b0
  refine ⟨?_, s0⟩
  rw [pfin_ok q0 q1 q2 q3 q4 q5 q6 q7 b0 b1 b2 b3 b4 b5 b6 b7]
  rw [show (64 : Nat) = 8 + 56 from rfl, cnt_byte, show (56 : Nat) = 8 + 48 from rfl, cnt_byte, show (48 : Nat) = 8 + 40 from rfl, cnt_byte, show (40 : Nat) = 8 + 32 from rfl, cnt_byte, show (32 : Nat) = 8 + 24 from rfl, cnt_byte, show (24 : Nat) = 8 + 16 from rfl, cnt_byte, show (16 : Nat) = 8 + 8 from rfl, cnt_byte, show cnt (fun i => (n / 256 / 256 / 256 / 256 / 256 / 256 / 256).testBit i) 8 = cnt (fun i => (n / 256 / 256 / 256 / 256 / 256 / 256 / 256).testBit i) (8 + 0) from rfl, cnt_byte]
  simp only [cnt, Nat.add_zero, Nat.add_assoc]
theorem pcn_lN {n : Nat} (hn : n < 2 ^ 64) : pcn (lN n) = cnt (fun i => n.testBit i) 64 := by
  unfold pcn
  refine cnt_cong (fun i hi => ?_)
  rw [wb_tb, BitVec.getLsbD_ofNat]
  simp [hi]
theorem fa_mask' (n k : Nat) : nI n &&& nI (2 ^ k - 1) = nI (n % 2 ^ k) := by
  apply Int32.toBitVec_inj.mp
  rw [Int32.toBitVec_and]
  apply BitVec.eq_of_toNat_eq
  show (BitVec.ofNat 32 n &&& BitVec.ofNat 32 (2 ^ k - 1)).toNat = (BitVec.ofNat 32 (n % 2 ^ k)).toNat
  rw [BitVec.toNat_and, BitVec.toNat_ofNat, BitVec.toNat_ofNat, BitVec.toNat_ofNat, ← Nat.and_mod_two_pow, Nat.and_two_pow_sub_one_eq_mod]
section BC
variable {l : Launch} {g : GG} {ad : AD} {C : CC}
theorem c5_ : (6148914691236517205 : Int64) = lN (mk8 0x55 8) := by decide +kernel
theorem c3_ : (3689348814741910323 : Int64) = lN (mk8 0x33 8) := by decide +kernel
theorem cf_ : (1085102592571150095 : Int64) = lN (mk8 0x0f 8) := by decide +kernel
theorem mk_lt : mk8 0x55 8 < 2 ^ 64 ∧ mk8 0x33 8 < 2 ^ 64 ∧ mk8 0x0f 8 < 2 ^ 64 := by decide +kernel
theorem and_lt {a b : Nat} (hb : b < 2 ^ 64) : a &&& b < 2 ^ 64 := Nat.and_lt_two_pow _ hb
theorem k_J13_bitCount_95d88 {v : Int64} : Cr l g yJ13_bitCount_95d88 cJ13_bitCount_95d88 2 (some .int) 1 [.long v] ad C (.int (nI (pcn v))) := by
  obtain ⟨n, hn, rfl⟩ := wb_of v
  have d64 : ∀ a m : Nat, a < 2 ^ 64 → a / m < 2 ^ 64 := fun a m h => Nat.lt_of_le_of_lt (Nat.div_le_self _ _) h
  have e1 : lN n - ((((lN n).toUInt64 >>> ((nI 1).toInt64.toUInt64 &&& Int64.toUInt64 63)).toInt64) &&& 6148914691236517205) = lN (ps1 8 n) := by
    rw [wb_shr hn (by decide), c5_, wb_and (d64 _ _ hn) mk_lt.1, lN_sub (Nat.le_trans Nat.and_le_left (Nat.div_le_self _ _))]; rfl
  have l1 : ps1 8 n < 2 ^ 64 := Nat.lt_of_le_of_lt (Nat.sub_le _ _) hn
  have a3 : ∀ z, z &&& mk8 0x33 8 ≤ mk8 0x33 8 := fun z => Nat.and_le_right
  have l2 : ps2 8 (ps1 8 n) < 2 ^ 63 := by
    have h1 := a3 (ps1 8 n)
    have h2 := a3 (ps1 8 n / 4)
    have h3 : mk8 0x33 8 = 3689348814741910323 := by decide
    unfold ps2
    omega
  have e2 : (lN (ps1 8 n) &&& 3689348814741910323) + ((((lN (ps1 8 n)).toUInt64 >>> ((nI 2).toInt64.toUInt64 &&& Int64.toUInt64 63)).toInt64) &&& 3689348814741910323) = lN (ps2 8 (ps1 8 n)) := by
    rw [wb_shr l1 (by decide), c3_, wb_and l1 mk_lt.2.1, wb_and (d64 _ _ l1) mk_lt.2.1, lN_add]; rfl
  have e3 : (lN (ps2 8 (ps1 8 n)) + (((lN (ps2 8 (ps1 8 n))).toUInt64 >>> ((nI 4).toInt64.toUInt64 &&& Int64.toUInt64 63)).toInt64)) &&& 1085102592571150095 = lN (pT 8 n) := by
    rw [wb_shr (by omega) (by decide), cf_, lN_add, wb_and (by have : ps2 8 (ps1 8 n) / 2 ^ 4 ≤ ps2 8 (ps1 8 n) := Nat.div_le_self _ _; omega) mk_lt.2.2]; rfl
  obtain ⟨hfin, hle⟩ := pT_all n hn
  have e4 : lN (pT 8 n) + (((lN (pT 8 n)).toUInt64 >>> ((nI 8).toInt64.toUInt64 &&& Int64.toUInt64 63)).toInt64) = lN (pT 8 n + pT 8 n / 256) := by
    rw [wb_shr (by omega) (by decide), lN_add]
  have e5 : lN (pT 8 n + pT 8 n / 256) + (((lN (pT 8 n + pT 8 n / 256)).toUInt64 >>> ((nI 16).toInt64.toUInt64 &&& Int64.toUInt64 63)).toInt64) = lN (pT 8 n + pT 8 n / 256 + (pT 8 n + pT 8 n / 256) / 65536) := by
    rw [wb_shr (by omega) (by decide), lN_add]
  have e6 : lN (pT 8 n + pT 8 n / 256 + (pT 8 n + pT 8 n / 256) / 65536) + (((lN (pT 8 n + pT 8 n / 256 + (pT 8 n + pT 8 n / 256) / 65536)).toUInt64 >>> ((nI 32).toInt64.toUInt64 &&& Int64.toUInt64 63)).toInt64) = lN (pT 8 n + pT 8 n / 256 + (pT 8 n + pT 8 n / 256) / 65536 + (pT 8 n + pT 8 n / 256 + (pT 8 n + pT 8 n / 256) / 65536) / 4294967296) := by
    rw [wb_shr (by omega) (by decide), lN_add]
  refine Ct_ofF [some (.long (lN n)), none] (by decide +kernel) rfl rfl (Nat.le_of_ble_eq_true rfl) rfl rfl (fun X hX h => ?_)
  subst hX
  refine j_lload0 (pc := 0) h dJ13_bitCount_95d88_0 ?_
  refine j_lload0 (pc := 1) h dJ13_bitCount_95d88_1 ?_
  refine j_iconst (pc := 2) h dJ13_bitCount_95d88_2 ic_1 ?_
  refine j_lushr (pc := 3) h dJ13_bitCount_95d88_3 ?_
  refine j_ldc2 (pc := 4) h dJ13_bitCount_95d88_4 kc_J13_314 ?_
  refine j_land (pc := 7) h dJ13_bitCount_95d88_7 ?_
  refine j_lsub (pc := 8) h dJ13_bitCount_95d88_8 ?_
  refine j_topl (e1) ?_
  refine j_lstore0 (pc := 9) h dJ13_bitCount_95d88_9 ?_
  refine j_lload0 (pc := 10) h dJ13_bitCount_95d88_10 ?_
  refine j_ldc2 (pc := 11) h dJ13_bitCount_95d88_11 kc_J13_316 ?_
  refine j_land (pc := 14) h dJ13_bitCount_95d88_14 ?_
  refine j_lload0 (pc := 15) h dJ13_bitCount_95d88_15 ?_
  refine j_iconst (pc := 16) h dJ13_bitCount_95d88_16 ic_2 ?_
  refine j_lushr (pc := 17) h dJ13_bitCount_95d88_17 ?_
  refine j_ldc2 (pc := 18) h dJ13_bitCount_95d88_18 kc_J13_316 ?_
  refine j_land (pc := 21) h dJ13_bitCount_95d88_21 ?_
  refine j_ladd (pc := 22) h dJ13_bitCount_95d88_22 ?_
  refine j_topl (e2) ?_
  refine j_lstore0 (pc := 23) h dJ13_bitCount_95d88_23 ?_
  refine j_lload0 (pc := 24) h dJ13_bitCount_95d88_24 ?_
  refine j_lload0 (pc := 25) h dJ13_bitCount_95d88_25 ?_
  refine j_iconst (pc := 26) h dJ13_bitCount_95d88_26 ic_4 ?_
  refine j_lushr (pc := 27) h dJ13_bitCount_95d88_27 ?_
  refine j_ladd (pc := 28) h dJ13_bitCount_95d88_28 ?_
  refine j_ldc2 (pc := 29) h dJ13_bitCount_95d88_29 kc_J13_318 ?_
  refine j_land (pc := 32) h dJ13_bitCount_95d88_32 ?_
  refine j_topl (e3) ?_
  refine j_lstore0 (pc := 33) h dJ13_bitCount_95d88_33 ?_
  refine j_lload0 (pc := 34) h dJ13_bitCount_95d88_34 ?_
  refine j_lload0 (pc := 35) h dJ13_bitCount_95d88_35 ?_
  refine j_bipush (pc := 36) h dJ13_bitCount_95d88_36 bp_8 ?_
  refine j_lushr (pc := 38) h dJ13_bitCount_95d88_38 ?_
  refine j_ladd (pc := 39) h dJ13_bitCount_95d88_39 ?_
  refine j_topl (e4) ?_
  refine j_lstore0 (pc := 40) h dJ13_bitCount_95d88_40 ?_
  refine j_lload0 (pc := 41) h dJ13_bitCount_95d88_41 ?_
  refine j_lload0 (pc := 42) h dJ13_bitCount_95d88_42 ?_
  refine j_bipush (pc := 43) h dJ13_bitCount_95d88_43 bp_16 ?_
  refine j_lushr (pc := 45) h dJ13_bitCount_95d88_45 ?_
  refine j_ladd (pc := 46) h dJ13_bitCount_95d88_46 ?_
  refine j_topl (e5) ?_
  refine j_lstore0 (pc := 47) h dJ13_bitCount_95d88_47 ?_
  refine j_lload0 (pc := 48) h dJ13_bitCount_95d88_48 ?_
  refine j_lload0 (pc := 49) h dJ13_bitCount_95d88_49 ?_
  refine j_bipush (pc := 50) h dJ13_bitCount_95d88_50 bp_32 ?_
  refine j_lushr (pc := 52) h dJ13_bitCount_95d88_52 ?_
  refine j_ladd (pc := 53) h dJ13_bitCount_95d88_53 ?_
  refine j_topl (e6) ?_
  refine j_lstore0 (pc := 54) h dJ13_bitCount_95d88_54 ?_
  refine j_lload0 (pc := 55) h dJ13_bitCount_95d88_55 ?_
  refine j_l2i (pc := 56) h dJ13_bitCount_95d88_56 ?_
  refine j_bipush (pc := 57) h dJ13_bitCount_95d88_57 bp_127 ?_
  refine j_iand (pc := 59) h dJ13_bitCount_95d88_59 ?_
  refine j_iretr (pc := 60) h dJ13_bitCount_95d88_60 (by rw [lN_i, pcn_lN hn, ← hfin, pfin, show nI 127 = nI (2 ^ 7 - 1) from rfl]; exact fa_mask' _ 7)
end BC
end
section
theorem dX0_init_0 : decode cX0_init 0 = .ok (.aload_n 0, 1) := by decide +kernel
theorem dX0_init_1 : decode cX0_init 1 = .ok (.invokespecial 3, 3) := by decide +kernel
theorem dX0_init_4 : decode cX0_init 4 = .ok (.aload_n 0, 1) := by decide +kernel
theorem dX0_init_5 : decode cX0_init 5 = .ok (.bipush 40, 2) := by decide +kernel
theorem dX0_init_7 : decode cX0_init 7 = .ok (.anewarray 9, 3) := by decide +kernel
theorem dX0_init_10 : decode cX0_init 10 = .ok (.putfield 11, 3) := by decide +kernel
theorem dX0_init_13 : decode cX0_init 13 = .ok (.return_, 1) := by decide +kernel
theorem dX0_hasRoom_0 : decode cX0_hasRoom 0 = .ok (.aload_n 0, 1) := by decide +kernel
theorem dX0_hasRoom_1 : decode cX0_hasRoom 1 = .ok (.getfield 17, 3) := by decide +kernel
theorem dX0_hasRoom_4 : decode cX0_hasRoom 4 = .ok (.bipush 40, 2) := by decide +kernel
theorem dX0_hasRoom_6 : decode cX0_hasRoom 6 = .ok (.if_icmp .ge 7, 3) := by decide +kernel
theorem dX0_hasRoom_9 : decode cX0_hasRoom 9 = .ok (.iconst 1, 1) := by decide +kernel
theorem dX0_hasRoom_10 : decode cX0_hasRoom 10 = .ok (.goto 4, 3) := by decide +kernel
theorem dX0_hasRoom_13 : decode cX0_hasRoom 13 = .ok (.iconst 0, 1) := by decide +kernel
theorem dX0_hasRoom_14 : decode cX0_hasRoom 14 = .ok (.ireturn, 1) := by decide +kernel
theorem dX0_add_0 : decode cX0_add 0 = .ok (.aload_n 0, 1) := by decide +kernel
theorem dX0_add_1 : decode cX0_add 1 = .ok (.invokevirtual 21, 3) := by decide +kernel
theorem dX0_add_4 : decode cX0_add 4 = .ok (.ifCond .ne 5, 3) := by decide +kernel
theorem dX0_add_7 : decode cX0_add 7 = .ok (.iconst (-1), 1) := by decide +kernel
theorem dX0_add_8 : decode cX0_add 8 = .ok (.ireturn, 1) := by decide +kernel
theorem dX0_add_9 : decode cX0_add 9 = .ok (.aload_n 0, 1) := by decide +kernel
theorem dX0_add_10 : decode cX0_add 10 = .ok (.getfield 11, 3) := by decide +kernel
theorem dX0_add_13 : decode cX0_add 13 = .ok (.aload_n 0, 1) := by decide +kernel
theorem dX0_add_14 : decode cX0_add 14 = .ok (.getfield 17, 3) := by decide +kernel
theorem dX0_add_17 : decode cX0_add 17 = .ok (.aload_n 1, 1) := by decide +kernel
theorem dX0_add_18 : decode cX0_add 18 = .ok (.aastore, 1) := by decide +kernel
theorem dX0_add_19 : decode cX0_add 19 = .ok (.aload_n 0, 1) := by decide +kernel
theorem dX0_add_20 : decode cX0_add 20 = .ok (.dup, 1) := by decide +kernel
theorem dX0_add_21 : decode cX0_add 21 = .ok (.getfield 17, 3) := by decide +kernel
theorem dX0_add_24 : decode cX0_add 24 = .ok (.iconst 1, 1) := by decide +kernel
theorem dX0_add_25 : decode cX0_add 25 = .ok (.iadd, 1) := by decide +kernel
theorem dX0_add_26 : decode cX0_add 26 = .ok (.putfield 17, 3) := by decide +kernel
theorem dX0_add_29 : decode cX0_add 29 = .ok (.aload_n 0, 1) := by decide +kernel
theorem dX0_add_30 : decode cX0_add 30 = .ok (.getfield 17, 3) := by decide +kernel
theorem dX0_add_33 : decode cX0_add 33 = .ok (.iconst 1, 1) := by decide +kernel
theorem dX0_add_34 : decode cX0_add 34 = .ok (.isub, 1) := by decide +kernel
theorem dX0_add_35 : decode cX0_add 35 = .ok (.ireturn, 1) := by decide +kernel
theorem dX0_find_0 : decode cX0_find 0 = .ok (.iload_n 1, 1) := by decide +kernel
theorem dX0_find_1 : decode cX0_find 1 = .ok (.ifCond .lt 20, 3) := by decide +kernel
theorem dX0_find_4 : decode cX0_find 4 = .ok (.iload_n 1, 1) := by decide +kernel
theorem dX0_find_5 : decode cX0_find 5 = .ok (.aload_n 0, 1) := by decide +kernel
theorem dX0_find_6 : decode cX0_find 6 = .ok (.getfield 17, 3) := by decide +kernel
theorem dX0_find_9 : decode cX0_find 9 = .ok (.if_icmp .ge 12, 3) := by decide +kernel
theorem dX0_find_12 : decode cX0_find 12 = .ok (.aload_n 0, 1) := by decide +kernel
theorem dX0_find_13 : decode cX0_find 13 = .ok (.getfield 11, 3) := by decide +kernel
theorem dX0_find_16 : decode cX0_find 16 = .ok (.iload_n 1, 1) := by decide +kernel
theorem dX0_find_17 : decode cX0_find 17 = .ok (.aaload, 1) := by decide +kernel
theorem dX0_find_18 : decode cX0_find 18 = .ok (.goto 4, 3) := by decide +kernel
theorem dX0_find_21 : decode cX0_find 21 = .ok (.aconst_null, 1) := by decide +kernel
theorem dX0_find_22 : decode cX0_find 22 = .ok (.areturn, 1) := by decide +kernel
theorem dX0_forget_0 : decode cX0_forget 0 = .ok (.iload_n 1, 1) := by decide +kernel
theorem dX0_forget_1 : decode cX0_forget 1 = .ok (.ifCond .lt 18, 3) := by decide +kernel
theorem dX0_forget_4 : decode cX0_forget 4 = .ok (.iload_n 1, 1) := by decide +kernel
theorem dX0_forget_5 : decode cX0_forget 5 = .ok (.aload_n 0, 1) := by decide +kernel
theorem dX0_forget_6 : decode cX0_forget 6 = .ok (.getfield 17, 3) := by decide +kernel
theorem dX0_forget_9 : decode cX0_forget 9 = .ok (.if_icmp .ge 10, 3) := by decide +kernel
theorem dX0_forget_12 : decode cX0_forget 12 = .ok (.aload_n 0, 1) := by decide +kernel
theorem dX0_forget_13 : decode cX0_forget 13 = .ok (.getfield 11, 3) := by decide +kernel
theorem dX0_forget_16 : decode cX0_forget 16 = .ok (.iload_n 1, 1) := by decide +kernel
theorem dX0_forget_17 : decode cX0_forget 17 = .ok (.aconst_null, 1) := by decide +kernel
theorem dX0_forget_18 : decode cX0_forget 18 = .ok (.aastore, 1) := by decide +kernel
theorem dX0_forget_19 : decode cX0_forget 19 = .ok (.return_, 1) := by decide +kernel
theorem dX0_countThere_0 : decode cX0_countThere 0 = .ok (.iconst 0, 1) := by decide +kernel
theorem dX0_countThere_1 : decode cX0_countThere 1 = .ok (.istore_n 1, 1) := by decide +kernel
theorem dX0_countThere_2 : decode cX0_countThere 2 = .ok (.iconst 0, 1) := by decide +kernel
theorem dX0_countThere_3 : decode cX0_countThere 3 = .ok (.istore_n 2, 1) := by decide +kernel
theorem dX0_countThere_4 : decode cX0_countThere 4 = .ok (.iload_n 2, 1) := by decide +kernel
theorem dX0_countThere_5 : decode cX0_countThere 5 = .ok (.aload_n 0, 1) := by decide +kernel
theorem dX0_countThere_6 : decode cX0_countThere 6 = .ok (.getfield 17, 3) := by decide +kernel
theorem dX0_countThere_9 : decode cX0_countThere 9 = .ok (.if_icmp .ge 20, 3) := by decide +kernel
theorem dX0_countThere_12 : decode cX0_countThere 12 = .ok (.aload_n 0, 1) := by decide +kernel
theorem dX0_countThere_13 : decode cX0_countThere 13 = .ok (.iload_n 2, 1) := by decide +kernel
theorem dX0_countThere_14 : decode cX0_countThere 14 = .ok (.invokevirtual 25, 3) := by decide +kernel
theorem dX0_countThere_17 : decode cX0_countThere 17 = .ok (.ifnull 6, 3) := by decide +kernel
theorem dX0_countThere_20 : decode cX0_countThere 20 = .ok (.iinc 1 1, 3) := by decide +kernel
theorem dX0_countThere_23 : decode cX0_countThere 23 = .ok (.iinc 2 1, 3) := by decide +kernel
theorem dX0_countThere_26 : decode cX0_countThere 26 = .ok (.goto (-22), 3) := by decide +kernel
theorem dX0_countThere_29 : decode cX0_countThere 29 = .ok (.iload_n 1, 1) := by decide +kernel
theorem dX0_countThere_30 : decode cX0_countThere 30 = .ok (.ireturn, 1) := by decide +kernel
theorem dX0_hadBy_0 : decode cX0_hadBy 0 = .ok (.lconst 0, 1) := by decide +kernel
theorem dX0_hadBy_1 : decode cX0_hadBy 1 = .ok (.lstore_n 3, 1) := by decide +kernel
theorem dX0_hadBy_2 : decode cX0_hadBy 2 = .ok (.iconst 0, 1) := by decide +kernel
theorem dX0_hadBy_3 : decode cX0_hadBy 3 = .ok (.istore 5, 2) := by decide +kernel
theorem dX0_hadBy_5 : decode cX0_hadBy 5 = .ok (.iload 5, 2) := by decide +kernel
theorem dX0_hadBy_7 : decode cX0_hadBy 7 = .ok (.aload_n 0, 1) := by decide +kernel
theorem dX0_hadBy_8 : decode cX0_hadBy 8 = .ok (.getfield 17, 3) := by decide +kernel
theorem dX0_hadBy_11 : decode cX0_hadBy 11 = .ok (.if_icmp .ge 39, 3) := by decide +kernel
theorem dX0_hadBy_14 : decode cX0_hadBy 14 = .ok (.aload_n 0, 1) := by decide +kernel
theorem dX0_hadBy_15 : decode cX0_hadBy 15 = .ok (.iload 5, 2) := by decide +kernel
theorem dX0_hadBy_17 : decode cX0_hadBy 17 = .ok (.invokevirtual 25, 3) := by decide +kernel
theorem dX0_hadBy_20 : decode cX0_hadBy 20 = .ok (.astore 6, 2) := by decide +kernel
theorem dX0_hadBy_22 : decode cX0_hadBy 22 = .ok (.aload 6, 2) := by decide +kernel
theorem dX0_hadBy_24 : decode cX0_hadBy 24 = .ok (.ifnull 20, 3) := by decide +kernel
theorem dX0_hadBy_27 : decode cX0_hadBy 27 = .ok (.lload_n 1, 1) := by decide +kernel
theorem dX0_hadBy_28 : decode cX0_hadBy 28 = .ok (.iload 5, 2) := by decide +kernel
theorem dX0_hadBy_30 : decode cX0_hadBy 30 = .ok (.invokestatic 29, 3) := by decide +kernel
theorem dX0_hadBy_33 : decode cX0_hadBy 33 = .ok (.ifCond .eq 11, 3) := by decide +kernel
theorem dX0_hadBy_36 : decode cX0_hadBy 36 = .ok (.lload_n 3, 1) := by decide +kernel
theorem dX0_hadBy_37 : decode cX0_hadBy 37 = .ok (.aload 6, 2) := by decide +kernel
theorem dX0_hadBy_39 : decode cX0_hadBy 39 = .ok (.getfield 33, 3) := by decide +kernel
theorem dX0_hadBy_42 : decode cX0_hadBy 42 = .ok (.lor, 1) := by decide +kernel
theorem dX0_hadBy_43 : decode cX0_hadBy 43 = .ok (.lstore_n 3, 1) := by decide +kernel
theorem dX0_hadBy_44 : decode cX0_hadBy 44 = .ok (.iinc 5 1, 3) := by decide +kernel
theorem dX0_hadBy_47 : decode cX0_hadBy 47 = .ok (.goto (-42), 3) := by decide +kernel
theorem dX0_hadBy_50 : decode cX0_hadBy 50 = .ok (.lload_n 3, 1) := by decide +kernel
theorem dX0_hadBy_51 : decode cX0_hadBy 51 = .ok (.lreturn, 1) := by decide +kernel
theorem dX0_lengthOf_0 : decode cX0_lengthOf 0 = .ok (.iconst 0, 1) := by decide +kernel
theorem dX0_lengthOf_1 : decode cX0_lengthOf 1 = .ok (.istore_n 3, 1) := by decide +kernel
theorem dX0_lengthOf_2 : decode cX0_lengthOf 2 = .ok (.iconst 0, 1) := by decide +kernel
theorem dX0_lengthOf_3 : decode cX0_lengthOf 3 = .ok (.istore 4, 2) := by decide +kernel
theorem dX0_lengthOf_5 : decode cX0_lengthOf 5 = .ok (.iload 4, 2) := by decide +kernel
theorem dX0_lengthOf_7 : decode cX0_lengthOf 7 = .ok (.aload_n 0, 1) := by decide +kernel
theorem dX0_lengthOf_8 : decode cX0_lengthOf 8 = .ok (.getfield 17, 3) := by decide +kernel
theorem dX0_lengthOf_11 : decode cX0_lengthOf 11 = .ok (.if_icmp .ge 39, 3) := by decide +kernel
theorem dX0_lengthOf_14 : decode cX0_lengthOf 14 = .ok (.aload_n 0, 1) := by decide +kernel
theorem dX0_lengthOf_15 : decode cX0_lengthOf 15 = .ok (.iload 4, 2) := by decide +kernel
theorem dX0_lengthOf_17 : decode cX0_lengthOf 17 = .ok (.invokevirtual 25, 3) := by decide +kernel
theorem dX0_lengthOf_20 : decode cX0_lengthOf 20 = .ok (.astore 5, 2) := by decide +kernel
theorem dX0_lengthOf_22 : decode cX0_lengthOf 22 = .ok (.aload 5, 2) := by decide +kernel
theorem dX0_lengthOf_24 : decode cX0_lengthOf 24 = .ok (.ifnull 20, 3) := by decide +kernel
theorem dX0_lengthOf_27 : decode cX0_lengthOf 27 = .ok (.lload_n 1, 1) := by decide +kernel
theorem dX0_lengthOf_28 : decode cX0_lengthOf 28 = .ok (.iload 4, 2) := by decide +kernel
theorem dX0_lengthOf_30 : decode cX0_lengthOf 30 = .ok (.invokestatic 29, 3) := by decide +kernel
theorem dX0_lengthOf_33 : decode cX0_lengthOf 33 = .ok (.ifCond .eq 11, 3) := by decide +kernel
theorem dX0_lengthOf_36 : decode cX0_lengthOf 36 = .ok (.iload_n 3, 1) := by decide +kernel
theorem dX0_lengthOf_37 : decode cX0_lengthOf 37 = .ok (.aload 5, 2) := by decide +kernel
theorem dX0_lengthOf_39 : decode cX0_lengthOf 39 = .ok (.getfield 37, 3) := by decide +kernel
theorem dX0_lengthOf_42 : decode cX0_lengthOf 42 = .ok (.iadd, 1) := by decide +kernel
theorem dX0_lengthOf_43 : decode cX0_lengthOf 43 = .ok (.istore_n 3, 1) := by decide +kernel
theorem dX0_lengthOf_44 : decode cX0_lengthOf 44 = .ok (.iinc 4 1, 3) := by decide +kernel
theorem dX0_lengthOf_47 : decode cX0_lengthOf 47 = .ok (.goto (-42), 3) := by decide +kernel
theorem dX0_lengthOf_50 : decode cX0_lengthOf 50 = .ok (.iload_n 3, 1) := by decide +kernel
theorem dX0_lengthOf_51 : decode cX0_lengthOf 51 = .ok (.ireturn, 1) := by decide +kernel
theorem dX0_byBlocks_0 : decode cX0_byBlocks 0 = .ok (.iconst 0, 1) := by decide +kernel
theorem dX0_byBlocks_1 : decode cX0_byBlocks 1 = .ok (.istore 4, 2) := by decide +kernel
theorem dX0_byBlocks_3 : decode cX0_byBlocks 3 = .ok (.iload 4, 2) := by decide +kernel
theorem dX0_byBlocks_5 : decode cX0_byBlocks 5 = .ok (.aload_n 0, 1) := by decide +kernel
theorem dX0_byBlocks_6 : decode cX0_byBlocks 6 = .ok (.getfield 17, 3) := by decide +kernel
theorem dX0_byBlocks_9 : decode cX0_byBlocks 9 = .ok (.if_icmp .ge 32, 3) := by decide +kernel
theorem dX0_byBlocks_12 : decode cX0_byBlocks 12 = .ok (.lload_n 1, 1) := by decide +kernel
theorem dX0_byBlocks_13 : decode cX0_byBlocks 13 = .ok (.iload 4, 2) := by decide +kernel
theorem dX0_byBlocks_15 : decode cX0_byBlocks 15 = .ok (.invokestatic 29, 3) := by decide +kernel
theorem dX0_byBlocks_18 : decode cX0_byBlocks 18 = .ok (.ifCond .eq 17, 3) := by decide +kernel
theorem dX0_byBlocks_21 : decode cX0_byBlocks 21 = .ok (.aload_n 0, 1) := by decide +kernel
theorem dX0_byBlocks_22 : decode cX0_byBlocks 22 = .ok (.lload_n 1, 1) := by decide +kernel
theorem dX0_byBlocks_23 : decode cX0_byBlocks 23 = .ok (.iload 4, 2) := by decide +kernel
theorem dX0_byBlocks_25 : decode cX0_byBlocks 25 = .ok (.invokevirtual 40, 3) := by decide +kernel
theorem dX0_byBlocks_28 : decode cX0_byBlocks 28 = .ok (.iload_n 3, 1) := by decide +kernel
theorem dX0_byBlocks_29 : decode cX0_byBlocks 29 = .ok (.if_icmp .ne 6, 3) := by decide +kernel
theorem dX0_byBlocks_32 : decode cX0_byBlocks 32 = .ok (.iload 4, 2) := by decide +kernel
theorem dX0_byBlocks_34 : decode cX0_byBlocks 34 = .ok (.ireturn, 1) := by decide +kernel
theorem dX0_byBlocks_35 : decode cX0_byBlocks 35 = .ok (.iinc 4 1, 3) := by decide +kernel
theorem dX0_byBlocks_38 : decode cX0_byBlocks 38 = .ok (.goto (-35), 3) := by decide +kernel
theorem dX0_byBlocks_41 : decode cX0_byBlocks 41 = .ok (.iconst (-1), 1) := by decide +kernel
theorem dX0_byBlocks_42 : decode cX0_byBlocks 42 = .ok (.ireturn, 1) := by decide +kernel
theorem dX0_countAhead_0 : decode cX0_countAhead 0 = .ok (.aload_n 0, 1) := by decide +kernel
theorem dX0_countAhead_1 : decode cX0_countAhead 1 = .ok (.iload_n 3, 1) := by decide +kernel
theorem dX0_countAhead_2 : decode cX0_countAhead 2 = .ok (.invokevirtual 44, 3) := by decide +kernel
theorem dX0_countAhead_5 : decode cX0_countAhead 5 = .ok (.istore 4, 2) := by decide +kernel
theorem dX0_countAhead_7 : decode cX0_countAhead 7 = .ok (.iconst 0, 1) := by decide +kernel
theorem dX0_countAhead_8 : decode cX0_countAhead 8 = .ok (.istore 5, 2) := by decide +kernel
theorem dX0_countAhead_10 : decode cX0_countAhead 10 = .ok (.iconst 0, 1) := by decide +kernel
theorem dX0_countAhead_11 : decode cX0_countAhead 11 = .ok (.istore 6, 2) := by decide +kernel
theorem dX0_countAhead_13 : decode cX0_countAhead 13 = .ok (.iload 6, 2) := by decide +kernel
theorem dX0_countAhead_15 : decode cX0_countAhead 15 = .ok (.aload_n 0, 1) := by decide +kernel
theorem dX0_countAhead_16 : decode cX0_countAhead 16 = .ok (.getfield 17, 3) := by decide +kernel
theorem dX0_countAhead_19 : decode cX0_countAhead 19 = .ok (.if_icmp .ge 49, 3) := by decide +kernel
theorem dX0_countAhead_22 : decode cX0_countAhead 22 = .ok (.lload_n 1, 1) := by decide +kernel
theorem dX0_countAhead_23 : decode cX0_countAhead 23 = .ok (.iload 6, 2) := by decide +kernel
theorem dX0_countAhead_25 : decode cX0_countAhead 25 = .ok (.invokestatic 29, 3) := by decide +kernel
theorem dX0_countAhead_28 : decode cX0_countAhead 28 = .ok (.ifCond .eq 34, 3) := by decide +kernel
theorem dX0_countAhead_31 : decode cX0_countAhead 31 = .ok (.aload_n 0, 1) := by decide +kernel
theorem dX0_countAhead_32 : decode cX0_countAhead 32 = .ok (.iload 6, 2) := by decide +kernel
theorem dX0_countAhead_34 : decode cX0_countAhead 34 = .ok (.invokevirtual 44, 3) := by decide +kernel
theorem dX0_countAhead_37 : decode cX0_countAhead 37 = .ok (.istore 7, 2) := by decide +kernel
theorem dX0_countAhead_39 : decode cX0_countAhead 39 = .ok (.iload 7, 2) := by decide +kernel
theorem dX0_countAhead_41 : decode cX0_countAhead 41 = .ok (.iload 4, 2) := by decide +kernel
theorem dX0_countAhead_43 : decode cX0_countAhead 43 = .ok (.if_icmp .gt 16, 3) := by decide +kernel
theorem dX0_countAhead_46 : decode cX0_countAhead 46 = .ok (.iload 7, 2) := by decide +kernel
theorem dX0_countAhead_48 : decode cX0_countAhead 48 = .ok (.iload 4, 2) := by decide +kernel
theorem dX0_countAhead_50 : decode cX0_countAhead 50 = .ok (.if_icmp .ne 12, 3) := by decide +kernel
theorem dX0_countAhead_53 : decode cX0_countAhead 53 = .ok (.iload 6, 2) := by decide +kernel
theorem dX0_countAhead_55 : decode cX0_countAhead 55 = .ok (.iload_n 3, 1) := by decide +kernel
theorem dX0_countAhead_56 : decode cX0_countAhead 56 = .ok (.if_icmp .ge 6, 3) := by decide +kernel
theorem dX0_countAhead_59 : decode cX0_countAhead 59 = .ok (.iinc 5 1, 3) := by decide +kernel
theorem dX0_countAhead_62 : decode cX0_countAhead 62 = .ok (.iinc 6 1, 3) := by decide +kernel
theorem dX0_countAhead_65 : decode cX0_countAhead 65 = .ok (.goto (-52), 3) := by decide +kernel
theorem dX0_countAhead_68 : decode cX0_countAhead 68 = .ok (.iload 5, 2) := by decide +kernel
theorem dX0_countAhead_70 : decode cX0_countAhead 70 = .ok (.ireturn, 1) := by decide +kernel
theorem dX0_sizeOf_0 : decode cX0_sizeOf 0 = .ok (.aload_n 0, 1) := by decide +kernel
theorem dX0_sizeOf_1 : decode cX0_sizeOf 1 = .ok (.iload_n 1, 1) := by decide +kernel
theorem dX0_sizeOf_2 : decode cX0_sizeOf 2 = .ok (.invokevirtual 25, 3) := by decide +kernel
theorem dX0_sizeOf_5 : decode cX0_sizeOf 5 = .ok (.astore_n 2, 1) := by decide +kernel
theorem dX0_sizeOf_6 : decode cX0_sizeOf 6 = .ok (.aload_n 2, 1) := by decide +kernel
theorem dX0_sizeOf_7 : decode cX0_sizeOf 7 = .ok (.ifnonnull 7, 3) := by decide +kernel
theorem dX0_sizeOf_10 : decode cX0_sizeOf 10 = .ok (.iconst 0, 1) := by decide +kernel
theorem dX0_sizeOf_11 : decode cX0_sizeOf 11 = .ok (.goto 10, 3) := by decide +kernel
theorem dX0_sizeOf_14 : decode cX0_sizeOf 14 = .ok (.aload_n 2, 1) := by decide +kernel
theorem dX0_sizeOf_15 : decode cX0_sizeOf 15 = .ok (.getfield 33, 3) := by decide +kernel
theorem dX0_sizeOf_18 : decode cX0_sizeOf 18 = .ok (.invokestatic 48, 3) := by decide +kernel
theorem dX0_sizeOf_21 : decode cX0_sizeOf 21 = .ok (.ireturn, 1) := by decide +kernel
/-! Files -/
def oFi (ad : AD) (nfl : Nat) : va_E := eC 0 [.ref (ad 6), .int (nI nfl)]
/-- the numbers' references: none where a file is gone -/
def isAl (ad : AD) (nfl : Nat) (lv : Nat → Bool) (al : Nat → Option Nat) : Prop := ∀ i, i < nfl → al i = if lv i = true then some (ad (39 + 2 * i)) else none
section FI
variable {l : Launch} {g : GG} {ad : AD} {C : CC} {nfl : Nat} {lv : Nat → Bool} {al : Nat → Option Nat} {ow ch : Nat → Int32} {wo ln : Nat → Nat} {bl : Nat → Int64}
theorem k_X0_hasRoom (f5 : C 5 = some (oFi ad nfl)) (hn : nfl ≤ 40) : Cr l g yX0_hasRoom cX0_hasRoom 1 (some .boolean) 1 [.ref (ad 5)] ad C (.int (bI (decide (nfl < 40)))) := by
  refine Ct_of [some (.ref (ad 5))] (by decide) rfl rfl (Nat.le_of_ble_eq_true rfl) rfl rfl (fun X hX h => ?_)
  subst hX
  refine j_aload0 (pc := 0) h dX0_hasRoom_0 ?_
  refine j_getf (pc := 1) h dX0_hasRoom_1 (f5) fl_X0_17 rfl ?_
  refine j_bipush (pc := 4) h dX0_hasRoom_4 bp_40 ?_
  refine j_icmp_ge (pc := 6) (tgt := 13) h dX0_hasRoom_6 (by decide) (fun c6 => ?_) (fun c6 => ?_)
  · refine j_iconst (pc := 13) h dX0_hasRoom_13 ic_0 ?_
    refine j_zretr (pc := 14) h dX0_hasRoom_14 (by decide) (bI_f (by have := nI_le_of c6 (by omega) (by omega); simp; omega))
  · refine j_iconst (pc := 9) h dX0_hasRoom_9 ic_1 ?_
    refine j_goto (pc := 10) (tgt := 14) h dX0_hasRoom_10 (by decide) ?_
    refine j_zretr (pc := 14) h dX0_hasRoom_14 (by decide) (bI_t (by have h1 : ¬ 40 ≤ nfl := fun q => c6 (nI_le q (by omega)); simp; omega))
theorem k_X0_find_no {x : Int32} (f5 : C 5 = some (oFi ad nfl)) (hn : nfl ≤ 40) (hx : inN x nfl = false) : Cr l g yX0_find cX0_find 2 (some (.object "RoomGone$StoredFile")) 1 [.ref (ad 5), .int x] ad C (.null) := by
  refine Ct_of [some (.ref (ad 5)), some (.int x)] (by decide) rfl rfl (Nat.le_of_ble_eq_true rfl) rfl rfl (fun X hX h => ?_)
  subst hX
  refine j_iload1 (pc := 0) h dX0_find_0 ?_
  refine j_if_lt (pc := 1) (tgt := 21) h dX0_find_1 (by decide) (fun c1 => ?_) (fun c1 => ?_)
  · refine j_null (pc := 21) h dX0_find_21 ?_
    refine j_aret (pc := 22) (v := none) h dX0_find_22 (⟨rfl, rfl, rfl⟩)
  · refine j_iload1 (pc := 4) h dX0_find_4 ?_
    refine j_aload0 (pc := 5) h dX0_find_5 ?_
    refine j_getf (pc := 6) h dX0_find_6 (f5) fl_X0_17 rfl ?_
    refine j_icmp_ge (pc := 9) (tgt := 21) h dX0_find_9 (by decide) (fun c9 => ?_) (fun c9 => ?_)
    · refine j_null (pc := 21) h dX0_find_21 ?_
      refine j_aret (pc := 22) (v := none) h dX0_find_22 (⟨rfl, rfl, rfl⟩)
    · exact absurd (inN_yes (by omega) c1 c9) (by rw [hx]; decide)
theorem k_X0_find_q {i : Nat} (f5 : C 5 = some (oFi ad nfl)) (f6 : C 6 = some (eO g 40 al)) (hn : nfl ≤ 40) (hi : i < nfl) : Cr l g yX0_find cX0_find 2 (some (.object "RoomGone$StoredFile")) 1 [.ref (ad 5), .int (nI i)] ad C (va_rf (al i)) := by
  refine Ct_of [some (.ref (ad 5)), some (.int (nI i))] (by decide) rfl rfl (Nat.le_of_ble_eq_true rfl) rfl rfl (fun X hX h => ?_)
  subst hX
  refine j_iload1 (pc := 0) h dX0_find_0 ?_
  refine j_if_lt (pc := 1) (tgt := 21) h dX0_find_1 (by decide) (fun c1 => absurd c1 (nI_pos (by omega))) (fun c1 => ?_)
  refine j_iload1 (pc := 4) h dX0_find_4 ?_
  refine j_aload0 (pc := 5) h dX0_find_5 ?_
  refine j_getf (pc := 6) h dX0_find_6 (f5) fl_X0_17 rfl ?_
  refine j_icmp_ge (pc := 9) (tgt := 21) h dX0_find_9 (by decide) (fun c9 => absurd c9 (nI_ge (by omega) (by omega))) (fun c9 => ?_)
  refine j_aload0 (pc := 12) h dX0_find_12 ?_
  refine j_getf (pc := 13) h dX0_find_13 (f5) fl_X0_11 rfl ?_
  refine j_iload1 (pc := 16) h dX0_find_16 ?_
  refine j_aald (pc := 17) h dX0_find_17 (f6) (by omega) (by decide) ?_
  refine j_goto (pc := 18) (tgt := 22) h dX0_find_18 (by decide) ?_
  refine j_aret (pc := 22) (v := al i) h dX0_find_22 (⟨rfl, rfl, rfl⟩)
theorem k_X0_find {i : Nat} (f5 : C 5 = some (oFi ad nfl)) (f6 : C 6 = some (eO g 40 al)) (hn : nfl ≤ 40) (hi : i < nfl) (hal : isAl ad nfl lv al) (hl : lv i = true) : Cr l g yX0_find cX0_find 2 (some (.object "RoomGone$StoredFile")) 1 [.ref (ad 5), .int (nI i)] ad C (.ref (ad (39 + 2 * i))) := by
  have h0 := k_X0_find_q (l := l) f5 f6 hn hi
  rw [hal i hi, if_pos hl] at h0
  exact h0
theorem k_X0_find_n {i : Nat} (f5 : C 5 = some (oFi ad nfl)) (f6 : C 6 = some (eO g 40 al)) (hn : nfl ≤ 40) (hi : i < nfl) (hal : isAl ad nfl lv al) (hl : lv i = false) : Cr l g yX0_find cX0_find 2 (some (.object "RoomGone$StoredFile")) 1 [.ref (ad 5), .int (nI i)] ad C (.null) := by
  have h0 := k_X0_find_q (l := l) f5 f6 hn hi
  rw [hal i hi, if_neg (by rw [hl]; decide)] at h0
  exact h0
theorem k_X0_countThere (f5 : C 5 = some (oFi ad nfl)) (f6 : C 6 = some (eO g 40 al)) (hn : nfl ≤ 40) (hal : isAl ad nfl lv al) : Cr l g yX0_countThere cX0_countThere 3 (some .int) 2 [.ref (ad 5)] ad C (.int (nI (cnt lv nfl))) := by
  refine Ct_of [some (.ref (ad 5)), none, none] (by decide) rfl rfl (Nat.le_of_ble_eq_true rfl) rfl rfl (fun X hX h => ?_)
  subst hX
  have lp : ∀ m i, i + m = nfl → J X g 3 (QR X g ad C (.int (nI (cnt lv nfl)))) 0 0 ad C 4 [some (.ref (ad 5)), some (.int (nI (cnt lv i))), some (.int (nI i))] [] := by
    intro m
    induction m with
    | zero =>
      intro i hi
      refine j_iload2 (pc := 4) h dX0_countThere_4 ?_
      refine j_aload0 (pc := 5) h dX0_countThere_5 ?_
      refine j_getf (pc := 6) h dX0_countThere_6 (f5) fl_X0_17 rfl ?_
      refine j_icmp_ge (pc := 9) (tgt := 29) h dX0_countThere_9 (by decide) (fun c9 => ?_) (fun c9 => absurd (nI_le (by omega) (by omega)) c9)
      refine j_iload1 (pc := 29) h dX0_countThere_29 ?_
      refine j_iretr (pc := 30) h dX0_countThere_30 (by rw [show i = nfl by omega])
    | succ m ih =>
      intro i hi
      cases hl : lv i with
      | false =>
        refine j_iload2 (pc := 4) h dX0_countThere_4 ?_
        refine j_aload0 (pc := 5) h dX0_countThere_5 ?_
        refine j_getf (pc := 6) h dX0_countThere_6 (f5) fl_X0_17 rfl ?_
        refine j_icmp_ge (pc := 9) (tgt := 29) h dX0_countThere_9 (by decide) (fun c9 => absurd c9 (nI_ge (by omega) (by omega))) (fun c9 => ?_)
        refine j_aload0 (pc := 12) h dX0_countThere_12 ?_
        refine j_iload2 (pc := 13) h dX0_countThere_13 ?_
        refine j_callVr (pc := 14) h dX0_countThere_14 (k_X0_find_n f5 f6 hn (by omega) hal hl) mv_X0_25 (f5) rfl rfl (by decide) (Nat.le_of_ble_eq_true rfl) (Nat.le_of_ble_eq_true rfl) (Nat.le_of_ble_eq_true rfl) ?_
        refine j_ifnullN (pc := 17) (tgt := 23) h dX0_countThere_17 (by decide) ?_
        refine j_iinc2 (pc := 23) h dX0_countThere_23 rfl (inc_n _) ?_
        refine j_goto (pc := 26) (tgt := 4) h dX0_countThere_26 (by decide) ?_
        rw [show cnt lv i = cnt lv (i + 1) from (cnt_f hl).symm]
        exact ih (i + 1) (by omega)
      | true =>
        refine j_iload2 (pc := 4) h dX0_countThere_4 ?_
        refine j_aload0 (pc := 5) h dX0_countThere_5 ?_
        refine j_getf (pc := 6) h dX0_countThere_6 (f5) fl_X0_17 rfl ?_
        refine j_icmp_ge (pc := 9) (tgt := 29) h dX0_countThere_9 (by decide) (fun c9 => absurd c9 (nI_ge (by omega) (by omega))) (fun c9 => ?_)
        refine j_aload0 (pc := 12) h dX0_countThere_12 ?_
        refine j_iload2 (pc := 13) h dX0_countThere_13 ?_
        refine j_callVr (pc := 14) h dX0_countThere_14 (k_X0_find f5 f6 hn (by omega) hal hl) mv_X0_25 (f5) rfl rfl (by decide) (Nat.le_of_ble_eq_true rfl) (Nat.le_of_ble_eq_true rfl) (Nat.le_of_ble_eq_true rfl) ?_
        refine j_ifnull (pc := 17) h dX0_countThere_17 ?_
        refine j_iinc1 (pc := 20) h dX0_countThere_20 rfl (inc_n _) ?_
        refine j_iinc2 (pc := 23) h dX0_countThere_23 rfl (inc_n _) ?_
        refine j_goto (pc := 26) (tgt := 4) h dX0_countThere_26 (by decide) ?_
        rw [show cnt lv i + 1 = cnt lv (i + 1) from (cnt_t hl).symm]
        exact ih (i + 1) (by omega)
  refine j_iconst (pc := 0) h dX0_countThere_0 ic_0 ?_
  refine j_istore1 (pc := 1) h dX0_countThere_1 rfl ?_
  refine j_iconst (pc := 2) h dX0_countThere_2 ic_0 ?_
  refine j_istore2 (pc := 3) h dX0_countThere_3 rfl ?_
  exact lp nfl 0 (by omega)
/-- what the files of a set have -/
def hbF (lv : Nat → Bool) (bl : Nat → Int64) (s : Int64) : Nat → Int64 := fun i => if (lv i && mbr s (nI i)) = true then bl i else 0
theorem k_X0_hadBy {s : Int64} (f5 : C 5 = some (oFi ad nfl)) (f6 : C 6 = some (eO g 40 al)) (fp : ∀ i, i < nfl → C (39 + 2 * i) = some (oSt ad (39 + 2 * i) (ow i) (nI (wo i)) (ln i) (ch i) (bl i))) (hn : nfl ≤ 40) (hal : isAl ad nfl lv al) : Cr l g yX0_hadBy cX0_hadBy 7 (some .long) 2 [.ref (ad 5), .long s] ad C (.long (orr (hbF lv bl s) nfl)) := by
  refine Ct_of [some (.ref (ad 5)), some (.long s), none, none, none, none, none] (by decide) rfl rfl (Nat.le_of_ble_eq_true rfl) rfl rfl (fun X hX h => ?_)
  subst hX
  have lp : ∀ m i z, i + m = nfl → J X g 7 (QR X g ad C (.long (orr (hbF lv bl s) nfl))) 0 0 ad C 5 [some (.ref (ad 5)), some (.long s), none, some (.long (orr (hbF lv bl s) i)), none, some (.int (nI i)), z] [] := by
    intro m
    induction m with
    | zero =>
      intro i z hi
      refine j_iload5 (pc := 5) h dX0_hadBy_5 ?_
      refine j_aload0 (pc := 7) h dX0_hadBy_7 ?_
      refine j_getf (pc := 8) h dX0_hadBy_8 (f5) fl_X0_17 rfl ?_
      refine j_icmp_ge (pc := 11) (tgt := 50) h dX0_hadBy_11 (by decide) (fun c11 => ?_) (fun c11 => absurd (nI_le (by omega) (by omega)) c11)
      refine j_lload3 (pc := 50) h dX0_hadBy_50 ?_
      refine j_lretr (pc := 51) h dX0_hadBy_51 (by rw [show i = nfl by omega])
    | succ m ih =>
      intro i z hi
      cases hl : lv i with
      | false =>
        refine j_iload5 (pc := 5) h dX0_hadBy_5 ?_
        refine j_aload0 (pc := 7) h dX0_hadBy_7 ?_
        refine j_getf (pc := 8) h dX0_hadBy_8 (f5) fl_X0_17 rfl ?_
        refine j_icmp_ge (pc := 11) (tgt := 50) h dX0_hadBy_11 (by decide) (fun c11 => absurd c11 (nI_ge (by omega) (by omega))) (fun c11 => ?_)
        refine j_aload0 (pc := 14) h dX0_hadBy_14 ?_
        refine j_iload5 (pc := 15) h dX0_hadBy_15 ?_
        refine j_callVr (pc := 17) h dX0_hadBy_17 (k_X0_find_n f5 f6 hn (by omega) hal hl) mv_X0_25 (f5) rfl rfl (by decide) (Nat.le_of_ble_eq_true rfl) (Nat.le_of_ble_eq_true rfl) (Nat.le_of_ble_eq_true rfl) ?_
        refine j_astore6N (pc := 20) h dX0_hadBy_20 rfl ?_
        refine j_aload6N (pc := 22) h dX0_hadBy_22 ?_
        refine j_ifnullN (pc := 24) (tgt := 44) h dX0_hadBy_24 (by decide) ?_
        refine j_iinc5 (pc := 44) h dX0_hadBy_44 rfl (inc_n _) ?_
        refine j_goto (pc := 47) (tgt := 5) h dX0_hadBy_47 (by decide) ?_
        rw [show orr (hbF lv bl s) i = orr (hbF lv bl s) (i + 1) from orr_no (by simp [hbF, hl])]
        exact ih (i + 1) _ (by omega)
      | true =>
        have fs := fp i (by omega)
        refine j_iload5 (pc := 5) h dX0_hadBy_5 ?_
        refine j_aload0 (pc := 7) h dX0_hadBy_7 ?_
        refine j_getf (pc := 8) h dX0_hadBy_8 (f5) fl_X0_17 rfl ?_
        refine j_icmp_ge (pc := 11) (tgt := 50) h dX0_hadBy_11 (by decide) (fun c11 => absurd c11 (nI_ge (by omega) (by omega))) (fun c11 => ?_)
        refine j_aload0 (pc := 14) h dX0_hadBy_14 ?_
        refine j_iload5 (pc := 15) h dX0_hadBy_15 ?_
        refine j_callVr (pc := 17) h dX0_hadBy_17 (k_X0_find f5 f6 hn (by omega) hal hl) mv_X0_25 (f5) rfl rfl (by decide) (Nat.le_of_ble_eq_true rfl) (Nat.le_of_ble_eq_true rfl) (Nat.le_of_ble_eq_true rfl) ?_
        refine j_astore6 (pc := 20) h dX0_hadBy_20 rfl ?_
        refine j_aload6 (pc := 22) h dX0_hadBy_22 ?_
        refine j_ifnull (pc := 24) h dX0_hadBy_24 ?_
        refine j_lload1 (pc := 27) h dX0_hadBy_27 ?_
        refine j_iload5 (pc := 28) h dX0_hadBy_28 ?_
        refine j_callSr (pc := 30) h dX0_hadBy_30 (k_X7_isMember) ms_X0_29 rfl rfl (by decide) (Nat.le_of_ble_eq_true rfl) (Nat.le_of_ble_eq_true rfl) (Nat.le_of_ble_eq_true rfl) ?_
        refine j_if_eqB (pc := 33) (tgt := 44) h dX0_hadBy_33 (by decide) (fun c33 => ?_) (fun c33 => ?_)
        · refine j_iinc5 (pc := 44) h dX0_hadBy_44 rfl (inc_n _) ?_
          refine j_goto (pc := 47) (tgt := 5) h dX0_hadBy_47 (by decide) ?_
          rw [show orr (hbF lv bl s) i = orr (hbF lv bl s) (i + 1) from orr_no (by simp [hbF, c33])]
          exact ih (i + 1) _ (by omega)
        · refine j_lload3 (pc := 36) h dX0_hadBy_36 ?_
          refine j_aload6 (pc := 37) h dX0_hadBy_37 ?_
          refine j_getf (pc := 39) h dX0_hadBy_39 (fs) fl_X0_33 rfl ?_
          refine j_lor (pc := 42) h dX0_hadBy_42 ?_
          refine j_lstore3 (pc := 43) h dX0_hadBy_43 rfl ?_
          refine j_iinc5 (pc := 44) h dX0_hadBy_44 rfl (inc_n _) ?_
          refine j_goto (pc := 47) (tgt := 5) h dX0_hadBy_47 (by decide) ?_
          rw [show orr (hbF lv bl s) i ||| bl i = orr (hbF lv bl s) (i + 1) from by rw [orr, hbF]; simp [hl, c33]]
          exact ih (i + 1) _ (by omega)
  refine j_lconst (pc := 0) h dX0_hadBy_0 lc_0 ?_
  refine j_lstore3 (pc := 1) h dX0_hadBy_1 rfl ?_
  refine j_iconst (pc := 2) h dX0_hadBy_2 ic_0 ?_
  refine j_istore5 (pc := 3) h dX0_hadBy_3 rfl ?_
  exact lp nfl 0 none (by omega)
theorem k_X0_lengthOf {s : Int64} (f5 : C 5 = some (oFi ad nfl)) (f6 : C 6 = some (eO g 40 al)) (fp : ∀ i, i < nfl → C (39 + 2 * i) = some (oSt ad (39 + 2 * i) (ow i) (nI (wo i)) (ln i) (ch i) (bl i))) (hn : nfl ≤ 40) (hal : isAl ad nfl lv al) : Cr l g yX0_lengthOf cX0_lengthOf 6 (some .int) 2 [.ref (ad 5), .long s] ad C (.int (nI (sumN (fun i => if (lv i && mbr s (nI i)) = true then ln i else 0) nfl))) := by
  refine Ct_of [some (.ref (ad 5)), some (.long s), none, none, none, none] (by decide) rfl rfl (Nat.le_of_ble_eq_true rfl) rfl rfl (fun X hX h => ?_)
  subst hX
  have lp : ∀ m i z, i + m = nfl → J X g 6 (QR X g ad C (.int (nI (sumN (fun i => if (lv i && mbr s (nI i)) = true then ln i else 0) nfl)))) 0 0 ad C 5 [some (.ref (ad 5)), some (.long s), none, some (.int (nI (sumN (fun i => if (lv i && mbr s (nI i)) = true then ln i else 0) i))), some (.int (nI i)), z] [] := by
    intro m
    induction m with
    | zero =>
      intro i z hi
      refine j_iload4 (pc := 5) h dX0_lengthOf_5 ?_
      refine j_aload0 (pc := 7) h dX0_lengthOf_7 ?_
      refine j_getf (pc := 8) h dX0_lengthOf_8 (f5) fl_X0_17 rfl ?_
      refine j_icmp_ge (pc := 11) (tgt := 50) h dX0_lengthOf_11 (by decide) (fun c11 => ?_) (fun c11 => absurd (nI_le (by omega) (by omega)) c11)
      refine j_iload3 (pc := 50) h dX0_lengthOf_50 ?_
      refine j_iretr (pc := 51) h dX0_lengthOf_51 (by rw [show i = nfl by omega])
    | succ m ih =>
      intro i z hi
      cases hl : lv i with
      | false =>
        refine j_iload4 (pc := 5) h dX0_lengthOf_5 ?_
        refine j_aload0 (pc := 7) h dX0_lengthOf_7 ?_
        refine j_getf (pc := 8) h dX0_lengthOf_8 (f5) fl_X0_17 rfl ?_
        refine j_icmp_ge (pc := 11) (tgt := 50) h dX0_lengthOf_11 (by decide) (fun c11 => absurd c11 (nI_ge (by omega) (by omega))) (fun c11 => ?_)
        refine j_aload0 (pc := 14) h dX0_lengthOf_14 ?_
        refine j_iload4 (pc := 15) h dX0_lengthOf_15 ?_
        refine j_callVr (pc := 17) h dX0_lengthOf_17 (k_X0_find_n f5 f6 hn (by omega) hal hl) mv_X0_25 (f5) rfl rfl (by decide) (Nat.le_of_ble_eq_true rfl) (Nat.le_of_ble_eq_true rfl) (Nat.le_of_ble_eq_true rfl) ?_
        refine j_astore5N (pc := 20) h dX0_lengthOf_20 rfl ?_
        refine j_aload5N (pc := 22) h dX0_lengthOf_22 ?_
        refine j_ifnullN (pc := 24) (tgt := 44) h dX0_lengthOf_24 (by decide) ?_
        refine j_iinc4 (pc := 44) h dX0_lengthOf_44 rfl (inc_n _) ?_
        refine j_goto (pc := 47) (tgt := 5) h dX0_lengthOf_47 (by decide) ?_
        rw [show sumN (fun i => if (lv i && mbr s (nI i)) = true then ln i else 0) i = sumN (fun i => if (lv i && mbr s (nI i)) = true then ln i else 0) (i + 1) from by rw [sumN]; simp [hl]]
        exact ih (i + 1) _ (by omega)
      | true =>
        have fs := fp i (by omega)
        refine j_iload4 (pc := 5) h dX0_lengthOf_5 ?_
        refine j_aload0 (pc := 7) h dX0_lengthOf_7 ?_
        refine j_getf (pc := 8) h dX0_lengthOf_8 (f5) fl_X0_17 rfl ?_
        refine j_icmp_ge (pc := 11) (tgt := 50) h dX0_lengthOf_11 (by decide) (fun c11 => absurd c11 (nI_ge (by omega) (by omega))) (fun c11 => ?_)
        refine j_aload0 (pc := 14) h dX0_lengthOf_14 ?_
        refine j_iload4 (pc := 15) h dX0_lengthOf_15 ?_
        refine j_callVr (pc := 17) h dX0_lengthOf_17 (k_X0_find f5 f6 hn (by omega) hal hl) mv_X0_25 (f5) rfl rfl (by decide) (Nat.le_of_ble_eq_true rfl) (Nat.le_of_ble_eq_true rfl) (Nat.le_of_ble_eq_true rfl) ?_
        refine j_astore5 (pc := 20) h dX0_lengthOf_20 rfl ?_
        refine j_aload5 (pc := 22) h dX0_lengthOf_22 ?_
        refine j_ifnull (pc := 24) h dX0_lengthOf_24 ?_
        refine j_lload1 (pc := 27) h dX0_lengthOf_27 ?_
        refine j_iload4 (pc := 28) h dX0_lengthOf_28 ?_
        refine j_callSr (pc := 30) h dX0_lengthOf_30 (k_X7_isMember) ms_X0_29 rfl rfl (by decide) (Nat.le_of_ble_eq_true rfl) (Nat.le_of_ble_eq_true rfl) (Nat.le_of_ble_eq_true rfl) ?_
        refine j_if_eqB (pc := 33) (tgt := 44) h dX0_lengthOf_33 (by decide) (fun c33 => ?_) (fun c33 => ?_)
        · refine j_iinc4 (pc := 44) h dX0_lengthOf_44 rfl (inc_n _) ?_
          refine j_goto (pc := 47) (tgt := 5) h dX0_lengthOf_47 (by decide) ?_
          rw [show sumN (fun i => if (lv i && mbr s (nI i)) = true then ln i else 0) i = sumN (fun i => if (lv i && mbr s (nI i)) = true then ln i else 0) (i + 1) from by rw [sumN]; simp [c33]]
          exact ih (i + 1) _ (by omega)
        · refine j_iload3 (pc := 36) h dX0_lengthOf_36 ?_
          refine j_aload5 (pc := 37) h dX0_lengthOf_37 ?_
          refine j_getf (pc := 39) h dX0_lengthOf_39 (fs) fl_X0_37 rfl ?_
          refine j_iaddN (pc := 42) h dX0_lengthOf_42 ?_
          refine j_istore3 (pc := 43) h dX0_lengthOf_43 rfl ?_
          refine j_iinc4 (pc := 44) h dX0_lengthOf_44 rfl (inc_n _) ?_
          refine j_goto (pc := 47) (tgt := 5) h dX0_lengthOf_47 (by decide) ?_
          rw [show sumN (fun i => if (lv i && mbr s (nI i)) = true then ln i else 0) i + ln i = sumN (fun i => if (lv i && mbr s (nI i)) = true then ln i else 0) (i + 1) from by rw [sumN]; simp [hl, c33]]
          exact ih (i + 1) _ (by omega)
  refine j_iconst (pc := 0) h dX0_lengthOf_0 ic_0 ?_
  refine j_istore3 (pc := 1) h dX0_lengthOf_1 rfl ?_
  refine j_iconst (pc := 2) h dX0_lengthOf_2 ic_0 ?_
  refine j_istore4 (pc := 3) h dX0_lengthOf_3 rfl ?_
  exact lp nfl 0 none (by omega)
def szF (lv : Nat → Bool) (bl : Nat → Int64) : Nat → Nat := fun i => if lv i = true then pcn (bl i) else 0
theorem k_X0_sizeOf {i : Nat} (f5 : C 5 = some (oFi ad nfl)) (f6 : C 6 = some (eO g 40 al)) (fp : ∀ i, i < nfl → C (39 + 2 * i) = some (oSt ad (39 + 2 * i) (ow i) (nI (wo i)) (ln i) (ch i) (bl i))) (hn : nfl ≤ 40) (hal : isAl ad nfl lv al) (hi : i < nfl) : Cr l g yX0_sizeOf cX0_sizeOf 3 (some .int) 2 [.ref (ad 5), .int (nI i)] ad C (.int (nI (szF lv bl i))) := by
  refine Ct_of [some (.ref (ad 5)), some (.int (nI i)), none] (by decide) rfl rfl (Nat.le_of_ble_eq_true rfl) rfl rfl (fun X hX h => ?_)
  subst hX
  cases hl : lv i with
  | false =>
    refine j_aload0 (pc := 0) h dX0_sizeOf_0 ?_
    refine j_iload1 (pc := 1) h dX0_sizeOf_1 ?_
    refine j_callVr (pc := 2) h dX0_sizeOf_2 (k_X0_find_n f5 f6 hn (by omega) hal hl) mv_X0_25 (f5) rfl rfl (by decide) (Nat.le_of_ble_eq_true rfl) (Nat.le_of_ble_eq_true rfl) (Nat.le_of_ble_eq_true rfl) ?_
    refine j_astore2N (pc := 5) h dX0_sizeOf_5 rfl ?_
    refine j_aload2N (pc := 6) h dX0_sizeOf_6 ?_
    refine j_ifnonnullN (pc := 7) h dX0_sizeOf_7 ?_
    refine j_iconst (pc := 10) h dX0_sizeOf_10 ic_0 ?_
    refine j_goto (pc := 11) (tgt := 21) h dX0_sizeOf_11 (by decide) ?_
    refine j_iretr (pc := 21) h dX0_sizeOf_21 (by rw [szF, if_neg (by rw [hl]; decide)])
  | true =>
    have fs := fp i (by omega)
    refine j_aload0 (pc := 0) h dX0_sizeOf_0 ?_
    refine j_iload1 (pc := 1) h dX0_sizeOf_1 ?_
    refine j_callVr (pc := 2) h dX0_sizeOf_2 (k_X0_find f5 f6 hn (by omega) hal hl) mv_X0_25 (f5) rfl rfl (by decide) (Nat.le_of_ble_eq_true rfl) (Nat.le_of_ble_eq_true rfl) (Nat.le_of_ble_eq_true rfl) ?_
    refine j_astore2 (pc := 5) h dX0_sizeOf_5 rfl ?_
    refine j_aload2 (pc := 6) h dX0_sizeOf_6 ?_
    refine j_ifnonnull (pc := 7) (tgt := 14) h dX0_sizeOf_7 (by decide) ?_
    refine j_aload2 (pc := 14) h dX0_sizeOf_14 ?_
    refine j_getf (pc := 15) h dX0_sizeOf_15 (fs) fl_X0_33 rfl ?_
    refine j_callSr (pc := 18) h dX0_sizeOf_18 (k_J13_bitCount_95d88) ms_X0_48 rfl rfl (by decide) (Nat.le_of_ble_eq_true rfl) (Nat.le_of_ble_eq_true rfl) (Nat.le_of_ble_eq_true rfl) ?_
    refine j_iretr (pc := 21) h dX0_sizeOf_21 (by rw [szF, if_pos hl])
/-- j stands ahead of i by size, then number -/
def ahd (sz : Nat → Nat) (i j : Nat) : Bool := decide (sz i < sz j) || (decide (sz j = sz i) && decide (j < i))
theorem pcn_le (v : Int64) : pcn v ≤ 64 := cnt_le _ _
theorem szF_le (lv : Nat → Bool) (bl : Nat → Int64) (i : Nat) : szF lv bl i ≤ 64 := by unfold szF; split; exact pcn_le _; omega
theorem k_X0_countAhead {i : Nat} {s : Int64} (f5 : C 5 = some (oFi ad nfl)) (f6 : C 6 = some (eO g 40 al)) (fp : ∀ i, i < nfl → C (39 + 2 * i) = some (oSt ad (39 + 2 * i) (ow i) (nI (wo i)) (ln i) (ch i) (bl i))) (hn : nfl ≤ 40) (hal : isAl ad nfl lv al) (hi : i < nfl) : Cr l g yX0_countAhead cX0_countAhead 8 (some .int) 3 [.ref (ad 5), .long s, .int (nI i)] ad C (.int (nI (cnt (fun j => mbr s (nI j) && ahd (szF lv bl) i j) nfl))) := by
  have hs0 := szF_le lv bl i
  refine Ct_of [some (.ref (ad 5)), some (.long s), none, some (.int (nI i)), none, none, none, none] (by decide) rfl rfl (Nat.le_of_ble_eq_true rfl) rfl rfl (fun X hX h => ?_)
  subst hX
  have lp : ∀ m j z, j + m = nfl → J X g 8 (QR X g ad C (.int (nI (cnt (fun j => mbr s (nI j) && ahd (szF lv bl) i j) nfl)))) 0 0 ad C 13 [some (.ref (ad 5)), some (.long s), none, some (.int (nI i)), some (.int (nI (szF lv bl i))), some (.int (nI (cnt (fun j => mbr s (nI j) && ahd (szF lv bl) i j) j))), some (.int (nI j)), z] [] := by
    intro m
    induction m with
    | zero =>
      intro j z hj
      refine j_iload6 (pc := 13) h dX0_countAhead_13 ?_
      refine j_aload0 (pc := 15) h dX0_countAhead_15 ?_
      refine j_getf (pc := 16) h dX0_countAhead_16 (f5) fl_X0_17 rfl ?_
      refine j_icmp_ge (pc := 19) (tgt := 68) h dX0_countAhead_19 (by decide) (fun c19 => ?_) (fun c19 => absurd (nI_le (by omega) (by omega)) c19)
      refine j_iload5 (pc := 68) h dX0_countAhead_68 ?_
      refine j_iretr (pc := 70) h dX0_countAhead_70 (by rw [show j = nfl by omega])
    | succ m ih =>
      intro j z hj
      have hs1 := szF_le lv bl j
      have no : ∀ z, (mbr s (nI j) && ahd (szF lv bl) i j) = false → J X g 8 (QR X g ad C (.int (nI (cnt (fun j => mbr s (nI j) && ahd (szF lv bl) i j) nfl)))) 0 0 ad C 62 [some (.ref (ad 5)), some (.long s), none, some (.int (nI i)), some (.int (nI (szF lv bl i))), some (.int (nI (cnt (fun j => mbr s (nI j) && ahd (szF lv bl) i j) j))), some (.int (nI j)), z] [] := by
        intro z hf
        refine j_iinc6 (pc := 62) h dX0_countAhead_62 rfl (inc_n _) ?_
        refine j_goto (pc := 65) (tgt := 13) h dX0_countAhead_65 (by decide) ?_
        rw [show cnt (fun j => mbr s (nI j) && ahd (szF lv bl) i j) j = cnt (fun j => mbr s (nI j) && ahd (szF lv bl) i j) (j + 1) from (cnt_f hf).symm]
        exact ih (j + 1) _ (by omega)
      have yes : ∀ z, (mbr s (nI j) && ahd (szF lv bl) i j) = true → J X g 8 (QR X g ad C (.int (nI (cnt (fun j => mbr s (nI j) && ahd (szF lv bl) i j) nfl)))) 0 0 ad C 59 [some (.ref (ad 5)), some (.long s), none, some (.int (nI i)), some (.int (nI (szF lv bl i))), some (.int (nI (cnt (fun j => mbr s (nI j) && ahd (szF lv bl) i j) j))), some (.int (nI j)), z] [] := by
        intro z hf
        refine j_iinc5 (pc := 59) h dX0_countAhead_59 rfl (inc_n _) ?_
        refine j_iinc6 (pc := 62) h dX0_countAhead_62 rfl (inc_n _) ?_
        refine j_goto (pc := 65) (tgt := 13) h dX0_countAhead_65 (by decide) ?_
        rw [show cnt (fun j => mbr s (nI j) && ahd (szF lv bl) i j) j + 1 = cnt (fun j => mbr s (nI j) && ahd (szF lv bl) i j) (j + 1) from (cnt_t hf).symm]
        exact ih (j + 1) _ (by omega)
      refine j_iload6 (pc := 13) h dX0_countAhead_13 ?_
      refine j_aload0 (pc := 15) h dX0_countAhead_15 ?_
      refine j_getf (pc := 16) h dX0_countAhead_16 (f5) fl_X0_17 rfl ?_
      refine j_icmp_ge (pc := 19) (tgt := 68) h dX0_countAhead_19 (by decide) (fun c19 => absurd c19 (nI_ge (by omega) (by omega))) (fun c19 => ?_)
      refine j_lload1 (pc := 22) h dX0_countAhead_22 ?_
      refine j_iload6 (pc := 23) h dX0_countAhead_23 ?_
      refine j_callSr (pc := 25) h dX0_countAhead_25 (k_X7_isMember) ms_X0_29 rfl rfl (by decide) (Nat.le_of_ble_eq_true rfl) (Nat.le_of_ble_eq_true rfl) (Nat.le_of_ble_eq_true rfl) ?_
      refine j_if_eqB (pc := 28) (tgt := 62) h dX0_countAhead_28 (by decide) (fun c28 => ?_) (fun c28 => ?_)
      · exact no _ (by rw [c28]; rfl)
      · refine j_aload0 (pc := 31) h dX0_countAhead_31 ?_
        refine j_iload6 (pc := 32) h dX0_countAhead_32 ?_
        refine j_callVr (pc := 34) h dX0_countAhead_34 (k_X0_sizeOf f5 f6 fp hn hal (by omega)) mv_X0_44 (f5) rfl rfl (by decide) (Nat.le_of_ble_eq_true rfl) (Nat.le_of_ble_eq_true rfl) (Nat.le_of_ble_eq_true rfl) ?_
        refine j_istore7 (pc := 37) h dX0_countAhead_37 rfl ?_
        refine j_iload7 (pc := 39) h dX0_countAhead_39 ?_
        refine j_iload4 (pc := 41) h dX0_countAhead_41 ?_
        refine j_icmp_gt (pc := 43) (tgt := 59) h dX0_countAhead_43 (by decide) (fun c43 => ?_) (fun c43 => ?_)
        · exact yes _ (by have q := nI_lt_of c43 (by omega) (by omega); rw [c28]; simp [ahd, q])
        · have q1 : ¬ szF lv bl i < szF lv bl j := fun q => c43 (nI_lt q (by omega))
          refine j_iload7 (pc := 46) h dX0_countAhead_46 ?_
          refine j_iload4 (pc := 48) h dX0_countAhead_48 ?_
          refine j_icmp_ne (pc := 50) (tgt := 62) h dX0_countAhead_50 (by decide) (fun c50 => ?_) (fun c50 => ?_)
          · exact no _ (by have q2 : ¬ szF lv bl j = szF lv bl i := (fun q => c50 (by rw [q])); rw [c28]; simp [ahd, q2]; omega)
          · have q2 := nI_inj c50 (by omega) (by omega)
            refine j_iload6 (pc := 53) h dX0_countAhead_53 ?_
            refine j_iload3 (pc := 55) h dX0_countAhead_55 ?_
            refine j_icmp_ge (pc := 56) (tgt := 62) h dX0_countAhead_56 (by decide) (fun c56 => ?_) (fun c56 => ?_)
            · exact no _ (by have q3 := nI_le_of c56 (by omega) (by omega); rw [c28]; simp [ahd, q2]; omega)
            · exact yes _ (by have q3 : j < i := nI_lt' c56 (by omega); rw [c28]; simp [ahd, q2, q3])
  refine j_aload0 (pc := 0) h dX0_countAhead_0 ?_
  refine j_iload3 (pc := 1) h dX0_countAhead_1 ?_
  refine j_callVr (pc := 2) h dX0_countAhead_2 (k_X0_sizeOf f5 f6 fp hn hal hi) mv_X0_44 (f5) rfl rfl (by decide) (Nat.le_of_ble_eq_true rfl) (Nat.le_of_ble_eq_true rfl) (Nat.le_of_ble_eq_true rfl) ?_
  refine j_istore4 (pc := 5) h dX0_countAhead_5 rfl ?_
  refine j_iconst (pc := 7) h dX0_countAhead_7 ic_0 ?_
  refine j_istore5 (pc := 8) h dX0_countAhead_8 rfl ?_
  refine j_iconst (pc := 10) h dX0_countAhead_10 ic_0 ?_
  refine j_istore6 (pc := 11) h dX0_countAhead_11 rfl ?_
  exact lp nfl 0 none (by omega)
/-- the first of m from i on that has x ahead of it -/
def rnk (p : Nat → Bool) (a : Nat → Nat) (x : Int32) : Nat → Nat → Int32
  | _, 0 => -1
  | i, m + 1 => if p i = true ∧ nI (a i) = x then nI i else rnk p a x (i + 1) m
theorem k_X0_byBlocks {x : Int32} {s : Int64} (f5 : C 5 = some (oFi ad nfl)) (f6 : C 6 = some (eO g 40 al)) (fp : ∀ i, i < nfl → C (39 + 2 * i) = some (oSt ad (39 + 2 * i) (ow i) (nI (wo i)) (ln i) (ch i) (bl i))) (hn : nfl ≤ 40) (hal : isAl ad nfl lv al) : Cr l g yX0_byBlocks cX0_byBlocks 5 (some .int) 4 [.ref (ad 5), .long s, .int x] ad C (.int (rnk (fun j => mbr s (nI j)) (fun i => cnt (fun j => mbr s (nI j) && ahd (szF lv bl) i j) nfl) x 0 nfl)) := by
  refine Ct_of [some (.ref (ad 5)), some (.long s), none, some (.int x), none] (by decide) rfl rfl (Nat.le_of_ble_eq_true rfl) rfl rfl (fun X hX h => ?_)
  subst hX
  have lp : ∀ m i, i + m = nfl → rnk (fun j => mbr s (nI j)) (fun i => cnt (fun j => mbr s (nI j) && ahd (szF lv bl) i j) nfl) x i m = rnk (fun j => mbr s (nI j)) (fun i => cnt (fun j => mbr s (nI j) && ahd (szF lv bl) i j) nfl) x 0 nfl → J X g 5 (QR X g ad C (.int (rnk (fun j => mbr s (nI j)) (fun i => cnt (fun j => mbr s (nI j) && ahd (szF lv bl) i j) nfl) x 0 nfl))) 0 0 ad C 3 [some (.ref (ad 5)), some (.long s), none, some (.int x), some (.int (nI i))] [] := by
    intro m
    induction m with
    | zero =>
      intro i hi hs
      refine j_iload4 (pc := 3) h dX0_byBlocks_3 ?_
      refine j_aload0 (pc := 5) h dX0_byBlocks_5 ?_
      refine j_getf (pc := 6) h dX0_byBlocks_6 (f5) fl_X0_17 rfl ?_
      refine j_icmp_ge (pc := 9) (tgt := 41) h dX0_byBlocks_9 (by decide) (fun c9 => ?_) (fun c9 => absurd (nI_le (by omega) (by omega)) c9)
      refine j_iconst (pc := 41) h dX0_byBlocks_41 ic_m1 ?_
      refine j_iretr (pc := 42) h dX0_byBlocks_42 (hs)
    | succ m ih =>
      intro i hi hs
      refine j_iload4 (pc := 3) h dX0_byBlocks_3 ?_
      refine j_aload0 (pc := 5) h dX0_byBlocks_5 ?_
      refine j_getf (pc := 6) h dX0_byBlocks_6 (f5) fl_X0_17 rfl ?_
      refine j_icmp_ge (pc := 9) (tgt := 41) h dX0_byBlocks_9 (by decide) (fun c9 => absurd c9 (nI_ge (by omega) (by omega))) (fun c9 => ?_)
      refine j_lload1 (pc := 12) h dX0_byBlocks_12 ?_
      refine j_iload4 (pc := 13) h dX0_byBlocks_13 ?_
      refine j_callSr (pc := 15) h dX0_byBlocks_15 (k_X7_isMember) ms_X0_29 rfl rfl (by decide) (Nat.le_of_ble_eq_true rfl) (Nat.le_of_ble_eq_true rfl) (Nat.le_of_ble_eq_true rfl) ?_
      refine j_if_eqB (pc := 18) (tgt := 35) h dX0_byBlocks_18 (by decide) (fun c18 => ?_) (fun c18 => ?_)
      · refine j_iinc4 (pc := 35) h dX0_byBlocks_35 rfl (inc_n _) ?_
        refine j_goto (pc := 38) (tgt := 3) h dX0_byBlocks_38 (by decide) ?_
        exact ih (i + 1) (by omega) (by rw [← hs, rnk, if_neg]; intro q; rw [c18] at q; exact absurd q.1 (by decide))
      · refine j_aload0 (pc := 21) h dX0_byBlocks_21 ?_
        refine j_lload1 (pc := 22) h dX0_byBlocks_22 ?_
        refine j_iload4 (pc := 23) h dX0_byBlocks_23 ?_
        refine j_callVr (pc := 25) h dX0_byBlocks_25 (k_X0_countAhead f5 f6 fp hn hal (by omega)) mv_X0_40 (f5) rfl rfl (by decide) (Nat.le_of_ble_eq_true rfl) (Nat.le_of_ble_eq_true rfl) (Nat.le_of_ble_eq_true rfl) ?_
        refine j_iload3 (pc := 28) h dX0_byBlocks_28 ?_
        refine j_icmp_ne (pc := 29) (tgt := 35) h dX0_byBlocks_29 (by decide) (fun c29 => ?_) (fun c29 => ?_)
        · refine j_iinc4 (pc := 35) h dX0_byBlocks_35 rfl (inc_n _) ?_
          refine j_goto (pc := 38) (tgt := 3) h dX0_byBlocks_38 (by decide) ?_
          exact ih (i + 1) (by omega) (by rw [← hs, rnk, if_neg]; intro q; exact c29 q.2)
        · refine j_iload4 (pc := 32) h dX0_byBlocks_32 ?_
          refine j_iretr (pc := 34) h dX0_byBlocks_34 (by rw [← hs, rnk, if_pos ⟨c18, c29⟩])
  refine j_iconst (pc := 0) h dX0_byBlocks_0 ic_0 ?_
  refine j_istore4 (pc := 1) h dX0_byBlocks_1 rfl ?_
  exact lp nfl 0 (by omega) rfl
theorem k_X0_add {js : Nat} {vs : List Value} (f5 : C 5 = some (oFi ad nfl)) (f6 : C 6 = some (eO g 40 al)) (fs : C js = some (.inr (6, vs))) (hj : js ≠ 6) (hn : nfl < 40) : Cw l g yX0_add cX0_add 2 (some .int) 2 [.ref (ad 5), .ref (ad js)] ad C (some (.int (nI nfl))) (va_up (va_up C 6 (some (eO g 40 (va_up al nfl (some (ad js)))))) 5 (some (oFi ad (nfl + 1)))) := by
  refine Ct_of [some (.ref (ad 5)), some (.ref (ad js))] (by decide) rfl rfl (Nat.le_of_ble_eq_true rfl) rfl rfl (fun X hX h => ?_)
  subst hX
  refine j_aload0 (pc := 0) h dX0_add_0 ?_
  refine j_callVr (pc := 1) h dX0_add_1 (k_X0_hasRoom f5 (by omega)) mv_X0_21 (f5) rfl rfl (by decide) (Nat.le_of_ble_eq_true rfl) (Nat.le_of_ble_eq_true rfl) (Nat.le_of_ble_eq_true rfl) ?_
  refine j_if_neB (pc := 4) (tgt := 9) h dX0_add_4 (by decide) (fun c4 => ?_) (fun c4 => absurd c4 (by simp; omega))
  refine j_aload0 (pc := 9) h dX0_add_9 ?_
  refine j_getf (pc := 10) h dX0_add_10 (f5) fl_X0_11 rfl ?_
  refine j_aload0 (pc := 13) h dX0_add_13 ?_
  refine j_getf (pc := 14) h dX0_add_14 (f5) fl_X0_17 rfl ?_
  refine j_aload1 (pc := 17) h dX0_add_17 ?_
  refine j_aast (pc := 18) h dX0_add_18 (f6) (fs) rfl (by omega) (by decide) ?_
  refine j_aload0 (pc := 19) h dX0_add_19 ?_
  refine j_dupR (pc := 20) h dX0_add_20 ?_
  refine j_getf (pc := 21) h dX0_add_21 (f5) fl_X0_17 rfl ?_
  refine j_iconst (pc := 24) h dX0_add_24 ic_1 ?_
  refine j_iaddN (pc := 25) h dX0_add_25 ?_
  refine j_putv (pc := 26) h dX0_add_26 (f5) pl_X0_17 rfl rfl (Nat.le_of_ble_eq_true rfl) ?_
  refine j_aload0 (pc := 29) h dX0_add_29 ?_
  refine j_getf (pc := 30) h dX0_add_30 (rfl) fl_X0_17 rfl ?_
  refine j_iconst (pc := 33) h dX0_add_33 ic_1 ?_
  refine j_isubN (pc := 34) h dX0_add_34 (by omega) ?_
  refine j_iret (pc := 35) h dX0_add_35 (⟨rfl, rfl, rfl⟩)
theorem k_X0_forget {i : Nat} (f5 : C 5 = some (oFi ad nfl)) (f6 : C 6 = some (eO g 40 al)) (hn : nfl ≤ 40) (hi : i < nfl) : Cw l g yX0_forget cX0_forget 2 none 1 [.ref (ad 5), .int (nI i)] ad C none (va_up C 6 (some (eO g 40 (va_up al i none)))) := by
  refine Ct_of [some (.ref (ad 5)), some (.int (nI i))] (by decide) rfl rfl (Nat.le_of_ble_eq_true rfl) rfl rfl (fun X hX h => ?_)
  subst hX
  refine j_iload1 (pc := 0) h dX0_forget_0 ?_
  refine j_if_lt (pc := 1) (tgt := 19) h dX0_forget_1 (by decide) (fun c1 => absurd c1 (nI_pos (by omega))) (fun c1 => ?_)
  refine j_iload1 (pc := 4) h dX0_forget_4 ?_
  refine j_aload0 (pc := 5) h dX0_forget_5 ?_
  refine j_getf (pc := 6) h dX0_forget_6 (f5) fl_X0_17 rfl ?_
  refine j_icmp_ge (pc := 9) (tgt := 19) h dX0_forget_9 (by decide) (fun c9 => absurd c9 (nI_ge (by omega) (by omega))) (fun c9 => ?_)
  refine j_aload0 (pc := 12) h dX0_forget_12 ?_
  refine j_getf (pc := 13) h dX0_forget_13 (f5) fl_X0_11 rfl ?_
  refine j_iload1 (pc := 16) h dX0_forget_16 ?_
  refine j_null (pc := 17) h dX0_forget_17 ?_
  refine j_aastN (pc := 18) h dX0_forget_18 (f6) (by omega) (by decide) ?_
  refine j_vret (pc := 19) h dX0_forget_19 (⟨rfl, rfl, rfl⟩)
end FI
end
section
/-! The store's state, as both programs hold it; what is asked of it. -/
def Sg : Type := (Nat → Nat) × (Nat → Nat → Nat) × (Nat → Nat → Bool) × (Nat → Nat → Int32) × (Nat → Option Nat) × (Nat → Int64)
def Sg.nf (σ : Sg) : Nat := σ.1 0
def Sg.nfl (σ : Sg) : Nat := σ.1 1
def Sg.nn (σ : Sg) : Nat := σ.1 2
def Sg.nm (σ : Sg) : Nat := σ.1 3
def Sg.now (σ : Sg) : Nat := σ.1 4
def Sg.cap (σ : Sg) : Nat := σ.1 5
def Sg.pr (σ : Sg) : Nat → Nat := σ.2.1 0
def Sg.ln (σ : Sg) : Nat → Nat := σ.2.1 1
def Sg.wo (σ : Sg) : Nat → Nat := σ.2.1 2
def Sg.fl (σ : Sg) : Nat → Nat := σ.2.1 3
def Sg.ni (σ : Sg) : Nat → Nat := σ.2.1 4
def Sg.md (σ : Sg) : Nat → Nat := σ.2.1 5
def Sg.mt (σ : Sg) : Nat → Nat := σ.2.1 6
def Sg.hd (σ : Sg) : Nat → Bool := σ.2.2.1 0
def Sg.tb (σ : Sg) : Nat → Bool := σ.2.2.1 1
def Sg.sb (σ : Sg) : Nat → Bool := σ.2.2.1 2
def Sg.fow (σ : Sg) : Nat → Int32 := σ.2.2.2.1 0
def Sg.ow (σ : Sg) : Nat → Int32 := σ.2.2.2.1 1
def Sg.ch (σ : Sg) : Nat → Int32 := σ.2.2.2.1 2
def Sg.rb (σ : Sg) : Nat → Option Nat := σ.2.2.2.2.1
def Sg.sh (σ : Sg) : Nat → Int64 := σ.2.2.2.2.2
def Sg.uK (σ : Sg) (i v : Nat) : Sg := (va_up σ.1 i v, σ.2)
def Sg.uN (σ : Sg) (i : Nat) (f : Nat → Nat) : Sg := (σ.1, va_up σ.2.1 i f, σ.2.2)
def Sg.uB (σ : Sg) (i : Nat) (f : Nat → Bool) : Sg := (σ.1, σ.2.1, va_up σ.2.2.1 i f, σ.2.2.2)
def Sg.uI (σ : Sg) (i : Nat) (f : Nat → Int32) : Sg := (σ.1, σ.2.1, σ.2.2.1, va_up σ.2.2.2.1 i f, σ.2.2.2.2)
def Sg.uR (σ : Sg) (f : Nat → Option Nat) : Sg := (σ.1, σ.2.1, σ.2.2.1, σ.2.2.2.1, f, σ.2.2.2.2.2)
def Sg.uS (σ : Sg) (f : Nat → Int64) : Sg := (σ.1, σ.2.1, σ.2.2.1, σ.2.2.2.1, σ.2.2.2.2.1, f)
/-- no bit from the sixtieth on -/
def lo60 (v : Int64) : Prop := ∀ i, 60 ≤ i → v.toBitVec.getLsbD i = false
/-- what holds in every state -/
def Inv (σ : Sg) : Prop := (1 ≤ σ.nf ∧ σ.nf ≤ 30 ∧ σ.nfl ≤ 40 ∧ σ.nn ≤ 100 ∧ σ.nm ≤ 20 ∧ σ.now ≤ 5000 ∧ 1 ≤ σ.cap ∧ σ.cap ≤ 60) ∧
  (∀ j, j < σ.nf → okc σ.pr σ.nf 29 j) ∧ (∀ j, j < σ.nf → j ≠ 0 → σ.pr j < σ.nf) ∧ (∀ k, k < σ.nn → σ.fl k < σ.nfl ∧ σ.ni k < σ.nf) ∧
  (∀ i, i < σ.nfl → σ.ln i ≤ 60 ∧ σ.wo i ≤ 999) ∧ (∀ i, σ.nfl ≤ i → σ.ln i = 0) ∧ (∀ q b, σ.rb q = some b → b < 60) ∧
  (∀ k, k < σ.nm → σ.md k ≤ σ.now) ∧ (∀ k, k + 1 < σ.nm → σ.md k ≤ σ.md (k + 1)) ∧ (∀ q, 30 * σ.nm ≤ q → σ.mt q = 0) ∧ (∀ s, lo60 (σ.sh s))
/-- how many names a file has; whether it is there -/
def nms (σ : Sg) (i : Nat) : Nat := cnt (fun k => σ.tb k && σ.fl k == i) σ.nn
def lv (σ : Sg) (i : Nat) : Bool := decide (0 < nms σ i)
/-- the blocks of a file -/
def bkS (σ : Sg) (i : Nat) : Int64 := orr (fun p => bO (σ.rb (60 * i + p))) (σ.ln i)
def bk (σ : Sg) (i : Nat) : Int64 := if lv σ i = true then bkS σ i else 0
def allS (σ : Sg) : Int64 := orr (bk σ) σ.nfl
def shS (σ : Sg) (x : Int32) : Int64 := orr (shF σ.sb σ.sh x) 8
/-- file i has a name in t's tree; one outside of it -/
def isn (σ : Sg) (i t : Nat) : Bool := anyN (fun k => σ.tb k && σ.fl k == i && anc σ.pr 29 (σ.ni k) t) σ.nn
def iso (σ : Sg) (i t : Nat) : Bool := anyN (fun k => σ.tb k && σ.fl k == i && !anc σ.pr 29 (σ.ni k) t) σ.nn
def tkV (σ : Sg) (t : Nat) : Int64 := orr (fun i => if isn σ i t = true then bk σ i else 0) σ.nfl
def tkS (σ : Sg) (t : Nat) : Nat := pcn (tkV σ t)
/-- the reference's own rows beside the state: goes, few, blocks, best worth, best set -/
def Tm : Type := (Nat → Bool) × (Nat → Int32) × (Nat → Int64) × Int32 × Int32
def oMo (ad : AD) (σ : Sg) (τ : Tm) : va_E := eC 8 [.int (nI σ.now), .int (nI σ.nf), .ref (ad 21), .ref (ad 22), .ref (ad 23), .int (nI σ.nfl), .ref (ad 24), .ref (ad 25), .ref (ad 26), .ref (ad 27), .ref (ad 28), .int (nI σ.nn), .ref (ad 29), .ref (ad 30), .ref (ad 31), .ref (ad 32), .ref (ad 33), .int (nI σ.nm), .ref (ad 34), .ref (ad 35), .int (nI σ.cap), .ref (ad 36), .ref (ad 37), .ref (ad 38), .int τ.2.2.2.1, .int τ.2.2.2.2]
/-- the reference's cells -/
def MW (g : GG) (ad : AD) (σ : Sg) (τ : Tm) (C : CC) : Prop := C 20 = some (oMo ad σ τ) ∧ C 21 = some (eI g 30 (parF σ.pr)) ∧ C 22 = some (eI g 30 σ.fow) ∧ C 23 = some (eZ g 30 (bF σ.hd)) ∧ C 24 = some (eI g 40 (fun i => nI (σ.ln i))) ∧ C 25 = some (eI g 2400 (fun q => rI (σ.rb q))) ∧ C 26 = some (eI g 40 σ.ow) ∧ C 27 = some (eI g 40 (fun i => nI (σ.wo i))) ∧ C 28 = some (eI g 40 σ.ch) ∧ C 29 = some (eI g 100 (fun k => nI (σ.fl k))) ∧ C 30 = some (eI g 100 (fun k => nI (σ.ni k))) ∧ C 31 = some (eZ g 100 (bF σ.tb)) ∧ C 32 = some (eZ g 8 (bF σ.sb)) ∧ C 33 = some (eJ g 8 σ.sh) ∧ C 34 = some (eI g 20 (fun i => nI (σ.md i))) ∧ C 35 = some (eI g 600 (fun q => nI (σ.mt q))) ∧ C 36 = some (eZ g 40 (bF τ.1)) ∧ C 37 = some (eI g 12 τ.2.1) ∧ C 38 = some (eJ g 40 τ.2.2.1)
/-- the class's cells stay -/
def frM (C C' : CC) : Prop := ∀ j, (j < 20 ∨ 39 ≤ j) → C' j = C j
theorem frM_up {C C' : CC} {k : Nat} {v : Option va_E} (h : frM C C') (h1 : 20 ≤ k) (h2 : k < 39) : frM C (va_up C' k v) := fun j hj => by rw [va_up_ne _ _ (by omega)]; exact h j hj
theorem frM_rf (C : CC) : frM C C := fun _ _ => rfl
theorem Inv.le {σ : Sg} (h : Inv σ) : 1 ≤ σ.nf ∧ σ.nf ≤ 30 ∧ σ.nfl ≤ 40 ∧ σ.nn ≤ 100 ∧ σ.nm ≤ 20 ∧ σ.now ≤ 5000 ∧ 1 ≤ σ.cap ∧ σ.cap ≤ 60 := h.1
theorem Inv.ok {σ : Sg} (h : Inv σ) : ∀ j, j < σ.nf → okc σ.pr σ.nf 29 j := h.2.1
theorem Inv.pr {σ : Sg} (h : Inv σ) : ∀ j, j < σ.nf → j ≠ 0 → σ.pr j < σ.nf := h.2.2.1
theorem Inv.nam {σ : Sg} (h : Inv σ) : ∀ k, k < σ.nn → σ.fl k < σ.nfl ∧ σ.ni k < σ.nf := h.2.2.2.1
theorem Inv.fil {σ : Sg} (h : Inv σ) : ∀ i, i < σ.nfl → σ.ln i ≤ 60 ∧ σ.wo i ≤ 999 := h.2.2.2.2.1
theorem Inv.ln0 {σ : Sg} (h : Inv σ) : ∀ i, σ.nfl ≤ i → σ.ln i = 0 := h.2.2.2.2.2.1
theorem Inv.blk {σ : Sg} (h : Inv σ) : ∀ q b, σ.rb q = some b → b < 60 := h.2.2.2.2.2.2.1
theorem Inv.day {σ : Sg} (h : Inv σ) : ∀ k, k < σ.nm → σ.md k ≤ σ.now := h.2.2.2.2.2.2.2.1
theorem Inv.mon {σ : Sg} (h : Inv σ) : ∀ k, k + 1 < σ.nm → σ.md k ≤ σ.md (k + 1) := h.2.2.2.2.2.2.2.2.1
theorem Inv.mt0 {σ : Sg} (h : Inv σ) : ∀ q, 30 * σ.nm ≤ q → σ.mt q = 0 := h.2.2.2.2.2.2.2.2.2.1
theorem Inv.sh {σ : Sg} (h : Inv σ) : ∀ s, lo60 (σ.sh s) := h.2.2.2.2.2.2.2.2.2.2
/-- sets below sixty -/
theorem lo60_0 : lo60 0 := fun i _ => by simp
theorem lo60_or {a b : Int64} (ha : lo60 a) (hb : lo60 b) : lo60 (a ||| b) := fun i hi => by
  rw [Int64.toBitVec_or, BitVec.getLsbD_or, ha i hi, hb i hi]; rfl
theorem lo60_and {a b : Int64} (ha : lo60 a) : lo60 (a &&& b) := fun i hi => by
  rw [Int64.toBitVec_and, BitVec.getLsbD_and, ha i hi]; rfl
theorem lo60_orr {f : Nat → Int64} : ∀ {n : Nat}, (∀ i, i < n → lo60 (f i)) → lo60 (orr f n)
  | 0, _ => lo60_0
  | n + 1, h => lo60_or (lo60_orr (fun i hi => h i (by omega))) (h n (by omega))
/-- one bit -/
theorem b1_bit {b : Nat} (hb : b < 64) (i : Nat) : (b1 (nI b)).toBitVec.getLsbD i = decide (i = b) := by
  unfold b1
  rw [show (1 : Int64) = lN 1 from rfl, wb_shl 1 hb, Nat.one_mul, wb_tb, BitVec.getLsbD_ofNat]
  by_cases h : i = b
  · subst h; simp [hb]
  · simp [h, Nat.testBit_two_pow]; omega
theorem lo60_b1 {b : Nat} (hb : b < 60) : lo60 (b1 (nI b)) := fun i hi => by
  rw [b1_bit (by omega)]; simp; omega
theorem lo60_bO {σ : Sg} (h : Inv σ) (q : Nat) : lo60 (bO (σ.rb q)) := by
  cases e : σ.rb q with
  | none => exact lo60_0
  | some b => exact lo60_b1 (h.blk q b e)
theorem lo60_bk {σ : Sg} (h : Inv σ) (i : Nat) : lo60 (bk σ i) := by
  unfold bk
  split
  · exact lo60_orr (fun p _ => lo60_bO h _)
  · exact lo60_0
theorem lo60_all {σ : Sg} (h : Inv σ) : lo60 (allS σ) := lo60_orr (fun i _ => lo60_bk h i)
theorem lo60_sh {σ : Sg} (h : Inv σ) (x : Int32) : lo60 (shS σ x) := lo60_orr (fun i _ => by unfold shF; split; exact h.sh i; exact lo60_0)
theorem lo60_tk {σ : Sg} (h : Inv σ) (t : Nat) : lo60 (tkV σ t) := lo60_orr (fun i _ => by split; exact lo60_bk h i; exact lo60_0)
def p60 (v : Int64) : Nat := cnt (fun i => v.toBitVec.getLsbD i) 60
theorem p60_eq {v : Int64} (h : lo60 v) : p60 v = pcn v := by
  have e := cnt_split (fun i => v.toBitVec.getLsbD i) 60 4
  have e2 : cnt (fun i => v.toBitVec.getLsbD (60 + i)) 4 = 0 := by
    rw [cnt_cong (q := fun _ => false) (fun k _ => h _ (by omega))]; rfl
  rw [e2] at e
  exact e.symm
/-- a set's test is its bit -/
theorem shr1 (v : Int64) {i : Nat} (hi : i < 64) : (v >>> ((nI i).toInt64 &&& 63)) &&& 1 = if v.toBitVec.getLsbD i = true then 1 else 0 := by
  rw [wb_c i hi]
  apply wb_inj
  rw [Int64.toBitVec_and, Int64.toBitVec_shiftRight, wb_tb, wb_sm i hi]
  apply BitVec.eq_of_getLsbD_eq
  intro j hj
  rw [BitVec.getLsbD_and, BitVec.sshiftRight_eq', BitVec.toNat_ofNat, Nat.mod_eq_of_lt (show i < 2 ^ 64 by omega)]
  by_cases h0 : j = 0
  · subst h0
    rw [BitVec.getLsbD_sshiftRight]
    cases e : v.toBitVec.getLsbD i <;> simp [hi, e] <;> decide
  · have : (1 : Int64).toBitVec.getLsbD j = false := by
      rw [show (1 : Int64) = lN 1 from rfl, wb_tb, BitVec.getLsbD_ofNat, show (1 : Nat) = 2 ^ 0 from rfl, Nat.testBit_two_pow]
      simp
      omega
    rw [this]
    cases e : v.toBitVec.getLsbD i
    · simp
    · simp; exact h0
theorem mbr_bit (v : Int64) {i : Nat} (hi : i < 64) : mbr v (nI i) = v.toBitVec.getLsbD i := by
  unfold mbr
  rw [shr1 v hi]
  cases e : v.toBitVec.getLsbD i <;> simp
theorem shr1_32 (v : Int64) {i : Nat} (hi : i < 64) : ((v >>> ((nI i).toInt64 &&& 63)) &&& 1).toInt32 = nI (if v.toBitVec.getLsbD i = true then 1 else 0) := by
  rw [shr1 v hi]
  cases e : v.toBitVec.getLsbD i <;> simp <;> decide
/-- the reference's test of a range -/
def rng (x a b : Int32) : Bool := decide (a ≤ x) && decide (x ≤ b)
theorem rng_n {x : Int32} {n : Nat} (hn : n < 2 ^ 30) : rng x (nI 0) (nI n - nI 1) = inN x n := by
  unfold rng inN
  have e := pk_sub_toInt hn (show 1 < 2 ^ 30 by decide)
  have e1 : decide (nI 0 ≤ x) = decide (0 ≤ x.toInt) := decide_eq_decide.mpr (by rw [Int32.le_iff_toInt_le]; rfl)
  have e2 : decide (x ≤ nI n - nI 1) = decide (x.toInt < (n : Int)) := decide_eq_decide.mpr (by rw [Int32.le_iff_toInt_le, e]; omega)
  rw [e1, e2]
theorem rng_m {x : Int32} {n : Nat} (hn : n + 1 < 2 ^ 30) : rng x (nI 0) (nI n) = inN x (n + 1) := by
  rw [← rng_n (n := n + 1) hn]
  rw [show nI (n + 1) - nI 1 = nI n from by rw [pk_sub (by omega)]; rfl]
end
section
theorem dX8_init_0 : decode cX8_init 0 = .ok (.aload_n 0, 1) := by decide +kernel
theorem dX8_init_1 : decode cX8_init 1 = .ok (.invokespecial 1, 3) := by decide +kernel
theorem dX8_init_4 : decode cX8_init 4 = .ok (.aload_n 0, 1) := by decide +kernel
theorem dX8_init_5 : decode cX8_init 5 = .ok (.iconst 1, 1) := by decide +kernel
theorem dX8_init_6 : decode cX8_init 6 = .ok (.putfield 7, 3) := by decide +kernel
theorem dX8_init_9 : decode cX8_init 9 = .ok (.aload_n 0, 1) := by decide +kernel
theorem dX8_init_10 : decode cX8_init 10 = .ok (.bipush 30, 2) := by decide +kernel
theorem dX8_init_12 : decode cX8_init 12 = .ok (.newarray .int, 2) := by decide +kernel
theorem dX8_init_14 : decode cX8_init 14 = .ok (.putfield 13, 3) := by decide +kernel
theorem dX8_init_17 : decode cX8_init 17 = .ok (.aload_n 0, 1) := by decide +kernel
theorem dX8_init_18 : decode cX8_init 18 = .ok (.bipush 30, 2) := by decide +kernel
theorem dX8_init_20 : decode cX8_init 20 = .ok (.newarray .int, 2) := by decide +kernel
theorem dX8_init_22 : decode cX8_init 22 = .ok (.putfield 17, 3) := by decide +kernel
theorem dX8_init_25 : decode cX8_init 25 = .ok (.aload_n 0, 1) := by decide +kernel
theorem dX8_init_26 : decode cX8_init 26 = .ok (.bipush 30, 2) := by decide +kernel
theorem dX8_init_28 : decode cX8_init 28 = .ok (.newarray .boolean, 2) := by decide +kernel
theorem dX8_init_30 : decode cX8_init 30 = .ok (.putfield 20, 3) := by decide +kernel
theorem dX8_init_33 : decode cX8_init 33 = .ok (.aload_n 0, 1) := by decide +kernel
theorem dX8_init_34 : decode cX8_init 34 = .ok (.bipush 40, 2) := by decide +kernel
theorem dX8_init_36 : decode cX8_init 36 = .ok (.newarray .int, 2) := by decide +kernel
theorem dX8_init_38 : decode cX8_init 38 = .ok (.putfield 24, 3) := by decide +kernel
theorem dX8_init_41 : decode cX8_init 41 = .ok (.aload_n 0, 1) := by decide +kernel
theorem dX8_init_42 : decode cX8_init 42 = .ok (.sipush 2400, 3) := by decide +kernel
theorem dX8_init_45 : decode cX8_init 45 = .ok (.newarray .int, 2) := by decide +kernel
theorem dX8_init_47 : decode cX8_init 47 = .ok (.putfield 27, 3) := by decide +kernel
theorem dX8_init_50 : decode cX8_init 50 = .ok (.aload_n 0, 1) := by decide +kernel
theorem dX8_init_51 : decode cX8_init 51 = .ok (.bipush 40, 2) := by decide +kernel
theorem dX8_init_53 : decode cX8_init 53 = .ok (.newarray .int, 2) := by decide +kernel
theorem dX8_init_55 : decode cX8_init 55 = .ok (.putfield 30, 3) := by decide +kernel
theorem dX8_init_58 : decode cX8_init 58 = .ok (.aload_n 0, 1) := by decide +kernel
theorem dX8_init_59 : decode cX8_init 59 = .ok (.bipush 40, 2) := by decide +kernel
theorem dX8_init_61 : decode cX8_init 61 = .ok (.newarray .int, 2) := by decide +kernel
theorem dX8_init_63 : decode cX8_init 63 = .ok (.putfield 33, 3) := by decide +kernel
theorem dX8_init_66 : decode cX8_init 66 = .ok (.aload_n 0, 1) := by decide +kernel
theorem dX8_init_67 : decode cX8_init 67 = .ok (.bipush 40, 2) := by decide +kernel
theorem dX8_init_69 : decode cX8_init 69 = .ok (.newarray .int, 2) := by decide +kernel
theorem dX8_init_71 : decode cX8_init 71 = .ok (.putfield 36, 3) := by decide +kernel
theorem dX8_init_74 : decode cX8_init 74 = .ok (.aload_n 0, 1) := by decide +kernel
theorem dX8_init_75 : decode cX8_init 75 = .ok (.bipush 100, 2) := by decide +kernel
theorem dX8_init_77 : decode cX8_init 77 = .ok (.newarray .int, 2) := by decide +kernel
theorem dX8_init_79 : decode cX8_init 79 = .ok (.putfield 39, 3) := by decide +kernel
theorem dX8_init_82 : decode cX8_init 82 = .ok (.aload_n 0, 1) := by decide +kernel
theorem dX8_init_83 : decode cX8_init 83 = .ok (.bipush 100, 2) := by decide +kernel
theorem dX8_init_85 : decode cX8_init 85 = .ok (.newarray .int, 2) := by decide +kernel
theorem dX8_init_87 : decode cX8_init 87 = .ok (.putfield 42, 3) := by decide +kernel
theorem dX8_init_90 : decode cX8_init 90 = .ok (.aload_n 0, 1) := by decide +kernel
theorem dX8_init_91 : decode cX8_init 91 = .ok (.bipush 100, 2) := by decide +kernel
theorem dX8_init_93 : decode cX8_init 93 = .ok (.newarray .boolean, 2) := by decide +kernel
theorem dX8_init_95 : decode cX8_init 95 = .ok (.putfield 45, 3) := by decide +kernel
theorem dX8_init_98 : decode cX8_init 98 = .ok (.aload_n 0, 1) := by decide +kernel
theorem dX8_init_99 : decode cX8_init 99 = .ok (.bipush 8, 2) := by decide +kernel
theorem dX8_init_101 : decode cX8_init 101 = .ok (.newarray .boolean, 2) := by decide +kernel
theorem dX8_init_103 : decode cX8_init 103 = .ok (.putfield 48, 3) := by decide +kernel
theorem dX8_init_106 : decode cX8_init 106 = .ok (.aload_n 0, 1) := by decide +kernel
theorem dX8_init_107 : decode cX8_init 107 = .ok (.bipush 8, 2) := by decide +kernel
theorem dX8_init_109 : decode cX8_init 109 = .ok (.newarray .long, 2) := by decide +kernel
theorem dX8_init_111 : decode cX8_init 111 = .ok (.putfield 51, 3) := by decide +kernel
theorem dX8_init_114 : decode cX8_init 114 = .ok (.aload_n 0, 1) := by decide +kernel
theorem dX8_init_115 : decode cX8_init 115 = .ok (.bipush 20, 2) := by decide +kernel
theorem dX8_init_117 : decode cX8_init 117 = .ok (.newarray .int, 2) := by decide +kernel
theorem dX8_init_119 : decode cX8_init 119 = .ok (.putfield 55, 3) := by decide +kernel
theorem dX8_init_122 : decode cX8_init 122 = .ok (.aload_n 0, 1) := by decide +kernel
theorem dX8_init_123 : decode cX8_init 123 = .ok (.sipush 600, 3) := by decide +kernel
theorem dX8_init_126 : decode cX8_init 126 = .ok (.newarray .int, 2) := by decide +kernel
theorem dX8_init_128 : decode cX8_init 128 = .ok (.putfield 58, 3) := by decide +kernel
theorem dX8_init_131 : decode cX8_init 131 = .ok (.aload_n 0, 1) := by decide +kernel
theorem dX8_init_132 : decode cX8_init 132 = .ok (.bipush 60, 2) := by decide +kernel
theorem dX8_init_134 : decode cX8_init 134 = .ok (.putfield 61, 3) := by decide +kernel
theorem dX8_init_137 : decode cX8_init 137 = .ok (.aload_n 0, 1) := by decide +kernel
theorem dX8_init_138 : decode cX8_init 138 = .ok (.bipush 40, 2) := by decide +kernel
theorem dX8_init_140 : decode cX8_init 140 = .ok (.newarray .boolean, 2) := by decide +kernel
theorem dX8_init_142 : decode cX8_init 142 = .ok (.putfield 64, 3) := by decide +kernel
theorem dX8_init_145 : decode cX8_init 145 = .ok (.aload_n 0, 1) := by decide +kernel
theorem dX8_init_146 : decode cX8_init 146 = .ok (.bipush 12, 2) := by decide +kernel
theorem dX8_init_148 : decode cX8_init 148 = .ok (.newarray .int, 2) := by decide +kernel
theorem dX8_init_150 : decode cX8_init 150 = .ok (.putfield 67, 3) := by decide +kernel
theorem dX8_init_153 : decode cX8_init 153 = .ok (.aload_n 0, 1) := by decide +kernel
theorem dX8_init_154 : decode cX8_init 154 = .ok (.bipush 40, 2) := by decide +kernel
theorem dX8_init_156 : decode cX8_init 156 = .ok (.newarray .long, 2) := by decide +kernel
theorem dX8_init_158 : decode cX8_init 158 = .ok (.putfield 70, 3) := by decide +kernel
theorem dX8_init_161 : decode cX8_init 161 = .ok (.aload_n 0, 1) := by decide +kernel
theorem dX8_init_162 : decode cX8_init 162 = .ok (.getfield 13, 3) := by decide +kernel
theorem dX8_init_165 : decode cX8_init 165 = .ok (.iconst 0, 1) := by decide +kernel
theorem dX8_init_166 : decode cX8_init 166 = .ok (.iconst (-1), 1) := by decide +kernel
theorem dX8_init_167 : decode cX8_init 167 = .ok (.iastore, 1) := by decide +kernel
theorem dX8_init_168 : decode cX8_init 168 = .ok (.return_, 1) := by decide +kernel
theorem dX8_in_0 : decode cX8_in 0 = .ok (.iload_n 0, 1) := by decide +kernel
theorem dX8_in_1 : decode cX8_in 1 = .ok (.iload_n 1, 1) := by decide +kernel
theorem dX8_in_2 : decode cX8_in 2 = .ok (.if_icmp .lt 12, 3) := by decide +kernel
theorem dX8_in_5 : decode cX8_in 5 = .ok (.iload_n 0, 1) := by decide +kernel
theorem dX8_in_6 : decode cX8_in 6 = .ok (.iload_n 2, 1) := by decide +kernel
theorem dX8_in_7 : decode cX8_in 7 = .ok (.if_icmp .gt 7, 3) := by decide +kernel
theorem dX8_in_10 : decode cX8_in 10 = .ok (.iconst 1, 1) := by decide +kernel
theorem dX8_in_11 : decode cX8_in 11 = .ok (.goto 4, 3) := by decide +kernel
theorem dX8_in_14 : decode cX8_in 14 = .ok (.iconst 0, 1) := by decide +kernel
theorem dX8_in_15 : decode cX8_in 15 = .ok (.ireturn, 1) := by decide +kernel
theorem dX8_bits_0 : decode cX8_bits 0 = .ok (.iconst 0, 1) := by decide +kernel
theorem dX8_bits_1 : decode cX8_bits 1 = .ok (.istore_n 2, 1) := by decide +kernel
theorem dX8_bits_2 : decode cX8_bits 2 = .ok (.iconst 0, 1) := by decide +kernel
theorem dX8_bits_3 : decode cX8_bits 3 = .ok (.istore_n 3, 1) := by decide +kernel
theorem dX8_bits_4 : decode cX8_bits 4 = .ok (.iload_n 3, 1) := by decide +kernel
theorem dX8_bits_5 : decode cX8_bits 5 = .ok (.bipush 60, 2) := by decide +kernel
theorem dX8_bits_7 : decode cX8_bits 7 = .ok (.if_icmp .ge 18, 3) := by decide +kernel
theorem dX8_bits_10 : decode cX8_bits 10 = .ok (.iload_n 2, 1) := by decide +kernel
theorem dX8_bits_11 : decode cX8_bits 11 = .ok (.lload_n 0, 1) := by decide +kernel
theorem dX8_bits_12 : decode cX8_bits 12 = .ok (.iload_n 3, 1) := by decide +kernel
theorem dX8_bits_13 : decode cX8_bits 13 = .ok (.lshr, 1) := by decide +kernel
theorem dX8_bits_14 : decode cX8_bits 14 = .ok (.lconst 1, 1) := by decide +kernel
theorem dX8_bits_15 : decode cX8_bits 15 = .ok (.land, 1) := by decide +kernel
theorem dX8_bits_16 : decode cX8_bits 16 = .ok (.l2i, 1) := by decide +kernel
theorem dX8_bits_17 : decode cX8_bits 17 = .ok (.iadd, 1) := by decide +kernel
theorem dX8_bits_18 : decode cX8_bits 18 = .ok (.istore_n 2, 1) := by decide +kernel
theorem dX8_bits_19 : decode cX8_bits 19 = .ok (.iinc 3 1, 3) := by decide +kernel
theorem dX8_bits_22 : decode cX8_bits 22 = .ok (.goto (-18), 3) := by decide +kernel
theorem dX8_bits_25 : decode cX8_bits 25 = .ok (.iload_n 2, 1) := by decide +kernel
theorem dX8_bits_26 : decode cX8_bits 26 = .ok (.ireturn, 1) := by decide +kernel
theorem dX8_go_0 : decode cX8_go 0 = .ok (.iload_n 1, 1) := by decide +kernel
theorem dX8_go_1 : decode cX8_go 1 = .ok (.iconst 0, 1) := by decide +kernel
theorem dX8_go_2 : decode cX8_go 2 = .ok (.sipush 500, 3) := by decide +kernel
theorem dX8_go_5 : decode cX8_go 5 = .ok (.invokestatic 73, 3) := by decide +kernel
theorem dX8_go_8 : decode cX8_go 8 = .ok (.ifCond .ne 5, 3) := by decide +kernel
theorem dX8_go_11 : decode cX8_go 11 = .ok (.iconst (-1), 1) := by decide +kernel
theorem dX8_go_12 : decode cX8_go 12 = .ok (.ireturn, 1) := by decide +kernel
theorem dX8_go_13 : decode cX8_go 13 = .ok (.aload_n 0, 1) := by decide +kernel
theorem dX8_go_14 : decode cX8_go 14 = .ok (.aload_n 0, 1) := by decide +kernel
theorem dX8_go_15 : decode cX8_go 15 = .ok (.getfield 77, 3) := by decide +kernel
theorem dX8_go_18 : decode cX8_go 18 = .ok (.iload_n 1, 1) := by decide +kernel
theorem dX8_go_19 : decode cX8_go 19 = .ok (.iadd, 1) := by decide +kernel
theorem dX8_go_20 : decode cX8_go 20 = .ok (.sipush 5000, 3) := by decide +kernel
theorem dX8_go_23 : decode cX8_go 23 = .ok (.if_icmp .le 9, 3) := by decide +kernel
theorem dX8_go_26 : decode cX8_go 26 = .ok (.sipush 5000, 3) := by decide +kernel
theorem dX8_go_29 : decode cX8_go 29 = .ok (.goto 9, 3) := by decide +kernel
theorem dX8_go_32 : decode cX8_go 32 = .ok (.aload_n 0, 1) := by decide +kernel
theorem dX8_go_33 : decode cX8_go 33 = .ok (.getfield 77, 3) := by decide +kernel
theorem dX8_go_36 : decode cX8_go 36 = .ok (.iload_n 1, 1) := by decide +kernel
theorem dX8_go_37 : decode cX8_go 37 = .ok (.iadd, 1) := by decide +kernel
theorem dX8_go_38 : decode cX8_go 38 = .ok (.putfield 77, 3) := by decide +kernel
theorem dX8_go_41 : decode cX8_go 41 = .ok (.aload_n 0, 1) := by decide +kernel
theorem dX8_go_42 : decode cX8_go 42 = .ok (.getfield 77, 3) := by decide +kernel
theorem dX8_go_45 : decode cX8_go 45 = .ok (.ireturn, 1) := by decide +kernel
theorem dX8_isFolder_0 : decode cX8_isFolder 0 = .ok (.iload_n 1, 1) := by decide +kernel
theorem dX8_isFolder_1 : decode cX8_isFolder 1 = .ok (.iconst 0, 1) := by decide +kernel
theorem dX8_isFolder_2 : decode cX8_isFolder 2 = .ok (.aload_n 0, 1) := by decide +kernel
theorem dX8_isFolder_3 : decode cX8_isFolder 3 = .ok (.getfield 7, 3) := by decide +kernel
theorem dX8_isFolder_6 : decode cX8_isFolder 6 = .ok (.iconst 1, 1) := by decide +kernel
theorem dX8_isFolder_7 : decode cX8_isFolder 7 = .ok (.isub, 1) := by decide +kernel
theorem dX8_isFolder_8 : decode cX8_isFolder 8 = .ok (.invokestatic 73, 3) := by decide +kernel
theorem dX8_isFolder_11 : decode cX8_isFolder 11 = .ok (.ireturn, 1) := by decide +kernel
theorem dX8_folder_0 : decode cX8_folder 0 = .ok (.aload_n 0, 1) := by decide +kernel
theorem dX8_folder_1 : decode cX8_folder 1 = .ok (.iload_n 1, 1) := by decide +kernel
theorem dX8_folder_2 : decode cX8_folder 2 = .ok (.invokevirtual 80, 3) := by decide +kernel
theorem dX8_folder_5 : decode cX8_folder 5 = .ok (.ifCond .eq 21, 3) := by decide +kernel
theorem dX8_folder_8 : decode cX8_folder 8 = .ok (.iload_n 2, 1) := by decide +kernel
theorem dX8_folder_9 : decode cX8_folder 9 = .ok (.iconst 0, 1) := by decide +kernel
theorem dX8_folder_10 : decode cX8_folder 10 = .ok (.iconst 5, 1) := by decide +kernel
theorem dX8_folder_11 : decode cX8_folder 11 = .ok (.invokestatic 73, 3) := by decide +kernel
theorem dX8_folder_14 : decode cX8_folder 14 = .ok (.ifCond .eq 12, 3) := by decide +kernel
theorem dX8_folder_17 : decode cX8_folder 17 = .ok (.aload_n 0, 1) := by decide +kernel
theorem dX8_folder_18 : decode cX8_folder 18 = .ok (.getfield 7, 3) := by decide +kernel
theorem dX8_folder_21 : decode cX8_folder 21 = .ok (.bipush 30, 2) := by decide +kernel
theorem dX8_folder_23 : decode cX8_folder 23 = .ok (.if_icmp .ne 5, 3) := by decide +kernel
theorem dX8_folder_26 : decode cX8_folder 26 = .ok (.iconst (-1), 1) := by decide +kernel
theorem dX8_folder_27 : decode cX8_folder 27 = .ok (.ireturn, 1) := by decide +kernel
theorem dX8_folder_28 : decode cX8_folder 28 = .ok (.aload_n 0, 1) := by decide +kernel
theorem dX8_folder_29 : decode cX8_folder 29 = .ok (.getfield 13, 3) := by decide +kernel
theorem dX8_folder_32 : decode cX8_folder 32 = .ok (.aload_n 0, 1) := by decide +kernel
theorem dX8_folder_33 : decode cX8_folder 33 = .ok (.getfield 7, 3) := by decide +kernel
theorem dX8_folder_36 : decode cX8_folder 36 = .ok (.iload_n 1, 1) := by decide +kernel
theorem dX8_folder_37 : decode cX8_folder 37 = .ok (.iastore, 1) := by decide +kernel
theorem dX8_folder_38 : decode cX8_folder 38 = .ok (.aload_n 0, 1) := by decide +kernel
theorem dX8_folder_39 : decode cX8_folder 39 = .ok (.getfield 17, 3) := by decide +kernel
theorem dX8_folder_42 : decode cX8_folder 42 = .ok (.aload_n 0, 1) := by decide +kernel
theorem dX8_folder_43 : decode cX8_folder 43 = .ok (.getfield 7, 3) := by decide +kernel
theorem dX8_folder_46 : decode cX8_folder 46 = .ok (.iload_n 2, 1) := by decide +kernel
theorem dX8_folder_47 : decode cX8_folder 47 = .ok (.iastore, 1) := by decide +kernel
theorem dX8_folder_48 : decode cX8_folder 48 = .ok (.aload_n 0, 1) := by decide +kernel
theorem dX8_folder_49 : decode cX8_folder 49 = .ok (.getfield 20, 3) := by decide +kernel
theorem dX8_folder_52 : decode cX8_folder 52 = .ok (.aload_n 0, 1) := by decide +kernel
theorem dX8_folder_53 : decode cX8_folder 53 = .ok (.getfield 7, 3) := by decide +kernel
theorem dX8_folder_56 : decode cX8_folder 56 = .ok (.iload_n 3, 1) := by decide +kernel
theorem dX8_folder_57 : decode cX8_folder 57 = .ok (.bastore, 1) := by decide +kernel
theorem dX8_folder_58 : decode cX8_folder 58 = .ok (.aload_n 0, 1) := by decide +kernel
theorem dX8_folder_59 : decode cX8_folder 59 = .ok (.dup, 1) := by decide +kernel
theorem dX8_folder_60 : decode cX8_folder 60 = .ok (.getfield 7, 3) := by decide +kernel
theorem dX8_folder_63 : decode cX8_folder 63 = .ok (.iconst 1, 1) := by decide +kernel
theorem dX8_folder_64 : decode cX8_folder 64 = .ok (.iadd, 1) := by decide +kernel
theorem dX8_folder_65 : decode cX8_folder 65 = .ok (.putfield 7, 3) := by decide +kernel
theorem dX8_folder_68 : decode cX8_folder 68 = .ok (.aload_n 0, 1) := by decide +kernel
theorem dX8_folder_69 : decode cX8_folder 69 = .ok (.getfield 7, 3) := by decide +kernel
theorem dX8_folder_72 : decode cX8_folder 72 = .ok (.iconst 1, 1) := by decide +kernel
theorem dX8_folder_73 : decode cX8_folder 73 = .ok (.isub, 1) := by decide +kernel
theorem dX8_folder_74 : decode cX8_folder 74 = .ok (.ireturn, 1) := by decide +kernel
theorem dX8_isOf_0 : decode cX8_isOf 0 = .ok (.iload_n 1, 1) := by decide +kernel
theorem dX8_isOf_1 : decode cX8_isOf 1 = .ok (.istore_n 3, 1) := by decide +kernel
theorem dX8_isOf_2 : decode cX8_isOf 2 = .ok (.iload_n 3, 1) := by decide +kernel
theorem dX8_isOf_3 : decode cX8_isOf 3 = .ok (.iconst (-1), 1) := by decide +kernel
theorem dX8_isOf_4 : decode cX8_isOf 4 = .ok (.if_icmp .eq 18, 3) := by decide +kernel
theorem dX8_isOf_7 : decode cX8_isOf 7 = .ok (.iload_n 3, 1) := by decide +kernel
theorem dX8_isOf_8 : decode cX8_isOf 8 = .ok (.iload_n 2, 1) := by decide +kernel
theorem dX8_isOf_9 : decode cX8_isOf 9 = .ok (.if_icmp .eq 13, 3) := by decide +kernel
theorem dX8_isOf_12 : decode cX8_isOf 12 = .ok (.aload_n 0, 1) := by decide +kernel
theorem dX8_isOf_13 : decode cX8_isOf 13 = .ok (.getfield 13, 3) := by decide +kernel
theorem dX8_isOf_16 : decode cX8_isOf 16 = .ok (.iload_n 3, 1) := by decide +kernel
theorem dX8_isOf_17 : decode cX8_isOf 17 = .ok (.iaload, 1) := by decide +kernel
theorem dX8_isOf_18 : decode cX8_isOf 18 = .ok (.istore_n 3, 1) := by decide +kernel
theorem dX8_isOf_19 : decode cX8_isOf 19 = .ok (.goto (-17), 3) := by decide +kernel
theorem dX8_isOf_22 : decode cX8_isOf 22 = .ok (.iload_n 3, 1) := by decide +kernel
theorem dX8_isOf_23 : decode cX8_isOf 23 = .ok (.iload_n 2, 1) := by decide +kernel
theorem dX8_isOf_24 : decode cX8_isOf 24 = .ok (.if_icmp .ne 7, 3) := by decide +kernel
theorem dX8_isOf_27 : decode cX8_isOf 27 = .ok (.iconst 1, 1) := by decide +kernel
theorem dX8_isOf_28 : decode cX8_isOf 28 = .ok (.goto 4, 3) := by decide +kernel
theorem dX8_isOf_31 : decode cX8_isOf 31 = .ok (.iconst 0, 1) := by decide +kernel
theorem dX8_isOf_32 : decode cX8_isOf 32 = .ok (.ireturn, 1) := by decide +kernel
theorem dX8_move_0 : decode cX8_move 0 = .ok (.aload_n 0, 1) := by decide +kernel
theorem dX8_move_1 : decode cX8_move 1 = .ok (.iload_n 1, 1) := by decide +kernel
theorem dX8_move_2 : decode cX8_move 2 = .ok (.invokevirtual 80, 3) := by decide +kernel
theorem dX8_move_5 : decode cX8_move 5 = .ok (.ifCond .eq 24, 3) := by decide +kernel
theorem dX8_move_8 : decode cX8_move 8 = .ok (.iload_n 1, 1) := by decide +kernel
theorem dX8_move_9 : decode cX8_move 9 = .ok (.ifCond .eq 20, 3) := by decide +kernel
theorem dX8_move_12 : decode cX8_move 12 = .ok (.aload_n 0, 1) := by decide +kernel
theorem dX8_move_13 : decode cX8_move 13 = .ok (.iload_n 2, 1) := by decide +kernel
theorem dX8_move_14 : decode cX8_move 14 = .ok (.invokevirtual 80, 3) := by decide +kernel
theorem dX8_move_17 : decode cX8_move 17 = .ok (.ifCond .eq 12, 3) := by decide +kernel
theorem dX8_move_20 : decode cX8_move 20 = .ok (.aload_n 0, 1) := by decide +kernel
theorem dX8_move_21 : decode cX8_move 21 = .ok (.iload_n 2, 1) := by decide +kernel
theorem dX8_move_22 : decode cX8_move 22 = .ok (.iload_n 1, 1) := by decide +kernel
theorem dX8_move_23 : decode cX8_move 23 = .ok (.invokevirtual 84, 3) := by decide +kernel
theorem dX8_move_26 : decode cX8_move 26 = .ok (.ifCond .eq 5, 3) := by decide +kernel
theorem dX8_move_29 : decode cX8_move 29 = .ok (.iconst 0, 1) := by decide +kernel
theorem dX8_move_30 : decode cX8_move 30 = .ok (.ireturn, 1) := by decide +kernel
theorem dX8_move_31 : decode cX8_move 31 = .ok (.aload_n 0, 1) := by decide +kernel
theorem dX8_move_32 : decode cX8_move 32 = .ok (.getfield 13, 3) := by decide +kernel
theorem dX8_move_35 : decode cX8_move 35 = .ok (.iload_n 1, 1) := by decide +kernel
theorem dX8_move_36 : decode cX8_move 36 = .ok (.iload_n 2, 1) := by decide +kernel
theorem dX8_move_37 : decode cX8_move 37 = .ok (.iastore, 1) := by decide +kernel
theorem dX8_move_38 : decode cX8_move 38 = .ok (.iconst 1, 1) := by decide +kernel
theorem dX8_move_39 : decode cX8_move 39 = .ok (.ireturn, 1) := by decide +kernel
theorem dX8_isSeen_0 : decode cX8_isSeen 0 = .ok (.iload_n 1, 1) := by decide +kernel
theorem dX8_isSeen_1 : decode cX8_isSeen 1 = .ok (.istore_n 3, 1) := by decide +kernel
theorem dX8_isSeen_2 : decode cX8_isSeen 2 = .ok (.iload_n 3, 1) := by decide +kernel
theorem dX8_isSeen_3 : decode cX8_isSeen 3 = .ok (.iconst (-1), 1) := by decide +kernel
theorem dX8_isSeen_4 : decode cX8_isSeen 4 = .ok (.if_icmp .eq 34, 3) := by decide +kernel
theorem dX8_isSeen_7 : decode cX8_isSeen 7 = .ok (.aload_n 0, 1) := by decide +kernel
theorem dX8_isSeen_8 : decode cX8_isSeen 8 = .ok (.getfield 20, 3) := by decide +kernel
theorem dX8_isSeen_11 : decode cX8_isSeen 11 = .ok (.iload_n 3, 1) := by decide +kernel
theorem dX8_isSeen_12 : decode cX8_isSeen 12 = .ok (.baload, 1) := by decide +kernel
theorem dX8_isSeen_13 : decode cX8_isSeen 13 = .ok (.ifCond .eq 15, 3) := by decide +kernel
theorem dX8_isSeen_16 : decode cX8_isSeen 16 = .ok (.aload_n 0, 1) := by decide +kernel
theorem dX8_isSeen_17 : decode cX8_isSeen 17 = .ok (.getfield 17, 3) := by decide +kernel
theorem dX8_isSeen_20 : decode cX8_isSeen 20 = .ok (.iload_n 3, 1) := by decide +kernel
theorem dX8_isSeen_21 : decode cX8_isSeen 21 = .ok (.iaload, 1) := by decide +kernel
theorem dX8_isSeen_22 : decode cX8_isSeen 22 = .ok (.iload_n 2, 1) := by decide +kernel
theorem dX8_isSeen_23 : decode cX8_isSeen 23 = .ok (.if_icmp .eq 5, 3) := by decide +kernel
theorem dX8_isSeen_26 : decode cX8_isSeen 26 = .ok (.iconst 0, 1) := by decide +kernel
theorem dX8_isSeen_27 : decode cX8_isSeen 27 = .ok (.ireturn, 1) := by decide +kernel
theorem dX8_isSeen_28 : decode cX8_isSeen 28 = .ok (.aload_n 0, 1) := by decide +kernel
theorem dX8_isSeen_29 : decode cX8_isSeen 29 = .ok (.getfield 13, 3) := by decide +kernel
theorem dX8_isSeen_32 : decode cX8_isSeen 32 = .ok (.iload_n 3, 1) := by decide +kernel
theorem dX8_isSeen_33 : decode cX8_isSeen 33 = .ok (.iaload, 1) := by decide +kernel
theorem dX8_isSeen_34 : decode cX8_isSeen 34 = .ok (.istore_n 3, 1) := by decide +kernel
theorem dX8_isSeen_35 : decode cX8_isSeen 35 = .ok (.goto (-33), 3) := by decide +kernel
theorem dX8_isSeen_38 : decode cX8_isSeen 38 = .ok (.iconst 1, 1) := by decide +kernel
theorem dX8_isSeen_39 : decode cX8_isSeen 39 = .ok (.ireturn, 1) := by decide +kernel
theorem dX8_namesOf_0 : decode cX8_namesOf 0 = .ok (.iconst 0, 1) := by decide +kernel
theorem dX8_namesOf_1 : decode cX8_namesOf 1 = .ok (.istore_n 2, 1) := by decide +kernel
theorem dX8_namesOf_2 : decode cX8_namesOf 2 = .ok (.iconst 0, 1) := by decide +kernel
theorem dX8_namesOf_3 : decode cX8_namesOf 3 = .ok (.istore_n 3, 1) := by decide +kernel
theorem dX8_namesOf_4 : decode cX8_namesOf 4 = .ok (.iload_n 3, 1) := by decide +kernel
theorem dX8_namesOf_5 : decode cX8_namesOf 5 = .ok (.aload_n 0, 1) := by decide +kernel
theorem dX8_namesOf_6 : decode cX8_namesOf 6 = .ok (.getfield 88, 3) := by decide +kernel
theorem dX8_namesOf_9 : decode cX8_namesOf 9 = .ok (.if_icmp .ge 36, 3) := by decide +kernel
theorem dX8_namesOf_12 : decode cX8_namesOf 12 = .ok (.iload_n 2, 1) := by decide +kernel
theorem dX8_namesOf_13 : decode cX8_namesOf 13 = .ok (.aload_n 0, 1) := by decide +kernel
theorem dX8_namesOf_14 : decode cX8_namesOf 14 = .ok (.getfield 45, 3) := by decide +kernel
theorem dX8_namesOf_17 : decode cX8_namesOf 17 = .ok (.iload_n 3, 1) := by decide +kernel
theorem dX8_namesOf_18 : decode cX8_namesOf 18 = .ok (.baload, 1) := by decide +kernel
theorem dX8_namesOf_19 : decode cX8_namesOf 19 = .ok (.ifCond .eq 17, 3) := by decide +kernel
theorem dX8_namesOf_22 : decode cX8_namesOf 22 = .ok (.aload_n 0, 1) := by decide +kernel
theorem dX8_namesOf_23 : decode cX8_namesOf 23 = .ok (.getfield 39, 3) := by decide +kernel
theorem dX8_namesOf_26 : decode cX8_namesOf 26 = .ok (.iload_n 3, 1) := by decide +kernel
theorem dX8_namesOf_27 : decode cX8_namesOf 27 = .ok (.iaload, 1) := by decide +kernel
theorem dX8_namesOf_28 : decode cX8_namesOf 28 = .ok (.iload_n 1, 1) := by decide +kernel
theorem dX8_namesOf_29 : decode cX8_namesOf 29 = .ok (.if_icmp .ne 7, 3) := by decide +kernel
theorem dX8_namesOf_32 : decode cX8_namesOf 32 = .ok (.iconst 1, 1) := by decide +kernel
theorem dX8_namesOf_33 : decode cX8_namesOf 33 = .ok (.goto 4, 3) := by decide +kernel
theorem dX8_namesOf_36 : decode cX8_namesOf 36 = .ok (.iconst 0, 1) := by decide +kernel
theorem dX8_namesOf_37 : decode cX8_namesOf 37 = .ok (.iadd, 1) := by decide +kernel
theorem dX8_namesOf_38 : decode cX8_namesOf 38 = .ok (.istore_n 2, 1) := by decide +kernel
theorem dX8_namesOf_39 : decode cX8_namesOf 39 = .ok (.iinc 3 1, 3) := by decide +kernel
theorem dX8_namesOf_42 : decode cX8_namesOf 42 = .ok (.goto (-38), 3) := by decide +kernel
theorem dX8_namesOf_45 : decode cX8_namesOf 45 = .ok (.iload_n 2, 1) := by decide +kernel
theorem dX8_namesOf_46 : decode cX8_namesOf 46 = .ok (.ireturn, 1) := by decide +kernel
theorem dX8_isFile_0 : decode cX8_isFile 0 = .ok (.iload_n 1, 1) := by decide +kernel
theorem dX8_isFile_1 : decode cX8_isFile 1 = .ok (.iconst 0, 1) := by decide +kernel
theorem dX8_isFile_2 : decode cX8_isFile 2 = .ok (.aload_n 0, 1) := by decide +kernel
theorem dX8_isFile_3 : decode cX8_isFile 3 = .ok (.getfield 91, 3) := by decide +kernel
theorem dX8_isFile_6 : decode cX8_isFile 6 = .ok (.iconst 1, 1) := by decide +kernel
theorem dX8_isFile_7 : decode cX8_isFile 7 = .ok (.isub, 1) := by decide +kernel
theorem dX8_isFile_8 : decode cX8_isFile 8 = .ok (.invokestatic 73, 3) := by decide +kernel
theorem dX8_isFile_11 : decode cX8_isFile 11 = .ok (.ifCond .eq 15, 3) := by decide +kernel
theorem dX8_isFile_14 : decode cX8_isFile 14 = .ok (.aload_n 0, 1) := by decide +kernel
theorem dX8_isFile_15 : decode cX8_isFile 15 = .ok (.iload_n 1, 1) := by decide +kernel
theorem dX8_isFile_16 : decode cX8_isFile 16 = .ok (.invokevirtual 94, 3) := by decide +kernel
theorem dX8_isFile_19 : decode cX8_isFile 19 = .ok (.ifCond .le 7, 3) := by decide +kernel
theorem dX8_isFile_22 : decode cX8_isFile 22 = .ok (.iconst 1, 1) := by decide +kernel
theorem dX8_isFile_23 : decode cX8_isFile 23 = .ok (.goto 4, 3) := by decide +kernel
theorem dX8_isFile_26 : decode cX8_isFile 26 = .ok (.iconst 0, 1) := by decide +kernel
theorem dX8_isFile_27 : decode cX8_isFile 27 = .ok (.ireturn, 1) := by decide +kernel
theorem dX8_newName_0 : decode cX8_newName 0 = .ok (.aload_n 0, 1) := by decide +kernel
theorem dX8_newName_1 : decode cX8_newName 1 = .ok (.getfield 39, 3) := by decide +kernel
theorem dX8_newName_4 : decode cX8_newName 4 = .ok (.aload_n 0, 1) := by decide +kernel
theorem dX8_newName_5 : decode cX8_newName 5 = .ok (.getfield 88, 3) := by decide +kernel
theorem dX8_newName_8 : decode cX8_newName 8 = .ok (.iload_n 1, 1) := by decide +kernel
theorem dX8_newName_9 : decode cX8_newName 9 = .ok (.iastore, 1) := by decide +kernel
theorem dX8_newName_10 : decode cX8_newName 10 = .ok (.aload_n 0, 1) := by decide +kernel
theorem dX8_newName_11 : decode cX8_newName 11 = .ok (.getfield 42, 3) := by decide +kernel
theorem dX8_newName_14 : decode cX8_newName 14 = .ok (.aload_n 0, 1) := by decide +kernel
theorem dX8_newName_15 : decode cX8_newName 15 = .ok (.getfield 88, 3) := by decide +kernel
theorem dX8_newName_18 : decode cX8_newName 18 = .ok (.iload_n 2, 1) := by decide +kernel
theorem dX8_newName_19 : decode cX8_newName 19 = .ok (.iastore, 1) := by decide +kernel
theorem dX8_newName_20 : decode cX8_newName 20 = .ok (.aload_n 0, 1) := by decide +kernel
theorem dX8_newName_21 : decode cX8_newName 21 = .ok (.getfield 45, 3) := by decide +kernel
theorem dX8_newName_24 : decode cX8_newName 24 = .ok (.aload_n 0, 1) := by decide +kernel
theorem dX8_newName_25 : decode cX8_newName 25 = .ok (.getfield 88, 3) := by decide +kernel
theorem dX8_newName_28 : decode cX8_newName 28 = .ok (.iconst 1, 1) := by decide +kernel
theorem dX8_newName_29 : decode cX8_newName 29 = .ok (.bastore, 1) := by decide +kernel
theorem dX8_newName_30 : decode cX8_newName 30 = .ok (.aload_n 0, 1) := by decide +kernel
theorem dX8_newName_31 : decode cX8_newName 31 = .ok (.dup, 1) := by decide +kernel
theorem dX8_newName_32 : decode cX8_newName 32 = .ok (.getfield 88, 3) := by decide +kernel
theorem dX8_newName_35 : decode cX8_newName 35 = .ok (.iconst 1, 1) := by decide +kernel
theorem dX8_newName_36 : decode cX8_newName 36 = .ok (.iadd, 1) := by decide +kernel
theorem dX8_newName_37 : decode cX8_newName 37 = .ok (.putfield 88, 3) := by decide +kernel
theorem dX8_newName_40 : decode cX8_newName 40 = .ok (.aload_n 0, 1) := by decide +kernel
theorem dX8_newName_41 : decode cX8_newName 41 = .ok (.getfield 88, 3) := by decide +kernel
theorem dX8_newName_44 : decode cX8_newName 44 = .ok (.iconst 1, 1) := by decide +kernel
theorem dX8_newName_45 : decode cX8_newName 45 = .ok (.isub, 1) := by decide +kernel
theorem dX8_newName_46 : decode cX8_newName 46 = .ok (.ireturn, 1) := by decide +kernel
theorem dX8_file_0 : decode cX8_file 0 = .ok (.aload_n 0, 1) := by decide +kernel
theorem dX8_file_1 : decode cX8_file 1 = .ok (.iload_n 1, 1) := by decide +kernel
theorem dX8_file_2 : decode cX8_file 2 = .ok (.invokevirtual 80, 3) := by decide +kernel
theorem dX8_file_5 : decode cX8_file 5 = .ok (.ifCond .eq 41, 3) := by decide +kernel
theorem dX8_file_8 : decode cX8_file 8 = .ok (.iload_n 2, 1) := by decide +kernel
theorem dX8_file_9 : decode cX8_file 9 = .ok (.iconst 0, 1) := by decide +kernel
theorem dX8_file_10 : decode cX8_file 10 = .ok (.iconst 5, 1) := by decide +kernel
theorem dX8_file_11 : decode cX8_file 11 = .ok (.invokestatic 73, 3) := by decide +kernel
theorem dX8_file_14 : decode cX8_file 14 = .ok (.ifCond .eq 32, 3) := by decide +kernel
theorem dX8_file_17 : decode cX8_file 17 = .ok (.iload_n 3, 1) := by decide +kernel
theorem dX8_file_18 : decode cX8_file 18 = .ok (.iconst 0, 1) := by decide +kernel
theorem dX8_file_19 : decode cX8_file 19 = .ok (.sipush 999, 3) := by decide +kernel
theorem dX8_file_22 : decode cX8_file 22 = .ok (.invokestatic 73, 3) := by decide +kernel
theorem dX8_file_25 : decode cX8_file 25 = .ok (.ifCond .eq 21, 3) := by decide +kernel
theorem dX8_file_28 : decode cX8_file 28 = .ok (.aload_n 0, 1) := by decide +kernel
theorem dX8_file_29 : decode cX8_file 29 = .ok (.getfield 91, 3) := by decide +kernel
theorem dX8_file_32 : decode cX8_file 32 = .ok (.bipush 40, 2) := by decide +kernel
theorem dX8_file_34 : decode cX8_file 34 = .ok (.if_icmp .eq 12, 3) := by decide +kernel
theorem dX8_file_37 : decode cX8_file 37 = .ok (.aload_n 0, 1) := by decide +kernel
theorem dX8_file_38 : decode cX8_file 38 = .ok (.getfield 88, 3) := by decide +kernel
theorem dX8_file_41 : decode cX8_file 41 = .ok (.bipush 100, 2) := by decide +kernel
theorem dX8_file_43 : decode cX8_file 43 = .ok (.if_icmp .ne 5, 3) := by decide +kernel
theorem dX8_file_46 : decode cX8_file 46 = .ok (.iconst (-1), 1) := by decide +kernel
theorem dX8_file_47 : decode cX8_file 47 = .ok (.ireturn, 1) := by decide +kernel
theorem dX8_file_48 : decode cX8_file 48 = .ok (.aload_n 0, 1) := by decide +kernel
theorem dX8_file_49 : decode cX8_file 49 = .ok (.getfield 30, 3) := by decide +kernel
theorem dX8_file_52 : decode cX8_file 52 = .ok (.aload_n 0, 1) := by decide +kernel
theorem dX8_file_53 : decode cX8_file 53 = .ok (.getfield 91, 3) := by decide +kernel
theorem dX8_file_56 : decode cX8_file 56 = .ok (.iload_n 2, 1) := by decide +kernel
theorem dX8_file_57 : decode cX8_file 57 = .ok (.iastore, 1) := by decide +kernel
theorem dX8_file_58 : decode cX8_file 58 = .ok (.aload_n 0, 1) := by decide +kernel
theorem dX8_file_59 : decode cX8_file 59 = .ok (.getfield 33, 3) := by decide +kernel
theorem dX8_file_62 : decode cX8_file 62 = .ok (.aload_n 0, 1) := by decide +kernel
theorem dX8_file_63 : decode cX8_file 63 = .ok (.getfield 91, 3) := by decide +kernel
theorem dX8_file_66 : decode cX8_file 66 = .ok (.iload_n 3, 1) := by decide +kernel
theorem dX8_file_67 : decode cX8_file 67 = .ok (.iastore, 1) := by decide +kernel
theorem dX8_file_68 : decode cX8_file 68 = .ok (.aload_n 0, 1) := by decide +kernel
theorem dX8_file_69 : decode cX8_file 69 = .ok (.getfield 36, 3) := by decide +kernel
theorem dX8_file_72 : decode cX8_file 72 = .ok (.aload_n 0, 1) := by decide +kernel
theorem dX8_file_73 : decode cX8_file 73 = .ok (.getfield 91, 3) := by decide +kernel
theorem dX8_file_76 : decode cX8_file 76 = .ok (.aload_n 0, 1) := by decide +kernel
theorem dX8_file_77 : decode cX8_file 77 = .ok (.getfield 77, 3) := by decide +kernel
theorem dX8_file_80 : decode cX8_file 80 = .ok (.iastore, 1) := by decide +kernel
theorem dX8_file_81 : decode cX8_file 81 = .ok (.aload_n 0, 1) := by decide +kernel
theorem dX8_file_82 : decode cX8_file 82 = .ok (.dup, 1) := by decide +kernel
theorem dX8_file_83 : decode cX8_file 83 = .ok (.getfield 91, 3) := by decide +kernel
theorem dX8_file_86 : decode cX8_file 86 = .ok (.iconst 1, 1) := by decide +kernel
theorem dX8_file_87 : decode cX8_file 87 = .ok (.iadd, 1) := by decide +kernel
theorem dX8_file_88 : decode cX8_file 88 = .ok (.putfield 91, 3) := by decide +kernel
theorem dX8_file_91 : decode cX8_file 91 = .ok (.aload_n 0, 1) := by decide +kernel
theorem dX8_file_92 : decode cX8_file 92 = .ok (.aload_n 0, 1) := by decide +kernel
theorem dX8_file_93 : decode cX8_file 93 = .ok (.getfield 91, 3) := by decide +kernel
theorem dX8_file_96 : decode cX8_file 96 = .ok (.iconst 1, 1) := by decide +kernel
theorem dX8_file_97 : decode cX8_file 97 = .ok (.isub, 1) := by decide +kernel
theorem dX8_file_98 : decode cX8_file 98 = .ok (.iload_n 1, 1) := by decide +kernel
theorem dX8_file_99 : decode cX8_file 99 = .ok (.invokevirtual 98, 3) := by decide +kernel
theorem dX8_file_102 : decode cX8_file 102 = .ok (.ireturn, 1) := by decide +kernel
theorem dX8_of_0 : decode cX8_of 0 = .ok (.iload_n 1, 1) := by decide +kernel
theorem dX8_of_1 : decode cX8_of 1 = .ok (.iconst 0, 1) := by decide +kernel
theorem dX8_of_2 : decode cX8_of 2 = .ok (.aload_n 0, 1) := by decide +kernel
theorem dX8_of_3 : decode cX8_of 3 = .ok (.getfield 88, 3) := by decide +kernel
theorem dX8_of_6 : decode cX8_of 6 = .ok (.iconst 1, 1) := by decide +kernel
theorem dX8_of_7 : decode cX8_of 7 = .ok (.isub, 1) := by decide +kernel
theorem dX8_of_8 : decode cX8_of 8 = .ok (.invokestatic 73, 3) := by decide +kernel
theorem dX8_of_11 : decode cX8_of 11 = .ok (.ifCond .eq 21, 3) := by decide +kernel
theorem dX8_of_14 : decode cX8_of 14 = .ok (.aload_n 0, 1) := by decide +kernel
theorem dX8_of_15 : decode cX8_of 15 = .ok (.getfield 45, 3) := by decide +kernel
theorem dX8_of_18 : decode cX8_of 18 = .ok (.iload_n 1, 1) := by decide +kernel
theorem dX8_of_19 : decode cX8_of 19 = .ok (.baload, 1) := by decide +kernel
theorem dX8_of_20 : decode cX8_of 20 = .ok (.ifCond .eq 12, 3) := by decide +kernel
theorem dX8_of_23 : decode cX8_of 23 = .ok (.aload_n 0, 1) := by decide +kernel
theorem dX8_of_24 : decode cX8_of 24 = .ok (.getfield 39, 3) := by decide +kernel
theorem dX8_of_27 : decode cX8_of 27 = .ok (.iload_n 1, 1) := by decide +kernel
theorem dX8_of_28 : decode cX8_of 28 = .ok (.iaload, 1) := by decide +kernel
theorem dX8_of_29 : decode cX8_of 29 = .ok (.goto 4, 3) := by decide +kernel
theorem dX8_of_32 : decode cX8_of 32 = .ok (.iconst (-1), 1) := by decide +kernel
theorem dX8_of_33 : decode cX8_of 33 = .ok (.ireturn, 1) := by decide +kernel
theorem dX8_copy_0 : decode cX8_copy 0 = .ok (.aload_n 0, 1) := by decide +kernel
theorem dX8_copy_1 : decode cX8_copy 1 = .ok (.iload_n 1, 1) := by decide +kernel
theorem dX8_copy_2 : decode cX8_copy 2 = .ok (.invokevirtual 102, 3) := by decide +kernel
theorem dX8_copy_5 : decode cX8_copy 5 = .ok (.istore_n 3, 1) := by decide +kernel
theorem dX8_copy_6 : decode cX8_copy 6 = .ok (.iload_n 3, 1) := by decide +kernel
theorem dX8_copy_7 : decode cX8_copy 7 = .ok (.iconst (-1), 1) := by decide +kernel
theorem dX8_copy_8 : decode cX8_copy 8 = .ok (.if_icmp .eq 29, 3) := by decide +kernel
theorem dX8_copy_11 : decode cX8_copy 11 = .ok (.aload_n 0, 1) := by decide +kernel
theorem dX8_copy_12 : decode cX8_copy 12 = .ok (.iload_n 2, 1) := by decide +kernel
theorem dX8_copy_13 : decode cX8_copy 13 = .ok (.invokevirtual 80, 3) := by decide +kernel
theorem dX8_copy_16 : decode cX8_copy 16 = .ok (.ifCond .eq 21, 3) := by decide +kernel
theorem dX8_copy_19 : decode cX8_copy 19 = .ok (.aload_n 0, 1) := by decide +kernel
theorem dX8_copy_20 : decode cX8_copy 20 = .ok (.getfield 91, 3) := by decide +kernel
theorem dX8_copy_23 : decode cX8_copy 23 = .ok (.bipush 40, 2) := by decide +kernel
theorem dX8_copy_25 : decode cX8_copy 25 = .ok (.if_icmp .eq 12, 3) := by decide +kernel
theorem dX8_copy_28 : decode cX8_copy 28 = .ok (.aload_n 0, 1) := by decide +kernel
theorem dX8_copy_29 : decode cX8_copy 29 = .ok (.getfield 88, 3) := by decide +kernel
theorem dX8_copy_32 : decode cX8_copy 32 = .ok (.bipush 100, 2) := by decide +kernel
theorem dX8_copy_34 : decode cX8_copy 34 = .ok (.if_icmp .ne 5, 3) := by decide +kernel
theorem dX8_copy_37 : decode cX8_copy 37 = .ok (.iconst (-1), 1) := by decide +kernel
theorem dX8_copy_38 : decode cX8_copy 38 = .ok (.ireturn, 1) := by decide +kernel
theorem dX8_copy_39 : decode cX8_copy 39 = .ok (.aload_n 0, 1) := by decide +kernel
theorem dX8_copy_40 : decode cX8_copy 40 = .ok (.iload_n 2, 1) := by decide +kernel
theorem dX8_copy_41 : decode cX8_copy 41 = .ok (.aload_n 0, 1) := by decide +kernel
theorem dX8_copy_42 : decode cX8_copy 42 = .ok (.getfield 30, 3) := by decide +kernel
theorem dX8_copy_45 : decode cX8_copy 45 = .ok (.iload_n 3, 1) := by decide +kernel
theorem dX8_copy_46 : decode cX8_copy 46 = .ok (.iaload, 1) := by decide +kernel
theorem dX8_copy_47 : decode cX8_copy 47 = .ok (.aload_n 0, 1) := by decide +kernel
theorem dX8_copy_48 : decode cX8_copy 48 = .ok (.getfield 33, 3) := by decide +kernel
theorem dX8_copy_51 : decode cX8_copy 51 = .ok (.iload_n 3, 1) := by decide +kernel
theorem dX8_copy_52 : decode cX8_copy 52 = .ok (.iaload, 1) := by decide +kernel
theorem dX8_copy_53 : decode cX8_copy 53 = .ok (.invokevirtual 105, 3) := by decide +kernel
theorem dX8_copy_56 : decode cX8_copy 56 = .ok (.istore 4, 2) := by decide +kernel
theorem dX8_copy_58 : decode cX8_copy 58 = .ok (.aload_n 0, 1) := by decide +kernel
theorem dX8_copy_59 : decode cX8_copy 59 = .ok (.getfield 24, 3) := by decide +kernel
theorem dX8_copy_62 : decode cX8_copy 62 = .ok (.aload_n 0, 1) := by decide +kernel
theorem dX8_copy_63 : decode cX8_copy 63 = .ok (.getfield 91, 3) := by decide +kernel
theorem dX8_copy_66 : decode cX8_copy 66 = .ok (.iconst 1, 1) := by decide +kernel
theorem dX8_copy_67 : decode cX8_copy 67 = .ok (.isub, 1) := by decide +kernel
theorem dX8_copy_68 : decode cX8_copy 68 = .ok (.aload_n 0, 1) := by decide +kernel
theorem dX8_copy_69 : decode cX8_copy 69 = .ok (.getfield 24, 3) := by decide +kernel
theorem dX8_copy_72 : decode cX8_copy 72 = .ok (.iload_n 3, 1) := by decide +kernel
theorem dX8_copy_73 : decode cX8_copy 73 = .ok (.iaload, 1) := by decide +kernel
theorem dX8_copy_74 : decode cX8_copy 74 = .ok (.iastore, 1) := by decide +kernel
theorem dX8_copy_75 : decode cX8_copy 75 = .ok (.iconst 0, 1) := by decide +kernel
theorem dX8_copy_76 : decode cX8_copy 76 = .ok (.istore 5, 2) := by decide +kernel
theorem dX8_copy_78 : decode cX8_copy 78 = .ok (.iload 5, 2) := by decide +kernel
theorem dX8_copy_80 : decode cX8_copy 80 = .ok (.bipush 60, 2) := by decide +kernel
theorem dX8_copy_82 : decode cX8_copy 82 = .ok (.if_icmp .ge 38, 3) := by decide +kernel
theorem dX8_copy_85 : decode cX8_copy 85 = .ok (.aload_n 0, 1) := by decide +kernel
theorem dX8_copy_86 : decode cX8_copy 86 = .ok (.getfield 27, 3) := by decide +kernel
theorem dX8_copy_89 : decode cX8_copy 89 = .ok (.bipush 60, 2) := by decide +kernel
theorem dX8_copy_91 : decode cX8_copy 91 = .ok (.aload_n 0, 1) := by decide +kernel
theorem dX8_copy_92 : decode cX8_copy 92 = .ok (.getfield 91, 3) := by decide +kernel
theorem dX8_copy_95 : decode cX8_copy 95 = .ok (.iconst 1, 1) := by decide +kernel
theorem dX8_copy_96 : decode cX8_copy 96 = .ok (.isub, 1) := by decide +kernel
theorem dX8_copy_97 : decode cX8_copy 97 = .ok (.imul, 1) := by decide +kernel
theorem dX8_copy_98 : decode cX8_copy 98 = .ok (.iload 5, 2) := by decide +kernel
theorem dX8_copy_100 : decode cX8_copy 100 = .ok (.iadd, 1) := by decide +kernel
theorem dX8_copy_101 : decode cX8_copy 101 = .ok (.aload_n 0, 1) := by decide +kernel
theorem dX8_copy_102 : decode cX8_copy 102 = .ok (.getfield 27, 3) := by decide +kernel
theorem dX8_copy_105 : decode cX8_copy 105 = .ok (.bipush 60, 2) := by decide +kernel
theorem dX8_copy_107 : decode cX8_copy 107 = .ok (.iload_n 3, 1) := by decide +kernel
theorem dX8_copy_108 : decode cX8_copy 108 = .ok (.imul, 1) := by decide +kernel
theorem dX8_copy_109 : decode cX8_copy 109 = .ok (.iload 5, 2) := by decide +kernel
theorem dX8_copy_111 : decode cX8_copy 111 = .ok (.iadd, 1) := by decide +kernel
theorem dX8_copy_112 : decode cX8_copy 112 = .ok (.iaload, 1) := by decide +kernel
theorem dX8_copy_113 : decode cX8_copy 113 = .ok (.iastore, 1) := by decide +kernel
theorem dX8_copy_114 : decode cX8_copy 114 = .ok (.iinc 5 1, 3) := by decide +kernel
theorem dX8_copy_117 : decode cX8_copy 117 = .ok (.goto (-39), 3) := by decide +kernel
theorem dX8_copy_120 : decode cX8_copy 120 = .ok (.iload 4, 2) := by decide +kernel
theorem dX8_copy_122 : decode cX8_copy 122 = .ok (.ireturn, 1) := by decide +kernel
theorem dX8_link_0 : decode cX8_link 0 = .ok (.aload_n 0, 1) := by decide +kernel
theorem dX8_link_1 : decode cX8_link 1 = .ok (.iload_n 1, 1) := by decide +kernel
theorem dX8_link_2 : decode cX8_link 2 = .ok (.invokevirtual 109, 3) := by decide +kernel
theorem dX8_link_5 : decode cX8_link 5 = .ok (.ifCond .eq 29, 3) := by decide +kernel
theorem dX8_link_8 : decode cX8_link 8 = .ok (.aload_n 0, 1) := by decide +kernel
theorem dX8_link_9 : decode cX8_link 9 = .ok (.iload_n 2, 1) := by decide +kernel
theorem dX8_link_10 : decode cX8_link 10 = .ok (.invokevirtual 80, 3) := by decide +kernel
theorem dX8_link_13 : decode cX8_link 13 = .ok (.ifCond .eq 21, 3) := by decide +kernel
theorem dX8_link_16 : decode cX8_link 16 = .ok (.aload_n 0, 1) := by decide +kernel
theorem dX8_link_17 : decode cX8_link 17 = .ok (.getfield 88, 3) := by decide +kernel
theorem dX8_link_20 : decode cX8_link 20 = .ok (.bipush 100, 2) := by decide +kernel
theorem dX8_link_22 : decode cX8_link 22 = .ok (.if_icmp .ge 12, 3) := by decide +kernel
theorem dX8_link_25 : decode cX8_link 25 = .ok (.aload_n 0, 1) := by decide +kernel
theorem dX8_link_26 : decode cX8_link 26 = .ok (.iload_n 1, 1) := by decide +kernel
theorem dX8_link_27 : decode cX8_link 27 = .ok (.iload_n 2, 1) := by decide +kernel
theorem dX8_link_28 : decode cX8_link 28 = .ok (.invokevirtual 98, 3) := by decide +kernel
theorem dX8_link_31 : decode cX8_link 31 = .ok (.goto 4, 3) := by decide +kernel
theorem dX8_link_34 : decode cX8_link 34 = .ok (.iconst (-1), 1) := by decide +kernel
theorem dX8_link_35 : decode cX8_link 35 = .ok (.ireturn, 1) := by decide +kernel
theorem dX8_unlink_0 : decode cX8_unlink 0 = .ok (.aload_n 0, 1) := by decide +kernel
theorem dX8_unlink_1 : decode cX8_unlink 1 = .ok (.iload_n 1, 1) := by decide +kernel
theorem dX8_unlink_2 : decode cX8_unlink 2 = .ok (.invokevirtual 102, 3) := by decide +kernel
theorem dX8_unlink_5 : decode cX8_unlink 5 = .ok (.iconst (-1), 1) := by decide +kernel
theorem dX8_unlink_6 : decode cX8_unlink 6 = .ok (.if_icmp .ne 5, 3) := by decide +kernel
theorem dX8_unlink_9 : decode cX8_unlink 9 = .ok (.iconst 0, 1) := by decide +kernel
theorem dX8_unlink_10 : decode cX8_unlink 10 = .ok (.ireturn, 1) := by decide +kernel
theorem dX8_unlink_11 : decode cX8_unlink 11 = .ok (.aload_n 0, 1) := by decide +kernel
theorem dX8_unlink_12 : decode cX8_unlink 12 = .ok (.getfield 45, 3) := by decide +kernel
theorem dX8_unlink_15 : decode cX8_unlink 15 = .ok (.iload_n 1, 1) := by decide +kernel
theorem dX8_unlink_16 : decode cX8_unlink 16 = .ok (.iconst 0, 1) := by decide +kernel
theorem dX8_unlink_17 : decode cX8_unlink 17 = .ok (.bastore, 1) := by decide +kernel
theorem dX8_unlink_18 : decode cX8_unlink 18 = .ok (.iconst 1, 1) := by decide +kernel
theorem dX8_unlink_19 : decode cX8_unlink 19 = .ok (.ireturn, 1) := by decide +kernel
theorem dX8_blocksOf_0 : decode cX8_blocksOf 0 = .ok (.lconst 0, 1) := by decide +kernel
theorem dX8_blocksOf_1 : decode cX8_blocksOf 1 = .ok (.lstore_n 2, 1) := by decide +kernel
theorem dX8_blocksOf_2 : decode cX8_blocksOf 2 = .ok (.iconst 0, 1) := by decide +kernel
theorem dX8_blocksOf_3 : decode cX8_blocksOf 3 = .ok (.istore 4, 2) := by decide +kernel
theorem dX8_blocksOf_5 : decode cX8_blocksOf 5 = .ok (.iload 4, 2) := by decide +kernel
theorem dX8_blocksOf_7 : decode cX8_blocksOf 7 = .ok (.aload_n 0, 1) := by decide +kernel
theorem dX8_blocksOf_8 : decode cX8_blocksOf 8 = .ok (.getfield 24, 3) := by decide +kernel
theorem dX8_blocksOf_11 : decode cX8_blocksOf 11 = .ok (.iload_n 1, 1) := by decide +kernel
theorem dX8_blocksOf_12 : decode cX8_blocksOf 12 = .ok (.iaload, 1) := by decide +kernel
theorem dX8_blocksOf_13 : decode cX8_blocksOf 13 = .ok (.if_icmp .ge 50, 3) := by decide +kernel
theorem dX8_blocksOf_16 : decode cX8_blocksOf 16 = .ok (.aload_n 0, 1) := by decide +kernel
theorem dX8_blocksOf_17 : decode cX8_blocksOf 17 = .ok (.iload_n 1, 1) := by decide +kernel
theorem dX8_blocksOf_18 : decode cX8_blocksOf 18 = .ok (.invokevirtual 94, 3) := by decide +kernel
theorem dX8_blocksOf_21 : decode cX8_blocksOf 21 = .ok (.ifCond .le 42, 3) := by decide +kernel
theorem dX8_blocksOf_24 : decode cX8_blocksOf 24 = .ok (.aload_n 0, 1) := by decide +kernel
theorem dX8_blocksOf_25 : decode cX8_blocksOf 25 = .ok (.getfield 27, 3) := by decide +kernel
theorem dX8_blocksOf_28 : decode cX8_blocksOf 28 = .ok (.bipush 60, 2) := by decide +kernel
theorem dX8_blocksOf_30 : decode cX8_blocksOf 30 = .ok (.iload_n 1, 1) := by decide +kernel
theorem dX8_blocksOf_31 : decode cX8_blocksOf 31 = .ok (.imul, 1) := by decide +kernel
theorem dX8_blocksOf_32 : decode cX8_blocksOf 32 = .ok (.iload 4, 2) := by decide +kernel
theorem dX8_blocksOf_34 : decode cX8_blocksOf 34 = .ok (.iadd, 1) := by decide +kernel
theorem dX8_blocksOf_35 : decode cX8_blocksOf 35 = .ok (.iaload, 1) := by decide +kernel
theorem dX8_blocksOf_36 : decode cX8_blocksOf 36 = .ok (.iconst (-1), 1) := by decide +kernel
theorem dX8_blocksOf_37 : decode cX8_blocksOf 37 = .ok (.if_icmp .eq 20, 3) := by decide +kernel
theorem dX8_blocksOf_40 : decode cX8_blocksOf 40 = .ok (.lload_n 2, 1) := by decide +kernel
theorem dX8_blocksOf_41 : decode cX8_blocksOf 41 = .ok (.lconst 1, 1) := by decide +kernel
theorem dX8_blocksOf_42 : decode cX8_blocksOf 42 = .ok (.aload_n 0, 1) := by decide +kernel
theorem dX8_blocksOf_43 : decode cX8_blocksOf 43 = .ok (.getfield 27, 3) := by decide +kernel
theorem dX8_blocksOf_46 : decode cX8_blocksOf 46 = .ok (.bipush 60, 2) := by decide +kernel
theorem dX8_blocksOf_48 : decode cX8_blocksOf 48 = .ok (.iload_n 1, 1) := by decide +kernel
theorem dX8_blocksOf_49 : decode cX8_blocksOf 49 = .ok (.imul, 1) := by decide +kernel
theorem dX8_blocksOf_50 : decode cX8_blocksOf 50 = .ok (.iload 4, 2) := by decide +kernel
theorem dX8_blocksOf_52 : decode cX8_blocksOf 52 = .ok (.iadd, 1) := by decide +kernel
theorem dX8_blocksOf_53 : decode cX8_blocksOf 53 = .ok (.iaload, 1) := by decide +kernel
theorem dX8_blocksOf_54 : decode cX8_blocksOf 54 = .ok (.lshl, 1) := by decide +kernel
theorem dX8_blocksOf_55 : decode cX8_blocksOf 55 = .ok (.lor, 1) := by decide +kernel
theorem dX8_blocksOf_56 : decode cX8_blocksOf 56 = .ok (.lstore_n 2, 1) := by decide +kernel
theorem dX8_blocksOf_57 : decode cX8_blocksOf 57 = .ok (.iinc 4 1, 3) := by decide +kernel
theorem dX8_blocksOf_60 : decode cX8_blocksOf 60 = .ok (.goto (-55), 3) := by decide +kernel
theorem dX8_blocksOf_63 : decode cX8_blocksOf 63 = .ok (.lload_n 2, 1) := by decide +kernel
theorem dX8_blocksOf_64 : decode cX8_blocksOf 64 = .ok (.lreturn, 1) := by decide +kernel
theorem dX8_shots_0 : decode cX8_shots 0 = .ok (.lconst 0, 1) := by decide +kernel
theorem dX8_shots_1 : decode cX8_shots 1 = .ok (.lstore_n 2, 1) := by decide +kernel
theorem dX8_shots_2 : decode cX8_shots 2 = .ok (.iconst 0, 1) := by decide +kernel
theorem dX8_shots_3 : decode cX8_shots 3 = .ok (.istore 4, 2) := by decide +kernel
theorem dX8_shots_5 : decode cX8_shots 5 = .ok (.iload 4, 2) := by decide +kernel
theorem dX8_shots_7 : decode cX8_shots 7 = .ok (.bipush 8, 2) := by decide +kernel
theorem dX8_shots_9 : decode cX8_shots 9 = .ok (.if_icmp .ge 35, 3) := by decide +kernel
theorem dX8_shots_12 : decode cX8_shots 12 = .ok (.aload_n 0, 1) := by decide +kernel
theorem dX8_shots_13 : decode cX8_shots 13 = .ok (.getfield 48, 3) := by decide +kernel
theorem dX8_shots_16 : decode cX8_shots 16 = .ok (.iload 4, 2) := by decide +kernel
theorem dX8_shots_18 : decode cX8_shots 18 = .ok (.baload, 1) := by decide +kernel
theorem dX8_shots_19 : decode cX8_shots 19 = .ok (.ifCond .eq 19, 3) := by decide +kernel
theorem dX8_shots_22 : decode cX8_shots 22 = .ok (.iload 4, 2) := by decide +kernel
theorem dX8_shots_24 : decode cX8_shots 24 = .ok (.iload_n 1, 1) := by decide +kernel
theorem dX8_shots_25 : decode cX8_shots 25 = .ok (.if_icmp .eq 13, 3) := by decide +kernel
theorem dX8_shots_28 : decode cX8_shots 28 = .ok (.lload_n 2, 1) := by decide +kernel
theorem dX8_shots_29 : decode cX8_shots 29 = .ok (.aload_n 0, 1) := by decide +kernel
theorem dX8_shots_30 : decode cX8_shots 30 = .ok (.getfield 51, 3) := by decide +kernel
theorem dX8_shots_33 : decode cX8_shots 33 = .ok (.iload 4, 2) := by decide +kernel
theorem dX8_shots_35 : decode cX8_shots 35 = .ok (.laload, 1) := by decide +kernel
theorem dX8_shots_36 : decode cX8_shots 36 = .ok (.lor, 1) := by decide +kernel
theorem dX8_shots_37 : decode cX8_shots 37 = .ok (.lstore_n 2, 1) := by decide +kernel
theorem dX8_shots_38 : decode cX8_shots 38 = .ok (.iinc 4 1, 3) := by decide +kernel
theorem dX8_shots_41 : decode cX8_shots 41 = .ok (.goto (-36), 3) := by decide +kernel
theorem dX8_shots_44 : decode cX8_shots 44 = .ok (.lload_n 2, 1) := by decide +kernel
theorem dX8_shots_45 : decode cX8_shots 45 = .ok (.lreturn, 1) := by decide +kernel
theorem dX8_allFiles_0 : decode cX8_allFiles 0 = .ok (.lconst 0, 1) := by decide +kernel
theorem dX8_allFiles_1 : decode cX8_allFiles 1 = .ok (.lstore_n 1, 1) := by decide +kernel
theorem dX8_allFiles_2 : decode cX8_allFiles 2 = .ok (.iconst 0, 1) := by decide +kernel
theorem dX8_allFiles_3 : decode cX8_allFiles 3 = .ok (.istore_n 3, 1) := by decide +kernel
theorem dX8_allFiles_4 : decode cX8_allFiles 4 = .ok (.iload_n 3, 1) := by decide +kernel
theorem dX8_allFiles_5 : decode cX8_allFiles 5 = .ok (.aload_n 0, 1) := by decide +kernel
theorem dX8_allFiles_6 : decode cX8_allFiles 6 = .ok (.getfield 91, 3) := by decide +kernel
theorem dX8_allFiles_9 : decode cX8_allFiles 9 = .ok (.if_icmp .ge 17, 3) := by decide +kernel
theorem dX8_allFiles_12 : decode cX8_allFiles 12 = .ok (.lload_n 1, 1) := by decide +kernel
theorem dX8_allFiles_13 : decode cX8_allFiles 13 = .ok (.aload_n 0, 1) := by decide +kernel
theorem dX8_allFiles_14 : decode cX8_allFiles 14 = .ok (.iload_n 3, 1) := by decide +kernel
theorem dX8_allFiles_15 : decode cX8_allFiles 15 = .ok (.invokevirtual 112, 3) := by decide +kernel
theorem dX8_allFiles_18 : decode cX8_allFiles 18 = .ok (.lor, 1) := by decide +kernel
theorem dX8_allFiles_19 : decode cX8_allFiles 19 = .ok (.lstore_n 1, 1) := by decide +kernel
theorem dX8_allFiles_20 : decode cX8_allFiles 20 = .ok (.iinc 3 1, 3) := by decide +kernel
theorem dX8_allFiles_23 : decode cX8_allFiles 23 = .ok (.goto (-19), 3) := by decide +kernel
theorem dX8_allFiles_26 : decode cX8_allFiles 26 = .ok (.lload_n 1, 1) := by decide +kernel
theorem dX8_allFiles_27 : decode cX8_allFiles 27 = .ok (.lreturn, 1) := by decide +kernel
theorem dX8_isPlace_0 : decode cX8_isPlace 0 = .ok (.aload_n 0, 1) := by decide +kernel
theorem dX8_isPlace_1 : decode cX8_isPlace 1 = .ok (.iload_n 1, 1) := by decide +kernel
theorem dX8_isPlace_2 : decode cX8_isPlace 2 = .ok (.invokevirtual 109, 3) := by decide +kernel
theorem dX8_isPlace_5 : decode cX8_isPlace 5 = .ok (.ifCond .eq 37, 3) := by decide +kernel
theorem dX8_isPlace_8 : decode cX8_isPlace 8 = .ok (.iload_n 2, 1) := by decide +kernel
theorem dX8_isPlace_9 : decode cX8_isPlace 9 = .ok (.iconst 0, 1) := by decide +kernel
theorem dX8_isPlace_10 : decode cX8_isPlace 10 = .ok (.aload_n 0, 1) := by decide +kernel
theorem dX8_isPlace_11 : decode cX8_isPlace 11 = .ok (.getfield 24, 3) := by decide +kernel
theorem dX8_isPlace_14 : decode cX8_isPlace 14 = .ok (.iload_n 1, 1) := by decide +kernel
theorem dX8_isPlace_15 : decode cX8_isPlace 15 = .ok (.iaload, 1) := by decide +kernel
theorem dX8_isPlace_16 : decode cX8_isPlace 16 = .ok (.bipush 60, 2) := by decide +kernel
theorem dX8_isPlace_18 : decode cX8_isPlace 18 = .ok (.if_icmp .ge 12, 3) := by decide +kernel
theorem dX8_isPlace_21 : decode cX8_isPlace 21 = .ok (.aload_n 0, 1) := by decide +kernel
theorem dX8_isPlace_22 : decode cX8_isPlace 22 = .ok (.getfield 24, 3) := by decide +kernel
theorem dX8_isPlace_25 : decode cX8_isPlace 25 = .ok (.iload_n 1, 1) := by decide +kernel
theorem dX8_isPlace_26 : decode cX8_isPlace 26 = .ok (.iaload, 1) := by decide +kernel
theorem dX8_isPlace_27 : decode cX8_isPlace 27 = .ok (.goto 5, 3) := by decide +kernel
theorem dX8_isPlace_30 : decode cX8_isPlace 30 = .ok (.bipush 59, 2) := by decide +kernel
theorem dX8_isPlace_32 : decode cX8_isPlace 32 = .ok (.invokestatic 73, 3) := by decide +kernel
theorem dX8_isPlace_35 : decode cX8_isPlace 35 = .ok (.ifCond .eq 7, 3) := by decide +kernel
theorem dX8_isPlace_38 : decode cX8_isPlace 38 = .ok (.iconst 1, 1) := by decide +kernel
theorem dX8_isPlace_39 : decode cX8_isPlace 39 = .ok (.goto 4, 3) := by decide +kernel
theorem dX8_isPlace_42 : decode cX8_isPlace 42 = .ok (.iconst 0, 1) := by decide +kernel
theorem dX8_isPlace_43 : decode cX8_isPlace 43 = .ok (.ireturn, 1) := by decide +kernel
theorem dX8_puts_0 : decode cX8_puts 0 = .ok (.aload_n 0, 1) := by decide +kernel
theorem dX8_puts_1 : decode cX8_puts 1 = .ok (.getfield 27, 3) := by decide +kernel
theorem dX8_puts_4 : decode cX8_puts 4 = .ok (.bipush 60, 2) := by decide +kernel
theorem dX8_puts_6 : decode cX8_puts 6 = .ok (.iload_n 1, 1) := by decide +kernel
theorem dX8_puts_7 : decode cX8_puts 7 = .ok (.imul, 1) := by decide +kernel
theorem dX8_puts_8 : decode cX8_puts 8 = .ok (.iload_n 2, 1) := by decide +kernel
theorem dX8_puts_9 : decode cX8_puts 9 = .ok (.iadd, 1) := by decide +kernel
theorem dX8_puts_10 : decode cX8_puts 10 = .ok (.iload_n 3, 1) := by decide +kernel
theorem dX8_puts_11 : decode cX8_puts 11 = .ok (.iastore, 1) := by decide +kernel
theorem dX8_puts_12 : decode cX8_puts 12 = .ok (.iload_n 2, 1) := by decide +kernel
theorem dX8_puts_13 : decode cX8_puts 13 = .ok (.aload_n 0, 1) := by decide +kernel
theorem dX8_puts_14 : decode cX8_puts 14 = .ok (.getfield 24, 3) := by decide +kernel
theorem dX8_puts_17 : decode cX8_puts 17 = .ok (.iload_n 1, 1) := by decide +kernel
theorem dX8_puts_18 : decode cX8_puts 18 = .ok (.iaload, 1) := by decide +kernel
theorem dX8_puts_19 : decode cX8_puts 19 = .ok (.if_icmp .ne 13, 3) := by decide +kernel
theorem dX8_puts_22 : decode cX8_puts 22 = .ok (.aload_n 0, 1) := by decide +kernel
theorem dX8_puts_23 : decode cX8_puts 23 = .ok (.getfield 24, 3) := by decide +kernel
theorem dX8_puts_26 : decode cX8_puts 26 = .ok (.iload_n 1, 1) := by decide +kernel
theorem dX8_puts_27 : decode cX8_puts 27 = .ok (.dup2, 1) := by decide +kernel
theorem dX8_puts_28 : decode cX8_puts 28 = .ok (.iaload, 1) := by decide +kernel
theorem dX8_puts_29 : decode cX8_puts 29 = .ok (.iconst 1, 1) := by decide +kernel
theorem dX8_puts_30 : decode cX8_puts 30 = .ok (.iadd, 1) := by decide +kernel
theorem dX8_puts_31 : decode cX8_puts 31 = .ok (.iastore, 1) := by decide +kernel
theorem dX8_puts_32 : decode cX8_puts 32 = .ok (.aload_n 0, 1) := by decide +kernel
theorem dX8_puts_33 : decode cX8_puts 33 = .ok (.getfield 36, 3) := by decide +kernel
theorem dX8_puts_36 : decode cX8_puts 36 = .ok (.iload_n 1, 1) := by decide +kernel
theorem dX8_puts_37 : decode cX8_puts 37 = .ok (.aload_n 0, 1) := by decide +kernel
theorem dX8_puts_38 : decode cX8_puts 38 = .ok (.getfield 77, 3) := by decide +kernel
theorem dX8_puts_41 : decode cX8_puts 41 = .ok (.iastore, 1) := by decide +kernel
theorem dX8_puts_42 : decode cX8_puts 42 = .ok (.return_, 1) := by decide +kernel
theorem dX8_write_0 : decode cX8_write 0 = .ok (.aload_n 0, 1) := by decide +kernel
theorem dX8_write_1 : decode cX8_write 1 = .ok (.iload_n 1, 1) := by decide +kernel
theorem dX8_write_2 : decode cX8_write 2 = .ok (.iload_n 2, 1) := by decide +kernel
theorem dX8_write_3 : decode cX8_write 3 = .ok (.invokevirtual 116, 3) := by decide +kernel
theorem dX8_write_6 : decode cX8_write 6 = .ok (.ifCond .ne 5, 3) := by decide +kernel
theorem dX8_write_9 : decode cX8_write 9 = .ok (.iconst (-1), 1) := by decide +kernel
theorem dX8_write_10 : decode cX8_write 10 = .ok (.ireturn, 1) := by decide +kernel
theorem dX8_write_11 : decode cX8_write 11 = .ok (.aload_n 0, 1) := by decide +kernel
theorem dX8_write_12 : decode cX8_write 12 = .ok (.invokevirtual 119, 3) := by decide +kernel
theorem dX8_write_15 : decode cX8_write 15 = .ok (.aload_n 0, 1) := by decide +kernel
theorem dX8_write_16 : decode cX8_write 16 = .ok (.iconst (-1), 1) := by decide +kernel
theorem dX8_write_17 : decode cX8_write 17 = .ok (.invokevirtual 123, 3) := by decide +kernel
theorem dX8_write_20 : decode cX8_write 20 = .ok (.lor, 1) := by decide +kernel
theorem dX8_write_21 : decode cX8_write 21 = .ok (.lstore_n 3, 1) := by decide +kernel
theorem dX8_write_22 : decode cX8_write 22 = .ok (.lload_n 3, 1) := by decide +kernel
theorem dX8_write_23 : decode cX8_write 23 = .ok (.invokestatic 126, 3) := by decide +kernel
theorem dX8_write_26 : decode cX8_write 26 = .ok (.aload_n 0, 1) := by decide +kernel
theorem dX8_write_27 : decode cX8_write 27 = .ok (.getfield 61, 3) := by decide +kernel
theorem dX8_write_30 : decode cX8_write 30 = .ok (.if_icmp .lt 5, 3) := by decide +kernel
theorem dX8_write_33 : decode cX8_write 33 = .ok (.iconst (-1), 1) := by decide +kernel
theorem dX8_write_34 : decode cX8_write 34 = .ok (.ireturn, 1) := by decide +kernel
theorem dX8_write_35 : decode cX8_write 35 = .ok (.iconst 0, 1) := by decide +kernel
theorem dX8_write_36 : decode cX8_write 36 = .ok (.istore 5, 2) := by decide +kernel
theorem dX8_write_38 : decode cX8_write 38 = .ok (.iload 5, 2) := by decide +kernel
theorem dX8_write_40 : decode cX8_write 40 = .ok (.bipush 60, 2) := by decide +kernel
theorem dX8_write_42 : decode cX8_write 42 = .ok (.if_icmp .ge 34, 3) := by decide +kernel
theorem dX8_write_45 : decode cX8_write 45 = .ok (.lload_n 3, 1) := by decide +kernel
theorem dX8_write_46 : decode cX8_write 46 = .ok (.iload 5, 2) := by decide +kernel
theorem dX8_write_48 : decode cX8_write 48 = .ok (.lshr, 1) := by decide +kernel
theorem dX8_write_49 : decode cX8_write 49 = .ok (.lconst 1, 1) := by decide +kernel
theorem dX8_write_50 : decode cX8_write 50 = .ok (.land, 1) := by decide +kernel
theorem dX8_write_51 : decode cX8_write 51 = .ok (.lconst 1, 1) := by decide +kernel
theorem dX8_write_52 : decode cX8_write 52 = .ok (.lcmp, 1) := by decide +kernel
theorem dX8_write_53 : decode cX8_write 53 = .ok (.ifCond .ne 6, 3) := by decide +kernel
theorem dX8_write_56 : decode cX8_write 56 = .ok (.goto 14, 3) := by decide +kernel
theorem dX8_write_59 : decode cX8_write 59 = .ok (.aload_n 0, 1) := by decide +kernel
theorem dX8_write_60 : decode cX8_write 60 = .ok (.iload_n 1, 1) := by decide +kernel
theorem dX8_write_61 : decode cX8_write 61 = .ok (.iload_n 2, 1) := by decide +kernel
theorem dX8_write_62 : decode cX8_write 62 = .ok (.iload 5, 2) := by decide +kernel
theorem dX8_write_64 : decode cX8_write 64 = .ok (.invokevirtual 130, 3) := by decide +kernel
theorem dX8_write_67 : decode cX8_write 67 = .ok (.iload 5, 2) := by decide +kernel
theorem dX8_write_69 : decode cX8_write 69 = .ok (.ireturn, 1) := by decide +kernel
theorem dX8_write_70 : decode cX8_write 70 = .ok (.iinc 5 1, 3) := by decide +kernel
theorem dX8_write_73 : decode cX8_write 73 = .ok (.goto (-35), 3) := by decide +kernel
theorem dX8_write_76 : decode cX8_write 76 = .ok (.iconst (-1), 1) := by decide +kernel
theorem dX8_write_77 : decode cX8_write 77 = .ok (.ireturn, 1) := by decide +kernel
theorem dX8_hole_0 : decode cX8_hole 0 = .ok (.aload_n 0, 1) := by decide +kernel
theorem dX8_hole_1 : decode cX8_hole 1 = .ok (.iload_n 1, 1) := by decide +kernel
theorem dX8_hole_2 : decode cX8_hole 2 = .ok (.iload_n 2, 1) := by decide +kernel
theorem dX8_hole_3 : decode cX8_hole 3 = .ok (.invokevirtual 116, 3) := by decide +kernel
theorem dX8_hole_6 : decode cX8_hole 6 = .ok (.ifCond .ne 5, 3) := by decide +kernel
theorem dX8_hole_9 : decode cX8_hole 9 = .ok (.iconst 0, 1) := by decide +kernel
theorem dX8_hole_10 : decode cX8_hole 10 = .ok (.ireturn, 1) := by decide +kernel
theorem dX8_hole_11 : decode cX8_hole 11 = .ok (.aload_n 0, 1) := by decide +kernel
theorem dX8_hole_12 : decode cX8_hole 12 = .ok (.iload_n 1, 1) := by decide +kernel
theorem dX8_hole_13 : decode cX8_hole 13 = .ok (.iload_n 2, 1) := by decide +kernel
theorem dX8_hole_14 : decode cX8_hole 14 = .ok (.iconst (-1), 1) := by decide +kernel
theorem dX8_hole_15 : decode cX8_hole 15 = .ok (.invokevirtual 130, 3) := by decide +kernel
theorem dX8_hole_18 : decode cX8_hole 18 = .ok (.iconst 1, 1) := by decide +kernel
theorem dX8_hole_19 : decode cX8_hole 19 = .ok (.ireturn, 1) := by decide +kernel
theorem dX8_block_0 : decode cX8_block 0 = .ok (.aload_n 0, 1) := by decide +kernel
theorem dX8_block_1 : decode cX8_block 1 = .ok (.iload_n 1, 1) := by decide +kernel
theorem dX8_block_2 : decode cX8_block 2 = .ok (.invokevirtual 109, 3) := by decide +kernel
theorem dX8_block_5 : decode cX8_block 5 = .ok (.ifCond .eq 33, 3) := by decide +kernel
theorem dX8_block_8 : decode cX8_block 8 = .ok (.iload_n 2, 1) := by decide +kernel
theorem dX8_block_9 : decode cX8_block 9 = .ok (.iconst 0, 1) := by decide +kernel
theorem dX8_block_10 : decode cX8_block 10 = .ok (.aload_n 0, 1) := by decide +kernel
theorem dX8_block_11 : decode cX8_block 11 = .ok (.getfield 24, 3) := by decide +kernel
theorem dX8_block_14 : decode cX8_block 14 = .ok (.iload_n 1, 1) := by decide +kernel
theorem dX8_block_15 : decode cX8_block 15 = .ok (.iaload, 1) := by decide +kernel
theorem dX8_block_16 : decode cX8_block 16 = .ok (.iconst 1, 1) := by decide +kernel
theorem dX8_block_17 : decode cX8_block 17 = .ok (.isub, 1) := by decide +kernel
theorem dX8_block_18 : decode cX8_block 18 = .ok (.invokestatic 73, 3) := by decide +kernel
theorem dX8_block_21 : decode cX8_block 21 = .ok (.ifCond .eq 17, 3) := by decide +kernel
theorem dX8_block_24 : decode cX8_block 24 = .ok (.aload_n 0, 1) := by decide +kernel
theorem dX8_block_25 : decode cX8_block 25 = .ok (.getfield 27, 3) := by decide +kernel
theorem dX8_block_28 : decode cX8_block 28 = .ok (.bipush 60, 2) := by decide +kernel
theorem dX8_block_30 : decode cX8_block 30 = .ok (.iload_n 1, 1) := by decide +kernel
theorem dX8_block_31 : decode cX8_block 31 = .ok (.imul, 1) := by decide +kernel
theorem dX8_block_32 : decode cX8_block 32 = .ok (.iload_n 2, 1) := by decide +kernel
theorem dX8_block_33 : decode cX8_block 33 = .ok (.iadd, 1) := by decide +kernel
theorem dX8_block_34 : decode cX8_block 34 = .ok (.iaload, 1) := by decide +kernel
theorem dX8_block_35 : decode cX8_block 35 = .ok (.goto 4, 3) := by decide +kernel
theorem dX8_block_38 : decode cX8_block 38 = .ok (.iconst (-1), 1) := by decide +kernel
theorem dX8_block_39 : decode cX8_block 39 = .ok (.ireturn, 1) := by decide +kernel
theorem dX8_share_0 : decode cX8_share 0 = .ok (.aload_n 0, 1) := by decide +kernel
theorem dX8_share_1 : decode cX8_share 1 = .ok (.iload_n 1, 1) := by decide +kernel
theorem dX8_share_2 : decode cX8_share 2 = .ok (.iload_n 2, 1) := by decide +kernel
theorem dX8_share_3 : decode cX8_share 3 = .ok (.invokevirtual 116, 3) := by decide +kernel
theorem dX8_share_6 : decode cX8_share 6 = .ok (.ifCond .eq 14, 3) := by decide +kernel
theorem dX8_share_9 : decode cX8_share 9 = .ok (.aload_n 0, 1) := by decide +kernel
theorem dX8_share_10 : decode cX8_share 10 = .ok (.iload_n 3, 1) := by decide +kernel
theorem dX8_share_11 : decode cX8_share 11 = .ok (.iload 4, 2) := by decide +kernel
theorem dX8_share_13 : decode cX8_share 13 = .ok (.invokevirtual 134, 3) := by decide +kernel
theorem dX8_share_16 : decode cX8_share 16 = .ok (.iconst (-1), 1) := by decide +kernel
theorem dX8_share_17 : decode cX8_share 17 = .ok (.if_icmp .ne 5, 3) := by decide +kernel
theorem dX8_share_20 : decode cX8_share 20 = .ok (.iconst 0, 1) := by decide +kernel
theorem dX8_share_21 : decode cX8_share 21 = .ok (.ireturn, 1) := by decide +kernel
theorem dX8_share_22 : decode cX8_share 22 = .ok (.aload_n 0, 1) := by decide +kernel
theorem dX8_share_23 : decode cX8_share 23 = .ok (.iload_n 1, 1) := by decide +kernel
theorem dX8_share_24 : decode cX8_share 24 = .ok (.iload_n 2, 1) := by decide +kernel
theorem dX8_share_25 : decode cX8_share 25 = .ok (.aload_n 0, 1) := by decide +kernel
theorem dX8_share_26 : decode cX8_share 26 = .ok (.iload_n 3, 1) := by decide +kernel
theorem dX8_share_27 : decode cX8_share 27 = .ok (.iload 4, 2) := by decide +kernel
theorem dX8_share_29 : decode cX8_share 29 = .ok (.invokevirtual 134, 3) := by decide +kernel
theorem dX8_share_32 : decode cX8_share 32 = .ok (.invokevirtual 130, 3) := by decide +kernel
theorem dX8_share_35 : decode cX8_share 35 = .ok (.iconst 1, 1) := by decide +kernel
theorem dX8_share_36 : decode cX8_share 36 = .ok (.ireturn, 1) := by decide +kernel
theorem dX8_cut_0 : decode cX8_cut 0 = .ok (.aload_n 0, 1) := by decide +kernel
theorem dX8_cut_1 : decode cX8_cut 1 = .ok (.iload_n 1, 1) := by decide +kernel
theorem dX8_cut_2 : decode cX8_cut 2 = .ok (.invokevirtual 109, 3) := by decide +kernel
theorem dX8_cut_5 : decode cX8_cut 5 = .ok (.ifCond .eq 17, 3) := by decide +kernel
theorem dX8_cut_8 : decode cX8_cut 8 = .ok (.iload_n 2, 1) := by decide +kernel
theorem dX8_cut_9 : decode cX8_cut 9 = .ok (.iconst 0, 1) := by decide +kernel
theorem dX8_cut_10 : decode cX8_cut 10 = .ok (.aload_n 0, 1) := by decide +kernel
theorem dX8_cut_11 : decode cX8_cut 11 = .ok (.getfield 24, 3) := by decide +kernel
theorem dX8_cut_14 : decode cX8_cut 14 = .ok (.iload_n 1, 1) := by decide +kernel
theorem dX8_cut_15 : decode cX8_cut 15 = .ok (.iaload, 1) := by decide +kernel
theorem dX8_cut_16 : decode cX8_cut 16 = .ok (.invokestatic 73, 3) := by decide +kernel
theorem dX8_cut_19 : decode cX8_cut 19 = .ok (.ifCond .ne 5, 3) := by decide +kernel
theorem dX8_cut_22 : decode cX8_cut 22 = .ok (.iconst 0, 1) := by decide +kernel
theorem dX8_cut_23 : decode cX8_cut 23 = .ok (.ireturn, 1) := by decide +kernel
theorem dX8_cut_24 : decode cX8_cut 24 = .ok (.aload_n 0, 1) := by decide +kernel
theorem dX8_cut_25 : decode cX8_cut 25 = .ok (.getfield 24, 3) := by decide +kernel
theorem dX8_cut_28 : decode cX8_cut 28 = .ok (.iload_n 1, 1) := by decide +kernel
theorem dX8_cut_29 : decode cX8_cut 29 = .ok (.iload_n 2, 1) := by decide +kernel
theorem dX8_cut_30 : decode cX8_cut 30 = .ok (.iastore, 1) := by decide +kernel
theorem dX8_cut_31 : decode cX8_cut 31 = .ok (.aload_n 0, 1) := by decide +kernel
theorem dX8_cut_32 : decode cX8_cut 32 = .ok (.getfield 36, 3) := by decide +kernel
theorem dX8_cut_35 : decode cX8_cut 35 = .ok (.iload_n 1, 1) := by decide +kernel
theorem dX8_cut_36 : decode cX8_cut 36 = .ok (.aload_n 0, 1) := by decide +kernel
theorem dX8_cut_37 : decode cX8_cut 37 = .ok (.getfield 77, 3) := by decide +kernel
theorem dX8_cut_40 : decode cX8_cut 40 = .ok (.iastore, 1) := by decide +kernel
theorem dX8_cut_41 : decode cX8_cut 41 = .ok (.iconst 1, 1) := by decide +kernel
theorem dX8_cut_42 : decode cX8_cut 42 = .ok (.ireturn, 1) := by decide +kernel
theorem dX8_isIn_0 : decode cX8_isIn 0 = .ok (.iconst 0, 1) := by decide +kernel
theorem dX8_isIn_1 : decode cX8_isIn 1 = .ok (.istore_n 3, 1) := by decide +kernel
theorem dX8_isIn_2 : decode cX8_isIn 2 = .ok (.iload_n 3, 1) := by decide +kernel
theorem dX8_isIn_3 : decode cX8_isIn 3 = .ok (.aload_n 0, 1) := by decide +kernel
theorem dX8_isIn_4 : decode cX8_isIn 4 = .ok (.getfield 88, 3) := by decide +kernel
theorem dX8_isIn_7 : decode cX8_isIn 7 = .ok (.if_icmp .ge 44, 3) := by decide +kernel
theorem dX8_isIn_10 : decode cX8_isIn 10 = .ok (.aload_n 0, 1) := by decide +kernel
theorem dX8_isIn_11 : decode cX8_isIn 11 = .ok (.getfield 45, 3) := by decide +kernel
theorem dX8_isIn_14 : decode cX8_isIn 14 = .ok (.iload_n 3, 1) := by decide +kernel
theorem dX8_isIn_15 : decode cX8_isIn 15 = .ok (.baload, 1) := by decide +kernel
theorem dX8_isIn_16 : decode cX8_isIn 16 = .ok (.ifCond .eq 29, 3) := by decide +kernel
theorem dX8_isIn_19 : decode cX8_isIn 19 = .ok (.aload_n 0, 1) := by decide +kernel
theorem dX8_isIn_20 : decode cX8_isIn 20 = .ok (.getfield 39, 3) := by decide +kernel
theorem dX8_isIn_23 : decode cX8_isIn 23 = .ok (.iload_n 3, 1) := by decide +kernel
theorem dX8_isIn_24 : decode cX8_isIn 24 = .ok (.iaload, 1) := by decide +kernel
theorem dX8_isIn_25 : decode cX8_isIn 25 = .ok (.iload_n 1, 1) := by decide +kernel
theorem dX8_isIn_26 : decode cX8_isIn 26 = .ok (.if_icmp .ne 19, 3) := by decide +kernel
theorem dX8_isIn_29 : decode cX8_isIn 29 = .ok (.aload_n 0, 1) := by decide +kernel
theorem dX8_isIn_30 : decode cX8_isIn 30 = .ok (.aload_n 0, 1) := by decide +kernel
theorem dX8_isIn_31 : decode cX8_isIn 31 = .ok (.getfield 42, 3) := by decide +kernel
theorem dX8_isIn_34 : decode cX8_isIn 34 = .ok (.iload_n 3, 1) := by decide +kernel
theorem dX8_isIn_35 : decode cX8_isIn 35 = .ok (.iaload, 1) := by decide +kernel
theorem dX8_isIn_36 : decode cX8_isIn 36 = .ok (.iload_n 2, 1) := by decide +kernel
theorem dX8_isIn_37 : decode cX8_isIn 37 = .ok (.invokevirtual 84, 3) := by decide +kernel
theorem dX8_isIn_40 : decode cX8_isIn 40 = .ok (.ifCond .eq 5, 3) := by decide +kernel
theorem dX8_isIn_43 : decode cX8_isIn 43 = .ok (.iconst 1, 1) := by decide +kernel
theorem dX8_isIn_44 : decode cX8_isIn 44 = .ok (.ireturn, 1) := by decide +kernel
theorem dX8_isIn_45 : decode cX8_isIn 45 = .ok (.iinc 3 1, 3) := by decide +kernel
theorem dX8_isIn_48 : decode cX8_isIn 48 = .ok (.goto (-46), 3) := by decide +kernel
theorem dX8_isIn_51 : decode cX8_isIn 51 = .ok (.iconst 0, 1) := by decide +kernel
theorem dX8_isIn_52 : decode cX8_isIn 52 = .ok (.ireturn, 1) := by decide +kernel
theorem dX8_taken_0 : decode cX8_taken 0 = .ok (.lconst 0, 1) := by decide +kernel
theorem dX8_taken_1 : decode cX8_taken 1 = .ok (.lstore_n 2, 1) := by decide +kernel
theorem dX8_taken_2 : decode cX8_taken 2 = .ok (.iconst 0, 1) := by decide +kernel
theorem dX8_taken_3 : decode cX8_taken 3 = .ok (.istore 4, 2) := by decide +kernel
theorem dX8_taken_5 : decode cX8_taken 5 = .ok (.iload 4, 2) := by decide +kernel
theorem dX8_taken_7 : decode cX8_taken 7 = .ok (.aload_n 0, 1) := by decide +kernel
theorem dX8_taken_8 : decode cX8_taken 8 = .ok (.getfield 91, 3) := by decide +kernel
theorem dX8_taken_11 : decode cX8_taken 11 = .ok (.if_icmp .ge 28, 3) := by decide +kernel
theorem dX8_taken_14 : decode cX8_taken 14 = .ok (.aload_n 0, 1) := by decide +kernel
theorem dX8_taken_15 : decode cX8_taken 15 = .ok (.iload 4, 2) := by decide +kernel
theorem dX8_taken_17 : decode cX8_taken 17 = .ok (.iload_n 1, 1) := by decide +kernel
theorem dX8_taken_18 : decode cX8_taken 18 = .ok (.invokevirtual 137, 3) := by decide +kernel
theorem dX8_taken_21 : decode cX8_taken 21 = .ok (.ifCond .eq 12, 3) := by decide +kernel
theorem dX8_taken_24 : decode cX8_taken 24 = .ok (.lload_n 2, 1) := by decide +kernel
theorem dX8_taken_25 : decode cX8_taken 25 = .ok (.aload_n 0, 1) := by decide +kernel
theorem dX8_taken_26 : decode cX8_taken 26 = .ok (.iload 4, 2) := by decide +kernel
theorem dX8_taken_28 : decode cX8_taken 28 = .ok (.invokevirtual 112, 3) := by decide +kernel
theorem dX8_taken_31 : decode cX8_taken 31 = .ok (.lor, 1) := by decide +kernel
theorem dX8_taken_32 : decode cX8_taken 32 = .ok (.lstore_n 2, 1) := by decide +kernel
theorem dX8_taken_33 : decode cX8_taken 33 = .ok (.iinc 4 1, 3) := by decide +kernel
theorem dX8_taken_36 : decode cX8_taken 36 = .ok (.goto (-31), 3) := by decide +kernel
theorem dX8_taken_39 : decode cX8_taken 39 = .ok (.lload_n 2, 1) := by decide +kernel
theorem dX8_taken_40 : decode cX8_taken 40 = .ok (.invokestatic 126, 3) := by decide +kernel
theorem dX8_taken_43 : decode cX8_taken 43 = .ok (.ireturn, 1) := by decide +kernel
theorem dX8_sum_0 : decode cX8_sum 0 = .ok (.aload_n 0, 1) := by decide +kernel
theorem dX8_sum_1 : decode cX8_sum 1 = .ok (.iload_n 1, 1) := by decide +kernel
theorem dX8_sum_2 : decode cX8_sum 2 = .ok (.invokevirtual 80, 3) := by decide +kernel
theorem dX8_sum_5 : decode cX8_sum 5 = .ok (.ifCond .eq 21, 3) := by decide +kernel
theorem dX8_sum_8 : decode cX8_sum 8 = .ok (.iload_n 2, 1) := by decide +kernel
theorem dX8_sum_9 : decode cX8_sum 9 = .ok (.iconst 0, 1) := by decide +kernel
theorem dX8_sum_10 : decode cX8_sum 10 = .ok (.iconst 5, 1) := by decide +kernel
theorem dX8_sum_11 : decode cX8_sum 11 = .ok (.invokestatic 73, 3) := by decide +kernel
theorem dX8_sum_14 : decode cX8_sum 14 = .ok (.ifCond .eq 12, 3) := by decide +kernel
theorem dX8_sum_17 : decode cX8_sum 17 = .ok (.iload_n 3, 1) := by decide +kernel
theorem dX8_sum_18 : decode cX8_sum 18 = .ok (.iconst 0, 1) := by decide +kernel
theorem dX8_sum_19 : decode cX8_sum 19 = .ok (.iconst 2, 1) := by decide +kernel
theorem dX8_sum_20 : decode cX8_sum 20 = .ok (.invokestatic 73, 3) := by decide +kernel
theorem dX8_sum_23 : decode cX8_sum 23 = .ok (.ifCond .ne 5, 3) := by decide +kernel
theorem dX8_sum_26 : decode cX8_sum 26 = .ok (.iconst (-1), 1) := by decide +kernel
theorem dX8_sum_27 : decode cX8_sum 27 = .ok (.ireturn, 1) := by decide +kernel
theorem dX8_sum_28 : decode cX8_sum 28 = .ok (.aload_n 0, 1) := by decide +kernel
theorem dX8_sum_29 : decode cX8_sum 29 = .ok (.iload_n 1, 1) := by decide +kernel
theorem dX8_sum_30 : decode cX8_sum 30 = .ok (.iload_n 2, 1) := by decide +kernel
theorem dX8_sum_31 : decode cX8_sum 31 = .ok (.invokevirtual 140, 3) := by decide +kernel
theorem dX8_sum_34 : decode cX8_sum 34 = .ok (.ifCond .ne 19, 3) := by decide +kernel
theorem dX8_sum_37 : decode cX8_sum 37 = .ok (.aload_n 0, 1) := by decide +kernel
theorem dX8_sum_38 : decode cX8_sum 38 = .ok (.aload_n 0, 1) := by decide +kernel
theorem dX8_sum_39 : decode cX8_sum 39 = .ok (.getfield 13, 3) := by decide +kernel
theorem dX8_sum_42 : decode cX8_sum 42 = .ok (.iload_n 1, 1) := by decide +kernel
theorem dX8_sum_43 : decode cX8_sum 43 = .ok (.iaload, 1) := by decide +kernel
theorem dX8_sum_44 : decode cX8_sum 44 = .ok (.iload_n 2, 1) := by decide +kernel
theorem dX8_sum_45 : decode cX8_sum 45 = .ok (.invokevirtual 140, 3) := by decide +kernel
theorem dX8_sum_48 : decode cX8_sum 48 = .ok (.ifCond .ne 5, 3) := by decide +kernel
theorem dX8_sum_51 : decode cX8_sum 51 = .ok (.iconst (-1), 1) := by decide +kernel
theorem dX8_sum_52 : decode cX8_sum 52 = .ok (.ireturn, 1) := by decide +kernel
theorem dX8_sum_53 : decode cX8_sum 53 = .ok (.iload_n 3, 1) := by decide +kernel
theorem dX8_sum_54 : decode cX8_sum 54 = .ok (.ifCond .ne 9, 3) := by decide +kernel
theorem dX8_sum_57 : decode cX8_sum 57 = .ok (.aload_n 0, 1) := by decide +kernel
theorem dX8_sum_58 : decode cX8_sum 58 = .ok (.iload_n 1, 1) := by decide +kernel
theorem dX8_sum_59 : decode cX8_sum 59 = .ok (.invokevirtual 143, 3) := by decide +kernel
theorem dX8_sum_62 : decode cX8_sum 62 = .ok (.ireturn, 1) := by decide +kernel
theorem dX8_sum_63 : decode cX8_sum 63 = .ok (.iconst 0, 1) := by decide +kernel
theorem dX8_sum_64 : decode cX8_sum 64 = .ok (.istore 4, 2) := by decide +kernel
theorem dX8_sum_66 : decode cX8_sum 66 = .ok (.iconst 0, 1) := by decide +kernel
theorem dX8_sum_67 : decode cX8_sum 67 = .ok (.istore 5, 2) := by decide +kernel
theorem dX8_sum_69 : decode cX8_sum 69 = .ok (.iload 5, 2) := by decide +kernel
theorem dX8_sum_71 : decode cX8_sum 71 = .ok (.aload_n 0, 1) := by decide +kernel
theorem dX8_sum_72 : decode cX8_sum 72 = .ok (.getfield 91, 3) := by decide +kernel
theorem dX8_sum_75 : decode cX8_sum 75 = .ok (.if_icmp .ge 40, 3) := by decide +kernel
theorem dX8_sum_78 : decode cX8_sum 78 = .ok (.aload_n 0, 1) := by decide +kernel
theorem dX8_sum_79 : decode cX8_sum 79 = .ok (.iload 5, 2) := by decide +kernel
theorem dX8_sum_81 : decode cX8_sum 81 = .ok (.iload_n 1, 1) := by decide +kernel
theorem dX8_sum_82 : decode cX8_sum 82 = .ok (.invokevirtual 137, 3) := by decide +kernel
theorem dX8_sum_85 : decode cX8_sum 85 = .ok (.ifCond .eq 24, 3) := by decide +kernel
theorem dX8_sum_88 : decode cX8_sum 88 = .ok (.iload 4, 2) := by decide +kernel
theorem dX8_sum_90 : decode cX8_sum 90 = .ok (.iload_n 3, 1) := by decide +kernel
theorem dX8_sum_91 : decode cX8_sum 91 = .ok (.iconst 1, 1) := by decide +kernel
theorem dX8_sum_92 : decode cX8_sum 92 = .ok (.if_icmp .ne 13, 3) := by decide +kernel
theorem dX8_sum_95 : decode cX8_sum 95 = .ok (.aload_n 0, 1) := by decide +kernel
theorem dX8_sum_96 : decode cX8_sum 96 = .ok (.getfield 24, 3) := by decide +kernel
theorem dX8_sum_99 : decode cX8_sum 99 = .ok (.iload 5, 2) := by decide +kernel
theorem dX8_sum_101 : decode cX8_sum 101 = .ok (.iaload, 1) := by decide +kernel
theorem dX8_sum_102 : decode cX8_sum 102 = .ok (.goto 4, 3) := by decide +kernel
theorem dX8_sum_105 : decode cX8_sum 105 = .ok (.iconst 1, 1) := by decide +kernel
theorem dX8_sum_106 : decode cX8_sum 106 = .ok (.iadd, 1) := by decide +kernel
theorem dX8_sum_107 : decode cX8_sum 107 = .ok (.istore 4, 2) := by decide +kernel
theorem dX8_sum_109 : decode cX8_sum 109 = .ok (.iinc 5 1, 3) := by decide +kernel
theorem dX8_sum_112 : decode cX8_sum 112 = .ok (.goto (-43), 3) := by decide +kernel
theorem dX8_sum_115 : decode cX8_sum 115 = .ok (.iload 4, 2) := by decide +kernel
theorem dX8_sum_117 : decode cX8_sum 117 = .ok (.ireturn, 1) := by decide +kernel
theorem dX8_named_0 : decode cX8_named 0 = .ok (.aload_n 0, 1) := by decide +kernel
theorem dX8_named_1 : decode cX8_named 1 = .ok (.iload_n 1, 1) := by decide +kernel
theorem dX8_named_2 : decode cX8_named 2 = .ok (.invokevirtual 80, 3) := by decide +kernel
theorem dX8_named_5 : decode cX8_named 5 = .ok (.ifCond .eq 25, 3) := by decide +kernel
theorem dX8_named_8 : decode cX8_named 8 = .ok (.iload_n 2, 1) := by decide +kernel
theorem dX8_named_9 : decode cX8_named 9 = .ok (.iconst 0, 1) := by decide +kernel
theorem dX8_named_10 : decode cX8_named 10 = .ok (.iconst 5, 1) := by decide +kernel
theorem dX8_named_11 : decode cX8_named 11 = .ok (.invokestatic 73, 3) := by decide +kernel
theorem dX8_named_14 : decode cX8_named 14 = .ok (.ifCond .eq 16, 3) := by decide +kernel
theorem dX8_named_17 : decode cX8_named 17 = .ok (.aload_n 0, 1) := by decide +kernel
theorem dX8_named_18 : decode cX8_named 18 = .ok (.iload_n 1, 1) := by decide +kernel
theorem dX8_named_19 : decode cX8_named 19 = .ok (.iload_n 2, 1) := by decide +kernel
theorem dX8_named_20 : decode cX8_named 20 = .ok (.invokevirtual 140, 3) := by decide +kernel
theorem dX8_named_23 : decode cX8_named 23 = .ok (.ifCond .eq 7, 3) := by decide +kernel
theorem dX8_named_26 : decode cX8_named 26 = .ok (.iload_n 3, 1) := by decide +kernel
theorem dX8_named_27 : decode cX8_named 27 = .ok (.ifCond .ge 5, 3) := by decide +kernel
theorem dX8_named_30 : decode cX8_named 30 = .ok (.iconst (-1), 1) := by decide +kernel
theorem dX8_named_31 : decode cX8_named 31 = .ok (.ireturn, 1) := by decide +kernel
theorem dX8_named_32 : decode cX8_named 32 = .ok (.iload_n 3, 1) := by decide +kernel
theorem dX8_named_33 : decode cX8_named 33 = .ok (.istore 4, 2) := by decide +kernel
theorem dX8_named_35 : decode cX8_named 35 = .ok (.iconst 0, 1) := by decide +kernel
theorem dX8_named_36 : decode cX8_named 36 = .ok (.istore 5, 2) := by decide +kernel
theorem dX8_named_38 : decode cX8_named 38 = .ok (.iload 5, 2) := by decide +kernel
theorem dX8_named_40 : decode cX8_named 40 = .ok (.aload_n 0, 1) := by decide +kernel
theorem dX8_named_41 : decode cX8_named 41 = .ok (.getfield 88, 3) := by decide +kernel
theorem dX8_named_44 : decode cX8_named 44 = .ok (.if_icmp .ge 44, 3) := by decide +kernel
theorem dX8_named_47 : decode cX8_named 47 = .ok (.aload_n 0, 1) := by decide +kernel
theorem dX8_named_48 : decode cX8_named 48 = .ok (.getfield 45, 3) := by decide +kernel
theorem dX8_named_51 : decode cX8_named 51 = .ok (.iload 5, 2) := by decide +kernel
theorem dX8_named_53 : decode cX8_named 53 = .ok (.baload, 1) := by decide +kernel
theorem dX8_named_54 : decode cX8_named 54 = .ok (.ifCond .eq 28, 3) := by decide +kernel
theorem dX8_named_57 : decode cX8_named 57 = .ok (.aload_n 0, 1) := by decide +kernel
theorem dX8_named_58 : decode cX8_named 58 = .ok (.getfield 42, 3) := by decide +kernel
theorem dX8_named_61 : decode cX8_named 61 = .ok (.iload 5, 2) := by decide +kernel
theorem dX8_named_63 : decode cX8_named 63 = .ok (.iaload, 1) := by decide +kernel
theorem dX8_named_64 : decode cX8_named 64 = .ok (.iload_n 1, 1) := by decide +kernel
theorem dX8_named_65 : decode cX8_named 65 = .ok (.if_icmp .eq 6, 3) := by decide +kernel
theorem dX8_named_68 : decode cX8_named 68 = .ok (.goto 14, 3) := by decide +kernel
theorem dX8_named_71 : decode cX8_named 71 = .ok (.iload 4, 2) := by decide +kernel
theorem dX8_named_73 : decode cX8_named 73 = .ok (.ifCond .ne 6, 3) := by decide +kernel
theorem dX8_named_76 : decode cX8_named 76 = .ok (.iload 5, 2) := by decide +kernel
theorem dX8_named_78 : decode cX8_named 78 = .ok (.ireturn, 1) := by decide +kernel
theorem dX8_named_79 : decode cX8_named 79 = .ok (.iinc 4 (-1), 3) := by decide +kernel
theorem dX8_named_82 : decode cX8_named 82 = .ok (.iinc 5 1, 3) := by decide +kernel
theorem dX8_named_85 : decode cX8_named 85 = .ok (.goto (-47), 3) := by decide +kernel
theorem dX8_named_88 : decode cX8_named 88 = .ok (.iconst (-1), 1) := by decide +kernel
theorem dX8_named_89 : decode cX8_named 89 = .ok (.ireturn, 1) := by decide +kernel
theorem dX8_snapshot_0 : decode cX8_snapshot 0 = .ok (.iconst 0, 1) := by decide +kernel
theorem dX8_snapshot_1 : decode cX8_snapshot 1 = .ok (.istore_n 1, 1) := by decide +kernel
theorem dX8_snapshot_2 : decode cX8_snapshot 2 = .ok (.iload_n 1, 1) := by decide +kernel
theorem dX8_snapshot_3 : decode cX8_snapshot 3 = .ok (.bipush 8, 2) := by decide +kernel
theorem dX8_snapshot_5 : decode cX8_snapshot 5 = .ok (.if_icmp .ge 40, 3) := by decide +kernel
theorem dX8_snapshot_8 : decode cX8_snapshot 8 = .ok (.aload_n 0, 1) := by decide +kernel
theorem dX8_snapshot_9 : decode cX8_snapshot 9 = .ok (.getfield 48, 3) := by decide +kernel
theorem dX8_snapshot_12 : decode cX8_snapshot 12 = .ok (.iload_n 1, 1) := by decide +kernel
theorem dX8_snapshot_13 : decode cX8_snapshot 13 = .ok (.baload, 1) := by decide +kernel
theorem dX8_snapshot_14 : decode cX8_snapshot 14 = .ok (.ifCond .eq 6, 3) := by decide +kernel
theorem dX8_snapshot_17 : decode cX8_snapshot 17 = .ok (.goto 22, 3) := by decide +kernel
theorem dX8_snapshot_20 : decode cX8_snapshot 20 = .ok (.aload_n 0, 1) := by decide +kernel
theorem dX8_snapshot_21 : decode cX8_snapshot 21 = .ok (.getfield 48, 3) := by decide +kernel
theorem dX8_snapshot_24 : decode cX8_snapshot 24 = .ok (.iload_n 1, 1) := by decide +kernel
theorem dX8_snapshot_25 : decode cX8_snapshot 25 = .ok (.iconst 1, 1) := by decide +kernel
theorem dX8_snapshot_26 : decode cX8_snapshot 26 = .ok (.bastore, 1) := by decide +kernel
theorem dX8_snapshot_27 : decode cX8_snapshot 27 = .ok (.aload_n 0, 1) := by decide +kernel
theorem dX8_snapshot_28 : decode cX8_snapshot 28 = .ok (.getfield 51, 3) := by decide +kernel
theorem dX8_snapshot_31 : decode cX8_snapshot 31 = .ok (.iload_n 1, 1) := by decide +kernel
theorem dX8_snapshot_32 : decode cX8_snapshot 32 = .ok (.aload_n 0, 1) := by decide +kernel
theorem dX8_snapshot_33 : decode cX8_snapshot 33 = .ok (.invokevirtual 119, 3) := by decide +kernel
theorem dX8_snapshot_36 : decode cX8_snapshot 36 = .ok (.lastore, 1) := by decide +kernel
theorem dX8_snapshot_37 : decode cX8_snapshot 37 = .ok (.iload_n 1, 1) := by decide +kernel
theorem dX8_snapshot_38 : decode cX8_snapshot 38 = .ok (.ireturn, 1) := by decide +kernel
theorem dX8_snapshot_39 : decode cX8_snapshot 39 = .ok (.iinc 1 1, 3) := by decide +kernel
theorem dX8_snapshot_42 : decode cX8_snapshot 42 = .ok (.goto (-40), 3) := by decide +kernel
theorem dX8_snapshot_45 : decode cX8_snapshot 45 = .ok (.iconst (-1), 1) := by decide +kernel
theorem dX8_snapshot_46 : decode cX8_snapshot 46 = .ok (.ireturn, 1) := by decide +kernel
theorem dX8_isSnapshot_0 : decode cX8_isSnapshot 0 = .ok (.iload_n 1, 1) := by decide +kernel
theorem dX8_isSnapshot_1 : decode cX8_isSnapshot 1 = .ok (.iconst 0, 1) := by decide +kernel
theorem dX8_isSnapshot_2 : decode cX8_isSnapshot 2 = .ok (.bipush 7, 2) := by decide +kernel
theorem dX8_isSnapshot_4 : decode cX8_isSnapshot 4 = .ok (.invokestatic 73, 3) := by decide +kernel
theorem dX8_isSnapshot_7 : decode cX8_isSnapshot 7 = .ok (.ifCond .eq 16, 3) := by decide +kernel
theorem dX8_isSnapshot_10 : decode cX8_isSnapshot 10 = .ok (.aload_n 0, 1) := by decide +kernel
theorem dX8_isSnapshot_11 : decode cX8_isSnapshot 11 = .ok (.getfield 48, 3) := by decide +kernel
theorem dX8_isSnapshot_14 : decode cX8_isSnapshot 14 = .ok (.iload_n 1, 1) := by decide +kernel
theorem dX8_isSnapshot_15 : decode cX8_isSnapshot 15 = .ok (.baload, 1) := by decide +kernel
theorem dX8_isSnapshot_16 : decode cX8_isSnapshot 16 = .ok (.ifCond .eq 7, 3) := by decide +kernel
theorem dX8_isSnapshot_19 : decode cX8_isSnapshot 19 = .ok (.iconst 1, 1) := by decide +kernel
theorem dX8_isSnapshot_20 : decode cX8_isSnapshot 20 = .ok (.goto 4, 3) := by decide +kernel
theorem dX8_isSnapshot_23 : decode cX8_isSnapshot 23 = .ok (.iconst 0, 1) := by decide +kernel
theorem dX8_isSnapshot_24 : decode cX8_isSnapshot 24 = .ok (.ireturn, 1) := by decide +kernel
theorem dX8_alone_0 : decode cX8_alone 0 = .ok (.aload_n 0, 1) := by decide +kernel
theorem dX8_alone_1 : decode cX8_alone 1 = .ok (.iload_n 1, 1) := by decide +kernel
theorem dX8_alone_2 : decode cX8_alone 2 = .ok (.invokevirtual 146, 3) := by decide +kernel
theorem dX8_alone_5 : decode cX8_alone 5 = .ok (.ifCond .eq 30, 3) := by decide +kernel
theorem dX8_alone_8 : decode cX8_alone 8 = .ok (.aload_n 0, 1) := by decide +kernel
theorem dX8_alone_9 : decode cX8_alone 9 = .ok (.getfield 51, 3) := by decide +kernel
theorem dX8_alone_12 : decode cX8_alone 12 = .ok (.iload_n 1, 1) := by decide +kernel
theorem dX8_alone_13 : decode cX8_alone 13 = .ok (.laload, 1) := by decide +kernel
theorem dX8_alone_14 : decode cX8_alone 14 = .ok (.aload_n 0, 1) := by decide +kernel
theorem dX8_alone_15 : decode cX8_alone 15 = .ok (.invokevirtual 119, 3) := by decide +kernel
theorem dX8_alone_18 : decode cX8_alone 18 = .ok (.aload_n 0, 1) := by decide +kernel
theorem dX8_alone_19 : decode cX8_alone 19 = .ok (.iload_n 1, 1) := by decide +kernel
theorem dX8_alone_20 : decode cX8_alone 20 = .ok (.invokevirtual 123, 3) := by decide +kernel
theorem dX8_alone_23 : decode cX8_alone 23 = .ok (.lor, 1) := by decide +kernel
theorem dX8_alone_24 : decode cX8_alone 24 = .ok (.ldc2_w 149, 3) := by decide +kernel
theorem dX8_alone_27 : decode cX8_alone 27 = .ok (.lxor, 1) := by decide +kernel
theorem dX8_alone_28 : decode cX8_alone 28 = .ok (.land, 1) := by decide +kernel
theorem dX8_alone_29 : decode cX8_alone 29 = .ok (.invokestatic 126, 3) := by decide +kernel
theorem dX8_alone_32 : decode cX8_alone 32 = .ok (.goto 4, 3) := by decide +kernel
theorem dX8_alone_35 : decode cX8_alone 35 = .ok (.iconst (-1), 1) := by decide +kernel
theorem dX8_alone_36 : decode cX8_alone 36 = .ok (.ireturn, 1) := by decide +kernel
theorem dX8_drop_0 : decode cX8_drop 0 = .ok (.aload_n 0, 1) := by decide +kernel
theorem dX8_drop_1 : decode cX8_drop 1 = .ok (.iload_n 1, 1) := by decide +kernel
theorem dX8_drop_2 : decode cX8_drop 2 = .ok (.invokevirtual 151, 3) := by decide +kernel
theorem dX8_drop_5 : decode cX8_drop 5 = .ok (.istore_n 2, 1) := by decide +kernel
theorem dX8_drop_6 : decode cX8_drop 6 = .ok (.iload_n 2, 1) := by decide +kernel
theorem dX8_drop_7 : decode cX8_drop 7 = .ok (.iconst (-1), 1) := by decide +kernel
theorem dX8_drop_8 : decode cX8_drop 8 = .ok (.if_icmp .eq 10, 3) := by decide +kernel
theorem dX8_drop_11 : decode cX8_drop 11 = .ok (.aload_n 0, 1) := by decide +kernel
theorem dX8_drop_12 : decode cX8_drop 12 = .ok (.getfield 48, 3) := by decide +kernel
theorem dX8_drop_15 : decode cX8_drop 15 = .ok (.iload_n 1, 1) := by decide +kernel
theorem dX8_drop_16 : decode cX8_drop 16 = .ok (.iconst 0, 1) := by decide +kernel
theorem dX8_drop_17 : decode cX8_drop 17 = .ok (.bastore, 1) := by decide +kernel
theorem dX8_drop_18 : decode cX8_drop 18 = .ok (.iload_n 2, 1) := by decide +kernel
theorem dX8_drop_19 : decode cX8_drop 19 = .ok (.ireturn, 1) := by decide +kernel
theorem dX8_mark_0 : decode cX8_mark 0 = .ok (.aload_n 0, 1) := by decide +kernel
theorem dX8_mark_1 : decode cX8_mark 1 = .ok (.getfield 154, 3) := by decide +kernel
theorem dX8_mark_4 : decode cX8_mark 4 = .ok (.bipush 20, 2) := by decide +kernel
theorem dX8_mark_6 : decode cX8_mark 6 = .ok (.if_icmp .ne 5, 3) := by decide +kernel
theorem dX8_mark_9 : decode cX8_mark 9 = .ok (.iconst (-1), 1) := by decide +kernel
theorem dX8_mark_10 : decode cX8_mark 10 = .ok (.ireturn, 1) := by decide +kernel
theorem dX8_mark_11 : decode cX8_mark 11 = .ok (.aload_n 0, 1) := by decide +kernel
theorem dX8_mark_12 : decode cX8_mark 12 = .ok (.getfield 55, 3) := by decide +kernel
theorem dX8_mark_15 : decode cX8_mark 15 = .ok (.aload_n 0, 1) := by decide +kernel
theorem dX8_mark_16 : decode cX8_mark 16 = .ok (.getfield 154, 3) := by decide +kernel
theorem dX8_mark_19 : decode cX8_mark 19 = .ok (.aload_n 0, 1) := by decide +kernel
theorem dX8_mark_20 : decode cX8_mark 20 = .ok (.getfield 77, 3) := by decide +kernel
theorem dX8_mark_23 : decode cX8_mark 23 = .ok (.iastore, 1) := by decide +kernel
theorem dX8_mark_24 : decode cX8_mark 24 = .ok (.iconst 0, 1) := by decide +kernel
theorem dX8_mark_25 : decode cX8_mark 25 = .ok (.istore_n 1, 1) := by decide +kernel
theorem dX8_mark_26 : decode cX8_mark 26 = .ok (.iload_n 1, 1) := by decide +kernel
theorem dX8_mark_27 : decode cX8_mark 27 = .ok (.bipush 30, 2) := by decide +kernel
theorem dX8_mark_29 : decode cX8_mark 29 = .ok (.if_icmp .ge 40, 3) := by decide +kernel
theorem dX8_mark_32 : decode cX8_mark 32 = .ok (.aload_n 0, 1) := by decide +kernel
theorem dX8_mark_33 : decode cX8_mark 33 = .ok (.getfield 58, 3) := by decide +kernel
theorem dX8_mark_36 : decode cX8_mark 36 = .ok (.bipush 30, 2) := by decide +kernel
theorem dX8_mark_38 : decode cX8_mark 38 = .ok (.aload_n 0, 1) := by decide +kernel
theorem dX8_mark_39 : decode cX8_mark 39 = .ok (.getfield 154, 3) := by decide +kernel
theorem dX8_mark_42 : decode cX8_mark 42 = .ok (.imul, 1) := by decide +kernel
theorem dX8_mark_43 : decode cX8_mark 43 = .ok (.iload_n 1, 1) := by decide +kernel
theorem dX8_mark_44 : decode cX8_mark 44 = .ok (.iadd, 1) := by decide +kernel
theorem dX8_mark_45 : decode cX8_mark 45 = .ok (.iload_n 1, 1) := by decide +kernel
theorem dX8_mark_46 : decode cX8_mark 46 = .ok (.aload_n 0, 1) := by decide +kernel
theorem dX8_mark_47 : decode cX8_mark 47 = .ok (.getfield 7, 3) := by decide +kernel
theorem dX8_mark_50 : decode cX8_mark 50 = .ok (.if_icmp .ge 11, 3) := by decide +kernel
theorem dX8_mark_53 : decode cX8_mark 53 = .ok (.aload_n 0, 1) := by decide +kernel
theorem dX8_mark_54 : decode cX8_mark 54 = .ok (.iload_n 1, 1) := by decide +kernel
theorem dX8_mark_55 : decode cX8_mark 55 = .ok (.invokevirtual 143, 3) := by decide +kernel
theorem dX8_mark_58 : decode cX8_mark 58 = .ok (.goto 4, 3) := by decide +kernel
theorem dX8_mark_61 : decode cX8_mark 61 = .ok (.iconst 0, 1) := by decide +kernel
theorem dX8_mark_62 : decode cX8_mark 62 = .ok (.iastore, 1) := by decide +kernel
theorem dX8_mark_63 : decode cX8_mark 63 = .ok (.iinc 1 1, 3) := by decide +kernel
theorem dX8_mark_66 : decode cX8_mark 66 = .ok (.goto (-40), 3) := by decide +kernel
theorem dX8_mark_69 : decode cX8_mark 69 = .ok (.aload_n 0, 1) := by decide +kernel
theorem dX8_mark_70 : decode cX8_mark 70 = .ok (.dup, 1) := by decide +kernel
theorem dX8_mark_71 : decode cX8_mark 71 = .ok (.getfield 154, 3) := by decide +kernel
theorem dX8_mark_74 : decode cX8_mark 74 = .ok (.iconst 1, 1) := by decide +kernel
theorem dX8_mark_75 : decode cX8_mark 75 = .ok (.iadd, 1) := by decide +kernel
theorem dX8_mark_76 : decode cX8_mark 76 = .ok (.putfield 154, 3) := by decide +kernel
theorem dX8_mark_79 : decode cX8_mark 79 = .ok (.aload_n 0, 1) := by decide +kernel
theorem dX8_mark_80 : decode cX8_mark 80 = .ok (.getfield 154, 3) := by decide +kernel
theorem dX8_mark_83 : decode cX8_mark 83 = .ok (.iconst 1, 1) := by decide +kernel
theorem dX8_mark_84 : decode cX8_mark 84 = .ok (.isub, 1) := by decide +kernel
theorem dX8_mark_85 : decode cX8_mark 85 = .ok (.ireturn, 1) := by decide +kernel
theorem dX8_grew_0 : decode cX8_grew 0 = .ok (.aload_n 0, 1) := by decide +kernel
theorem dX8_grew_1 : decode cX8_grew 1 = .ok (.iload_n 1, 1) := by decide +kernel
theorem dX8_grew_2 : decode cX8_grew 2 = .ok (.invokevirtual 80, 3) := by decide +kernel
theorem dX8_grew_5 : decode cX8_grew 5 = .ok (.ifCond .eq 31, 3) := by decide +kernel
theorem dX8_grew_8 : decode cX8_grew 8 = .ok (.iload_n 2, 1) := by decide +kernel
theorem dX8_grew_9 : decode cX8_grew 9 = .ok (.iconst 0, 1) := by decide +kernel
theorem dX8_grew_10 : decode cX8_grew 10 = .ok (.aload_n 0, 1) := by decide +kernel
theorem dX8_grew_11 : decode cX8_grew 11 = .ok (.getfield 154, 3) := by decide +kernel
theorem dX8_grew_14 : decode cX8_grew 14 = .ok (.iconst 1, 1) := by decide +kernel
theorem dX8_grew_15 : decode cX8_grew 15 = .ok (.isub, 1) := by decide +kernel
theorem dX8_grew_16 : decode cX8_grew 16 = .ok (.invokestatic 73, 3) := by decide +kernel
theorem dX8_grew_19 : decode cX8_grew 19 = .ok (.ifCond .eq 17, 3) := by decide +kernel
theorem dX8_grew_22 : decode cX8_grew 22 = .ok (.iload_n 3, 1) := by decide +kernel
theorem dX8_grew_23 : decode cX8_grew 23 = .ok (.iconst (-1), 1) := by decide +kernel
theorem dX8_grew_24 : decode cX8_grew 24 = .ok (.aload_n 0, 1) := by decide +kernel
theorem dX8_grew_25 : decode cX8_grew 25 = .ok (.getfield 154, 3) := by decide +kernel
theorem dX8_grew_28 : decode cX8_grew 28 = .ok (.iconst 1, 1) := by decide +kernel
theorem dX8_grew_29 : decode cX8_grew 29 = .ok (.isub, 1) := by decide +kernel
theorem dX8_grew_30 : decode cX8_grew 30 = .ok (.invokestatic 73, 3) := by decide +kernel
theorem dX8_grew_33 : decode cX8_grew 33 = .ok (.ifCond .ne 6, 3) := by decide +kernel
theorem dX8_grew_36 : decode cX8_grew 36 = .ok (.ldc 157, 2) := by decide +kernel
theorem dX8_grew_38 : decode cX8_grew 38 = .ok (.ireturn, 1) := by decide +kernel
theorem dX8_grew_39 : decode cX8_grew 39 = .ok (.iload_n 3, 1) := by decide +kernel
theorem dX8_grew_40 : decode cX8_grew 40 = .ok (.iconst (-1), 1) := by decide +kernel
theorem dX8_grew_41 : decode cX8_grew 41 = .ok (.if_icmp .ne 11, 3) := by decide +kernel
theorem dX8_grew_44 : decode cX8_grew 44 = .ok (.aload_n 0, 1) := by decide +kernel
theorem dX8_grew_45 : decode cX8_grew 45 = .ok (.iload_n 1, 1) := by decide +kernel
theorem dX8_grew_46 : decode cX8_grew 46 = .ok (.invokevirtual 143, 3) := by decide +kernel
theorem dX8_grew_49 : decode cX8_grew 49 = .ok (.goto 14, 3) := by decide +kernel
theorem dX8_grew_52 : decode cX8_grew 52 = .ok (.aload_n 0, 1) := by decide +kernel
theorem dX8_grew_53 : decode cX8_grew 53 = .ok (.getfield 58, 3) := by decide +kernel
theorem dX8_grew_56 : decode cX8_grew 56 = .ok (.bipush 30, 2) := by decide +kernel
theorem dX8_grew_58 : decode cX8_grew 58 = .ok (.iload_n 3, 1) := by decide +kernel
theorem dX8_grew_59 : decode cX8_grew 59 = .ok (.imul, 1) := by decide +kernel
theorem dX8_grew_60 : decode cX8_grew 60 = .ok (.iload_n 1, 1) := by decide +kernel
theorem dX8_grew_61 : decode cX8_grew 61 = .ok (.iadd, 1) := by decide +kernel
theorem dX8_grew_62 : decode cX8_grew 62 = .ok (.iaload, 1) := by decide +kernel
theorem dX8_grew_63 : decode cX8_grew 63 = .ok (.aload_n 0, 1) := by decide +kernel
theorem dX8_grew_64 : decode cX8_grew 64 = .ok (.getfield 58, 3) := by decide +kernel
theorem dX8_grew_67 : decode cX8_grew 67 = .ok (.bipush 30, 2) := by decide +kernel
theorem dX8_grew_69 : decode cX8_grew 69 = .ok (.iload_n 2, 1) := by decide +kernel
theorem dX8_grew_70 : decode cX8_grew 70 = .ok (.imul, 1) := by decide +kernel
theorem dX8_grew_71 : decode cX8_grew 71 = .ok (.iload_n 1, 1) := by decide +kernel
theorem dX8_grew_72 : decode cX8_grew 72 = .ok (.iadd, 1) := by decide +kernel
theorem dX8_grew_73 : decode cX8_grew 73 = .ok (.iaload, 1) := by decide +kernel
theorem dX8_grew_74 : decode cX8_grew 74 = .ok (.isub, 1) := by decide +kernel
theorem dX8_grew_75 : decode cX8_grew 75 = .ok (.ireturn, 1) := by decide +kernel
theorem dX8_freedBy_0 : decode cX8_freedBy 0 = .ok (.lconst 0, 1) := by decide +kernel
theorem dX8_freedBy_1 : decode cX8_freedBy 1 = .ok (.lstore_n 1, 1) := by decide +kernel
theorem dX8_freedBy_2 : decode cX8_freedBy 2 = .ok (.aload_n 0, 1) := by decide +kernel
theorem dX8_freedBy_3 : decode cX8_freedBy 3 = .ok (.iconst (-1), 1) := by decide +kernel
theorem dX8_freedBy_4 : decode cX8_freedBy 4 = .ok (.invokevirtual 123, 3) := by decide +kernel
theorem dX8_freedBy_7 : decode cX8_freedBy 7 = .ok (.lstore_n 3, 1) := by decide +kernel
theorem dX8_freedBy_8 : decode cX8_freedBy 8 = .ok (.iconst 0, 1) := by decide +kernel
theorem dX8_freedBy_9 : decode cX8_freedBy 9 = .ok (.istore 5, 2) := by decide +kernel
theorem dX8_freedBy_11 : decode cX8_freedBy 11 = .ok (.iload 5, 2) := by decide +kernel
theorem dX8_freedBy_13 : decode cX8_freedBy 13 = .ok (.aload_n 0, 1) := by decide +kernel
theorem dX8_freedBy_14 : decode cX8_freedBy 14 = .ok (.getfield 91, 3) := by decide +kernel
theorem dX8_freedBy_17 : decode cX8_freedBy 17 = .ok (.if_icmp .ge 40, 3) := by decide +kernel
theorem dX8_freedBy_20 : decode cX8_freedBy 20 = .ok (.aload_n 0, 1) := by decide +kernel
theorem dX8_freedBy_21 : decode cX8_freedBy 21 = .ok (.getfield 64, 3) := by decide +kernel
theorem dX8_freedBy_24 : decode cX8_freedBy 24 = .ok (.iload 5, 2) := by decide +kernel
theorem dX8_freedBy_26 : decode cX8_freedBy 26 = .ok (.baload, 1) := by decide +kernel
theorem dX8_freedBy_27 : decode cX8_freedBy 27 = .ok (.ifCond .eq 15, 3) := by decide +kernel
theorem dX8_freedBy_30 : decode cX8_freedBy 30 = .ok (.lload_n 1, 1) := by decide +kernel
theorem dX8_freedBy_31 : decode cX8_freedBy 31 = .ok (.aload_n 0, 1) := by decide +kernel
theorem dX8_freedBy_32 : decode cX8_freedBy 32 = .ok (.iload 5, 2) := by decide +kernel
theorem dX8_freedBy_34 : decode cX8_freedBy 34 = .ok (.invokevirtual 112, 3) := by decide +kernel
theorem dX8_freedBy_37 : decode cX8_freedBy 37 = .ok (.lor, 1) := by decide +kernel
theorem dX8_freedBy_38 : decode cX8_freedBy 38 = .ok (.lstore_n 1, 1) := by decide +kernel
theorem dX8_freedBy_39 : decode cX8_freedBy 39 = .ok (.goto 12, 3) := by decide +kernel
theorem dX8_freedBy_42 : decode cX8_freedBy 42 = .ok (.lload_n 3, 1) := by decide +kernel
theorem dX8_freedBy_43 : decode cX8_freedBy 43 = .ok (.aload_n 0, 1) := by decide +kernel
theorem dX8_freedBy_44 : decode cX8_freedBy 44 = .ok (.iload 5, 2) := by decide +kernel
theorem dX8_freedBy_46 : decode cX8_freedBy 46 = .ok (.invokevirtual 112, 3) := by decide +kernel
theorem dX8_freedBy_49 : decode cX8_freedBy 49 = .ok (.lor, 1) := by decide +kernel
theorem dX8_freedBy_50 : decode cX8_freedBy 50 = .ok (.lstore_n 3, 1) := by decide +kernel
theorem dX8_freedBy_51 : decode cX8_freedBy 51 = .ok (.iinc 5 1, 3) := by decide +kernel
theorem dX8_freedBy_54 : decode cX8_freedBy 54 = .ok (.goto (-43), 3) := by decide +kernel
theorem dX8_freedBy_57 : decode cX8_freedBy 57 = .ok (.lload_n 1, 1) := by decide +kernel
theorem dX8_freedBy_58 : decode cX8_freedBy 58 = .ok (.lload_n 3, 1) := by decide +kernel
theorem dX8_freedBy_59 : decode cX8_freedBy 59 = .ok (.ldc2_w 149, 3) := by decide +kernel
theorem dX8_freedBy_62 : decode cX8_freedBy 62 = .ok (.lxor, 1) := by decide +kernel
theorem dX8_freedBy_63 : decode cX8_freedBy 63 = .ok (.land, 1) := by decide +kernel
theorem dX8_freedBy_64 : decode cX8_freedBy 64 = .ok (.invokestatic 126, 3) := by decide +kernel
theorem dX8_freedBy_67 : decode cX8_freedBy 67 = .ok (.ireturn, 1) := by decide +kernel
theorem dX8_hasOutside_0 : decode cX8_hasOutside 0 = .ok (.iconst 0, 1) := by decide +kernel
theorem dX8_hasOutside_1 : decode cX8_hasOutside 1 = .ok (.istore_n 3, 1) := by decide +kernel
theorem dX8_hasOutside_2 : decode cX8_hasOutside 2 = .ok (.iload_n 3, 1) := by decide +kernel
theorem dX8_hasOutside_3 : decode cX8_hasOutside 3 = .ok (.aload_n 0, 1) := by decide +kernel
theorem dX8_hasOutside_4 : decode cX8_hasOutside 4 = .ok (.getfield 88, 3) := by decide +kernel
theorem dX8_hasOutside_7 : decode cX8_hasOutside 7 = .ok (.if_icmp .ge 44, 3) := by decide +kernel
theorem dX8_hasOutside_10 : decode cX8_hasOutside 10 = .ok (.aload_n 0, 1) := by decide +kernel
theorem dX8_hasOutside_11 : decode cX8_hasOutside 11 = .ok (.getfield 45, 3) := by decide +kernel
theorem dX8_hasOutside_14 : decode cX8_hasOutside 14 = .ok (.iload_n 3, 1) := by decide +kernel
theorem dX8_hasOutside_15 : decode cX8_hasOutside 15 = .ok (.baload, 1) := by decide +kernel
theorem dX8_hasOutside_16 : decode cX8_hasOutside 16 = .ok (.ifCond .eq 29, 3) := by decide +kernel
theorem dX8_hasOutside_19 : decode cX8_hasOutside 19 = .ok (.aload_n 0, 1) := by decide +kernel
theorem dX8_hasOutside_20 : decode cX8_hasOutside 20 = .ok (.getfield 39, 3) := by decide +kernel
theorem dX8_hasOutside_23 : decode cX8_hasOutside 23 = .ok (.iload_n 3, 1) := by decide +kernel
theorem dX8_hasOutside_24 : decode cX8_hasOutside 24 = .ok (.iaload, 1) := by decide +kernel
theorem dX8_hasOutside_25 : decode cX8_hasOutside 25 = .ok (.iload_n 1, 1) := by decide +kernel
theorem dX8_hasOutside_26 : decode cX8_hasOutside 26 = .ok (.if_icmp .ne 19, 3) := by decide +kernel
theorem dX8_hasOutside_29 : decode cX8_hasOutside 29 = .ok (.aload_n 0, 1) := by decide +kernel
theorem dX8_hasOutside_30 : decode cX8_hasOutside 30 = .ok (.aload_n 0, 1) := by decide +kernel
theorem dX8_hasOutside_31 : decode cX8_hasOutside 31 = .ok (.getfield 42, 3) := by decide +kernel
theorem dX8_hasOutside_34 : decode cX8_hasOutside 34 = .ok (.iload_n 3, 1) := by decide +kernel
theorem dX8_hasOutside_35 : decode cX8_hasOutside 35 = .ok (.iaload, 1) := by decide +kernel
theorem dX8_hasOutside_36 : decode cX8_hasOutside 36 = .ok (.iload_n 2, 1) := by decide +kernel
theorem dX8_hasOutside_37 : decode cX8_hasOutside 37 = .ok (.invokevirtual 84, 3) := by decide +kernel
theorem dX8_hasOutside_40 : decode cX8_hasOutside 40 = .ok (.ifCond .ne 5, 3) := by decide +kernel
theorem dX8_hasOutside_43 : decode cX8_hasOutside 43 = .ok (.iconst 1, 1) := by decide +kernel
theorem dX8_hasOutside_44 : decode cX8_hasOutside 44 = .ok (.ireturn, 1) := by decide +kernel
theorem dX8_hasOutside_45 : decode cX8_hasOutside 45 = .ok (.iinc 3 1, 3) := by decide +kernel
theorem dX8_hasOutside_48 : decode cX8_hasOutside 48 = .ok (.goto (-46), 3) := by decide +kernel
theorem dX8_hasOutside_51 : decode cX8_hasOutside 51 = .ok (.iconst 0, 1) := by decide +kernel
theorem dX8_hasOutside_52 : decode cX8_hasOutside 52 = .ok (.ireturn, 1) := by decide +kernel
theorem dX8_freed_0 : decode cX8_freed 0 = .ok (.aload_n 0, 1) := by decide +kernel
theorem dX8_freed_1 : decode cX8_freed 1 = .ok (.iload_n 1, 1) := by decide +kernel
theorem dX8_freed_2 : decode cX8_freed 2 = .ok (.invokevirtual 80, 3) := by decide +kernel
theorem dX8_freed_5 : decode cX8_freed 5 = .ok (.ifCond .ne 5, 3) := by decide +kernel
theorem dX8_freed_8 : decode cX8_freed 8 = .ok (.iconst (-1), 1) := by decide +kernel
theorem dX8_freed_9 : decode cX8_freed 9 = .ok (.ireturn, 1) := by decide +kernel
theorem dX8_freed_10 : decode cX8_freed 10 = .ok (.iconst 0, 1) := by decide +kernel
theorem dX8_freed_11 : decode cX8_freed 11 = .ok (.istore_n 2, 1) := by decide +kernel
theorem dX8_freed_12 : decode cX8_freed 12 = .ok (.iload_n 2, 1) := by decide +kernel
theorem dX8_freed_13 : decode cX8_freed 13 = .ok (.aload_n 0, 1) := by decide +kernel
theorem dX8_freed_14 : decode cX8_freed 14 = .ok (.getfield 91, 3) := by decide +kernel
theorem dX8_freed_17 : decode cX8_freed 17 = .ok (.if_icmp .ge 38, 3) := by decide +kernel
theorem dX8_freed_20 : decode cX8_freed 20 = .ok (.aload_n 0, 1) := by decide +kernel
theorem dX8_freed_21 : decode cX8_freed 21 = .ok (.getfield 64, 3) := by decide +kernel
theorem dX8_freed_24 : decode cX8_freed 24 = .ok (.iload_n 2, 1) := by decide +kernel
theorem dX8_freed_25 : decode cX8_freed 25 = .ok (.aload_n 0, 1) := by decide +kernel
theorem dX8_freed_26 : decode cX8_freed 26 = .ok (.iload_n 2, 1) := by decide +kernel
theorem dX8_freed_27 : decode cX8_freed 27 = .ok (.iload_n 1, 1) := by decide +kernel
theorem dX8_freed_28 : decode cX8_freed 28 = .ok (.invokevirtual 137, 3) := by decide +kernel
theorem dX8_freed_31 : decode cX8_freed 31 = .ok (.ifCond .eq 16, 3) := by decide +kernel
theorem dX8_freed_34 : decode cX8_freed 34 = .ok (.aload_n 0, 1) := by decide +kernel
theorem dX8_freed_35 : decode cX8_freed 35 = .ok (.iload_n 2, 1) := by decide +kernel
theorem dX8_freed_36 : decode cX8_freed 36 = .ok (.iload_n 1, 1) := by decide +kernel
theorem dX8_freed_37 : decode cX8_freed 37 = .ok (.invokevirtual 158, 3) := by decide +kernel
theorem dX8_freed_40 : decode cX8_freed 40 = .ok (.ifCond .ne 7, 3) := by decide +kernel
theorem dX8_freed_43 : decode cX8_freed 43 = .ok (.iconst 1, 1) := by decide +kernel
theorem dX8_freed_44 : decode cX8_freed 44 = .ok (.goto 4, 3) := by decide +kernel
theorem dX8_freed_47 : decode cX8_freed 47 = .ok (.iconst 0, 1) := by decide +kernel
theorem dX8_freed_48 : decode cX8_freed 48 = .ok (.bastore, 1) := by decide +kernel
theorem dX8_freed_49 : decode cX8_freed 49 = .ok (.iinc 2 1, 3) := by decide +kernel
theorem dX8_freed_52 : decode cX8_freed 52 = .ok (.goto (-40), 3) := by decide +kernel
theorem dX8_freed_55 : decode cX8_freed 55 = .ok (.aload_n 0, 1) := by decide +kernel
theorem dX8_freed_56 : decode cX8_freed 56 = .ok (.invokevirtual 161, 3) := by decide +kernel
theorem dX8_freed_59 : decode cX8_freed 59 = .ok (.ireturn, 1) := by decide +kernel
theorem dX8_both_0 : decode cX8_both 0 = .ok (.aload_n 0, 1) := by decide +kernel
theorem dX8_both_1 : decode cX8_both 1 = .ok (.iload_n 1, 1) := by decide +kernel
theorem dX8_both_2 : decode cX8_both 2 = .ok (.invokevirtual 109, 3) := by decide +kernel
theorem dX8_both_5 : decode cX8_both 5 = .ok (.ifCond .eq 11, 3) := by decide +kernel
theorem dX8_both_8 : decode cX8_both 8 = .ok (.aload_n 0, 1) := by decide +kernel
theorem dX8_both_9 : decode cX8_both 9 = .ok (.iload_n 2, 1) := by decide +kernel
theorem dX8_both_10 : decode cX8_both 10 = .ok (.invokevirtual 109, 3) := by decide +kernel
theorem dX8_both_13 : decode cX8_both 13 = .ok (.ifCond .ne 5, 3) := by decide +kernel
theorem dX8_both_16 : decode cX8_both 16 = .ok (.iconst (-1), 1) := by decide +kernel
theorem dX8_both_17 : decode cX8_both 17 = .ok (.ireturn, 1) := by decide +kernel
theorem dX8_both_18 : decode cX8_both 18 = .ok (.iconst 0, 1) := by decide +kernel
theorem dX8_both_19 : decode cX8_both 19 = .ok (.istore_n 3, 1) := by decide +kernel
theorem dX8_both_20 : decode cX8_both 20 = .ok (.iload_n 3, 1) := by decide +kernel
theorem dX8_both_21 : decode cX8_both 21 = .ok (.aload_n 0, 1) := by decide +kernel
theorem dX8_both_22 : decode cX8_both 22 = .ok (.getfield 91, 3) := by decide +kernel
theorem dX8_both_25 : decode cX8_both 25 = .ok (.if_icmp .ge 30, 3) := by decide +kernel
theorem dX8_both_28 : decode cX8_both 28 = .ok (.aload_n 0, 1) := by decide +kernel
theorem dX8_both_29 : decode cX8_both 29 = .ok (.getfield 64, 3) := by decide +kernel
theorem dX8_both_32 : decode cX8_both 32 = .ok (.iload_n 3, 1) := by decide +kernel
theorem dX8_both_33 : decode cX8_both 33 = .ok (.iload_n 3, 1) := by decide +kernel
theorem dX8_both_34 : decode cX8_both 34 = .ok (.iload_n 1, 1) := by decide +kernel
theorem dX8_both_35 : decode cX8_both 35 = .ok (.if_icmp .eq 8, 3) := by decide +kernel
theorem dX8_both_38 : decode cX8_both 38 = .ok (.iload_n 3, 1) := by decide +kernel
theorem dX8_both_39 : decode cX8_both 39 = .ok (.iload_n 2, 1) := by decide +kernel
theorem dX8_both_40 : decode cX8_both 40 = .ok (.if_icmp .ne 7, 3) := by decide +kernel
theorem dX8_both_43 : decode cX8_both 43 = .ok (.iconst 1, 1) := by decide +kernel
theorem dX8_both_44 : decode cX8_both 44 = .ok (.goto 4, 3) := by decide +kernel
theorem dX8_both_47 : decode cX8_both 47 = .ok (.iconst 0, 1) := by decide +kernel
theorem dX8_both_48 : decode cX8_both 48 = .ok (.bastore, 1) := by decide +kernel
theorem dX8_both_49 : decode cX8_both 49 = .ok (.iinc 3 1, 3) := by decide +kernel
theorem dX8_both_52 : decode cX8_both 52 = .ok (.goto (-32), 3) := by decide +kernel
theorem dX8_both_55 : decode cX8_both 55 = .ok (.aload_n 0, 1) := by decide +kernel
theorem dX8_both_56 : decode cX8_both 56 = .ok (.invokevirtual 161, 3) := by decide +kernel
theorem dX8_both_59 : decode cX8_both 59 = .ok (.ireturn, 1) := by decide +kernel
theorem dX8_plans_0 : decode cX8_plans 0 = .ok (.aload_n 0, 1) := by decide +kernel
theorem dX8_plans_1 : decode cX8_plans 1 = .ok (.iload_n 1, 1) := by decide +kernel
theorem dX8_plans_2 : decode cX8_plans 2 = .ok (.invokevirtual 80, 3) := by decide +kernel
theorem dX8_plans_5 : decode cX8_plans 5 = .ok (.ifCond .eq 13, 3) := by decide +kernel
theorem dX8_plans_8 : decode cX8_plans 8 = .ok (.iload_n 2, 1) := by decide +kernel
theorem dX8_plans_9 : decode cX8_plans 9 = .ok (.iconst 1, 1) := by decide +kernel
theorem dX8_plans_10 : decode cX8_plans 10 = .ok (.bipush 60, 2) := by decide +kernel
theorem dX8_plans_12 : decode cX8_plans 12 = .ok (.invokestatic 73, 3) := by decide +kernel
theorem dX8_plans_15 : decode cX8_plans 15 = .ok (.ifCond .ne 5, 3) := by decide +kernel
theorem dX8_plans_18 : decode cX8_plans 18 = .ok (.iconst (-1), 1) := by decide +kernel
theorem dX8_plans_19 : decode cX8_plans 19 = .ok (.ireturn, 1) := by decide +kernel
theorem dX8_plans_20 : decode cX8_plans 20 = .ok (.iconst 0, 1) := by decide +kernel
theorem dX8_plans_21 : decode cX8_plans 21 = .ok (.istore_n 3, 1) := by decide +kernel
theorem dX8_plans_22 : decode cX8_plans 22 = .ok (.iconst 0, 1) := by decide +kernel
theorem dX8_plans_23 : decode cX8_plans 23 = .ok (.istore 4, 2) := by decide +kernel
theorem dX8_plans_25 : decode cX8_plans 25 = .ok (.iload 4, 2) := by decide +kernel
theorem dX8_plans_27 : decode cX8_plans 27 = .ok (.aload_n 0, 1) := by decide +kernel
theorem dX8_plans_28 : decode cX8_plans 28 = .ok (.getfield 91, 3) := by decide +kernel
theorem dX8_plans_31 : decode cX8_plans 31 = .ok (.if_icmp .ge 54, 3) := by decide +kernel
theorem dX8_plans_34 : decode cX8_plans 34 = .ok (.aload_n 0, 1) := by decide +kernel
theorem dX8_plans_35 : decode cX8_plans 35 = .ok (.getfield 70, 3) := by decide +kernel
theorem dX8_plans_38 : decode cX8_plans 38 = .ok (.iload 4, 2) := by decide +kernel
theorem dX8_plans_40 : decode cX8_plans 40 = .ok (.aload_n 0, 1) := by decide +kernel
theorem dX8_plans_41 : decode cX8_plans 41 = .ok (.iload 4, 2) := by decide +kernel
theorem dX8_plans_43 : decode cX8_plans 43 = .ok (.invokevirtual 112, 3) := by decide +kernel
theorem dX8_plans_46 : decode cX8_plans 46 = .ok (.lastore, 1) := by decide +kernel
theorem dX8_plans_47 : decode cX8_plans 47 = .ok (.aload_n 0, 1) := by decide +kernel
theorem dX8_plans_48 : decode cX8_plans 48 = .ok (.iload 4, 2) := by decide +kernel
theorem dX8_plans_50 : decode cX8_plans 50 = .ok (.iload_n 1, 1) := by decide +kernel
theorem dX8_plans_51 : decode cX8_plans 51 = .ok (.invokevirtual 137, 3) := by decide +kernel
theorem dX8_plans_54 : decode cX8_plans 54 = .ok (.ifCond .ne 6, 3) := by decide +kernel
theorem dX8_plans_57 : decode cX8_plans 57 = .ok (.goto 22, 3) := by decide +kernel
theorem dX8_plans_60 : decode cX8_plans 60 = .ok (.iload_n 3, 1) := by decide +kernel
theorem dX8_plans_61 : decode cX8_plans 61 = .ok (.bipush 12, 2) := by decide +kernel
theorem dX8_plans_63 : decode cX8_plans 63 = .ok (.if_icmp .ne 5, 3) := by decide +kernel
theorem dX8_plans_66 : decode cX8_plans 66 = .ok (.iconst (-1), 1) := by decide +kernel
theorem dX8_plans_67 : decode cX8_plans 67 = .ok (.ireturn, 1) := by decide +kernel
theorem dX8_plans_68 : decode cX8_plans 68 = .ok (.aload_n 0, 1) := by decide +kernel
theorem dX8_plans_69 : decode cX8_plans 69 = .ok (.getfield 67, 3) := by decide +kernel
theorem dX8_plans_72 : decode cX8_plans 72 = .ok (.iload_n 3, 1) := by decide +kernel
theorem dX8_plans_73 : decode cX8_plans 73 = .ok (.iload 4, 2) := by decide +kernel
theorem dX8_plans_75 : decode cX8_plans 75 = .ok (.iastore, 1) := by decide +kernel
theorem dX8_plans_76 : decode cX8_plans 76 = .ok (.iinc 3 1, 3) := by decide +kernel
theorem dX8_plans_79 : decode cX8_plans 79 = .ok (.iinc 4 1, 3) := by decide +kernel
theorem dX8_plans_82 : decode cX8_plans 82 = .ok (.goto (-57), 3) := by decide +kernel
theorem dX8_plans_85 : decode cX8_plans 85 = .ok (.aload_n 0, 1) := by decide +kernel
theorem dX8_plans_86 : decode cX8_plans 86 = .ok (.iconst (-1), 1) := by decide +kernel
theorem dX8_plans_87 : decode cX8_plans 87 = .ok (.invokevirtual 123, 3) := by decide +kernel
theorem dX8_plans_90 : decode cX8_plans 90 = .ok (.lstore 4, 2) := by decide +kernel
theorem dX8_plans_92 : decode cX8_plans 92 = .ok (.iconst 0, 1) := by decide +kernel
theorem dX8_plans_93 : decode cX8_plans 93 = .ok (.istore 6, 2) := by decide +kernel
theorem dX8_plans_95 : decode cX8_plans 95 = .ok (.iload 6, 2) := by decide +kernel
theorem dX8_plans_97 : decode cX8_plans 97 = .ok (.aload_n 0, 1) := by decide +kernel
theorem dX8_plans_98 : decode cX8_plans 98 = .ok (.getfield 91, 3) := by decide +kernel
theorem dX8_plans_101 : decode cX8_plans 101 = .ok (.if_icmp .ge 31, 3) := by decide +kernel
theorem dX8_plans_104 : decode cX8_plans 104 = .ok (.aload_n 0, 1) := by decide +kernel
theorem dX8_plans_105 : decode cX8_plans 105 = .ok (.iload 6, 2) := by decide +kernel
theorem dX8_plans_107 : decode cX8_plans 107 = .ok (.iload_n 1, 1) := by decide +kernel
theorem dX8_plans_108 : decode cX8_plans 108 = .ok (.invokevirtual 137, 3) := by decide +kernel
theorem dX8_plans_111 : decode cX8_plans 111 = .ok (.ifCond .ne 15, 3) := by decide +kernel
theorem dX8_plans_114 : decode cX8_plans 114 = .ok (.lload 4, 2) := by decide +kernel
theorem dX8_plans_116 : decode cX8_plans 116 = .ok (.aload_n 0, 1) := by decide +kernel
theorem dX8_plans_117 : decode cX8_plans 117 = .ok (.getfield 70, 3) := by decide +kernel
theorem dX8_plans_120 : decode cX8_plans 120 = .ok (.iload 6, 2) := by decide +kernel
theorem dX8_plans_122 : decode cX8_plans 122 = .ok (.laload, 1) := by decide +kernel
theorem dX8_plans_123 : decode cX8_plans 123 = .ok (.lor, 1) := by decide +kernel
theorem dX8_plans_124 : decode cX8_plans 124 = .ok (.lstore 4, 2) := by decide +kernel
theorem dX8_plans_126 : decode cX8_plans 126 = .ok (.iinc 6 1, 3) := by decide +kernel
theorem dX8_plans_129 : decode cX8_plans 129 = .ok (.goto (-34), 3) := by decide +kernel
theorem dX8_plans_132 : decode cX8_plans 132 = .ok (.aload_n 0, 1) := by decide +kernel
theorem dX8_plans_133 : decode cX8_plans 133 = .ok (.iconst (-1), 1) := by decide +kernel
theorem dX8_plans_134 : decode cX8_plans 134 = .ok (.putfield 165, 3) := by decide +kernel
theorem dX8_plans_137 : decode cX8_plans 137 = .ok (.iconst 0, 1) := by decide +kernel
theorem dX8_plans_138 : decode cX8_plans 138 = .ok (.istore 6, 2) := by decide +kernel
theorem dX8_plans_140 : decode cX8_plans 140 = .ok (.iload 6, 2) := by decide +kernel
theorem dX8_plans_142 : decode cX8_plans 142 = .ok (.iconst 1, 1) := by decide +kernel
theorem dX8_plans_143 : decode cX8_plans 143 = .ok (.iload_n 3, 1) := by decide +kernel
theorem dX8_plans_144 : decode cX8_plans 144 = .ok (.ishl, 1) := by decide +kernel
theorem dX8_plans_145 : decode cX8_plans 145 = .ok (.if_icmp .ge 147, 3) := by decide +kernel
theorem dX8_plans_148 : decode cX8_plans 148 = .ok (.lconst 0, 1) := by decide +kernel
theorem dX8_plans_149 : decode cX8_plans 149 = .ok (.lstore 7, 2) := by decide +kernel
theorem dX8_plans_151 : decode cX8_plans 151 = .ok (.lload 4, 2) := by decide +kernel
theorem dX8_plans_153 : decode cX8_plans 153 = .ok (.lstore 9, 2) := by decide +kernel
theorem dX8_plans_155 : decode cX8_plans 155 = .ok (.iconst 0, 1) := by decide +kernel
theorem dX8_plans_156 : decode cX8_plans 156 = .ok (.istore 11, 2) := by decide +kernel
theorem dX8_plans_158 : decode cX8_plans 158 = .ok (.iconst 0, 1) := by decide +kernel
theorem dX8_plans_159 : decode cX8_plans 159 = .ok (.istore 12, 2) := by decide +kernel
theorem dX8_plans_161 : decode cX8_plans 161 = .ok (.iload 12, 2) := by decide +kernel
theorem dX8_plans_163 : decode cX8_plans 163 = .ok (.iload_n 3, 1) := by decide +kernel
theorem dX8_plans_164 : decode cX8_plans 164 = .ok (.if_icmp .ge 74, 3) := by decide +kernel
theorem dX8_plans_167 : decode cX8_plans 167 = .ok (.iload 6, 2) := by decide +kernel
theorem dX8_plans_169 : decode cX8_plans 169 = .ok (.iload 12, 2) := by decide +kernel
theorem dX8_plans_171 : decode cX8_plans 171 = .ok (.ishr, 1) := by decide +kernel
theorem dX8_plans_172 : decode cX8_plans 172 = .ok (.iconst 1, 1) := by decide +kernel
theorem dX8_plans_173 : decode cX8_plans 173 = .ok (.iand, 1) := by decide +kernel
theorem dX8_plans_174 : decode cX8_plans 174 = .ok (.iconst 1, 1) := by decide +kernel
theorem dX8_plans_175 : decode cX8_plans 175 = .ok (.if_icmp .ne 40, 3) := by decide +kernel
theorem dX8_plans_178 : decode cX8_plans 178 = .ok (.lload 7, 2) := by decide +kernel
theorem dX8_plans_180 : decode cX8_plans 180 = .ok (.aload_n 0, 1) := by decide +kernel
theorem dX8_plans_181 : decode cX8_plans 181 = .ok (.getfield 70, 3) := by decide +kernel
theorem dX8_plans_184 : decode cX8_plans 184 = .ok (.aload_n 0, 1) := by decide +kernel
theorem dX8_plans_185 : decode cX8_plans 185 = .ok (.getfield 67, 3) := by decide +kernel
theorem dX8_plans_188 : decode cX8_plans 188 = .ok (.iload 12, 2) := by decide +kernel
theorem dX8_plans_190 : decode cX8_plans 190 = .ok (.iaload, 1) := by decide +kernel
theorem dX8_plans_191 : decode cX8_plans 191 = .ok (.laload, 1) := by decide +kernel
theorem dX8_plans_192 : decode cX8_plans 192 = .ok (.lor, 1) := by decide +kernel
theorem dX8_plans_193 : decode cX8_plans 193 = .ok (.lstore 7, 2) := by decide +kernel
theorem dX8_plans_195 : decode cX8_plans 195 = .ok (.iload 11, 2) := by decide +kernel
theorem dX8_plans_197 : decode cX8_plans 197 = .ok (.aload_n 0, 1) := by decide +kernel
theorem dX8_plans_198 : decode cX8_plans 198 = .ok (.getfield 33, 3) := by decide +kernel
theorem dX8_plans_201 : decode cX8_plans 201 = .ok (.aload_n 0, 1) := by decide +kernel
theorem dX8_plans_202 : decode cX8_plans 202 = .ok (.getfield 67, 3) := by decide +kernel
theorem dX8_plans_205 : decode cX8_plans 205 = .ok (.iload 12, 2) := by decide +kernel
theorem dX8_plans_207 : decode cX8_plans 207 = .ok (.iaload, 1) := by decide +kernel
theorem dX8_plans_208 : decode cX8_plans 208 = .ok (.iaload, 1) := by decide +kernel
theorem dX8_plans_209 : decode cX8_plans 209 = .ok (.iadd, 1) := by decide +kernel
theorem dX8_plans_210 : decode cX8_plans 210 = .ok (.istore 11, 2) := by decide +kernel
theorem dX8_plans_212 : decode cX8_plans 212 = .ok (.goto 20, 3) := by decide +kernel
theorem dX8_plans_215 : decode cX8_plans 215 = .ok (.lload 9, 2) := by decide +kernel
theorem dX8_plans_217 : decode cX8_plans 217 = .ok (.aload_n 0, 1) := by decide +kernel
theorem dX8_plans_218 : decode cX8_plans 218 = .ok (.getfield 70, 3) := by decide +kernel
theorem dX8_plans_221 : decode cX8_plans 221 = .ok (.aload_n 0, 1) := by decide +kernel
theorem dX8_plans_222 : decode cX8_plans 222 = .ok (.getfield 67, 3) := by decide +kernel
theorem dX8_plans_225 : decode cX8_plans 225 = .ok (.iload 12, 2) := by decide +kernel
theorem dX8_plans_227 : decode cX8_plans 227 = .ok (.iaload, 1) := by decide +kernel
theorem dX8_plans_228 : decode cX8_plans 228 = .ok (.laload, 1) := by decide +kernel
theorem dX8_plans_229 : decode cX8_plans 229 = .ok (.lor, 1) := by decide +kernel
theorem dX8_plans_230 : decode cX8_plans 230 = .ok (.lstore 9, 2) := by decide +kernel
theorem dX8_plans_232 : decode cX8_plans 232 = .ok (.iinc 12 1, 3) := by decide +kernel
theorem dX8_plans_235 : decode cX8_plans 235 = .ok (.goto (-74), 3) := by decide +kernel
theorem dX8_plans_238 : decode cX8_plans 238 = .ok (.aload_n 0, 1) := by decide +kernel
theorem dX8_plans_239 : decode cX8_plans 239 = .ok (.getfield 165, 3) := by decide +kernel
theorem dX8_plans_242 : decode cX8_plans 242 = .ok (.iconst (-1), 1) := by decide +kernel
theorem dX8_plans_243 : decode cX8_plans 243 = .ok (.if_icmp .eq 12, 3) := by decide +kernel
theorem dX8_plans_246 : decode cX8_plans 246 = .ok (.iload 11, 2) := by decide +kernel
theorem dX8_plans_248 : decode cX8_plans 248 = .ok (.aload_n 0, 1) := by decide +kernel
theorem dX8_plans_249 : decode cX8_plans 249 = .ok (.getfield 165, 3) := by decide +kernel
theorem dX8_plans_252 : decode cX8_plans 252 = .ok (.if_icmp .ge 34, 3) := by decide +kernel
theorem dX8_plans_255 : decode cX8_plans 255 = .ok (.lload 7, 2) := by decide +kernel
theorem dX8_plans_257 : decode cX8_plans 257 = .ok (.lload 9, 2) := by decide +kernel
theorem dX8_plans_259 : decode cX8_plans 259 = .ok (.ldc2_w 149, 3) := by decide +kernel
theorem dX8_plans_262 : decode cX8_plans 262 = .ok (.lxor, 1) := by decide +kernel
theorem dX8_plans_263 : decode cX8_plans 263 = .ok (.land, 1) := by decide +kernel
theorem dX8_plans_264 : decode cX8_plans 264 = .ok (.invokestatic 126, 3) := by decide +kernel
theorem dX8_plans_267 : decode cX8_plans 267 = .ok (.iload_n 2, 1) := by decide +kernel
theorem dX8_plans_268 : decode cX8_plans 268 = .ok (.if_icmp .ge 6, 3) := by decide +kernel
theorem dX8_plans_271 : decode cX8_plans 271 = .ok (.goto 15, 3) := by decide +kernel
theorem dX8_plans_274 : decode cX8_plans 274 = .ok (.aload_n 0, 1) := by decide +kernel
theorem dX8_plans_275 : decode cX8_plans 275 = .ok (.iload 11, 2) := by decide +kernel
theorem dX8_plans_277 : decode cX8_plans 277 = .ok (.putfield 165, 3) := by decide +kernel
theorem dX8_plans_280 : decode cX8_plans 280 = .ok (.aload_n 0, 1) := by decide +kernel
theorem dX8_plans_281 : decode cX8_plans 281 = .ok (.iload 6, 2) := by decide +kernel
theorem dX8_plans_283 : decode cX8_plans 283 = .ok (.putfield 168, 3) := by decide +kernel
theorem dX8_plans_286 : decode cX8_plans 286 = .ok (.iinc 6 1, 3) := by decide +kernel
theorem dX8_plans_289 : decode cX8_plans 289 = .ok (.goto (-149), 3) := by decide +kernel
theorem dX8_plans_292 : decode cX8_plans 292 = .ok (.aload_n 0, 1) := by decide +kernel
theorem dX8_plans_293 : decode cX8_plans 293 = .ok (.getfield 165, 3) := by decide +kernel
theorem dX8_plans_296 : decode cX8_plans 296 = .ok (.iconst (-1), 1) := by decide +kernel
theorem dX8_plans_297 : decode cX8_plans 297 = .ok (.if_icmp .ne 7, 3) := by decide +kernel
theorem dX8_plans_300 : decode cX8_plans 300 = .ok (.iconst (-1), 1) := by decide +kernel
theorem dX8_plans_301 : decode cX8_plans 301 = .ok (.goto 4, 3) := by decide +kernel
theorem dX8_plans_304 : decode cX8_plans 304 = .ok (.iload_n 3, 1) := by decide +kernel
theorem dX8_plans_305 : decode cX8_plans 305 = .ok (.ireturn, 1) := by decide +kernel
theorem dX8_plan_0 : decode cX8_plan 0 = .ok (.aload_n 0, 1) := by decide +kernel
theorem dX8_plan_1 : decode cX8_plan 1 = .ok (.iload_n 1, 1) := by decide +kernel
theorem dX8_plan_2 : decode cX8_plan 2 = .ok (.iload_n 2, 1) := by decide +kernel
theorem dX8_plan_3 : decode cX8_plan 3 = .ok (.invokevirtual 171, 3) := by decide +kernel
theorem dX8_plan_6 : decode cX8_plan 6 = .ok (.iconst (-1), 1) := by decide +kernel
theorem dX8_plan_7 : decode cX8_plan 7 = .ok (.if_icmp .ne 7, 3) := by decide +kernel
theorem dX8_plan_10 : decode cX8_plan 10 = .ok (.iconst (-1), 1) := by decide +kernel
theorem dX8_plan_11 : decode cX8_plan 11 = .ok (.goto 7, 3) := by decide +kernel
theorem dX8_plan_14 : decode cX8_plan 14 = .ok (.aload_n 0, 1) := by decide +kernel
theorem dX8_plan_15 : decode cX8_plan 15 = .ok (.getfield 165, 3) := by decide +kernel
theorem dX8_plan_18 : decode cX8_plan 18 = .ok (.ireturn, 1) := by decide +kernel
theorem dX8_planned_0 : decode cX8_planned 0 = .ok (.aload_n 0, 1) := by decide +kernel
theorem dX8_planned_1 : decode cX8_planned 1 = .ok (.iload_n 1, 1) := by decide +kernel
theorem dX8_planned_2 : decode cX8_planned 2 = .ok (.iload_n 2, 1) := by decide +kernel
theorem dX8_planned_3 : decode cX8_planned 3 = .ok (.invokevirtual 171, 3) := by decide +kernel
theorem dX8_planned_6 : decode cX8_planned 6 = .ok (.istore 4, 2) := by decide +kernel
theorem dX8_planned_8 : decode cX8_planned 8 = .ok (.iload_n 3, 1) := by decide +kernel
theorem dX8_planned_9 : decode cX8_planned 9 = .ok (.istore 5, 2) := by decide +kernel
theorem dX8_planned_11 : decode cX8_planned 11 = .ok (.iconst 0, 1) := by decide +kernel
theorem dX8_planned_12 : decode cX8_planned 12 = .ok (.istore 6, 2) := by decide +kernel
theorem dX8_planned_14 : decode cX8_planned 14 = .ok (.iload 6, 2) := by decide +kernel
theorem dX8_planned_16 : decode cX8_planned 16 = .ok (.iload 4, 2) := by decide +kernel
theorem dX8_planned_18 : decode cX8_planned 18 = .ok (.if_icmp .ge 44, 3) := by decide +kernel
theorem dX8_planned_21 : decode cX8_planned 21 = .ok (.iload_n 3, 1) := by decide +kernel
theorem dX8_planned_22 : decode cX8_planned 22 = .ok (.ifCond .lt 40, 3) := by decide +kernel
theorem dX8_planned_25 : decode cX8_planned 25 = .ok (.aload_n 0, 1) := by decide +kernel
theorem dX8_planned_26 : decode cX8_planned 26 = .ok (.getfield 168, 3) := by decide +kernel
theorem dX8_planned_29 : decode cX8_planned 29 = .ok (.iload 6, 2) := by decide +kernel
theorem dX8_planned_31 : decode cX8_planned 31 = .ok (.ishr, 1) := by decide +kernel
theorem dX8_planned_32 : decode cX8_planned 32 = .ok (.iconst 1, 1) := by decide +kernel
theorem dX8_planned_33 : decode cX8_planned 33 = .ok (.iand, 1) := by decide +kernel
theorem dX8_planned_34 : decode cX8_planned 34 = .ok (.ifCond .ne 6, 3) := by decide +kernel
theorem dX8_planned_37 : decode cX8_planned 37 = .ok (.goto 19, 3) := by decide +kernel
theorem dX8_planned_40 : decode cX8_planned 40 = .ok (.iload 5, 2) := by decide +kernel
theorem dX8_planned_42 : decode cX8_planned 42 = .ok (.ifCond .ne 11, 3) := by decide +kernel
theorem dX8_planned_45 : decode cX8_planned 45 = .ok (.aload_n 0, 1) := by decide +kernel
theorem dX8_planned_46 : decode cX8_planned 46 = .ok (.getfield 67, 3) := by decide +kernel
theorem dX8_planned_49 : decode cX8_planned 49 = .ok (.iload 6, 2) := by decide +kernel
theorem dX8_planned_51 : decode cX8_planned 51 = .ok (.iaload, 1) := by decide +kernel
theorem dX8_planned_52 : decode cX8_planned 52 = .ok (.ireturn, 1) := by decide +kernel
theorem dX8_planned_53 : decode cX8_planned 53 = .ok (.iinc 5 (-1), 3) := by decide +kernel
theorem dX8_planned_56 : decode cX8_planned 56 = .ok (.iinc 6 1, 3) := by decide +kernel
theorem dX8_planned_59 : decode cX8_planned 59 = .ok (.goto (-45), 3) := by decide +kernel
theorem dX8_planned_62 : decode cX8_planned 62 = .ok (.iconst (-1), 1) := by decide +kernel
theorem dX8_planned_63 : decode cX8_planned 63 = .ok (.ireturn, 1) := by decide +kernel
theorem dX8_largest_0 : decode cX8_largest 0 = .ok (.aload_n 0, 1) := by decide +kernel
theorem dX8_largest_1 : decode cX8_largest 1 = .ok (.iload_n 1, 1) := by decide +kernel
theorem dX8_largest_2 : decode cX8_largest 2 = .ok (.invokevirtual 80, 3) := by decide +kernel
theorem dX8_largest_5 : decode cX8_largest 5 = .ok (.ifCond .eq 7, 3) := by decide +kernel
theorem dX8_largest_8 : decode cX8_largest 8 = .ok (.iload_n 2, 1) := by decide +kernel
theorem dX8_largest_9 : decode cX8_largest 9 = .ok (.ifCond .ge 5, 3) := by decide +kernel
theorem dX8_largest_12 : decode cX8_largest 12 = .ok (.iconst (-1), 1) := by decide +kernel
theorem dX8_largest_13 : decode cX8_largest 13 = .ok (.ireturn, 1) := by decide +kernel
theorem dX8_largest_14 : decode cX8_largest 14 = .ok (.iload_n 2, 1) := by decide +kernel
theorem dX8_largest_15 : decode cX8_largest 15 = .ok (.istore_n 3, 1) := by decide +kernel
theorem dX8_largest_16 : decode cX8_largest 16 = .ok (.bipush 60, 2) := by decide +kernel
theorem dX8_largest_18 : decode cX8_largest 18 = .ok (.istore 4, 2) := by decide +kernel
theorem dX8_largest_20 : decode cX8_largest 20 = .ok (.iload 4, 2) := by decide +kernel
theorem dX8_largest_22 : decode cX8_largest 22 = .ok (.ifCond .lt 64, 3) := by decide +kernel
theorem dX8_largest_25 : decode cX8_largest 25 = .ok (.iconst 0, 1) := by decide +kernel
theorem dX8_largest_26 : decode cX8_largest 26 = .ok (.istore 5, 2) := by decide +kernel
theorem dX8_largest_28 : decode cX8_largest 28 = .ok (.iload 5, 2) := by decide +kernel
theorem dX8_largest_30 : decode cX8_largest 30 = .ok (.aload_n 0, 1) := by decide +kernel
theorem dX8_largest_31 : decode cX8_largest 31 = .ok (.getfield 91, 3) := by decide +kernel
theorem dX8_largest_34 : decode cX8_largest 34 = .ok (.if_icmp .ge 46, 3) := by decide +kernel
theorem dX8_largest_37 : decode cX8_largest 37 = .ok (.aload_n 0, 1) := by decide +kernel
theorem dX8_largest_38 : decode cX8_largest 38 = .ok (.iload 5, 2) := by decide +kernel
theorem dX8_largest_40 : decode cX8_largest 40 = .ok (.iload_n 1, 1) := by decide +kernel
theorem dX8_largest_41 : decode cX8_largest 41 = .ok (.invokevirtual 137, 3) := by decide +kernel
theorem dX8_largest_44 : decode cX8_largest 44 = .ok (.ifCond .eq 30, 3) := by decide +kernel
theorem dX8_largest_47 : decode cX8_largest 47 = .ok (.aload_n 0, 1) := by decide +kernel
theorem dX8_largest_48 : decode cX8_largest 48 = .ok (.iload 5, 2) := by decide +kernel
theorem dX8_largest_50 : decode cX8_largest 50 = .ok (.invokevirtual 112, 3) := by decide +kernel
theorem dX8_largest_53 : decode cX8_largest 53 = .ok (.invokestatic 126, 3) := by decide +kernel
theorem dX8_largest_56 : decode cX8_largest 56 = .ok (.iload 4, 2) := by decide +kernel
theorem dX8_largest_58 : decode cX8_largest 58 = .ok (.if_icmp .eq 6, 3) := by decide +kernel
theorem dX8_largest_61 : decode cX8_largest 61 = .ok (.goto 13, 3) := by decide +kernel
theorem dX8_largest_64 : decode cX8_largest 64 = .ok (.iload_n 3, 1) := by decide +kernel
theorem dX8_largest_65 : decode cX8_largest 65 = .ok (.ifCond .ne 6, 3) := by decide +kernel
theorem dX8_largest_68 : decode cX8_largest 68 = .ok (.iload 5, 2) := by decide +kernel
theorem dX8_largest_70 : decode cX8_largest 70 = .ok (.ireturn, 1) := by decide +kernel
theorem dX8_largest_71 : decode cX8_largest 71 = .ok (.iinc 3 (-1), 3) := by decide +kernel
theorem dX8_largest_74 : decode cX8_largest 74 = .ok (.iinc 5 1, 3) := by decide +kernel
theorem dX8_largest_77 : decode cX8_largest 77 = .ok (.goto (-49), 3) := by decide +kernel
theorem dX8_largest_80 : decode cX8_largest 80 = .ok (.iinc 4 (-1), 3) := by decide +kernel
theorem dX8_largest_83 : decode cX8_largest 83 = .ok (.goto (-63), 3) := by decide +kernel
theorem dX8_largest_86 : decode cX8_largest 86 = .ok (.iconst (-1), 1) := by decide +kernel
theorem dX8_largest_87 : decode cX8_largest 87 = .ok (.ireturn, 1) := by decide +kernel
theorem dX8_holds_0 : decode cX8_holds 0 = .ok (.iload_n 1, 1) := by decide +kernel
theorem dX8_holds_1 : decode cX8_holds 1 = .ok (.iconst 1, 1) := by decide +kernel
theorem dX8_holds_2 : decode cX8_holds 2 = .ok (.bipush 60, 2) := by decide +kernel
theorem dX8_holds_4 : decode cX8_holds 4 = .ok (.invokestatic 73, 3) := by decide +kernel
theorem dX8_holds_7 : decode cX8_holds 7 = .ok (.ifCond .eq 20, 3) := by decide +kernel
theorem dX8_holds_10 : decode cX8_holds 10 = .ok (.aload_n 0, 1) := by decide +kernel
theorem dX8_holds_11 : decode cX8_holds 11 = .ok (.invokevirtual 119, 3) := by decide +kernel
theorem dX8_holds_14 : decode cX8_holds 14 = .ok (.aload_n 0, 1) := by decide +kernel
theorem dX8_holds_15 : decode cX8_holds 15 = .ok (.iconst (-1), 1) := by decide +kernel
theorem dX8_holds_16 : decode cX8_holds 16 = .ok (.invokevirtual 123, 3) := by decide +kernel
theorem dX8_holds_19 : decode cX8_holds 19 = .ok (.lor, 1) := by decide +kernel
theorem dX8_holds_20 : decode cX8_holds 20 = .ok (.invokestatic 126, 3) := by decide +kernel
theorem dX8_holds_23 : decode cX8_holds 23 = .ok (.iload_n 1, 1) := by decide +kernel
theorem dX8_holds_24 : decode cX8_holds 24 = .ok (.if_icmp .le 5, 3) := by decide +kernel
theorem dX8_holds_27 : decode cX8_holds 27 = .ok (.iconst 0, 1) := by decide +kernel
theorem dX8_holds_28 : decode cX8_holds 28 = .ok (.ireturn, 1) := by decide +kernel
theorem dX8_holds_29 : decode cX8_holds 29 = .ok (.aload_n 0, 1) := by decide +kernel
theorem dX8_holds_30 : decode cX8_holds 30 = .ok (.iload_n 1, 1) := by decide +kernel
theorem dX8_holds_31 : decode cX8_holds 31 = .ok (.putfield 61, 3) := by decide +kernel
theorem dX8_holds_34 : decode cX8_holds 34 = .ok (.iconst 1, 1) := by decide +kernel
theorem dX8_holds_35 : decode cX8_holds 35 = .ok (.ireturn, 1) := by decide +kernel
theorem dX8_down_0 : decode cX8_down 0 = .ok (.iload_n 0, 1) := by decide +kernel
theorem dX8_down_1 : decode cX8_down 1 = .ok (.ifCond .lt 9, 3) := by decide +kernel
theorem dX8_down_4 : decode cX8_down 4 = .ok (.iload_n 0, 1) := by decide +kernel
theorem dX8_down_5 : decode cX8_down 5 = .ok (.iload_n 1, 1) := by decide +kernel
theorem dX8_down_6 : decode cX8_down 6 = .ok (.idiv, 1) := by decide +kernel
theorem dX8_down_7 : decode cX8_down 7 = .ok (.goto 12, 3) := by decide +kernel
theorem dX8_down_10 : decode cX8_down 10 = .ok (.iload_n 0, 1) := by decide +kernel
theorem dX8_down_11 : decode cX8_down 11 = .ok (.ineg, 1) := by decide +kernel
theorem dX8_down_12 : decode cX8_down 12 = .ok (.iload_n 1, 1) := by decide +kernel
theorem dX8_down_13 : decode cX8_down 13 = .ok (.iadd, 1) := by decide +kernel
theorem dX8_down_14 : decode cX8_down 14 = .ok (.iconst 1, 1) := by decide +kernel
theorem dX8_down_15 : decode cX8_down 15 = .ok (.isub, 1) := by decide +kernel
theorem dX8_down_16 : decode cX8_down 16 = .ok (.iload_n 1, 1) := by decide +kernel
theorem dX8_down_17 : decode cX8_down 17 = .ok (.idiv, 1) := by decide +kernel
theorem dX8_down_18 : decode cX8_down 18 = .ok (.ineg, 1) := by decide +kernel
theorem dX8_down_19 : decode cX8_down 19 = .ok (.ireturn, 1) := by decide +kernel
theorem dX8_full_0 : decode cX8_full 0 = .ok (.iload_n 1, 1) := by decide +kernel
theorem dX8_full_1 : decode cX8_full 1 = .ok (.iconst 0, 1) := by decide +kernel
theorem dX8_full_2 : decode cX8_full 2 = .ok (.iconst 1, 1) := by decide +kernel
theorem dX8_full_3 : decode cX8_full 3 = .ok (.invokestatic 73, 3) := by decide +kernel
theorem dX8_full_6 : decode cX8_full 6 = .ok (.ifCond .ne 5, 3) := by decide +kernel
theorem dX8_full_9 : decode cX8_full 9 = .ok (.iconst (-1), 1) := by decide +kernel
theorem dX8_full_10 : decode cX8_full 10 = .ok (.ireturn, 1) := by decide +kernel
theorem dX8_full_11 : decode cX8_full 11 = .ok (.iconst 0, 1) := by decide +kernel
theorem dX8_full_12 : decode cX8_full 12 = .ok (.istore_n 2, 1) := by decide +kernel
theorem dX8_full_13 : decode cX8_full 13 = .ok (.iconst 0, 1) := by decide +kernel
theorem dX8_full_14 : decode cX8_full 14 = .ok (.istore_n 3, 1) := by decide +kernel
theorem dX8_full_15 : decode cX8_full 15 = .ok (.iconst 0, 1) := by decide +kernel
theorem dX8_full_16 : decode cX8_full 16 = .ok (.istore 4, 2) := by decide +kernel
theorem dX8_full_18 : decode cX8_full 18 = .ok (.iload 4, 2) := by decide +kernel
theorem dX8_full_20 : decode cX8_full 20 = .ok (.iconst 1, 1) := by decide +kernel
theorem dX8_full_21 : decode cX8_full 21 = .ok (.iadd, 1) := by decide +kernel
theorem dX8_full_22 : decode cX8_full 22 = .ok (.aload_n 0, 1) := by decide +kernel
theorem dX8_full_23 : decode cX8_full 23 = .ok (.getfield 154, 3) := by decide +kernel
theorem dX8_full_26 : decode cX8_full 26 = .ok (.if_icmp .ge 114, 3) := by decide +kernel
theorem dX8_full_29 : decode cX8_full 29 = .ok (.aload_n 0, 1) := by decide +kernel
theorem dX8_full_30 : decode cX8_full 30 = .ok (.getfield 55, 3) := by decide +kernel
theorem dX8_full_33 : decode cX8_full 33 = .ok (.iload 4, 2) := by decide +kernel
theorem dX8_full_35 : decode cX8_full 35 = .ok (.iconst 1, 1) := by decide +kernel
theorem dX8_full_36 : decode cX8_full 36 = .ok (.iadd, 1) := by decide +kernel
theorem dX8_full_37 : decode cX8_full 37 = .ok (.iaload, 1) := by decide +kernel
theorem dX8_full_38 : decode cX8_full 38 = .ok (.aload_n 0, 1) := by decide +kernel
theorem dX8_full_39 : decode cX8_full 39 = .ok (.getfield 55, 3) := by decide +kernel
theorem dX8_full_42 : decode cX8_full 42 = .ok (.iload 4, 2) := by decide +kernel
theorem dX8_full_44 : decode cX8_full 44 = .ok (.iaload, 1) := by decide +kernel
theorem dX8_full_45 : decode cX8_full 45 = .ok (.isub, 1) := by decide +kernel
theorem dX8_full_46 : decode cX8_full 46 = .ok (.istore 5, 2) := by decide +kernel
theorem dX8_full_48 : decode cX8_full 48 = .ok (.iload 5, 2) := by decide +kernel
theorem dX8_full_50 : decode cX8_full 50 = .ok (.ifCond .ne 6, 3) := by decide +kernel
theorem dX8_full_53 : decode cX8_full 53 = .ok (.goto 81, 3) := by decide +kernel
theorem dX8_full_56 : decode cX8_full 56 = .ok (.aload_n 0, 1) := by decide +kernel
theorem dX8_full_57 : decode cX8_full 57 = .ok (.getfield 58, 3) := by decide +kernel
theorem dX8_full_60 : decode cX8_full 60 = .ok (.bipush 30, 2) := by decide +kernel
theorem dX8_full_62 : decode cX8_full 62 = .ok (.iload 4, 2) := by decide +kernel
theorem dX8_full_64 : decode cX8_full 64 = .ok (.iconst 1, 1) := by decide +kernel
theorem dX8_full_65 : decode cX8_full 65 = .ok (.iadd, 1) := by decide +kernel
theorem dX8_full_66 : decode cX8_full 66 = .ok (.imul, 1) := by decide +kernel
theorem dX8_full_67 : decode cX8_full 67 = .ok (.iaload, 1) := by decide +kernel
theorem dX8_full_68 : decode cX8_full 68 = .ok (.aload_n 0, 1) := by decide +kernel
theorem dX8_full_69 : decode cX8_full 69 = .ok (.getfield 58, 3) := by decide +kernel
theorem dX8_full_72 : decode cX8_full 72 = .ok (.bipush 30, 2) := by decide +kernel
theorem dX8_full_74 : decode cX8_full 74 = .ok (.iload 4, 2) := by decide +kernel
theorem dX8_full_76 : decode cX8_full 76 = .ok (.imul, 1) := by decide +kernel
theorem dX8_full_77 : decode cX8_full 77 = .ok (.iaload, 1) := by decide +kernel
theorem dX8_full_78 : decode cX8_full 78 = .ok (.isub, 1) := by decide +kernel
theorem dX8_full_79 : decode cX8_full 79 = .ok (.istore 6, 2) := by decide +kernel
theorem dX8_full_81 : decode cX8_full 81 = .ok (.iload_n 1, 1) := by decide +kernel
theorem dX8_full_82 : decode cX8_full 82 = .ok (.ifCond .ne 15, 3) := by decide +kernel
theorem dX8_full_85 : decode cX8_full 85 = .ok (.iload 6, 2) := by decide +kernel
theorem dX8_full_87 : decode cX8_full 87 = .ok (.ineg, 1) := by decide +kernel
theorem dX8_full_88 : decode cX8_full 88 = .ok (.iload 5, 2) := by decide +kernel
theorem dX8_full_90 : decode cX8_full 90 = .ok (.invokestatic 174, 3) := by decide +kernel
theorem dX8_full_93 : decode cX8_full 93 = .ok (.ineg, 1) := by decide +kernel
theorem dX8_full_94 : decode cX8_full 94 = .ok (.goto 10, 3) := by decide +kernel
theorem dX8_full_97 : decode cX8_full 97 = .ok (.iload 6, 2) := by decide +kernel
theorem dX8_full_99 : decode cX8_full 99 = .ok (.iload 5, 2) := by decide +kernel
theorem dX8_full_101 : decode cX8_full 101 = .ok (.invokestatic 174, 3) := by decide +kernel
theorem dX8_full_104 : decode cX8_full 104 = .ok (.istore 7, 2) := by decide +kernel
theorem dX8_full_106 : decode cX8_full 106 = .ok (.iload_n 2, 1) := by decide +kernel
theorem dX8_full_107 : decode cX8_full 107 = .ok (.ifCond .eq 22, 3) := by decide +kernel
theorem dX8_full_110 : decode cX8_full 110 = .ok (.iload_n 1, 1) := by decide +kernel
theorem dX8_full_111 : decode cX8_full 111 = .ok (.ifCond .ne 12, 3) := by decide +kernel
theorem dX8_full_114 : decode cX8_full 114 = .ok (.iload 7, 2) := by decide +kernel
theorem dX8_full_116 : decode cX8_full 116 = .ok (.iload_n 3, 1) := by decide +kernel
theorem dX8_full_117 : decode cX8_full 117 = .ok (.if_icmp .le 15, 3) := by decide +kernel
theorem dX8_full_120 : decode cX8_full 120 = .ok (.goto 9, 3) := by decide +kernel
theorem dX8_full_123 : decode cX8_full 123 = .ok (.iload 7, 2) := by decide +kernel
theorem dX8_full_125 : decode cX8_full 125 = .ok (.iload_n 3, 1) := by decide +kernel
theorem dX8_full_126 : decode cX8_full 126 = .ok (.if_icmp .ge 6, 3) := by decide +kernel
theorem dX8_full_129 : decode cX8_full 129 = .ok (.iload 7, 2) := by decide +kernel
theorem dX8_full_131 : decode cX8_full 131 = .ok (.istore_n 3, 1) := by decide +kernel
theorem dX8_full_132 : decode cX8_full 132 = .ok (.iconst 1, 1) := by decide +kernel
theorem dX8_full_133 : decode cX8_full 133 = .ok (.istore_n 2, 1) := by decide +kernel
theorem dX8_full_134 : decode cX8_full 134 = .ok (.iinc 4 1, 3) := by decide +kernel
theorem dX8_full_137 : decode cX8_full 137 = .ok (.goto (-119), 3) := by decide +kernel
theorem dX8_full_140 : decode cX8_full 140 = .ok (.iload_n 2, 1) := by decide +kernel
theorem dX8_full_141 : decode cX8_full 141 = .ok (.ifCond .eq 7, 3) := by decide +kernel
theorem dX8_full_144 : decode cX8_full 144 = .ok (.iload_n 3, 1) := by decide +kernel
theorem dX8_full_145 : decode cX8_full 145 = .ok (.ifCond .gt 5, 3) := by decide +kernel
theorem dX8_full_148 : decode cX8_full 148 = .ok (.iconst (-1), 1) := by decide +kernel
theorem dX8_full_149 : decode cX8_full 149 = .ok (.ireturn, 1) := by decide +kernel
theorem dX8_full_150 : decode cX8_full 150 = .ok (.aload_n 0, 1) := by decide +kernel
theorem dX8_full_151 : decode cX8_full 151 = .ok (.getfield 77, 3) := by decide +kernel
theorem dX8_full_154 : decode cX8_full 154 = .ok (.aload_n 0, 1) := by decide +kernel
theorem dX8_full_155 : decode cX8_full 155 = .ok (.getfield 61, 3) := by decide +kernel
theorem dX8_full_158 : decode cX8_full 158 = .ok (.aload_n 0, 1) := by decide +kernel
theorem dX8_full_159 : decode cX8_full 159 = .ok (.iconst 0, 1) := by decide +kernel
theorem dX8_full_160 : decode cX8_full 160 = .ok (.invokevirtual 143, 3) := by decide +kernel
theorem dX8_full_163 : decode cX8_full 163 = .ok (.isub, 1) := by decide +kernel
theorem dX8_full_164 : decode cX8_full 164 = .ok (.iload_n 3, 1) := by decide +kernel
theorem dX8_full_165 : decode cX8_full 165 = .ok (.iadd, 1) := by decide +kernel
theorem dX8_full_166 : decode cX8_full 166 = .ok (.iconst 1, 1) := by decide +kernel
theorem dX8_full_167 : decode cX8_full 167 = .ok (.isub, 1) := by decide +kernel
theorem dX8_full_168 : decode cX8_full 168 = .ok (.iload_n 3, 1) := by decide +kernel
theorem dX8_full_169 : decode cX8_full 169 = .ok (.idiv, 1) := by decide +kernel
theorem dX8_full_170 : decode cX8_full 170 = .ok (.iadd, 1) := by decide +kernel
theorem dX8_full_171 : decode cX8_full 171 = .ok (.ireturn, 1) := by decide +kernel
theorem dX8_told_0 : decode cX8_told 0 = .ok (.aload_n 0, 1) := by decide +kernel
theorem dX8_told_1 : decode cX8_told 1 = .ok (.iload_n 1, 1) := by decide +kernel
theorem dX8_told_2 : decode cX8_told 2 = .ok (.invokevirtual 109, 3) := by decide +kernel
theorem dX8_told_5 : decode cX8_told 5 = .ok (.ifCond .ne 5, 3) := by decide +kernel
theorem dX8_told_8 : decode cX8_told 8 = .ok (.iconst (-1), 1) := by decide +kernel
theorem dX8_told_9 : decode cX8_told 9 = .ok (.ireturn, 1) := by decide +kernel
theorem dX8_told_10 : decode cX8_told 10 = .ok (.iconst 0, 1) := by decide +kernel
theorem dX8_told_11 : decode cX8_told 11 = .ok (.istore_n 3, 1) := by decide +kernel
theorem dX8_told_12 : decode cX8_told 12 = .ok (.iload_n 2, 1) := by decide +kernel
theorem dX8_told_13 : decode cX8_told 13 = .ok (.tableswitch 132 0 6 #[43, 50, 57, 64, 71, 77, 86], 43) := by decide +kernel
theorem dX8_told_56 : decode cX8_told 56 = .ok (.aload_n 0, 1) := by decide +kernel
theorem dX8_told_57 : decode cX8_told 57 = .ok (.getfield 24, 3) := by decide +kernel
theorem dX8_told_60 : decode cX8_told 60 = .ok (.iload_n 1, 1) := by decide +kernel
theorem dX8_told_61 : decode cX8_told 61 = .ok (.iaload, 1) := by decide +kernel
theorem dX8_told_62 : decode cX8_told 62 = .ok (.ireturn, 1) := by decide +kernel
theorem dX8_told_63 : decode cX8_told 63 = .ok (.aload_n 0, 1) := by decide +kernel
theorem dX8_told_64 : decode cX8_told 64 = .ok (.getfield 30, 3) := by decide +kernel
theorem dX8_told_67 : decode cX8_told 67 = .ok (.iload_n 1, 1) := by decide +kernel
theorem dX8_told_68 : decode cX8_told 68 = .ok (.iaload, 1) := by decide +kernel
theorem dX8_told_69 : decode cX8_told 69 = .ok (.ireturn, 1) := by decide +kernel
theorem dX8_told_70 : decode cX8_told 70 = .ok (.aload_n 0, 1) := by decide +kernel
theorem dX8_told_71 : decode cX8_told 71 = .ok (.getfield 33, 3) := by decide +kernel
theorem dX8_told_74 : decode cX8_told 74 = .ok (.iload_n 1, 1) := by decide +kernel
theorem dX8_told_75 : decode cX8_told 75 = .ok (.iaload, 1) := by decide +kernel
theorem dX8_told_76 : decode cX8_told 76 = .ok (.ireturn, 1) := by decide +kernel
theorem dX8_told_77 : decode cX8_told 77 = .ok (.aload_n 0, 1) := by decide +kernel
theorem dX8_told_78 : decode cX8_told 78 = .ok (.getfield 36, 3) := by decide +kernel
theorem dX8_told_81 : decode cX8_told 81 = .ok (.iload_n 1, 1) := by decide +kernel
theorem dX8_told_82 : decode cX8_told 82 = .ok (.iaload, 1) := by decide +kernel
theorem dX8_told_83 : decode cX8_told 83 = .ok (.ireturn, 1) := by decide +kernel
theorem dX8_told_84 : decode cX8_told 84 = .ok (.aload_n 0, 1) := by decide +kernel
theorem dX8_told_85 : decode cX8_told 85 = .ok (.iload_n 1, 1) := by decide +kernel
theorem dX8_told_86 : decode cX8_told 86 = .ok (.invokevirtual 94, 3) := by decide +kernel
theorem dX8_told_89 : decode cX8_told 89 = .ok (.ireturn, 1) := by decide +kernel
theorem dX8_told_90 : decode cX8_told 90 = .ok (.aload_n 0, 1) := by decide +kernel
theorem dX8_told_91 : decode cX8_told 91 = .ok (.iload_n 1, 1) := by decide +kernel
theorem dX8_told_92 : decode cX8_told 92 = .ok (.invokevirtual 112, 3) := by decide +kernel
theorem dX8_told_95 : decode cX8_told 95 = .ok (.invokestatic 126, 3) := by decide +kernel
theorem dX8_told_98 : decode cX8_told 98 = .ok (.ireturn, 1) := by decide +kernel
theorem dX8_told_99 : decode cX8_told 99 = .ok (.iconst 0, 1) := by decide +kernel
theorem dX8_told_100 : decode cX8_told 100 = .ok (.istore 4, 2) := by decide +kernel
theorem dX8_told_102 : decode cX8_told 102 = .ok (.iload 4, 2) := by decide +kernel
theorem dX8_told_104 : decode cX8_told 104 = .ok (.aload_n 0, 1) := by decide +kernel
theorem dX8_told_105 : decode cX8_told 105 = .ok (.getfield 24, 3) := by decide +kernel
theorem dX8_told_108 : decode cX8_told 108 = .ok (.iload_n 1, 1) := by decide +kernel
theorem dX8_told_109 : decode cX8_told 109 = .ok (.iaload, 1) := by decide +kernel
theorem dX8_told_110 : decode cX8_told 110 = .ok (.if_icmp .ge 33, 3) := by decide +kernel
theorem dX8_told_113 : decode cX8_told 113 = .ok (.iload_n 3, 1) := by decide +kernel
theorem dX8_told_114 : decode cX8_told 114 = .ok (.aload_n 0, 1) := by decide +kernel
theorem dX8_told_115 : decode cX8_told 115 = .ok (.getfield 27, 3) := by decide +kernel
theorem dX8_told_118 : decode cX8_told 118 = .ok (.bipush 60, 2) := by decide +kernel
theorem dX8_told_120 : decode cX8_told 120 = .ok (.iload_n 1, 1) := by decide +kernel
theorem dX8_told_121 : decode cX8_told 121 = .ok (.imul, 1) := by decide +kernel
theorem dX8_told_122 : decode cX8_told 122 = .ok (.iload 4, 2) := by decide +kernel
theorem dX8_told_124 : decode cX8_told 124 = .ok (.iadd, 1) := by decide +kernel
theorem dX8_told_125 : decode cX8_told 125 = .ok (.iaload, 1) := by decide +kernel
theorem dX8_told_126 : decode cX8_told 126 = .ok (.iconst (-1), 1) := by decide +kernel
theorem dX8_told_127 : decode cX8_told 127 = .ok (.if_icmp .ne 7, 3) := by decide +kernel
theorem dX8_told_130 : decode cX8_told 130 = .ok (.iconst 1, 1) := by decide +kernel
theorem dX8_told_131 : decode cX8_told 131 = .ok (.goto 4, 3) := by decide +kernel
theorem dX8_told_134 : decode cX8_told 134 = .ok (.iconst 0, 1) := by decide +kernel
theorem dX8_told_135 : decode cX8_told 135 = .ok (.iadd, 1) := by decide +kernel
theorem dX8_told_136 : decode cX8_told 136 = .ok (.istore_n 3, 1) := by decide +kernel
theorem dX8_told_137 : decode cX8_told 137 = .ok (.iinc 4 1, 3) := by decide +kernel
theorem dX8_told_140 : decode cX8_told 140 = .ok (.goto (-38), 3) := by decide +kernel
theorem dX8_told_143 : decode cX8_told 143 = .ok (.iload_n 3, 1) := by decide +kernel
theorem dX8_told_144 : decode cX8_told 144 = .ok (.ireturn, 1) := by decide +kernel
theorem dX8_told_145 : decode cX8_told 145 = .ok (.iconst (-1), 1) := by decide +kernel
theorem dX8_told_146 : decode cX8_told 146 = .ok (.ireturn, 1) := by decide +kernel
theorem dX8_count_0 : decode cX8_count 0 = .ok (.iconst 0, 1) := by decide +kernel
theorem dX8_count_1 : decode cX8_count 1 = .ok (.istore_n 2, 1) := by decide +kernel
theorem dX8_count_2 : decode cX8_count 2 = .ok (.iload_n 1, 1) := by decide +kernel
theorem dX8_count_3 : decode cX8_count 3 = .ok (.tableswitch 181 0 7 #[45, 50, 55, 89, 124, 157, 162, 176], 45) := by decide +kernel
theorem dX8_count_48 : decode cX8_count 48 = .ok (.aload_n 0, 1) := by decide +kernel
theorem dX8_count_49 : decode cX8_count 49 = .ok (.getfield 77, 3) := by decide +kernel
theorem dX8_count_52 : decode cX8_count 52 = .ok (.ireturn, 1) := by decide +kernel
theorem dX8_count_53 : decode cX8_count 53 = .ok (.aload_n 0, 1) := by decide +kernel
theorem dX8_count_54 : decode cX8_count 54 = .ok (.getfield 7, 3) := by decide +kernel
theorem dX8_count_57 : decode cX8_count 57 = .ok (.ireturn, 1) := by decide +kernel
theorem dX8_count_58 : decode cX8_count 58 = .ok (.iconst 0, 1) := by decide +kernel
theorem dX8_count_59 : decode cX8_count 59 = .ok (.istore_n 3, 1) := by decide +kernel
theorem dX8_count_60 : decode cX8_count 60 = .ok (.iload_n 3, 1) := by decide +kernel
theorem dX8_count_61 : decode cX8_count 61 = .ok (.aload_n 0, 1) := by decide +kernel
theorem dX8_count_62 : decode cX8_count 62 = .ok (.getfield 91, 3) := by decide +kernel
theorem dX8_count_65 : decode cX8_count 65 = .ok (.if_icmp .ge 25, 3) := by decide +kernel
theorem dX8_count_68 : decode cX8_count 68 = .ok (.iload_n 2, 1) := by decide +kernel
theorem dX8_count_69 : decode cX8_count 69 = .ok (.aload_n 0, 1) := by decide +kernel
theorem dX8_count_70 : decode cX8_count 70 = .ok (.iload_n 3, 1) := by decide +kernel
theorem dX8_count_71 : decode cX8_count 71 = .ok (.invokevirtual 94, 3) := by decide +kernel
theorem dX8_count_74 : decode cX8_count 74 = .ok (.ifCond .le 7, 3) := by decide +kernel
theorem dX8_count_77 : decode cX8_count 77 = .ok (.iconst 1, 1) := by decide +kernel
theorem dX8_count_78 : decode cX8_count 78 = .ok (.goto 4, 3) := by decide +kernel
theorem dX8_count_81 : decode cX8_count 81 = .ok (.iconst 0, 1) := by decide +kernel
theorem dX8_count_82 : decode cX8_count 82 = .ok (.iadd, 1) := by decide +kernel
theorem dX8_count_83 : decode cX8_count 83 = .ok (.istore_n 2, 1) := by decide +kernel
theorem dX8_count_84 : decode cX8_count 84 = .ok (.iinc 3 1, 3) := by decide +kernel
theorem dX8_count_87 : decode cX8_count 87 = .ok (.goto (-27), 3) := by decide +kernel
theorem dX8_count_90 : decode cX8_count 90 = .ok (.iload_n 2, 1) := by decide +kernel
theorem dX8_count_91 : decode cX8_count 91 = .ok (.ireturn, 1) := by decide +kernel
theorem dX8_count_92 : decode cX8_count 92 = .ok (.iconst 0, 1) := by decide +kernel
theorem dX8_count_93 : decode cX8_count 93 = .ok (.istore_n 3, 1) := by decide +kernel
theorem dX8_count_94 : decode cX8_count 94 = .ok (.iload_n 3, 1) := by decide +kernel
theorem dX8_count_95 : decode cX8_count 95 = .ok (.aload_n 0, 1) := by decide +kernel
theorem dX8_count_96 : decode cX8_count 96 = .ok (.getfield 88, 3) := by decide +kernel
theorem dX8_count_99 : decode cX8_count 99 = .ok (.if_icmp .ge 26, 3) := by decide +kernel
theorem dX8_count_102 : decode cX8_count 102 = .ok (.iload_n 2, 1) := by decide +kernel
theorem dX8_count_103 : decode cX8_count 103 = .ok (.aload_n 0, 1) := by decide +kernel
theorem dX8_count_104 : decode cX8_count 104 = .ok (.getfield 45, 3) := by decide +kernel
theorem dX8_count_107 : decode cX8_count 107 = .ok (.iload_n 3, 1) := by decide +kernel
theorem dX8_count_108 : decode cX8_count 108 = .ok (.baload, 1) := by decide +kernel
theorem dX8_count_109 : decode cX8_count 109 = .ok (.ifCond .eq 7, 3) := by decide +kernel
theorem dX8_count_112 : decode cX8_count 112 = .ok (.iconst 1, 1) := by decide +kernel
theorem dX8_count_113 : decode cX8_count 113 = .ok (.goto 4, 3) := by decide +kernel
theorem dX8_count_116 : decode cX8_count 116 = .ok (.iconst 0, 1) := by decide +kernel
theorem dX8_count_117 : decode cX8_count 117 = .ok (.iadd, 1) := by decide +kernel
theorem dX8_count_118 : decode cX8_count 118 = .ok (.istore_n 2, 1) := by decide +kernel
theorem dX8_count_119 : decode cX8_count 119 = .ok (.iinc 3 1, 3) := by decide +kernel
theorem dX8_count_122 : decode cX8_count 122 = .ok (.goto (-28), 3) := by decide +kernel
theorem dX8_count_125 : decode cX8_count 125 = .ok (.iload_n 2, 1) := by decide +kernel
theorem dX8_count_126 : decode cX8_count 126 = .ok (.ireturn, 1) := by decide +kernel
theorem dX8_count_127 : decode cX8_count 127 = .ok (.iconst 0, 1) := by decide +kernel
theorem dX8_count_128 : decode cX8_count 128 = .ok (.istore_n 3, 1) := by decide +kernel
theorem dX8_count_129 : decode cX8_count 129 = .ok (.iload_n 3, 1) := by decide +kernel
theorem dX8_count_130 : decode cX8_count 130 = .ok (.bipush 8, 2) := by decide +kernel
theorem dX8_count_132 : decode cX8_count 132 = .ok (.if_icmp .ge 26, 3) := by decide +kernel
theorem dX8_count_135 : decode cX8_count 135 = .ok (.iload_n 2, 1) := by decide +kernel
theorem dX8_count_136 : decode cX8_count 136 = .ok (.aload_n 0, 1) := by decide +kernel
theorem dX8_count_137 : decode cX8_count 137 = .ok (.getfield 48, 3) := by decide +kernel
theorem dX8_count_140 : decode cX8_count 140 = .ok (.iload_n 3, 1) := by decide +kernel
theorem dX8_count_141 : decode cX8_count 141 = .ok (.baload, 1) := by decide +kernel
theorem dX8_count_142 : decode cX8_count 142 = .ok (.ifCond .eq 7, 3) := by decide +kernel
theorem dX8_count_145 : decode cX8_count 145 = .ok (.iconst 1, 1) := by decide +kernel
theorem dX8_count_146 : decode cX8_count 146 = .ok (.goto 4, 3) := by decide +kernel
theorem dX8_count_149 : decode cX8_count 149 = .ok (.iconst 0, 1) := by decide +kernel
theorem dX8_count_150 : decode cX8_count 150 = .ok (.iadd, 1) := by decide +kernel
theorem dX8_count_151 : decode cX8_count 151 = .ok (.istore_n 2, 1) := by decide +kernel
theorem dX8_count_152 : decode cX8_count 152 = .ok (.iinc 3 1, 3) := by decide +kernel
theorem dX8_count_155 : decode cX8_count 155 = .ok (.goto (-26), 3) := by decide +kernel
theorem dX8_count_158 : decode cX8_count 158 = .ok (.iload_n 2, 1) := by decide +kernel
theorem dX8_count_159 : decode cX8_count 159 = .ok (.ireturn, 1) := by decide +kernel
theorem dX8_count_160 : decode cX8_count 160 = .ok (.aload_n 0, 1) := by decide +kernel
theorem dX8_count_161 : decode cX8_count 161 = .ok (.getfield 154, 3) := by decide +kernel
theorem dX8_count_164 : decode cX8_count 164 = .ok (.ireturn, 1) := by decide +kernel
theorem dX8_count_165 : decode cX8_count 165 = .ok (.aload_n 0, 1) := by decide +kernel
theorem dX8_count_166 : decode cX8_count 166 = .ok (.invokevirtual 119, 3) := by decide +kernel
theorem dX8_count_169 : decode cX8_count 169 = .ok (.aload_n 0, 1) := by decide +kernel
theorem dX8_count_170 : decode cX8_count 170 = .ok (.iconst (-1), 1) := by decide +kernel
theorem dX8_count_171 : decode cX8_count 171 = .ok (.invokevirtual 123, 3) := by decide +kernel
theorem dX8_count_174 : decode cX8_count 174 = .ok (.lor, 1) := by decide +kernel
theorem dX8_count_175 : decode cX8_count 175 = .ok (.invokestatic 126, 3) := by decide +kernel
theorem dX8_count_178 : decode cX8_count 178 = .ok (.ireturn, 1) := by decide +kernel
theorem dX8_count_179 : decode cX8_count 179 = .ok (.aload_n 0, 1) := by decide +kernel
theorem dX8_count_180 : decode cX8_count 180 = .ok (.getfield 61, 3) := by decide +kernel
theorem dX8_count_183 : decode cX8_count 183 = .ok (.ireturn, 1) := by decide +kernel
theorem dX8_count_184 : decode cX8_count 184 = .ok (.iconst (-1), 1) := by decide +kernel
theorem dX8_count_185 : decode cX8_count 185 = .ok (.ireturn, 1) := by decide +kernel
end
section
/-! The reference: its reads -/
theorem rngF {x a b : Int32} (h : x < a) : rng x a b = false := by
  have : ¬ a ≤ x := by rw [Int32.le_iff_toInt_le]; rw [Int32.lt_iff_toInt_lt] at h; omega
  simp [rng, this]
theorem rngG {x a b : Int32} (h : b < x) : rng x a b = false := by
  have : ¬ x ≤ b := by rw [Int32.le_iff_toInt_le]; rw [Int32.lt_iff_toInt_lt] at h; omega
  simp [rng, this]
theorem rngT {x a b : Int32} (h : ¬ x < a) (h2 : ¬ b < x) : rng x a b = true := by
  have h3 : a ≤ x := by rw [Int32.le_iff_toInt_le]; rw [Int32.lt_iff_toInt_lt] at h; omega
  have h4 : x ≤ b := by rw [Int32.le_iff_toInt_le]; rw [Int32.lt_iff_toInt_lt] at h2; omega
  simp [rng, h3, h4]
section MR
variable {l : Launch} {g : GG} {ad : AD} {C : CC} {σ : Sg} {τ : Tm}
theorem k_X8_in {x a b : Int32} : Cr l g yX8_in cX8_in 3 (some .boolean) 1 [.int x, .int a, .int b] ad C (.int (bI (rng x a b))) := by
  refine Ct_of [some (.int x), some (.int a), some (.int b)] (by decide) rfl rfl (Nat.le_of_ble_eq_true rfl) rfl rfl (fun X hX h => ?_)
  subst hX
  refine j_iload0 (pc := 0) h dX8_in_0 ?_
  refine j_iload1 (pc := 1) h dX8_in_1 ?_
  refine j_icmp_lt (pc := 2) (tgt := 14) h dX8_in_2 (by decide) (fun c2 => ?_) (fun c2 => ?_)
  · refine j_iconst (pc := 14) h dX8_in_14 ic_0 ?_
    refine j_zretr (pc := 15) h dX8_in_15 (by decide) (bI_f (rngF c2))
  · refine j_iload0 (pc := 5) h dX8_in_5 ?_
    refine j_iload2 (pc := 6) h dX8_in_6 ?_
    refine j_icmp_gt (pc := 7) (tgt := 14) h dX8_in_7 (by decide) (fun c7 => ?_) (fun c7 => ?_)
    · refine j_iconst (pc := 14) h dX8_in_14 ic_0 ?_
      refine j_zretr (pc := 15) h dX8_in_15 (by decide) (bI_f (rngG c7))
    · refine j_iconst (pc := 10) h dX8_in_10 ic_1 ?_
      refine j_goto (pc := 11) (tgt := 15) h dX8_in_11 (by decide) ?_
      refine j_zretr (pc := 15) h dX8_in_15 (by decide) (bI_t (rngT c2 c7))
theorem k_X8_bits {v : Int64} : Cr l g yX8_bits cX8_bits 4 (some .int) 1 [.long v] ad C (.int (nI (p60 v))) := by
  refine Ct_of [some (.long v), none, none, none] (by decide) rfl rfl (Nat.le_of_ble_eq_true rfl) rfl rfl (fun X hX h => ?_)
  subst hX
  have lp : ∀ m i, i + m = 60 → J X g 4 (QR X g ad C (.int (nI (p60 v)))) 0 0 ad C 4 [some (.long v), none, some (.int (nI (cnt (fun i => v.toBitVec.getLsbD i) i))), some (.int (nI i))] [] := by
    intro m
    induction m with
    | zero =>
      intro i hi
      refine j_iload3 (pc := 4) h dX8_bits_4 ?_
      refine j_bipush (pc := 5) h dX8_bits_5 bp_60 ?_
      refine j_icmp_ge (pc := 7) (tgt := 25) h dX8_bits_7 (by decide) (fun c7 => ?_) (fun c7 => absurd (nI_le (by omega) (by omega)) c7)
      refine j_iload2 (pc := 25) h dX8_bits_25 ?_
      refine j_iretr (pc := 26) h dX8_bits_26 (by rw [show i = 60 by omega]; rfl)
    | succ m ih =>
      intro i hi
      refine j_iload3 (pc := 4) h dX8_bits_4 ?_
      refine j_bipush (pc := 5) h dX8_bits_5 bp_60 ?_
      refine j_icmp_ge (pc := 7) (tgt := 25) h dX8_bits_7 (by decide) (fun c7 => absurd c7 (nI_ge (by omega) (by omega))) (fun c7 => ?_)
      refine j_iload2 (pc := 10) h dX8_bits_10 ?_
      refine j_lload0 (pc := 11) h dX8_bits_11 ?_
      refine j_iload3 (pc := 12) h dX8_bits_12 ?_
      refine j_lshr (pc := 13) h dX8_bits_13 ?_
      refine j_lconst (pc := 14) h dX8_bits_14 lc_1 ?_
      refine j_land (pc := 15) h dX8_bits_15 ?_
      refine j_l2i (pc := 16) h dX8_bits_16 ?_
      refine j_topi (shr1_32 v (by omega)) ?_
      refine j_iaddN (pc := 17) h dX8_bits_17 ?_
      refine j_istore2 (pc := 18) h dX8_bits_18 rfl ?_
      refine j_iinc3 (pc := 19) h dX8_bits_19 rfl (inc_n _) ?_
      refine j_goto (pc := 22) (tgt := 4) h dX8_bits_22 (by decide) ?_
      exact ih (i + 1) (by omega)
  refine j_iconst (pc := 0) h dX8_bits_0 ic_0 ?_
  refine j_istore2 (pc := 1) h dX8_bits_1 rfl ?_
  refine j_iconst (pc := 2) h dX8_bits_2 ic_0 ?_
  refine j_istore3 (pc := 3) h dX8_bits_3 rfl ?_
  exact lp 60 0 (by omega)
theorem k_X8_bits' {v : Int64} (h : lo60 v) : Cr l g yX8_bits cX8_bits 4 (some .int) 1 [.long v] ad C (.int (nI (pcn v))) := by rw [← p60_eq h]; exact k_X8_bits
theorem k_X8_isFolder {x : Int32} (m : MW g ad σ τ C) (hI : Inv σ) : Cr l g yX8_isFolder cX8_isFolder 2 (some .boolean) 2 [.ref (ad 20), .int x] ad C (.int (bI (inN x σ.nf))) := by
  obtain ⟨f20, f21, f22, f23, f24, f25, f26, f27, f28, f29, f30, f31, f32, f33, f34, f35, f36, f37, f38⟩ := id m
  obtain ⟨hf1, hf2, hfl, hnn, hnm, hno, hc1, hc2⟩ := id hI.le
  rw [← rng_n (by omega)]
  refine Ct_of [some (.ref (ad 20)), some (.int x)] (by decide) rfl rfl (Nat.le_of_ble_eq_true rfl) rfl rfl (fun X hX h => ?_)
  subst hX
  refine j_iload1 (pc := 0) h dX8_isFolder_0 ?_
  refine j_iconst (pc := 1) h dX8_isFolder_1 ic_0 ?_
  refine j_aload0 (pc := 2) h dX8_isFolder_2 ?_
  refine j_getf (pc := 3) h dX8_isFolder_3 (f20) fl_X8_7 rfl ?_
  refine j_iconst (pc := 6) h dX8_isFolder_6 ic_1 ?_
  refine j_isub (pc := 7) h dX8_isFolder_7 ?_
  refine j_callSr (pc := 8) h dX8_isFolder_8 (k_X8_in) ms_X8_73 rfl rfl (by decide) (Nat.le_of_ble_eq_true rfl) (Nat.le_of_ble_eq_true rfl) (Nat.le_of_ble_eq_true rfl) ?_
  refine j_zretr (pc := 11) h dX8_isFolder_11 (bI_nar _) (rfl)
theorem k_X8_isOf {a t : Nat} (m : MW g ad σ τ C) (hI : Inv σ) (ha : a < σ.nf) (ht : t < σ.nf) : Cr l g yX8_isOf cX8_isOf 4 (some .boolean) 1 [.ref (ad 20), .int (nI a), .int (nI t)] ad C (.int (bI (anc σ.pr 29 a t))) := by
  obtain ⟨f20, f21, f22, f23, f24, f25, f26, f27, f28, f29, f30, f31, f32, f33, f34, f35, f36, f37, f38⟩ := id m
  obtain ⟨hf1, hf2, hfl, hnn, hnm, hno, hc1, hc2⟩ := id hI.le
  refine Ct_of [some (.ref (ad 20)), some (.int (nI a)), some (.int (nI t)), none] (by decide) rfl rfl (Nat.le_of_ble_eq_true rfl) rfl rfl (fun X hX h => ?_)
  subst hX
  have ex : anc σ.pr 29 a t = false → J X g 4 (QR X g ad C (.int (bI (anc σ.pr 29 a t)))) 0 0 ad C 2 [some (.ref (ad 20)), some (.int (nI a)), some (.int (nI t)), some (.int (-1))] [] := by
    intro hB
    refine j_iload3 (pc := 2) h dX8_isOf_2 ?_
    refine j_iconst (pc := 3) h dX8_isOf_3 ic_m1 ?_
    refine j_icmp_eq (pc := 4) (tgt := 22) h dX8_isOf_4 (by decide) (fun c4 => ?_) (fun c4 => absurd (rfl) c4)
    refine j_iload3 (pc := 22) h dX8_isOf_22 ?_
    refine j_iload2 (pc := 23) h dX8_isOf_23 ?_
    refine j_icmp_ne (pc := 24) (tgt := 31) h dX8_isOf_24 (by decide) (fun c24 => ?_) (fun c24 => absurd c24 (fun q => nI_m1 (by omega) q.symm))
    refine j_iconst (pc := 31) h dX8_isOf_31 ic_0 ?_
    refine j_zretr (pc := 32) h dX8_isOf_32 (by decide) (bI_f hB)
  have lp : ∀ n j, okc σ.pr σ.nf n j → j < σ.nf → anc σ.pr n j t = anc σ.pr 29 a t → J X g 4 (QR X g ad C (.int (bI (anc σ.pr 29 a t)))) 0 0 ad C 2 [some (.ref (ad 20)), some (.int (nI a)), some (.int (nI t)), some (.int (nI j))] [] := by
    intro n
    induction n with
    | zero =>
      intro j ho hj hB
      obtain rfl : j = 0 := ho
      refine j_iload3 (pc := 2) h dX8_isOf_2 ?_
      refine j_iconst (pc := 3) h dX8_isOf_3 ic_m1 ?_
      refine j_icmp_eq (pc := 4) (tgt := 22) h dX8_isOf_4 (by decide) (fun c4 => absurd c4 (nI_m1 (by omega))) (fun c4 => ?_)
      refine j_iload3 (pc := 7) h dX8_isOf_7 ?_
      refine j_iload2 (pc := 8) h dX8_isOf_8 ?_
      refine j_icmp_eq (pc := 9) (tgt := 22) h dX8_isOf_9 (by decide) (fun c9 => ?_) (fun c9 => ?_)
      · refine j_iload3 (pc := 22) h dX8_isOf_22 ?_
        refine j_iload2 (pc := 23) h dX8_isOf_23 ?_
        refine j_icmp_ne (pc := 24) (tgt := 31) h dX8_isOf_24 (by decide) (fun c24 => absurd (c9) c24) (fun c24 => ?_)
        refine j_iconst (pc := 27) h dX8_isOf_27 ic_1 ?_
        refine j_goto (pc := 28) (tgt := 32) h dX8_isOf_28 (by decide) ?_
        refine j_zretr (pc := 32) h dX8_isOf_32 (by decide) (bI_t (by rw [← hB]; exact anc_eq (nI_inj c9 (by omega) (by omega))))
      · refine j_aload0 (pc := 12) h dX8_isOf_12 ?_
        refine j_getf (pc := 13) h dX8_isOf_13 (f20) fl_X8_13 rfl ?_
        refine j_iload3 (pc := 16) h dX8_isOf_16 ?_
        refine j_iald (pc := 17) h dX8_isOf_17 (f21) (by omega) (by decide) ?_
        refine j_istore3 (pc := 18) h dX8_isOf_18 rfl ?_
        refine j_goto (pc := 19) (tgt := 2) h dX8_isOf_19 (by decide) ?_
        exact ex (by rw [← hB]; exact anc_0 (fun q => c9 (by rw [q])))
    | succ n ih =>
      intro j ho hj hB
      refine j_iload3 (pc := 2) h dX8_isOf_2 ?_
      refine j_iconst (pc := 3) h dX8_isOf_3 ic_m1 ?_
      refine j_icmp_eq (pc := 4) (tgt := 22) h dX8_isOf_4 (by decide) (fun c4 => absurd c4 (nI_m1 (by omega))) (fun c4 => ?_)
      refine j_iload3 (pc := 7) h dX8_isOf_7 ?_
      refine j_iload2 (pc := 8) h dX8_isOf_8 ?_
      refine j_icmp_eq (pc := 9) (tgt := 22) h dX8_isOf_9 (by decide) (fun c9 => ?_) (fun c9 => ?_)
      · refine j_iload3 (pc := 22) h dX8_isOf_22 ?_
        refine j_iload2 (pc := 23) h dX8_isOf_23 ?_
        refine j_icmp_ne (pc := 24) (tgt := 31) h dX8_isOf_24 (by decide) (fun c24 => absurd (c9) c24) (fun c24 => ?_)
        refine j_iconst (pc := 27) h dX8_isOf_27 ic_1 ?_
        refine j_goto (pc := 28) (tgt := 32) h dX8_isOf_28 (by decide) ?_
        refine j_zretr (pc := 32) h dX8_isOf_32 (by decide) (bI_t (by rw [← hB]; exact anc_eq (nI_inj c9 (by omega) (by omega))))
      · by_cases h0 : j = 0
        · subst h0
          refine j_aload0 (pc := 12) h dX8_isOf_12 ?_
          refine j_getf (pc := 13) h dX8_isOf_13 (f20) fl_X8_13 rfl ?_
          refine j_iload3 (pc := 16) h dX8_isOf_16 ?_
          refine j_iald (pc := 17) h dX8_isOf_17 (f21) (by omega) (by decide) ?_
          refine j_istore3 (pc := 18) h dX8_isOf_18 rfl ?_
          refine j_goto (pc := 19) (tgt := 2) h dX8_isOf_19 (by decide) ?_
          exact ex (by rw [← hB]; exact anc_0 (fun q => c9 (by rw [q])))
        · obtain ⟨m', hm, h1, h2⟩ := okc_s ho h0
          obtain rfl : n = m' := by omega
          refine j_aload0 (pc := 12) h dX8_isOf_12 ?_
          refine j_getf (pc := 13) h dX8_isOf_13 (f20) fl_X8_13 rfl ?_
          refine j_iload3 (pc := 16) h dX8_isOf_16 ?_
          refine j_iald (pc := 17) h dX8_isOf_17 (f21) (by omega) (by decide) ?_
          refine j_topi (parF_s h0) ?_
          refine j_istore3 (pc := 18) h dX8_isOf_18 rfl ?_
          refine j_goto (pc := 19) (tgt := 2) h dX8_isOf_19 (by decide) ?_
          exact ih (σ.pr j) h2 h1 (by rw [← hB]; exact (anc_s (fun q => c9 (by rw [q])) h0).symm)
  refine j_iload1 (pc := 0) h dX8_isOf_0 ?_
  refine j_istore3 (pc := 1) h dX8_isOf_1 rfl ?_
  exact lp 29 a (hI.ok a ha) ha rfl
theorem k_X8_isSeen_m1 {who : Int32} (m : MW g ad σ τ C) : Cr l g yX8_isSeen cX8_isSeen 4 (some .boolean) 1 [.ref (ad 20), .int (-1), .int who] ad C (.int (bI true)) := by
  refine Ct_of [some (.ref (ad 20)), some (.int (-1)), some (.int who), none] (by decide) rfl rfl (Nat.le_of_ble_eq_true rfl) rfl rfl (fun X hX h => ?_)
  subst hX
  refine j_iload1 (pc := 0) h dX8_isSeen_0 ?_
  refine j_istore3 (pc := 1) h dX8_isSeen_1 rfl ?_
  refine j_iload3 (pc := 2) h dX8_isSeen_2 ?_
  refine j_iconst (pc := 3) h dX8_isSeen_3 ic_m1 ?_
  refine j_icmp_eq (pc := 4) (tgt := 38) h dX8_isSeen_4 (by decide) (fun c4 => ?_) (fun c4 => absurd (rfl) c4)
  refine j_iconst (pc := 38) h dX8_isSeen_38 ic_1 ?_
  refine j_zretr (pc := 39) h dX8_isSeen_39 (by decide) (rfl)
theorem k_X8_isSeen {a : Nat} {who : Int32} (m : MW g ad σ τ C) (hI : Inv σ) (ha : a < σ.nf) : Cr l g yX8_isSeen cX8_isSeen 4 (some .boolean) 1 [.ref (ad 20), .int (nI a), .int who] ad C (.int (bI (sees σ.pr σ.hd σ.fow who 29 a))) := by
  obtain ⟨f20, f21, f22, f23, f24, f25, f26, f27, f28, f29, f30, f31, f32, f33, f34, f35, f36, f37, f38⟩ := id m
  obtain ⟨hf1, hf2, hfl, hnn, hnm, hno, hc1, hc2⟩ := id hI.le
  refine Ct_of [some (.ref (ad 20)), some (.int (nI a)), some (.int who), none] (by decide) rfl rfl (Nat.le_of_ble_eq_true rfl) rfl rfl (fun X hX h => ?_)
  subst hX
  have ex : sees σ.pr σ.hd σ.fow who 29 a = true → J X g 4 (QR X g ad C (.int (bI (sees σ.pr σ.hd σ.fow who 29 a)))) 0 0 ad C 2 [some (.ref (ad 20)), some (.int (nI a)), some (.int who), some (.int (-1))] [] := by
    intro hB
    refine j_iload3 (pc := 2) h dX8_isSeen_2 ?_
    refine j_iconst (pc := 3) h dX8_isSeen_3 ic_m1 ?_
    refine j_icmp_eq (pc := 4) (tgt := 38) h dX8_isSeen_4 (by decide) (fun c4 => ?_) (fun c4 => absurd (rfl) c4)
    refine j_iconst (pc := 38) h dX8_isSeen_38 ic_1 ?_
    refine j_zretr (pc := 39) h dX8_isSeen_39 (by decide) (bI_t hB)
  have lp : ∀ n j, okc σ.pr σ.nf n j → j < σ.nf → sees σ.pr σ.hd σ.fow who n j = sees σ.pr σ.hd σ.fow who 29 a → J X g 4 (QR X g ad C (.int (bI (sees σ.pr σ.hd σ.fow who 29 a)))) 0 0 ad C 2 [some (.ref (ad 20)), some (.int (nI a)), some (.int who), some (.int (nI j))] [] := by
    intro n
    induction n with
    | zero =>
      intro j ho hj hB
      obtain rfl : j = 0 := ho
      have nx : (σ.hd 0 && σ.fow 0 != who) = false → J X g 4 (QR X g ad C (.int (bI (sees σ.pr σ.hd σ.fow who 29 a)))) 0 0 ad C 28 [some (.ref (ad 20)), some (.int (nI a)), some (.int who), some (.int (nI 0))] [] := by
        intro hq
        refine j_aload0 (pc := 28) h dX8_isSeen_28 ?_
        refine j_getf (pc := 29) h dX8_isSeen_29 (f20) fl_X8_13 rfl ?_
        refine j_iload3 (pc := 32) h dX8_isSeen_32 ?_
        refine j_iald (pc := 33) h dX8_isSeen_33 (f21) (by omega) (by decide) ?_
        refine j_istore3 (pc := 34) h dX8_isSeen_34 rfl ?_
        refine j_goto (pc := 35) (tgt := 2) h dX8_isSeen_35 (by decide) ?_
        exact ex (by rw [← hB, sees, hq]; rfl)
      refine j_iload3 (pc := 2) h dX8_isSeen_2 ?_
      refine j_iconst (pc := 3) h dX8_isSeen_3 ic_m1 ?_
      refine j_icmp_eq (pc := 4) (tgt := 38) h dX8_isSeen_4 (by decide) (fun c4 => absurd c4 (nI_m1 (by omega))) (fun c4 => ?_)
      refine j_aload0 (pc := 7) h dX8_isSeen_7 ?_
      refine j_getf (pc := 8) h dX8_isSeen_8 (f20) fl_X8_20 rfl ?_
      refine j_iload3 (pc := 11) h dX8_isSeen_11 ?_
      refine j_zald (pc := 12) h dX8_isSeen_12 (f23) (by omega) (by decide) ?_
      refine j_if_eq (pc := 13) (tgt := 28) h dX8_isSeen_13 (by decide) (fun c13 => ?_) (fun c13 => ?_)
      · exact nx (by rw [bI_0.mp c13]; rfl)
      · have hh : σ.hd 0 = true := bI_n0 c13
        refine j_aload0 (pc := 16) h dX8_isSeen_16 ?_
        refine j_getf (pc := 17) h dX8_isSeen_17 (f20) fl_X8_17 rfl ?_
        refine j_iload3 (pc := 20) h dX8_isSeen_20 ?_
        refine j_iald (pc := 21) h dX8_isSeen_21 (f22) (by omega) (by decide) ?_
        refine j_iload2 (pc := 22) h dX8_isSeen_22 ?_
        refine j_icmp_eq (pc := 23) (tgt := 28) h dX8_isSeen_23 (by decide) (fun c23 => ?_) (fun c23 => ?_)
        · exact nx (by simp [c23])
        · refine j_iconst (pc := 26) h dX8_isSeen_26 ic_0 ?_
          refine j_zretr (pc := 27) h dX8_isSeen_27 (by decide) (bI_f (by rw [← hB, sees, hh]; simp [c23]))
    | succ n ih =>
      intro j ho hj hB
      have nx : (σ.hd j && σ.fow j != who) = false → J X g 4 (QR X g ad C (.int (bI (sees σ.pr σ.hd σ.fow who 29 a)))) 0 0 ad C 28 [some (.ref (ad 20)), some (.int (nI a)), some (.int who), some (.int (nI j))] [] := by
        intro hq
        by_cases h0 : j = 0
        · subst h0
          refine j_aload0 (pc := 28) h dX8_isSeen_28 ?_
          refine j_getf (pc := 29) h dX8_isSeen_29 (f20) fl_X8_13 rfl ?_
          refine j_iload3 (pc := 32) h dX8_isSeen_32 ?_
          refine j_iald (pc := 33) h dX8_isSeen_33 (f21) (by omega) (by decide) ?_
          refine j_istore3 (pc := 34) h dX8_isSeen_34 rfl ?_
          refine j_goto (pc := 35) (tgt := 2) h dX8_isSeen_35 (by decide) ?_
          exact ex (by rw [← hB, sees, hq]; rfl)
        · obtain ⟨m', hm, h1, h2⟩ := okc_s ho h0
          obtain rfl : n = m' := by omega
          refine j_aload0 (pc := 28) h dX8_isSeen_28 ?_
          refine j_getf (pc := 29) h dX8_isSeen_29 (f20) fl_X8_13 rfl ?_
          refine j_iload3 (pc := 32) h dX8_isSeen_32 ?_
          refine j_iald (pc := 33) h dX8_isSeen_33 (f21) (by omega) (by decide) ?_
          refine j_topi (parF_s h0) ?_
          refine j_istore3 (pc := 34) h dX8_isSeen_34 rfl ?_
          refine j_goto (pc := 35) (tgt := 2) h dX8_isSeen_35 (by decide) ?_
          exact ih (σ.pr j) h2 h1 (by rw [← hB, sees, hq]; simp [h0])
      refine j_iload3 (pc := 2) h dX8_isSeen_2 ?_
      refine j_iconst (pc := 3) h dX8_isSeen_3 ic_m1 ?_
      refine j_icmp_eq (pc := 4) (tgt := 38) h dX8_isSeen_4 (by decide) (fun c4 => absurd c4 (nI_m1 (by omega))) (fun c4 => ?_)
      refine j_aload0 (pc := 7) h dX8_isSeen_7 ?_
      refine j_getf (pc := 8) h dX8_isSeen_8 (f20) fl_X8_20 rfl ?_
      refine j_iload3 (pc := 11) h dX8_isSeen_11 ?_
      refine j_zald (pc := 12) h dX8_isSeen_12 (f23) (by omega) (by decide) ?_
      refine j_if_eq (pc := 13) (tgt := 28) h dX8_isSeen_13 (by decide) (fun c13 => ?_) (fun c13 => ?_)
      · exact nx (by rw [bI_0.mp c13]; rfl)
      · have hh : σ.hd j = true := bI_n0 c13
        refine j_aload0 (pc := 16) h dX8_isSeen_16 ?_
        refine j_getf (pc := 17) h dX8_isSeen_17 (f20) fl_X8_17 rfl ?_
        refine j_iload3 (pc := 20) h dX8_isSeen_20 ?_
        refine j_iald (pc := 21) h dX8_isSeen_21 (f22) (by omega) (by decide) ?_
        refine j_iload2 (pc := 22) h dX8_isSeen_22 ?_
        refine j_icmp_eq (pc := 23) (tgt := 28) h dX8_isSeen_23 (by decide) (fun c23 => ?_) (fun c23 => ?_)
        · exact nx (by simp [c23])
        · refine j_iconst (pc := 26) h dX8_isSeen_26 ic_0 ?_
          refine j_zretr (pc := 27) h dX8_isSeen_27 (by decide) (bI_f (by rw [← hB, sees, hh]; simp [c23]))
  refine j_iload1 (pc := 0) h dX8_isSeen_0 ?_
  refine j_istore3 (pc := 1) h dX8_isSeen_1 rfl ?_
  exact lp 29 a (hI.ok a ha) ha rfl
theorem k_X8_namesOf {i : Nat} (m : MW g ad σ τ C) (hI : Inv σ) (hi : i < σ.nfl) : Cr l g yX8_namesOf cX8_namesOf 4 (some .int) 1 [.ref (ad 20), .int (nI i)] ad C (.int (nI (nms σ i))) := by
  obtain ⟨f20, f21, f22, f23, f24, f25, f26, f27, f28, f29, f30, f31, f32, f33, f34, f35, f36, f37, f38⟩ := id m
  obtain ⟨hf1, hf2, hfl, hnn, hnm, hno, hc1, hc2⟩ := id hI.le
  refine Ct_of [some (.ref (ad 20)), some (.int (nI i)), none, none] (by decide) rfl rfl (Nat.le_of_ble_eq_true rfl) rfl rfl (fun X hX h => ?_)
  subst hX
  have lp : ∀ n k, k + n = σ.nn → J X g 4 (QR X g ad C (.int (nI (nms σ i)))) 0 0 ad C 4 [some (.ref (ad 20)), some (.int (nI i)), some (.int (nI (cnt (fun k => σ.tb k && σ.fl k == i) k))), some (.int (nI k))] [] := by
    intro n
    induction n with
    | zero =>
      intro k hk
      refine j_iload3 (pc := 4) h dX8_namesOf_4 ?_
      refine j_aload0 (pc := 5) h dX8_namesOf_5 ?_
      refine j_getf (pc := 6) h dX8_namesOf_6 (f20) fl_X8_88 rfl ?_
      refine j_icmp_ge (pc := 9) (tgt := 45) h dX8_namesOf_9 (by decide) (fun c9 => ?_) (fun c9 => absurd (nI_le (by omega) (by omega)) c9)
      refine j_iload2 (pc := 45) h dX8_namesOf_45 ?_
      refine j_iretr (pc := 46) h dX8_namesOf_46 (by rw [show k = σ.nn by omega]; rfl)
    | succ n ih =>
      intro k hk
      have hfk := (hI.nam k (by omega)).1
      refine j_iload3 (pc := 4) h dX8_namesOf_4 ?_
      refine j_aload0 (pc := 5) h dX8_namesOf_5 ?_
      refine j_getf (pc := 6) h dX8_namesOf_6 (f20) fl_X8_88 rfl ?_
      refine j_icmp_ge (pc := 9) (tgt := 45) h dX8_namesOf_9 (by decide) (fun c9 => absurd c9 (nI_ge (by omega) (by omega))) (fun c9 => ?_)
      refine j_iload2 (pc := 12) h dX8_namesOf_12 ?_
      refine j_aload0 (pc := 13) h dX8_namesOf_13 ?_
      refine j_getf (pc := 14) h dX8_namesOf_14 (f20) fl_X8_45 rfl ?_
      refine j_iload3 (pc := 17) h dX8_namesOf_17 ?_
      refine j_zald (pc := 18) h dX8_namesOf_18 (f31) (by omega) (by decide) ?_
      refine j_if_eq (pc := 19) (tgt := 36) h dX8_namesOf_19 (by decide) (fun c19 => ?_) (fun c19 => ?_)
      · refine j_iconst (pc := 36) h dX8_namesOf_36 ic_0 ?_
        refine j_iaddN (pc := 37) h dX8_namesOf_37 ?_
        refine j_istore2 (pc := 38) h dX8_namesOf_38 rfl ?_
        refine j_iinc3 (pc := 39) h dX8_namesOf_39 rfl (inc_n _) ?_
        refine j_goto (pc := 42) (tgt := 4) h dX8_namesOf_42 (by decide) ?_
        rw [show cnt (fun k => σ.tb k && σ.fl k == i) k + 0 = cnt (fun k => σ.tb k && σ.fl k == i) (k + 1) from (cnt_f (by simp [bI_0.mp c19])).symm]
        exact ih (k + 1) (by omega)
      · refine j_aload0 (pc := 22) h dX8_namesOf_22 ?_
        refine j_getf (pc := 23) h dX8_namesOf_23 (f20) fl_X8_39 rfl ?_
        refine j_iload3 (pc := 26) h dX8_namesOf_26 ?_
        refine j_iald (pc := 27) h dX8_namesOf_27 (f29) (by omega) (by decide) ?_
        refine j_iload1 (pc := 28) h dX8_namesOf_28 ?_
        refine j_icmp_ne (pc := 29) (tgt := 36) h dX8_namesOf_29 (by decide) (fun c29 => ?_) (fun c29 => ?_)
        · refine j_iconst (pc := 36) h dX8_namesOf_36 ic_0 ?_
          refine j_iaddN (pc := 37) h dX8_namesOf_37 ?_
          refine j_istore2 (pc := 38) h dX8_namesOf_38 rfl ?_
          refine j_iinc3 (pc := 39) h dX8_namesOf_39 rfl (inc_n _) ?_
          refine j_goto (pc := 42) (tgt := 4) h dX8_namesOf_42 (by decide) ?_
          rw [show cnt (fun k => σ.tb k && σ.fl k == i) k + 0 = cnt (fun k => σ.tb k && σ.fl k == i) (k + 1) from (cnt_f (by have : ¬ σ.fl k = i := (fun q => c29 (by rw [q])); simp [this])).symm]
          exact ih (k + 1) (by omega)
        · refine j_iconst (pc := 32) h dX8_namesOf_32 ic_1 ?_
          refine j_goto (pc := 33) (tgt := 37) h dX8_namesOf_33 (by decide) ?_
          refine j_iaddN (pc := 37) h dX8_namesOf_37 ?_
          refine j_istore2 (pc := 38) h dX8_namesOf_38 rfl ?_
          refine j_iinc3 (pc := 39) h dX8_namesOf_39 rfl (inc_n _) ?_
          refine j_goto (pc := 42) (tgt := 4) h dX8_namesOf_42 (by decide) ?_
          rw [show cnt (fun k => σ.tb k && σ.fl k == i) k + 1 = cnt (fun k => σ.tb k && σ.fl k == i) (k + 1) from (cnt_t (by have := nI_inj c29 (by omega) (by omega); simp [bI_n0 c19, this])).symm]
          exact ih (k + 1) (by omega)
  refine j_iconst (pc := 0) h dX8_namesOf_0 ic_0 ?_
  refine j_istore2 (pc := 1) h dX8_namesOf_1 rfl ?_
  refine j_iconst (pc := 2) h dX8_namesOf_2 ic_0 ?_
  refine j_istore3 (pc := 3) h dX8_namesOf_3 rfl ?_
  exact lp σ.nn 0 (by omega)
theorem nms_le (σ : Sg) (i : Nat) : nms σ i ≤ σ.nn := cnt_le _ _
theorem k_X8_isFile_no {x : Int32} (m : MW g ad σ τ C) (hI : Inv σ) (hx : inN x σ.nfl = false) : Cr l g yX8_isFile cX8_isFile 2 (some .boolean) 2 [.ref (ad 20), .int x] ad C (.int (bI false)) := by
  obtain ⟨f20, f21, f22, f23, f24, f25, f26, f27, f28, f29, f30, f31, f32, f33, f34, f35, f36, f37, f38⟩ := id m
  obtain ⟨hf1, hf2, hfl, hnn, hnm, hno, hc1, hc2⟩ := id hI.le
  refine Ct_of [some (.ref (ad 20)), some (.int x)] (by decide) rfl rfl (Nat.le_of_ble_eq_true rfl) rfl rfl (fun X hX h => ?_)
  subst hX
  refine j_iload1 (pc := 0) h dX8_isFile_0 ?_
  refine j_iconst (pc := 1) h dX8_isFile_1 ic_0 ?_
  refine j_aload0 (pc := 2) h dX8_isFile_2 ?_
  refine j_getf (pc := 3) h dX8_isFile_3 (f20) fl_X8_91 rfl ?_
  refine j_iconst (pc := 6) h dX8_isFile_6 ic_1 ?_
  refine j_isub (pc := 7) h dX8_isFile_7 ?_
  refine j_callSr (pc := 8) h dX8_isFile_8 (k_X8_in) ms_X8_73 rfl rfl (by decide) (Nat.le_of_ble_eq_true rfl) (Nat.le_of_ble_eq_true rfl) (Nat.le_of_ble_eq_true rfl) ?_
  refine j_if_eqB (pc := 11) (tgt := 26) h dX8_isFile_11 (by decide) (fun c11 => ?_) (fun c11 => absurd c11 (by rw [rng_n (by omega), hx]; decide))
  refine j_iconst (pc := 26) h dX8_isFile_26 ic_0 ?_
  refine j_zretr (pc := 27) h dX8_isFile_27 (by decide) (rfl)
theorem k_X8_isFile {i : Nat} (m : MW g ad σ τ C) (hI : Inv σ) (hi : i < σ.nfl) : Cr l g yX8_isFile cX8_isFile 2 (some .boolean) 2 [.ref (ad 20), .int (nI i)] ad C (.int (bI (lv σ i))) := by
  obtain ⟨f20, f21, f22, f23, f24, f25, f26, f27, f28, f29, f30, f31, f32, f33, f34, f35, f36, f37, f38⟩ := id m
  obtain ⟨hf1, hf2, hfl, hnn, hnm, hno, hc1, hc2⟩ := id hI.le
  have hle := nms_le σ i
  refine Ct_of [some (.ref (ad 20)), some (.int (nI i))] (by decide) rfl rfl (Nat.le_of_ble_eq_true rfl) rfl rfl (fun X hX h => ?_)
  subst hX
  refine j_iload1 (pc := 0) h dX8_isFile_0 ?_
  refine j_iconst (pc := 1) h dX8_isFile_1 ic_0 ?_
  refine j_aload0 (pc := 2) h dX8_isFile_2 ?_
  refine j_getf (pc := 3) h dX8_isFile_3 (f20) fl_X8_91 rfl ?_
  refine j_iconst (pc := 6) h dX8_isFile_6 ic_1 ?_
  refine j_isub (pc := 7) h dX8_isFile_7 ?_
  refine j_callSr (pc := 8) h dX8_isFile_8 (k_X8_in) ms_X8_73 rfl rfl (by decide) (Nat.le_of_ble_eq_true rfl) (Nat.le_of_ble_eq_true rfl) (Nat.le_of_ble_eq_true rfl) ?_
  refine j_if_eqB (pc := 11) (tgt := 26) h dX8_isFile_11 (by decide) (fun c11 => absurd c11 (by rw [rng_n (by omega), inN_nI (by omega)]; simp; omega)) (fun c11 => ?_)
  refine j_aload0 (pc := 14) h dX8_isFile_14 ?_
  refine j_iload1 (pc := 15) h dX8_isFile_15 ?_
  refine j_callVr (pc := 16) h dX8_isFile_16 (k_X8_namesOf m hI hi) mv_X8_94 (f20) rfl rfl (by decide) (Nat.le_of_ble_eq_true rfl) (Nat.le_of_ble_eq_true rfl) (Nat.le_of_ble_eq_true rfl) ?_
  refine j_if_le (pc := 19) (tgt := 26) h dX8_isFile_19 (by decide) (fun c19 => ?_) (fun c19 => ?_)
  · refine j_iconst (pc := 26) h dX8_isFile_26 ic_0 ?_
    refine j_zretr (pc := 27) h dX8_isFile_27 (by decide) (bI_f (by have := nI_le_of (b := 0) c19 (by omega) (by omega); simp [lv]; omega))
  · refine j_iconst (pc := 22) h dX8_isFile_22 ic_1 ?_
    refine j_goto (pc := 23) (tgt := 27) h dX8_isFile_23 (by decide) ?_
    refine j_zretr (pc := 27) h dX8_isFile_27 (by decide) (bI_t (by have : ¬ nms σ i ≤ 0 := (fun q => c19 (nI_le (b := 0) q (by decide))); simp [lv]; omega))
theorem k_X8_of_no {x : Int32} (m : MW g ad σ τ C) (hI : Inv σ) (hx : inN x σ.nn = false) : Cr l g yX8_of cX8_of 2 (some .int) 2 [.ref (ad 20), .int x] ad C (.int (-1)) := by
  obtain ⟨f20, f21, f22, f23, f24, f25, f26, f27, f28, f29, f30, f31, f32, f33, f34, f35, f36, f37, f38⟩ := id m
  obtain ⟨hf1, hf2, hfl, hnn, hnm, hno, hc1, hc2⟩ := id hI.le
  refine Ct_of [some (.ref (ad 20)), some (.int x)] (by decide) rfl rfl (Nat.le_of_ble_eq_true rfl) rfl rfl (fun X hX h => ?_)
  subst hX
  refine j_iload1 (pc := 0) h dX8_of_0 ?_
  refine j_iconst (pc := 1) h dX8_of_1 ic_0 ?_
  refine j_aload0 (pc := 2) h dX8_of_2 ?_
  refine j_getf (pc := 3) h dX8_of_3 (f20) fl_X8_88 rfl ?_
  refine j_iconst (pc := 6) h dX8_of_6 ic_1 ?_
  refine j_isub (pc := 7) h dX8_of_7 ?_
  refine j_callSr (pc := 8) h dX8_of_8 (k_X8_in) ms_X8_73 rfl rfl (by decide) (Nat.le_of_ble_eq_true rfl) (Nat.le_of_ble_eq_true rfl) (Nat.le_of_ble_eq_true rfl) ?_
  refine j_if_eqB (pc := 11) (tgt := 32) h dX8_of_11 (by decide) (fun c11 => ?_) (fun c11 => absurd c11 (by rw [rng_n (by omega), hx]; decide))
  refine j_iconst (pc := 32) h dX8_of_32 ic_m1 ?_
  refine j_iretr (pc := 33) h dX8_of_33 (rfl)
theorem k_X8_of {k : Nat} (m : MW g ad σ τ C) (hI : Inv σ) (hk : k < σ.nn) : Cr l g yX8_of cX8_of 2 (some .int) 2 [.ref (ad 20), .int (nI k)] ad C (.int (if σ.tb k = true then nI (σ.fl k) else -1)) := by
  obtain ⟨f20, f21, f22, f23, f24, f25, f26, f27, f28, f29, f30, f31, f32, f33, f34, f35, f36, f37, f38⟩ := id m
  obtain ⟨hf1, hf2, hfl, hnn, hnm, hno, hc1, hc2⟩ := id hI.le
  refine Ct_of [some (.ref (ad 20)), some (.int (nI k))] (by decide) rfl rfl (Nat.le_of_ble_eq_true rfl) rfl rfl (fun X hX h => ?_)
  subst hX
  refine j_iload1 (pc := 0) h dX8_of_0 ?_
  refine j_iconst (pc := 1) h dX8_of_1 ic_0 ?_
  refine j_aload0 (pc := 2) h dX8_of_2 ?_
  refine j_getf (pc := 3) h dX8_of_3 (f20) fl_X8_88 rfl ?_
  refine j_iconst (pc := 6) h dX8_of_6 ic_1 ?_
  refine j_isub (pc := 7) h dX8_of_7 ?_
  refine j_callSr (pc := 8) h dX8_of_8 (k_X8_in) ms_X8_73 rfl rfl (by decide) (Nat.le_of_ble_eq_true rfl) (Nat.le_of_ble_eq_true rfl) (Nat.le_of_ble_eq_true rfl) ?_
  refine j_if_eqB (pc := 11) (tgt := 32) h dX8_of_11 (by decide) (fun c11 => absurd c11 (by rw [rng_n (by omega), inN_nI (by omega)]; simp; omega)) (fun c11 => ?_)
  refine j_aload0 (pc := 14) h dX8_of_14 ?_
  refine j_getf (pc := 15) h dX8_of_15 (f20) fl_X8_45 rfl ?_
  refine j_iload1 (pc := 18) h dX8_of_18 ?_
  refine j_zald (pc := 19) h dX8_of_19 (f31) (by omega) (by decide) ?_
  refine j_if_eq (pc := 20) (tgt := 32) h dX8_of_20 (by decide) (fun c20 => ?_) (fun c20 => ?_)
  · refine j_iconst (pc := 32) h dX8_of_32 ic_m1 ?_
    refine j_iretr (pc := 33) h dX8_of_33 (by rw [if_neg (by rw [bI_0.mp c20]; decide)])
  · refine j_aload0 (pc := 23) h dX8_of_23 ?_
    refine j_getf (pc := 24) h dX8_of_24 (f20) fl_X8_39 rfl ?_
    refine j_iload1 (pc := 27) h dX8_of_27 ?_
    refine j_iald (pc := 28) h dX8_of_28 (f29) (by omega) (by decide) ?_
    refine j_goto (pc := 29) (tgt := 33) h dX8_of_29 (by decide) ?_
    refine j_iretr (pc := 33) h dX8_of_33 (by rw [if_pos (bI_n0 c20)])
theorem k_X8_blocksOf_g {i : Nat} (m : MW g ad σ τ C) (hI : Inv σ) (hi : i < σ.nfl) (hl : lv σ i = false) : Cr l g yX8_blocksOf cX8_blocksOf 5 (some .long) 2 [.ref (ad 20), .int (nI i)] ad C (.long 0) := by
  obtain ⟨f20, f21, f22, f23, f24, f25, f26, f27, f28, f29, f30, f31, f32, f33, f34, f35, f36, f37, f38⟩ := id m
  obtain ⟨hf1, hf2, hfl, hnn, hnm, hno, hc1, hc2⟩ := id hI.le
  have hle := nms_le σ i
  have hz : nms σ i = 0 := by simp [lv] at hl; omega
  refine Ct_of [some (.ref (ad 20)), some (.int (nI i)), none, none, none] (by decide) rfl rfl (Nat.le_of_ble_eq_true rfl) rfl rfl (fun X hX h => ?_)
  subst hX
  refine j_lconst (pc := 0) h dX8_blocksOf_0 lc_0 ?_
  refine j_lstore2 (pc := 1) h dX8_blocksOf_1 rfl ?_
  refine j_iconst (pc := 2) h dX8_blocksOf_2 ic_0 ?_
  refine j_istore4 (pc := 3) h dX8_blocksOf_3 rfl ?_
  refine j_iload4 (pc := 5) h dX8_blocksOf_5 ?_
  refine j_aload0 (pc := 7) h dX8_blocksOf_7 ?_
  refine j_getf (pc := 8) h dX8_blocksOf_8 (f20) fl_X8_24 rfl ?_
  refine j_iload1 (pc := 11) h dX8_blocksOf_11 ?_
  refine j_iald (pc := 12) h dX8_blocksOf_12 (f24) (by omega) (by decide) ?_
  refine j_icmp_ge (pc := 13) (tgt := 63) h dX8_blocksOf_13 (by decide) (fun c13 => ?_) (fun c13 => ?_)
  · refine j_lload2 (pc := 63) h dX8_blocksOf_63 ?_
    refine j_lretr (pc := 64) h dX8_blocksOf_64 (rfl)
  · refine j_aload0 (pc := 16) h dX8_blocksOf_16 ?_
    refine j_iload1 (pc := 17) h dX8_blocksOf_17 ?_
    refine j_callVr (pc := 18) h dX8_blocksOf_18 (k_X8_namesOf m hI hi) mv_X8_94 (f20) rfl rfl (by decide) (Nat.le_of_ble_eq_true rfl) (Nat.le_of_ble_eq_true rfl) (Nat.le_of_ble_eq_true rfl) ?_
    refine j_if_le (pc := 21) (tgt := 63) h dX8_blocksOf_21 (by decide) (fun c21 => ?_) (fun c21 => absurd (by rw [hz]; decide) c21)
    refine j_lload2 (pc := 63) h dX8_blocksOf_63 ?_
    refine j_lretr (pc := 64) h dX8_blocksOf_64 (rfl)
theorem k_X8_blocksOf_l {i : Nat} (m : MW g ad σ τ C) (hI : Inv σ) (hi : i < σ.nfl) (hl : lv σ i = true) : Cr l g yX8_blocksOf cX8_blocksOf 5 (some .long) 2 [.ref (ad 20), .int (nI i)] ad C (.long (bkS σ i)) := by
  obtain ⟨f20, f21, f22, f23, f24, f25, f26, f27, f28, f29, f30, f31, f32, f33, f34, f35, f36, f37, f38⟩ := id m
  obtain ⟨hf1, hf2, hfl, hnn, hnm, hno, hc1, hc2⟩ := id hI.le
  have hle := nms_le σ i
  have hz : 0 < nms σ i := by simpa [lv] using hl
  have hln := (hI.fil i hi).1
  refine Ct_of [some (.ref (ad 20)), some (.int (nI i)), none, none, none] (by decide) rfl rfl (Nat.le_of_ble_eq_true rfl) rfl rfl (fun X hX h => ?_)
  subst hX
  have lp : ∀ n p, p + n = σ.ln i → J X g 5 (QR X g ad C (.long (bkS σ i))) 0 0 ad C 5 [some (.ref (ad 20)), some (.int (nI i)), some (.long (orr (fun p => bO (σ.rb (60 * i + p))) p)), none, some (.int (nI p))] [] := by
    intro n
    induction n with
    | zero =>
      intro p hp
      refine j_iload4 (pc := 5) h dX8_blocksOf_5 ?_
      refine j_aload0 (pc := 7) h dX8_blocksOf_7 ?_
      refine j_getf (pc := 8) h dX8_blocksOf_8 (f20) fl_X8_24 rfl ?_
      refine j_iload1 (pc := 11) h dX8_blocksOf_11 ?_
      refine j_iald (pc := 12) h dX8_blocksOf_12 (f24) (by omega) (by decide) ?_
      refine j_icmp_ge (pc := 13) (tgt := 63) h dX8_blocksOf_13 (by decide) (fun c13 => ?_) (fun c13 => absurd (nI_le (by omega) (by omega)) c13)
      refine j_lload2 (pc := 63) h dX8_blocksOf_63 ?_
      refine j_lretr (pc := 64) h dX8_blocksOf_64 (by rw [show p = σ.ln i by omega]; rfl)
    | succ n ih =>
      intro p hp
      cases hr : σ.rb (60 * i + p) with
      | none =>
        refine j_iload4 (pc := 5) h dX8_blocksOf_5 ?_
        refine j_aload0 (pc := 7) h dX8_blocksOf_7 ?_
        refine j_getf (pc := 8) h dX8_blocksOf_8 (f20) fl_X8_24 rfl ?_
        refine j_iload1 (pc := 11) h dX8_blocksOf_11 ?_
        refine j_iald (pc := 12) h dX8_blocksOf_12 (f24) (by omega) (by decide) ?_
        refine j_icmp_ge (pc := 13) (tgt := 63) h dX8_blocksOf_13 (by decide) (fun c13 => absurd c13 (nI_ge (by omega) (by omega))) (fun c13 => ?_)
        refine j_aload0 (pc := 16) h dX8_blocksOf_16 ?_
        refine j_iload1 (pc := 17) h dX8_blocksOf_17 ?_
        refine j_callVr (pc := 18) h dX8_blocksOf_18 (k_X8_namesOf m hI hi) mv_X8_94 (f20) rfl rfl (by decide) (Nat.le_of_ble_eq_true rfl) (Nat.le_of_ble_eq_true rfl) (Nat.le_of_ble_eq_true rfl) ?_
        refine j_if_le (pc := 21) (tgt := 63) h dX8_blocksOf_21 (by decide) (fun c21 => absurd c21 (nI_nle hz (by omega))) (fun c21 => ?_)
        refine j_aload0 (pc := 24) h dX8_blocksOf_24 ?_
        refine j_getf (pc := 25) h dX8_blocksOf_25 (f20) fl_X8_27 rfl ?_
        refine j_bipush (pc := 28) h dX8_blocksOf_28 bp_60 ?_
        refine j_iload1 (pc := 30) h dX8_blocksOf_30 ?_
        refine j_imulN (pc := 31) h dX8_blocksOf_31 ?_
        refine j_iload4 (pc := 32) h dX8_blocksOf_32 ?_
        refine j_iaddN (pc := 34) h dX8_blocksOf_34 ?_
        refine j_iald (pc := 35) h dX8_blocksOf_35 (f25) (by omega) (by decide) ?_
        refine j_iconst (pc := 36) h dX8_blocksOf_36 ic_m1 ?_
        refine j_icmp_eq (pc := 37) (tgt := 57) h dX8_blocksOf_37 (by decide) (fun c37 => ?_) (fun c37 => absurd (by rw [hr]; rfl) c37)
        refine j_iinc4 (pc := 57) h dX8_blocksOf_57 rfl (inc_n _) ?_
        refine j_goto (pc := 60) (tgt := 5) h dX8_blocksOf_60 (by decide) ?_
        rw [show orr (fun p => bO (σ.rb (60 * i + p))) p = orr (fun p => bO (σ.rb (60 * i + p))) (p + 1) from orr_no (by rw [hr]; rfl)]
        exact ih (p + 1) (by omega)
      | some b =>
        have hb := hI.blk _ b hr
        refine j_iload4 (pc := 5) h dX8_blocksOf_5 ?_
        refine j_aload0 (pc := 7) h dX8_blocksOf_7 ?_
        refine j_getf (pc := 8) h dX8_blocksOf_8 (f20) fl_X8_24 rfl ?_
        refine j_iload1 (pc := 11) h dX8_blocksOf_11 ?_
        refine j_iald (pc := 12) h dX8_blocksOf_12 (f24) (by omega) (by decide) ?_
        refine j_icmp_ge (pc := 13) (tgt := 63) h dX8_blocksOf_13 (by decide) (fun c13 => absurd c13 (nI_ge (by omega) (by omega))) (fun c13 => ?_)
        refine j_aload0 (pc := 16) h dX8_blocksOf_16 ?_
        refine j_iload1 (pc := 17) h dX8_blocksOf_17 ?_
        refine j_callVr (pc := 18) h dX8_blocksOf_18 (k_X8_namesOf m hI hi) mv_X8_94 (f20) rfl rfl (by decide) (Nat.le_of_ble_eq_true rfl) (Nat.le_of_ble_eq_true rfl) (Nat.le_of_ble_eq_true rfl) ?_
        refine j_if_le (pc := 21) (tgt := 63) h dX8_blocksOf_21 (by decide) (fun c21 => absurd c21 (nI_nle hz (by omega))) (fun c21 => ?_)
        refine j_aload0 (pc := 24) h dX8_blocksOf_24 ?_
        refine j_getf (pc := 25) h dX8_blocksOf_25 (f20) fl_X8_27 rfl ?_
        refine j_bipush (pc := 28) h dX8_blocksOf_28 bp_60 ?_
        refine j_iload1 (pc := 30) h dX8_blocksOf_30 ?_
        refine j_imulN (pc := 31) h dX8_blocksOf_31 ?_
        refine j_iload4 (pc := 32) h dX8_blocksOf_32 ?_
        refine j_iaddN (pc := 34) h dX8_blocksOf_34 ?_
        refine j_iald (pc := 35) h dX8_blocksOf_35 (f25) (by omega) (by decide) ?_
        refine j_iconst (pc := 36) h dX8_blocksOf_36 ic_m1 ?_
        refine j_icmp_eq (pc := 37) (tgt := 57) h dX8_blocksOf_37 (by decide) (fun c37 => absurd c37 (by rw [hr]; exact nI_m1 (by omega))) (fun c37 => ?_)
        refine j_lload2 (pc := 40) h dX8_blocksOf_40 ?_
        refine j_lconst (pc := 41) h dX8_blocksOf_41 lc_1 ?_
        refine j_aload0 (pc := 42) h dX8_blocksOf_42 ?_
        refine j_getf (pc := 43) h dX8_blocksOf_43 (f20) fl_X8_27 rfl ?_
        refine j_bipush (pc := 46) h dX8_blocksOf_46 bp_60 ?_
        refine j_iload1 (pc := 48) h dX8_blocksOf_48 ?_
        refine j_imulN (pc := 49) h dX8_blocksOf_49 ?_
        refine j_iload4 (pc := 50) h dX8_blocksOf_50 ?_
        refine j_iaddN (pc := 52) h dX8_blocksOf_52 ?_
        refine j_iald (pc := 53) h dX8_blocksOf_53 (f25) (by omega) (by decide) ?_
        refine j_lshl (pc := 54) h dX8_blocksOf_54 ?_
        refine j_lor (pc := 55) h dX8_blocksOf_55 ?_
        refine j_lstore2 (pc := 56) h dX8_blocksOf_56 rfl ?_
        refine j_iinc4 (pc := 57) h dX8_blocksOf_57 rfl (inc_n _) ?_
        refine j_goto (pc := 60) (tgt := 5) h dX8_blocksOf_60 (by decide) ?_
        rw [show orr (fun p => bO (σ.rb (60 * i + p))) p ||| (1 <<< ((rI (σ.rb (60 * i + p))).toInt64 &&& 63)) = orr (fun p => bO (σ.rb (60 * i + p))) (p + 1) from by rw [orr, hr]; rfl]
        exact ih (p + 1) (by omega)
  refine j_lconst (pc := 0) h dX8_blocksOf_0 lc_0 ?_
  refine j_lstore2 (pc := 1) h dX8_blocksOf_1 rfl ?_
  refine j_iconst (pc := 2) h dX8_blocksOf_2 ic_0 ?_
  refine j_istore4 (pc := 3) h dX8_blocksOf_3 rfl ?_
  exact lp (σ.ln i) 0 (by omega)
theorem k_X8_blocksOf {i : Nat} (m : MW g ad σ τ C) (hI : Inv σ) (hi : i < σ.nfl) : Cr l g yX8_blocksOf cX8_blocksOf 5 (some .long) 2 [.ref (ad 20), .int (nI i)] ad C (.long (bk σ i)) := by
  cases hl : lv σ i with
  | false => rw [show bk σ i = 0 from by rw [bk, hl]; rfl]; exact k_X8_blocksOf_g m hI hi hl
  | true => rw [show bk σ i = bkS σ i from by rw [bk, hl]; rfl]; exact k_X8_blocksOf_l m hI hi hl
theorem k_X8_shots {x : Int32} (m : MW g ad σ τ C) (hI : Inv σ) : Cr l g yX8_shots cX8_shots 5 (some .long) 1 [.ref (ad 20), .int x] ad C (.long (shS σ x)) := by
  obtain ⟨f20, f21, f22, f23, f24, f25, f26, f27, f28, f29, f30, f31, f32, f33, f34, f35, f36, f37, f38⟩ := id m
  obtain ⟨hf1, hf2, hfl, hnn, hnm, hno, hc1, hc2⟩ := id hI.le
  refine Ct_of [some (.ref (ad 20)), some (.int x), none, none, none] (by decide) rfl rfl (Nat.le_of_ble_eq_true rfl) rfl rfl (fun X hX h => ?_)
  subst hX
  have lp : ∀ n i, i + n = 8 → J X g 5 (QR X g ad C (.long (shS σ x))) 0 0 ad C 5 [some (.ref (ad 20)), some (.int x), some (.long (orr (shF σ.sb σ.sh x) i)), none, some (.int (nI i))] [] := by
    intro n
    induction n with
    | zero =>
      intro i hi
      refine j_iload4 (pc := 5) h dX8_shots_5 ?_
      refine j_bipush (pc := 7) h dX8_shots_7 bp_8 ?_
      refine j_icmp_ge (pc := 9) (tgt := 44) h dX8_shots_9 (by decide) (fun c9 => ?_) (fun c9 => absurd (nI_le (by omega) (by omega)) c9)
      refine j_lload2 (pc := 44) h dX8_shots_44 ?_
      refine j_lretr (pc := 45) h dX8_shots_45 (by rw [show i = 8 by omega]; rfl)
    | succ n ih =>
      intro i hi
      refine j_iload4 (pc := 5) h dX8_shots_5 ?_
      refine j_bipush (pc := 7) h dX8_shots_7 bp_8 ?_
      refine j_icmp_ge (pc := 9) (tgt := 44) h dX8_shots_9 (by decide) (fun c9 => absurd c9 (nI_ge (by omega) (by omega))) (fun c9 => ?_)
      refine j_aload0 (pc := 12) h dX8_shots_12 ?_
      refine j_getf (pc := 13) h dX8_shots_13 (f20) fl_X8_48 rfl ?_
      refine j_iload4 (pc := 16) h dX8_shots_16 ?_
      refine j_zald (pc := 18) h dX8_shots_18 (f32) (by omega) (by decide) ?_
      refine j_if_eq (pc := 19) (tgt := 38) h dX8_shots_19 (by decide) (fun c19 => ?_) (fun c19 => ?_)
      · refine j_iinc4 (pc := 38) h dX8_shots_38 rfl (inc_n _) ?_
        refine j_goto (pc := 41) (tgt := 5) h dX8_shots_41 (by decide) ?_
        rw [show orr (shF σ.sb σ.sh x) i = orr (shF σ.sb σ.sh x) (i + 1) from orr_no (by simp [shF, bI_0.mp c19])]
        exact ih (i + 1) (by omega)
      · refine j_iload4 (pc := 22) h dX8_shots_22 ?_
        refine j_iload1 (pc := 24) h dX8_shots_24 ?_
        refine j_icmp_eq (pc := 25) (tgt := 38) h dX8_shots_25 (by decide) (fun c25 => ?_) (fun c25 => ?_)
        · refine j_iinc4 (pc := 38) h dX8_shots_38 rfl (inc_n _) ?_
          refine j_goto (pc := 41) (tgt := 5) h dX8_shots_41 (by decide) ?_
          rw [show orr (shF σ.sb σ.sh x) i = orr (shF σ.sb σ.sh x) (i + 1) from orr_no (by simp [shF, c25])]
          exact ih (i + 1) (by omega)
        · refine j_lload2 (pc := 28) h dX8_shots_28 ?_
          refine j_aload0 (pc := 29) h dX8_shots_29 ?_
          refine j_getf (pc := 30) h dX8_shots_30 (f20) fl_X8_51 rfl ?_
          refine j_iload4 (pc := 33) h dX8_shots_33 ?_
          refine j_lald (pc := 35) h dX8_shots_35 (f33) (by omega) (by decide) ?_
          refine j_lor (pc := 36) h dX8_shots_36 ?_
          refine j_lstore2 (pc := 37) h dX8_shots_37 rfl ?_
          refine j_iinc4 (pc := 38) h dX8_shots_38 rfl (inc_n _) ?_
          refine j_goto (pc := 41) (tgt := 5) h dX8_shots_41 (by decide) ?_
          rw [show orr (shF σ.sb σ.sh x) i ||| σ.sh i = orr (shF σ.sb σ.sh x) (i + 1) from by rw [orr, shF]; simp [bI_n0 c19, c25]]
          exact ih (i + 1) (by omega)
  refine j_lconst (pc := 0) h dX8_shots_0 lc_0 ?_
  refine j_lstore2 (pc := 1) h dX8_shots_1 rfl ?_
  refine j_iconst (pc := 2) h dX8_shots_2 ic_0 ?_
  refine j_istore4 (pc := 3) h dX8_shots_3 rfl ?_
  exact lp 8 0 (by omega)
theorem k_X8_allFiles (m : MW g ad σ τ C) (hI : Inv σ) : Cr l g yX8_allFiles cX8_allFiles 4 (some .long) 3 [.ref (ad 20)] ad C (.long (allS σ)) := by
  obtain ⟨f20, f21, f22, f23, f24, f25, f26, f27, f28, f29, f30, f31, f32, f33, f34, f35, f36, f37, f38⟩ := id m
  obtain ⟨hf1, hf2, hfl, hnn, hnm, hno, hc1, hc2⟩ := id hI.le
  refine Ct_of [some (.ref (ad 20)), none, none, none] (by decide) rfl rfl (Nat.le_of_ble_eq_true rfl) rfl rfl (fun X hX h => ?_)
  subst hX
  have lp : ∀ n i, i + n = σ.nfl → J X g 4 (QR X g ad C (.long (allS σ))) 0 0 ad C 4 [some (.ref (ad 20)), some (.long (orr (bk σ) i)), none, some (.int (nI i))] [] := by
    intro n
    induction n with
    | zero =>
      intro i hi
      refine j_iload3 (pc := 4) h dX8_allFiles_4 ?_
      refine j_aload0 (pc := 5) h dX8_allFiles_5 ?_
      refine j_getf (pc := 6) h dX8_allFiles_6 (f20) fl_X8_91 rfl ?_
      refine j_icmp_ge (pc := 9) (tgt := 26) h dX8_allFiles_9 (by decide) (fun c9 => ?_) (fun c9 => absurd (nI_le (by omega) (by omega)) c9)
      refine j_lload1 (pc := 26) h dX8_allFiles_26 ?_
      refine j_lretr (pc := 27) h dX8_allFiles_27 (by rw [show i = σ.nfl by omega]; rfl)
    | succ n ih =>
      intro i hi
      refine j_iload3 (pc := 4) h dX8_allFiles_4 ?_
      refine j_aload0 (pc := 5) h dX8_allFiles_5 ?_
      refine j_getf (pc := 6) h dX8_allFiles_6 (f20) fl_X8_91 rfl ?_
      refine j_icmp_ge (pc := 9) (tgt := 26) h dX8_allFiles_9 (by decide) (fun c9 => absurd c9 (nI_ge (by omega) (by omega))) (fun c9 => ?_)
      refine j_lload1 (pc := 12) h dX8_allFiles_12 ?_
      refine j_aload0 (pc := 13) h dX8_allFiles_13 ?_
      refine j_iload3 (pc := 14) h dX8_allFiles_14 ?_
      refine j_callVr (pc := 15) h dX8_allFiles_15 (k_X8_blocksOf m hI (by omega)) mv_X8_112 (f20) rfl rfl (by decide) (Nat.le_of_ble_eq_true rfl) (Nat.le_of_ble_eq_true rfl) (Nat.le_of_ble_eq_true rfl) ?_
      refine j_lor (pc := 18) h dX8_allFiles_18 ?_
      refine j_lstore1 (pc := 19) h dX8_allFiles_19 rfl ?_
      refine j_iinc3 (pc := 20) h dX8_allFiles_20 rfl (inc_n _) ?_
      refine j_goto (pc := 23) (tgt := 4) h dX8_allFiles_23 (by decide) ?_
      exact ih (i + 1) (by omega)
  refine j_lconst (pc := 0) h dX8_allFiles_0 lc_0 ?_
  refine j_lstore1 (pc := 1) h dX8_allFiles_1 rfl ?_
  refine j_iconst (pc := 2) h dX8_allFiles_2 ic_0 ?_
  refine j_istore3 (pc := 3) h dX8_allFiles_3 rfl ?_
  exact lp σ.nfl 0 (by omega)
theorem k_X8_isPlace_no {x y : Int32} (m : MW g ad σ τ C) (hI : Inv σ) (hx : inN x σ.nfl = false) : Cr l g yX8_isPlace cX8_isPlace 3 (some .boolean) 3 [.ref (ad 20), .int x, .int y] ad C (.int (bI false)) := by
  refine Ct_of [some (.ref (ad 20)), some (.int x), some (.int y)] (by decide) rfl rfl (Nat.le_of_ble_eq_true rfl) rfl rfl (fun X hX h => ?_)
  subst hX
  refine j_aload0 (pc := 0) h dX8_isPlace_0 ?_
  refine j_iload1 (pc := 1) h dX8_isPlace_1 ?_
  refine j_callVr (pc := 2) h dX8_isPlace_2 (k_X8_isFile_no m hI hx) mv_X8_109 (m.1) rfl rfl (by decide) (Nat.le_of_ble_eq_true rfl) (Nat.le_of_ble_eq_true rfl) (Nat.le_of_ble_eq_true rfl) ?_
  refine j_if_eqB (pc := 5) (tgt := 42) h dX8_isPlace_5 (by decide) (fun c5 => ?_) (fun c5 => absurd c5 (by decide))
  refine j_iconst (pc := 42) h dX8_isPlace_42 ic_0 ?_
  refine j_zretr (pc := 43) h dX8_isPlace_43 (by decide) (rfl)
theorem k_X8_isPlace {i : Nat} {y : Int32} (m : MW g ad σ τ C) (hI : Inv σ) (hi : i < σ.nfl) : Cr l g yX8_isPlace cX8_isPlace 3 (some .boolean) 3 [.ref (ad 20), .int (nI i), .int y] ad C (.int (bI (lv σ i && inN y (cpl (σ.ln i))))) := by
  obtain ⟨f20, f21, f22, f23, f24, f25, f26, f27, f28, f29, f30, f31, f32, f33, f34, f35, f36, f37, f38⟩ := id m
  obtain ⟨hf1, hf2, hfl, hnn, hnm, hno, hc1, hc2⟩ := id hI.le
  have hln := (hI.fil i hi).1
  refine Ct_of [some (.ref (ad 20)), some (.int (nI i)), some (.int y)] (by decide) rfl rfl (Nat.le_of_ble_eq_true rfl) rfl rfl (fun X hX h => ?_)
  subst hX
  refine j_aload0 (pc := 0) h dX8_isPlace_0 ?_
  refine j_iload1 (pc := 1) h dX8_isPlace_1 ?_
  refine j_callVr (pc := 2) h dX8_isPlace_2 (k_X8_isFile m hI hi) mv_X8_109 (f20) rfl rfl (by decide) (Nat.le_of_ble_eq_true rfl) (Nat.le_of_ble_eq_true rfl) (Nat.le_of_ble_eq_true rfl) ?_
  refine j_if_eqB (pc := 5) (tgt := 42) h dX8_isPlace_5 (by decide) (fun c5 => ?_) (fun c5 => ?_)
  · refine j_iconst (pc := 42) h dX8_isPlace_42 ic_0 ?_
    refine j_zretr (pc := 43) h dX8_isPlace_43 (by decide) (bI_f (by rw [c5]; rfl))
  · refine j_iload2 (pc := 8) h dX8_isPlace_8 ?_
    refine j_iconst (pc := 9) h dX8_isPlace_9 ic_0 ?_
    refine j_aload0 (pc := 10) h dX8_isPlace_10 ?_
    refine j_getf (pc := 11) h dX8_isPlace_11 (f20) fl_X8_24 rfl ?_
    refine j_iload1 (pc := 14) h dX8_isPlace_14 ?_
    refine j_iald (pc := 15) h dX8_isPlace_15 (f24) (by omega) (by decide) ?_
    refine j_bipush (pc := 16) h dX8_isPlace_16 bp_60 ?_
    refine j_icmp_ge (pc := 18) (tgt := 30) h dX8_isPlace_18 (by decide) (fun c18 => ?_) (fun c18 => ?_)
    · have hl : σ.ln i = 60 := by have := nI_le_of c18 (by omega) (by omega); omega
      have hc : cpl (σ.ln i) = 59 + 1 := by rw [hl]; rfl
      refine j_bipush (pc := 30) h dX8_isPlace_30 bp_59 ?_
      refine j_callSr (pc := 32) h dX8_isPlace_32 (k_X8_in) ms_X8_73 rfl rfl (by decide) (Nat.le_of_ble_eq_true rfl) (Nat.le_of_ble_eq_true rfl) (Nat.le_of_ble_eq_true rfl) ?_
      refine j_if_eqB (pc := 35) (tgt := 42) h dX8_isPlace_35 (by decide) (fun c35 => ?_) (fun c35 => ?_)
      · refine j_iconst (pc := 42) h dX8_isPlace_42 ic_0 ?_
        refine j_zretr (pc := 43) h dX8_isPlace_43 (by decide) (bI_f (by rw [hc, ← rng_m (by omega), c35]; simp))
      · refine j_iconst (pc := 38) h dX8_isPlace_38 ic_1 ?_
        refine j_goto (pc := 39) (tgt := 43) h dX8_isPlace_39 (by decide) ?_
        refine j_zretr (pc := 43) h dX8_isPlace_43 (by decide) (bI_t (by rw [hc, ← rng_m (by omega), c35, c5]; rfl))
    · have hl : σ.ln i < 60 := nI_lt' c18 (by omega)
      have hc : cpl (σ.ln i) = σ.ln i + 1 := by unfold cpl; rw [if_pos hl]
      refine j_aload0 (pc := 21) h dX8_isPlace_21 ?_
      refine j_getf (pc := 22) h dX8_isPlace_22 (f20) fl_X8_24 rfl ?_
      refine j_iload1 (pc := 25) h dX8_isPlace_25 ?_
      refine j_iald (pc := 26) h dX8_isPlace_26 (f24) (by omega) (by decide) ?_
      refine j_goto (pc := 27) (tgt := 32) h dX8_isPlace_27 (by decide) ?_
      refine j_callSr (pc := 32) h dX8_isPlace_32 (k_X8_in) ms_X8_73 rfl rfl (by decide) (Nat.le_of_ble_eq_true rfl) (Nat.le_of_ble_eq_true rfl) (Nat.le_of_ble_eq_true rfl) ?_
      refine j_if_eqB (pc := 35) (tgt := 42) h dX8_isPlace_35 (by decide) (fun c35 => ?_) (fun c35 => ?_)
      · refine j_iconst (pc := 42) h dX8_isPlace_42 ic_0 ?_
        refine j_zretr (pc := 43) h dX8_isPlace_43 (by decide) (bI_f (by rw [hc, ← rng_m (by omega), c35]; simp))
      · refine j_iconst (pc := 38) h dX8_isPlace_38 ic_1 ?_
        refine j_goto (pc := 39) (tgt := 43) h dX8_isPlace_39 (by decide) ?_
        refine j_zretr (pc := 43) h dX8_isPlace_43 (by decide) (bI_t (by rw [hc, ← rng_m (by omega), c35, c5]; rfl))
theorem k_X8_block_no {x y : Int32} (m : MW g ad σ τ C) (hI : Inv σ) (hx : inN x σ.nfl = false) : Cr l g yX8_block cX8_block 3 (some .int) 3 [.ref (ad 20), .int x, .int y] ad C (.int (-1)) := by
  refine Ct_of [some (.ref (ad 20)), some (.int x), some (.int y)] (by decide) rfl rfl (Nat.le_of_ble_eq_true rfl) rfl rfl (fun X hX h => ?_)
  subst hX
  refine j_aload0 (pc := 0) h dX8_block_0 ?_
  refine j_iload1 (pc := 1) h dX8_block_1 ?_
  refine j_callVr (pc := 2) h dX8_block_2 (k_X8_isFile_no m hI hx) mv_X8_109 (m.1) rfl rfl (by decide) (Nat.le_of_ble_eq_true rfl) (Nat.le_of_ble_eq_true rfl) (Nat.le_of_ble_eq_true rfl) ?_
  refine j_if_eqB (pc := 5) (tgt := 38) h dX8_block_5 (by decide) (fun c5 => ?_) (fun c5 => absurd c5 (by decide))
  refine j_iconst (pc := 38) h dX8_block_38 ic_m1 ?_
  refine j_iretr (pc := 39) h dX8_block_39 (rfl)
theorem k_X8_block_n {i : Nat} {y : Int32} (m : MW g ad σ τ C) (hI : Inv σ) (hi : i < σ.nfl) (hh : (lv σ i && inN y (σ.ln i)) = false) : Cr l g yX8_block cX8_block 3 (some .int) 3 [.ref (ad 20), .int (nI i), .int y] ad C (.int (-1)) := by
  obtain ⟨f20, f21, f22, f23, f24, f25, f26, f27, f28, f29, f30, f31, f32, f33, f34, f35, f36, f37, f38⟩ := id m
  obtain ⟨hf1, hf2, hfl, hnn, hnm, hno, hc1, hc2⟩ := id hI.le
  have hln := (hI.fil i hi).1
  refine Ct_of [some (.ref (ad 20)), some (.int (nI i)), some (.int y)] (by decide) rfl rfl (Nat.le_of_ble_eq_true rfl) rfl rfl (fun X hX h => ?_)
  subst hX
  refine j_aload0 (pc := 0) h dX8_block_0 ?_
  refine j_iload1 (pc := 1) h dX8_block_1 ?_
  refine j_callVr (pc := 2) h dX8_block_2 (k_X8_isFile m hI hi) mv_X8_109 (f20) rfl rfl (by decide) (Nat.le_of_ble_eq_true rfl) (Nat.le_of_ble_eq_true rfl) (Nat.le_of_ble_eq_true rfl) ?_
  refine j_if_eqB (pc := 5) (tgt := 38) h dX8_block_5 (by decide) (fun c5 => ?_) (fun c5 => ?_)
  · refine j_iconst (pc := 38) h dX8_block_38 ic_m1 ?_
    refine j_iretr (pc := 39) h dX8_block_39 (rfl)
  · refine j_iload2 (pc := 8) h dX8_block_8 ?_
    refine j_iconst (pc := 9) h dX8_block_9 ic_0 ?_
    refine j_aload0 (pc := 10) h dX8_block_10 ?_
    refine j_getf (pc := 11) h dX8_block_11 (f20) fl_X8_24 rfl ?_
    refine j_iload1 (pc := 14) h dX8_block_14 ?_
    refine j_iald (pc := 15) h dX8_block_15 (f24) (by omega) (by decide) ?_
    refine j_iconst (pc := 16) h dX8_block_16 ic_1 ?_
    refine j_isub (pc := 17) h dX8_block_17 ?_
    refine j_callSr (pc := 18) h dX8_block_18 (k_X8_in) ms_X8_73 rfl rfl (by decide) (Nat.le_of_ble_eq_true rfl) (Nat.le_of_ble_eq_true rfl) (Nat.le_of_ble_eq_true rfl) ?_
    refine j_if_eqB (pc := 21) (tgt := 38) h dX8_block_21 (by decide) (fun c21 => ?_) (fun c21 => absurd c21 (by rw [rng_n (by omega)]; rw [c5] at hh; simpa using hh))
    refine j_iconst (pc := 38) h dX8_block_38 ic_m1 ?_
    refine j_iretr (pc := 39) h dX8_block_39 (rfl)
theorem k_X8_block {i p : Nat} (m : MW g ad σ τ C) (hI : Inv σ) (hi : i < σ.nfl) (hl : lv σ i = true) (hp : p < σ.ln i) : Cr l g yX8_block cX8_block 3 (some .int) 3 [.ref (ad 20), .int (nI i), .int (nI p)] ad C (.int (rI (σ.rb (60 * i + p)))) := by
  obtain ⟨f20, f21, f22, f23, f24, f25, f26, f27, f28, f29, f30, f31, f32, f33, f34, f35, f36, f37, f38⟩ := id m
  obtain ⟨hf1, hf2, hfl, hnn, hnm, hno, hc1, hc2⟩ := id hI.le
  have hln := (hI.fil i hi).1
  refine Ct_of [some (.ref (ad 20)), some (.int (nI i)), some (.int (nI p))] (by decide) rfl rfl (Nat.le_of_ble_eq_true rfl) rfl rfl (fun X hX h => ?_)
  subst hX
  refine j_aload0 (pc := 0) h dX8_block_0 ?_
  refine j_iload1 (pc := 1) h dX8_block_1 ?_
  refine j_callVr (pc := 2) h dX8_block_2 (k_X8_isFile m hI hi) mv_X8_109 (f20) rfl rfl (by decide) (Nat.le_of_ble_eq_true rfl) (Nat.le_of_ble_eq_true rfl) (Nat.le_of_ble_eq_true rfl) ?_
  refine j_if_eqB (pc := 5) (tgt := 38) h dX8_block_5 (by decide) (fun c5 => absurd c5 (by rw [hl]; decide)) (fun c5 => ?_)
  refine j_iload2 (pc := 8) h dX8_block_8 ?_
  refine j_iconst (pc := 9) h dX8_block_9 ic_0 ?_
  refine j_aload0 (pc := 10) h dX8_block_10 ?_
  refine j_getf (pc := 11) h dX8_block_11 (f20) fl_X8_24 rfl ?_
  refine j_iload1 (pc := 14) h dX8_block_14 ?_
  refine j_iald (pc := 15) h dX8_block_15 (f24) (by omega) (by decide) ?_
  refine j_iconst (pc := 16) h dX8_block_16 ic_1 ?_
  refine j_isub (pc := 17) h dX8_block_17 ?_
  refine j_callSr (pc := 18) h dX8_block_18 (k_X8_in) ms_X8_73 rfl rfl (by decide) (Nat.le_of_ble_eq_true rfl) (Nat.le_of_ble_eq_true rfl) (Nat.le_of_ble_eq_true rfl) ?_
  refine j_if_eqB (pc := 21) (tgt := 38) h dX8_block_21 (by decide) (fun c21 => absurd c21 (by rw [rng_n (by omega), inN_nI (by omega)]; simp; omega)) (fun c21 => ?_)
  refine j_aload0 (pc := 24) h dX8_block_24 ?_
  refine j_getf (pc := 25) h dX8_block_25 (f20) fl_X8_27 rfl ?_
  refine j_bipush (pc := 28) h dX8_block_28 bp_60 ?_
  refine j_iload1 (pc := 30) h dX8_block_30 ?_
  refine j_imulN (pc := 31) h dX8_block_31 ?_
  refine j_iload2 (pc := 32) h dX8_block_32 ?_
  refine j_iaddN (pc := 33) h dX8_block_33 ?_
  refine j_iald (pc := 34) h dX8_block_34 (f25) (by omega) (by decide) ?_
  refine j_goto (pc := 35) (tgt := 39) h dX8_block_35 (by decide) ?_
  refine j_iretr (pc := 39) h dX8_block_39 (rfl)
theorem k_X8_isIn {i t : Nat} (m : MW g ad σ τ C) (hI : Inv σ) (hi : i < σ.nfl) (ht : t < σ.nf) : Cr l g yX8_isIn cX8_isIn 4 (some .boolean) 2 [.ref (ad 20), .int (nI i), .int (nI t)] ad C (.int (bI (isn σ i t))) := by
  obtain ⟨f20, f21, f22, f23, f24, f25, f26, f27, f28, f29, f30, f31, f32, f33, f34, f35, f36, f37, f38⟩ := id m
  obtain ⟨hf1, hf2, hfl, hnn, hnm, hno, hc1, hc2⟩ := id hI.le
  refine Ct_of [some (.ref (ad 20)), some (.int (nI i)), some (.int (nI t)), none] (by decide) rfl rfl (Nat.le_of_ble_eq_true rfl) rfl rfl (fun X hX h => ?_)
  subst hX
  have lp : ∀ n k, k + n = σ.nn → (∀ q, q < k → (σ.tb q && σ.fl q == i && anc σ.pr 29 (σ.ni q) t) = false) → J X g 4 (QR X g ad C (.int (bI (isn σ i t)))) 0 0 ad C 2 [some (.ref (ad 20)), some (.int (nI i)), some (.int (nI t)), some (.int (nI k))] [] := by
    intro n
    induction n with
    | zero =>
      intro k hk hno
      refine j_iload3 (pc := 2) h dX8_isIn_2 ?_
      refine j_aload0 (pc := 3) h dX8_isIn_3 ?_
      refine j_getf (pc := 4) h dX8_isIn_4 (f20) fl_X8_88 rfl ?_
      refine j_icmp_ge (pc := 7) (tgt := 51) h dX8_isIn_7 (by decide) (fun c7 => ?_) (fun c7 => absurd (nI_le (by omega) (by omega)) c7)
      refine j_iconst (pc := 51) h dX8_isIn_51 ic_0 ?_
      refine j_zretr (pc := 52) h dX8_isIn_52 (by decide) (bI_f (anyN_no (fun q hq => hno q (by omega))))
    | succ n ih =>
      intro k hk hno
      obtain ⟨hfk, hnk⟩ := hI.nam k (by omega)
      have nx : (σ.tb k && σ.fl k == i && anc σ.pr 29 (σ.ni k) t) = false → J X g 4 (QR X g ad C (.int (bI (isn σ i t)))) 0 0 ad C 45 [some (.ref (ad 20)), some (.int (nI i)), some (.int (nI t)), some (.int (nI k))] [] := by
        intro hf
        refine j_iinc3 (pc := 45) h dX8_isIn_45 rfl (inc_n _) ?_
        refine j_goto (pc := 48) (tgt := 2) h dX8_isIn_48 (by decide) ?_
        exact ih (k + 1) (by omega) (lt_s hno hf)
      refine j_iload3 (pc := 2) h dX8_isIn_2 ?_
      refine j_aload0 (pc := 3) h dX8_isIn_3 ?_
      refine j_getf (pc := 4) h dX8_isIn_4 (f20) fl_X8_88 rfl ?_
      refine j_icmp_ge (pc := 7) (tgt := 51) h dX8_isIn_7 (by decide) (fun c7 => absurd c7 (nI_ge (by omega) (by omega))) (fun c7 => ?_)
      refine j_aload0 (pc := 10) h dX8_isIn_10 ?_
      refine j_getf (pc := 11) h dX8_isIn_11 (f20) fl_X8_45 rfl ?_
      refine j_iload3 (pc := 14) h dX8_isIn_14 ?_
      refine j_zald (pc := 15) h dX8_isIn_15 (f31) (by omega) (by decide) ?_
      refine j_if_eq (pc := 16) (tgt := 45) h dX8_isIn_16 (by decide) (fun c16 => ?_) (fun c16 => ?_)
      · exact nx (by simp [bI_0.mp c16])
      · refine j_aload0 (pc := 19) h dX8_isIn_19 ?_
        refine j_getf (pc := 20) h dX8_isIn_20 (f20) fl_X8_39 rfl ?_
        refine j_iload3 (pc := 23) h dX8_isIn_23 ?_
        refine j_iald (pc := 24) h dX8_isIn_24 (f29) (by omega) (by decide) ?_
        refine j_iload1 (pc := 25) h dX8_isIn_25 ?_
        refine j_icmp_ne (pc := 26) (tgt := 45) h dX8_isIn_26 (by decide) (fun c26 => ?_) (fun c26 => ?_)
        · exact nx (by have : ¬ σ.fl k = i := (fun q => c26 (by rw [q])); simp [this])
        · have hq := nI_inj c26 (by omega) (by omega)
          refine j_aload0 (pc := 29) h dX8_isIn_29 ?_
          refine j_aload0 (pc := 30) h dX8_isIn_30 ?_
          refine j_getf (pc := 31) h dX8_isIn_31 (f20) fl_X8_42 rfl ?_
          refine j_iload3 (pc := 34) h dX8_isIn_34 ?_
          refine j_iald (pc := 35) h dX8_isIn_35 (f30) (by omega) (by decide) ?_
          refine j_iload2 (pc := 36) h dX8_isIn_36 ?_
          refine j_callVr (pc := 37) h dX8_isIn_37 (k_X8_isOf m hI hnk ht) mv_X8_84 (f20) rfl rfl (by decide) (Nat.le_of_ble_eq_true rfl) (Nat.le_of_ble_eq_true rfl) (Nat.le_of_ble_eq_true rfl) ?_
          refine j_if_eqB (pc := 40) (tgt := 45) h dX8_isIn_40 (by decide) (fun c40 => ?_) (fun c40 => ?_)
          · exact nx (by rw [c40]; simp)
          · refine j_iconst (pc := 43) h dX8_isIn_43 ic_1 ?_
            refine j_zretr (pc := 44) h dX8_isIn_44 (by decide) (bI_t (anyN_yes (k := k) (by omega) (by simp [bI_n0 c16, hq, c40])))
  refine j_iconst (pc := 0) h dX8_isIn_0 ic_0 ?_
  refine j_istore3 (pc := 1) h dX8_isIn_1 rfl ?_
  exact lp σ.nn 0 (by omega) lt_0
theorem k_X8_hasOutside {i t : Nat} (m : MW g ad σ τ C) (hI : Inv σ) (hi : i < σ.nfl) (ht : t < σ.nf) : Cr l g yX8_hasOutside cX8_hasOutside 4 (some .boolean) 2 [.ref (ad 20), .int (nI i), .int (nI t)] ad C (.int (bI (iso σ i t))) := by
  obtain ⟨f20, f21, f22, f23, f24, f25, f26, f27, f28, f29, f30, f31, f32, f33, f34, f35, f36, f37, f38⟩ := id m
  obtain ⟨hf1, hf2, hfl, hnn, hnm, hno, hc1, hc2⟩ := id hI.le
  refine Ct_of [some (.ref (ad 20)), some (.int (nI i)), some (.int (nI t)), none] (by decide) rfl rfl (Nat.le_of_ble_eq_true rfl) rfl rfl (fun X hX h => ?_)
  subst hX
  have lp : ∀ n k, k + n = σ.nn → (∀ q, q < k → (σ.tb q && σ.fl q == i && !anc σ.pr 29 (σ.ni q) t) = false) → J X g 4 (QR X g ad C (.int (bI (iso σ i t)))) 0 0 ad C 2 [some (.ref (ad 20)), some (.int (nI i)), some (.int (nI t)), some (.int (nI k))] [] := by
    intro n
    induction n with
    | zero =>
      intro k hk hno
      refine j_iload3 (pc := 2) h dX8_hasOutside_2 ?_
      refine j_aload0 (pc := 3) h dX8_hasOutside_3 ?_
      refine j_getf (pc := 4) h dX8_hasOutside_4 (f20) fl_X8_88 rfl ?_
      refine j_icmp_ge (pc := 7) (tgt := 51) h dX8_hasOutside_7 (by decide) (fun c7 => ?_) (fun c7 => absurd (nI_le (by omega) (by omega)) c7)
      refine j_iconst (pc := 51) h dX8_hasOutside_51 ic_0 ?_
      refine j_zretr (pc := 52) h dX8_hasOutside_52 (by decide) (bI_f (anyN_no (fun q hq => hno q (by omega))))
    | succ n ih =>
      intro k hk hno
      obtain ⟨hfk, hnk⟩ := hI.nam k (by omega)
      have nx : (σ.tb k && σ.fl k == i && !anc σ.pr 29 (σ.ni k) t) = false → J X g 4 (QR X g ad C (.int (bI (iso σ i t)))) 0 0 ad C 45 [some (.ref (ad 20)), some (.int (nI i)), some (.int (nI t)), some (.int (nI k))] [] := by
        intro hf
        refine j_iinc3 (pc := 45) h dX8_hasOutside_45 rfl (inc_n _) ?_
        refine j_goto (pc := 48) (tgt := 2) h dX8_hasOutside_48 (by decide) ?_
        exact ih (k + 1) (by omega) (lt_s hno hf)
      refine j_iload3 (pc := 2) h dX8_hasOutside_2 ?_
      refine j_aload0 (pc := 3) h dX8_hasOutside_3 ?_
      refine j_getf (pc := 4) h dX8_hasOutside_4 (f20) fl_X8_88 rfl ?_
      refine j_icmp_ge (pc := 7) (tgt := 51) h dX8_hasOutside_7 (by decide) (fun c7 => absurd c7 (nI_ge (by omega) (by omega))) (fun c7 => ?_)
      refine j_aload0 (pc := 10) h dX8_hasOutside_10 ?_
      refine j_getf (pc := 11) h dX8_hasOutside_11 (f20) fl_X8_45 rfl ?_
      refine j_iload3 (pc := 14) h dX8_hasOutside_14 ?_
      refine j_zald (pc := 15) h dX8_hasOutside_15 (f31) (by omega) (by decide) ?_
      refine j_if_eq (pc := 16) (tgt := 45) h dX8_hasOutside_16 (by decide) (fun c16 => ?_) (fun c16 => ?_)
      · exact nx (by simp [bI_0.mp c16])
      · refine j_aload0 (pc := 19) h dX8_hasOutside_19 ?_
        refine j_getf (pc := 20) h dX8_hasOutside_20 (f20) fl_X8_39 rfl ?_
        refine j_iload3 (pc := 23) h dX8_hasOutside_23 ?_
        refine j_iald (pc := 24) h dX8_hasOutside_24 (f29) (by omega) (by decide) ?_
        refine j_iload1 (pc := 25) h dX8_hasOutside_25 ?_
        refine j_icmp_ne (pc := 26) (tgt := 45) h dX8_hasOutside_26 (by decide) (fun c26 => ?_) (fun c26 => ?_)
        · exact nx (by have : ¬ σ.fl k = i := (fun q => c26 (by rw [q])); simp [this])
        · have hq := nI_inj c26 (by omega) (by omega)
          refine j_aload0 (pc := 29) h dX8_hasOutside_29 ?_
          refine j_aload0 (pc := 30) h dX8_hasOutside_30 ?_
          refine j_getf (pc := 31) h dX8_hasOutside_31 (f20) fl_X8_42 rfl ?_
          refine j_iload3 (pc := 34) h dX8_hasOutside_34 ?_
          refine j_iald (pc := 35) h dX8_hasOutside_35 (f30) (by omega) (by decide) ?_
          refine j_iload2 (pc := 36) h dX8_hasOutside_36 ?_
          refine j_callVr (pc := 37) h dX8_hasOutside_37 (k_X8_isOf m hI hnk ht) mv_X8_84 (f20) rfl rfl (by decide) (Nat.le_of_ble_eq_true rfl) (Nat.le_of_ble_eq_true rfl) (Nat.le_of_ble_eq_true rfl) ?_
          refine j_if_neB (pc := 40) (tgt := 45) h dX8_hasOutside_40 (by decide) (fun c40 => ?_) (fun c40 => ?_)
          · exact nx (by rw [c40]; simp)
          · refine j_iconst (pc := 43) h dX8_hasOutside_43 ic_1 ?_
            refine j_zretr (pc := 44) h dX8_hasOutside_44 (by decide) (bI_t (anyN_yes (k := k) (by omega) (by simp [bI_n0 c16, hq, c40])))
  refine j_iconst (pc := 0) h dX8_hasOutside_0 ic_0 ?_
  refine j_istore3 (pc := 1) h dX8_hasOutside_1 rfl ?_
  exact lp σ.nn 0 (by omega) lt_0
theorem k_X8_taken {t : Nat} (m : MW g ad σ τ C) (hI : Inv σ) (ht : t < σ.nf) : Cr l g yX8_taken cX8_taken 5 (some .int) 3 [.ref (ad 20), .int (nI t)] ad C (.int (nI (tkS σ t))) := by
  obtain ⟨f20, f21, f22, f23, f24, f25, f26, f27, f28, f29, f30, f31, f32, f33, f34, f35, f36, f37, f38⟩ := id m
  obtain ⟨hf1, hf2, hfl, hnn, hnm, hno, hc1, hc2⟩ := id hI.le
  refine Ct_of [some (.ref (ad 20)), some (.int (nI t)), none, none, none] (by decide) rfl rfl (Nat.le_of_ble_eq_true rfl) rfl rfl (fun X hX h => ?_)
  subst hX
  have lp : ∀ n i, i + n = σ.nfl → J X g 5 (QR X g ad C (.int (nI (tkS σ t)))) 0 0 ad C 5 [some (.ref (ad 20)), some (.int (nI t)), some (.long (orr (fun i => if isn σ i t = true then bk σ i else 0) i)), none, some (.int (nI i))] [] := by
    intro n
    induction n with
    | zero =>
      intro i hi
      obtain rfl : i = σ.nfl := by omega
      refine j_iload4 (pc := 5) h dX8_taken_5 ?_
      refine j_aload0 (pc := 7) h dX8_taken_7 ?_
      refine j_getf (pc := 8) h dX8_taken_8 (f20) fl_X8_91 rfl ?_
      refine j_icmp_ge (pc := 11) (tgt := 39) h dX8_taken_11 (by decide) (fun c11 => ?_) (fun c11 => absurd (nI_le (by omega) (by omega)) c11)
      refine j_lload2 (pc := 39) h dX8_taken_39 ?_
      refine j_callSr (pc := 40) h dX8_taken_40 (k_X8_bits' (lo60_tk hI t)) ms_X8_126 rfl rfl (by decide) (Nat.le_of_ble_eq_true rfl) (Nat.le_of_ble_eq_true rfl) (Nat.le_of_ble_eq_true rfl) ?_
      refine j_iretr (pc := 43) h dX8_taken_43 (rfl)
    | succ n ih =>
      intro i hi
      refine j_iload4 (pc := 5) h dX8_taken_5 ?_
      refine j_aload0 (pc := 7) h dX8_taken_7 ?_
      refine j_getf (pc := 8) h dX8_taken_8 (f20) fl_X8_91 rfl ?_
      refine j_icmp_ge (pc := 11) (tgt := 39) h dX8_taken_11 (by decide) (fun c11 => absurd c11 (nI_ge (by omega) (by omega))) (fun c11 => ?_)
      refine j_aload0 (pc := 14) h dX8_taken_14 ?_
      refine j_iload4 (pc := 15) h dX8_taken_15 ?_
      refine j_iload1 (pc := 17) h dX8_taken_17 ?_
      refine j_callVr (pc := 18) h dX8_taken_18 (k_X8_isIn m hI (by omega) ht) mv_X8_137 (f20) rfl rfl (by decide) (Nat.le_of_ble_eq_true rfl) (Nat.le_of_ble_eq_true rfl) (Nat.le_of_ble_eq_true rfl) ?_
      refine j_if_eqB (pc := 21) (tgt := 33) h dX8_taken_21 (by decide) (fun c21 => ?_) (fun c21 => ?_)
      · refine j_iinc4 (pc := 33) h dX8_taken_33 rfl (inc_n _) ?_
        refine j_goto (pc := 36) (tgt := 5) h dX8_taken_36 (by decide) ?_
        rw [show orr (fun i => if isn σ i t = true then bk σ i else 0) i = orr (fun i => if isn σ i t = true then bk σ i else 0) (i + 1) from orr_no (by simp [c21])]
        exact ih (i + 1) (by omega)
      · refine j_lload2 (pc := 24) h dX8_taken_24 ?_
        refine j_aload0 (pc := 25) h dX8_taken_25 ?_
        refine j_iload4 (pc := 26) h dX8_taken_26 ?_
        refine j_callVr (pc := 28) h dX8_taken_28 (k_X8_blocksOf m hI (by omega)) mv_X8_112 (f20) rfl rfl (by decide) (Nat.le_of_ble_eq_true rfl) (Nat.le_of_ble_eq_true rfl) (Nat.le_of_ble_eq_true rfl) ?_
        refine j_lor (pc := 31) h dX8_taken_31 ?_
        refine j_lstore2 (pc := 32) h dX8_taken_32 rfl ?_
        refine j_iinc4 (pc := 33) h dX8_taken_33 rfl (inc_n _) ?_
        refine j_goto (pc := 36) (tgt := 5) h dX8_taken_36 (by decide) ?_
        rw [show orr (fun i => if isn σ i t = true then bk σ i else 0) i ||| bk σ i = orr (fun i => if isn σ i t = true then bk σ i else 0) (i + 1) from by rw [orr, if_pos c21]]
        exact ih (i + 1) (by omega)
  refine j_lconst (pc := 0) h dX8_taken_0 lc_0 ?_
  refine j_lstore2 (pc := 1) h dX8_taken_1 rfl ?_
  refine j_iconst (pc := 2) h dX8_taken_2 ic_0 ?_
  refine j_istore4 (pc := 3) h dX8_taken_3 rfl ?_
  exact lp σ.nfl 0 (by omega)
theorem k_X8_isSnapshot_no {x : Int32} (m : MW g ad σ τ C) (hx : inN x 8 = false) : Cr l g yX8_isSnapshot cX8_isSnapshot 2 (some .boolean) 2 [.ref (ad 20), .int x] ad C (.int (bI false)) := by
  refine Ct_of [some (.ref (ad 20)), some (.int x)] (by decide) rfl rfl (Nat.le_of_ble_eq_true rfl) rfl rfl (fun X hX h => ?_)
  subst hX
  refine j_iload1 (pc := 0) h dX8_isSnapshot_0 ?_
  refine j_iconst (pc := 1) h dX8_isSnapshot_1 ic_0 ?_
  refine j_bipush (pc := 2) h dX8_isSnapshot_2 bp_7 ?_
  refine j_callSr (pc := 4) h dX8_isSnapshot_4 (k_X8_in) ms_X8_73 rfl rfl (by decide) (Nat.le_of_ble_eq_true rfl) (Nat.le_of_ble_eq_true rfl) (Nat.le_of_ble_eq_true rfl) ?_
  refine j_if_eqB (pc := 7) (tgt := 23) h dX8_isSnapshot_7 (by decide) (fun c7 => ?_) (fun c7 => absurd c7 (by rw [show nI 7 = nI 8 - nI 1 from rfl, rng_n (by decide), hx]; decide))
  refine j_iconst (pc := 23) h dX8_isSnapshot_23 ic_0 ?_
  refine j_zretr (pc := 24) h dX8_isSnapshot_24 (by decide) (rfl)
theorem k_X8_isSnapshot {i : Nat} (m : MW g ad σ τ C) (hI : Inv σ) (hi : i < 8) : Cr l g yX8_isSnapshot cX8_isSnapshot 2 (some .boolean) 2 [.ref (ad 20), .int (nI i)] ad C (.int (bI (σ.sb i))) := by
  obtain ⟨f20, f21, f22, f23, f24, f25, f26, f27, f28, f29, f30, f31, f32, f33, f34, f35, f36, f37, f38⟩ := id m
  obtain ⟨hf1, hf2, hfl, hnn, hnm, hno, hc1, hc2⟩ := id hI.le
  refine Ct_of [some (.ref (ad 20)), some (.int (nI i))] (by decide) rfl rfl (Nat.le_of_ble_eq_true rfl) rfl rfl (fun X hX h => ?_)
  subst hX
  refine j_iload1 (pc := 0) h dX8_isSnapshot_0 ?_
  refine j_iconst (pc := 1) h dX8_isSnapshot_1 ic_0 ?_
  refine j_bipush (pc := 2) h dX8_isSnapshot_2 bp_7 ?_
  refine j_callSr (pc := 4) h dX8_isSnapshot_4 (k_X8_in) ms_X8_73 rfl rfl (by decide) (Nat.le_of_ble_eq_true rfl) (Nat.le_of_ble_eq_true rfl) (Nat.le_of_ble_eq_true rfl) ?_
  refine j_if_eqB (pc := 7) (tgt := 23) h dX8_isSnapshot_7 (by decide) (fun c7 => absurd c7 (by rw [show nI 7 = nI 8 - nI 1 from rfl, rng_n (by decide), inN_nI (by omega)]; simp; omega)) (fun c7 => ?_)
  refine j_aload0 (pc := 10) h dX8_isSnapshot_10 ?_
  refine j_getf (pc := 11) h dX8_isSnapshot_11 (f20) fl_X8_48 rfl ?_
  refine j_iload1 (pc := 14) h dX8_isSnapshot_14 ?_
  refine j_zald (pc := 15) h dX8_isSnapshot_15 (f32) (by omega) (by decide) ?_
  refine j_if_eq (pc := 16) (tgt := 23) h dX8_isSnapshot_16 (by decide) (fun c16 => ?_) (fun c16 => ?_)
  · refine j_iconst (pc := 23) h dX8_isSnapshot_23 ic_0 ?_
    refine j_zretr (pc := 24) h dX8_isSnapshot_24 (by decide) (bI_f (bI_0.mp c16))
  · refine j_iconst (pc := 19) h dX8_isSnapshot_19 ic_1 ?_
    refine j_goto (pc := 20) (tgt := 24) h dX8_isSnapshot_20 (by decide) ?_
    refine j_zretr (pc := 24) h dX8_isSnapshot_24 (by decide) (bI_t (bI_n0 c16))
end MR
end
