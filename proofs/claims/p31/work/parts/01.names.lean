-- ===== PART A: goes FIRST, ahead of the names: the tables' words, and 'selects' of the private methods out of them =====
/-- a private method of a class that the tables say can be made, by its rows of tables_1 -/
def lw_okq (q : MethodName × Nat) : Prop := (q.1.cls ≠ "java/lang/invoke/MethodHandle" ∧ q.1.cls ≠ "java/lang/invoke/VarHandle") ∧ Cond.instantiable q.1.cls q.2 ∈ tables_1 ∧ Cond.privateMethod q.1 ∈ tables_1 ∧ Cond.instanceMethod q.1 ∈ tables_1
theorem lw_p0 : lw_okq (⟨"SubtitleStyles$History", "stateAt", "(I)LSubtitleStyles$Screen;"⟩, 3) := ⟨⟨by decide +kernel, by decide +kernel⟩, List.mem_of_getElem? (i := 114) (by decide +kernel), List.mem_of_getElem? (i := 253) (by decide +kernel), List.mem_of_getElem? (i := 254) (by decide +kernel)⟩
theorem lw_p1 : lw_okq (⟨"SubtitleStyles$Look", "holdStyle", "(ILSubtitleStyles$Sheet;)V"⟩, 12) := ⟨⟨by decide +kernel, by decide +kernel⟩, List.mem_of_getElem? (i := 141) (by decide +kernel), List.mem_of_getElem? (i := 320) (by decide +kernel), List.mem_of_getElem? (i := 321) (by decide +kernel)⟩
theorem lw_p2 : lw_okq (⟨"SubtitleStyles$Look", "addSign", "(I)V"⟩, 12) := ⟨⟨by decide +kernel, by decide +kernel⟩, List.mem_of_getElem? (i := 141) (by decide +kernel), List.mem_of_getElem? (i := 326) (by decide +kernel), List.mem_of_getElem? (i := 327) (by decide +kernel)⟩
theorem lw_p3 : lw_okq (⟨"SubtitleStyles$Look", "addSyllable", "(I)V"⟩, 12) := ⟨⟨by decide +kernel, by decide +kernel⟩, List.mem_of_getElem? (i := 141) (by decide +kernel), List.mem_of_getElem? (i := 333) (by decide +kernel), List.mem_of_getElem? (i := 334) (by decide +kernel)⟩
theorem lw_p4 : lw_okq (⟨"SubtitleStyles$Picture", "sortByBeginnings", "()V"⟩, 3) := ⟨⟨by decide +kernel, by decide +kernel⟩, List.mem_of_getElem? (i := 134) (by decide +kernel), List.mem_of_getElem? (i := 340) (by decide +kernel), List.mem_of_getElem? (i := 341) (by decide +kernel)⟩
theorem lw_p5 : lw_okq (⟨"SubtitleStyles$Picture", "freeOffset", "(LSubtitleStyles$Look;I)I"⟩, 3) := ⟨⟨by decide +kernel, by decide +kernel⟩, List.mem_of_getElem? (i := 134) (by decide +kernel), List.mem_of_getElem? (i := 350) (by decide +kernel), List.mem_of_getElem? (i := 351) (by decide +kernel)⟩
theorem lw_p6 : lw_okq (⟨"SubtitleStyles$Reader", "take", "(II)V"⟩, 8) := ⟨⟨by decide +kernel, by decide +kernel⟩, List.mem_of_getElem? (i := 32) (by decide +kernel), List.mem_of_getElem? (i := 429) (by decide +kernel), List.mem_of_getElem? (i := 430) (by decide +kernel)⟩
theorem lw_p7 : lw_okq (⟨"SubtitleStyles$Reader", "takeOutside", "(I)V"⟩, 8) := ⟨⟨by decide +kernel, by decide +kernel⟩, List.mem_of_getElem? (i := 32) (by decide +kernel), List.mem_of_getElem? (i := 433) (by decide +kernel), List.mem_of_getElem? (i := 434) (by decide +kernel)⟩
theorem lw_p8 : lw_okq (⟨"SubtitleStyles$Reader", "addItem", "(II)V"⟩, 8) := ⟨⟨by decide +kernel, by decide +kernel⟩, List.mem_of_getElem? (i := 32) (by decide +kernel), List.mem_of_getElem? (i := 437) (by decide +kernel), List.mem_of_getElem? (i := 438) (by decide +kernel)⟩
theorem lw_p9 : lw_okq (⟨"SubtitleStyles$Reader", "takeLetter", "(II)V"⟩, 8) := ⟨⟨by decide +kernel, by decide +kernel⟩, List.mem_of_getElem? (i := 32) (by decide +kernel), List.mem_of_getElem? (i := 442) (by decide +kernel), List.mem_of_getElem? (i := 443) (by decide +kernel)⟩
theorem lw_p10 : lw_okq (⟨"SubtitleStyles$Reader", "closeTag", "(I)V"⟩, 8) := ⟨⟨by decide +kernel, by decide +kernel⟩, List.mem_of_getElem? (i := 32) (by decide +kernel), List.mem_of_getElem? (i := 447) (by decide +kernel), List.mem_of_getElem? (i := 448) (by decide +kernel)⟩
theorem lw_p11 : lw_okq (⟨"SubtitleStyles$Reader", "isInRange", "()Z"⟩, 8) := ⟨⟨by decide +kernel, by decide +kernel⟩, List.mem_of_getElem? (i := 32) (by decide +kernel), List.mem_of_getElem? (i := 451) (by decide +kernel), List.mem_of_getElem? (i := 452) (by decide +kernel)⟩
theorem lw_p12 : lw_okq (⟨"SubtitleStyles", "isChange", "(II)Z"⟩, 8) := ⟨⟨by decide +kernel, by decide +kernel⟩, List.mem_of_getElem? (i := 13) (by decide +kernel), List.mem_of_getElem? (i := 532) (by decide +kernel), List.mem_of_getElem? (i := 533) (by decide +kernel)⟩
theorem lw_p13 : lw_okq (⟨"SubtitleStyles$Look", "isUnlike", "(ILSubtitleStyles$Look;)Z"⟩, 12) := ⟨⟨by decide +kernel, by decide +kernel⟩, List.mem_of_getElem? (i := 141) (by decide +kernel), List.mem_of_getElem? (i := 638) (by decide +kernel), List.mem_of_getElem? (i := 639) (by decide +kernel)⟩
theorem lw_p14 : lw_okq (⟨"SubtitleStyles", "mixStyle", "(JI)J"⟩, 8) := ⟨⟨by decide +kernel, by decide +kernel⟩, List.mem_of_getElem? (i := 13) (by decide +kernel), List.mem_of_getElem? (i := 660) (by decide +kernel), List.mem_of_getElem? (i := 661) (by decide +kernel)⟩
theorem lw_p15 : lw_okq (⟨"SubtitleStyles", "mixLine", "(JI)J"⟩, 8) := ⟨⟨by decide +kernel, by decide +kernel⟩, List.mem_of_getElem? (i := 13) (by decide +kernel), List.mem_of_getElem? (i := 667) (by decide +kernel), List.mem_of_getElem? (i := 668) (by decide +kernel)⟩
def lw_privs_1 : List (MethodName × Nat) := [(⟨"SubtitleStyles$History", "stateAt", "(I)LSubtitleStyles$Screen;"⟩, 3), (⟨"SubtitleStyles$Look", "holdStyle", "(ILSubtitleStyles$Sheet;)V"⟩, 12), (⟨"SubtitleStyles$Look", "addSign", "(I)V"⟩, 12), (⟨"SubtitleStyles$Look", "addSyllable", "(I)V"⟩, 12), (⟨"SubtitleStyles$Picture", "sortByBeginnings", "()V"⟩, 3), (⟨"SubtitleStyles$Picture", "freeOffset", "(LSubtitleStyles$Look;I)I"⟩, 3), (⟨"SubtitleStyles$Reader", "take", "(II)V"⟩, 8), (⟨"SubtitleStyles$Reader", "takeOutside", "(I)V"⟩, 8), (⟨"SubtitleStyles$Reader", "addItem", "(II)V"⟩, 8), (⟨"SubtitleStyles$Reader", "takeLetter", "(II)V"⟩, 8), (⟨"SubtitleStyles$Reader", "closeTag", "(I)V"⟩, 8), (⟨"SubtitleStyles$Reader", "isInRange", "()Z"⟩, 8), (⟨"SubtitleStyles", "isChange", "(II)Z"⟩, 8), (⟨"SubtitleStyles$Look", "isUnlike", "(ILSubtitleStyles$Look;)Z"⟩, 12), (⟨"SubtitleStyles", "mixStyle", "(JI)J"⟩, 8), (⟨"SubtitleStyles", "mixLine", "(JI)J"⟩, 8)]
theorem lw_r1 : ∀ q ∈ lw_privs_1, lw_okq q := List.forall_mem_cons.mpr ⟨lw_p0, List.forall_mem_cons.mpr ⟨lw_p1, List.forall_mem_cons.mpr ⟨lw_p2, List.forall_mem_cons.mpr ⟨lw_p3, List.forall_mem_cons.mpr ⟨lw_p4, List.forall_mem_cons.mpr ⟨lw_p5, List.forall_mem_cons.mpr ⟨lw_p6, List.forall_mem_cons.mpr ⟨lw_p7, List.forall_mem_cons.mpr ⟨lw_p8, List.forall_mem_cons.mpr ⟨lw_p9, List.forall_mem_cons.mpr ⟨lw_p10, List.forall_mem_cons.mpr ⟨lw_p11, List.forall_mem_cons.mpr ⟨lw_p12, List.forall_mem_cons.mpr ⟨lw_p13, List.forall_mem_cons.mpr ⟨lw_p14, List.forall_mem_cons.mpr ⟨lw_p15, fun _ h => absurd h List.not_mem_nil⟩⟩⟩⟩⟩⟩⟩⟩⟩⟩⟩⟩⟩⟩⟩⟩
theorem lw_p16 : lw_okq (⟨"SubtitleStyles$Picture", "comesBefore", "(II)Z"⟩, 3) := ⟨⟨by decide +kernel, by decide +kernel⟩, List.mem_of_getElem? (i := 134) (by decide +kernel), List.mem_of_getElem? (i := 724) (by decide +kernel), List.mem_of_getElem? (i := 725) (by decide +kernel)⟩
def lw_privs_2 : List (MethodName × Nat) := [(⟨"SubtitleStyles$Picture", "comesBefore", "(II)Z"⟩, 3)]
theorem lw_r2 : ∀ q ∈ lw_privs_2, lw_okq q := List.forall_mem_cons.mpr ⟨lw_p16, fun _ h => absurd h List.not_mem_nil⟩
def lw_privs : List (MethodName × Nat) := lw_privs_1 ++ (lw_privs_2)
def lw_tbl : List Cond := k2_sels lw_privs ++ tables_1
theorem lw_privs_ok : ∀ q ∈ lw_privs, lw_okq q := by
  show ∀ q ∈ lw_privs_1 ++ (lw_privs_2), lw_okq q
  exact List.forall_mem_append.mpr ⟨lw_r1, lw_r2⟩
/-- the streams that the claim lets the run draw from -/
abbrev lw_cs : List Choice := [Jvm.Choice.named "NaN.bits"]
theorem lw_bits : nanBits ∈ lw_cs := by first | decide | exact List.mem_cons_self | simp [lw_cs, nanBits]
def RX0 : String := "SubtitleStyles$History"
def TX0 : u_T := fun k => match k with
  | 0 => ("SubtitleStyles$History", "ring", "[LSubtitleStyles$Screen;", true)
  | 1 => ("SubtitleStyles$History", "oldest", "I", false)
  | _ => ("SubtitleStyles$History", "count", "I", false)
def tyX0 : Nat → FieldType := fun k => match k with
  | 0 => .array (.object "SubtitleStyles$Screen")
  | 1 => .int
  | _ => .int
abbrev wsX00 : List Cond := u_ws RX0 TX0 3
theorem nmX0 : ∀ a, a < 3 → ∀ b, b < 3 → a ≠ b → (TX0 a).2.1 ≠ (TX0 b).2.1 := by decide +kernel
theorem tyX0_ok : ∀ k, k < 3 → parseFieldDescriptor (TX0 k).2.2.1 = some (tyX0 k) := by decide +kernel
abbrev cX0_init : ByteArray := prog_2_method_1_code
def yX0_init : MethodName := ⟨RX0, "<init>", "()V"⟩
abbrev cX0_keep : ByteArray := prog_2_method_2_code
def yX0_keep : MethodName := ⟨RX0, "keep", "(LSubtitleStyles$Screen;)V"⟩
abbrev cX0_restore : ByteArray := prog_2_method_3_code
def yX0_restore : MethodName := ⟨RX0, "restore", "(LSubtitleStyles$Screen;)V"⟩
abbrev cX0_stateAt : ByteArray := prog_2_method_4_code
def yX0_stateAt : MethodName := ⟨RX0, "stateAt", "(I)LSubtitleStyles$Screen;"⟩
def RX1 : String := "SubtitleStyles$Line"
def TX1 : u_T := fun k => match k with
  | 0 => ("SubtitleStyles$Line", "begin", "I", true)
  | 1 => ("SubtitleStyles$Line", "end", "I", true)
  | 2 => ("SubtitleStyles$Line", "style", "I", true)
  | 3 => ("SubtitleStyles$Line", "margin", "I", true)
  | _ => ("SubtitleStyles$Line", "text", "LSubtitleStyles$Text;", true)
def tyX1 : Nat → FieldType := fun k => match k with
  | 0 => .int
  | 1 => .int
  | 2 => .int
  | 3 => .int
  | _ => .object "SubtitleStyles$Text"
abbrev wsX10 : List Cond := u_ws RX1 TX1 5
theorem nmX1 : ∀ a, a < 5 → ∀ b, b < 5 → a ≠ b → (TX1 a).2.1 ≠ (TX1 b).2.1 := by decide +kernel
theorem tyX1_ok : ∀ k, k < 5 → parseFieldDescriptor (TX1 k).2.2.1 = some (tyX1 k) := by decide +kernel
abbrev cX1_init : ByteArray := prog_3_method_1_code
def yX1_init : MethodName := ⟨RX1, "<init>", "(IIIILSubtitleStyles$Text;)V"⟩
abbrev cX1_withStyle : ByteArray := prog_3_method_2_code
def yX1_withStyle : MethodName := ⟨RX1, "withStyle", "(I)LSubtitleStyles$Line;"⟩
abbrev cX1_withMargin : ByteArray := prog_3_method_3_code
def yX1_withMargin : MethodName := ⟨RX1, "withMargin", "(I)LSubtitleStyles$Line;"⟩
abbrev cX1_withText : ByteArray := prog_3_method_4_code
def yX1_withText : MethodName := ⟨RX1, "withText", "(LSubtitleStyles$Text;)LSubtitleStyles$Line;"⟩
abbrev cX1_movedBy : ByteArray := prog_3_method_5_code
def yX1_movedBy : MethodName := ⟨RX1, "movedBy", "(I)LSubtitleStyles$Line;"⟩
def RX2 : String := "SubtitleStyles$Look"
def TX2 : u_T := fun k => match k with
  | 0 => ("SubtitleStyles$Look", "begin", "I", false)
  | 1 => ("SubtitleStyles$Look", "end", "I", false)
  | 2 => ("SubtitleStyles$Look", "group", "I", false)
  | 3 => ("SubtitleStyles$Look", "margin", "I", false)
  | 4 => ("SubtitleStyles$Look", "height", "I", false)
  | 5 => ("SubtitleStyles$Look", "offset", "I", false)
  | 6 => ("SubtitleStyles$Look", "signs", "I", false)
  | 7 => ("SubtitleStyles$Look", "signTable", "LSubtitleStyles$Row;", true)
  | 8 => ("SubtitleStyles$Look", "syllables", "I", false)
  | 9 => ("SubtitleStyles$Look", "syllableTable", "LSubtitleStyles$Row;", true)
  | 10 => ("SubtitleStyles$Look", "lasting", "I", false)
  | _ => ("SubtitleStyles$Look", "held", "LSubtitleStyles$Row;", true)
def tyX2 : Nat → FieldType := fun k => match k with
  | 0 => .int
  | 1 => .int
  | 2 => .int
  | 3 => .int
  | 4 => .int
  | 5 => .int
  | 6 => .int
  | 7 => .object "SubtitleStyles$Row"
  | 8 => .int
  | 9 => .object "SubtitleStyles$Row"
  | 10 => .int
  | _ => .object "SubtitleStyles$Row"
abbrev wsX20 : List Cond := u_ws RX2 TX2 12
theorem nmX2 : ∀ a, a < 12 → ∀ b, b < 12 → a ≠ b → (TX2 a).2.1 ≠ (TX2 b).2.1 := by decide +kernel
theorem tyX2_ok : ∀ k, k < 12 → parseFieldDescriptor (TX2 k).2.2.1 = some (tyX2 k) := by decide +kernel
abbrev cX2_init : ByteArray := prog_4_method_1_code
def yX2_init : MethodName := ⟨RX2, "<init>", "()V"⟩
abbrev cX2_read : ByteArray := prog_4_method_2_code
def yX2_read : MethodName := ⟨RX2, "read", "(LSubtitleStyles$Line;LSubtitleStyles$Sheet;)V"⟩
abbrev cX2_holdStyle : ByteArray := prog_4_method_3_code
def yX2_holdStyle : MethodName := ⟨RX2, "holdStyle", "(ILSubtitleStyles$Sheet;)V"⟩
abbrev cX2_addSign : ByteArray := prog_4_method_4_code
def yX2_addSign : MethodName := ⟨RX2, "addSign", "(I)V"⟩
abbrev cX2_addSyllable : ByteArray := prog_4_method_5_code
def yX2_addSyllable : MethodName := ⟨RX2, "addSyllable", "(I)V"⟩
abbrev cX2_hasSign : ByteArray := prog_4_method_6_code
def yX2_hasSign : MethodName := ⟨RX2, "hasSign", "(I)Z"⟩
abbrev cX2_signNumber : ByteArray := prog_4_method_7_code
def yX2_signNumber : MethodName := ⟨RX2, "signNumber", "(II)I"⟩
abbrev cX2_hasSyllable : ByteArray := prog_4_method_8_code
def yX2_hasSyllable : MethodName := ⟨RX2, "hasSyllable", "(I)Z"⟩
abbrev cX2_syllableNumber : ByteArray := prog_4_method_9_code
def yX2_syllableNumber : MethodName := ⟨RX2, "syllableNumber", "(II)I"⟩
abbrev cX2_isShownAt : ByteArray := prog_4_method_10_code
def yX2_isShownAt : MethodName := ⟨RX2, "isShownAt", "(I)Z"⟩
abbrev cX2_isSungAt : ByteArray := prog_4_method_11_code
def yX2_isSungAt : MethodName := ⟨RX2, "isSungAt", "(II)Z"⟩
abbrev cX2_countSungAt : ByteArray := prog_4_method_12_code
def yX2_countSungAt : MethodName := ⟨RX2, "countSungAt", "(I)I"⟩
abbrev cX2_countUnlike : ByteArray := prog_4_method_13_code
def yX2_countUnlike : MethodName := ⟨RX2, "countUnlike", "(LSubtitleStyles$Look;)I"⟩
abbrev cX2_isUnlike : ByteArray := prog_4_method_14_code
def yX2_isUnlike : MethodName := ⟨RX2, "isUnlike", "(ILSubtitleStyles$Look;)Z"⟩
abbrev cX2_blocks : ByteArray := prog_4_method_15_code
def yX2_blocks : MethodName := ⟨RX2, "blocks", "(LSubtitleStyles$Look;I)Z"⟩
abbrev cX2_isAheadOf : ByteArray := prog_4_method_16_code
def yX2_isAheadOf : MethodName := ⟨RX2, "isAheadOf", "(LSubtitleStyles$Look;)Z"⟩
def RX3 : String := "SubtitleStyles$Picture"
def TX3 : u_T := fun k => match k with
  | 0 => ("SubtitleStyles$Picture", "looks", "[LSubtitleStyles$Look;", true)
  | 1 => ("SubtitleStyles$Picture", "count", "I", false)
  | _ => ("SubtitleStyles$Picture", "order", "LSubtitleStyles$Row;", true)
def tyX3 : Nat → FieldType := fun k => match k with
  | 0 => .array (.object "SubtitleStyles$Look")
  | 1 => .int
  | _ => .object "SubtitleStyles$Row"
abbrev wsX30 : List Cond := u_ws RX3 TX3 3
theorem nmX3 : ∀ a, a < 3 → ∀ b, b < 3 → a ≠ b → (TX3 a).2.1 ≠ (TX3 b).2.1 := by decide +kernel
theorem tyX3_ok : ∀ k, k < 3 → parseFieldDescriptor (TX3 k).2.2.1 = some (tyX3 k) := by decide +kernel
abbrev cX3_init : ByteArray := prog_5_method_1_code
def yX3_init : MethodName := ⟨RX3, "<init>", "()V"⟩
abbrev cX3_draw : ByteArray := prog_5_method_2_code
def yX3_draw : MethodName := ⟨RX3, "draw", "(LSubtitleStyles$Screen;)V"⟩
abbrev cX3_lookAt : ByteArray := prog_5_method_3_code
def yX3_lookAt : MethodName := ⟨RX3, "lookAt", "(I)LSubtitleStyles$Look;"⟩
abbrev cX3_beginOf : ByteArray := prog_5_method_4_code
def yX3_beginOf : MethodName := ⟨RX3, "beginOf", "(I)I"⟩
abbrev cX3_sortByBeginnings : ByteArray := prog_5_method_5_code
def yX3_sortByBeginnings : MethodName := ⟨RX3, "sortByBeginnings", "()V"⟩
abbrev cX3_freeOffset : ByteArray := prog_5_method_6_code
def yX3_freeOffset : MethodName := ⟨RX3, "freeOffset", "(LSubtitleStyles$Look;I)I"⟩
abbrev cX3_isShownAt : ByteArray := prog_5_method_7_code
def yX3_isShownAt : MethodName := ⟨RX3, "isShownAt", "(II)Z"⟩
abbrev cX3_countShownAt : ByteArray := prog_5_method_8_code
def yX3_countShownAt : MethodName := ⟨RX3, "countShownAt", "(I)I"⟩
abbrev cX3_countAhead : ByteArray := prog_5_method_9_code
def yX3_countAhead : MethodName := ⟨RX3, "countAhead", "(II)I"⟩
abbrev cX3_comesBefore : ByteArray := prog_5_method_10_code
def yX3_comesBefore : MethodName := ⟨RX3, "comesBefore", "(II)Z"⟩
def RX4 : String := "SubtitleStyles$Reader"
def TX4 : u_T := fun k => match k with
  | 0 => ("SubtitleStyles$Reader", "kinds", "LSubtitleStyles$Row;", true)
  | 1 => ("SubtitleStyles$Reader", "numbers", "LSubtitleStyles$Row;", true)
  | 2 => ("SubtitleStyles$Reader", "size", "I", false)
  | 3 => ("SubtitleStyles$Reader", "misplaced", "I", false)
  | 4 => ("SubtitleStyles$Reader", "outOfRange", "I", false)
  | 5 => ("SubtitleStyles$Reader", "tag", "I", false)
  | 6 => ("SubtitleStyles$Reader", "digits", "I", false)
  | _ => ("SubtitleStyles$Reader", "number", "I", false)
def tyX4 : Nat → FieldType := fun k => match k with
  | 0 => .object "SubtitleStyles$Row"
  | 1 => .object "SubtitleStyles$Row"
  | 2 => .int
  | 3 => .int
  | 4 => .int
  | 5 => .int
  | 6 => .int
  | _ => .int
abbrev wsX40 : List Cond := u_ws RX4 TX4 8
theorem nmX4 : ∀ a, a < 8 → ∀ b, b < 8 → a ≠ b → (TX4 a).2.1 ≠ (TX4 b).2.1 := by decide +kernel
theorem tyX4_ok : ∀ k, k < 8 → parseFieldDescriptor (TX4 k).2.2.1 = some (tyX4 k) := by decide +kernel
abbrev cX4_init : ByteArray := prog_6_method_1_code
def yX4_init : MethodName := ⟨RX4, "<init>", "()V"⟩
abbrev cX4_read : ByteArray := prog_6_method_2_code
def yX4_read : MethodName := ⟨RX4, "read", "(LSubtitleStyles$Row;I)I"⟩
abbrev cX4_take : ByteArray := prog_6_method_3_code
def yX4_take : MethodName := ⟨RX4, "take", "(II)V"⟩
abbrev cX4_takeOutside : ByteArray := prog_6_method_4_code
def yX4_takeOutside : MethodName := ⟨RX4, "takeOutside", "(I)V"⟩
abbrev cX4_takeLetter : ByteArray := prog_6_method_5_code
def yX4_takeLetter : MethodName := ⟨RX4, "takeLetter", "(II)V"⟩
abbrev cX4_closeTag : ByteArray := prog_6_method_6_code
def yX4_closeTag : MethodName := ⟨RX4, "closeTag", "(I)V"⟩
abbrev cX4_isInRange : ByteArray := prog_6_method_7_code
def yX4_isInRange : MethodName := ⟨RX4, "isInRange", "()Z"⟩
abbrev cX4_addItem : ByteArray := prog_6_method_8_code
def yX4_addItem : MethodName := ⟨RX4, "addItem", "(II)V"⟩
def RX5 : String := "SubtitleStyles$Row"
def TX5 : u_T := fun k => match k with
  | _ => ("SubtitleStyles$Row", "cells", "[I", true)
def tyX5 : Nat → FieldType := fun k => match k with
  | _ => .array .int
abbrev wsX50 : List Cond := u_ws RX5 TX5 1
theorem nmX5 : ∀ a, a < 1 → ∀ b, b < 1 → a ≠ b → (TX5 a).2.1 ≠ (TX5 b).2.1 := by decide +kernel
theorem tyX5_ok : ∀ k, k < 1 → parseFieldDescriptor (TX5 k).2.2.1 = some (tyX5 k) := by decide +kernel
abbrev cX5_init : ByteArray := prog_7_method_1_code
def yX5_init : MethodName := ⟨RX5, "<init>", "(I)V"⟩
abbrev cX5_get : ByteArray := prog_7_method_2_code
def yX5_get : MethodName := ⟨RX5, "get", "(I)I"⟩
abbrev cX5_set : ByteArray := prog_7_method_3_code
def yX5_set : MethodName := ⟨RX5, "set", "(II)V"⟩
abbrev cX5_copy : ByteArray := prog_7_method_4_code
def yX5_copy : MethodName := ⟨RX5, "copy", "(LSubtitleStyles$Row;)V"⟩
def RX6 : String := "SubtitleStyles$Screen"
def TX6 : u_T := fun k => match k with
  | 0 => ("SubtitleStyles$Screen", "sheet", "LSubtitleStyles$Sheet;", true)
  | 1 => ("SubtitleStyles$Screen", "rows", "[LSubtitleStyles$Line;", true)
  | 2 => ("SubtitleStyles$Screen", "count", "I", false)
  | _ => ("SubtitleStyles$Screen", "height", "I", false)
def tyX6 : Nat → FieldType := fun k => match k with
  | 0 => .object "SubtitleStyles$Sheet"
  | 1 => .array (.object "SubtitleStyles$Line")
  | 2 => .int
  | _ => .int
abbrev wsX60 : List Cond := u_ws RX6 TX6 4
theorem nmX6 : ∀ a, a < 4 → ∀ b, b < 4 → a ≠ b → (TX6 a).2.1 ≠ (TX6 b).2.1 := by decide +kernel
theorem tyX6_ok : ∀ k, k < 4 → parseFieldDescriptor (TX6 k).2.2.1 = some (tyX6 k) := by decide +kernel
abbrev cX6_init : ByteArray := prog_8_method_1_code
def yX6_init : MethodName := ⟨RX6, "<init>", "()V"⟩
abbrev cX6_copy : ByteArray := prog_8_method_2_code
def yX6_copy : MethodName := ⟨RX6, "copy", "(LSubtitleStyles$Screen;)V"⟩
abbrev cX6_lineAt : ByteArray := prog_8_method_3_code
def yX6_lineAt : MethodName := ⟨RX6, "lineAt", "(I)LSubtitleStyles$Line;"⟩
abbrev cX6_putLine : ByteArray := prog_8_method_4_code
def yX6_putLine : MethodName := ⟨RX6, "putLine", "(ILSubtitleStyles$Line;)V"⟩
abbrev cX6_addLine : ByteArray := prog_8_method_5_code
def yX6_addLine : MethodName := ⟨RX6, "addLine", "(LSubtitleStyles$Line;)V"⟩
abbrev cX6_dropLine : ByteArray := prog_8_method_6_code
def yX6_dropLine : MethodName := ⟨RX6, "dropLine", "(I)V"⟩
abbrev cX6_hasLineOfStyle : ByteArray := prog_8_method_7_code
def yX6_hasLineOfStyle : MethodName := ⟨RX6, "hasLineOfStyle", "(I)Z"⟩
def RX7 : String := "SubtitleStyles$Sheet"
def TX7 : u_T := fun k => match k with
  | 0 => ("SubtitleStyles$Sheet", "count", "I", false)
  | 1 => ("SubtitleStyles$Sheet", "parents", "LSubtitleStyles$Row;", true)
  | _ => ("SubtitleStyles$Sheet", "own", "LSubtitleStyles$Row;", true)
def tyX7 : Nat → FieldType := fun k => match k with
  | 0 => .int
  | 1 => .object "SubtitleStyles$Row"
  | _ => .object "SubtitleStyles$Row"
abbrev wsX70 : List Cond := u_ws RX7 TX7 3
theorem nmX7 : ∀ a, a < 3 → ∀ b, b < 3 → a ≠ b → (TX7 a).2.1 ≠ (TX7 b).2.1 := by decide +kernel
theorem tyX7_ok : ∀ k, k < 3 → parseFieldDescriptor (TX7 k).2.2.1 = some (tyX7 k) := by decide +kernel
abbrev cX7_init : ByteArray := prog_9_method_1_code
def yX7_init : MethodName := ⟨RX7, "<init>", "()V"⟩
abbrev cX7_copy : ByteArray := prog_9_method_2_code
def yX7_copy : MethodName := ⟨RX7, "copy", "(LSubtitleStyles$Sheet;)V"⟩
abbrev cX7_has : ByteArray := prog_9_method_3_code
def yX7_has : MethodName := ⟨RX7, "has", "(I)Z"⟩
abbrev cX7_hasOrNothing : ByteArray := prog_9_method_4_code
def yX7_hasOrNothing : MethodName := ⟨RX7, "hasOrNothing", "(I)Z"⟩
abbrev cX7_add : ByteArray := prog_9_method_5_code
def yX7_add : MethodName := ⟨RX7, "add", "(I)V"⟩
abbrev cX7_dropLast : ByteArray := prog_9_method_6_code
def yX7_dropLast : MethodName := ⟨RX7, "dropLast", "()V"⟩
abbrev cX7_ownValue : ByteArray := prog_9_method_7_code
def yX7_ownValue : MethodName := ⟨RX7, "ownValue", "(II)I"⟩
abbrev cX7_setOwnValue : ByteArray := prog_9_method_8_code
def yX7_setOwnValue : MethodName := ⟨RX7, "setOwnValue", "(III)V"⟩
abbrev cX7_sourceOf : ByteArray := prog_9_method_9_code
def yX7_sourceOf : MethodName := ⟨RX7, "sourceOf", "(II)I"⟩
abbrev cX7_valueIn : ByteArray := prog_9_method_10_code
def yX7_valueIn : MethodName := ⟨RX7, "valueIn", "(II)I"⟩
abbrev cX7_leadsTo : ByteArray := prog_9_method_11_code
def yX7_leadsTo : MethodName := ⟨RX7, "leadsTo", "(II)Z"⟩
abbrev cX7_ancestorsOf : ByteArray := prog_9_method_12_code
def yX7_ancestorsOf : MethodName := ⟨RX7, "ancestorsOf", "(I)I"⟩
abbrev cX7_childrenOf : ByteArray := prog_9_method_13_code
def yX7_childrenOf : MethodName := ⟨RX7, "childrenOf", "(I)I"⟩
abbrev cX7_makeFlat : ByteArray := prog_9_method_14_code
def yX7_makeFlat : MethodName := ⟨RX7, "makeFlat", "()I"⟩
def RX8 : String := "SubtitleStyles$Text"
def TX8 : u_T := fun k => match k with
  | 0 => ("SubtitleStyles$Text", "size", "I", true)
  | 1 => ("SubtitleStyles$Text", "kinds", "LSubtitleStyles$Row;", true)
  | _ => ("SubtitleStyles$Text", "numbers", "LSubtitleStyles$Row;", true)
def tyX8 : Nat → FieldType := fun k => match k with
  | 0 => .int
  | 1 => .object "SubtitleStyles$Row"
  | _ => .object "SubtitleStyles$Row"
abbrev wsX80 : List Cond := u_ws RX8 TX8 3
theorem nmX8 : ∀ a, a < 3 → ∀ b, b < 3 → a ≠ b → (TX8 a).2.1 ≠ (TX8 b).2.1 := by decide +kernel
theorem tyX8_ok : ∀ k, k < 3 → parseFieldDescriptor (TX8 k).2.2.1 = some (tyX8 k) := by decide +kernel
abbrev cX8_init : ByteArray := prog_10_method_1_code
def yX8_init : MethodName := ⟨RX8, "<init>", "(LSubtitleStyles$Row;LSubtitleStyles$Row;I)V"⟩
abbrev cX8_withLastSyllable : ByteArray := prog_10_method_2_code
def yX8_withLastSyllable : MethodName := ⟨RX8, "withLastSyllable", "(I)LSubtitleStyles$Text;"⟩
def RX9 : String := "SubtitleStyles"
def TX9 : u_T := fun k => match k with
  | 0 => ("SubtitleStyles", "buffer", "LSubtitleStyles$Row;", true)
  | 1 => ("SubtitleStyles", "typed", "I", false)
  | 2 => ("SubtitleStyles", "reader", "LSubtitleStyles$Reader;", true)
  | 3 => ("SubtitleStyles", "screen", "LSubtitleStyles$Screen;", true)
  | 4 => ("SubtitleStyles", "history", "LSubtitleStyles$History;", true)
  | 5 => ("SubtitleStyles", "picture", "LSubtitleStyles$Picture;", true)
  | 6 => ("SubtitleStyles", "flatSheet", "LSubtitleStyles$Sheet;", true)
  | _ => ("SubtitleStyles", "flatLook", "LSubtitleStyles$Look;", true)
def tyX9 : Nat → FieldType := fun k => match k with
  | 0 => .object "SubtitleStyles$Row"
  | 1 => .int
  | 2 => .object "SubtitleStyles$Reader"
  | 3 => .object "SubtitleStyles$Screen"
  | 4 => .object "SubtitleStyles$History"
  | 5 => .object "SubtitleStyles$Picture"
  | 6 => .object "SubtitleStyles$Sheet"
  | _ => .object "SubtitleStyles$Look"
abbrev wsX90 : List Cond := u_ws RX9 TX9 8
theorem nmX9 : ∀ a, a < 8 → ∀ b, b < 8 → a ≠ b → (TX9 a).2.1 ≠ (TX9 b).2.1 := by decide +kernel
theorem tyX9_ok : ∀ k, k < 8 → parseFieldDescriptor (TX9 k).2.2.1 = some (tyX9 k) := by decide +kernel
abbrev cX9_init : ByteArray := prog_1_method_1_code
def yX9_init : MethodName := ⟨RX9, "<init>", "()V"⟩
abbrev cX9_style : ByteArray := prog_1_method_2_code
def yX9_style : MethodName := ⟨RX9, "style", "(I)I"⟩
abbrev cX9_setParent : ByteArray := prog_1_method_3_code
def yX9_setParent : MethodName := ⟨RX9, "setParent", "(II)I"⟩
abbrev cX9_setStyle : ByteArray := prog_1_method_4_code
def yX9_setStyle : MethodName := ⟨RX9, "setStyle", "(III)I"⟩
abbrev cX9_unstyle : ByteArray := prog_1_method_5_code
def yX9_unstyle : MethodName := ⟨RX9, "unstyle", "()I"⟩
abbrev cX9_flatten : ByteArray := prog_1_method_6_code
def yX9_flatten : MethodName := ⟨RX9, "flatten", "()I"⟩
abbrev cX9_styleAt : ByteArray := prog_1_method_7_code
def yX9_styleAt : MethodName := ⟨RX9, "styleAt", "(II)I"⟩
abbrev cX9_valueOf : ByteArray := prog_1_method_8_code
def yX9_valueOf : MethodName := ⟨RX9, "valueOf", "(II)I"⟩
abbrev cX9_from : ByteArray := prog_1_method_9_code
def yX9_from : MethodName := ⟨RX9, "from", "(II)I"⟩
abbrev cX9_styles : ByteArray := prog_1_method_10_code
def yX9_styles : MethodName := ⟨RX9, "styles", "()I"⟩
abbrev cX9_type : ByteArray := prog_1_method_11_code
def yX9_type : MethodName := ⟨RX9, "type", "(I)I"⟩
abbrev cX9_clear : ByteArray := prog_1_method_12_code
def yX9_clear : MethodName := ⟨RX9, "clear", "()I"⟩
abbrev cX9_line : ByteArray := prog_1_method_13_code
def yX9_line : MethodName := ⟨RX9, "line", "(III)I"⟩
abbrev cX9_remove : ByteArray := prog_1_method_14_code
def yX9_remove : MethodName := ⟨RX9, "remove", "(I)I"⟩
abbrev cX9_change : ByteArray := prog_1_method_15_code
def yX9_change : MethodName := ⟨RX9, "change", "(III)I"⟩
abbrev cX9_isChange : ByteArray := prog_1_method_16_code
def yX9_isChange : MethodName := ⟨RX9, "isChange", "(II)Z"⟩
abbrev cX9_shift : ByteArray := prog_1_method_17_code
def yX9_shift : MethodName := ⟨RX9, "shift", "(II)I"⟩
abbrev cX9_setHeight : ByteArray := prog_1_method_18_code
def yX9_setHeight : MethodName := ⟨RX9, "setHeight", "(I)I"⟩
abbrev cX9_about : ByteArray := prog_1_method_19_code
def yX9_about : MethodName := ⟨RX9, "about", "(II)I"⟩
abbrev cX9_lines : ByteArray := prog_1_method_20_code
def yX9_lines : MethodName := ⟨RX9, "lines", "()I"⟩
abbrev cX9_sign : ByteArray := prog_1_method_21_code
def yX9_sign : MethodName := ⟨RX9, "sign", "(III)I"⟩
abbrev cX9_syllable : ByteArray := prog_1_method_22_code
def yX9_syllable : MethodName := ⟨RX9, "syllable", "(III)I"⟩
abbrev cX9_fit : ByteArray := prog_1_method_23_code
def yX9_fit : MethodName := ⟨RX9, "fit", "(I)I"⟩
abbrev cX9_shows : ByteArray := prog_1_method_24_code
def yX9_shows : MethodName := ⟨RX9, "shows", "(III)I"⟩
abbrev cX9_shown : ByteArray := prog_1_method_25_code
def yX9_shown : MethodName := ⟨RX9, "shown", "(II)I"⟩
abbrev cX9_crowd : ByteArray := prog_1_method_26_code
def yX9_crowd : MethodName := ⟨RX9, "crowd", "()I"⟩
abbrev cX9_sung : ByteArray := prog_1_method_27_code
def yX9_sung : MethodName := ⟨RX9, "sung", "(I)F"⟩
abbrev cX9_unlike : ByteArray := prog_1_method_28_code
def yX9_unlike : MethodName := ⟨RX9, "unlike", "()I"⟩
abbrev cX9_undo : ByteArray := prog_1_method_29_code
def yX9_undo : MethodName := ⟨RX9, "undo", "()I"⟩
abbrev cX9_fingerprint : ByteArray := prog_1_method_30_code
def yX9_fingerprint : MethodName := ⟨RX9, "fingerprint", "()J"⟩
abbrev cX9_mix : ByteArray := prog_1_method_31_code
def yX9_mix : MethodName := ⟨RX9, "mix", "(JI)J"⟩
abbrev cX9_mixStyle : ByteArray := prog_1_method_32_code
def yX9_mixStyle : MethodName := ⟨RX9, "mixStyle", "(JI)J"⟩
abbrev cX9_mixLine : ByteArray := prog_1_method_33_code
def yX9_mixLine : MethodName := ⟨RX9, "mixLine", "(JI)J"⟩
abbrev cX9_isProperty : ByteArray := prog_1_method_34_code
def yX9_isProperty : MethodName := ⟨RX9, "isProperty", "(I)Z"⟩
abbrev cX9_allows : ByteArray := prog_1_method_35_code
def yX9_allows : MethodName := ⟨RX9, "allows", "(II)Z"⟩
abbrev cX9_basicValue : ByteArray := prog_1_method_36_code
def yX9_basicValue : MethodName := ⟨RX9, "basicValue", "(I)I"⟩
abbrev cX9_propertyOfTag : ByteArray := prog_1_method_37_code
def yX9_propertyOfTag : MethodName := ⟨RX9, "propertyOfTag", "(I)I"⟩
def RX10 : String := "SubtitleStylesModel"
def TX10 : u_T := fun k => match k with
  | _ => ("", "", "", false)
def tyX10 : Nat → FieldType := fun k => match k with
  | _ => .int
abbrev wsX100 : List Cond := u_ws RX10 TX10 0
theorem nmX10 : ∀ a, a < 0 → ∀ b, b < 0 → a ≠ b → (TX10 a).2.1 ≠ (TX10 b).2.1 := by decide +kernel
theorem tyX10_ok : ∀ k, k < 0 → parseFieldDescriptor (TX10 k).2.2.1 = some (tyX10 k) := by decide +kernel
def RL : String := "SubtitleStylesLaw"
abbrev cL_cell : ByteArray := method_2_code
def yL_cell : MethodName := ⟨RL, "cell", "([II)I"⟩
abbrev cL_up : ByteArray := method_3_code
def yL_up : MethodName := ⟨RL, "up", "(II)I"⟩
abbrev cL_fails : ByteArray := method_4_code
def yL_fails : MethodName := ⟨RL, "fails", "(LSubtitleStyles;)Z"⟩
abbrev cL_basic : ByteArray := method_5_code
def yL_basic : MethodName := ⟨RL, "basic", "(I)I"⟩
abbrev cL_styles : ByteArray := method_6_code
def yL_styles : MethodName := ⟨RL, "styles", "(LSubtitleStyles;)Z"⟩
abbrev cL_line : ByteArray := method_7_code
def yL_line : MethodName := ⟨RL, "line", "(LSubtitleStyles;I)Z"⟩
abbrev cL_shown : ByteArray := method_8_code
def yL_shown : MethodName := ⟨RL, "shown", "(LSubtitleStyles;I)Z"⟩
abbrev cL_flattens : ByteArray := method_9_code
def yL_flattens : MethodName := ⟨RL, "flattens", "(LSubtitleStyles;)Z"⟩
abbrev cL_types : ByteArray := method_10_code
def yL_types : MethodName := ⟨RL, "types", "(LSubtitleStyles;II)I"⟩
abbrev cL_law : ByteArray := code
def yL_law : MethodName := ⟨RL, "law", "([I)Z"⟩
theorem dX0_init_0 : decode cX0_init 0 = .ok (.aload_n 0, 1) := by decide +kernel
theorem dX0_init_1 : decode cX0_init 1 = .ok (.invokespecial 3, 3) := by decide +kernel
theorem dX0_init_4 : decode cX0_init 4 = .ok (.aload_n 0, 1) := by decide +kernel
theorem dX0_init_5 : decode cX0_init 5 = .ok (.iconst 5, 1) := by decide +kernel
theorem dX0_init_6 : decode cX0_init 6 = .ok (.anewarray 9, 3) := by decide +kernel
theorem dX0_init_9 : decode cX0_init 9 = .ok (.putfield 11, 3) := by decide +kernel
theorem dX0_init_12 : decode cX0_init 12 = .ok (.iconst 0, 1) := by decide +kernel
theorem dX0_init_13 : decode cX0_init 13 = .ok (.istore_n 1, 1) := by decide +kernel
theorem dX0_init_14 : decode cX0_init 14 = .ok (.iload_n 1, 1) := by decide +kernel
theorem dX0_init_15 : decode cX0_init 15 = .ok (.aload_n 0, 1) := by decide +kernel
theorem dX0_init_16 : decode cX0_init 16 = .ok (.getfield 11, 3) := by decide +kernel
theorem dX0_init_19 : decode cX0_init 19 = .ok (.arraylength, 1) := by decide +kernel
theorem dX0_init_20 : decode cX0_init 20 = .ok (.if_icmp .ge 22, 3) := by decide +kernel
theorem dX0_init_23 : decode cX0_init 23 = .ok (.aload_n 0, 1) := by decide +kernel
theorem dX0_init_24 : decode cX0_init 24 = .ok (.getfield 11, 3) := by decide +kernel
theorem dX0_init_27 : decode cX0_init 27 = .ok (.iload_n 1, 1) := by decide +kernel
theorem dX0_init_28 : decode cX0_init 28 = .ok (.new 9, 3) := by decide +kernel
theorem dX0_init_31 : decode cX0_init 31 = .ok (.dup, 1) := by decide +kernel
theorem dX0_init_32 : decode cX0_init 32 = .ok (.invokespecial 17, 3) := by decide +kernel
theorem dX0_init_35 : decode cX0_init 35 = .ok (.aastore, 1) := by decide +kernel
theorem dX0_init_36 : decode cX0_init 36 = .ok (.iinc 1 1, 3) := by decide +kernel
theorem dX0_init_39 : decode cX0_init 39 = .ok (.goto (-25), 3) := by decide +kernel
theorem dX0_init_42 : decode cX0_init 42 = .ok (.aload_n 0, 1) := by decide +kernel
theorem dX0_init_43 : decode cX0_init 43 = .ok (.iconst 0, 1) := by decide +kernel
theorem dX0_init_44 : decode cX0_init 44 = .ok (.putfield 18, 3) := by decide +kernel
theorem dX0_init_47 : decode cX0_init 47 = .ok (.aload_n 0, 1) := by decide +kernel
theorem dX0_init_48 : decode cX0_init 48 = .ok (.iconst 0, 1) := by decide +kernel
theorem dX0_init_49 : decode cX0_init 49 = .ok (.putfield 22, 3) := by decide +kernel
theorem dX0_init_52 : decode cX0_init 52 = .ok (.return_, 1) := by decide +kernel
theorem dX0_keep_0 : decode cX0_keep 0 = .ok (.aload_n 0, 1) := by decide +kernel
theorem dX0_keep_1 : decode cX0_keep 1 = .ok (.getfield 22, 3) := by decide +kernel
theorem dX0_keep_4 : decode cX0_keep 4 = .ok (.iconst 5, 1) := by decide +kernel
theorem dX0_keep_5 : decode cX0_keep 5 = .ok (.if_icmp .lt 25, 3) := by decide +kernel
theorem dX0_keep_8 : decode cX0_keep 8 = .ok (.aload_n 0, 1) := by decide +kernel
theorem dX0_keep_9 : decode cX0_keep 9 = .ok (.aload_n 0, 1) := by decide +kernel
theorem dX0_keep_10 : decode cX0_keep 10 = .ok (.getfield 18, 3) := by decide +kernel
theorem dX0_keep_13 : decode cX0_keep 13 = .ok (.iconst 1, 1) := by decide +kernel
theorem dX0_keep_14 : decode cX0_keep 14 = .ok (.iadd, 1) := by decide +kernel
theorem dX0_keep_15 : decode cX0_keep 15 = .ok (.iconst 5, 1) := by decide +kernel
theorem dX0_keep_16 : decode cX0_keep 16 = .ok (.irem, 1) := by decide +kernel
theorem dX0_keep_17 : decode cX0_keep 17 = .ok (.putfield 18, 3) := by decide +kernel
theorem dX0_keep_20 : decode cX0_keep 20 = .ok (.aload_n 0, 1) := by decide +kernel
theorem dX0_keep_21 : decode cX0_keep 21 = .ok (.dup, 1) := by decide +kernel
theorem dX0_keep_22 : decode cX0_keep 22 = .ok (.getfield 22, 3) := by decide +kernel
theorem dX0_keep_25 : decode cX0_keep 25 = .ok (.iconst 1, 1) := by decide +kernel
theorem dX0_keep_26 : decode cX0_keep 26 = .ok (.isub, 1) := by decide +kernel
theorem dX0_keep_27 : decode cX0_keep 27 = .ok (.putfield 22, 3) := by decide +kernel
theorem dX0_keep_30 : decode cX0_keep 30 = .ok (.aload_n 0, 1) := by decide +kernel
theorem dX0_keep_31 : decode cX0_keep 31 = .ok (.aload_n 0, 1) := by decide +kernel
theorem dX0_keep_32 : decode cX0_keep 32 = .ok (.getfield 22, 3) := by decide +kernel
theorem dX0_keep_35 : decode cX0_keep 35 = .ok (.invokevirtual 25, 3) := by decide +kernel
theorem dX0_keep_38 : decode cX0_keep 38 = .ok (.astore_n 2, 1) := by decide +kernel
theorem dX0_keep_39 : decode cX0_keep 39 = .ok (.aload_n 2, 1) := by decide +kernel
theorem dX0_keep_40 : decode cX0_keep 40 = .ok (.ifnull 18, 3) := by decide +kernel
theorem dX0_keep_43 : decode cX0_keep 43 = .ok (.aload_n 2, 1) := by decide +kernel
theorem dX0_keep_44 : decode cX0_keep 44 = .ok (.aload_n 1, 1) := by decide +kernel
theorem dX0_keep_45 : decode cX0_keep 45 = .ok (.invokevirtual 29, 3) := by decide +kernel
theorem dX0_keep_48 : decode cX0_keep 48 = .ok (.aload_n 0, 1) := by decide +kernel
theorem dX0_keep_49 : decode cX0_keep 49 = .ok (.dup, 1) := by decide +kernel
theorem dX0_keep_50 : decode cX0_keep 50 = .ok (.getfield 22, 3) := by decide +kernel
theorem dX0_keep_53 : decode cX0_keep 53 = .ok (.iconst 1, 1) := by decide +kernel
theorem dX0_keep_54 : decode cX0_keep 54 = .ok (.iadd, 1) := by decide +kernel
theorem dX0_keep_55 : decode cX0_keep 55 = .ok (.putfield 22, 3) := by decide +kernel
theorem dX0_keep_58 : decode cX0_keep 58 = .ok (.return_, 1) := by decide +kernel
theorem dX0_restore_0 : decode cX0_restore 0 = .ok (.aload_n 0, 1) := by decide +kernel
theorem dX0_restore_1 : decode cX0_restore 1 = .ok (.dup, 1) := by decide +kernel
theorem dX0_restore_2 : decode cX0_restore 2 = .ok (.getfield 22, 3) := by decide +kernel
theorem dX0_restore_5 : decode cX0_restore 5 = .ok (.iconst 1, 1) := by decide +kernel
theorem dX0_restore_6 : decode cX0_restore 6 = .ok (.isub, 1) := by decide +kernel
theorem dX0_restore_7 : decode cX0_restore 7 = .ok (.putfield 22, 3) := by decide +kernel
theorem dX0_restore_10 : decode cX0_restore 10 = .ok (.aload_n 0, 1) := by decide +kernel
theorem dX0_restore_11 : decode cX0_restore 11 = .ok (.aload_n 0, 1) := by decide +kernel
theorem dX0_restore_12 : decode cX0_restore 12 = .ok (.getfield 22, 3) := by decide +kernel
theorem dX0_restore_15 : decode cX0_restore 15 = .ok (.invokevirtual 25, 3) := by decide +kernel
theorem dX0_restore_18 : decode cX0_restore 18 = .ok (.astore_n 2, 1) := by decide +kernel
theorem dX0_restore_19 : decode cX0_restore 19 = .ok (.aload_n 2, 1) := by decide +kernel
theorem dX0_restore_20 : decode cX0_restore 20 = .ok (.ifnull 8, 3) := by decide +kernel
theorem dX0_restore_23 : decode cX0_restore 23 = .ok (.aload_n 1, 1) := by decide +kernel
theorem dX0_restore_24 : decode cX0_restore 24 = .ok (.aload_n 2, 1) := by decide +kernel
theorem dX0_restore_25 : decode cX0_restore 25 = .ok (.invokevirtual 29, 3) := by decide +kernel
theorem dX0_restore_28 : decode cX0_restore 28 = .ok (.return_, 1) := by decide +kernel
theorem dX0_stateAt_0 : decode cX0_stateAt 0 = .ok (.aload_n 0, 1) := by decide +kernel
theorem dX0_stateAt_1 : decode cX0_stateAt 1 = .ok (.getfield 18, 3) := by decide +kernel
theorem dX0_stateAt_4 : decode cX0_stateAt 4 = .ok (.iload_n 1, 1) := by decide +kernel
theorem dX0_stateAt_5 : decode cX0_stateAt 5 = .ok (.iadd, 1) := by decide +kernel
theorem dX0_stateAt_6 : decode cX0_stateAt 6 = .ok (.iconst 5, 1) := by decide +kernel
theorem dX0_stateAt_7 : decode cX0_stateAt 7 = .ok (.irem, 1) := by decide +kernel
theorem dX0_stateAt_8 : decode cX0_stateAt 8 = .ok (.istore_n 2, 1) := by decide +kernel
theorem dX0_stateAt_9 : decode cX0_stateAt 9 = .ok (.iload_n 2, 1) := by decide +kernel
theorem dX0_stateAt_10 : decode cX0_stateAt 10 = .ok (.ifCond .lt 21, 3) := by decide +kernel
theorem dX0_stateAt_13 : decode cX0_stateAt 13 = .ok (.iload_n 2, 1) := by decide +kernel
theorem dX0_stateAt_14 : decode cX0_stateAt 14 = .ok (.aload_n 0, 1) := by decide +kernel
theorem dX0_stateAt_15 : decode cX0_stateAt 15 = .ok (.getfield 11, 3) := by decide +kernel
theorem dX0_stateAt_18 : decode cX0_stateAt 18 = .ok (.arraylength, 1) := by decide +kernel
theorem dX0_stateAt_19 : decode cX0_stateAt 19 = .ok (.if_icmp .ge 12, 3) := by decide +kernel
theorem dX0_stateAt_22 : decode cX0_stateAt 22 = .ok (.aload_n 0, 1) := by decide +kernel
theorem dX0_stateAt_23 : decode cX0_stateAt 23 = .ok (.getfield 11, 3) := by decide +kernel
theorem dX0_stateAt_26 : decode cX0_stateAt 26 = .ok (.iload_n 2, 1) := by decide +kernel
theorem dX0_stateAt_27 : decode cX0_stateAt 27 = .ok (.aaload, 1) := by decide +kernel
theorem dX0_stateAt_28 : decode cX0_stateAt 28 = .ok (.goto 4, 3) := by decide +kernel
theorem dX0_stateAt_31 : decode cX0_stateAt 31 = .ok (.aconst_null, 1) := by decide +kernel
theorem dX0_stateAt_32 : decode cX0_stateAt 32 = .ok (.areturn, 1) := by decide +kernel
theorem dX1_init_0 : decode cX1_init 0 = .ok (.aload_n 0, 1) := by decide +kernel
theorem dX1_init_1 : decode cX1_init 1 = .ok (.invokespecial 1, 3) := by decide +kernel
theorem dX1_init_4 : decode cX1_init 4 = .ok (.aload_n 0, 1) := by decide +kernel
theorem dX1_init_5 : decode cX1_init 5 = .ok (.iload_n 1, 1) := by decide +kernel
theorem dX1_init_6 : decode cX1_init 6 = .ok (.putfield 7, 3) := by decide +kernel
theorem dX1_init_9 : decode cX1_init 9 = .ok (.aload_n 0, 1) := by decide +kernel
theorem dX1_init_10 : decode cX1_init 10 = .ok (.iload_n 2, 1) := by decide +kernel
theorem dX1_init_11 : decode cX1_init 11 = .ok (.putfield 13, 3) := by decide +kernel
theorem dX1_init_14 : decode cX1_init 14 = .ok (.aload_n 0, 1) := by decide +kernel
theorem dX1_init_15 : decode cX1_init 15 = .ok (.iload_n 3, 1) := by decide +kernel
theorem dX1_init_16 : decode cX1_init 16 = .ok (.putfield 16, 3) := by decide +kernel
theorem dX1_init_19 : decode cX1_init 19 = .ok (.aload_n 0, 1) := by decide +kernel
theorem dX1_init_20 : decode cX1_init 20 = .ok (.iload 4, 2) := by decide +kernel
theorem dX1_init_22 : decode cX1_init 22 = .ok (.putfield 19, 3) := by decide +kernel
theorem dX1_init_25 : decode cX1_init 25 = .ok (.aload_n 0, 1) := by decide +kernel
theorem dX1_init_26 : decode cX1_init 26 = .ok (.aload 5, 2) := by decide +kernel
theorem dX1_init_28 : decode cX1_init 28 = .ok (.putfield 22, 3) := by decide +kernel
theorem dX1_init_31 : decode cX1_init 31 = .ok (.return_, 1) := by decide +kernel
theorem dX1_withStyle_0 : decode cX1_withStyle 0 = .ok (.new 8, 3) := by decide +kernel
theorem dX1_withStyle_3 : decode cX1_withStyle 3 = .ok (.dup, 1) := by decide +kernel
theorem dX1_withStyle_4 : decode cX1_withStyle 4 = .ok (.aload_n 0, 1) := by decide +kernel
theorem dX1_withStyle_5 : decode cX1_withStyle 5 = .ok (.getfield 7, 3) := by decide +kernel
theorem dX1_withStyle_8 : decode cX1_withStyle 8 = .ok (.aload_n 0, 1) := by decide +kernel
theorem dX1_withStyle_9 : decode cX1_withStyle 9 = .ok (.getfield 13, 3) := by decide +kernel
theorem dX1_withStyle_12 : decode cX1_withStyle 12 = .ok (.iload_n 1, 1) := by decide +kernel
theorem dX1_withStyle_13 : decode cX1_withStyle 13 = .ok (.aload_n 0, 1) := by decide +kernel
theorem dX1_withStyle_14 : decode cX1_withStyle 14 = .ok (.getfield 19, 3) := by decide +kernel
theorem dX1_withStyle_17 : decode cX1_withStyle 17 = .ok (.aload_n 0, 1) := by decide +kernel
theorem dX1_withStyle_18 : decode cX1_withStyle 18 = .ok (.getfield 22, 3) := by decide +kernel
theorem dX1_withStyle_21 : decode cX1_withStyle 21 = .ok (.invokespecial 26, 3) := by decide +kernel
theorem dX1_withStyle_24 : decode cX1_withStyle 24 = .ok (.areturn, 1) := by decide +kernel
theorem dX1_withMargin_0 : decode cX1_withMargin 0 = .ok (.new 8, 3) := by decide +kernel
theorem dX1_withMargin_3 : decode cX1_withMargin 3 = .ok (.dup, 1) := by decide +kernel
theorem dX1_withMargin_4 : decode cX1_withMargin 4 = .ok (.aload_n 0, 1) := by decide +kernel
theorem dX1_withMargin_5 : decode cX1_withMargin 5 = .ok (.getfield 7, 3) := by decide +kernel
theorem dX1_withMargin_8 : decode cX1_withMargin 8 = .ok (.aload_n 0, 1) := by decide +kernel
theorem dX1_withMargin_9 : decode cX1_withMargin 9 = .ok (.getfield 13, 3) := by decide +kernel
theorem dX1_withMargin_12 : decode cX1_withMargin 12 = .ok (.aload_n 0, 1) := by decide +kernel
theorem dX1_withMargin_13 : decode cX1_withMargin 13 = .ok (.getfield 16, 3) := by decide +kernel
theorem dX1_withMargin_16 : decode cX1_withMargin 16 = .ok (.iload_n 1, 1) := by decide +kernel
theorem dX1_withMargin_17 : decode cX1_withMargin 17 = .ok (.aload_n 0, 1) := by decide +kernel
theorem dX1_withMargin_18 : decode cX1_withMargin 18 = .ok (.getfield 22, 3) := by decide +kernel
theorem dX1_withMargin_21 : decode cX1_withMargin 21 = .ok (.invokespecial 26, 3) := by decide +kernel
theorem dX1_withMargin_24 : decode cX1_withMargin 24 = .ok (.areturn, 1) := by decide +kernel
theorem dX1_withText_0 : decode cX1_withText 0 = .ok (.new 8, 3) := by decide +kernel
theorem dX1_withText_3 : decode cX1_withText 3 = .ok (.dup, 1) := by decide +kernel
theorem dX1_withText_4 : decode cX1_withText 4 = .ok (.aload_n 0, 1) := by decide +kernel
theorem dX1_withText_5 : decode cX1_withText 5 = .ok (.getfield 7, 3) := by decide +kernel
theorem dX1_withText_8 : decode cX1_withText 8 = .ok (.aload_n 0, 1) := by decide +kernel
theorem dX1_withText_9 : decode cX1_withText 9 = .ok (.getfield 13, 3) := by decide +kernel
theorem dX1_withText_12 : decode cX1_withText 12 = .ok (.aload_n 0, 1) := by decide +kernel
theorem dX1_withText_13 : decode cX1_withText 13 = .ok (.getfield 16, 3) := by decide +kernel
theorem dX1_withText_16 : decode cX1_withText 16 = .ok (.aload_n 0, 1) := by decide +kernel
theorem dX1_withText_17 : decode cX1_withText 17 = .ok (.getfield 19, 3) := by decide +kernel
theorem dX1_withText_20 : decode cX1_withText 20 = .ok (.aload_n 1, 1) := by decide +kernel
theorem dX1_withText_21 : decode cX1_withText 21 = .ok (.invokespecial 26, 3) := by decide +kernel
theorem dX1_withText_24 : decode cX1_withText 24 = .ok (.areturn, 1) := by decide +kernel
theorem dX1_movedBy_0 : decode cX1_movedBy 0 = .ok (.new 8, 3) := by decide +kernel
theorem dX1_movedBy_3 : decode cX1_movedBy 3 = .ok (.dup, 1) := by decide +kernel
theorem dX1_movedBy_4 : decode cX1_movedBy 4 = .ok (.aload_n 0, 1) := by decide +kernel
theorem dX1_movedBy_5 : decode cX1_movedBy 5 = .ok (.getfield 7, 3) := by decide +kernel
theorem dX1_movedBy_8 : decode cX1_movedBy 8 = .ok (.iload_n 1, 1) := by decide +kernel
theorem dX1_movedBy_9 : decode cX1_movedBy 9 = .ok (.iadd, 1) := by decide +kernel
theorem dX1_movedBy_10 : decode cX1_movedBy 10 = .ok (.aload_n 0, 1) := by decide +kernel
theorem dX1_movedBy_11 : decode cX1_movedBy 11 = .ok (.getfield 13, 3) := by decide +kernel
theorem dX1_movedBy_14 : decode cX1_movedBy 14 = .ok (.iload_n 1, 1) := by decide +kernel
theorem dX1_movedBy_15 : decode cX1_movedBy 15 = .ok (.iadd, 1) := by decide +kernel
theorem dX1_movedBy_16 : decode cX1_movedBy 16 = .ok (.aload_n 0, 1) := by decide +kernel
theorem dX1_movedBy_17 : decode cX1_movedBy 17 = .ok (.getfield 16, 3) := by decide +kernel
theorem dX1_movedBy_20 : decode cX1_movedBy 20 = .ok (.aload_n 0, 1) := by decide +kernel
theorem dX1_movedBy_21 : decode cX1_movedBy 21 = .ok (.getfield 19, 3) := by decide +kernel
theorem dX1_movedBy_24 : decode cX1_movedBy 24 = .ok (.aload_n 0, 1) := by decide +kernel
theorem dX1_movedBy_25 : decode cX1_movedBy 25 = .ok (.getfield 22, 3) := by decide +kernel
theorem dX1_movedBy_28 : decode cX1_movedBy 28 = .ok (.invokespecial 26, 3) := by decide +kernel
theorem dX1_movedBy_31 : decode cX1_movedBy 31 = .ok (.areturn, 1) := by decide +kernel
theorem dX2_init_0 : decode cX2_init 0 = .ok (.aload_n 0, 1) := by decide +kernel
theorem dX2_init_1 : decode cX2_init 1 = .ok (.invokespecial 3, 3) := by decide +kernel
theorem dX2_init_4 : decode cX2_init 4 = .ok (.aload_n 0, 1) := by decide +kernel
theorem dX2_init_5 : decode cX2_init 5 = .ok (.new 9, 3) := by decide +kernel
theorem dX2_init_8 : decode cX2_init 8 = .ok (.dup, 1) := by decide +kernel
theorem dX2_init_9 : decode cX2_init 9 = .ok (.sipush 480, 3) := by decide +kernel
theorem dX2_init_12 : decode cX2_init 12 = .ok (.invokespecial 11, 3) := by decide +kernel
theorem dX2_init_15 : decode cX2_init 15 = .ok (.putfield 14, 3) := by decide +kernel
theorem dX2_init_18 : decode cX2_init 18 = .ok (.aload_n 0, 1) := by decide +kernel
theorem dX2_init_19 : decode cX2_init 19 = .ok (.new 9, 3) := by decide +kernel
theorem dX2_init_22 : decode cX2_init 22 = .ok (.dup, 1) := by decide +kernel
theorem dX2_init_23 : decode cX2_init 23 = .ok (.bipush 60, 2) := by decide +kernel
theorem dX2_init_25 : decode cX2_init 25 = .ok (.invokespecial 11, 3) := by decide +kernel
theorem dX2_init_28 : decode cX2_init 28 = .ok (.putfield 20, 3) := by decide +kernel
theorem dX2_init_31 : decode cX2_init 31 = .ok (.aload_n 0, 1) := by decide +kernel
theorem dX2_init_32 : decode cX2_init 32 = .ok (.new 9, 3) := by decide +kernel
theorem dX2_init_35 : decode cX2_init 35 = .ok (.dup, 1) := by decide +kernel
theorem dX2_init_36 : decode cX2_init 36 = .ok (.iconst 4, 1) := by decide +kernel
theorem dX2_init_37 : decode cX2_init 37 = .ok (.invokespecial 11, 3) := by decide +kernel
theorem dX2_init_40 : decode cX2_init 40 = .ok (.putfield 23, 3) := by decide +kernel
theorem dX2_init_43 : decode cX2_init 43 = .ok (.return_, 1) := by decide +kernel
theorem dX2_read_0 : decode cX2_read 0 = .ok (.aload_n 0, 1) := by decide +kernel
theorem dX2_read_1 : decode cX2_read 1 = .ok (.aload_n 1, 1) := by decide +kernel
theorem dX2_read_2 : decode cX2_read 2 = .ok (.getfield 26, 3) := by decide +kernel
theorem dX2_read_5 : decode cX2_read 5 = .ok (.putfield 32, 3) := by decide +kernel
theorem dX2_read_8 : decode cX2_read 8 = .ok (.aload_n 0, 1) := by decide +kernel
theorem dX2_read_9 : decode cX2_read 9 = .ok (.aload_n 1, 1) := by decide +kernel
theorem dX2_read_10 : decode cX2_read 10 = .ok (.getfield 33, 3) := by decide +kernel
theorem dX2_read_13 : decode cX2_read 13 = .ok (.putfield 36, 3) := by decide +kernel
theorem dX2_read_16 : decode cX2_read 16 = .ok (.aload_n 0, 1) := by decide +kernel
theorem dX2_read_17 : decode cX2_read 17 = .ok (.aload_n 2, 1) := by decide +kernel
theorem dX2_read_18 : decode cX2_read 18 = .ok (.aload_n 1, 1) := by decide +kernel
theorem dX2_read_19 : decode cX2_read 19 = .ok (.getfield 37, 3) := by decide +kernel
theorem dX2_read_22 : decode cX2_read 22 = .ok (.iconst 4, 1) := by decide +kernel
theorem dX2_read_23 : decode cX2_read 23 = .ok (.invokevirtual 40, 3) := by decide +kernel
theorem dX2_read_26 : decode cX2_read 26 = .ok (.putfield 46, 3) := by decide +kernel
theorem dX2_read_29 : decode cX2_read 29 = .ok (.aload_n 0, 1) := by decide +kernel
theorem dX2_read_30 : decode cX2_read 30 = .ok (.aload_n 1, 1) := by decide +kernel
theorem dX2_read_31 : decode cX2_read 31 = .ok (.getfield 49, 3) := by decide +kernel
theorem dX2_read_34 : decode cX2_read 34 = .ok (.iconst (-1), 1) := by decide +kernel
theorem dX2_read_35 : decode cX2_read 35 = .ok (.if_icmp .ne 15, 3) := by decide +kernel
theorem dX2_read_38 : decode cX2_read 38 = .ok (.aload_n 2, 1) := by decide +kernel
theorem dX2_read_39 : decode cX2_read 39 = .ok (.aload_n 1, 1) := by decide +kernel
theorem dX2_read_40 : decode cX2_read 40 = .ok (.getfield 37, 3) := by decide +kernel
theorem dX2_read_43 : decode cX2_read 43 = .ok (.iconst 5, 1) := by decide +kernel
theorem dX2_read_44 : decode cX2_read 44 = .ok (.invokevirtual 40, 3) := by decide +kernel
theorem dX2_read_47 : decode cX2_read 47 = .ok (.goto 7, 3) := by decide +kernel
theorem dX2_read_50 : decode cX2_read 50 = .ok (.aload_n 1, 1) := by decide +kernel
theorem dX2_read_51 : decode cX2_read 51 = .ok (.getfield 49, 3) := by decide +kernel
theorem dX2_read_54 : decode cX2_read 54 = .ok (.putfield 52, 3) := by decide +kernel
theorem dX2_read_57 : decode cX2_read 57 = .ok (.aload_n 0, 1) := by decide +kernel
theorem dX2_read_58 : decode cX2_read 58 = .ok (.iconst 0, 1) := by decide +kernel
theorem dX2_read_59 : decode cX2_read 59 = .ok (.putfield 53, 3) := by decide +kernel
theorem dX2_read_62 : decode cX2_read 62 = .ok (.aload_n 0, 1) := by decide +kernel
theorem dX2_read_63 : decode cX2_read 63 = .ok (.iconst 0, 1) := by decide +kernel
theorem dX2_read_64 : decode cX2_read 64 = .ok (.putfield 56, 3) := by decide +kernel
theorem dX2_read_67 : decode cX2_read 67 = .ok (.aload_n 0, 1) := by decide +kernel
theorem dX2_read_68 : decode cX2_read 68 = .ok (.iconst 0, 1) := by decide +kernel
theorem dX2_read_69 : decode cX2_read 69 = .ok (.putfield 59, 3) := by decide +kernel
theorem dX2_read_72 : decode cX2_read 72 = .ok (.aload_n 0, 1) := by decide +kernel
theorem dX2_read_73 : decode cX2_read 73 = .ok (.iconst 0, 1) := by decide +kernel
theorem dX2_read_74 : decode cX2_read 74 = .ok (.putfield 62, 3) := by decide +kernel
theorem dX2_read_77 : decode cX2_read 77 = .ok (.aload_n 0, 1) := by decide +kernel
theorem dX2_read_78 : decode cX2_read 78 = .ok (.aload_n 1, 1) := by decide +kernel
theorem dX2_read_79 : decode cX2_read 79 = .ok (.getfield 37, 3) := by decide +kernel
theorem dX2_read_82 : decode cX2_read 82 = .ok (.aload_n 2, 1) := by decide +kernel
theorem dX2_read_83 : decode cX2_read 83 = .ok (.invokevirtual 65, 3) := by decide +kernel
theorem dX2_read_86 : decode cX2_read 86 = .ok (.aload_n 1, 1) := by decide +kernel
theorem dX2_read_87 : decode cX2_read 87 = .ok (.getfield 69, 3) := by decide +kernel
theorem dX2_read_90 : decode cX2_read 90 = .ok (.astore_n 3, 1) := by decide +kernel
theorem dX2_read_91 : decode cX2_read 91 = .ok (.iconst 0, 1) := by decide +kernel
theorem dX2_read_92 : decode cX2_read 92 = .ok (.istore 4, 2) := by decide +kernel
theorem dX2_read_94 : decode cX2_read 94 = .ok (.iload 4, 2) := by decide +kernel
theorem dX2_read_96 : decode cX2_read 96 = .ok (.aload_n 3, 1) := by decide +kernel
theorem dX2_read_97 : decode cX2_read 97 = .ok (.getfield 73, 3) := by decide +kernel
theorem dX2_read_100 : decode cX2_read 100 = .ok (.if_icmp .ge 121, 3) := by decide +kernel
theorem dX2_read_103 : decode cX2_read 103 = .ok (.aload_n 3, 1) := by decide +kernel
theorem dX2_read_104 : decode cX2_read 104 = .ok (.getfield 78, 3) := by decide +kernel
theorem dX2_read_107 : decode cX2_read 107 = .ok (.iload 4, 2) := by decide +kernel
theorem dX2_read_109 : decode cX2_read 109 = .ok (.invokevirtual 81, 3) := by decide +kernel
theorem dX2_read_112 : decode cX2_read 112 = .ok (.istore 5, 2) := by decide +kernel
theorem dX2_read_114 : decode cX2_read 114 = .ok (.aload_n 3, 1) := by decide +kernel
theorem dX2_read_115 : decode cX2_read 115 = .ok (.getfield 85, 3) := by decide +kernel
theorem dX2_read_118 : decode cX2_read 118 = .ok (.iload 4, 2) := by decide +kernel
theorem dX2_read_120 : decode cX2_read 120 = .ok (.invokevirtual 81, 3) := by decide +kernel
theorem dX2_read_123 : decode cX2_read 123 = .ok (.istore 6, 2) := by decide +kernel
theorem dX2_read_125 : decode cX2_read 125 = .ok (.iload 5, 2) := by decide +kernel
theorem dX2_read_127 : decode cX2_read 127 = .ok (.lookupswitch 74 #[(0, 33), (107, 42), (114, 51)], 33) := by decide +kernel
theorem dX2_read_160 : decode cX2_read 160 = .ok (.aload_n 0, 1) := by decide +kernel
theorem dX2_read_161 : decode cX2_read 161 = .ok (.iload 6, 2) := by decide +kernel
theorem dX2_read_163 : decode cX2_read 163 = .ok (.invokevirtual 88, 3) := by decide +kernel
theorem dX2_read_166 : decode cX2_read 166 = .ok (.goto 49, 3) := by decide +kernel
theorem dX2_read_169 : decode cX2_read 169 = .ok (.aload_n 0, 1) := by decide +kernel
theorem dX2_read_170 : decode cX2_read 170 = .ok (.iload 6, 2) := by decide +kernel
theorem dX2_read_172 : decode cX2_read 172 = .ok (.invokevirtual 91, 3) := by decide +kernel
theorem dX2_read_175 : decode cX2_read 175 = .ok (.goto 40, 3) := by decide +kernel
theorem dX2_read_178 : decode cX2_read 178 = .ok (.aload_n 0, 1) := by decide +kernel
theorem dX2_read_179 : decode cX2_read 179 = .ok (.iload 6, 2) := by decide +kernel
theorem dX2_read_181 : decode cX2_read 181 = .ok (.iconst (-1), 1) := by decide +kernel
theorem dX2_read_182 : decode cX2_read 182 = .ok (.if_icmp .ne 10, 3) := by decide +kernel
theorem dX2_read_185 : decode cX2_read 185 = .ok (.aload_n 1, 1) := by decide +kernel
theorem dX2_read_186 : decode cX2_read 186 = .ok (.getfield 37, 3) := by decide +kernel
theorem dX2_read_189 : decode cX2_read 189 = .ok (.goto 5, 3) := by decide +kernel
theorem dX2_read_192 : decode cX2_read 192 = .ok (.iload 6, 2) := by decide +kernel
theorem dX2_read_194 : decode cX2_read 194 = .ok (.aload_n 2, 1) := by decide +kernel
theorem dX2_read_195 : decode cX2_read 195 = .ok (.invokevirtual 65, 3) := by decide +kernel
theorem dX2_read_198 : decode cX2_read 198 = .ok (.goto 17, 3) := by decide +kernel
theorem dX2_read_201 : decode cX2_read 201 = .ok (.aload_n 0, 1) := by decide +kernel
theorem dX2_read_202 : decode cX2_read 202 = .ok (.getfield 23, 3) := by decide +kernel
theorem dX2_read_205 : decode cX2_read 205 = .ok (.iload 5, 2) := by decide +kernel
theorem dX2_read_207 : decode cX2_read 207 = .ok (.invokestatic 94, 3) := by decide +kernel
theorem dX2_read_210 : decode cX2_read 210 = .ok (.iload 6, 2) := by decide +kernel
theorem dX2_read_212 : decode cX2_read 212 = .ok (.invokevirtual 97, 3) := by decide +kernel
theorem dX2_read_215 : decode cX2_read 215 = .ok (.iinc 4 1, 3) := by decide +kernel
theorem dX2_read_218 : decode cX2_read 218 = .ok (.goto (-124), 3) := by decide +kernel
theorem dX2_read_221 : decode cX2_read 221 = .ok (.aload_n 0, 1) := by decide +kernel
theorem dX2_read_222 : decode cX2_read 222 = .ok (.getfield 53, 3) := by decide +kernel
theorem dX2_read_225 : decode cX2_read 225 = .ok (.ifCond .ne 16, 3) := by decide +kernel
theorem dX2_read_228 : decode cX2_read 228 = .ok (.aload_n 0, 1) := by decide +kernel
theorem dX2_read_229 : decode cX2_read 229 = .ok (.aload_n 2, 1) := by decide +kernel
theorem dX2_read_230 : decode cX2_read 230 = .ok (.aload_n 1, 1) := by decide +kernel
theorem dX2_read_231 : decode cX2_read 231 = .ok (.getfield 37, 3) := by decide +kernel
theorem dX2_read_234 : decode cX2_read 234 = .ok (.iconst 0, 1) := by decide +kernel
theorem dX2_read_235 : decode cX2_read 235 = .ok (.invokevirtual 40, 3) := by decide +kernel
theorem dX2_read_238 : decode cX2_read 238 = .ok (.putfield 62, 3) := by decide +kernel
theorem dX2_read_241 : decode cX2_read 241 = .ok (.return_, 1) := by decide +kernel
theorem dX2_holdStyle_0 : decode cX2_holdStyle 0 = .ok (.iconst 0, 1) := by decide +kernel
theorem dX2_holdStyle_1 : decode cX2_holdStyle 1 = .ok (.istore_n 3, 1) := by decide +kernel
theorem dX2_holdStyle_2 : decode cX2_holdStyle 2 = .ok (.iload_n 3, 1) := by decide +kernel
theorem dX2_holdStyle_3 : decode cX2_holdStyle 3 = .ok (.iconst 4, 1) := by decide +kernel
theorem dX2_holdStyle_4 : decode cX2_holdStyle 4 = .ok (.if_icmp .ge 23, 3) := by decide +kernel
theorem dX2_holdStyle_7 : decode cX2_holdStyle 7 = .ok (.aload_n 0, 1) := by decide +kernel
theorem dX2_holdStyle_8 : decode cX2_holdStyle 8 = .ok (.getfield 23, 3) := by decide +kernel
theorem dX2_holdStyle_11 : decode cX2_holdStyle 11 = .ok (.iload_n 3, 1) := by decide +kernel
theorem dX2_holdStyle_12 : decode cX2_holdStyle 12 = .ok (.aload_n 2, 1) := by decide +kernel
theorem dX2_holdStyle_13 : decode cX2_holdStyle 13 = .ok (.iload_n 1, 1) := by decide +kernel
theorem dX2_holdStyle_14 : decode cX2_holdStyle 14 = .ok (.iload_n 3, 1) := by decide +kernel
theorem dX2_holdStyle_15 : decode cX2_holdStyle 15 = .ok (.invokevirtual 40, 3) := by decide +kernel
theorem dX2_holdStyle_18 : decode cX2_holdStyle 18 = .ok (.invokevirtual 97, 3) := by decide +kernel
theorem dX2_holdStyle_21 : decode cX2_holdStyle 21 = .ok (.iinc 3 1, 3) := by decide +kernel
theorem dX2_holdStyle_24 : decode cX2_holdStyle 24 = .ok (.goto (-22), 3) := by decide +kernel
theorem dX2_holdStyle_27 : decode cX2_holdStyle 27 = .ok (.return_, 1) := by decide +kernel
theorem dX2_addSign_0 : decode cX2_addSign 0 = .ok (.aload_n 0, 1) := by decide +kernel
theorem dX2_addSign_1 : decode cX2_addSign 1 = .ok (.getfield 53, 3) := by decide +kernel
theorem dX2_addSign_4 : decode cX2_addSign 4 = .ok (.bipush 6, 2) := by decide +kernel
theorem dX2_addSign_6 : decode cX2_addSign 6 = .ok (.imul, 1) := by decide +kernel
theorem dX2_addSign_7 : decode cX2_addSign 7 = .ok (.istore_n 2, 1) := by decide +kernel
theorem dX2_addSign_8 : decode cX2_addSign 8 = .ok (.aload_n 0, 1) := by decide +kernel
theorem dX2_addSign_9 : decode cX2_addSign 9 = .ok (.getfield 56, 3) := by decide +kernel
theorem dX2_addSign_12 : decode cX2_addSign 12 = .ok (.iconst 1, 1) := by decide +kernel
theorem dX2_addSign_13 : decode cX2_addSign 13 = .ok (.isub, 1) := by decide +kernel
theorem dX2_addSign_14 : decode cX2_addSign 14 = .ok (.istore_n 3, 1) := by decide +kernel
theorem dX2_addSign_15 : decode cX2_addSign 15 = .ok (.aload_n 0, 1) := by decide +kernel
theorem dX2_addSign_16 : decode cX2_addSign 16 = .ok (.getfield 14, 3) := by decide +kernel
theorem dX2_addSign_19 : decode cX2_addSign 19 = .ok (.iload_n 2, 1) := by decide +kernel
theorem dX2_addSign_20 : decode cX2_addSign 20 = .ok (.iconst 0, 1) := by decide +kernel
theorem dX2_addSign_21 : decode cX2_addSign 21 = .ok (.iadd, 1) := by decide +kernel
theorem dX2_addSign_22 : decode cX2_addSign 22 = .ok (.iload_n 1, 1) := by decide +kernel
theorem dX2_addSign_23 : decode cX2_addSign 23 = .ok (.invokevirtual 97, 3) := by decide +kernel
theorem dX2_addSign_26 : decode cX2_addSign 26 = .ok (.iconst 0, 1) := by decide +kernel
theorem dX2_addSign_27 : decode cX2_addSign 27 = .ok (.istore 4, 2) := by decide +kernel
theorem dX2_addSign_29 : decode cX2_addSign 29 = .ok (.iload 4, 2) := by decide +kernel
theorem dX2_addSign_31 : decode cX2_addSign 31 = .ok (.iconst 4, 1) := by decide +kernel
theorem dX2_addSign_32 : decode cX2_addSign 32 = .ok (.if_icmp .ge 31, 3) := by decide +kernel
theorem dX2_addSign_35 : decode cX2_addSign 35 = .ok (.aload_n 0, 1) := by decide +kernel
theorem dX2_addSign_36 : decode cX2_addSign 36 = .ok (.getfield 14, 3) := by decide +kernel
theorem dX2_addSign_39 : decode cX2_addSign 39 = .ok (.iload_n 2, 1) := by decide +kernel
theorem dX2_addSign_40 : decode cX2_addSign 40 = .ok (.iconst 1, 1) := by decide +kernel
theorem dX2_addSign_41 : decode cX2_addSign 41 = .ok (.iadd, 1) := by decide +kernel
theorem dX2_addSign_42 : decode cX2_addSign 42 = .ok (.iload 4, 2) := by decide +kernel
theorem dX2_addSign_44 : decode cX2_addSign 44 = .ok (.iadd, 1) := by decide +kernel
theorem dX2_addSign_45 : decode cX2_addSign 45 = .ok (.aload_n 0, 1) := by decide +kernel
theorem dX2_addSign_46 : decode cX2_addSign 46 = .ok (.getfield 23, 3) := by decide +kernel
theorem dX2_addSign_49 : decode cX2_addSign 49 = .ok (.iload 4, 2) := by decide +kernel
theorem dX2_addSign_51 : decode cX2_addSign 51 = .ok (.invokevirtual 81, 3) := by decide +kernel
theorem dX2_addSign_54 : decode cX2_addSign 54 = .ok (.invokevirtual 97, 3) := by decide +kernel
theorem dX2_addSign_57 : decode cX2_addSign 57 = .ok (.iinc 4 1, 3) := by decide +kernel
theorem dX2_addSign_60 : decode cX2_addSign 60 = .ok (.goto (-31), 3) := by decide +kernel
theorem dX2_addSign_63 : decode cX2_addSign 63 = .ok (.aload_n 0, 1) := by decide +kernel
theorem dX2_addSign_64 : decode cX2_addSign 64 = .ok (.getfield 14, 3) := by decide +kernel
theorem dX2_addSign_67 : decode cX2_addSign 67 = .ok (.iload_n 2, 1) := by decide +kernel
theorem dX2_addSign_68 : decode cX2_addSign 68 = .ok (.iconst 5, 1) := by decide +kernel
theorem dX2_addSign_69 : decode cX2_addSign 69 = .ok (.iadd, 1) := by decide +kernel
theorem dX2_addSign_70 : decode cX2_addSign 70 = .ok (.iload_n 3, 1) := by decide +kernel
theorem dX2_addSign_71 : decode cX2_addSign 71 = .ok (.ifCond .ge 8, 3) := by decide +kernel
theorem dX2_addSign_74 : decode cX2_addSign 74 = .ok (.bipush (-9), 2) := by decide +kernel
theorem dX2_addSign_76 : decode cX2_addSign 76 = .ok (.goto 4, 3) := by decide +kernel
theorem dX2_addSign_79 : decode cX2_addSign 79 = .ok (.iload_n 3, 1) := by decide +kernel
theorem dX2_addSign_80 : decode cX2_addSign 80 = .ok (.invokevirtual 97, 3) := by decide +kernel
theorem dX2_addSign_83 : decode cX2_addSign 83 = .ok (.iload_n 3, 1) := by decide +kernel
theorem dX2_addSign_84 : decode cX2_addSign 84 = .ok (.ifCond .lt 30, 3) := by decide +kernel
theorem dX2_addSign_87 : decode cX2_addSign 87 = .ok (.iload_n 3, 1) := by decide +kernel
theorem dX2_addSign_88 : decode cX2_addSign 88 = .ok (.iconst 3, 1) := by decide +kernel
theorem dX2_addSign_89 : decode cX2_addSign 89 = .ok (.imul, 1) := by decide +kernel
theorem dX2_addSign_90 : decode cX2_addSign 90 = .ok (.iconst 2, 1) := by decide +kernel
theorem dX2_addSign_91 : decode cX2_addSign 91 = .ok (.iadd, 1) := by decide +kernel
theorem dX2_addSign_92 : decode cX2_addSign 92 = .ok (.istore 4, 2) := by decide +kernel
theorem dX2_addSign_94 : decode cX2_addSign 94 = .ok (.aload_n 0, 1) := by decide +kernel
theorem dX2_addSign_95 : decode cX2_addSign 95 = .ok (.getfield 20, 3) := by decide +kernel
theorem dX2_addSign_98 : decode cX2_addSign 98 = .ok (.iload 4, 2) := by decide +kernel
theorem dX2_addSign_100 : decode cX2_addSign 100 = .ok (.aload_n 0, 1) := by decide +kernel
theorem dX2_addSign_101 : decode cX2_addSign 101 = .ok (.getfield 20, 3) := by decide +kernel
theorem dX2_addSign_104 : decode cX2_addSign 104 = .ok (.iload 4, 2) := by decide +kernel
theorem dX2_addSign_106 : decode cX2_addSign 106 = .ok (.invokevirtual 81, 3) := by decide +kernel
theorem dX2_addSign_109 : decode cX2_addSign 109 = .ok (.iconst 1, 1) := by decide +kernel
theorem dX2_addSign_110 : decode cX2_addSign 110 = .ok (.iadd, 1) := by decide +kernel
theorem dX2_addSign_111 : decode cX2_addSign 111 = .ok (.invokevirtual 97, 3) := by decide +kernel
theorem dX2_addSign_114 : decode cX2_addSign 114 = .ok (.aload_n 0, 1) := by decide +kernel
theorem dX2_addSign_115 : decode cX2_addSign 115 = .ok (.aload_n 0, 1) := by decide +kernel
theorem dX2_addSign_116 : decode cX2_addSign 116 = .ok (.getfield 62, 3) := by decide +kernel
theorem dX2_addSign_119 : decode cX2_addSign 119 = .ok (.aload_n 0, 1) := by decide +kernel
theorem dX2_addSign_120 : decode cX2_addSign 120 = .ok (.getfield 23, 3) := by decide +kernel
theorem dX2_addSign_123 : decode cX2_addSign 123 = .ok (.iconst 0, 1) := by decide +kernel
theorem dX2_addSign_124 : decode cX2_addSign 124 = .ok (.invokevirtual 81, 3) := by decide +kernel
theorem dX2_addSign_127 : decode cX2_addSign 127 = .ok (.invokestatic 101, 3) := by decide +kernel
theorem dX2_addSign_130 : decode cX2_addSign 130 = .ok (.putfield 62, 3) := by decide +kernel
theorem dX2_addSign_133 : decode cX2_addSign 133 = .ok (.aload_n 0, 1) := by decide +kernel
theorem dX2_addSign_134 : decode cX2_addSign 134 = .ok (.dup, 1) := by decide +kernel
theorem dX2_addSign_135 : decode cX2_addSign 135 = .ok (.getfield 53, 3) := by decide +kernel
theorem dX2_addSign_138 : decode cX2_addSign 138 = .ok (.iconst 1, 1) := by decide +kernel
theorem dX2_addSign_139 : decode cX2_addSign 139 = .ok (.iadd, 1) := by decide +kernel
theorem dX2_addSign_140 : decode cX2_addSign 140 = .ok (.putfield 53, 3) := by decide +kernel
theorem dX2_addSign_143 : decode cX2_addSign 143 = .ok (.return_, 1) := by decide +kernel
theorem dX2_addSyllable_0 : decode cX2_addSyllable 0 = .ok (.aload_n 0, 1) := by decide +kernel
theorem dX2_addSyllable_1 : decode cX2_addSyllable 1 = .ok (.getfield 56, 3) := by decide +kernel
theorem dX2_addSyllable_4 : decode cX2_addSyllable 4 = .ok (.iconst 3, 1) := by decide +kernel
theorem dX2_addSyllable_5 : decode cX2_addSyllable 5 = .ok (.imul, 1) := by decide +kernel
theorem dX2_addSyllable_6 : decode cX2_addSyllable 6 = .ok (.istore_n 2, 1) := by decide +kernel
theorem dX2_addSyllable_7 : decode cX2_addSyllable 7 = .ok (.aload_n 0, 1) := by decide +kernel
theorem dX2_addSyllable_8 : decode cX2_addSyllable 8 = .ok (.getfield 20, 3) := by decide +kernel
theorem dX2_addSyllable_11 : decode cX2_addSyllable 11 = .ok (.iload_n 2, 1) := by decide +kernel
theorem dX2_addSyllable_12 : decode cX2_addSyllable 12 = .ok (.aload_n 0, 1) := by decide +kernel
theorem dX2_addSyllable_13 : decode cX2_addSyllable 13 = .ok (.getfield 32, 3) := by decide +kernel
theorem dX2_addSyllable_16 : decode cX2_addSyllable 16 = .ok (.aload_n 0, 1) := by decide +kernel
theorem dX2_addSyllable_17 : decode cX2_addSyllable 17 = .ok (.getfield 59, 3) := by decide +kernel
theorem dX2_addSyllable_20 : decode cX2_addSyllable 20 = .ok (.iadd, 1) := by decide +kernel
theorem dX2_addSyllable_21 : decode cX2_addSyllable 21 = .ok (.invokevirtual 97, 3) := by decide +kernel
theorem dX2_addSyllable_24 : decode cX2_addSyllable 24 = .ok (.aload_n 0, 1) := by decide +kernel
theorem dX2_addSyllable_25 : decode cX2_addSyllable 25 = .ok (.getfield 20, 3) := by decide +kernel
theorem dX2_addSyllable_28 : decode cX2_addSyllable 28 = .ok (.iload_n 2, 1) := by decide +kernel
theorem dX2_addSyllable_29 : decode cX2_addSyllable 29 = .ok (.iconst 1, 1) := by decide +kernel
theorem dX2_addSyllable_30 : decode cX2_addSyllable 30 = .ok (.iadd, 1) := by decide +kernel
theorem dX2_addSyllable_31 : decode cX2_addSyllable 31 = .ok (.iload_n 1, 1) := by decide +kernel
theorem dX2_addSyllable_32 : decode cX2_addSyllable 32 = .ok (.invokevirtual 97, 3) := by decide +kernel
theorem dX2_addSyllable_35 : decode cX2_addSyllable 35 = .ok (.aload_n 0, 1) := by decide +kernel
theorem dX2_addSyllable_36 : decode cX2_addSyllable 36 = .ok (.getfield 20, 3) := by decide +kernel
theorem dX2_addSyllable_39 : decode cX2_addSyllable 39 = .ok (.iload_n 2, 1) := by decide +kernel
theorem dX2_addSyllable_40 : decode cX2_addSyllable 40 = .ok (.iconst 2, 1) := by decide +kernel
theorem dX2_addSyllable_41 : decode cX2_addSyllable 41 = .ok (.iadd, 1) := by decide +kernel
theorem dX2_addSyllable_42 : decode cX2_addSyllable 42 = .ok (.iconst 0, 1) := by decide +kernel
theorem dX2_addSyllable_43 : decode cX2_addSyllable 43 = .ok (.invokevirtual 97, 3) := by decide +kernel
theorem dX2_addSyllable_46 : decode cX2_addSyllable 46 = .ok (.aload_n 0, 1) := by decide +kernel
theorem dX2_addSyllable_47 : decode cX2_addSyllable 47 = .ok (.dup, 1) := by decide +kernel
theorem dX2_addSyllable_48 : decode cX2_addSyllable 48 = .ok (.getfield 59, 3) := by decide +kernel
theorem dX2_addSyllable_51 : decode cX2_addSyllable 51 = .ok (.iload_n 1, 1) := by decide +kernel
theorem dX2_addSyllable_52 : decode cX2_addSyllable 52 = .ok (.iadd, 1) := by decide +kernel
theorem dX2_addSyllable_53 : decode cX2_addSyllable 53 = .ok (.putfield 59, 3) := by decide +kernel
theorem dX2_addSyllable_56 : decode cX2_addSyllable 56 = .ok (.aload_n 0, 1) := by decide +kernel
theorem dX2_addSyllable_57 : decode cX2_addSyllable 57 = .ok (.dup, 1) := by decide +kernel
theorem dX2_addSyllable_58 : decode cX2_addSyllable 58 = .ok (.getfield 56, 3) := by decide +kernel
theorem dX2_addSyllable_61 : decode cX2_addSyllable 61 = .ok (.iconst 1, 1) := by decide +kernel
theorem dX2_addSyllable_62 : decode cX2_addSyllable 62 = .ok (.iadd, 1) := by decide +kernel
theorem dX2_addSyllable_63 : decode cX2_addSyllable 63 = .ok (.putfield 56, 3) := by decide +kernel
theorem dX2_addSyllable_66 : decode cX2_addSyllable 66 = .ok (.return_, 1) := by decide +kernel
theorem dX2_hasSign_0 : decode cX2_hasSign 0 = .ok (.iload_n 1, 1) := by decide +kernel
theorem dX2_hasSign_1 : decode cX2_hasSign 1 = .ok (.ifCond .lt 15, 3) := by decide +kernel
theorem dX2_hasSign_4 : decode cX2_hasSign 4 = .ok (.iload_n 1, 1) := by decide +kernel
theorem dX2_hasSign_5 : decode cX2_hasSign 5 = .ok (.aload_n 0, 1) := by decide +kernel
theorem dX2_hasSign_6 : decode cX2_hasSign 6 = .ok (.getfield 53, 3) := by decide +kernel
theorem dX2_hasSign_9 : decode cX2_hasSign 9 = .ok (.if_icmp .ge 7, 3) := by decide +kernel
theorem dX2_hasSign_12 : decode cX2_hasSign 12 = .ok (.iconst 1, 1) := by decide +kernel
theorem dX2_hasSign_13 : decode cX2_hasSign 13 = .ok (.goto 4, 3) := by decide +kernel
theorem dX2_hasSign_16 : decode cX2_hasSign 16 = .ok (.iconst 0, 1) := by decide +kernel
theorem dX2_hasSign_17 : decode cX2_hasSign 17 = .ok (.ireturn, 1) := by decide +kernel
theorem dX2_signNumber_0 : decode cX2_signNumber 0 = .ok (.aload_n 0, 1) := by decide +kernel
theorem dX2_signNumber_1 : decode cX2_signNumber 1 = .ok (.getfield 14, 3) := by decide +kernel
theorem dX2_signNumber_4 : decode cX2_signNumber 4 = .ok (.iload_n 1, 1) := by decide +kernel
theorem dX2_signNumber_5 : decode cX2_signNumber 5 = .ok (.bipush 6, 2) := by decide +kernel
theorem dX2_signNumber_7 : decode cX2_signNumber 7 = .ok (.imul, 1) := by decide +kernel
theorem dX2_signNumber_8 : decode cX2_signNumber 8 = .ok (.iload_n 2, 1) := by decide +kernel
theorem dX2_signNumber_9 : decode cX2_signNumber 9 = .ok (.iadd, 1) := by decide +kernel
theorem dX2_signNumber_10 : decode cX2_signNumber 10 = .ok (.invokevirtual 81, 3) := by decide +kernel
theorem dX2_signNumber_13 : decode cX2_signNumber 13 = .ok (.ireturn, 1) := by decide +kernel
theorem dX2_hasSyllable_0 : decode cX2_hasSyllable 0 = .ok (.iload_n 1, 1) := by decide +kernel
theorem dX2_hasSyllable_1 : decode cX2_hasSyllable 1 = .ok (.ifCond .lt 15, 3) := by decide +kernel
theorem dX2_hasSyllable_4 : decode cX2_hasSyllable 4 = .ok (.iload_n 1, 1) := by decide +kernel
theorem dX2_hasSyllable_5 : decode cX2_hasSyllable 5 = .ok (.aload_n 0, 1) := by decide +kernel
theorem dX2_hasSyllable_6 : decode cX2_hasSyllable 6 = .ok (.getfield 56, 3) := by decide +kernel
theorem dX2_hasSyllable_9 : decode cX2_hasSyllable 9 = .ok (.if_icmp .ge 7, 3) := by decide +kernel
theorem dX2_hasSyllable_12 : decode cX2_hasSyllable 12 = .ok (.iconst 1, 1) := by decide +kernel
theorem dX2_hasSyllable_13 : decode cX2_hasSyllable 13 = .ok (.goto 4, 3) := by decide +kernel
theorem dX2_hasSyllable_16 : decode cX2_hasSyllable 16 = .ok (.iconst 0, 1) := by decide +kernel
theorem dX2_hasSyllable_17 : decode cX2_hasSyllable 17 = .ok (.ireturn, 1) := by decide +kernel
theorem dX2_syllableNumber_0 : decode cX2_syllableNumber 0 = .ok (.aload_n 0, 1) := by decide +kernel
theorem dX2_syllableNumber_1 : decode cX2_syllableNumber 1 = .ok (.getfield 20, 3) := by decide +kernel
theorem dX2_syllableNumber_4 : decode cX2_syllableNumber 4 = .ok (.iload_n 1, 1) := by decide +kernel
theorem dX2_syllableNumber_5 : decode cX2_syllableNumber 5 = .ok (.iconst 3, 1) := by decide +kernel
theorem dX2_syllableNumber_6 : decode cX2_syllableNumber 6 = .ok (.imul, 1) := by decide +kernel
theorem dX2_syllableNumber_7 : decode cX2_syllableNumber 7 = .ok (.iload_n 2, 1) := by decide +kernel
theorem dX2_syllableNumber_8 : decode cX2_syllableNumber 8 = .ok (.iadd, 1) := by decide +kernel
theorem dX2_syllableNumber_9 : decode cX2_syllableNumber 9 = .ok (.invokevirtual 81, 3) := by decide +kernel
theorem dX2_syllableNumber_12 : decode cX2_syllableNumber 12 = .ok (.ireturn, 1) := by decide +kernel
theorem dX2_isShownAt_0 : decode cX2_isShownAt 0 = .ok (.aload_n 0, 1) := by decide +kernel
theorem dX2_isShownAt_1 : decode cX2_isShownAt 1 = .ok (.getfield 32, 3) := by decide +kernel
theorem dX2_isShownAt_4 : decode cX2_isShownAt 4 = .ok (.iload_n 1, 1) := by decide +kernel
theorem dX2_isShownAt_5 : decode cX2_isShownAt 5 = .ok (.if_icmp .gt 15, 3) := by decide +kernel
theorem dX2_isShownAt_8 : decode cX2_isShownAt 8 = .ok (.iload_n 1, 1) := by decide +kernel
theorem dX2_isShownAt_9 : decode cX2_isShownAt 9 = .ok (.aload_n 0, 1) := by decide +kernel
theorem dX2_isShownAt_10 : decode cX2_isShownAt 10 = .ok (.getfield 36, 3) := by decide +kernel
theorem dX2_isShownAt_13 : decode cX2_isShownAt 13 = .ok (.if_icmp .ge 7, 3) := by decide +kernel
theorem dX2_isShownAt_16 : decode cX2_isShownAt 16 = .ok (.iconst 1, 1) := by decide +kernel
theorem dX2_isShownAt_17 : decode cX2_isShownAt 17 = .ok (.goto 4, 3) := by decide +kernel
theorem dX2_isShownAt_20 : decode cX2_isShownAt 20 = .ok (.iconst 0, 1) := by decide +kernel
theorem dX2_isShownAt_21 : decode cX2_isShownAt 21 = .ok (.ireturn, 1) := by decide +kernel
theorem dX2_isSungAt_0 : decode cX2_isSungAt 0 = .ok (.aload_n 0, 1) := by decide +kernel
theorem dX2_isSungAt_1 : decode cX2_isSungAt 1 = .ok (.iload_n 1, 1) := by decide +kernel
theorem dX2_isSungAt_2 : decode cX2_isSungAt 2 = .ok (.iconst 5, 1) := by decide +kernel
theorem dX2_isSungAt_3 : decode cX2_isSungAt 3 = .ok (.invokevirtual 106, 3) := by decide +kernel
theorem dX2_isSungAt_6 : decode cX2_isSungAt 6 = .ok (.istore_n 3, 1) := by decide +kernel
theorem dX2_isSungAt_7 : decode cX2_isSungAt 7 = .ok (.iload_n 3, 1) := by decide +kernel
theorem dX2_isSungAt_8 : decode cX2_isSungAt 8 = .ok (.bipush (-9), 2) := by decide +kernel
theorem dX2_isSungAt_10 : decode cX2_isSungAt 10 = .ok (.if_icmp .eq 17, 3) := by decide +kernel
theorem dX2_isSungAt_13 : decode cX2_isSungAt 13 = .ok (.aload_n 0, 1) := by decide +kernel
theorem dX2_isSungAt_14 : decode cX2_isSungAt 14 = .ok (.iload_n 3, 1) := by decide +kernel
theorem dX2_isSungAt_15 : decode cX2_isSungAt 15 = .ok (.iconst 0, 1) := by decide +kernel
theorem dX2_isSungAt_16 : decode cX2_isSungAt 16 = .ok (.invokevirtual 109, 3) := by decide +kernel
theorem dX2_isSungAt_19 : decode cX2_isSungAt 19 = .ok (.iload_n 2, 1) := by decide +kernel
theorem dX2_isSungAt_20 : decode cX2_isSungAt 20 = .ok (.if_icmp .gt 7, 3) := by decide +kernel
theorem dX2_isSungAt_23 : decode cX2_isSungAt 23 = .ok (.iconst 1, 1) := by decide +kernel
theorem dX2_isSungAt_24 : decode cX2_isSungAt 24 = .ok (.goto 4, 3) := by decide +kernel
theorem dX2_isSungAt_27 : decode cX2_isSungAt 27 = .ok (.iconst 0, 1) := by decide +kernel
theorem dX2_isSungAt_28 : decode cX2_isSungAt 28 = .ok (.ireturn, 1) := by decide +kernel
theorem dX2_countSungAt_0 : decode cX2_countSungAt 0 = .ok (.iconst 0, 1) := by decide +kernel
theorem dX2_countSungAt_1 : decode cX2_countSungAt 1 = .ok (.istore_n 2, 1) := by decide +kernel
theorem dX2_countSungAt_2 : decode cX2_countSungAt 2 = .ok (.iconst 0, 1) := by decide +kernel
theorem dX2_countSungAt_3 : decode cX2_countSungAt 3 = .ok (.istore_n 3, 1) := by decide +kernel
theorem dX2_countSungAt_4 : decode cX2_countSungAt 4 = .ok (.iload_n 3, 1) := by decide +kernel
theorem dX2_countSungAt_5 : decode cX2_countSungAt 5 = .ok (.aload_n 0, 1) := by decide +kernel
theorem dX2_countSungAt_6 : decode cX2_countSungAt 6 = .ok (.getfield 53, 3) := by decide +kernel
theorem dX2_countSungAt_9 : decode cX2_countSungAt 9 = .ok (.if_icmp .ge 21, 3) := by decide +kernel
theorem dX2_countSungAt_12 : decode cX2_countSungAt 12 = .ok (.aload_n 0, 1) := by decide +kernel
theorem dX2_countSungAt_13 : decode cX2_countSungAt 13 = .ok (.iload_n 3, 1) := by decide +kernel
theorem dX2_countSungAt_14 : decode cX2_countSungAt 14 = .ok (.iload_n 1, 1) := by decide +kernel
theorem dX2_countSungAt_15 : decode cX2_countSungAt 15 = .ok (.invokevirtual 112, 3) := by decide +kernel
theorem dX2_countSungAt_18 : decode cX2_countSungAt 18 = .ok (.ifCond .eq 6, 3) := by decide +kernel
theorem dX2_countSungAt_21 : decode cX2_countSungAt 21 = .ok (.iinc 2 1, 3) := by decide +kernel
theorem dX2_countSungAt_24 : decode cX2_countSungAt 24 = .ok (.iinc 3 1, 3) := by decide +kernel
theorem dX2_countSungAt_27 : decode cX2_countSungAt 27 = .ok (.goto (-23), 3) := by decide +kernel
theorem dX2_countSungAt_30 : decode cX2_countSungAt 30 = .ok (.iload_n 2, 1) := by decide +kernel
theorem dX2_countSungAt_31 : decode cX2_countSungAt 31 = .ok (.ireturn, 1) := by decide +kernel
theorem dX2_countUnlike_0 : decode cX2_countUnlike 0 = .ok (.iconst 0, 1) := by decide +kernel
theorem dX2_countUnlike_1 : decode cX2_countUnlike 1 = .ok (.istore_n 2, 1) := by decide +kernel
theorem dX2_countUnlike_2 : decode cX2_countUnlike 2 = .ok (.iconst 0, 1) := by decide +kernel
theorem dX2_countUnlike_3 : decode cX2_countUnlike 3 = .ok (.istore_n 3, 1) := by decide +kernel
theorem dX2_countUnlike_4 : decode cX2_countUnlike 4 = .ok (.iload_n 3, 1) := by decide +kernel
theorem dX2_countUnlike_5 : decode cX2_countUnlike 5 = .ok (.aload_n 0, 1) := by decide +kernel
theorem dX2_countUnlike_6 : decode cX2_countUnlike 6 = .ok (.getfield 53, 3) := by decide +kernel
theorem dX2_countUnlike_9 : decode cX2_countUnlike 9 = .ok (.if_icmp .ge 21, 3) := by decide +kernel
theorem dX2_countUnlike_12 : decode cX2_countUnlike 12 = .ok (.aload_n 0, 1) := by decide +kernel
theorem dX2_countUnlike_13 : decode cX2_countUnlike 13 = .ok (.iload_n 3, 1) := by decide +kernel
theorem dX2_countUnlike_14 : decode cX2_countUnlike 14 = .ok (.aload_n 1, 1) := by decide +kernel
theorem dX2_countUnlike_15 : decode cX2_countUnlike 15 = .ok (.invokevirtual 116, 3) := by decide +kernel
theorem dX2_countUnlike_18 : decode cX2_countUnlike 18 = .ok (.ifCond .eq 6, 3) := by decide +kernel
theorem dX2_countUnlike_21 : decode cX2_countUnlike 21 = .ok (.iinc 2 1, 3) := by decide +kernel
theorem dX2_countUnlike_24 : decode cX2_countUnlike 24 = .ok (.iinc 3 1, 3) := by decide +kernel
theorem dX2_countUnlike_27 : decode cX2_countUnlike 27 = .ok (.goto (-23), 3) := by decide +kernel
theorem dX2_countUnlike_30 : decode cX2_countUnlike 30 = .ok (.iload_n 2, 1) := by decide +kernel
theorem dX2_countUnlike_31 : decode cX2_countUnlike 31 = .ok (.ireturn, 1) := by decide +kernel
theorem dX2_isUnlike_0 : decode cX2_isUnlike 0 = .ok (.iconst 0, 1) := by decide +kernel
theorem dX2_isUnlike_1 : decode cX2_isUnlike 1 = .ok (.istore_n 3, 1) := by decide +kernel
theorem dX2_isUnlike_2 : decode cX2_isUnlike 2 = .ok (.iload_n 3, 1) := by decide +kernel
theorem dX2_isUnlike_3 : decode cX2_isUnlike 3 = .ok (.iconst 4, 1) := by decide +kernel
theorem dX2_isUnlike_4 : decode cX2_isUnlike 4 = .ok (.if_icmp .ge 33, 3) := by decide +kernel
theorem dX2_isUnlike_7 : decode cX2_isUnlike 7 = .ok (.iconst 1, 1) := by decide +kernel
theorem dX2_isUnlike_8 : decode cX2_isUnlike 8 = .ok (.iload_n 3, 1) := by decide +kernel
theorem dX2_isUnlike_9 : decode cX2_isUnlike 9 = .ok (.iadd, 1) := by decide +kernel
theorem dX2_isUnlike_10 : decode cX2_isUnlike 10 = .ok (.istore 4, 2) := by decide +kernel
theorem dX2_isUnlike_12 : decode cX2_isUnlike 12 = .ok (.aload_n 0, 1) := by decide +kernel
theorem dX2_isUnlike_13 : decode cX2_isUnlike 13 = .ok (.iload_n 1, 1) := by decide +kernel
theorem dX2_isUnlike_14 : decode cX2_isUnlike 14 = .ok (.iload 4, 2) := by decide +kernel
theorem dX2_isUnlike_16 : decode cX2_isUnlike 16 = .ok (.invokevirtual 106, 3) := by decide +kernel
theorem dX2_isUnlike_19 : decode cX2_isUnlike 19 = .ok (.aload_n 2, 1) := by decide +kernel
theorem dX2_isUnlike_20 : decode cX2_isUnlike 20 = .ok (.iload_n 1, 1) := by decide +kernel
theorem dX2_isUnlike_21 : decode cX2_isUnlike 21 = .ok (.iload 4, 2) := by decide +kernel
theorem dX2_isUnlike_23 : decode cX2_isUnlike 23 = .ok (.invokevirtual 106, 3) := by decide +kernel
theorem dX2_isUnlike_26 : decode cX2_isUnlike 26 = .ok (.if_icmp .eq 5, 3) := by decide +kernel
theorem dX2_isUnlike_29 : decode cX2_isUnlike 29 = .ok (.iconst 1, 1) := by decide +kernel
theorem dX2_isUnlike_30 : decode cX2_isUnlike 30 = .ok (.ireturn, 1) := by decide +kernel
theorem dX2_isUnlike_31 : decode cX2_isUnlike 31 = .ok (.iinc 3 1, 3) := by decide +kernel
theorem dX2_isUnlike_34 : decode cX2_isUnlike 34 = .ok (.goto (-32), 3) := by decide +kernel
theorem dX2_isUnlike_37 : decode cX2_isUnlike 37 = .ok (.iconst 0, 1) := by decide +kernel
theorem dX2_isUnlike_38 : decode cX2_isUnlike 38 = .ok (.ireturn, 1) := by decide +kernel
theorem dX2_blocks_0 : decode cX2_blocks 0 = .ok (.aload_n 0, 1) := by decide +kernel
theorem dX2_blocks_1 : decode cX2_blocks 1 = .ok (.getfield 46, 3) := by decide +kernel
theorem dX2_blocks_4 : decode cX2_blocks 4 = .ok (.aload_n 1, 1) := by decide +kernel
theorem dX2_blocks_5 : decode cX2_blocks 5 = .ok (.getfield 46, 3) := by decide +kernel
theorem dX2_blocks_8 : decode cX2_blocks 8 = .ok (.if_icmp .ne 44, 3) := by decide +kernel
theorem dX2_blocks_11 : decode cX2_blocks 11 = .ok (.aload_n 1, 1) := by decide +kernel
theorem dX2_blocks_12 : decode cX2_blocks 12 = .ok (.getfield 32, 3) := by decide +kernel
theorem dX2_blocks_15 : decode cX2_blocks 15 = .ok (.aload_n 0, 1) := by decide +kernel
theorem dX2_blocks_16 : decode cX2_blocks 16 = .ok (.getfield 36, 3) := by decide +kernel
theorem dX2_blocks_19 : decode cX2_blocks 19 = .ok (.if_icmp .ge 33, 3) := by decide +kernel
theorem dX2_blocks_22 : decode cX2_blocks 22 = .ok (.iload_n 2, 1) := by decide +kernel
theorem dX2_blocks_23 : decode cX2_blocks 23 = .ok (.aload_n 0, 1) := by decide +kernel
theorem dX2_blocks_24 : decode cX2_blocks 24 = .ok (.getfield 120, 3) := by decide +kernel
theorem dX2_blocks_27 : decode cX2_blocks 27 = .ok (.aload_n 0, 1) := by decide +kernel
theorem dX2_blocks_28 : decode cX2_blocks 28 = .ok (.getfield 62, 3) := by decide +kernel
theorem dX2_blocks_31 : decode cX2_blocks 31 = .ok (.iadd, 1) := by decide +kernel
theorem dX2_blocks_32 : decode cX2_blocks 32 = .ok (.if_icmp .ge 20, 3) := by decide +kernel
theorem dX2_blocks_35 : decode cX2_blocks 35 = .ok (.aload_n 0, 1) := by decide +kernel
theorem dX2_blocks_36 : decode cX2_blocks 36 = .ok (.getfield 120, 3) := by decide +kernel
theorem dX2_blocks_39 : decode cX2_blocks 39 = .ok (.iload_n 2, 1) := by decide +kernel
theorem dX2_blocks_40 : decode cX2_blocks 40 = .ok (.aload_n 1, 1) := by decide +kernel
theorem dX2_blocks_41 : decode cX2_blocks 41 = .ok (.getfield 62, 3) := by decide +kernel
theorem dX2_blocks_44 : decode cX2_blocks 44 = .ok (.iadd, 1) := by decide +kernel
theorem dX2_blocks_45 : decode cX2_blocks 45 = .ok (.if_icmp .ge 7, 3) := by decide +kernel
theorem dX2_blocks_48 : decode cX2_blocks 48 = .ok (.iconst 1, 1) := by decide +kernel
theorem dX2_blocks_49 : decode cX2_blocks 49 = .ok (.goto 4, 3) := by decide +kernel
theorem dX2_blocks_52 : decode cX2_blocks 52 = .ok (.iconst 0, 1) := by decide +kernel
theorem dX2_blocks_53 : decode cX2_blocks 53 = .ok (.ireturn, 1) := by decide +kernel
theorem dX2_isAheadOf_0 : decode cX2_isAheadOf 0 = .ok (.aload_n 0, 1) := by decide +kernel
theorem dX2_isAheadOf_1 : decode cX2_isAheadOf 1 = .ok (.getfield 46, 3) := by decide +kernel
theorem dX2_isAheadOf_4 : decode cX2_isAheadOf 4 = .ok (.aload_n 1, 1) := by decide +kernel
theorem dX2_isAheadOf_5 : decode cX2_isAheadOf 5 = .ok (.getfield 46, 3) := by decide +kernel
theorem dX2_isAheadOf_8 : decode cX2_isAheadOf 8 = .ok (.if_icmp .lt 25, 3) := by decide +kernel
theorem dX2_isAheadOf_11 : decode cX2_isAheadOf 11 = .ok (.aload_n 0, 1) := by decide +kernel
theorem dX2_isAheadOf_12 : decode cX2_isAheadOf 12 = .ok (.getfield 46, 3) := by decide +kernel
theorem dX2_isAheadOf_15 : decode cX2_isAheadOf 15 = .ok (.aload_n 1, 1) := by decide +kernel
theorem dX2_isAheadOf_16 : decode cX2_isAheadOf 16 = .ok (.getfield 46, 3) := by decide +kernel
theorem dX2_isAheadOf_19 : decode cX2_isAheadOf 19 = .ok (.if_icmp .ne 18, 3) := by decide +kernel
theorem dX2_isAheadOf_22 : decode cX2_isAheadOf 22 = .ok (.aload_n 0, 1) := by decide +kernel
theorem dX2_isAheadOf_23 : decode cX2_isAheadOf 23 = .ok (.getfield 120, 3) := by decide +kernel
theorem dX2_isAheadOf_26 : decode cX2_isAheadOf 26 = .ok (.aload_n 1, 1) := by decide +kernel
theorem dX2_isAheadOf_27 : decode cX2_isAheadOf 27 = .ok (.getfield 120, 3) := by decide +kernel
theorem dX2_isAheadOf_30 : decode cX2_isAheadOf 30 = .ok (.if_icmp .ge 7, 3) := by decide +kernel
theorem dX2_isAheadOf_33 : decode cX2_isAheadOf 33 = .ok (.iconst 1, 1) := by decide +kernel
theorem dX2_isAheadOf_34 : decode cX2_isAheadOf 34 = .ok (.goto 4, 3) := by decide +kernel
theorem dX2_isAheadOf_37 : decode cX2_isAheadOf 37 = .ok (.iconst 0, 1) := by decide +kernel
theorem dX2_isAheadOf_38 : decode cX2_isAheadOf 38 = .ok (.ireturn, 1) := by decide +kernel
theorem dX3_init_0 : decode cX3_init 0 = .ok (.aload_n 0, 1) := by decide +kernel
theorem dX3_init_1 : decode cX3_init 1 = .ok (.invokespecial 3, 3) := by decide +kernel
theorem dX3_init_4 : decode cX3_init 4 = .ok (.aload_n 0, 1) := by decide +kernel
theorem dX3_init_5 : decode cX3_init 5 = .ok (.bipush 16, 2) := by decide +kernel
theorem dX3_init_7 : decode cX3_init 7 = .ok (.anewarray 9, 3) := by decide +kernel
theorem dX3_init_10 : decode cX3_init 10 = .ok (.putfield 11, 3) := by decide +kernel
theorem dX3_init_13 : decode cX3_init 13 = .ok (.iconst 0, 1) := by decide +kernel
theorem dX3_init_14 : decode cX3_init 14 = .ok (.istore_n 1, 1) := by decide +kernel
theorem dX3_init_15 : decode cX3_init 15 = .ok (.iload_n 1, 1) := by decide +kernel
theorem dX3_init_16 : decode cX3_init 16 = .ok (.aload_n 0, 1) := by decide +kernel
theorem dX3_init_17 : decode cX3_init 17 = .ok (.getfield 11, 3) := by decide +kernel
theorem dX3_init_20 : decode cX3_init 20 = .ok (.arraylength, 1) := by decide +kernel
theorem dX3_init_21 : decode cX3_init 21 = .ok (.if_icmp .ge 22, 3) := by decide +kernel
theorem dX3_init_24 : decode cX3_init 24 = .ok (.aload_n 0, 1) := by decide +kernel
theorem dX3_init_25 : decode cX3_init 25 = .ok (.getfield 11, 3) := by decide +kernel
theorem dX3_init_28 : decode cX3_init 28 = .ok (.iload_n 1, 1) := by decide +kernel
theorem dX3_init_29 : decode cX3_init 29 = .ok (.new 9, 3) := by decide +kernel
theorem dX3_init_32 : decode cX3_init 32 = .ok (.dup, 1) := by decide +kernel
theorem dX3_init_33 : decode cX3_init 33 = .ok (.invokespecial 17, 3) := by decide +kernel
theorem dX3_init_36 : decode cX3_init 36 = .ok (.aastore, 1) := by decide +kernel
theorem dX3_init_37 : decode cX3_init 37 = .ok (.iinc 1 1, 3) := by decide +kernel
theorem dX3_init_40 : decode cX3_init 40 = .ok (.goto (-25), 3) := by decide +kernel
theorem dX3_init_43 : decode cX3_init 43 = .ok (.aload_n 0, 1) := by decide +kernel
theorem dX3_init_44 : decode cX3_init 44 = .ok (.iconst 0, 1) := by decide +kernel
theorem dX3_init_45 : decode cX3_init 45 = .ok (.putfield 18, 3) := by decide +kernel
theorem dX3_init_48 : decode cX3_init 48 = .ok (.aload_n 0, 1) := by decide +kernel
theorem dX3_init_49 : decode cX3_init 49 = .ok (.new 22, 3) := by decide +kernel
theorem dX3_init_52 : decode cX3_init 52 = .ok (.dup, 1) := by decide +kernel
theorem dX3_init_53 : decode cX3_init 53 = .ok (.bipush 16, 2) := by decide +kernel
theorem dX3_init_55 : decode cX3_init 55 = .ok (.invokespecial 24, 3) := by decide +kernel
theorem dX3_init_58 : decode cX3_init 58 = .ok (.putfield 27, 3) := by decide +kernel
theorem dX3_init_61 : decode cX3_init 61 = .ok (.return_, 1) := by decide +kernel
theorem dX3_draw_0 : decode cX3_draw 0 = .ok (.aload_n 0, 1) := by decide +kernel
theorem dX3_draw_1 : decode cX3_draw 1 = .ok (.aload_n 1, 1) := by decide +kernel
theorem dX3_draw_2 : decode cX3_draw 2 = .ok (.getfield 31, 3) := by decide +kernel
theorem dX3_draw_5 : decode cX3_draw 5 = .ok (.putfield 18, 3) := by decide +kernel
theorem dX3_draw_8 : decode cX3_draw 8 = .ok (.iconst 0, 1) := by decide +kernel
theorem dX3_draw_9 : decode cX3_draw 9 = .ok (.istore_n 2, 1) := by decide +kernel
theorem dX3_draw_10 : decode cX3_draw 10 = .ok (.iload_n 2, 1) := by decide +kernel
theorem dX3_draw_11 : decode cX3_draw 11 = .ok (.aload_n 0, 1) := by decide +kernel
theorem dX3_draw_12 : decode cX3_draw 12 = .ok (.getfield 18, 3) := by decide +kernel
theorem dX3_draw_15 : decode cX3_draw 15 = .ok (.if_icmp .ge 41, 3) := by decide +kernel
theorem dX3_draw_18 : decode cX3_draw 18 = .ok (.aload_n 1, 1) := by decide +kernel
theorem dX3_draw_19 : decode cX3_draw 19 = .ok (.iload_n 2, 1) := by decide +kernel
theorem dX3_draw_20 : decode cX3_draw 20 = .ok (.invokevirtual 34, 3) := by decide +kernel
theorem dX3_draw_23 : decode cX3_draw 23 = .ok (.astore_n 3, 1) := by decide +kernel
theorem dX3_draw_24 : decode cX3_draw 24 = .ok (.aload_n 0, 1) := by decide +kernel
theorem dX3_draw_25 : decode cX3_draw 25 = .ok (.iload_n 2, 1) := by decide +kernel
theorem dX3_draw_26 : decode cX3_draw 26 = .ok (.invokevirtual 38, 3) := by decide +kernel
theorem dX3_draw_29 : decode cX3_draw 29 = .ok (.astore 4, 2) := by decide +kernel
theorem dX3_draw_31 : decode cX3_draw 31 = .ok (.aload_n 3, 1) := by decide +kernel
theorem dX3_draw_32 : decode cX3_draw 32 = .ok (.ifnull 18, 3) := by decide +kernel
theorem dX3_draw_35 : decode cX3_draw 35 = .ok (.aload 4, 2) := by decide +kernel
theorem dX3_draw_37 : decode cX3_draw 37 = .ok (.ifnull 13, 3) := by decide +kernel
theorem dX3_draw_40 : decode cX3_draw 40 = .ok (.aload 4, 2) := by decide +kernel
theorem dX3_draw_42 : decode cX3_draw 42 = .ok (.aload_n 3, 1) := by decide +kernel
theorem dX3_draw_43 : decode cX3_draw 43 = .ok (.aload_n 1, 1) := by decide +kernel
theorem dX3_draw_44 : decode cX3_draw 44 = .ok (.getfield 42, 3) := by decide +kernel
theorem dX3_draw_47 : decode cX3_draw 47 = .ok (.invokevirtual 46, 3) := by decide +kernel
theorem dX3_draw_50 : decode cX3_draw 50 = .ok (.iinc 2 1, 3) := by decide +kernel
theorem dX3_draw_53 : decode cX3_draw 53 = .ok (.goto (-43), 3) := by decide +kernel
theorem dX3_draw_56 : decode cX3_draw 56 = .ok (.aload_n 0, 1) := by decide +kernel
theorem dX3_draw_57 : decode cX3_draw 57 = .ok (.invokevirtual 50, 3) := by decide +kernel
theorem dX3_draw_60 : decode cX3_draw 60 = .ok (.iconst 0, 1) := by decide +kernel
theorem dX3_draw_61 : decode cX3_draw 61 = .ok (.istore_n 2, 1) := by decide +kernel
theorem dX3_draw_62 : decode cX3_draw 62 = .ok (.iload_n 2, 1) := by decide +kernel
theorem dX3_draw_63 : decode cX3_draw 63 = .ok (.aload_n 0, 1) := by decide +kernel
theorem dX3_draw_64 : decode cX3_draw 64 = .ok (.getfield 18, 3) := by decide +kernel
theorem dX3_draw_67 : decode cX3_draw 67 = .ok (.if_icmp .ge 36, 3) := by decide +kernel
theorem dX3_draw_70 : decode cX3_draw 70 = .ok (.aload_n 0, 1) := by decide +kernel
theorem dX3_draw_71 : decode cX3_draw 71 = .ok (.aload_n 0, 1) := by decide +kernel
theorem dX3_draw_72 : decode cX3_draw 72 = .ok (.getfield 27, 3) := by decide +kernel
theorem dX3_draw_75 : decode cX3_draw 75 = .ok (.iload_n 2, 1) := by decide +kernel
theorem dX3_draw_76 : decode cX3_draw 76 = .ok (.invokevirtual 53, 3) := by decide +kernel
theorem dX3_draw_79 : decode cX3_draw 79 = .ok (.invokevirtual 38, 3) := by decide +kernel
theorem dX3_draw_82 : decode cX3_draw 82 = .ok (.astore_n 3, 1) := by decide +kernel
theorem dX3_draw_83 : decode cX3_draw 83 = .ok (.aload_n 3, 1) := by decide +kernel
theorem dX3_draw_84 : decode cX3_draw 84 = .ok (.ifnull 13, 3) := by decide +kernel
theorem dX3_draw_87 : decode cX3_draw 87 = .ok (.aload_n 3, 1) := by decide +kernel
theorem dX3_draw_88 : decode cX3_draw 88 = .ok (.aload_n 0, 1) := by decide +kernel
theorem dX3_draw_89 : decode cX3_draw 89 = .ok (.aload_n 3, 1) := by decide +kernel
theorem dX3_draw_90 : decode cX3_draw 90 = .ok (.iload_n 2, 1) := by decide +kernel
theorem dX3_draw_91 : decode cX3_draw 91 = .ok (.invokevirtual 57, 3) := by decide +kernel
theorem dX3_draw_94 : decode cX3_draw 94 = .ok (.putfield 61, 3) := by decide +kernel
theorem dX3_draw_97 : decode cX3_draw 97 = .ok (.iinc 2 1, 3) := by decide +kernel
theorem dX3_draw_100 : decode cX3_draw 100 = .ok (.goto (-38), 3) := by decide +kernel
theorem dX3_draw_103 : decode cX3_draw 103 = .ok (.return_, 1) := by decide +kernel
theorem dX3_lookAt_0 : decode cX3_lookAt 0 = .ok (.iload_n 1, 1) := by decide +kernel
theorem dX3_lookAt_1 : decode cX3_lookAt 1 = .ok (.ifCond .lt 29, 3) := by decide +kernel
theorem dX3_lookAt_4 : decode cX3_lookAt 4 = .ok (.iload_n 1, 1) := by decide +kernel
theorem dX3_lookAt_5 : decode cX3_lookAt 5 = .ok (.aload_n 0, 1) := by decide +kernel
theorem dX3_lookAt_6 : decode cX3_lookAt 6 = .ok (.getfield 18, 3) := by decide +kernel
theorem dX3_lookAt_9 : decode cX3_lookAt 9 = .ok (.if_icmp .ge 21, 3) := by decide +kernel
theorem dX3_lookAt_12 : decode cX3_lookAt 12 = .ok (.iload_n 1, 1) := by decide +kernel
theorem dX3_lookAt_13 : decode cX3_lookAt 13 = .ok (.aload_n 0, 1) := by decide +kernel
theorem dX3_lookAt_14 : decode cX3_lookAt 14 = .ok (.getfield 11, 3) := by decide +kernel
theorem dX3_lookAt_17 : decode cX3_lookAt 17 = .ok (.arraylength, 1) := by decide +kernel
theorem dX3_lookAt_18 : decode cX3_lookAt 18 = .ok (.if_icmp .ge 12, 3) := by decide +kernel
theorem dX3_lookAt_21 : decode cX3_lookAt 21 = .ok (.aload_n 0, 1) := by decide +kernel
theorem dX3_lookAt_22 : decode cX3_lookAt 22 = .ok (.getfield 11, 3) := by decide +kernel
theorem dX3_lookAt_25 : decode cX3_lookAt 25 = .ok (.iload_n 1, 1) := by decide +kernel
theorem dX3_lookAt_26 : decode cX3_lookAt 26 = .ok (.aaload, 1) := by decide +kernel
theorem dX3_lookAt_27 : decode cX3_lookAt 27 = .ok (.goto 4, 3) := by decide +kernel
theorem dX3_lookAt_30 : decode cX3_lookAt 30 = .ok (.aconst_null, 1) := by decide +kernel
theorem dX3_lookAt_31 : decode cX3_lookAt 31 = .ok (.areturn, 1) := by decide +kernel
theorem dX3_beginOf_0 : decode cX3_beginOf 0 = .ok (.aload_n 0, 1) := by decide +kernel
theorem dX3_beginOf_1 : decode cX3_beginOf 1 = .ok (.iload_n 1, 1) := by decide +kernel
theorem dX3_beginOf_2 : decode cX3_beginOf 2 = .ok (.invokevirtual 38, 3) := by decide +kernel
theorem dX3_beginOf_5 : decode cX3_beginOf 5 = .ok (.astore_n 2, 1) := by decide +kernel
theorem dX3_beginOf_6 : decode cX3_beginOf 6 = .ok (.aload_n 2, 1) := by decide +kernel
theorem dX3_beginOf_7 : decode cX3_beginOf 7 = .ok (.ifnonnull 7, 3) := by decide +kernel
theorem dX3_beginOf_10 : decode cX3_beginOf 10 = .ok (.iconst 0, 1) := by decide +kernel
theorem dX3_beginOf_11 : decode cX3_beginOf 11 = .ok (.goto 7, 3) := by decide +kernel
theorem dX3_beginOf_14 : decode cX3_beginOf 14 = .ok (.aload_n 2, 1) := by decide +kernel
theorem dX3_beginOf_15 : decode cX3_beginOf 15 = .ok (.getfield 64, 3) := by decide +kernel
theorem dX3_beginOf_18 : decode cX3_beginOf 18 = .ok (.ireturn, 1) := by decide +kernel
theorem dX3_sortByBeginnings_0 : decode cX3_sortByBeginnings 0 = .ok (.iconst 0, 1) := by decide +kernel
theorem dX3_sortByBeginnings_1 : decode cX3_sortByBeginnings 1 = .ok (.istore_n 1, 1) := by decide +kernel
theorem dX3_sortByBeginnings_2 : decode cX3_sortByBeginnings 2 = .ok (.iload_n 1, 1) := by decide +kernel
theorem dX3_sortByBeginnings_3 : decode cX3_sortByBeginnings 3 = .ok (.aload_n 0, 1) := by decide +kernel
theorem dX3_sortByBeginnings_4 : decode cX3_sortByBeginnings 4 = .ok (.getfield 18, 3) := by decide +kernel
theorem dX3_sortByBeginnings_7 : decode cX3_sortByBeginnings 7 = .ok (.if_icmp .ge 70, 3) := by decide +kernel
theorem dX3_sortByBeginnings_10 : decode cX3_sortByBeginnings 10 = .ok (.iload_n 1, 1) := by decide +kernel
theorem dX3_sortByBeginnings_11 : decode cX3_sortByBeginnings 11 = .ok (.istore_n 2, 1) := by decide +kernel
theorem dX3_sortByBeginnings_12 : decode cX3_sortByBeginnings 12 = .ok (.iload_n 2, 1) := by decide +kernel
theorem dX3_sortByBeginnings_13 : decode cX3_sortByBeginnings 13 = .ok (.ifCond .le 49, 3) := by decide +kernel
theorem dX3_sortByBeginnings_16 : decode cX3_sortByBeginnings 16 = .ok (.aload_n 0, 1) := by decide +kernel
theorem dX3_sortByBeginnings_17 : decode cX3_sortByBeginnings 17 = .ok (.aload_n 0, 1) := by decide +kernel
theorem dX3_sortByBeginnings_18 : decode cX3_sortByBeginnings 18 = .ok (.getfield 27, 3) := by decide +kernel
theorem dX3_sortByBeginnings_21 : decode cX3_sortByBeginnings 21 = .ok (.iload_n 2, 1) := by decide +kernel
theorem dX3_sortByBeginnings_22 : decode cX3_sortByBeginnings 22 = .ok (.iconst 1, 1) := by decide +kernel
theorem dX3_sortByBeginnings_23 : decode cX3_sortByBeginnings 23 = .ok (.isub, 1) := by decide +kernel
theorem dX3_sortByBeginnings_24 : decode cX3_sortByBeginnings 24 = .ok (.invokevirtual 53, 3) := by decide +kernel
theorem dX3_sortByBeginnings_27 : decode cX3_sortByBeginnings 27 = .ok (.invokevirtual 67, 3) := by decide +kernel
theorem dX3_sortByBeginnings_30 : decode cX3_sortByBeginnings 30 = .ok (.aload_n 0, 1) := by decide +kernel
theorem dX3_sortByBeginnings_31 : decode cX3_sortByBeginnings 31 = .ok (.iload_n 1, 1) := by decide +kernel
theorem dX3_sortByBeginnings_32 : decode cX3_sortByBeginnings 32 = .ok (.invokevirtual 67, 3) := by decide +kernel
theorem dX3_sortByBeginnings_35 : decode cX3_sortByBeginnings 35 = .ok (.if_icmp .le 27, 3) := by decide +kernel
theorem dX3_sortByBeginnings_38 : decode cX3_sortByBeginnings 38 = .ok (.aload_n 0, 1) := by decide +kernel
theorem dX3_sortByBeginnings_39 : decode cX3_sortByBeginnings 39 = .ok (.getfield 27, 3) := by decide +kernel
theorem dX3_sortByBeginnings_42 : decode cX3_sortByBeginnings 42 = .ok (.iload_n 2, 1) := by decide +kernel
theorem dX3_sortByBeginnings_43 : decode cX3_sortByBeginnings 43 = .ok (.aload_n 0, 1) := by decide +kernel
theorem dX3_sortByBeginnings_44 : decode cX3_sortByBeginnings 44 = .ok (.getfield 27, 3) := by decide +kernel
theorem dX3_sortByBeginnings_47 : decode cX3_sortByBeginnings 47 = .ok (.iload_n 2, 1) := by decide +kernel
theorem dX3_sortByBeginnings_48 : decode cX3_sortByBeginnings 48 = .ok (.iconst 1, 1) := by decide +kernel
theorem dX3_sortByBeginnings_49 : decode cX3_sortByBeginnings 49 = .ok (.isub, 1) := by decide +kernel
theorem dX3_sortByBeginnings_50 : decode cX3_sortByBeginnings 50 = .ok (.invokevirtual 53, 3) := by decide +kernel
theorem dX3_sortByBeginnings_53 : decode cX3_sortByBeginnings 53 = .ok (.invokevirtual 70, 3) := by decide +kernel
theorem dX3_sortByBeginnings_56 : decode cX3_sortByBeginnings 56 = .ok (.iinc 2 (-1), 3) := by decide +kernel
theorem dX3_sortByBeginnings_59 : decode cX3_sortByBeginnings 59 = .ok (.goto (-47), 3) := by decide +kernel
theorem dX3_sortByBeginnings_62 : decode cX3_sortByBeginnings 62 = .ok (.aload_n 0, 1) := by decide +kernel
theorem dX3_sortByBeginnings_63 : decode cX3_sortByBeginnings 63 = .ok (.getfield 27, 3) := by decide +kernel
theorem dX3_sortByBeginnings_66 : decode cX3_sortByBeginnings 66 = .ok (.iload_n 2, 1) := by decide +kernel
theorem dX3_sortByBeginnings_67 : decode cX3_sortByBeginnings 67 = .ok (.iload_n 1, 1) := by decide +kernel
theorem dX3_sortByBeginnings_68 : decode cX3_sortByBeginnings 68 = .ok (.invokevirtual 70, 3) := by decide +kernel
theorem dX3_sortByBeginnings_71 : decode cX3_sortByBeginnings 71 = .ok (.iinc 1 1, 3) := by decide +kernel
theorem dX3_sortByBeginnings_74 : decode cX3_sortByBeginnings 74 = .ok (.goto (-72), 3) := by decide +kernel
theorem dX3_sortByBeginnings_77 : decode cX3_sortByBeginnings 77 = .ok (.return_, 1) := by decide +kernel
theorem dX3_freeOffset_0 : decode cX3_freeOffset 0 = .ok (.aload_n 1, 1) := by decide +kernel
theorem dX3_freeOffset_1 : decode cX3_freeOffset 1 = .ok (.getfield 74, 3) := by decide +kernel
theorem dX3_freeOffset_4 : decode cX3_freeOffset 4 = .ok (.istore_n 3, 1) := by decide +kernel
theorem dX3_freeOffset_5 : decode cX3_freeOffset 5 = .ok (.iconst 0, 1) := by decide +kernel
theorem dX3_freeOffset_6 : decode cX3_freeOffset 6 = .ok (.istore 4, 2) := by decide +kernel
theorem dX3_freeOffset_8 : decode cX3_freeOffset 8 = .ok (.iload 4, 2) := by decide +kernel
theorem dX3_freeOffset_10 : decode cX3_freeOffset 10 = .ok (.iload_n 2, 1) := by decide +kernel
theorem dX3_freeOffset_11 : decode cX3_freeOffset 11 = .ok (.if_icmp .ge 66, 3) := by decide +kernel
theorem dX3_freeOffset_14 : decode cX3_freeOffset 14 = .ok (.iconst 0, 1) := by decide +kernel
theorem dX3_freeOffset_15 : decode cX3_freeOffset 15 = .ok (.istore 5, 2) := by decide +kernel
theorem dX3_freeOffset_17 : decode cX3_freeOffset 17 = .ok (.iload 5, 2) := by decide +kernel
theorem dX3_freeOffset_19 : decode cX3_freeOffset 19 = .ok (.iload_n 2, 1) := by decide +kernel
theorem dX3_freeOffset_20 : decode cX3_freeOffset 20 = .ok (.if_icmp .ge 51, 3) := by decide +kernel
theorem dX3_freeOffset_23 : decode cX3_freeOffset 23 = .ok (.aload_n 0, 1) := by decide +kernel
theorem dX3_freeOffset_24 : decode cX3_freeOffset 24 = .ok (.aload_n 0, 1) := by decide +kernel
theorem dX3_freeOffset_25 : decode cX3_freeOffset 25 = .ok (.getfield 27, 3) := by decide +kernel
theorem dX3_freeOffset_28 : decode cX3_freeOffset 28 = .ok (.iload 5, 2) := by decide +kernel
theorem dX3_freeOffset_30 : decode cX3_freeOffset 30 = .ok (.invokevirtual 53, 3) := by decide +kernel
theorem dX3_freeOffset_33 : decode cX3_freeOffset 33 = .ok (.invokevirtual 38, 3) := by decide +kernel
theorem dX3_freeOffset_36 : decode cX3_freeOffset 36 = .ok (.astore 6, 2) := by decide +kernel
theorem dX3_freeOffset_38 : decode cX3_freeOffset 38 = .ok (.aload 6, 2) := by decide +kernel
theorem dX3_freeOffset_40 : decode cX3_freeOffset 40 = .ok (.ifnull 25, 3) := by decide +kernel
theorem dX3_freeOffset_43 : decode cX3_freeOffset 43 = .ok (.aload 6, 2) := by decide +kernel
theorem dX3_freeOffset_45 : decode cX3_freeOffset 45 = .ok (.aload_n 1, 1) := by decide +kernel
theorem dX3_freeOffset_46 : decode cX3_freeOffset 46 = .ok (.iload_n 3, 1) := by decide +kernel
theorem dX3_freeOffset_47 : decode cX3_freeOffset 47 = .ok (.invokevirtual 77, 3) := by decide +kernel
theorem dX3_freeOffset_50 : decode cX3_freeOffset 50 = .ok (.ifCond .eq 15, 3) := by decide +kernel
theorem dX3_freeOffset_53 : decode cX3_freeOffset 53 = .ok (.aload 6, 2) := by decide +kernel
theorem dX3_freeOffset_55 : decode cX3_freeOffset 55 = .ok (.getfield 61, 3) := by decide +kernel
theorem dX3_freeOffset_58 : decode cX3_freeOffset 58 = .ok (.aload 6, 2) := by decide +kernel
theorem dX3_freeOffset_60 : decode cX3_freeOffset 60 = .ok (.getfield 81, 3) := by decide +kernel
theorem dX3_freeOffset_63 : decode cX3_freeOffset 63 = .ok (.iadd, 1) := by decide +kernel
theorem dX3_freeOffset_64 : decode cX3_freeOffset 64 = .ok (.istore_n 3, 1) := by decide +kernel
theorem dX3_freeOffset_65 : decode cX3_freeOffset 65 = .ok (.iinc 5 1, 3) := by decide +kernel
theorem dX3_freeOffset_68 : decode cX3_freeOffset 68 = .ok (.goto (-51), 3) := by decide +kernel
theorem dX3_freeOffset_71 : decode cX3_freeOffset 71 = .ok (.iinc 4 1, 3) := by decide +kernel
theorem dX3_freeOffset_74 : decode cX3_freeOffset 74 = .ok (.goto (-66), 3) := by decide +kernel
theorem dX3_freeOffset_77 : decode cX3_freeOffset 77 = .ok (.iload_n 3, 1) := by decide +kernel
theorem dX3_freeOffset_78 : decode cX3_freeOffset 78 = .ok (.ireturn, 1) := by decide +kernel
theorem dX3_isShownAt_0 : decode cX3_isShownAt 0 = .ok (.aload_n 0, 1) := by decide +kernel
theorem dX3_isShownAt_1 : decode cX3_isShownAt 1 = .ok (.iload_n 1, 1) := by decide +kernel
theorem dX3_isShownAt_2 : decode cX3_isShownAt 2 = .ok (.invokevirtual 38, 3) := by decide +kernel
theorem dX3_isShownAt_5 : decode cX3_isShownAt 5 = .ok (.astore_n 3, 1) := by decide +kernel
theorem dX3_isShownAt_6 : decode cX3_isShownAt 6 = .ok (.aload_n 3, 1) := by decide +kernel
theorem dX3_isShownAt_7 : decode cX3_isShownAt 7 = .ok (.ifnull 15, 3) := by decide +kernel
theorem dX3_isShownAt_10 : decode cX3_isShownAt 10 = .ok (.aload_n 3, 1) := by decide +kernel
theorem dX3_isShownAt_11 : decode cX3_isShownAt 11 = .ok (.iload_n 2, 1) := by decide +kernel
theorem dX3_isShownAt_12 : decode cX3_isShownAt 12 = .ok (.invokevirtual 84, 3) := by decide +kernel
theorem dX3_isShownAt_15 : decode cX3_isShownAt 15 = .ok (.ifCond .eq 7, 3) := by decide +kernel
theorem dX3_isShownAt_18 : decode cX3_isShownAt 18 = .ok (.iconst 1, 1) := by decide +kernel
theorem dX3_isShownAt_19 : decode cX3_isShownAt 19 = .ok (.goto 4, 3) := by decide +kernel
theorem dX3_isShownAt_22 : decode cX3_isShownAt 22 = .ok (.iconst 0, 1) := by decide +kernel
theorem dX3_isShownAt_23 : decode cX3_isShownAt 23 = .ok (.ireturn, 1) := by decide +kernel
theorem dX3_countShownAt_0 : decode cX3_countShownAt 0 = .ok (.iconst 0, 1) := by decide +kernel
theorem dX3_countShownAt_1 : decode cX3_countShownAt 1 = .ok (.istore_n 2, 1) := by decide +kernel
theorem dX3_countShownAt_2 : decode cX3_countShownAt 2 = .ok (.iconst 0, 1) := by decide +kernel
theorem dX3_countShownAt_3 : decode cX3_countShownAt 3 = .ok (.istore_n 3, 1) := by decide +kernel
theorem dX3_countShownAt_4 : decode cX3_countShownAt 4 = .ok (.iload_n 3, 1) := by decide +kernel
theorem dX3_countShownAt_5 : decode cX3_countShownAt 5 = .ok (.aload_n 0, 1) := by decide +kernel
theorem dX3_countShownAt_6 : decode cX3_countShownAt 6 = .ok (.getfield 18, 3) := by decide +kernel
theorem dX3_countShownAt_9 : decode cX3_countShownAt 9 = .ok (.if_icmp .ge 21, 3) := by decide +kernel
theorem dX3_countShownAt_12 : decode cX3_countShownAt 12 = .ok (.aload_n 0, 1) := by decide +kernel
theorem dX3_countShownAt_13 : decode cX3_countShownAt 13 = .ok (.iload_n 3, 1) := by decide +kernel
theorem dX3_countShownAt_14 : decode cX3_countShownAt 14 = .ok (.iload_n 1, 1) := by decide +kernel
theorem dX3_countShownAt_15 : decode cX3_countShownAt 15 = .ok (.invokevirtual 88, 3) := by decide +kernel
theorem dX3_countShownAt_18 : decode cX3_countShownAt 18 = .ok (.ifCond .eq 6, 3) := by decide +kernel
theorem dX3_countShownAt_21 : decode cX3_countShownAt 21 = .ok (.iinc 2 1, 3) := by decide +kernel
theorem dX3_countShownAt_24 : decode cX3_countShownAt 24 = .ok (.iinc 3 1, 3) := by decide +kernel
theorem dX3_countShownAt_27 : decode cX3_countShownAt 27 = .ok (.goto (-23), 3) := by decide +kernel
theorem dX3_countShownAt_30 : decode cX3_countShownAt 30 = .ok (.iload_n 2, 1) := by decide +kernel
theorem dX3_countShownAt_31 : decode cX3_countShownAt 31 = .ok (.ireturn, 1) := by decide +kernel
theorem dX3_countAhead_0 : decode cX3_countAhead 0 = .ok (.iconst 0, 1) := by decide +kernel
theorem dX3_countAhead_1 : decode cX3_countAhead 1 = .ok (.istore_n 3, 1) := by decide +kernel
theorem dX3_countAhead_2 : decode cX3_countAhead 2 = .ok (.iconst 0, 1) := by decide +kernel
theorem dX3_countAhead_3 : decode cX3_countAhead 3 = .ok (.istore 4, 2) := by decide +kernel
theorem dX3_countAhead_5 : decode cX3_countAhead 5 = .ok (.iload 4, 2) := by decide +kernel
theorem dX3_countAhead_7 : decode cX3_countAhead 7 = .ok (.aload_n 0, 1) := by decide +kernel
theorem dX3_countAhead_8 : decode cX3_countAhead 8 = .ok (.getfield 18, 3) := by decide +kernel
theorem dX3_countAhead_11 : decode cX3_countAhead 11 = .ok (.if_icmp .ge 38, 3) := by decide +kernel
theorem dX3_countAhead_14 : decode cX3_countAhead 14 = .ok (.iload 4, 2) := by decide +kernel
theorem dX3_countAhead_16 : decode cX3_countAhead 16 = .ok (.iload_n 1, 1) := by decide +kernel
theorem dX3_countAhead_17 : decode cX3_countAhead 17 = .ok (.if_icmp .eq 26, 3) := by decide +kernel
theorem dX3_countAhead_20 : decode cX3_countAhead 20 = .ok (.aload_n 0, 1) := by decide +kernel
theorem dX3_countAhead_21 : decode cX3_countAhead 21 = .ok (.iload 4, 2) := by decide +kernel
theorem dX3_countAhead_23 : decode cX3_countAhead 23 = .ok (.iload_n 2, 1) := by decide +kernel
theorem dX3_countAhead_24 : decode cX3_countAhead 24 = .ok (.invokevirtual 88, 3) := by decide +kernel
theorem dX3_countAhead_27 : decode cX3_countAhead 27 = .ok (.ifCond .eq 16, 3) := by decide +kernel
theorem dX3_countAhead_30 : decode cX3_countAhead 30 = .ok (.aload_n 0, 1) := by decide +kernel
theorem dX3_countAhead_31 : decode cX3_countAhead 31 = .ok (.iload 4, 2) := by decide +kernel
theorem dX3_countAhead_33 : decode cX3_countAhead 33 = .ok (.iload_n 1, 1) := by decide +kernel
theorem dX3_countAhead_34 : decode cX3_countAhead 34 = .ok (.invokevirtual 91, 3) := by decide +kernel
theorem dX3_countAhead_37 : decode cX3_countAhead 37 = .ok (.ifCond .eq 6, 3) := by decide +kernel
theorem dX3_countAhead_40 : decode cX3_countAhead 40 = .ok (.iinc 3 1, 3) := by decide +kernel
theorem dX3_countAhead_43 : decode cX3_countAhead 43 = .ok (.iinc 4 1, 3) := by decide +kernel
theorem dX3_countAhead_46 : decode cX3_countAhead 46 = .ok (.goto (-41), 3) := by decide +kernel
theorem dX3_countAhead_49 : decode cX3_countAhead 49 = .ok (.iload_n 3, 1) := by decide +kernel
theorem dX3_countAhead_50 : decode cX3_countAhead 50 = .ok (.ireturn, 1) := by decide +kernel
theorem dX3_comesBefore_0 : decode cX3_comesBefore 0 = .ok (.aload_n 0, 1) := by decide +kernel
theorem dX3_comesBefore_1 : decode cX3_comesBefore 1 = .ok (.iload_n 1, 1) := by decide +kernel
theorem dX3_comesBefore_2 : decode cX3_comesBefore 2 = .ok (.invokevirtual 38, 3) := by decide +kernel
theorem dX3_comesBefore_5 : decode cX3_comesBefore 5 = .ok (.astore_n 3, 1) := by decide +kernel
theorem dX3_comesBefore_6 : decode cX3_comesBefore 6 = .ok (.aload_n 0, 1) := by decide +kernel
theorem dX3_comesBefore_7 : decode cX3_comesBefore 7 = .ok (.iload_n 2, 1) := by decide +kernel
theorem dX3_comesBefore_8 : decode cX3_comesBefore 8 = .ok (.invokevirtual 38, 3) := by decide +kernel
theorem dX3_comesBefore_11 : decode cX3_comesBefore 11 = .ok (.astore 4, 2) := by decide +kernel
theorem dX3_comesBefore_13 : decode cX3_comesBefore 13 = .ok (.aload_n 3, 1) := by decide +kernel
theorem dX3_comesBefore_14 : decode cX3_comesBefore 14 = .ok (.ifnull 8, 3) := by decide +kernel
theorem dX3_comesBefore_17 : decode cX3_comesBefore 17 = .ok (.aload 4, 2) := by decide +kernel
theorem dX3_comesBefore_19 : decode cX3_comesBefore 19 = .ok (.ifnonnull 5, 3) := by decide +kernel
theorem dX3_comesBefore_22 : decode cX3_comesBefore 22 = .ok (.iconst 0, 1) := by decide +kernel
theorem dX3_comesBefore_23 : decode cX3_comesBefore 23 = .ok (.ireturn, 1) := by decide +kernel
theorem dX3_comesBefore_24 : decode cX3_comesBefore 24 = .ok (.aload_n 3, 1) := by decide +kernel
theorem dX3_comesBefore_25 : decode cX3_comesBefore 25 = .ok (.aload 4, 2) := by decide +kernel
theorem dX3_comesBefore_27 : decode cX3_comesBefore 27 = .ok (.invokevirtual 94, 3) := by decide +kernel
theorem dX3_comesBefore_30 : decode cX3_comesBefore 30 = .ok (.ifCond .ne 17, 3) := by decide +kernel
theorem dX3_comesBefore_33 : decode cX3_comesBefore 33 = .ok (.aload 4, 2) := by decide +kernel
theorem dX3_comesBefore_35 : decode cX3_comesBefore 35 = .ok (.aload_n 3, 1) := by decide +kernel
theorem dX3_comesBefore_36 : decode cX3_comesBefore 36 = .ok (.invokevirtual 94, 3) := by decide +kernel
theorem dX3_comesBefore_39 : decode cX3_comesBefore 39 = .ok (.ifCond .ne 12, 3) := by decide +kernel
theorem dX3_comesBefore_42 : decode cX3_comesBefore 42 = .ok (.iload_n 1, 1) := by decide +kernel
theorem dX3_comesBefore_43 : decode cX3_comesBefore 43 = .ok (.iload_n 2, 1) := by decide +kernel
theorem dX3_comesBefore_44 : decode cX3_comesBefore 44 = .ok (.if_icmp .ge 7, 3) := by decide +kernel
theorem dX3_comesBefore_47 : decode cX3_comesBefore 47 = .ok (.iconst 1, 1) := by decide +kernel
theorem dX3_comesBefore_48 : decode cX3_comesBefore 48 = .ok (.goto 4, 3) := by decide +kernel
theorem dX3_comesBefore_51 : decode cX3_comesBefore 51 = .ok (.iconst 0, 1) := by decide +kernel
theorem dX3_comesBefore_52 : decode cX3_comesBefore 52 = .ok (.ireturn, 1) := by decide +kernel
theorem dX4_init_0 : decode cX4_init 0 = .ok (.aload_n 0, 1) := by decide +kernel
theorem dX4_init_1 : decode cX4_init 1 = .ok (.invokespecial 3, 3) := by decide +kernel
theorem dX4_init_4 : decode cX4_init 4 = .ok (.aload_n 0, 1) := by decide +kernel
theorem dX4_init_5 : decode cX4_init 5 = .ok (.new 9, 3) := by decide +kernel
theorem dX4_init_8 : decode cX4_init 8 = .ok (.dup, 1) := by decide +kernel
theorem dX4_init_9 : decode cX4_init 9 = .ok (.bipush 80, 2) := by decide +kernel
theorem dX4_init_11 : decode cX4_init 11 = .ok (.invokespecial 11, 3) := by decide +kernel
theorem dX4_init_14 : decode cX4_init 14 = .ok (.putfield 14, 3) := by decide +kernel
theorem dX4_init_17 : decode cX4_init 17 = .ok (.aload_n 0, 1) := by decide +kernel
theorem dX4_init_18 : decode cX4_init 18 = .ok (.new 9, 3) := by decide +kernel
theorem dX4_init_21 : decode cX4_init 21 = .ok (.dup, 1) := by decide +kernel
theorem dX4_init_22 : decode cX4_init 22 = .ok (.bipush 80, 2) := by decide +kernel
theorem dX4_init_24 : decode cX4_init 24 = .ok (.invokespecial 11, 3) := by decide +kernel
theorem dX4_init_27 : decode cX4_init 27 = .ok (.putfield 20, 3) := by decide +kernel
theorem dX4_init_30 : decode cX4_init 30 = .ok (.return_, 1) := by decide +kernel
theorem dX4_read_0 : decode cX4_read 0 = .ok (.aload_n 0, 1) := by decide +kernel
theorem dX4_read_1 : decode cX4_read 1 = .ok (.iconst 0, 1) := by decide +kernel
theorem dX4_read_2 : decode cX4_read 2 = .ok (.putfield 23, 3) := by decide +kernel
theorem dX4_read_5 : decode cX4_read 5 = .ok (.aload_n 0, 1) := by decide +kernel
theorem dX4_read_6 : decode cX4_read 6 = .ok (.iconst (-1), 1) := by decide +kernel
theorem dX4_read_7 : decode cX4_read 7 = .ok (.putfield 27, 3) := by decide +kernel
theorem dX4_read_10 : decode cX4_read 10 = .ok (.aload_n 0, 1) := by decide +kernel
theorem dX4_read_11 : decode cX4_read 11 = .ok (.iconst (-1), 1) := by decide +kernel
theorem dX4_read_12 : decode cX4_read 12 = .ok (.putfield 30, 3) := by decide +kernel
theorem dX4_read_15 : decode cX4_read 15 = .ok (.aload_n 0, 1) := by decide +kernel
theorem dX4_read_16 : decode cX4_read 16 = .ok (.iconst 0, 1) := by decide +kernel
theorem dX4_read_17 : decode cX4_read 17 = .ok (.putfield 33, 3) := by decide +kernel
theorem dX4_read_20 : decode cX4_read 20 = .ok (.iconst 0, 1) := by decide +kernel
theorem dX4_read_21 : decode cX4_read 21 = .ok (.istore_n 3, 1) := by decide +kernel
theorem dX4_read_22 : decode cX4_read 22 = .ok (.iload_n 3, 1) := by decide +kernel
theorem dX4_read_23 : decode cX4_read 23 = .ok (.iload_n 2, 1) := by decide +kernel
theorem dX4_read_24 : decode cX4_read 24 = .ok (.if_icmp .ge 27, 3) := by decide +kernel
theorem dX4_read_27 : decode cX4_read 27 = .ok (.aload_n 0, 1) := by decide +kernel
theorem dX4_read_28 : decode cX4_read 28 = .ok (.getfield 27, 3) := by decide +kernel
theorem dX4_read_31 : decode cX4_read 31 = .ok (.iconst (-1), 1) := by decide +kernel
theorem dX4_read_32 : decode cX4_read 32 = .ok (.if_icmp .ne 19, 3) := by decide +kernel
theorem dX4_read_35 : decode cX4_read 35 = .ok (.aload_n 0, 1) := by decide +kernel
theorem dX4_read_36 : decode cX4_read 36 = .ok (.iload_n 3, 1) := by decide +kernel
theorem dX4_read_37 : decode cX4_read 37 = .ok (.aload_n 1, 1) := by decide +kernel
theorem dX4_read_38 : decode cX4_read 38 = .ok (.iload_n 3, 1) := by decide +kernel
theorem dX4_read_39 : decode cX4_read 39 = .ok (.invokevirtual 36, 3) := by decide +kernel
theorem dX4_read_42 : decode cX4_read 42 = .ok (.invokevirtual 40, 3) := by decide +kernel
theorem dX4_read_45 : decode cX4_read 45 = .ok (.iinc 3 1, 3) := by decide +kernel
theorem dX4_read_48 : decode cX4_read 48 = .ok (.goto (-26), 3) := by decide +kernel
theorem dX4_read_51 : decode cX4_read 51 = .ok (.aload_n 0, 1) := by decide +kernel
theorem dX4_read_52 : decode cX4_read 52 = .ok (.getfield 27, 3) := by decide +kernel
theorem dX4_read_55 : decode cX4_read 55 = .ok (.iconst (-1), 1) := by decide +kernel
theorem dX4_read_56 : decode cX4_read 56 = .ok (.if_icmp .eq 8, 3) := by decide +kernel
theorem dX4_read_59 : decode cX4_read 59 = .ok (.aload_n 0, 1) := by decide +kernel
theorem dX4_read_60 : decode cX4_read 60 = .ok (.getfield 27, 3) := by decide +kernel
theorem dX4_read_63 : decode cX4_read 63 = .ok (.ireturn, 1) := by decide +kernel
theorem dX4_read_64 : decode cX4_read 64 = .ok (.aload_n 0, 1) := by decide +kernel
theorem dX4_read_65 : decode cX4_read 65 = .ok (.getfield 33, 3) := by decide +kernel
theorem dX4_read_68 : decode cX4_read 68 = .ok (.ifCond .ne 10, 3) := by decide +kernel
theorem dX4_read_71 : decode cX4_read 71 = .ok (.aload_n 0, 1) := by decide +kernel
theorem dX4_read_72 : decode cX4_read 72 = .ok (.getfield 30, 3) := by decide +kernel
theorem dX4_read_75 : decode cX4_read 75 = .ok (.goto 4, 3) := by decide +kernel
theorem dX4_read_78 : decode cX4_read 78 = .ok (.iload_n 2, 1) := by decide +kernel
theorem dX4_read_79 : decode cX4_read 79 = .ok (.ireturn, 1) := by decide +kernel
theorem dX4_take_0 : decode cX4_take 0 = .ok (.aload_n 0, 1) := by decide +kernel
theorem dX4_take_1 : decode cX4_take 1 = .ok (.getfield 33, 3) := by decide +kernel
theorem dX4_take_4 : decode cX4_take 4 = .ok (.ifCond .ne 11, 3) := by decide +kernel
theorem dX4_take_7 : decode cX4_take 7 = .ok (.aload_n 0, 1) := by decide +kernel
theorem dX4_take_8 : decode cX4_take 8 = .ok (.iload_n 2, 1) := by decide +kernel
theorem dX4_take_9 : decode cX4_take 9 = .ok (.invokevirtual 44, 3) := by decide +kernel
theorem dX4_take_12 : decode cX4_take 12 = .ok (.goto 104, 3) := by decide +kernel
theorem dX4_take_15 : decode cX4_take 15 = .ok (.aload_n 0, 1) := by decide +kernel
theorem dX4_take_16 : decode cX4_take 16 = .ok (.getfield 33, 3) := by decide +kernel
theorem dX4_take_19 : decode cX4_take 19 = .ok (.iconst 1, 1) := by decide +kernel
theorem dX4_take_20 : decode cX4_take 20 = .ok (.if_icmp .ne 12, 3) := by decide +kernel
theorem dX4_take_23 : decode cX4_take 23 = .ok (.aload_n 0, 1) := by decide +kernel
theorem dX4_take_24 : decode cX4_take 24 = .ok (.iload_n 1, 1) := by decide +kernel
theorem dX4_take_25 : decode cX4_take 25 = .ok (.iload_n 2, 1) := by decide +kernel
theorem dX4_take_26 : decode cX4_take 26 = .ok (.invokevirtual 47, 3) := by decide +kernel
theorem dX4_take_29 : decode cX4_take 29 = .ok (.goto 87, 3) := by decide +kernel
theorem dX4_take_32 : decode cX4_take 32 = .ok (.iload_n 2, 1) := by decide +kernel
theorem dX4_take_33 : decode cX4_take 33 = .ok (.bipush 48, 2) := by decide +kernel
theorem dX4_take_35 : decode cX4_take 35 = .ok (.if_icmp .lt 46, 3) := by decide +kernel
theorem dX4_take_38 : decode cX4_take 38 = .ok (.iload_n 2, 1) := by decide +kernel
theorem dX4_take_39 : decode cX4_take 39 = .ok (.bipush 57, 2) := by decide +kernel
theorem dX4_take_41 : decode cX4_take 41 = .ok (.if_icmp .gt 40, 3) := by decide +kernel
theorem dX4_take_44 : decode cX4_take 44 = .ok (.aload_n 0, 1) := by decide +kernel
theorem dX4_take_45 : decode cX4_take 45 = .ok (.getfield 50, 3) := by decide +kernel
theorem dX4_take_48 : decode cX4_take 48 = .ok (.iconst 4, 1) := by decide +kernel
theorem dX4_take_49 : decode cX4_take 49 = .ok (.if_icmp .ge 32, 3) := by decide +kernel
theorem dX4_take_52 : decode cX4_take 52 = .ok (.aload_n 0, 1) := by decide +kernel
theorem dX4_take_53 : decode cX4_take 53 = .ok (.aload_n 0, 1) := by decide +kernel
theorem dX4_take_54 : decode cX4_take 54 = .ok (.getfield 53, 3) := by decide +kernel
theorem dX4_take_57 : decode cX4_take 57 = .ok (.bipush 10, 2) := by decide +kernel
theorem dX4_take_59 : decode cX4_take 59 = .ok (.imul, 1) := by decide +kernel
theorem dX4_take_60 : decode cX4_take 60 = .ok (.iload_n 2, 1) := by decide +kernel
theorem dX4_take_61 : decode cX4_take 61 = .ok (.iadd, 1) := by decide +kernel
theorem dX4_take_62 : decode cX4_take 62 = .ok (.bipush 48, 2) := by decide +kernel
theorem dX4_take_64 : decode cX4_take 64 = .ok (.isub, 1) := by decide +kernel
theorem dX4_take_65 : decode cX4_take 65 = .ok (.putfield 53, 3) := by decide +kernel
theorem dX4_take_68 : decode cX4_take 68 = .ok (.aload_n 0, 1) := by decide +kernel
theorem dX4_take_69 : decode cX4_take 69 = .ok (.dup, 1) := by decide +kernel
theorem dX4_take_70 : decode cX4_take 70 = .ok (.getfield 50, 3) := by decide +kernel
theorem dX4_take_73 : decode cX4_take 73 = .ok (.iconst 1, 1) := by decide +kernel
theorem dX4_take_74 : decode cX4_take 74 = .ok (.iadd, 1) := by decide +kernel
theorem dX4_take_75 : decode cX4_take 75 = .ok (.putfield 50, 3) := by decide +kernel
theorem dX4_take_78 : decode cX4_take 78 = .ok (.goto 38, 3) := by decide +kernel
theorem dX4_take_81 : decode cX4_take 81 = .ok (.iload_n 2, 1) := by decide +kernel
theorem dX4_take_82 : decode cX4_take 82 = .ok (.bipush 125, 2) := by decide +kernel
theorem dX4_take_84 : decode cX4_take 84 = .ok (.if_icmp .ne 27, 3) := by decide +kernel
theorem dX4_take_87 : decode cX4_take 87 = .ok (.aload_n 0, 1) := by decide +kernel
theorem dX4_take_88 : decode cX4_take 88 = .ok (.getfield 50, 3) := by decide +kernel
theorem dX4_take_91 : decode cX4_take 91 = .ok (.ifCond .gt 12, 3) := by decide +kernel
theorem dX4_take_94 : decode cX4_take 94 = .ok (.aload_n 0, 1) := by decide +kernel
theorem dX4_take_95 : decode cX4_take 95 = .ok (.getfield 33, 3) := by decide +kernel
theorem dX4_take_98 : decode cX4_take 98 = .ok (.bipush 114, 2) := by decide +kernel
theorem dX4_take_100 : decode cX4_take 100 = .ok (.if_icmp .ne 11, 3) := by decide +kernel
theorem dX4_take_103 : decode cX4_take 103 = .ok (.aload_n 0, 1) := by decide +kernel
theorem dX4_take_104 : decode cX4_take 104 = .ok (.iload_n 1, 1) := by decide +kernel
theorem dX4_take_105 : decode cX4_take 105 = .ok (.invokevirtual 56, 3) := by decide +kernel
theorem dX4_take_108 : decode cX4_take 108 = .ok (.goto 8, 3) := by decide +kernel
theorem dX4_take_111 : decode cX4_take 111 = .ok (.aload_n 0, 1) := by decide +kernel
theorem dX4_take_112 : decode cX4_take 112 = .ok (.iload_n 1, 1) := by decide +kernel
theorem dX4_take_113 : decode cX4_take 113 = .ok (.putfield 27, 3) := by decide +kernel
theorem dX4_take_116 : decode cX4_take 116 = .ok (.return_, 1) := by decide +kernel
theorem dX4_takeOutside_0 : decode cX4_takeOutside 0 = .ok (.iload_n 1, 1) := by decide +kernel
theorem dX4_takeOutside_1 : decode cX4_takeOutside 1 = .ok (.bipush 123, 2) := by decide +kernel
theorem dX4_takeOutside_3 : decode cX4_takeOutside 3 = .ok (.if_icmp .ne 11, 3) := by decide +kernel
theorem dX4_takeOutside_6 : decode cX4_takeOutside 6 = .ok (.aload_n 0, 1) := by decide +kernel
theorem dX4_takeOutside_7 : decode cX4_takeOutside 7 = .ok (.iconst 1, 1) := by decide +kernel
theorem dX4_takeOutside_8 : decode cX4_takeOutside 8 = .ok (.putfield 33, 3) := by decide +kernel
theorem dX4_takeOutside_11 : decode cX4_takeOutside 11 = .ok (.goto 9, 3) := by decide +kernel
theorem dX4_takeOutside_14 : decode cX4_takeOutside 14 = .ok (.aload_n 0, 1) := by decide +kernel
theorem dX4_takeOutside_15 : decode cX4_takeOutside 15 = .ok (.iconst 0, 1) := by decide +kernel
theorem dX4_takeOutside_16 : decode cX4_takeOutside 16 = .ok (.iload_n 1, 1) := by decide +kernel
theorem dX4_takeOutside_17 : decode cX4_takeOutside 17 = .ok (.invokevirtual 59, 3) := by decide +kernel
theorem dX4_takeOutside_20 : decode cX4_takeOutside 20 = .ok (.return_, 1) := by decide +kernel
theorem dX4_takeLetter_0 : decode cX4_takeLetter 0 = .ok (.iload_n 2, 1) := by decide +kernel
theorem dX4_takeLetter_1 : decode cX4_takeLetter 1 = .ok (.bipush 114, 2) := by decide +kernel
theorem dX4_takeLetter_3 : decode cX4_takeLetter 3 = .ok (.if_icmp .eq 23, 3) := by decide +kernel
theorem dX4_takeLetter_6 : decode cX4_takeLetter 6 = .ok (.iload_n 2, 1) := by decide +kernel
theorem dX4_takeLetter_7 : decode cX4_takeLetter 7 = .ok (.bipush 107, 2) := by decide +kernel
theorem dX4_takeLetter_9 : decode cX4_takeLetter 9 = .ok (.if_icmp .eq 17, 3) := by decide +kernel
theorem dX4_takeLetter_12 : decode cX4_takeLetter 12 = .ok (.iload_n 2, 1) := by decide +kernel
theorem dX4_takeLetter_13 : decode cX4_takeLetter 13 = .ok (.invokestatic 62, 3) := by decide +kernel
theorem dX4_takeLetter_16 : decode cX4_takeLetter 16 = .ok (.iconst (-1), 1) := by decide +kernel
theorem dX4_takeLetter_17 : decode cX4_takeLetter 17 = .ok (.if_icmp .ne 9, 3) := by decide +kernel
theorem dX4_takeLetter_20 : decode cX4_takeLetter 20 = .ok (.aload_n 0, 1) := by decide +kernel
theorem dX4_takeLetter_21 : decode cX4_takeLetter 21 = .ok (.iload_n 1, 1) := by decide +kernel
theorem dX4_takeLetter_22 : decode cX4_takeLetter 22 = .ok (.putfield 27, 3) := by decide +kernel
theorem dX4_takeLetter_25 : decode cX4_takeLetter 25 = .ok (.return_, 1) := by decide +kernel
theorem dX4_takeLetter_26 : decode cX4_takeLetter 26 = .ok (.aload_n 0, 1) := by decide +kernel
theorem dX4_takeLetter_27 : decode cX4_takeLetter 27 = .ok (.iload_n 2, 1) := by decide +kernel
theorem dX4_takeLetter_28 : decode cX4_takeLetter 28 = .ok (.putfield 33, 3) := by decide +kernel
theorem dX4_takeLetter_31 : decode cX4_takeLetter 31 = .ok (.aload_n 0, 1) := by decide +kernel
theorem dX4_takeLetter_32 : decode cX4_takeLetter 32 = .ok (.iconst 0, 1) := by decide +kernel
theorem dX4_takeLetter_33 : decode cX4_takeLetter 33 = .ok (.putfield 50, 3) := by decide +kernel
theorem dX4_takeLetter_36 : decode cX4_takeLetter 36 = .ok (.aload_n 0, 1) := by decide +kernel
theorem dX4_takeLetter_37 : decode cX4_takeLetter 37 = .ok (.iconst 0, 1) := by decide +kernel
theorem dX4_takeLetter_38 : decode cX4_takeLetter 38 = .ok (.putfield 53, 3) := by decide +kernel
theorem dX4_takeLetter_41 : decode cX4_takeLetter 41 = .ok (.return_, 1) := by decide +kernel
theorem dX4_closeTag_0 : decode cX4_closeTag 0 = .ok (.aload_n 0, 1) := by decide +kernel
theorem dX4_closeTag_1 : decode cX4_closeTag 1 = .ok (.getfield 50, 3) := by decide +kernel
theorem dX4_closeTag_4 : decode cX4_closeTag 4 = .ok (.ifCond .le 28, 3) := by decide +kernel
theorem dX4_closeTag_7 : decode cX4_closeTag 7 = .ok (.aload_n 0, 1) := by decide +kernel
theorem dX4_closeTag_8 : decode cX4_closeTag 8 = .ok (.invokevirtual 65, 3) := by decide +kernel
theorem dX4_closeTag_11 : decode cX4_closeTag 11 = .ok (.ifCond .ne 21, 3) := by decide +kernel
theorem dX4_closeTag_14 : decode cX4_closeTag 14 = .ok (.aload_n 0, 1) := by decide +kernel
theorem dX4_closeTag_15 : decode cX4_closeTag 15 = .ok (.getfield 30, 3) := by decide +kernel
theorem dX4_closeTag_18 : decode cX4_closeTag 18 = .ok (.iconst (-1), 1) := by decide +kernel
theorem dX4_closeTag_19 : decode cX4_closeTag 19 = .ok (.if_icmp .ne 13, 3) := by decide +kernel
theorem dX4_closeTag_22 : decode cX4_closeTag 22 = .ok (.aload_n 0, 1) := by decide +kernel
theorem dX4_closeTag_23 : decode cX4_closeTag 23 = .ok (.iload_n 1, 1) := by decide +kernel
theorem dX4_closeTag_24 : decode cX4_closeTag 24 = .ok (.aload_n 0, 1) := by decide +kernel
theorem dX4_closeTag_25 : decode cX4_closeTag 25 = .ok (.getfield 50, 3) := by decide +kernel
theorem dX4_closeTag_28 : decode cX4_closeTag 28 = .ok (.isub, 1) := by decide +kernel
theorem dX4_closeTag_29 : decode cX4_closeTag 29 = .ok (.putfield 30, 3) := by decide +kernel
theorem dX4_closeTag_32 : decode cX4_closeTag 32 = .ok (.aload_n 0, 1) := by decide +kernel
theorem dX4_closeTag_33 : decode cX4_closeTag 33 = .ok (.aload_n 0, 1) := by decide +kernel
theorem dX4_closeTag_34 : decode cX4_closeTag 34 = .ok (.getfield 33, 3) := by decide +kernel
theorem dX4_closeTag_37 : decode cX4_closeTag 37 = .ok (.aload_n 0, 1) := by decide +kernel
theorem dX4_closeTag_38 : decode cX4_closeTag 38 = .ok (.getfield 50, 3) := by decide +kernel
theorem dX4_closeTag_41 : decode cX4_closeTag 41 = .ok (.ifCond .le 10, 3) := by decide +kernel
theorem dX4_closeTag_44 : decode cX4_closeTag 44 = .ok (.aload_n 0, 1) := by decide +kernel
theorem dX4_closeTag_45 : decode cX4_closeTag 45 = .ok (.getfield 53, 3) := by decide +kernel
theorem dX4_closeTag_48 : decode cX4_closeTag 48 = .ok (.goto 4, 3) := by decide +kernel
theorem dX4_closeTag_51 : decode cX4_closeTag 51 = .ok (.iconst (-1), 1) := by decide +kernel
theorem dX4_closeTag_52 : decode cX4_closeTag 52 = .ok (.invokevirtual 59, 3) := by decide +kernel
theorem dX4_closeTag_55 : decode cX4_closeTag 55 = .ok (.aload_n 0, 1) := by decide +kernel
theorem dX4_closeTag_56 : decode cX4_closeTag 56 = .ok (.iconst 0, 1) := by decide +kernel
theorem dX4_closeTag_57 : decode cX4_closeTag 57 = .ok (.putfield 33, 3) := by decide +kernel
theorem dX4_closeTag_60 : decode cX4_closeTag 60 = .ok (.return_, 1) := by decide +kernel
theorem dX4_isInRange_0 : decode cX4_isInRange 0 = .ok (.aload_n 0, 1) := by decide +kernel
theorem dX4_isInRange_1 : decode cX4_isInRange 1 = .ok (.getfield 33, 3) := by decide +kernel
theorem dX4_isInRange_4 : decode cX4_isInRange 4 = .ok (.lookupswitch 59 #[(107, 43), (114, 28)], 28) := by decide +kernel
theorem dX4_isInRange_32 : decode cX4_isInRange 32 = .ok (.aload_n 0, 1) := by decide +kernel
theorem dX4_isInRange_33 : decode cX4_isInRange 33 = .ok (.getfield 53, 3) := by decide +kernel
theorem dX4_isInRange_36 : decode cX4_isInRange 36 = .ok (.bipush 10, 2) := by decide +kernel
theorem dX4_isInRange_38 : decode cX4_isInRange 38 = .ok (.if_icmp .ge 7, 3) := by decide +kernel
theorem dX4_isInRange_41 : decode cX4_isInRange 41 = .ok (.iconst 1, 1) := by decide +kernel
theorem dX4_isInRange_42 : decode cX4_isInRange 42 = .ok (.goto 4, 3) := by decide +kernel
theorem dX4_isInRange_45 : decode cX4_isInRange 45 = .ok (.iconst 0, 1) := by decide +kernel
theorem dX4_isInRange_46 : decode cX4_isInRange 46 = .ok (.ireturn, 1) := by decide +kernel
theorem dX4_isInRange_47 : decode cX4_isInRange 47 = .ok (.aload_n 0, 1) := by decide +kernel
theorem dX4_isInRange_48 : decode cX4_isInRange 48 = .ok (.getfield 53, 3) := by decide +kernel
theorem dX4_isInRange_51 : decode cX4_isInRange 51 = .ok (.sipush 9999, 3) := by decide +kernel
theorem dX4_isInRange_54 : decode cX4_isInRange 54 = .ok (.if_icmp .gt 7, 3) := by decide +kernel
theorem dX4_isInRange_57 : decode cX4_isInRange 57 = .ok (.iconst 1, 1) := by decide +kernel
theorem dX4_isInRange_58 : decode cX4_isInRange 58 = .ok (.goto 4, 3) := by decide +kernel
theorem dX4_isInRange_61 : decode cX4_isInRange 61 = .ok (.iconst 0, 1) := by decide +kernel
theorem dX4_isInRange_62 : decode cX4_isInRange 62 = .ok (.ireturn, 1) := by decide +kernel
theorem dX4_isInRange_63 : decode cX4_isInRange 63 = .ok (.aload_n 0, 1) := by decide +kernel
theorem dX4_isInRange_64 : decode cX4_isInRange 64 = .ok (.getfield 33, 3) := by decide +kernel
theorem dX4_isInRange_67 : decode cX4_isInRange 67 = .ok (.invokestatic 62, 3) := by decide +kernel
theorem dX4_isInRange_70 : decode cX4_isInRange 70 = .ok (.aload_n 0, 1) := by decide +kernel
theorem dX4_isInRange_71 : decode cX4_isInRange 71 = .ok (.getfield 53, 3) := by decide +kernel
theorem dX4_isInRange_74 : decode cX4_isInRange 74 = .ok (.invokestatic 69, 3) := by decide +kernel
theorem dX4_isInRange_77 : decode cX4_isInRange 77 = .ok (.ireturn, 1) := by decide +kernel
theorem dX4_addItem_0 : decode cX4_addItem 0 = .ok (.aload_n 0, 1) := by decide +kernel
theorem dX4_addItem_1 : decode cX4_addItem 1 = .ok (.getfield 14, 3) := by decide +kernel
theorem dX4_addItem_4 : decode cX4_addItem 4 = .ok (.aload_n 0, 1) := by decide +kernel
theorem dX4_addItem_5 : decode cX4_addItem 5 = .ok (.getfield 23, 3) := by decide +kernel
theorem dX4_addItem_8 : decode cX4_addItem 8 = .ok (.iload_n 1, 1) := by decide +kernel
theorem dX4_addItem_9 : decode cX4_addItem 9 = .ok (.invokevirtual 73, 3) := by decide +kernel
theorem dX4_addItem_12 : decode cX4_addItem 12 = .ok (.aload_n 0, 1) := by decide +kernel
theorem dX4_addItem_13 : decode cX4_addItem 13 = .ok (.getfield 20, 3) := by decide +kernel
theorem dX4_addItem_16 : decode cX4_addItem 16 = .ok (.aload_n 0, 1) := by decide +kernel
theorem dX4_addItem_17 : decode cX4_addItem 17 = .ok (.getfield 23, 3) := by decide +kernel
theorem dX4_addItem_20 : decode cX4_addItem 20 = .ok (.iload_n 2, 1) := by decide +kernel
theorem dX4_addItem_21 : decode cX4_addItem 21 = .ok (.invokevirtual 73, 3) := by decide +kernel
theorem dX4_addItem_24 : decode cX4_addItem 24 = .ok (.aload_n 0, 1) := by decide +kernel
theorem dX4_addItem_25 : decode cX4_addItem 25 = .ok (.dup, 1) := by decide +kernel
theorem dX4_addItem_26 : decode cX4_addItem 26 = .ok (.getfield 23, 3) := by decide +kernel
theorem dX4_addItem_29 : decode cX4_addItem 29 = .ok (.iconst 1, 1) := by decide +kernel
theorem dX4_addItem_30 : decode cX4_addItem 30 = .ok (.iadd, 1) := by decide +kernel
theorem dX4_addItem_31 : decode cX4_addItem 31 = .ok (.putfield 23, 3) := by decide +kernel
theorem dX4_addItem_34 : decode cX4_addItem 34 = .ok (.return_, 1) := by decide +kernel
theorem dX5_init_0 : decode cX5_init 0 = .ok (.aload_n 0, 1) := by decide +kernel
theorem dX5_init_1 : decode cX5_init 1 = .ok (.invokespecial 1, 3) := by decide +kernel
theorem dX5_init_4 : decode cX5_init 4 = .ok (.aload_n 0, 1) := by decide +kernel
theorem dX5_init_5 : decode cX5_init 5 = .ok (.iload_n 1, 1) := by decide +kernel
theorem dX5_init_6 : decode cX5_init 6 = .ok (.ifCond .ge 7, 3) := by decide +kernel
theorem dX5_init_9 : decode cX5_init 9 = .ok (.iconst 0, 1) := by decide +kernel
theorem dX5_init_10 : decode cX5_init 10 = .ok (.goto 4, 3) := by decide +kernel
theorem dX5_init_13 : decode cX5_init 13 = .ok (.iload_n 1, 1) := by decide +kernel
theorem dX5_init_14 : decode cX5_init 14 = .ok (.newarray .int, 2) := by decide +kernel
theorem dX5_init_16 : decode cX5_init 16 = .ok (.putfield 7, 3) := by decide +kernel
theorem dX5_init_19 : decode cX5_init 19 = .ok (.return_, 1) := by decide +kernel
theorem dX5_get_0 : decode cX5_get 0 = .ok (.iload_n 1, 1) := by decide +kernel
theorem dX5_get_1 : decode cX5_get 1 = .ok (.ifCond .lt 21, 3) := by decide +kernel
theorem dX5_get_4 : decode cX5_get 4 = .ok (.iload_n 1, 1) := by decide +kernel
theorem dX5_get_5 : decode cX5_get 5 = .ok (.aload_n 0, 1) := by decide +kernel
theorem dX5_get_6 : decode cX5_get 6 = .ok (.getfield 7, 3) := by decide +kernel
theorem dX5_get_9 : decode cX5_get 9 = .ok (.arraylength, 1) := by decide +kernel
theorem dX5_get_10 : decode cX5_get 10 = .ok (.if_icmp .ge 12, 3) := by decide +kernel
theorem dX5_get_13 : decode cX5_get 13 = .ok (.aload_n 0, 1) := by decide +kernel
theorem dX5_get_14 : decode cX5_get 14 = .ok (.getfield 7, 3) := by decide +kernel
theorem dX5_get_17 : decode cX5_get 17 = .ok (.iload_n 1, 1) := by decide +kernel
theorem dX5_get_18 : decode cX5_get 18 = .ok (.iaload, 1) := by decide +kernel
theorem dX5_get_19 : decode cX5_get 19 = .ok (.goto 4, 3) := by decide +kernel
theorem dX5_get_22 : decode cX5_get 22 = .ok (.iconst 0, 1) := by decide +kernel
theorem dX5_get_23 : decode cX5_get 23 = .ok (.ireturn, 1) := by decide +kernel
theorem dX5_set_0 : decode cX5_set 0 = .ok (.iload_n 1, 1) := by decide +kernel
theorem dX5_set_1 : decode cX5_set 1 = .ok (.ifCond .lt 19, 3) := by decide +kernel
theorem dX5_set_4 : decode cX5_set 4 = .ok (.iload_n 1, 1) := by decide +kernel
theorem dX5_set_5 : decode cX5_set 5 = .ok (.aload_n 0, 1) := by decide +kernel
theorem dX5_set_6 : decode cX5_set 6 = .ok (.getfield 7, 3) := by decide +kernel
theorem dX5_set_9 : decode cX5_set 9 = .ok (.arraylength, 1) := by decide +kernel
theorem dX5_set_10 : decode cX5_set 10 = .ok (.if_icmp .ge 10, 3) := by decide +kernel
theorem dX5_set_13 : decode cX5_set 13 = .ok (.aload_n 0, 1) := by decide +kernel
theorem dX5_set_14 : decode cX5_set 14 = .ok (.getfield 7, 3) := by decide +kernel
theorem dX5_set_17 : decode cX5_set 17 = .ok (.iload_n 1, 1) := by decide +kernel
theorem dX5_set_18 : decode cX5_set 18 = .ok (.iload_n 2, 1) := by decide +kernel
theorem dX5_set_19 : decode cX5_set 19 = .ok (.iastore, 1) := by decide +kernel
theorem dX5_set_20 : decode cX5_set 20 = .ok (.return_, 1) := by decide +kernel
theorem dX5_copy_0 : decode cX5_copy 0 = .ok (.iconst 0, 1) := by decide +kernel
theorem dX5_copy_1 : decode cX5_copy 1 = .ok (.istore_n 2, 1) := by decide +kernel
theorem dX5_copy_2 : decode cX5_copy 2 = .ok (.iload_n 2, 1) := by decide +kernel
theorem dX5_copy_3 : decode cX5_copy 3 = .ok (.aload_n 0, 1) := by decide +kernel
theorem dX5_copy_4 : decode cX5_copy 4 = .ok (.getfield 7, 3) := by decide +kernel
theorem dX5_copy_7 : decode cX5_copy 7 = .ok (.arraylength, 1) := by decide +kernel
theorem dX5_copy_8 : decode cX5_copy 8 = .ok (.if_icmp .ge 20, 3) := by decide +kernel
theorem dX5_copy_11 : decode cX5_copy 11 = .ok (.aload_n 0, 1) := by decide +kernel
theorem dX5_copy_12 : decode cX5_copy 12 = .ok (.getfield 7, 3) := by decide +kernel
theorem dX5_copy_15 : decode cX5_copy 15 = .ok (.iload_n 2, 1) := by decide +kernel
theorem dX5_copy_16 : decode cX5_copy 16 = .ok (.aload_n 1, 1) := by decide +kernel
theorem dX5_copy_17 : decode cX5_copy 17 = .ok (.iload_n 2, 1) := by decide +kernel
theorem dX5_copy_18 : decode cX5_copy 18 = .ok (.invokevirtual 13, 3) := by decide +kernel
theorem dX5_copy_21 : decode cX5_copy 21 = .ok (.iastore, 1) := by decide +kernel
theorem dX5_copy_22 : decode cX5_copy 22 = .ok (.iinc 2 1, 3) := by decide +kernel
theorem dX5_copy_25 : decode cX5_copy 25 = .ok (.goto (-23), 3) := by decide +kernel
theorem dX5_copy_28 : decode cX5_copy 28 = .ok (.return_, 1) := by decide +kernel
theorem dX6_init_0 : decode cX6_init 0 = .ok (.aload_n 0, 1) := by decide +kernel
theorem dX6_init_1 : decode cX6_init 1 = .ok (.invokespecial 3, 3) := by decide +kernel
theorem dX6_init_4 : decode cX6_init 4 = .ok (.aload_n 0, 1) := by decide +kernel
theorem dX6_init_5 : decode cX6_init 5 = .ok (.new 9, 3) := by decide +kernel
theorem dX6_init_8 : decode cX6_init 8 = .ok (.dup, 1) := by decide +kernel
theorem dX6_init_9 : decode cX6_init 9 = .ok (.invokespecial 11, 3) := by decide +kernel
theorem dX6_init_12 : decode cX6_init 12 = .ok (.putfield 12, 3) := by decide +kernel
theorem dX6_init_15 : decode cX6_init 15 = .ok (.aload_n 0, 1) := by decide +kernel
theorem dX6_init_16 : decode cX6_init 16 = .ok (.bipush 16, 2) := by decide +kernel
theorem dX6_init_18 : decode cX6_init 18 = .ok (.anewarray 18, 3) := by decide +kernel
theorem dX6_init_21 : decode cX6_init 21 = .ok (.putfield 20, 3) := by decide +kernel
theorem dX6_init_24 : decode cX6_init 24 = .ok (.aload_n 0, 1) := by decide +kernel
theorem dX6_init_25 : decode cX6_init 25 = .ok (.iconst 0, 1) := by decide +kernel
theorem dX6_init_26 : decode cX6_init 26 = .ok (.putfield 24, 3) := by decide +kernel
theorem dX6_init_29 : decode cX6_init 29 = .ok (.aload_n 0, 1) := by decide +kernel
theorem dX6_init_30 : decode cX6_init 30 = .ok (.sipush 300, 3) := by decide +kernel
theorem dX6_init_33 : decode cX6_init 33 = .ok (.putfield 28, 3) := by decide +kernel
theorem dX6_init_36 : decode cX6_init 36 = .ok (.return_, 1) := by decide +kernel
theorem dX6_copy_0 : decode cX6_copy 0 = .ok (.aload_n 0, 1) := by decide +kernel
theorem dX6_copy_1 : decode cX6_copy 1 = .ok (.getfield 12, 3) := by decide +kernel
theorem dX6_copy_4 : decode cX6_copy 4 = .ok (.aload_n 1, 1) := by decide +kernel
theorem dX6_copy_5 : decode cX6_copy 5 = .ok (.getfield 12, 3) := by decide +kernel
theorem dX6_copy_8 : decode cX6_copy 8 = .ok (.invokevirtual 31, 3) := by decide +kernel
theorem dX6_copy_11 : decode cX6_copy 11 = .ok (.aload_n 0, 1) := by decide +kernel
theorem dX6_copy_12 : decode cX6_copy 12 = .ok (.aload_n 1, 1) := by decide +kernel
theorem dX6_copy_13 : decode cX6_copy 13 = .ok (.getfield 24, 3) := by decide +kernel
theorem dX6_copy_16 : decode cX6_copy 16 = .ok (.putfield 24, 3) := by decide +kernel
theorem dX6_copy_19 : decode cX6_copy 19 = .ok (.aload_n 0, 1) := by decide +kernel
theorem dX6_copy_20 : decode cX6_copy 20 = .ok (.aload_n 1, 1) := by decide +kernel
theorem dX6_copy_21 : decode cX6_copy 21 = .ok (.getfield 28, 3) := by decide +kernel
theorem dX6_copy_24 : decode cX6_copy 24 = .ok (.putfield 28, 3) := by decide +kernel
theorem dX6_copy_27 : decode cX6_copy 27 = .ok (.iconst 0, 1) := by decide +kernel
theorem dX6_copy_28 : decode cX6_copy 28 = .ok (.istore_n 2, 1) := by decide +kernel
theorem dX6_copy_29 : decode cX6_copy 29 = .ok (.iload_n 2, 1) := by decide +kernel
theorem dX6_copy_30 : decode cX6_copy 30 = .ok (.aload_n 0, 1) := by decide +kernel
theorem dX6_copy_31 : decode cX6_copy 31 = .ok (.getfield 20, 3) := by decide +kernel
theorem dX6_copy_34 : decode cX6_copy 34 = .ok (.arraylength, 1) := by decide +kernel
theorem dX6_copy_35 : decode cX6_copy 35 = .ok (.if_icmp .ge 20, 3) := by decide +kernel
theorem dX6_copy_38 : decode cX6_copy 38 = .ok (.aload_n 0, 1) := by decide +kernel
theorem dX6_copy_39 : decode cX6_copy 39 = .ok (.getfield 20, 3) := by decide +kernel
theorem dX6_copy_42 : decode cX6_copy 42 = .ok (.iload_n 2, 1) := by decide +kernel
theorem dX6_copy_43 : decode cX6_copy 43 = .ok (.aload_n 1, 1) := by decide +kernel
theorem dX6_copy_44 : decode cX6_copy 44 = .ok (.iload_n 2, 1) := by decide +kernel
theorem dX6_copy_45 : decode cX6_copy 45 = .ok (.invokevirtual 35, 3) := by decide +kernel
theorem dX6_copy_48 : decode cX6_copy 48 = .ok (.aastore, 1) := by decide +kernel
theorem dX6_copy_49 : decode cX6_copy 49 = .ok (.iinc 2 1, 3) := by decide +kernel
theorem dX6_copy_52 : decode cX6_copy 52 = .ok (.goto (-23), 3) := by decide +kernel
theorem dX6_copy_55 : decode cX6_copy 55 = .ok (.return_, 1) := by decide +kernel
theorem dX6_lineAt_0 : decode cX6_lineAt 0 = .ok (.iload_n 1, 1) := by decide +kernel
theorem dX6_lineAt_1 : decode cX6_lineAt 1 = .ok (.ifCond .lt 29, 3) := by decide +kernel
theorem dX6_lineAt_4 : decode cX6_lineAt 4 = .ok (.iload_n 1, 1) := by decide +kernel
theorem dX6_lineAt_5 : decode cX6_lineAt 5 = .ok (.aload_n 0, 1) := by decide +kernel
theorem dX6_lineAt_6 : decode cX6_lineAt 6 = .ok (.getfield 24, 3) := by decide +kernel
theorem dX6_lineAt_9 : decode cX6_lineAt 9 = .ok (.if_icmp .ge 21, 3) := by decide +kernel
theorem dX6_lineAt_12 : decode cX6_lineAt 12 = .ok (.iload_n 1, 1) := by decide +kernel
theorem dX6_lineAt_13 : decode cX6_lineAt 13 = .ok (.aload_n 0, 1) := by decide +kernel
theorem dX6_lineAt_14 : decode cX6_lineAt 14 = .ok (.getfield 20, 3) := by decide +kernel
theorem dX6_lineAt_17 : decode cX6_lineAt 17 = .ok (.arraylength, 1) := by decide +kernel
theorem dX6_lineAt_18 : decode cX6_lineAt 18 = .ok (.if_icmp .ge 12, 3) := by decide +kernel
theorem dX6_lineAt_21 : decode cX6_lineAt 21 = .ok (.aload_n 0, 1) := by decide +kernel
theorem dX6_lineAt_22 : decode cX6_lineAt 22 = .ok (.getfield 20, 3) := by decide +kernel
theorem dX6_lineAt_25 : decode cX6_lineAt 25 = .ok (.iload_n 1, 1) := by decide +kernel
theorem dX6_lineAt_26 : decode cX6_lineAt 26 = .ok (.aaload, 1) := by decide +kernel
theorem dX6_lineAt_27 : decode cX6_lineAt 27 = .ok (.goto 4, 3) := by decide +kernel
theorem dX6_lineAt_30 : decode cX6_lineAt 30 = .ok (.aconst_null, 1) := by decide +kernel
theorem dX6_lineAt_31 : decode cX6_lineAt 31 = .ok (.areturn, 1) := by decide +kernel
theorem dX6_putLine_0 : decode cX6_putLine 0 = .ok (.iload_n 1, 1) := by decide +kernel
theorem dX6_putLine_1 : decode cX6_putLine 1 = .ok (.ifCond .lt 19, 3) := by decide +kernel
theorem dX6_putLine_4 : decode cX6_putLine 4 = .ok (.iload_n 1, 1) := by decide +kernel
theorem dX6_putLine_5 : decode cX6_putLine 5 = .ok (.aload_n 0, 1) := by decide +kernel
theorem dX6_putLine_6 : decode cX6_putLine 6 = .ok (.getfield 20, 3) := by decide +kernel
theorem dX6_putLine_9 : decode cX6_putLine 9 = .ok (.arraylength, 1) := by decide +kernel
theorem dX6_putLine_10 : decode cX6_putLine 10 = .ok (.if_icmp .ge 10, 3) := by decide +kernel
theorem dX6_putLine_13 : decode cX6_putLine 13 = .ok (.aload_n 0, 1) := by decide +kernel
theorem dX6_putLine_14 : decode cX6_putLine 14 = .ok (.getfield 20, 3) := by decide +kernel
theorem dX6_putLine_17 : decode cX6_putLine 17 = .ok (.iload_n 1, 1) := by decide +kernel
theorem dX6_putLine_18 : decode cX6_putLine 18 = .ok (.aload_n 2, 1) := by decide +kernel
theorem dX6_putLine_19 : decode cX6_putLine 19 = .ok (.aastore, 1) := by decide +kernel
theorem dX6_putLine_20 : decode cX6_putLine 20 = .ok (.return_, 1) := by decide +kernel
theorem dX6_addLine_0 : decode cX6_addLine 0 = .ok (.aload_n 0, 1) := by decide +kernel
theorem dX6_addLine_1 : decode cX6_addLine 1 = .ok (.aload_n 0, 1) := by decide +kernel
theorem dX6_addLine_2 : decode cX6_addLine 2 = .ok (.getfield 24, 3) := by decide +kernel
theorem dX6_addLine_5 : decode cX6_addLine 5 = .ok (.aload_n 1, 1) := by decide +kernel
theorem dX6_addLine_6 : decode cX6_addLine 6 = .ok (.invokevirtual 39, 3) := by decide +kernel
theorem dX6_addLine_9 : decode cX6_addLine 9 = .ok (.aload_n 0, 1) := by decide +kernel
theorem dX6_addLine_10 : decode cX6_addLine 10 = .ok (.dup, 1) := by decide +kernel
theorem dX6_addLine_11 : decode cX6_addLine 11 = .ok (.getfield 24, 3) := by decide +kernel
theorem dX6_addLine_14 : decode cX6_addLine 14 = .ok (.iconst 1, 1) := by decide +kernel
theorem dX6_addLine_15 : decode cX6_addLine 15 = .ok (.iadd, 1) := by decide +kernel
theorem dX6_addLine_16 : decode cX6_addLine 16 = .ok (.putfield 24, 3) := by decide +kernel
theorem dX6_addLine_19 : decode cX6_addLine 19 = .ok (.return_, 1) := by decide +kernel
theorem dX6_dropLine_0 : decode cX6_dropLine 0 = .ok (.iload_n 1, 1) := by decide +kernel
theorem dX6_dropLine_1 : decode cX6_dropLine 1 = .ok (.istore_n 2, 1) := by decide +kernel
theorem dX6_dropLine_2 : decode cX6_dropLine 2 = .ok (.iload_n 2, 1) := by decide +kernel
theorem dX6_dropLine_3 : decode cX6_dropLine 3 = .ok (.aload_n 0, 1) := by decide +kernel
theorem dX6_dropLine_4 : decode cX6_dropLine 4 = .ok (.getfield 24, 3) := by decide +kernel
theorem dX6_dropLine_7 : decode cX6_dropLine 7 = .ok (.if_icmp .ge 21, 3) := by decide +kernel
theorem dX6_dropLine_10 : decode cX6_dropLine 10 = .ok (.aload_n 0, 1) := by decide +kernel
theorem dX6_dropLine_11 : decode cX6_dropLine 11 = .ok (.iload_n 2, 1) := by decide +kernel
theorem dX6_dropLine_12 : decode cX6_dropLine 12 = .ok (.aload_n 0, 1) := by decide +kernel
theorem dX6_dropLine_13 : decode cX6_dropLine 13 = .ok (.iload_n 2, 1) := by decide +kernel
theorem dX6_dropLine_14 : decode cX6_dropLine 14 = .ok (.iconst 1, 1) := by decide +kernel
theorem dX6_dropLine_15 : decode cX6_dropLine 15 = .ok (.iadd, 1) := by decide +kernel
theorem dX6_dropLine_16 : decode cX6_dropLine 16 = .ok (.invokevirtual 35, 3) := by decide +kernel
theorem dX6_dropLine_19 : decode cX6_dropLine 19 = .ok (.invokevirtual 39, 3) := by decide +kernel
theorem dX6_dropLine_22 : decode cX6_dropLine 22 = .ok (.iinc 2 1, 3) := by decide +kernel
theorem dX6_dropLine_25 : decode cX6_dropLine 25 = .ok (.goto (-23), 3) := by decide +kernel
theorem dX6_dropLine_28 : decode cX6_dropLine 28 = .ok (.aload_n 0, 1) := by decide +kernel
theorem dX6_dropLine_29 : decode cX6_dropLine 29 = .ok (.dup, 1) := by decide +kernel
theorem dX6_dropLine_30 : decode cX6_dropLine 30 = .ok (.getfield 24, 3) := by decide +kernel
theorem dX6_dropLine_33 : decode cX6_dropLine 33 = .ok (.iconst 1, 1) := by decide +kernel
theorem dX6_dropLine_34 : decode cX6_dropLine 34 = .ok (.isub, 1) := by decide +kernel
theorem dX6_dropLine_35 : decode cX6_dropLine 35 = .ok (.putfield 24, 3) := by decide +kernel
theorem dX6_dropLine_38 : decode cX6_dropLine 38 = .ok (.return_, 1) := by decide +kernel
theorem dX6_hasLineOfStyle_0 : decode cX6_hasLineOfStyle 0 = .ok (.iconst 0, 1) := by decide +kernel
theorem dX6_hasLineOfStyle_1 : decode cX6_hasLineOfStyle 1 = .ok (.istore_n 2, 1) := by decide +kernel
theorem dX6_hasLineOfStyle_2 : decode cX6_hasLineOfStyle 2 = .ok (.iload_n 2, 1) := by decide +kernel
theorem dX6_hasLineOfStyle_3 : decode cX6_hasLineOfStyle 3 = .ok (.aload_n 0, 1) := by decide +kernel
theorem dX6_hasLineOfStyle_4 : decode cX6_hasLineOfStyle 4 = .ok (.getfield 24, 3) := by decide +kernel
theorem dX6_hasLineOfStyle_7 : decode cX6_hasLineOfStyle 7 = .ok (.if_icmp .ge 29, 3) := by decide +kernel
theorem dX6_hasLineOfStyle_10 : decode cX6_hasLineOfStyle 10 = .ok (.aload_n 0, 1) := by decide +kernel
theorem dX6_hasLineOfStyle_11 : decode cX6_hasLineOfStyle 11 = .ok (.iload_n 2, 1) := by decide +kernel
theorem dX6_hasLineOfStyle_12 : decode cX6_hasLineOfStyle 12 = .ok (.invokevirtual 35, 3) := by decide +kernel
theorem dX6_hasLineOfStyle_15 : decode cX6_hasLineOfStyle 15 = .ok (.astore_n 3, 1) := by decide +kernel
theorem dX6_hasLineOfStyle_16 : decode cX6_hasLineOfStyle 16 = .ok (.aload_n 3, 1) := by decide +kernel
theorem dX6_hasLineOfStyle_17 : decode cX6_hasLineOfStyle 17 = .ok (.ifnull 13, 3) := by decide +kernel
theorem dX6_hasLineOfStyle_20 : decode cX6_hasLineOfStyle 20 = .ok (.aload_n 3, 1) := by decide +kernel
theorem dX6_hasLineOfStyle_21 : decode cX6_hasLineOfStyle 21 = .ok (.getfield 43, 3) := by decide +kernel
theorem dX6_hasLineOfStyle_24 : decode cX6_hasLineOfStyle 24 = .ok (.iload_n 1, 1) := by decide +kernel
theorem dX6_hasLineOfStyle_25 : decode cX6_hasLineOfStyle 25 = .ok (.if_icmp .ne 5, 3) := by decide +kernel
theorem dX6_hasLineOfStyle_28 : decode cX6_hasLineOfStyle 28 = .ok (.iconst 1, 1) := by decide +kernel
theorem dX6_hasLineOfStyle_29 : decode cX6_hasLineOfStyle 29 = .ok (.ireturn, 1) := by decide +kernel
theorem dX6_hasLineOfStyle_30 : decode cX6_hasLineOfStyle 30 = .ok (.iinc 2 1, 3) := by decide +kernel
theorem dX6_hasLineOfStyle_33 : decode cX6_hasLineOfStyle 33 = .ok (.goto (-31), 3) := by decide +kernel
theorem dX6_hasLineOfStyle_36 : decode cX6_hasLineOfStyle 36 = .ok (.iconst 0, 1) := by decide +kernel
theorem dX6_hasLineOfStyle_37 : decode cX6_hasLineOfStyle 37 = .ok (.ireturn, 1) := by decide +kernel
theorem dX7_init_0 : decode cX7_init 0 = .ok (.aload_n 0, 1) := by decide +kernel
theorem dX7_init_1 : decode cX7_init 1 = .ok (.invokespecial 3, 3) := by decide +kernel
theorem dX7_init_4 : decode cX7_init 4 = .ok (.aload_n 0, 1) := by decide +kernel
theorem dX7_init_5 : decode cX7_init 5 = .ok (.iconst 0, 1) := by decide +kernel
theorem dX7_init_6 : decode cX7_init 6 = .ok (.putfield 9, 3) := by decide +kernel
theorem dX7_init_9 : decode cX7_init 9 = .ok (.aload_n 0, 1) := by decide +kernel
theorem dX7_init_10 : decode cX7_init 10 = .ok (.new 15, 3) := by decide +kernel
theorem dX7_init_13 : decode cX7_init 13 = .ok (.dup, 1) := by decide +kernel
theorem dX7_init_14 : decode cX7_init 14 = .ok (.bipush 10, 2) := by decide +kernel
theorem dX7_init_16 : decode cX7_init 16 = .ok (.invokespecial 17, 3) := by decide +kernel
theorem dX7_init_19 : decode cX7_init 19 = .ok (.putfield 20, 3) := by decide +kernel
theorem dX7_init_22 : decode cX7_init 22 = .ok (.aload_n 0, 1) := by decide +kernel
theorem dX7_init_23 : decode cX7_init 23 = .ok (.new 15, 3) := by decide +kernel
theorem dX7_init_26 : decode cX7_init 26 = .ok (.dup, 1) := by decide +kernel
theorem dX7_init_27 : decode cX7_init 27 = .ok (.bipush 60, 2) := by decide +kernel
theorem dX7_init_29 : decode cX7_init 29 = .ok (.invokespecial 17, 3) := by decide +kernel
theorem dX7_init_32 : decode cX7_init 32 = .ok (.putfield 24, 3) := by decide +kernel
theorem dX7_init_35 : decode cX7_init 35 = .ok (.return_, 1) := by decide +kernel
theorem dX7_copy_0 : decode cX7_copy 0 = .ok (.aload_n 0, 1) := by decide +kernel
theorem dX7_copy_1 : decode cX7_copy 1 = .ok (.aload_n 1, 1) := by decide +kernel
theorem dX7_copy_2 : decode cX7_copy 2 = .ok (.getfield 9, 3) := by decide +kernel
theorem dX7_copy_5 : decode cX7_copy 5 = .ok (.putfield 9, 3) := by decide +kernel
theorem dX7_copy_8 : decode cX7_copy 8 = .ok (.aload_n 0, 1) := by decide +kernel
theorem dX7_copy_9 : decode cX7_copy 9 = .ok (.getfield 20, 3) := by decide +kernel
theorem dX7_copy_12 : decode cX7_copy 12 = .ok (.aload_n 1, 1) := by decide +kernel
theorem dX7_copy_13 : decode cX7_copy 13 = .ok (.getfield 20, 3) := by decide +kernel
theorem dX7_copy_16 : decode cX7_copy 16 = .ok (.invokevirtual 27, 3) := by decide +kernel
theorem dX7_copy_19 : decode cX7_copy 19 = .ok (.aload_n 0, 1) := by decide +kernel
theorem dX7_copy_20 : decode cX7_copy 20 = .ok (.getfield 24, 3) := by decide +kernel
theorem dX7_copy_23 : decode cX7_copy 23 = .ok (.aload_n 1, 1) := by decide +kernel
theorem dX7_copy_24 : decode cX7_copy 24 = .ok (.getfield 24, 3) := by decide +kernel
theorem dX7_copy_27 : decode cX7_copy 27 = .ok (.invokevirtual 27, 3) := by decide +kernel
theorem dX7_copy_30 : decode cX7_copy 30 = .ok (.return_, 1) := by decide +kernel
theorem dX7_has_0 : decode cX7_has 0 = .ok (.iload_n 1, 1) := by decide +kernel
theorem dX7_has_1 : decode cX7_has 1 = .ok (.ifCond .lt 15, 3) := by decide +kernel
theorem dX7_has_4 : decode cX7_has 4 = .ok (.iload_n 1, 1) := by decide +kernel
theorem dX7_has_5 : decode cX7_has 5 = .ok (.aload_n 0, 1) := by decide +kernel
theorem dX7_has_6 : decode cX7_has 6 = .ok (.getfield 9, 3) := by decide +kernel
theorem dX7_has_9 : decode cX7_has 9 = .ok (.if_icmp .ge 7, 3) := by decide +kernel
theorem dX7_has_12 : decode cX7_has 12 = .ok (.iconst 1, 1) := by decide +kernel
theorem dX7_has_13 : decode cX7_has 13 = .ok (.goto 4, 3) := by decide +kernel
theorem dX7_has_16 : decode cX7_has 16 = .ok (.iconst 0, 1) := by decide +kernel
theorem dX7_has_17 : decode cX7_has 17 = .ok (.ireturn, 1) := by decide +kernel
theorem dX7_hasOrNothing_0 : decode cX7_hasOrNothing 0 = .ok (.iload_n 1, 1) := by decide +kernel
theorem dX7_hasOrNothing_1 : decode cX7_hasOrNothing 1 = .ok (.iconst (-1), 1) := by decide +kernel
theorem dX7_hasOrNothing_2 : decode cX7_hasOrNothing 2 = .ok (.if_icmp .eq 11, 3) := by decide +kernel
theorem dX7_hasOrNothing_5 : decode cX7_hasOrNothing 5 = .ok (.aload_n 0, 1) := by decide +kernel
theorem dX7_hasOrNothing_6 : decode cX7_hasOrNothing 6 = .ok (.iload_n 1, 1) := by decide +kernel
theorem dX7_hasOrNothing_7 : decode cX7_hasOrNothing 7 = .ok (.invokevirtual 31, 3) := by decide +kernel
theorem dX7_hasOrNothing_10 : decode cX7_hasOrNothing 10 = .ok (.ifCond .eq 7, 3) := by decide +kernel
theorem dX7_hasOrNothing_13 : decode cX7_hasOrNothing 13 = .ok (.iconst 1, 1) := by decide +kernel
theorem dX7_hasOrNothing_14 : decode cX7_hasOrNothing 14 = .ok (.goto 4, 3) := by decide +kernel
theorem dX7_hasOrNothing_17 : decode cX7_hasOrNothing 17 = .ok (.iconst 0, 1) := by decide +kernel
theorem dX7_hasOrNothing_18 : decode cX7_hasOrNothing 18 = .ok (.ireturn, 1) := by decide +kernel
theorem dX7_add_0 : decode cX7_add 0 = .ok (.aload_n 0, 1) := by decide +kernel
theorem dX7_add_1 : decode cX7_add 1 = .ok (.getfield 20, 3) := by decide +kernel
theorem dX7_add_4 : decode cX7_add 4 = .ok (.aload_n 0, 1) := by decide +kernel
theorem dX7_add_5 : decode cX7_add 5 = .ok (.getfield 9, 3) := by decide +kernel
theorem dX7_add_8 : decode cX7_add 8 = .ok (.iload_n 1, 1) := by decide +kernel
theorem dX7_add_9 : decode cX7_add 9 = .ok (.invokevirtual 35, 3) := by decide +kernel
theorem dX7_add_12 : decode cX7_add 12 = .ok (.iconst 0, 1) := by decide +kernel
theorem dX7_add_13 : decode cX7_add 13 = .ok (.istore_n 2, 1) := by decide +kernel
theorem dX7_add_14 : decode cX7_add 14 = .ok (.iload_n 2, 1) := by decide +kernel
theorem dX7_add_15 : decode cX7_add 15 = .ok (.bipush 6, 2) := by decide +kernel
theorem dX7_add_17 : decode cX7_add 17 = .ok (.if_icmp .ge 19, 3) := by decide +kernel
theorem dX7_add_20 : decode cX7_add 20 = .ok (.aload_n 0, 1) := by decide +kernel
theorem dX7_add_21 : decode cX7_add 21 = .ok (.aload_n 0, 1) := by decide +kernel
theorem dX7_add_22 : decode cX7_add 22 = .ok (.getfield 9, 3) := by decide +kernel
theorem dX7_add_25 : decode cX7_add 25 = .ok (.iload_n 2, 1) := by decide +kernel
theorem dX7_add_26 : decode cX7_add 26 = .ok (.iconst (-1), 1) := by decide +kernel
theorem dX7_add_27 : decode cX7_add 27 = .ok (.invokevirtual 39, 3) := by decide +kernel
theorem dX7_add_30 : decode cX7_add 30 = .ok (.iinc 2 1, 3) := by decide +kernel
theorem dX7_add_33 : decode cX7_add 33 = .ok (.goto (-19), 3) := by decide +kernel
theorem dX7_add_36 : decode cX7_add 36 = .ok (.aload_n 0, 1) := by decide +kernel
theorem dX7_add_37 : decode cX7_add 37 = .ok (.dup, 1) := by decide +kernel
theorem dX7_add_38 : decode cX7_add 38 = .ok (.getfield 9, 3) := by decide +kernel
theorem dX7_add_41 : decode cX7_add 41 = .ok (.iconst 1, 1) := by decide +kernel
theorem dX7_add_42 : decode cX7_add 42 = .ok (.iadd, 1) := by decide +kernel
theorem dX7_add_43 : decode cX7_add 43 = .ok (.putfield 9, 3) := by decide +kernel
theorem dX7_add_46 : decode cX7_add 46 = .ok (.return_, 1) := by decide +kernel
theorem dX7_dropLast_0 : decode cX7_dropLast 0 = .ok (.aload_n 0, 1) := by decide +kernel
theorem dX7_dropLast_1 : decode cX7_dropLast 1 = .ok (.dup, 1) := by decide +kernel
theorem dX7_dropLast_2 : decode cX7_dropLast 2 = .ok (.getfield 9, 3) := by decide +kernel
theorem dX7_dropLast_5 : decode cX7_dropLast 5 = .ok (.iconst 1, 1) := by decide +kernel
theorem dX7_dropLast_6 : decode cX7_dropLast 6 = .ok (.isub, 1) := by decide +kernel
theorem dX7_dropLast_7 : decode cX7_dropLast 7 = .ok (.putfield 9, 3) := by decide +kernel
theorem dX7_dropLast_10 : decode cX7_dropLast 10 = .ok (.return_, 1) := by decide +kernel
theorem dX7_ownValue_0 : decode cX7_ownValue 0 = .ok (.aload_n 0, 1) := by decide +kernel
theorem dX7_ownValue_1 : decode cX7_ownValue 1 = .ok (.getfield 24, 3) := by decide +kernel
theorem dX7_ownValue_4 : decode cX7_ownValue 4 = .ok (.iload_n 1, 1) := by decide +kernel
theorem dX7_ownValue_5 : decode cX7_ownValue 5 = .ok (.bipush 6, 2) := by decide +kernel
theorem dX7_ownValue_7 : decode cX7_ownValue 7 = .ok (.imul, 1) := by decide +kernel
theorem dX7_ownValue_8 : decode cX7_ownValue 8 = .ok (.iload_n 2, 1) := by decide +kernel
theorem dX7_ownValue_9 : decode cX7_ownValue 9 = .ok (.iadd, 1) := by decide +kernel
theorem dX7_ownValue_10 : decode cX7_ownValue 10 = .ok (.invokevirtual 43, 3) := by decide +kernel
theorem dX7_ownValue_13 : decode cX7_ownValue 13 = .ok (.ireturn, 1) := by decide +kernel
theorem dX7_setOwnValue_0 : decode cX7_setOwnValue 0 = .ok (.aload_n 0, 1) := by decide +kernel
theorem dX7_setOwnValue_1 : decode cX7_setOwnValue 1 = .ok (.getfield 24, 3) := by decide +kernel
theorem dX7_setOwnValue_4 : decode cX7_setOwnValue 4 = .ok (.iload_n 1, 1) := by decide +kernel
theorem dX7_setOwnValue_5 : decode cX7_setOwnValue 5 = .ok (.bipush 6, 2) := by decide +kernel
theorem dX7_setOwnValue_7 : decode cX7_setOwnValue 7 = .ok (.imul, 1) := by decide +kernel
theorem dX7_setOwnValue_8 : decode cX7_setOwnValue 8 = .ok (.iload_n 2, 1) := by decide +kernel
theorem dX7_setOwnValue_9 : decode cX7_setOwnValue 9 = .ok (.iadd, 1) := by decide +kernel
theorem dX7_setOwnValue_10 : decode cX7_setOwnValue 10 = .ok (.iload_n 3, 1) := by decide +kernel
theorem dX7_setOwnValue_11 : decode cX7_setOwnValue 11 = .ok (.invokevirtual 35, 3) := by decide +kernel
theorem dX7_setOwnValue_14 : decode cX7_setOwnValue 14 = .ok (.return_, 1) := by decide +kernel
theorem dX7_sourceOf_0 : decode cX7_sourceOf 0 = .ok (.iload_n 1, 1) := by decide +kernel
theorem dX7_sourceOf_1 : decode cX7_sourceOf 1 = .ok (.istore_n 3, 1) := by decide +kernel
theorem dX7_sourceOf_2 : decode cX7_sourceOf 2 = .ok (.iconst 0, 1) := by decide +kernel
theorem dX7_sourceOf_3 : decode cX7_sourceOf 3 = .ok (.istore 4, 2) := by decide +kernel
theorem dX7_sourceOf_5 : decode cX7_sourceOf 5 = .ok (.iload 4, 2) := by decide +kernel
theorem dX7_sourceOf_7 : decode cX7_sourceOf 7 = .ok (.bipush 10, 2) := by decide +kernel
theorem dX7_sourceOf_9 : decode cX7_sourceOf 9 = .ok (.if_icmp .ge 49, 3) := by decide +kernel
theorem dX7_sourceOf_12 : decode cX7_sourceOf 12 = .ok (.iload_n 3, 1) := by decide +kernel
theorem dX7_sourceOf_13 : decode cX7_sourceOf 13 = .ok (.ifCond .lt 45, 3) := by decide +kernel
theorem dX7_sourceOf_16 : decode cX7_sourceOf 16 = .ok (.iload_n 3, 1) := by decide +kernel
theorem dX7_sourceOf_17 : decode cX7_sourceOf 17 = .ok (.aload_n 0, 1) := by decide +kernel
theorem dX7_sourceOf_18 : decode cX7_sourceOf 18 = .ok (.getfield 9, 3) := by decide +kernel
theorem dX7_sourceOf_21 : decode cX7_sourceOf 21 = .ok (.if_icmp .ge 37, 3) := by decide +kernel
theorem dX7_sourceOf_24 : decode cX7_sourceOf 24 = .ok (.aload_n 0, 1) := by decide +kernel
theorem dX7_sourceOf_25 : decode cX7_sourceOf 25 = .ok (.getfield 24, 3) := by decide +kernel
theorem dX7_sourceOf_28 : decode cX7_sourceOf 28 = .ok (.iload_n 3, 1) := by decide +kernel
theorem dX7_sourceOf_29 : decode cX7_sourceOf 29 = .ok (.bipush 6, 2) := by decide +kernel
theorem dX7_sourceOf_31 : decode cX7_sourceOf 31 = .ok (.imul, 1) := by decide +kernel
theorem dX7_sourceOf_32 : decode cX7_sourceOf 32 = .ok (.iload_n 2, 1) := by decide +kernel
theorem dX7_sourceOf_33 : decode cX7_sourceOf 33 = .ok (.iadd, 1) := by decide +kernel
theorem dX7_sourceOf_34 : decode cX7_sourceOf 34 = .ok (.invokevirtual 43, 3) := by decide +kernel
theorem dX7_sourceOf_37 : decode cX7_sourceOf 37 = .ok (.iconst (-1), 1) := by decide +kernel
theorem dX7_sourceOf_38 : decode cX7_sourceOf 38 = .ok (.if_icmp .eq 5, 3) := by decide +kernel
theorem dX7_sourceOf_41 : decode cX7_sourceOf 41 = .ok (.iload_n 3, 1) := by decide +kernel
theorem dX7_sourceOf_42 : decode cX7_sourceOf 42 = .ok (.ireturn, 1) := by decide +kernel
theorem dX7_sourceOf_43 : decode cX7_sourceOf 43 = .ok (.aload_n 0, 1) := by decide +kernel
theorem dX7_sourceOf_44 : decode cX7_sourceOf 44 = .ok (.getfield 20, 3) := by decide +kernel
theorem dX7_sourceOf_47 : decode cX7_sourceOf 47 = .ok (.iload_n 3, 1) := by decide +kernel
theorem dX7_sourceOf_48 : decode cX7_sourceOf 48 = .ok (.invokevirtual 43, 3) := by decide +kernel
theorem dX7_sourceOf_51 : decode cX7_sourceOf 51 = .ok (.istore_n 3, 1) := by decide +kernel
theorem dX7_sourceOf_52 : decode cX7_sourceOf 52 = .ok (.iinc 4 1, 3) := by decide +kernel
theorem dX7_sourceOf_55 : decode cX7_sourceOf 55 = .ok (.goto (-50), 3) := by decide +kernel
theorem dX7_sourceOf_58 : decode cX7_sourceOf 58 = .ok (.bipush (-9), 2) := by decide +kernel
theorem dX7_sourceOf_60 : decode cX7_sourceOf 60 = .ok (.ireturn, 1) := by decide +kernel
theorem dX7_valueIn_0 : decode cX7_valueIn 0 = .ok (.aload_n 0, 1) := by decide +kernel
theorem dX7_valueIn_1 : decode cX7_valueIn 1 = .ok (.iload_n 1, 1) := by decide +kernel
theorem dX7_valueIn_2 : decode cX7_valueIn 2 = .ok (.iload_n 2, 1) := by decide +kernel
theorem dX7_valueIn_3 : decode cX7_valueIn 3 = .ok (.invokevirtual 47, 3) := by decide +kernel
theorem dX7_valueIn_6 : decode cX7_valueIn 6 = .ok (.istore_n 3, 1) := by decide +kernel
theorem dX7_valueIn_7 : decode cX7_valueIn 7 = .ok (.iload_n 3, 1) := by decide +kernel
theorem dX7_valueIn_8 : decode cX7_valueIn 8 = .ok (.bipush (-9), 2) := by decide +kernel
theorem dX7_valueIn_10 : decode cX7_valueIn 10 = .ok (.if_icmp .ne 10, 3) := by decide +kernel
theorem dX7_valueIn_13 : decode cX7_valueIn 13 = .ok (.iload_n 2, 1) := by decide +kernel
theorem dX7_valueIn_14 : decode cX7_valueIn 14 = .ok (.invokestatic 51, 3) := by decide +kernel
theorem dX7_valueIn_17 : decode cX7_valueIn 17 = .ok (.goto 9, 3) := by decide +kernel
theorem dX7_valueIn_20 : decode cX7_valueIn 20 = .ok (.aload_n 0, 1) := by decide +kernel
theorem dX7_valueIn_21 : decode cX7_valueIn 21 = .ok (.iload_n 3, 1) := by decide +kernel
theorem dX7_valueIn_22 : decode cX7_valueIn 22 = .ok (.iload_n 2, 1) := by decide +kernel
theorem dX7_valueIn_23 : decode cX7_valueIn 23 = .ok (.invokevirtual 54, 3) := by decide +kernel
theorem dX7_valueIn_26 : decode cX7_valueIn 26 = .ok (.ireturn, 1) := by decide +kernel
theorem dX7_leadsTo_0 : decode cX7_leadsTo 0 = .ok (.iload_n 1, 1) := by decide +kernel
theorem dX7_leadsTo_1 : decode cX7_leadsTo 1 = .ok (.istore_n 3, 1) := by decide +kernel
theorem dX7_leadsTo_2 : decode cX7_leadsTo 2 = .ok (.iconst 0, 1) := by decide +kernel
theorem dX7_leadsTo_3 : decode cX7_leadsTo 3 = .ok (.istore 4, 2) := by decide +kernel
theorem dX7_leadsTo_5 : decode cX7_leadsTo 5 = .ok (.iload 4, 2) := by decide +kernel
theorem dX7_leadsTo_7 : decode cX7_leadsTo 7 = .ok (.bipush 10, 2) := by decide +kernel
theorem dX7_leadsTo_9 : decode cX7_leadsTo 9 = .ok (.if_icmp .ge 33, 3) := by decide +kernel
theorem dX7_leadsTo_12 : decode cX7_leadsTo 12 = .ok (.aload_n 0, 1) := by decide +kernel
theorem dX7_leadsTo_13 : decode cX7_leadsTo 13 = .ok (.iload_n 3, 1) := by decide +kernel
theorem dX7_leadsTo_14 : decode cX7_leadsTo 14 = .ok (.invokevirtual 31, 3) := by decide +kernel
theorem dX7_leadsTo_17 : decode cX7_leadsTo 17 = .ok (.ifCond .eq 25, 3) := by decide +kernel
theorem dX7_leadsTo_20 : decode cX7_leadsTo 20 = .ok (.iload_n 3, 1) := by decide +kernel
theorem dX7_leadsTo_21 : decode cX7_leadsTo 21 = .ok (.iload_n 2, 1) := by decide +kernel
theorem dX7_leadsTo_22 : decode cX7_leadsTo 22 = .ok (.if_icmp .ne 5, 3) := by decide +kernel
theorem dX7_leadsTo_25 : decode cX7_leadsTo 25 = .ok (.iconst 1, 1) := by decide +kernel
theorem dX7_leadsTo_26 : decode cX7_leadsTo 26 = .ok (.ireturn, 1) := by decide +kernel
theorem dX7_leadsTo_27 : decode cX7_leadsTo 27 = .ok (.aload_n 0, 1) := by decide +kernel
theorem dX7_leadsTo_28 : decode cX7_leadsTo 28 = .ok (.getfield 20, 3) := by decide +kernel
theorem dX7_leadsTo_31 : decode cX7_leadsTo 31 = .ok (.iload_n 3, 1) := by decide +kernel
theorem dX7_leadsTo_32 : decode cX7_leadsTo 32 = .ok (.invokevirtual 43, 3) := by decide +kernel
theorem dX7_leadsTo_35 : decode cX7_leadsTo 35 = .ok (.istore_n 3, 1) := by decide +kernel
theorem dX7_leadsTo_36 : decode cX7_leadsTo 36 = .ok (.iinc 4 1, 3) := by decide +kernel
theorem dX7_leadsTo_39 : decode cX7_leadsTo 39 = .ok (.goto (-34), 3) := by decide +kernel
theorem dX7_leadsTo_42 : decode cX7_leadsTo 42 = .ok (.iconst 0, 1) := by decide +kernel
theorem dX7_leadsTo_43 : decode cX7_leadsTo 43 = .ok (.ireturn, 1) := by decide +kernel
theorem dX7_ancestorsOf_0 : decode cX7_ancestorsOf 0 = .ok (.iconst 0, 1) := by decide +kernel
theorem dX7_ancestorsOf_1 : decode cX7_ancestorsOf 1 = .ok (.istore_n 2, 1) := by decide +kernel
theorem dX7_ancestorsOf_2 : decode cX7_ancestorsOf 2 = .ok (.aload_n 0, 1) := by decide +kernel
theorem dX7_ancestorsOf_3 : decode cX7_ancestorsOf 3 = .ok (.getfield 20, 3) := by decide +kernel
theorem dX7_ancestorsOf_6 : decode cX7_ancestorsOf 6 = .ok (.iload_n 1, 1) := by decide +kernel
theorem dX7_ancestorsOf_7 : decode cX7_ancestorsOf 7 = .ok (.invokevirtual 43, 3) := by decide +kernel
theorem dX7_ancestorsOf_10 : decode cX7_ancestorsOf 10 = .ok (.istore_n 3, 1) := by decide +kernel
theorem dX7_ancestorsOf_11 : decode cX7_ancestorsOf 11 = .ok (.iconst 0, 1) := by decide +kernel
theorem dX7_ancestorsOf_12 : decode cX7_ancestorsOf 12 = .ok (.istore 4, 2) := by decide +kernel
theorem dX7_ancestorsOf_14 : decode cX7_ancestorsOf 14 = .ok (.iload 4, 2) := by decide +kernel
theorem dX7_ancestorsOf_16 : decode cX7_ancestorsOf 16 = .ok (.bipush 10, 2) := by decide +kernel
theorem dX7_ancestorsOf_18 : decode cX7_ancestorsOf 18 = .ok (.if_icmp .ge 29, 3) := by decide +kernel
theorem dX7_ancestorsOf_21 : decode cX7_ancestorsOf 21 = .ok (.aload_n 0, 1) := by decide +kernel
theorem dX7_ancestorsOf_22 : decode cX7_ancestorsOf 22 = .ok (.iload_n 3, 1) := by decide +kernel
theorem dX7_ancestorsOf_23 : decode cX7_ancestorsOf 23 = .ok (.invokevirtual 31, 3) := by decide +kernel
theorem dX7_ancestorsOf_26 : decode cX7_ancestorsOf 26 = .ok (.ifCond .eq 21, 3) := by decide +kernel
theorem dX7_ancestorsOf_29 : decode cX7_ancestorsOf 29 = .ok (.iinc 2 1, 3) := by decide +kernel
theorem dX7_ancestorsOf_32 : decode cX7_ancestorsOf 32 = .ok (.aload_n 0, 1) := by decide +kernel
theorem dX7_ancestorsOf_33 : decode cX7_ancestorsOf 33 = .ok (.getfield 20, 3) := by decide +kernel
theorem dX7_ancestorsOf_36 : decode cX7_ancestorsOf 36 = .ok (.iload_n 3, 1) := by decide +kernel
theorem dX7_ancestorsOf_37 : decode cX7_ancestorsOf 37 = .ok (.invokevirtual 43, 3) := by decide +kernel
theorem dX7_ancestorsOf_40 : decode cX7_ancestorsOf 40 = .ok (.istore_n 3, 1) := by decide +kernel
theorem dX7_ancestorsOf_41 : decode cX7_ancestorsOf 41 = .ok (.iinc 4 1, 3) := by decide +kernel
theorem dX7_ancestorsOf_44 : decode cX7_ancestorsOf 44 = .ok (.goto (-30), 3) := by decide +kernel
theorem dX7_ancestorsOf_47 : decode cX7_ancestorsOf 47 = .ok (.iload_n 2, 1) := by decide +kernel
theorem dX7_ancestorsOf_48 : decode cX7_ancestorsOf 48 = .ok (.ireturn, 1) := by decide +kernel
theorem dX7_childrenOf_0 : decode cX7_childrenOf 0 = .ok (.iconst 0, 1) := by decide +kernel
theorem dX7_childrenOf_1 : decode cX7_childrenOf 1 = .ok (.istore_n 2, 1) := by decide +kernel
theorem dX7_childrenOf_2 : decode cX7_childrenOf 2 = .ok (.iconst 0, 1) := by decide +kernel
theorem dX7_childrenOf_3 : decode cX7_childrenOf 3 = .ok (.istore_n 3, 1) := by decide +kernel
theorem dX7_childrenOf_4 : decode cX7_childrenOf 4 = .ok (.iload_n 3, 1) := by decide +kernel
theorem dX7_childrenOf_5 : decode cX7_childrenOf 5 = .ok (.aload_n 0, 1) := by decide +kernel
theorem dX7_childrenOf_6 : decode cX7_childrenOf 6 = .ok (.getfield 9, 3) := by decide +kernel
theorem dX7_childrenOf_9 : decode cX7_childrenOf 9 = .ok (.if_icmp .ge 24, 3) := by decide +kernel
theorem dX7_childrenOf_12 : decode cX7_childrenOf 12 = .ok (.aload_n 0, 1) := by decide +kernel
theorem dX7_childrenOf_13 : decode cX7_childrenOf 13 = .ok (.getfield 20, 3) := by decide +kernel
theorem dX7_childrenOf_16 : decode cX7_childrenOf 16 = .ok (.iload_n 3, 1) := by decide +kernel
theorem dX7_childrenOf_17 : decode cX7_childrenOf 17 = .ok (.invokevirtual 43, 3) := by decide +kernel
theorem dX7_childrenOf_20 : decode cX7_childrenOf 20 = .ok (.iload_n 1, 1) := by decide +kernel
theorem dX7_childrenOf_21 : decode cX7_childrenOf 21 = .ok (.if_icmp .ne 6, 3) := by decide +kernel
theorem dX7_childrenOf_24 : decode cX7_childrenOf 24 = .ok (.iinc 2 1, 3) := by decide +kernel
theorem dX7_childrenOf_27 : decode cX7_childrenOf 27 = .ok (.iinc 3 1, 3) := by decide +kernel
theorem dX7_childrenOf_30 : decode cX7_childrenOf 30 = .ok (.goto (-26), 3) := by decide +kernel
theorem dX7_childrenOf_33 : decode cX7_childrenOf 33 = .ok (.iload_n 2, 1) := by decide +kernel
theorem dX7_childrenOf_34 : decode cX7_childrenOf 34 = .ok (.ireturn, 1) := by decide +kernel
theorem dX7_makeFlat_0 : decode cX7_makeFlat 0 = .ok (.iconst 0, 1) := by decide +kernel
theorem dX7_makeFlat_1 : decode cX7_makeFlat 1 = .ok (.istore_n 1, 1) := by decide +kernel
theorem dX7_makeFlat_2 : decode cX7_makeFlat 2 = .ok (.iconst 0, 1) := by decide +kernel
theorem dX7_makeFlat_3 : decode cX7_makeFlat 3 = .ok (.istore_n 2, 1) := by decide +kernel
theorem dX7_makeFlat_4 : decode cX7_makeFlat 4 = .ok (.iload_n 2, 1) := by decide +kernel
theorem dX7_makeFlat_5 : decode cX7_makeFlat 5 = .ok (.aload_n 0, 1) := by decide +kernel
theorem dX7_makeFlat_6 : decode cX7_makeFlat 6 = .ok (.getfield 9, 3) := by decide +kernel
theorem dX7_makeFlat_9 : decode cX7_makeFlat 9 = .ok (.if_icmp .ge 57, 3) := by decide +kernel
theorem dX7_makeFlat_12 : decode cX7_makeFlat 12 = .ok (.iconst 0, 1) := by decide +kernel
theorem dX7_makeFlat_13 : decode cX7_makeFlat 13 = .ok (.istore_n 3, 1) := by decide +kernel
theorem dX7_makeFlat_14 : decode cX7_makeFlat 14 = .ok (.iload_n 3, 1) := by decide +kernel
theorem dX7_makeFlat_15 : decode cX7_makeFlat 15 = .ok (.bipush 6, 2) := by decide +kernel
theorem dX7_makeFlat_17 : decode cX7_makeFlat 17 = .ok (.if_icmp .ge 34, 3) := by decide +kernel
theorem dX7_makeFlat_20 : decode cX7_makeFlat 20 = .ok (.aload_n 0, 1) := by decide +kernel
theorem dX7_makeFlat_21 : decode cX7_makeFlat 21 = .ok (.iload_n 2, 1) := by decide +kernel
theorem dX7_makeFlat_22 : decode cX7_makeFlat 22 = .ok (.iload_n 3, 1) := by decide +kernel
theorem dX7_makeFlat_23 : decode cX7_makeFlat 23 = .ok (.invokevirtual 54, 3) := by decide +kernel
theorem dX7_makeFlat_26 : decode cX7_makeFlat 26 = .ok (.iconst (-1), 1) := by decide +kernel
theorem dX7_makeFlat_27 : decode cX7_makeFlat 27 = .ok (.if_icmp .ne 18, 3) := by decide +kernel
theorem dX7_makeFlat_30 : decode cX7_makeFlat 30 = .ok (.aload_n 0, 1) := by decide +kernel
theorem dX7_makeFlat_31 : decode cX7_makeFlat 31 = .ok (.iload_n 2, 1) := by decide +kernel
theorem dX7_makeFlat_32 : decode cX7_makeFlat 32 = .ok (.iload_n 3, 1) := by decide +kernel
theorem dX7_makeFlat_33 : decode cX7_makeFlat 33 = .ok (.aload_n 0, 1) := by decide +kernel
theorem dX7_makeFlat_34 : decode cX7_makeFlat 34 = .ok (.iload_n 2, 1) := by decide +kernel
theorem dX7_makeFlat_35 : decode cX7_makeFlat 35 = .ok (.iload_n 3, 1) := by decide +kernel
theorem dX7_makeFlat_36 : decode cX7_makeFlat 36 = .ok (.invokevirtual 57, 3) := by decide +kernel
theorem dX7_makeFlat_39 : decode cX7_makeFlat 39 = .ok (.invokevirtual 39, 3) := by decide +kernel
theorem dX7_makeFlat_42 : decode cX7_makeFlat 42 = .ok (.iinc 1 1, 3) := by decide +kernel
theorem dX7_makeFlat_45 : decode cX7_makeFlat 45 = .ok (.iinc 3 1, 3) := by decide +kernel
theorem dX7_makeFlat_48 : decode cX7_makeFlat 48 = .ok (.goto (-34), 3) := by decide +kernel
theorem dX7_makeFlat_51 : decode cX7_makeFlat 51 = .ok (.aload_n 0, 1) := by decide +kernel
theorem dX7_makeFlat_52 : decode cX7_makeFlat 52 = .ok (.getfield 20, 3) := by decide +kernel
theorem dX7_makeFlat_55 : decode cX7_makeFlat 55 = .ok (.iload_n 2, 1) := by decide +kernel
theorem dX7_makeFlat_56 : decode cX7_makeFlat 56 = .ok (.iconst (-1), 1) := by decide +kernel
theorem dX7_makeFlat_57 : decode cX7_makeFlat 57 = .ok (.invokevirtual 35, 3) := by decide +kernel
theorem dX7_makeFlat_60 : decode cX7_makeFlat 60 = .ok (.iinc 2 1, 3) := by decide +kernel
theorem dX7_makeFlat_63 : decode cX7_makeFlat 63 = .ok (.goto (-59), 3) := by decide +kernel
theorem dX7_makeFlat_66 : decode cX7_makeFlat 66 = .ok (.iload_n 1, 1) := by decide +kernel
theorem dX7_makeFlat_67 : decode cX7_makeFlat 67 = .ok (.ireturn, 1) := by decide +kernel
theorem dX8_init_0 : decode cX8_init 0 = .ok (.aload_n 0, 1) := by decide +kernel
theorem dX8_init_1 : decode cX8_init 1 = .ok (.invokespecial 3, 3) := by decide +kernel
theorem dX8_init_4 : decode cX8_init 4 = .ok (.aload_n 0, 1) := by decide +kernel
theorem dX8_init_5 : decode cX8_init 5 = .ok (.iload_n 3, 1) := by decide +kernel
theorem dX8_init_6 : decode cX8_init 6 = .ok (.putfield 9, 3) := by decide +kernel
theorem dX8_init_9 : decode cX8_init 9 = .ok (.aload_n 0, 1) := by decide +kernel
theorem dX8_init_10 : decode cX8_init 10 = .ok (.new 15, 3) := by decide +kernel
theorem dX8_init_13 : decode cX8_init 13 = .ok (.dup, 1) := by decide +kernel
theorem dX8_init_14 : decode cX8_init 14 = .ok (.iload_n 3, 1) := by decide +kernel
theorem dX8_init_15 : decode cX8_init 15 = .ok (.invokespecial 17, 3) := by decide +kernel
theorem dX8_init_18 : decode cX8_init 18 = .ok (.putfield 20, 3) := by decide +kernel
theorem dX8_init_21 : decode cX8_init 21 = .ok (.aload_n 0, 1) := by decide +kernel
theorem dX8_init_22 : decode cX8_init 22 = .ok (.new 15, 3) := by decide +kernel
theorem dX8_init_25 : decode cX8_init 25 = .ok (.dup, 1) := by decide +kernel
theorem dX8_init_26 : decode cX8_init 26 = .ok (.iload_n 3, 1) := by decide +kernel
theorem dX8_init_27 : decode cX8_init 27 = .ok (.invokespecial 17, 3) := by decide +kernel
theorem dX8_init_30 : decode cX8_init 30 = .ok (.putfield 24, 3) := by decide +kernel
theorem dX8_init_33 : decode cX8_init 33 = .ok (.aload_n 0, 1) := by decide +kernel
theorem dX8_init_34 : decode cX8_init 34 = .ok (.getfield 20, 3) := by decide +kernel
theorem dX8_init_37 : decode cX8_init 37 = .ok (.aload_n 1, 1) := by decide +kernel
theorem dX8_init_38 : decode cX8_init 38 = .ok (.invokevirtual 27, 3) := by decide +kernel
theorem dX8_init_41 : decode cX8_init 41 = .ok (.aload_n 0, 1) := by decide +kernel
theorem dX8_init_42 : decode cX8_init 42 = .ok (.getfield 24, 3) := by decide +kernel
theorem dX8_init_45 : decode cX8_init 45 = .ok (.aload_n 2, 1) := by decide +kernel
theorem dX8_init_46 : decode cX8_init 46 = .ok (.invokevirtual 27, 3) := by decide +kernel
theorem dX8_init_49 : decode cX8_init 49 = .ok (.return_, 1) := by decide +kernel
theorem dX8_withLastSyllable_0 : decode cX8_withLastSyllable 0 = .ok (.new 10, 3) := by decide +kernel
theorem dX8_withLastSyllable_3 : decode cX8_withLastSyllable 3 = .ok (.dup, 1) := by decide +kernel
theorem dX8_withLastSyllable_4 : decode cX8_withLastSyllable 4 = .ok (.aload_n 0, 1) := by decide +kernel
theorem dX8_withLastSyllable_5 : decode cX8_withLastSyllable 5 = .ok (.getfield 20, 3) := by decide +kernel
theorem dX8_withLastSyllable_8 : decode cX8_withLastSyllable 8 = .ok (.aload_n 0, 1) := by decide +kernel
theorem dX8_withLastSyllable_9 : decode cX8_withLastSyllable 9 = .ok (.getfield 24, 3) := by decide +kernel
theorem dX8_withLastSyllable_12 : decode cX8_withLastSyllable 12 = .ok (.aload_n 0, 1) := by decide +kernel
theorem dX8_withLastSyllable_13 : decode cX8_withLastSyllable 13 = .ok (.getfield 9, 3) := by decide +kernel
theorem dX8_withLastSyllable_16 : decode cX8_withLastSyllable 16 = .ok (.invokespecial 31, 3) := by decide +kernel
theorem dX8_withLastSyllable_19 : decode cX8_withLastSyllable 19 = .ok (.astore_n 2, 1) := by decide +kernel
theorem dX8_withLastSyllable_20 : decode cX8_withLastSyllable 20 = .ok (.aload_n 0, 1) := by decide +kernel
theorem dX8_withLastSyllable_21 : decode cX8_withLastSyllable 21 = .ok (.getfield 9, 3) := by decide +kernel
theorem dX8_withLastSyllable_24 : decode cX8_withLastSyllable 24 = .ok (.iconst 1, 1) := by decide +kernel
theorem dX8_withLastSyllable_25 : decode cX8_withLastSyllable 25 = .ok (.isub, 1) := by decide +kernel
theorem dX8_withLastSyllable_26 : decode cX8_withLastSyllable 26 = .ok (.istore_n 3, 1) := by decide +kernel
theorem dX8_withLastSyllable_27 : decode cX8_withLastSyllable 27 = .ok (.iload_n 3, 1) := by decide +kernel
theorem dX8_withLastSyllable_28 : decode cX8_withLastSyllable 28 = .ok (.ifCond .lt 33, 3) := by decide +kernel
theorem dX8_withLastSyllable_31 : decode cX8_withLastSyllable 31 = .ok (.aload_n 0, 1) := by decide +kernel
theorem dX8_withLastSyllable_32 : decode cX8_withLastSyllable 32 = .ok (.getfield 20, 3) := by decide +kernel
theorem dX8_withLastSyllable_35 : decode cX8_withLastSyllable 35 = .ok (.iload_n 3, 1) := by decide +kernel
theorem dX8_withLastSyllable_36 : decode cX8_withLastSyllable 36 = .ok (.invokevirtual 34, 3) := by decide +kernel
theorem dX8_withLastSyllable_39 : decode cX8_withLastSyllable 39 = .ok (.bipush 107, 2) := by decide +kernel
theorem dX8_withLastSyllable_41 : decode cX8_withLastSyllable 41 = .ok (.if_icmp .ne 14, 3) := by decide +kernel
theorem dX8_withLastSyllable_44 : decode cX8_withLastSyllable 44 = .ok (.aload_n 2, 1) := by decide +kernel
theorem dX8_withLastSyllable_45 : decode cX8_withLastSyllable 45 = .ok (.getfield 24, 3) := by decide +kernel
theorem dX8_withLastSyllable_48 : decode cX8_withLastSyllable 48 = .ok (.iload_n 3, 1) := by decide +kernel
theorem dX8_withLastSyllable_49 : decode cX8_withLastSyllable 49 = .ok (.iload_n 1, 1) := by decide +kernel
theorem dX8_withLastSyllable_50 : decode cX8_withLastSyllable 50 = .ok (.invokevirtual 38, 3) := by decide +kernel
theorem dX8_withLastSyllable_53 : decode cX8_withLastSyllable 53 = .ok (.aload_n 2, 1) := by decide +kernel
theorem dX8_withLastSyllable_54 : decode cX8_withLastSyllable 54 = .ok (.areturn, 1) := by decide +kernel
theorem dX8_withLastSyllable_55 : decode cX8_withLastSyllable 55 = .ok (.iinc 3 (-1), 3) := by decide +kernel
theorem dX8_withLastSyllable_58 : decode cX8_withLastSyllable 58 = .ok (.goto (-31), 3) := by decide +kernel
theorem dX8_withLastSyllable_61 : decode cX8_withLastSyllable 61 = .ok (.aload_n 2, 1) := by decide +kernel
theorem dX8_withLastSyllable_62 : decode cX8_withLastSyllable 62 = .ok (.areturn, 1) := by decide +kernel
theorem dX9_init_0 : decode cX9_init 0 = .ok (.aload_n 0, 1) := by decide +kernel
theorem dX9_init_1 : decode cX9_init 1 = .ok (.invokespecial 3, 3) := by decide +kernel
theorem dX9_init_4 : decode cX9_init 4 = .ok (.aload_n 0, 1) := by decide +kernel
theorem dX9_init_5 : decode cX9_init 5 = .ok (.new 9, 3) := by decide +kernel
theorem dX9_init_8 : decode cX9_init 8 = .ok (.dup, 1) := by decide +kernel
theorem dX9_init_9 : decode cX9_init 9 = .ok (.bipush 80, 2) := by decide +kernel
theorem dX9_init_11 : decode cX9_init 11 = .ok (.invokespecial 11, 3) := by decide +kernel
theorem dX9_init_14 : decode cX9_init 14 = .ok (.putfield 14, 3) := by decide +kernel
theorem dX9_init_17 : decode cX9_init 17 = .ok (.aload_n 0, 1) := by decide +kernel
theorem dX9_init_18 : decode cX9_init 18 = .ok (.iconst 0, 1) := by decide +kernel
theorem dX9_init_19 : decode cX9_init 19 = .ok (.putfield 18, 3) := by decide +kernel
theorem dX9_init_22 : decode cX9_init 22 = .ok (.aload_n 0, 1) := by decide +kernel
theorem dX9_init_23 : decode cX9_init 23 = .ok (.new 22, 3) := by decide +kernel
theorem dX9_init_26 : decode cX9_init 26 = .ok (.dup, 1) := by decide +kernel
theorem dX9_init_27 : decode cX9_init 27 = .ok (.invokespecial 24, 3) := by decide +kernel
theorem dX9_init_30 : decode cX9_init 30 = .ok (.putfield 25, 3) := by decide +kernel
theorem dX9_init_33 : decode cX9_init 33 = .ok (.aload_n 0, 1) := by decide +kernel
theorem dX9_init_34 : decode cX9_init 34 = .ok (.new 29, 3) := by decide +kernel
theorem dX9_init_37 : decode cX9_init 37 = .ok (.dup, 1) := by decide +kernel
theorem dX9_init_38 : decode cX9_init 38 = .ok (.invokespecial 31, 3) := by decide +kernel
theorem dX9_init_41 : decode cX9_init 41 = .ok (.putfield 32, 3) := by decide +kernel
theorem dX9_init_44 : decode cX9_init 44 = .ok (.aload_n 0, 1) := by decide +kernel
theorem dX9_init_45 : decode cX9_init 45 = .ok (.new 36, 3) := by decide +kernel
theorem dX9_init_48 : decode cX9_init 48 = .ok (.dup, 1) := by decide +kernel
theorem dX9_init_49 : decode cX9_init 49 = .ok (.invokespecial 38, 3) := by decide +kernel
theorem dX9_init_52 : decode cX9_init 52 = .ok (.putfield 39, 3) := by decide +kernel
theorem dX9_init_55 : decode cX9_init 55 = .ok (.aload_n 0, 1) := by decide +kernel
theorem dX9_init_56 : decode cX9_init 56 = .ok (.new 43, 3) := by decide +kernel
theorem dX9_init_59 : decode cX9_init 59 = .ok (.dup, 1) := by decide +kernel
theorem dX9_init_60 : decode cX9_init 60 = .ok (.invokespecial 45, 3) := by decide +kernel
theorem dX9_init_63 : decode cX9_init 63 = .ok (.putfield 46, 3) := by decide +kernel
theorem dX9_init_66 : decode cX9_init 66 = .ok (.aload_n 0, 1) := by decide +kernel
theorem dX9_init_67 : decode cX9_init 67 = .ok (.new 50, 3) := by decide +kernel
theorem dX9_init_70 : decode cX9_init 70 = .ok (.dup, 1) := by decide +kernel
theorem dX9_init_71 : decode cX9_init 71 = .ok (.invokespecial 52, 3) := by decide +kernel
theorem dX9_init_74 : decode cX9_init 74 = .ok (.putfield 53, 3) := by decide +kernel
theorem dX9_init_77 : decode cX9_init 77 = .ok (.aload_n 0, 1) := by decide +kernel
theorem dX9_init_78 : decode cX9_init 78 = .ok (.new 57, 3) := by decide +kernel
theorem dX9_init_81 : decode cX9_init 81 = .ok (.dup, 1) := by decide +kernel
theorem dX9_init_82 : decode cX9_init 82 = .ok (.invokespecial 59, 3) := by decide +kernel
theorem dX9_init_85 : decode cX9_init 85 = .ok (.putfield 60, 3) := by decide +kernel
theorem dX9_init_88 : decode cX9_init 88 = .ok (.return_, 1) := by decide +kernel
theorem dX9_style_0 : decode cX9_style 0 = .ok (.aload_n 0, 1) := by decide +kernel
theorem dX9_style_1 : decode cX9_style 1 = .ok (.getfield 32, 3) := by decide +kernel
theorem dX9_style_4 : decode cX9_style 4 = .ok (.getfield 64, 3) := by decide +kernel
theorem dX9_style_7 : decode cX9_style 7 = .ok (.astore_n 2, 1) := by decide +kernel
theorem dX9_style_8 : decode cX9_style 8 = .ok (.aload_n 2, 1) := by decide +kernel
theorem dX9_style_9 : decode cX9_style 9 = .ok (.iload_n 1, 1) := by decide +kernel
theorem dX9_style_10 : decode cX9_style 10 = .ok (.invokevirtual 67, 3) := by decide +kernel
theorem dX9_style_13 : decode cX9_style 13 = .ok (.ifCond .ne 5, 3) := by decide +kernel
theorem dX9_style_16 : decode cX9_style 16 = .ok (.iconst (-1), 1) := by decide +kernel
theorem dX9_style_17 : decode cX9_style 17 = .ok (.ireturn, 1) := by decide +kernel
theorem dX9_style_18 : decode cX9_style 18 = .ok (.aload_n 2, 1) := by decide +kernel
theorem dX9_style_19 : decode cX9_style 19 = .ok (.getfield 71, 3) := by decide +kernel
theorem dX9_style_22 : decode cX9_style 22 = .ok (.bipush 10, 2) := by decide +kernel
theorem dX9_style_24 : decode cX9_style 24 = .ok (.if_icmp .lt 6, 3) := by decide +kernel
theorem dX9_style_27 : decode cX9_style 27 = .ok (.bipush (-3), 2) := by decide +kernel
theorem dX9_style_29 : decode cX9_style 29 = .ok (.ireturn, 1) := by decide +kernel
theorem dX9_style_30 : decode cX9_style 30 = .ok (.aload_n 0, 1) := by decide +kernel
theorem dX9_style_31 : decode cX9_style 31 = .ok (.getfield 39, 3) := by decide +kernel
theorem dX9_style_34 : decode cX9_style 34 = .ok (.aload_n 0, 1) := by decide +kernel
theorem dX9_style_35 : decode cX9_style 35 = .ok (.getfield 32, 3) := by decide +kernel
theorem dX9_style_38 : decode cX9_style 38 = .ok (.invokevirtual 74, 3) := by decide +kernel
theorem dX9_style_41 : decode cX9_style 41 = .ok (.aload_n 2, 1) := by decide +kernel
theorem dX9_style_42 : decode cX9_style 42 = .ok (.iload_n 1, 1) := by decide +kernel
theorem dX9_style_43 : decode cX9_style 43 = .ok (.invokevirtual 78, 3) := by decide +kernel
theorem dX9_style_46 : decode cX9_style 46 = .ok (.aload_n 0, 1) := by decide +kernel
theorem dX9_style_47 : decode cX9_style 47 = .ok (.getfield 46, 3) := by decide +kernel
theorem dX9_style_50 : decode cX9_style 50 = .ok (.aload_n 0, 1) := by decide +kernel
theorem dX9_style_51 : decode cX9_style 51 = .ok (.getfield 32, 3) := by decide +kernel
theorem dX9_style_54 : decode cX9_style 54 = .ok (.invokevirtual 81, 3) := by decide +kernel
theorem dX9_style_57 : decode cX9_style 57 = .ok (.aload_n 2, 1) := by decide +kernel
theorem dX9_style_58 : decode cX9_style 58 = .ok (.getfield 71, 3) := by decide +kernel
theorem dX9_style_61 : decode cX9_style 61 = .ok (.iconst 1, 1) := by decide +kernel
theorem dX9_style_62 : decode cX9_style 62 = .ok (.isub, 1) := by decide +kernel
theorem dX9_style_63 : decode cX9_style 63 = .ok (.ireturn, 1) := by decide +kernel
theorem dX9_setParent_0 : decode cX9_setParent 0 = .ok (.aload_n 0, 1) := by decide +kernel
theorem dX9_setParent_1 : decode cX9_setParent 1 = .ok (.getfield 32, 3) := by decide +kernel
theorem dX9_setParent_4 : decode cX9_setParent 4 = .ok (.getfield 64, 3) := by decide +kernel
theorem dX9_setParent_7 : decode cX9_setParent 7 = .ok (.astore_n 3, 1) := by decide +kernel
theorem dX9_setParent_8 : decode cX9_setParent 8 = .ok (.aload_n 3, 1) := by decide +kernel
theorem dX9_setParent_9 : decode cX9_setParent 9 = .ok (.iload_n 1, 1) := by decide +kernel
theorem dX9_setParent_10 : decode cX9_setParent 10 = .ok (.invokevirtual 84, 3) := by decide +kernel
theorem dX9_setParent_13 : decode cX9_setParent 13 = .ok (.ifCond .eq 11, 3) := by decide +kernel
theorem dX9_setParent_16 : decode cX9_setParent 16 = .ok (.aload_n 3, 1) := by decide +kernel
theorem dX9_setParent_17 : decode cX9_setParent 17 = .ok (.iload_n 2, 1) := by decide +kernel
theorem dX9_setParent_18 : decode cX9_setParent 18 = .ok (.invokevirtual 67, 3) := by decide +kernel
theorem dX9_setParent_21 : decode cX9_setParent 21 = .ok (.ifCond .ne 5, 3) := by decide +kernel
theorem dX9_setParent_24 : decode cX9_setParent 24 = .ok (.iconst (-1), 1) := by decide +kernel
theorem dX9_setParent_25 : decode cX9_setParent 25 = .ok (.ireturn, 1) := by decide +kernel
theorem dX9_setParent_26 : decode cX9_setParent 26 = .ok (.aload_n 3, 1) := by decide +kernel
theorem dX9_setParent_27 : decode cX9_setParent 27 = .ok (.iload_n 2, 1) := by decide +kernel
theorem dX9_setParent_28 : decode cX9_setParent 28 = .ok (.iload_n 1, 1) := by decide +kernel
theorem dX9_setParent_29 : decode cX9_setParent 29 = .ok (.invokevirtual 87, 3) := by decide +kernel
theorem dX9_setParent_32 : decode cX9_setParent 32 = .ok (.ifCond .eq 6, 3) := by decide +kernel
theorem dX9_setParent_35 : decode cX9_setParent 35 = .ok (.bipush (-2), 2) := by decide +kernel
theorem dX9_setParent_37 : decode cX9_setParent 37 = .ok (.ireturn, 1) := by decide +kernel
theorem dX9_setParent_38 : decode cX9_setParent 38 = .ok (.aload_n 0, 1) := by decide +kernel
theorem dX9_setParent_39 : decode cX9_setParent 39 = .ok (.getfield 39, 3) := by decide +kernel
theorem dX9_setParent_42 : decode cX9_setParent 42 = .ok (.aload_n 0, 1) := by decide +kernel
theorem dX9_setParent_43 : decode cX9_setParent 43 = .ok (.getfield 32, 3) := by decide +kernel
theorem dX9_setParent_46 : decode cX9_setParent 46 = .ok (.invokevirtual 74, 3) := by decide +kernel
theorem dX9_setParent_49 : decode cX9_setParent 49 = .ok (.aload_n 3, 1) := by decide +kernel
theorem dX9_setParent_50 : decode cX9_setParent 50 = .ok (.getfield 91, 3) := by decide +kernel
theorem dX9_setParent_53 : decode cX9_setParent 53 = .ok (.iload_n 1, 1) := by decide +kernel
theorem dX9_setParent_54 : decode cX9_setParent 54 = .ok (.invokevirtual 94, 3) := by decide +kernel
theorem dX9_setParent_57 : decode cX9_setParent 57 = .ok (.istore 4, 2) := by decide +kernel
theorem dX9_setParent_59 : decode cX9_setParent 59 = .ok (.aload_n 3, 1) := by decide +kernel
theorem dX9_setParent_60 : decode cX9_setParent 60 = .ok (.getfield 91, 3) := by decide +kernel
theorem dX9_setParent_63 : decode cX9_setParent 63 = .ok (.iload_n 1, 1) := by decide +kernel
theorem dX9_setParent_64 : decode cX9_setParent 64 = .ok (.iload_n 2, 1) := by decide +kernel
theorem dX9_setParent_65 : decode cX9_setParent 65 = .ok (.invokevirtual 98, 3) := by decide +kernel
theorem dX9_setParent_68 : decode cX9_setParent 68 = .ok (.aload_n 0, 1) := by decide +kernel
theorem dX9_setParent_69 : decode cX9_setParent 69 = .ok (.getfield 46, 3) := by decide +kernel
theorem dX9_setParent_72 : decode cX9_setParent 72 = .ok (.aload_n 0, 1) := by decide +kernel
theorem dX9_setParent_73 : decode cX9_setParent 73 = .ok (.getfield 32, 3) := by decide +kernel
theorem dX9_setParent_76 : decode cX9_setParent 76 = .ok (.invokevirtual 81, 3) := by decide +kernel
theorem dX9_setParent_79 : decode cX9_setParent 79 = .ok (.iload 4, 2) := by decide +kernel
theorem dX9_setParent_81 : decode cX9_setParent 81 = .ok (.ireturn, 1) := by decide +kernel
theorem dX9_setStyle_0 : decode cX9_setStyle 0 = .ok (.aload_n 0, 1) := by decide +kernel
theorem dX9_setStyle_1 : decode cX9_setStyle 1 = .ok (.getfield 32, 3) := by decide +kernel
theorem dX9_setStyle_4 : decode cX9_setStyle 4 = .ok (.getfield 64, 3) := by decide +kernel
theorem dX9_setStyle_7 : decode cX9_setStyle 7 = .ok (.astore 4, 2) := by decide +kernel
theorem dX9_setStyle_9 : decode cX9_setStyle 9 = .ok (.aload 4, 2) := by decide +kernel
theorem dX9_setStyle_11 : decode cX9_setStyle 11 = .ok (.iload_n 1, 1) := by decide +kernel
theorem dX9_setStyle_12 : decode cX9_setStyle 12 = .ok (.invokevirtual 84, 3) := by decide +kernel
theorem dX9_setStyle_15 : decode cX9_setStyle 15 = .ok (.ifCond .eq 10, 3) := by decide +kernel
theorem dX9_setStyle_18 : decode cX9_setStyle 18 = .ok (.iload_n 2, 1) := by decide +kernel
theorem dX9_setStyle_19 : decode cX9_setStyle 19 = .ok (.invokestatic 102, 3) := by decide +kernel
theorem dX9_setStyle_22 : decode cX9_setStyle 22 = .ok (.ifCond .ne 5, 3) := by decide +kernel
theorem dX9_setStyle_25 : decode cX9_setStyle 25 = .ok (.iconst (-1), 1) := by decide +kernel
theorem dX9_setStyle_26 : decode cX9_setStyle 26 = .ok (.ireturn, 1) := by decide +kernel
theorem dX9_setStyle_27 : decode cX9_setStyle 27 = .ok (.iload_n 3, 1) := by decide +kernel
theorem dX9_setStyle_28 : decode cX9_setStyle 28 = .ok (.iconst (-1), 1) := by decide +kernel
theorem dX9_setStyle_29 : decode cX9_setStyle 29 = .ok (.if_icmp .eq 13, 3) := by decide +kernel
theorem dX9_setStyle_32 : decode cX9_setStyle 32 = .ok (.iload_n 2, 1) := by decide +kernel
theorem dX9_setStyle_33 : decode cX9_setStyle 33 = .ok (.iload_n 3, 1) := by decide +kernel
theorem dX9_setStyle_34 : decode cX9_setStyle 34 = .ok (.invokestatic 105, 3) := by decide +kernel
theorem dX9_setStyle_37 : decode cX9_setStyle 37 = .ok (.ifCond .ne 5, 3) := by decide +kernel
theorem dX9_setStyle_40 : decode cX9_setStyle 40 = .ok (.iconst (-1), 1) := by decide +kernel
theorem dX9_setStyle_41 : decode cX9_setStyle 41 = .ok (.ireturn, 1) := by decide +kernel
theorem dX9_setStyle_42 : decode cX9_setStyle 42 = .ok (.aload_n 0, 1) := by decide +kernel
theorem dX9_setStyle_43 : decode cX9_setStyle 43 = .ok (.getfield 39, 3) := by decide +kernel
theorem dX9_setStyle_46 : decode cX9_setStyle 46 = .ok (.aload_n 0, 1) := by decide +kernel
theorem dX9_setStyle_47 : decode cX9_setStyle 47 = .ok (.getfield 32, 3) := by decide +kernel
theorem dX9_setStyle_50 : decode cX9_setStyle 50 = .ok (.invokevirtual 74, 3) := by decide +kernel
theorem dX9_setStyle_53 : decode cX9_setStyle 53 = .ok (.aload 4, 2) := by decide +kernel
theorem dX9_setStyle_55 : decode cX9_setStyle 55 = .ok (.iload_n 1, 1) := by decide +kernel
theorem dX9_setStyle_56 : decode cX9_setStyle 56 = .ok (.iload_n 2, 1) := by decide +kernel
theorem dX9_setStyle_57 : decode cX9_setStyle 57 = .ok (.invokevirtual 108, 3) := by decide +kernel
theorem dX9_setStyle_60 : decode cX9_setStyle 60 = .ok (.istore 5, 2) := by decide +kernel
theorem dX9_setStyle_62 : decode cX9_setStyle 62 = .ok (.aload 4, 2) := by decide +kernel
theorem dX9_setStyle_64 : decode cX9_setStyle 64 = .ok (.iload_n 1, 1) := by decide +kernel
theorem dX9_setStyle_65 : decode cX9_setStyle 65 = .ok (.iload_n 2, 1) := by decide +kernel
theorem dX9_setStyle_66 : decode cX9_setStyle 66 = .ok (.iload_n 3, 1) := by decide +kernel
theorem dX9_setStyle_67 : decode cX9_setStyle 67 = .ok (.invokevirtual 112, 3) := by decide +kernel
theorem dX9_setStyle_70 : decode cX9_setStyle 70 = .ok (.aload_n 0, 1) := by decide +kernel
theorem dX9_setStyle_71 : decode cX9_setStyle 71 = .ok (.getfield 46, 3) := by decide +kernel
theorem dX9_setStyle_74 : decode cX9_setStyle 74 = .ok (.aload_n 0, 1) := by decide +kernel
theorem dX9_setStyle_75 : decode cX9_setStyle 75 = .ok (.getfield 32, 3) := by decide +kernel
theorem dX9_setStyle_78 : decode cX9_setStyle 78 = .ok (.invokevirtual 81, 3) := by decide +kernel
theorem dX9_setStyle_81 : decode cX9_setStyle 81 = .ok (.iload 5, 2) := by decide +kernel
theorem dX9_setStyle_83 : decode cX9_setStyle 83 = .ok (.ireturn, 1) := by decide +kernel
theorem dX9_unstyle_0 : decode cX9_unstyle 0 = .ok (.aload_n 0, 1) := by decide +kernel
theorem dX9_unstyle_1 : decode cX9_unstyle 1 = .ok (.getfield 32, 3) := by decide +kernel
theorem dX9_unstyle_4 : decode cX9_unstyle 4 = .ok (.getfield 64, 3) := by decide +kernel
theorem dX9_unstyle_7 : decode cX9_unstyle 7 = .ok (.astore_n 1, 1) := by decide +kernel
theorem dX9_unstyle_8 : decode cX9_unstyle 8 = .ok (.aload_n 1, 1) := by decide +kernel
theorem dX9_unstyle_9 : decode cX9_unstyle 9 = .ok (.getfield 71, 3) := by decide +kernel
theorem dX9_unstyle_12 : decode cX9_unstyle 12 = .ok (.iconst 1, 1) := by decide +kernel
theorem dX9_unstyle_13 : decode cX9_unstyle 13 = .ok (.isub, 1) := by decide +kernel
theorem dX9_unstyle_14 : decode cX9_unstyle 14 = .ok (.istore_n 2, 1) := by decide +kernel
theorem dX9_unstyle_15 : decode cX9_unstyle 15 = .ok (.iload_n 2, 1) := by decide +kernel
theorem dX9_unstyle_16 : decode cX9_unstyle 16 = .ok (.ifCond .lt 22, 3) := by decide +kernel
theorem dX9_unstyle_19 : decode cX9_unstyle 19 = .ok (.aload_n 1, 1) := by decide +kernel
theorem dX9_unstyle_20 : decode cX9_unstyle 20 = .ok (.iload_n 2, 1) := by decide +kernel
theorem dX9_unstyle_21 : decode cX9_unstyle 21 = .ok (.invokevirtual 116, 3) := by decide +kernel
theorem dX9_unstyle_24 : decode cX9_unstyle 24 = .ok (.ifCond .gt 14, 3) := by decide +kernel
theorem dX9_unstyle_27 : decode cX9_unstyle 27 = .ok (.aload_n 0, 1) := by decide +kernel
theorem dX9_unstyle_28 : decode cX9_unstyle 28 = .ok (.getfield 32, 3) := by decide +kernel
theorem dX9_unstyle_31 : decode cX9_unstyle 31 = .ok (.iload_n 2, 1) := by decide +kernel
theorem dX9_unstyle_32 : decode cX9_unstyle 32 = .ok (.invokevirtual 119, 3) := by decide +kernel
theorem dX9_unstyle_35 : decode cX9_unstyle 35 = .ok (.ifCond .eq 6, 3) := by decide +kernel
theorem dX9_unstyle_38 : decode cX9_unstyle 38 = .ok (.bipush (-2), 2) := by decide +kernel
theorem dX9_unstyle_40 : decode cX9_unstyle 40 = .ok (.ireturn, 1) := by decide +kernel
theorem dX9_unstyle_41 : decode cX9_unstyle 41 = .ok (.aload_n 0, 1) := by decide +kernel
theorem dX9_unstyle_42 : decode cX9_unstyle 42 = .ok (.getfield 39, 3) := by decide +kernel
theorem dX9_unstyle_45 : decode cX9_unstyle 45 = .ok (.aload_n 0, 1) := by decide +kernel
theorem dX9_unstyle_46 : decode cX9_unstyle 46 = .ok (.getfield 32, 3) := by decide +kernel
theorem dX9_unstyle_49 : decode cX9_unstyle 49 = .ok (.invokevirtual 74, 3) := by decide +kernel
theorem dX9_unstyle_52 : decode cX9_unstyle 52 = .ok (.aload_n 1, 1) := by decide +kernel
theorem dX9_unstyle_53 : decode cX9_unstyle 53 = .ok (.invokevirtual 122, 3) := by decide +kernel
theorem dX9_unstyle_56 : decode cX9_unstyle 56 = .ok (.aload_n 0, 1) := by decide +kernel
theorem dX9_unstyle_57 : decode cX9_unstyle 57 = .ok (.getfield 46, 3) := by decide +kernel
theorem dX9_unstyle_60 : decode cX9_unstyle 60 = .ok (.aload_n 0, 1) := by decide +kernel
theorem dX9_unstyle_61 : decode cX9_unstyle 61 = .ok (.getfield 32, 3) := by decide +kernel
theorem dX9_unstyle_64 : decode cX9_unstyle 64 = .ok (.invokevirtual 81, 3) := by decide +kernel
theorem dX9_unstyle_67 : decode cX9_unstyle 67 = .ok (.aload_n 1, 1) := by decide +kernel
theorem dX9_unstyle_68 : decode cX9_unstyle 68 = .ok (.getfield 71, 3) := by decide +kernel
theorem dX9_unstyle_71 : decode cX9_unstyle 71 = .ok (.ireturn, 1) := by decide +kernel
theorem dX9_flatten_0 : decode cX9_flatten 0 = .ok (.aload_n 0, 1) := by decide +kernel
theorem dX9_flatten_1 : decode cX9_flatten 1 = .ok (.getfield 39, 3) := by decide +kernel
theorem dX9_flatten_4 : decode cX9_flatten 4 = .ok (.aload_n 0, 1) := by decide +kernel
theorem dX9_flatten_5 : decode cX9_flatten 5 = .ok (.getfield 32, 3) := by decide +kernel
theorem dX9_flatten_8 : decode cX9_flatten 8 = .ok (.invokevirtual 74, 3) := by decide +kernel
theorem dX9_flatten_11 : decode cX9_flatten 11 = .ok (.aload_n 0, 1) := by decide +kernel
theorem dX9_flatten_12 : decode cX9_flatten 12 = .ok (.getfield 32, 3) := by decide +kernel
theorem dX9_flatten_15 : decode cX9_flatten 15 = .ok (.getfield 64, 3) := by decide +kernel
theorem dX9_flatten_18 : decode cX9_flatten 18 = .ok (.invokevirtual 125, 3) := by decide +kernel
theorem dX9_flatten_21 : decode cX9_flatten 21 = .ok (.istore_n 1, 1) := by decide +kernel
theorem dX9_flatten_22 : decode cX9_flatten 22 = .ok (.aload_n 0, 1) := by decide +kernel
theorem dX9_flatten_23 : decode cX9_flatten 23 = .ok (.getfield 46, 3) := by decide +kernel
theorem dX9_flatten_26 : decode cX9_flatten 26 = .ok (.aload_n 0, 1) := by decide +kernel
theorem dX9_flatten_27 : decode cX9_flatten 27 = .ok (.getfield 32, 3) := by decide +kernel
theorem dX9_flatten_30 : decode cX9_flatten 30 = .ok (.invokevirtual 81, 3) := by decide +kernel
theorem dX9_flatten_33 : decode cX9_flatten 33 = .ok (.iload_n 1, 1) := by decide +kernel
theorem dX9_flatten_34 : decode cX9_flatten 34 = .ok (.ireturn, 1) := by decide +kernel
theorem dX9_styleAt_0 : decode cX9_styleAt 0 = .ok (.aload_n 0, 1) := by decide +kernel
theorem dX9_styleAt_1 : decode cX9_styleAt 1 = .ok (.getfield 32, 3) := by decide +kernel
theorem dX9_styleAt_4 : decode cX9_styleAt 4 = .ok (.getfield 64, 3) := by decide +kernel
theorem dX9_styleAt_7 : decode cX9_styleAt 7 = .ok (.astore_n 3, 1) := by decide +kernel
theorem dX9_styleAt_8 : decode cX9_styleAt 8 = .ok (.aload_n 3, 1) := by decide +kernel
theorem dX9_styleAt_9 : decode cX9_styleAt 9 = .ok (.iload_n 1, 1) := by decide +kernel
theorem dX9_styleAt_10 : decode cX9_styleAt 10 = .ok (.invokevirtual 84, 3) := by decide +kernel
theorem dX9_styleAt_13 : decode cX9_styleAt 13 = .ok (.ifCond .ne 5, 3) := by decide +kernel
theorem dX9_styleAt_16 : decode cX9_styleAt 16 = .ok (.iconst (-1), 1) := by decide +kernel
theorem dX9_styleAt_17 : decode cX9_styleAt 17 = .ok (.ireturn, 1) := by decide +kernel
theorem dX9_styleAt_18 : decode cX9_styleAt 18 = .ok (.iload_n 2, 1) := by decide +kernel
theorem dX9_styleAt_19 : decode cX9_styleAt 19 = .ok (.invokestatic 102, 3) := by decide +kernel
theorem dX9_styleAt_22 : decode cX9_styleAt 22 = .ok (.ifCond .eq 10, 3) := by decide +kernel
theorem dX9_styleAt_25 : decode cX9_styleAt 25 = .ok (.aload_n 3, 1) := by decide +kernel
theorem dX9_styleAt_26 : decode cX9_styleAt 26 = .ok (.iload_n 1, 1) := by decide +kernel
theorem dX9_styleAt_27 : decode cX9_styleAt 27 = .ok (.iload_n 2, 1) := by decide +kernel
theorem dX9_styleAt_28 : decode cX9_styleAt 28 = .ok (.invokevirtual 108, 3) := by decide +kernel
theorem dX9_styleAt_31 : decode cX9_styleAt 31 = .ok (.ireturn, 1) := by decide +kernel
theorem dX9_styleAt_32 : decode cX9_styleAt 32 = .ok (.iload_n 2, 1) := by decide +kernel
theorem dX9_styleAt_33 : decode cX9_styleAt 33 = .ok (.tableswitch 48 6 8 #[27, 36, 42], 27) := by decide +kernel
theorem dX9_styleAt_60 : decode cX9_styleAt 60 = .ok (.aload_n 3, 1) := by decide +kernel
theorem dX9_styleAt_61 : decode cX9_styleAt 61 = .ok (.getfield 91, 3) := by decide +kernel
theorem dX9_styleAt_64 : decode cX9_styleAt 64 = .ok (.iload_n 1, 1) := by decide +kernel
theorem dX9_styleAt_65 : decode cX9_styleAt 65 = .ok (.invokevirtual 94, 3) := by decide +kernel
theorem dX9_styleAt_68 : decode cX9_styleAt 68 = .ok (.ireturn, 1) := by decide +kernel
theorem dX9_styleAt_69 : decode cX9_styleAt 69 = .ok (.aload_n 3, 1) := by decide +kernel
theorem dX9_styleAt_70 : decode cX9_styleAt 70 = .ok (.iload_n 1, 1) := by decide +kernel
theorem dX9_styleAt_71 : decode cX9_styleAt 71 = .ok (.invokevirtual 129, 3) := by decide +kernel
theorem dX9_styleAt_74 : decode cX9_styleAt 74 = .ok (.ireturn, 1) := by decide +kernel
theorem dX9_styleAt_75 : decode cX9_styleAt 75 = .ok (.aload_n 3, 1) := by decide +kernel
theorem dX9_styleAt_76 : decode cX9_styleAt 76 = .ok (.iload_n 1, 1) := by decide +kernel
theorem dX9_styleAt_77 : decode cX9_styleAt 77 = .ok (.invokevirtual 116, 3) := by decide +kernel
theorem dX9_styleAt_80 : decode cX9_styleAt 80 = .ok (.ireturn, 1) := by decide +kernel
theorem dX9_styleAt_81 : decode cX9_styleAt 81 = .ok (.iconst (-1), 1) := by decide +kernel
theorem dX9_styleAt_82 : decode cX9_styleAt 82 = .ok (.ireturn, 1) := by decide +kernel
theorem dX9_valueOf_0 : decode cX9_valueOf 0 = .ok (.aload_n 0, 1) := by decide +kernel
theorem dX9_valueOf_1 : decode cX9_valueOf 1 = .ok (.getfield 32, 3) := by decide +kernel
theorem dX9_valueOf_4 : decode cX9_valueOf 4 = .ok (.getfield 64, 3) := by decide +kernel
theorem dX9_valueOf_7 : decode cX9_valueOf 7 = .ok (.iload_n 1, 1) := by decide +kernel
theorem dX9_valueOf_8 : decode cX9_valueOf 8 = .ok (.invokevirtual 67, 3) := by decide +kernel
theorem dX9_valueOf_11 : decode cX9_valueOf 11 = .ok (.ifCond .eq 10, 3) := by decide +kernel
theorem dX9_valueOf_14 : decode cX9_valueOf 14 = .ok (.iload_n 2, 1) := by decide +kernel
theorem dX9_valueOf_15 : decode cX9_valueOf 15 = .ok (.invokestatic 102, 3) := by decide +kernel
theorem dX9_valueOf_18 : decode cX9_valueOf 18 = .ok (.ifCond .ne 5, 3) := by decide +kernel
theorem dX9_valueOf_21 : decode cX9_valueOf 21 = .ok (.iconst (-1), 1) := by decide +kernel
theorem dX9_valueOf_22 : decode cX9_valueOf 22 = .ok (.ireturn, 1) := by decide +kernel
theorem dX9_valueOf_23 : decode cX9_valueOf 23 = .ok (.aload_n 0, 1) := by decide +kernel
theorem dX9_valueOf_24 : decode cX9_valueOf 24 = .ok (.getfield 32, 3) := by decide +kernel
theorem dX9_valueOf_27 : decode cX9_valueOf 27 = .ok (.getfield 64, 3) := by decide +kernel
theorem dX9_valueOf_30 : decode cX9_valueOf 30 = .ok (.iload_n 1, 1) := by decide +kernel
theorem dX9_valueOf_31 : decode cX9_valueOf 31 = .ok (.iload_n 2, 1) := by decide +kernel
theorem dX9_valueOf_32 : decode cX9_valueOf 32 = .ok (.invokevirtual 132, 3) := by decide +kernel
theorem dX9_valueOf_35 : decode cX9_valueOf 35 = .ok (.ireturn, 1) := by decide +kernel
theorem dX9_from_0 : decode cX9_from 0 = .ok (.aload_n 0, 1) := by decide +kernel
theorem dX9_from_1 : decode cX9_from 1 = .ok (.getfield 32, 3) := by decide +kernel
theorem dX9_from_4 : decode cX9_from 4 = .ok (.getfield 64, 3) := by decide +kernel
theorem dX9_from_7 : decode cX9_from 7 = .ok (.iload_n 1, 1) := by decide +kernel
theorem dX9_from_8 : decode cX9_from 8 = .ok (.invokevirtual 84, 3) := by decide +kernel
theorem dX9_from_11 : decode cX9_from 11 = .ok (.ifCond .eq 10, 3) := by decide +kernel
theorem dX9_from_14 : decode cX9_from 14 = .ok (.iload_n 2, 1) := by decide +kernel
theorem dX9_from_15 : decode cX9_from 15 = .ok (.invokestatic 102, 3) := by decide +kernel
theorem dX9_from_18 : decode cX9_from 18 = .ok (.ifCond .ne 5, 3) := by decide +kernel
theorem dX9_from_21 : decode cX9_from 21 = .ok (.iconst (-1), 1) := by decide +kernel
theorem dX9_from_22 : decode cX9_from 22 = .ok (.ireturn, 1) := by decide +kernel
theorem dX9_from_23 : decode cX9_from 23 = .ok (.aload_n 0, 1) := by decide +kernel
theorem dX9_from_24 : decode cX9_from 24 = .ok (.getfield 32, 3) := by decide +kernel
theorem dX9_from_27 : decode cX9_from 27 = .ok (.getfield 64, 3) := by decide +kernel
theorem dX9_from_30 : decode cX9_from 30 = .ok (.iload_n 1, 1) := by decide +kernel
theorem dX9_from_31 : decode cX9_from 31 = .ok (.iload_n 2, 1) := by decide +kernel
theorem dX9_from_32 : decode cX9_from 32 = .ok (.invokevirtual 135, 3) := by decide +kernel
theorem dX9_from_35 : decode cX9_from 35 = .ok (.ireturn, 1) := by decide +kernel
theorem dX9_styles_0 : decode cX9_styles 0 = .ok (.aload_n 0, 1) := by decide +kernel
theorem dX9_styles_1 : decode cX9_styles 1 = .ok (.getfield 32, 3) := by decide +kernel
theorem dX9_styles_4 : decode cX9_styles 4 = .ok (.getfield 64, 3) := by decide +kernel
theorem dX9_styles_7 : decode cX9_styles 7 = .ok (.getfield 71, 3) := by decide +kernel
theorem dX9_styles_10 : decode cX9_styles 10 = .ok (.ireturn, 1) := by decide +kernel
theorem dX9_type_0 : decode cX9_type 0 = .ok (.iload_n 1, 1) := by decide +kernel
theorem dX9_type_1 : decode cX9_type 1 = .ok (.bipush 32, 2) := by decide +kernel
theorem dX9_type_3 : decode cX9_type 3 = .ok (.if_icmp .lt 9, 3) := by decide +kernel
theorem dX9_type_6 : decode cX9_type 6 = .ok (.iload_n 1, 1) := by decide +kernel
theorem dX9_type_7 : decode cX9_type 7 = .ok (.bipush 126, 2) := by decide +kernel
theorem dX9_type_9 : decode cX9_type 9 = .ok (.if_icmp .le 5, 3) := by decide +kernel
theorem dX9_type_12 : decode cX9_type 12 = .ok (.iconst (-1), 1) := by decide +kernel
theorem dX9_type_13 : decode cX9_type 13 = .ok (.ireturn, 1) := by decide +kernel
theorem dX9_type_14 : decode cX9_type 14 = .ok (.aload_n 0, 1) := by decide +kernel
theorem dX9_type_15 : decode cX9_type 15 = .ok (.getfield 18, 3) := by decide +kernel
theorem dX9_type_18 : decode cX9_type 18 = .ok (.bipush 80, 2) := by decide +kernel
theorem dX9_type_20 : decode cX9_type 20 = .ok (.if_icmp .lt 6, 3) := by decide +kernel
theorem dX9_type_23 : decode cX9_type 23 = .ok (.bipush (-3), 2) := by decide +kernel
theorem dX9_type_25 : decode cX9_type 25 = .ok (.ireturn, 1) := by decide +kernel
theorem dX9_type_26 : decode cX9_type 26 = .ok (.aload_n 0, 1) := by decide +kernel
theorem dX9_type_27 : decode cX9_type 27 = .ok (.getfield 14, 3) := by decide +kernel
theorem dX9_type_30 : decode cX9_type 30 = .ok (.aload_n 0, 1) := by decide +kernel
theorem dX9_type_31 : decode cX9_type 31 = .ok (.getfield 18, 3) := by decide +kernel
theorem dX9_type_34 : decode cX9_type 34 = .ok (.iload_n 1, 1) := by decide +kernel
theorem dX9_type_35 : decode cX9_type 35 = .ok (.invokevirtual 98, 3) := by decide +kernel
theorem dX9_type_38 : decode cX9_type 38 = .ok (.aload_n 0, 1) := by decide +kernel
theorem dX9_type_39 : decode cX9_type 39 = .ok (.dup, 1) := by decide +kernel
theorem dX9_type_40 : decode cX9_type 40 = .ok (.getfield 18, 3) := by decide +kernel
theorem dX9_type_43 : decode cX9_type 43 = .ok (.iconst 1, 1) := by decide +kernel
theorem dX9_type_44 : decode cX9_type 44 = .ok (.iadd, 1) := by decide +kernel
theorem dX9_type_45 : decode cX9_type 45 = .ok (.putfield 18, 3) := by decide +kernel
theorem dX9_type_48 : decode cX9_type 48 = .ok (.aload_n 0, 1) := by decide +kernel
theorem dX9_type_49 : decode cX9_type 49 = .ok (.getfield 18, 3) := by decide +kernel
theorem dX9_type_52 : decode cX9_type 52 = .ok (.ireturn, 1) := by decide +kernel
theorem dX9_clear_0 : decode cX9_clear 0 = .ok (.aload_n 0, 1) := by decide +kernel
theorem dX9_clear_1 : decode cX9_clear 1 = .ok (.getfield 18, 3) := by decide +kernel
theorem dX9_clear_4 : decode cX9_clear 4 = .ok (.istore_n 1, 1) := by decide +kernel
theorem dX9_clear_5 : decode cX9_clear 5 = .ok (.aload_n 0, 1) := by decide +kernel
theorem dX9_clear_6 : decode cX9_clear 6 = .ok (.iconst 0, 1) := by decide +kernel
theorem dX9_clear_7 : decode cX9_clear 7 = .ok (.putfield 18, 3) := by decide +kernel
theorem dX9_clear_10 : decode cX9_clear 10 = .ok (.iload_n 1, 1) := by decide +kernel
theorem dX9_clear_11 : decode cX9_clear 11 = .ok (.ireturn, 1) := by decide +kernel
theorem dX9_line_0 : decode cX9_line 0 = .ok (.iload_n 1, 1) := by decide +kernel
theorem dX9_line_1 : decode cX9_line 1 = .ok (.ifCond .lt 28, 3) := by decide +kernel
theorem dX9_line_4 : decode cX9_line 4 = .ok (.iload_n 2, 1) := by decide +kernel
theorem dX9_line_5 : decode cX9_line 5 = .ok (.iload_n 1, 1) := by decide +kernel
theorem dX9_line_6 : decode cX9_line 6 = .ok (.if_icmp .le 23, 3) := by decide +kernel
theorem dX9_line_9 : decode cX9_line 9 = .ok (.iload_n 2, 1) := by decide +kernel
theorem dX9_line_10 : decode cX9_line 10 = .ok (.ldc 138, 2) := by decide +kernel
theorem dX9_line_12 : decode cX9_line 12 = .ok (.if_icmp .gt 17, 3) := by decide +kernel
theorem dX9_line_15 : decode cX9_line 15 = .ok (.aload_n 0, 1) := by decide +kernel
theorem dX9_line_16 : decode cX9_line 16 = .ok (.getfield 32, 3) := by decide +kernel
theorem dX9_line_19 : decode cX9_line 19 = .ok (.getfield 64, 3) := by decide +kernel
theorem dX9_line_22 : decode cX9_line 22 = .ok (.iload_n 3, 1) := by decide +kernel
theorem dX9_line_23 : decode cX9_line 23 = .ok (.invokevirtual 67, 3) := by decide +kernel
theorem dX9_line_26 : decode cX9_line 26 = .ok (.ifCond .ne 5, 3) := by decide +kernel
theorem dX9_line_29 : decode cX9_line 29 = .ok (.iconst (-1), 1) := by decide +kernel
theorem dX9_line_30 : decode cX9_line 30 = .ok (.ireturn, 1) := by decide +kernel
theorem dX9_line_31 : decode cX9_line 31 = .ok (.aload_n 0, 1) := by decide +kernel
theorem dX9_line_32 : decode cX9_line 32 = .ok (.getfield 32, 3) := by decide +kernel
theorem dX9_line_35 : decode cX9_line 35 = .ok (.getfield 139, 3) := by decide +kernel
theorem dX9_line_38 : decode cX9_line 38 = .ok (.bipush 16, 2) := by decide +kernel
theorem dX9_line_40 : decode cX9_line 40 = .ok (.if_icmp .lt 6, 3) := by decide +kernel
theorem dX9_line_43 : decode cX9_line 43 = .ok (.bipush (-3), 2) := by decide +kernel
theorem dX9_line_45 : decode cX9_line 45 = .ok (.ireturn, 1) := by decide +kernel
theorem dX9_line_46 : decode cX9_line 46 = .ok (.aload_n 0, 1) := by decide +kernel
theorem dX9_line_47 : decode cX9_line 47 = .ok (.getfield 25, 3) := by decide +kernel
theorem dX9_line_50 : decode cX9_line 50 = .ok (.aload_n 0, 1) := by decide +kernel
theorem dX9_line_51 : decode cX9_line 51 = .ok (.getfield 14, 3) := by decide +kernel
theorem dX9_line_54 : decode cX9_line 54 = .ok (.aload_n 0, 1) := by decide +kernel
theorem dX9_line_55 : decode cX9_line 55 = .ok (.getfield 18, 3) := by decide +kernel
theorem dX9_line_58 : decode cX9_line 58 = .ok (.invokevirtual 140, 3) := by decide +kernel
theorem dX9_line_61 : decode cX9_line 61 = .ok (.istore 4, 2) := by decide +kernel
theorem dX9_line_63 : decode cX9_line 63 = .ok (.iload 4, 2) := by decide +kernel
theorem dX9_line_65 : decode cX9_line 65 = .ok (.ifCond .lt 9, 3) := by decide +kernel
theorem dX9_line_68 : decode cX9_line 68 = .ok (.bipush (-100), 2) := by decide +kernel
theorem dX9_line_70 : decode cX9_line 70 = .ok (.iload 4, 2) := by decide +kernel
theorem dX9_line_72 : decode cX9_line 72 = .ok (.isub, 1) := by decide +kernel
theorem dX9_line_73 : decode cX9_line 73 = .ok (.ireturn, 1) := by decide +kernel
theorem dX9_line_74 : decode cX9_line 74 = .ok (.aload_n 0, 1) := by decide +kernel
theorem dX9_line_75 : decode cX9_line 75 = .ok (.getfield 39, 3) := by decide +kernel
theorem dX9_line_78 : decode cX9_line 78 = .ok (.aload_n 0, 1) := by decide +kernel
theorem dX9_line_79 : decode cX9_line 79 = .ok (.getfield 32, 3) := by decide +kernel
theorem dX9_line_82 : decode cX9_line 82 = .ok (.invokevirtual 74, 3) := by decide +kernel
theorem dX9_line_85 : decode cX9_line 85 = .ok (.new 144, 3) := by decide +kernel
theorem dX9_line_88 : decode cX9_line 88 = .ok (.dup, 1) := by decide +kernel
theorem dX9_line_89 : decode cX9_line 89 = .ok (.aload_n 0, 1) := by decide +kernel
theorem dX9_line_90 : decode cX9_line 90 = .ok (.getfield 25, 3) := by decide +kernel
theorem dX9_line_93 : decode cX9_line 93 = .ok (.getfield 146, 3) := by decide +kernel
theorem dX9_line_96 : decode cX9_line 96 = .ok (.aload_n 0, 1) := by decide +kernel
theorem dX9_line_97 : decode cX9_line 97 = .ok (.getfield 25, 3) := by decide +kernel
theorem dX9_line_100 : decode cX9_line 100 = .ok (.getfield 149, 3) := by decide +kernel
theorem dX9_line_103 : decode cX9_line 103 = .ok (.aload_n 0, 1) := by decide +kernel
theorem dX9_line_104 : decode cX9_line 104 = .ok (.getfield 25, 3) := by decide +kernel
theorem dX9_line_107 : decode cX9_line 107 = .ok (.getfield 152, 3) := by decide +kernel
theorem dX9_line_110 : decode cX9_line 110 = .ok (.invokespecial 155, 3) := by decide +kernel
theorem dX9_line_113 : decode cX9_line 113 = .ok (.astore 5, 2) := by decide +kernel
theorem dX9_line_115 : decode cX9_line 115 = .ok (.aload_n 0, 1) := by decide +kernel
theorem dX9_line_116 : decode cX9_line 116 = .ok (.getfield 32, 3) := by decide +kernel
theorem dX9_line_119 : decode cX9_line 119 = .ok (.new 158, 3) := by decide +kernel
theorem dX9_line_122 : decode cX9_line 122 = .ok (.dup, 1) := by decide +kernel
theorem dX9_line_123 : decode cX9_line 123 = .ok (.iload_n 1, 1) := by decide +kernel
theorem dX9_line_124 : decode cX9_line 124 = .ok (.iload_n 2, 1) := by decide +kernel
theorem dX9_line_125 : decode cX9_line 125 = .ok (.iload_n 3, 1) := by decide +kernel
theorem dX9_line_126 : decode cX9_line 126 = .ok (.iconst (-1), 1) := by decide +kernel
theorem dX9_line_127 : decode cX9_line 127 = .ok (.aload 5, 2) := by decide +kernel
theorem dX9_line_129 : decode cX9_line 129 = .ok (.invokespecial 160, 3) := by decide +kernel
theorem dX9_line_132 : decode cX9_line 132 = .ok (.invokevirtual 163, 3) := by decide +kernel
theorem dX9_line_135 : decode cX9_line 135 = .ok (.aload_n 0, 1) := by decide +kernel
theorem dX9_line_136 : decode cX9_line 136 = .ok (.iconst 0, 1) := by decide +kernel
theorem dX9_line_137 : decode cX9_line 137 = .ok (.putfield 18, 3) := by decide +kernel
theorem dX9_line_140 : decode cX9_line 140 = .ok (.aload_n 0, 1) := by decide +kernel
theorem dX9_line_141 : decode cX9_line 141 = .ok (.getfield 46, 3) := by decide +kernel
theorem dX9_line_144 : decode cX9_line 144 = .ok (.aload_n 0, 1) := by decide +kernel
theorem dX9_line_145 : decode cX9_line 145 = .ok (.getfield 32, 3) := by decide +kernel
theorem dX9_line_148 : decode cX9_line 148 = .ok (.invokevirtual 81, 3) := by decide +kernel
theorem dX9_line_151 : decode cX9_line 151 = .ok (.aload_n 0, 1) := by decide +kernel
theorem dX9_line_152 : decode cX9_line 152 = .ok (.getfield 32, 3) := by decide +kernel
theorem dX9_line_155 : decode cX9_line 155 = .ok (.getfield 139, 3) := by decide +kernel
theorem dX9_line_158 : decode cX9_line 158 = .ok (.iconst 1, 1) := by decide +kernel
theorem dX9_line_159 : decode cX9_line 159 = .ok (.isub, 1) := by decide +kernel
theorem dX9_line_160 : decode cX9_line 160 = .ok (.ireturn, 1) := by decide +kernel
theorem dX9_remove_0 : decode cX9_remove 0 = .ok (.aload_n 0, 1) := by decide +kernel
theorem dX9_remove_1 : decode cX9_remove 1 = .ok (.getfield 32, 3) := by decide +kernel
theorem dX9_remove_4 : decode cX9_remove 4 = .ok (.iload_n 1, 1) := by decide +kernel
theorem dX9_remove_5 : decode cX9_remove 5 = .ok (.invokevirtual 167, 3) := by decide +kernel
theorem dX9_remove_8 : decode cX9_remove 8 = .ok (.ifnonnull 5, 3) := by decide +kernel
theorem dX9_remove_11 : decode cX9_remove 11 = .ok (.iconst (-1), 1) := by decide +kernel
theorem dX9_remove_12 : decode cX9_remove 12 = .ok (.ireturn, 1) := by decide +kernel
theorem dX9_remove_13 : decode cX9_remove 13 = .ok (.aload_n 0, 1) := by decide +kernel
theorem dX9_remove_14 : decode cX9_remove 14 = .ok (.getfield 39, 3) := by decide +kernel
theorem dX9_remove_17 : decode cX9_remove 17 = .ok (.aload_n 0, 1) := by decide +kernel
theorem dX9_remove_18 : decode cX9_remove 18 = .ok (.getfield 32, 3) := by decide +kernel
theorem dX9_remove_21 : decode cX9_remove 21 = .ok (.invokevirtual 74, 3) := by decide +kernel
theorem dX9_remove_24 : decode cX9_remove 24 = .ok (.aload_n 0, 1) := by decide +kernel
theorem dX9_remove_25 : decode cX9_remove 25 = .ok (.getfield 32, 3) := by decide +kernel
theorem dX9_remove_28 : decode cX9_remove 28 = .ok (.iload_n 1, 1) := by decide +kernel
theorem dX9_remove_29 : decode cX9_remove 29 = .ok (.invokevirtual 171, 3) := by decide +kernel
theorem dX9_remove_32 : decode cX9_remove 32 = .ok (.aload_n 0, 1) := by decide +kernel
theorem dX9_remove_33 : decode cX9_remove 33 = .ok (.getfield 46, 3) := by decide +kernel
theorem dX9_remove_36 : decode cX9_remove 36 = .ok (.aload_n 0, 1) := by decide +kernel
theorem dX9_remove_37 : decode cX9_remove 37 = .ok (.getfield 32, 3) := by decide +kernel
theorem dX9_remove_40 : decode cX9_remove 40 = .ok (.invokevirtual 81, 3) := by decide +kernel
theorem dX9_remove_43 : decode cX9_remove 43 = .ok (.aload_n 0, 1) := by decide +kernel
theorem dX9_remove_44 : decode cX9_remove 44 = .ok (.getfield 32, 3) := by decide +kernel
theorem dX9_remove_47 : decode cX9_remove 47 = .ok (.getfield 139, 3) := by decide +kernel
theorem dX9_remove_50 : decode cX9_remove 50 = .ok (.ireturn, 1) := by decide +kernel
theorem dX9_change_0 : decode cX9_change 0 = .ok (.aload_n 0, 1) := by decide +kernel
theorem dX9_change_1 : decode cX9_change 1 = .ok (.getfield 32, 3) := by decide +kernel
theorem dX9_change_4 : decode cX9_change 4 = .ok (.iload_n 1, 1) := by decide +kernel
theorem dX9_change_5 : decode cX9_change 5 = .ok (.invokevirtual 167, 3) := by decide +kernel
theorem dX9_change_8 : decode cX9_change 8 = .ok (.astore 4, 2) := by decide +kernel
theorem dX9_change_10 : decode cX9_change 10 = .ok (.aload 4, 2) := by decide +kernel
theorem dX9_change_12 : decode cX9_change 12 = .ok (.ifnull 12, 3) := by decide +kernel
theorem dX9_change_15 : decode cX9_change 15 = .ok (.aload_n 0, 1) := by decide +kernel
theorem dX9_change_16 : decode cX9_change 16 = .ok (.iload_n 2, 1) := by decide +kernel
theorem dX9_change_17 : decode cX9_change 17 = .ok (.iload_n 3, 1) := by decide +kernel
theorem dX9_change_18 : decode cX9_change 18 = .ok (.invokevirtual 174, 3) := by decide +kernel
theorem dX9_change_21 : decode cX9_change 21 = .ok (.ifCond .ne 5, 3) := by decide +kernel
theorem dX9_change_24 : decode cX9_change 24 = .ok (.iconst (-1), 1) := by decide +kernel
theorem dX9_change_25 : decode cX9_change 25 = .ok (.ireturn, 1) := by decide +kernel
theorem dX9_change_26 : decode cX9_change 26 = .ok (.aload_n 0, 1) := by decide +kernel
theorem dX9_change_27 : decode cX9_change 27 = .ok (.getfield 39, 3) := by decide +kernel
theorem dX9_change_30 : decode cX9_change 30 = .ok (.aload_n 0, 1) := by decide +kernel
theorem dX9_change_31 : decode cX9_change 31 = .ok (.getfield 32, 3) := by decide +kernel
theorem dX9_change_34 : decode cX9_change 34 = .ok (.invokevirtual 74, 3) := by decide +kernel
theorem dX9_change_37 : decode cX9_change 37 = .ok (.aload_n 0, 1) := by decide +kernel
theorem dX9_change_38 : decode cX9_change 38 = .ok (.getfield 32, 3) := by decide +kernel
theorem dX9_change_41 : decode cX9_change 41 = .ok (.iload_n 1, 1) := by decide +kernel
theorem dX9_change_42 : decode cX9_change 42 = .ok (.iload_n 2, 1) := by decide +kernel
theorem dX9_change_43 : decode cX9_change 43 = .ok (.ifCond .ne 12, 3) := by decide +kernel
theorem dX9_change_46 : decode cX9_change 46 = .ok (.aload 4, 2) := by decide +kernel
theorem dX9_change_48 : decode cX9_change 48 = .ok (.iload_n 3, 1) := by decide +kernel
theorem dX9_change_49 : decode cX9_change 49 = .ok (.invokevirtual 177, 3) := by decide +kernel
theorem dX9_change_52 : decode cX9_change 52 = .ok (.goto 9, 3) := by decide +kernel
theorem dX9_change_55 : decode cX9_change 55 = .ok (.aload 4, 2) := by decide +kernel
theorem dX9_change_57 : decode cX9_change 57 = .ok (.iload_n 3, 1) := by decide +kernel
theorem dX9_change_58 : decode cX9_change 58 = .ok (.invokevirtual 180, 3) := by decide +kernel
theorem dX9_change_61 : decode cX9_change 61 = .ok (.invokevirtual 183, 3) := by decide +kernel
theorem dX9_change_64 : decode cX9_change 64 = .ok (.aload_n 0, 1) := by decide +kernel
theorem dX9_change_65 : decode cX9_change 65 = .ok (.getfield 46, 3) := by decide +kernel
theorem dX9_change_68 : decode cX9_change 68 = .ok (.aload_n 0, 1) := by decide +kernel
theorem dX9_change_69 : decode cX9_change 69 = .ok (.getfield 32, 3) := by decide +kernel
theorem dX9_change_72 : decode cX9_change 72 = .ok (.invokevirtual 81, 3) := by decide +kernel
theorem dX9_change_75 : decode cX9_change 75 = .ok (.iload_n 2, 1) := by decide +kernel
theorem dX9_change_76 : decode cX9_change 76 = .ok (.ifCond .ne 11, 3) := by decide +kernel
theorem dX9_change_79 : decode cX9_change 79 = .ok (.aload 4, 2) := by decide +kernel
theorem dX9_change_81 : decode cX9_change 81 = .ok (.getfield 187, 3) := by decide +kernel
theorem dX9_change_84 : decode cX9_change 84 = .ok (.goto 8, 3) := by decide +kernel
theorem dX9_change_87 : decode cX9_change 87 = .ok (.aload 4, 2) := by decide +kernel
theorem dX9_change_89 : decode cX9_change 89 = .ok (.getfield 190, 3) := by decide +kernel
theorem dX9_change_92 : decode cX9_change 92 = .ok (.ireturn, 1) := by decide +kernel
theorem dX9_isChange_0 : decode cX9_isChange 0 = .ok (.iload_n 1, 1) := by decide +kernel
theorem dX9_isChange_1 : decode cX9_isChange 1 = .ok (.ifCond .ne 15, 3) := by decide +kernel
theorem dX9_isChange_4 : decode cX9_isChange 4 = .ok (.aload_n 0, 1) := by decide +kernel
theorem dX9_isChange_5 : decode cX9_isChange 5 = .ok (.getfield 32, 3) := by decide +kernel
theorem dX9_isChange_8 : decode cX9_isChange 8 = .ok (.getfield 64, 3) := by decide +kernel
theorem dX9_isChange_11 : decode cX9_isChange 11 = .ok (.iload_n 2, 1) := by decide +kernel
theorem dX9_isChange_12 : decode cX9_isChange 12 = .ok (.invokevirtual 67, 3) := by decide +kernel
theorem dX9_isChange_15 : decode cX9_isChange 15 = .ok (.ireturn, 1) := by decide +kernel
theorem dX9_isChange_16 : decode cX9_isChange 16 = .ok (.iload_n 1, 1) := by decide +kernel
theorem dX9_isChange_17 : decode cX9_isChange 17 = .ok (.iconst 1, 1) := by decide +kernel
theorem dX9_isChange_18 : decode cX9_isChange 18 = .ok (.if_icmp .ne 20, 3) := by decide +kernel
theorem dX9_isChange_21 : decode cX9_isChange 21 = .ok (.iload_n 2, 1) := by decide +kernel
theorem dX9_isChange_22 : decode cX9_isChange 22 = .ok (.iconst (-1), 1) := by decide +kernel
theorem dX9_isChange_23 : decode cX9_isChange 23 = .ok (.if_icmp .eq 11, 3) := by decide +kernel
theorem dX9_isChange_26 : decode cX9_isChange 26 = .ok (.iconst 5, 1) := by decide +kernel
theorem dX9_isChange_27 : decode cX9_isChange 27 = .ok (.iload_n 2, 1) := by decide +kernel
theorem dX9_isChange_28 : decode cX9_isChange 28 = .ok (.invokestatic 105, 3) := by decide +kernel
theorem dX9_isChange_31 : decode cX9_isChange 31 = .ok (.ifCond .eq 7, 3) := by decide +kernel
theorem dX9_isChange_34 : decode cX9_isChange 34 = .ok (.iconst 1, 1) := by decide +kernel
theorem dX9_isChange_35 : decode cX9_isChange 35 = .ok (.goto 4, 3) := by decide +kernel
theorem dX9_isChange_38 : decode cX9_isChange 38 = .ok (.iconst 0, 1) := by decide +kernel
theorem dX9_isChange_39 : decode cX9_isChange 39 = .ok (.ireturn, 1) := by decide +kernel
theorem dX9_shift_0 : decode cX9_shift 0 = .ok (.aload_n 0, 1) := by decide +kernel
theorem dX9_shift_1 : decode cX9_shift 1 = .ok (.getfield 32, 3) := by decide +kernel
theorem dX9_shift_4 : decode cX9_shift 4 = .ok (.iload_n 1, 1) := by decide +kernel
theorem dX9_shift_5 : decode cX9_shift 5 = .ok (.invokevirtual 167, 3) := by decide +kernel
theorem dX9_shift_8 : decode cX9_shift 8 = .ok (.astore_n 3, 1) := by decide +kernel
theorem dX9_shift_9 : decode cX9_shift 9 = .ok (.aload_n 3, 1) := by decide +kernel
theorem dX9_shift_10 : decode cX9_shift 10 = .ok (.ifnull 15, 3) := by decide +kernel
theorem dX9_shift_13 : decode cX9_shift 13 = .ok (.iload_n 2, 1) := by decide +kernel
theorem dX9_shift_14 : decode cX9_shift 14 = .ok (.ldc 193, 2) := by decide +kernel
theorem dX9_shift_16 : decode cX9_shift 16 = .ok (.if_icmp .lt 9, 3) := by decide +kernel
theorem dX9_shift_19 : decode cX9_shift 19 = .ok (.iload_n 2, 1) := by decide +kernel
theorem dX9_shift_20 : decode cX9_shift 20 = .ok (.ldc 138, 2) := by decide +kernel
theorem dX9_shift_22 : decode cX9_shift 22 = .ok (.if_icmp .le 5, 3) := by decide +kernel
theorem dX9_shift_25 : decode cX9_shift 25 = .ok (.iconst (-1), 1) := by decide +kernel
theorem dX9_shift_26 : decode cX9_shift 26 = .ok (.ireturn, 1) := by decide +kernel
theorem dX9_shift_27 : decode cX9_shift 27 = .ok (.aload_n 3, 1) := by decide +kernel
theorem dX9_shift_28 : decode cX9_shift 28 = .ok (.getfield 194, 3) := by decide +kernel
theorem dX9_shift_31 : decode cX9_shift 31 = .ok (.iload_n 2, 1) := by decide +kernel
theorem dX9_shift_32 : decode cX9_shift 32 = .ok (.iadd, 1) := by decide +kernel
theorem dX9_shift_33 : decode cX9_shift 33 = .ok (.ifCond .lt 14, 3) := by decide +kernel
theorem dX9_shift_36 : decode cX9_shift 36 = .ok (.aload_n 3, 1) := by decide +kernel
theorem dX9_shift_37 : decode cX9_shift 37 = .ok (.getfield 197, 3) := by decide +kernel
theorem dX9_shift_40 : decode cX9_shift 40 = .ok (.iload_n 2, 1) := by decide +kernel
theorem dX9_shift_41 : decode cX9_shift 41 = .ok (.iadd, 1) := by decide +kernel
theorem dX9_shift_42 : decode cX9_shift 42 = .ok (.ldc 138, 2) := by decide +kernel
theorem dX9_shift_44 : decode cX9_shift 44 = .ok (.if_icmp .le 6, 3) := by decide +kernel
theorem dX9_shift_47 : decode cX9_shift 47 = .ok (.bipush (-2), 2) := by decide +kernel
theorem dX9_shift_49 : decode cX9_shift 49 = .ok (.ireturn, 1) := by decide +kernel
theorem dX9_shift_50 : decode cX9_shift 50 = .ok (.aload_n 0, 1) := by decide +kernel
theorem dX9_shift_51 : decode cX9_shift 51 = .ok (.getfield 39, 3) := by decide +kernel
theorem dX9_shift_54 : decode cX9_shift 54 = .ok (.aload_n 0, 1) := by decide +kernel
theorem dX9_shift_55 : decode cX9_shift 55 = .ok (.getfield 32, 3) := by decide +kernel
theorem dX9_shift_58 : decode cX9_shift 58 = .ok (.invokevirtual 74, 3) := by decide +kernel
theorem dX9_shift_61 : decode cX9_shift 61 = .ok (.aload_n 0, 1) := by decide +kernel
theorem dX9_shift_62 : decode cX9_shift 62 = .ok (.getfield 32, 3) := by decide +kernel
theorem dX9_shift_65 : decode cX9_shift 65 = .ok (.iload_n 1, 1) := by decide +kernel
theorem dX9_shift_66 : decode cX9_shift 66 = .ok (.aload_n 3, 1) := by decide +kernel
theorem dX9_shift_67 : decode cX9_shift 67 = .ok (.iload_n 2, 1) := by decide +kernel
theorem dX9_shift_68 : decode cX9_shift 68 = .ok (.invokevirtual 200, 3) := by decide +kernel
theorem dX9_shift_71 : decode cX9_shift 71 = .ok (.invokevirtual 183, 3) := by decide +kernel
theorem dX9_shift_74 : decode cX9_shift 74 = .ok (.aload_n 0, 1) := by decide +kernel
theorem dX9_shift_75 : decode cX9_shift 75 = .ok (.getfield 46, 3) := by decide +kernel
theorem dX9_shift_78 : decode cX9_shift 78 = .ok (.aload_n 0, 1) := by decide +kernel
theorem dX9_shift_79 : decode cX9_shift 79 = .ok (.getfield 32, 3) := by decide +kernel
theorem dX9_shift_82 : decode cX9_shift 82 = .ok (.invokevirtual 81, 3) := by decide +kernel
theorem dX9_shift_85 : decode cX9_shift 85 = .ok (.aload_n 3, 1) := by decide +kernel
theorem dX9_shift_86 : decode cX9_shift 86 = .ok (.getfield 194, 3) := by decide +kernel
theorem dX9_shift_89 : decode cX9_shift 89 = .ok (.iload_n 2, 1) := by decide +kernel
theorem dX9_shift_90 : decode cX9_shift 90 = .ok (.iadd, 1) := by decide +kernel
theorem dX9_shift_91 : decode cX9_shift 91 = .ok (.ireturn, 1) := by decide +kernel
theorem dX9_setHeight_0 : decode cX9_setHeight 0 = .ok (.iload_n 1, 1) := by decide +kernel
theorem dX9_setHeight_1 : decode cX9_setHeight 1 = .ok (.bipush 50, 2) := by decide +kernel
theorem dX9_setHeight_3 : decode cX9_setHeight 3 = .ok (.if_icmp .lt 10, 3) := by decide +kernel
theorem dX9_setHeight_6 : decode cX9_setHeight 6 = .ok (.iload_n 1, 1) := by decide +kernel
theorem dX9_setHeight_7 : decode cX9_setHeight 7 = .ok (.sipush 2000, 3) := by decide +kernel
theorem dX9_setHeight_10 : decode cX9_setHeight 10 = .ok (.if_icmp .le 5, 3) := by decide +kernel
theorem dX9_setHeight_13 : decode cX9_setHeight 13 = .ok (.iconst (-1), 1) := by decide +kernel
theorem dX9_setHeight_14 : decode cX9_setHeight 14 = .ok (.ireturn, 1) := by decide +kernel
theorem dX9_setHeight_15 : decode cX9_setHeight 15 = .ok (.aload_n 0, 1) := by decide +kernel
theorem dX9_setHeight_16 : decode cX9_setHeight 16 = .ok (.getfield 39, 3) := by decide +kernel
theorem dX9_setHeight_19 : decode cX9_setHeight 19 = .ok (.aload_n 0, 1) := by decide +kernel
theorem dX9_setHeight_20 : decode cX9_setHeight 20 = .ok (.getfield 32, 3) := by decide +kernel
theorem dX9_setHeight_23 : decode cX9_setHeight 23 = .ok (.invokevirtual 74, 3) := by decide +kernel
theorem dX9_setHeight_26 : decode cX9_setHeight 26 = .ok (.aload_n 0, 1) := by decide +kernel
theorem dX9_setHeight_27 : decode cX9_setHeight 27 = .ok (.getfield 32, 3) := by decide +kernel
theorem dX9_setHeight_30 : decode cX9_setHeight 30 = .ok (.getfield 203, 3) := by decide +kernel
theorem dX9_setHeight_33 : decode cX9_setHeight 33 = .ok (.istore_n 2, 1) := by decide +kernel
theorem dX9_setHeight_34 : decode cX9_setHeight 34 = .ok (.aload_n 0, 1) := by decide +kernel
theorem dX9_setHeight_35 : decode cX9_setHeight 35 = .ok (.getfield 32, 3) := by decide +kernel
theorem dX9_setHeight_38 : decode cX9_setHeight 38 = .ok (.iload_n 1, 1) := by decide +kernel
theorem dX9_setHeight_39 : decode cX9_setHeight 39 = .ok (.putfield 203, 3) := by decide +kernel
theorem dX9_setHeight_42 : decode cX9_setHeight 42 = .ok (.iload_n 2, 1) := by decide +kernel
theorem dX9_setHeight_43 : decode cX9_setHeight 43 = .ok (.ireturn, 1) := by decide +kernel
theorem dX9_about_0 : decode cX9_about 0 = .ok (.aload_n 0, 1) := by decide +kernel
theorem dX9_about_1 : decode cX9_about 1 = .ok (.getfield 32, 3) := by decide +kernel
theorem dX9_about_4 : decode cX9_about 4 = .ok (.iload_n 1, 1) := by decide +kernel
theorem dX9_about_5 : decode cX9_about 5 = .ok (.invokevirtual 167, 3) := by decide +kernel
theorem dX9_about_8 : decode cX9_about 8 = .ok (.astore_n 3, 1) := by decide +kernel
theorem dX9_about_9 : decode cX9_about 9 = .ok (.aload_n 0, 1) := by decide +kernel
theorem dX9_about_10 : decode cX9_about 10 = .ok (.getfield 46, 3) := by decide +kernel
theorem dX9_about_13 : decode cX9_about 13 = .ok (.iload_n 1, 1) := by decide +kernel
theorem dX9_about_14 : decode cX9_about 14 = .ok (.invokevirtual 206, 3) := by decide +kernel
theorem dX9_about_17 : decode cX9_about 17 = .ok (.astore 4, 2) := by decide +kernel
theorem dX9_about_19 : decode cX9_about 19 = .ok (.aload_n 3, 1) := by decide +kernel
theorem dX9_about_20 : decode cX9_about 20 = .ok (.ifnull 8, 3) := by decide +kernel
theorem dX9_about_23 : decode cX9_about 23 = .ok (.aload 4, 2) := by decide +kernel
theorem dX9_about_25 : decode cX9_about 25 = .ok (.ifnonnull 5, 3) := by decide +kernel
theorem dX9_about_28 : decode cX9_about 28 = .ok (.iconst (-1), 1) := by decide +kernel
theorem dX9_about_29 : decode cX9_about 29 = .ok (.ireturn, 1) := by decide +kernel
theorem dX9_about_30 : decode cX9_about 30 = .ok (.iload_n 2, 1) := by decide +kernel
theorem dX9_about_31 : decode cX9_about 31 = .ok (.tableswitch 167 0 11 #[61, 66, 71, 76, 81, 87, 93, 99, 122, 128, 134, 140], 61) := by decide +kernel
theorem dX9_about_92 : decode cX9_about 92 = .ok (.aload_n 3, 1) := by decide +kernel
theorem dX9_about_93 : decode cX9_about 93 = .ok (.getfield 194, 3) := by decide +kernel
theorem dX9_about_96 : decode cX9_about 96 = .ok (.ireturn, 1) := by decide +kernel
theorem dX9_about_97 : decode cX9_about 97 = .ok (.aload_n 3, 1) := by decide +kernel
theorem dX9_about_98 : decode cX9_about 98 = .ok (.getfield 197, 3) := by decide +kernel
theorem dX9_about_101 : decode cX9_about 101 = .ok (.ireturn, 1) := by decide +kernel
theorem dX9_about_102 : decode cX9_about 102 = .ok (.aload_n 3, 1) := by decide +kernel
theorem dX9_about_103 : decode cX9_about 103 = .ok (.getfield 187, 3) := by decide +kernel
theorem dX9_about_106 : decode cX9_about 106 = .ok (.ireturn, 1) := by decide +kernel
theorem dX9_about_107 : decode cX9_about 107 = .ok (.aload_n 3, 1) := by decide +kernel
theorem dX9_about_108 : decode cX9_about 108 = .ok (.getfield 190, 3) := by decide +kernel
theorem dX9_about_111 : decode cX9_about 111 = .ok (.ireturn, 1) := by decide +kernel
theorem dX9_about_112 : decode cX9_about 112 = .ok (.aload 4, 2) := by decide +kernel
theorem dX9_about_114 : decode cX9_about 114 = .ok (.getfield 210, 3) := by decide +kernel
theorem dX9_about_117 : decode cX9_about 117 = .ok (.ireturn, 1) := by decide +kernel
theorem dX9_about_118 : decode cX9_about 118 = .ok (.aload 4, 2) := by decide +kernel
theorem dX9_about_120 : decode cX9_about 120 = .ok (.getfield 213, 3) := by decide +kernel
theorem dX9_about_123 : decode cX9_about 123 = .ok (.ireturn, 1) := by decide +kernel
theorem dX9_about_124 : decode cX9_about 124 = .ok (.aload 4, 2) := by decide +kernel
theorem dX9_about_126 : decode cX9_about 126 = .ok (.getfield 216, 3) := by decide +kernel
theorem dX9_about_129 : decode cX9_about 129 = .ok (.ireturn, 1) := by decide +kernel
theorem dX9_about_130 : decode cX9_about 130 = .ok (.aload 4, 2) := by decide +kernel
theorem dX9_about_132 : decode cX9_about 132 = .ok (.getfield 216, 3) := by decide +kernel
theorem dX9_about_135 : decode cX9_about 135 = .ok (.aload_n 3, 1) := by decide +kernel
theorem dX9_about_136 : decode cX9_about 136 = .ok (.getfield 197, 3) := by decide +kernel
theorem dX9_about_139 : decode cX9_about 139 = .ok (.aload_n 3, 1) := by decide +kernel
theorem dX9_about_140 : decode cX9_about 140 = .ok (.getfield 194, 3) := by decide +kernel
theorem dX9_about_143 : decode cX9_about 143 = .ok (.isub, 1) := by decide +kernel
theorem dX9_about_144 : decode cX9_about 144 = .ok (.if_icmp .gt 7, 3) := by decide +kernel
theorem dX9_about_147 : decode cX9_about 147 = .ok (.iconst 1, 1) := by decide +kernel
theorem dX9_about_148 : decode cX9_about 148 = .ok (.goto 4, 3) := by decide +kernel
theorem dX9_about_151 : decode cX9_about 151 = .ok (.iconst 0, 1) := by decide +kernel
theorem dX9_about_152 : decode cX9_about 152 = .ok (.ireturn, 1) := by decide +kernel
theorem dX9_about_153 : decode cX9_about 153 = .ok (.aload 4, 2) := by decide +kernel
theorem dX9_about_155 : decode cX9_about 155 = .ok (.getfield 219, 3) := by decide +kernel
theorem dX9_about_158 : decode cX9_about 158 = .ok (.ireturn, 1) := by decide +kernel
theorem dX9_about_159 : decode cX9_about 159 = .ok (.aload 4, 2) := by decide +kernel
theorem dX9_about_161 : decode cX9_about 161 = .ok (.getfield 220, 3) := by decide +kernel
theorem dX9_about_164 : decode cX9_about 164 = .ok (.ireturn, 1) := by decide +kernel
theorem dX9_about_165 : decode cX9_about 165 = .ok (.aload 4, 2) := by decide +kernel
theorem dX9_about_167 : decode cX9_about 167 = .ok (.getfield 223, 3) := by decide +kernel
theorem dX9_about_170 : decode cX9_about 170 = .ok (.ireturn, 1) := by decide +kernel
theorem dX9_about_171 : decode cX9_about 171 = .ok (.aload 4, 2) := by decide +kernel
theorem dX9_about_173 : decode cX9_about 173 = .ok (.getfield 220, 3) := by decide +kernel
theorem dX9_about_176 : decode cX9_about 176 = .ok (.aload 4, 2) := by decide +kernel
theorem dX9_about_178 : decode cX9_about 178 = .ok (.getfield 219, 3) := by decide +kernel
theorem dX9_about_181 : decode cX9_about 181 = .ok (.iadd, 1) := by decide +kernel
theorem dX9_about_182 : decode cX9_about 182 = .ok (.aload_n 0, 1) := by decide +kernel
theorem dX9_about_183 : decode cX9_about 183 = .ok (.getfield 32, 3) := by decide +kernel
theorem dX9_about_186 : decode cX9_about 186 = .ok (.getfield 203, 3) := by decide +kernel
theorem dX9_about_189 : decode cX9_about 189 = .ok (.if_icmp .le 7, 3) := by decide +kernel
theorem dX9_about_192 : decode cX9_about 192 = .ok (.iconst 1, 1) := by decide +kernel
theorem dX9_about_193 : decode cX9_about 193 = .ok (.goto 4, 3) := by decide +kernel
theorem dX9_about_196 : decode cX9_about 196 = .ok (.iconst 0, 1) := by decide +kernel
theorem dX9_about_197 : decode cX9_about 197 = .ok (.ireturn, 1) := by decide +kernel
theorem dX9_about_198 : decode cX9_about 198 = .ok (.iconst (-1), 1) := by decide +kernel
theorem dX9_about_199 : decode cX9_about 199 = .ok (.ireturn, 1) := by decide +kernel
theorem dX9_lines_0 : decode cX9_lines 0 = .ok (.aload_n 0, 1) := by decide +kernel
theorem dX9_lines_1 : decode cX9_lines 1 = .ok (.getfield 32, 3) := by decide +kernel
theorem dX9_lines_4 : decode cX9_lines 4 = .ok (.getfield 139, 3) := by decide +kernel
theorem dX9_lines_7 : decode cX9_lines 7 = .ok (.ireturn, 1) := by decide +kernel
theorem dX9_sign_0 : decode cX9_sign 0 = .ok (.aload_n 0, 1) := by decide +kernel
theorem dX9_sign_1 : decode cX9_sign 1 = .ok (.getfield 46, 3) := by decide +kernel
theorem dX9_sign_4 : decode cX9_sign 4 = .ok (.iload_n 1, 1) := by decide +kernel
theorem dX9_sign_5 : decode cX9_sign 5 = .ok (.invokevirtual 206, 3) := by decide +kernel
theorem dX9_sign_8 : decode cX9_sign 8 = .ok (.astore 4, 2) := by decide +kernel
theorem dX9_sign_10 : decode cX9_sign 10 = .ok (.aload 4, 2) := by decide +kernel
theorem dX9_sign_12 : decode cX9_sign 12 = .ok (.ifnull 22, 3) := by decide +kernel
theorem dX9_sign_15 : decode cX9_sign 15 = .ok (.aload 4, 2) := by decide +kernel
theorem dX9_sign_17 : decode cX9_sign 17 = .ok (.iload_n 2, 1) := by decide +kernel
theorem dX9_sign_18 : decode cX9_sign 18 = .ok (.invokevirtual 226, 3) := by decide +kernel
theorem dX9_sign_21 : decode cX9_sign 21 = .ok (.ifCond .eq 13, 3) := by decide +kernel
theorem dX9_sign_24 : decode cX9_sign 24 = .ok (.iload_n 3, 1) := by decide +kernel
theorem dX9_sign_25 : decode cX9_sign 25 = .ok (.ifCond .lt 9, 3) := by decide +kernel
theorem dX9_sign_28 : decode cX9_sign 28 = .ok (.iload_n 3, 1) := by decide +kernel
theorem dX9_sign_29 : decode cX9_sign 29 = .ok (.bipush 6, 2) := by decide +kernel
theorem dX9_sign_31 : decode cX9_sign 31 = .ok (.if_icmp .lt 5, 3) := by decide +kernel
theorem dX9_sign_34 : decode cX9_sign 34 = .ok (.iconst (-1), 1) := by decide +kernel
theorem dX9_sign_35 : decode cX9_sign 35 = .ok (.ireturn, 1) := by decide +kernel
theorem dX9_sign_36 : decode cX9_sign 36 = .ok (.aload 4, 2) := by decide +kernel
theorem dX9_sign_38 : decode cX9_sign 38 = .ok (.iload_n 2, 1) := by decide +kernel
theorem dX9_sign_39 : decode cX9_sign 39 = .ok (.iload_n 3, 1) := by decide +kernel
theorem dX9_sign_40 : decode cX9_sign 40 = .ok (.invokevirtual 229, 3) := by decide +kernel
theorem dX9_sign_43 : decode cX9_sign 43 = .ok (.ireturn, 1) := by decide +kernel
theorem dX9_syllable_0 : decode cX9_syllable 0 = .ok (.aload_n 0, 1) := by decide +kernel
theorem dX9_syllable_1 : decode cX9_syllable 1 = .ok (.getfield 46, 3) := by decide +kernel
theorem dX9_syllable_4 : decode cX9_syllable 4 = .ok (.iload_n 1, 1) := by decide +kernel
theorem dX9_syllable_5 : decode cX9_syllable 5 = .ok (.invokevirtual 206, 3) := by decide +kernel
theorem dX9_syllable_8 : decode cX9_syllable 8 = .ok (.astore 4, 2) := by decide +kernel
theorem dX9_syllable_10 : decode cX9_syllable 10 = .ok (.aload 4, 2) := by decide +kernel
theorem dX9_syllable_12 : decode cX9_syllable 12 = .ok (.ifnull 21, 3) := by decide +kernel
theorem dX9_syllable_15 : decode cX9_syllable 15 = .ok (.aload 4, 2) := by decide +kernel
theorem dX9_syllable_17 : decode cX9_syllable 17 = .ok (.iload_n 2, 1) := by decide +kernel
theorem dX9_syllable_18 : decode cX9_syllable 18 = .ok (.invokevirtual 232, 3) := by decide +kernel
theorem dX9_syllable_21 : decode cX9_syllable 21 = .ok (.ifCond .eq 12, 3) := by decide +kernel
theorem dX9_syllable_24 : decode cX9_syllable 24 = .ok (.iload_n 3, 1) := by decide +kernel
theorem dX9_syllable_25 : decode cX9_syllable 25 = .ok (.ifCond .lt 8, 3) := by decide +kernel
theorem dX9_syllable_28 : decode cX9_syllable 28 = .ok (.iload_n 3, 1) := by decide +kernel
theorem dX9_syllable_29 : decode cX9_syllable 29 = .ok (.iconst 3, 1) := by decide +kernel
theorem dX9_syllable_30 : decode cX9_syllable 30 = .ok (.if_icmp .lt 5, 3) := by decide +kernel
theorem dX9_syllable_33 : decode cX9_syllable 33 = .ok (.iconst (-1), 1) := by decide +kernel
theorem dX9_syllable_34 : decode cX9_syllable 34 = .ok (.ireturn, 1) := by decide +kernel
theorem dX9_syllable_35 : decode cX9_syllable 35 = .ok (.aload 4, 2) := by decide +kernel
theorem dX9_syllable_37 : decode cX9_syllable 37 = .ok (.iload_n 2, 1) := by decide +kernel
theorem dX9_syllable_38 : decode cX9_syllable 38 = .ok (.iload_n 3, 1) := by decide +kernel
theorem dX9_syllable_39 : decode cX9_syllable 39 = .ok (.invokevirtual 235, 3) := by decide +kernel
theorem dX9_syllable_42 : decode cX9_syllable 42 = .ok (.ireturn, 1) := by decide +kernel
theorem dX9_fit_0 : decode cX9_fit 0 = .ok (.aload_n 0, 1) := by decide +kernel
theorem dX9_fit_1 : decode cX9_fit 1 = .ok (.getfield 32, 3) := by decide +kernel
theorem dX9_fit_4 : decode cX9_fit 4 = .ok (.iload_n 1, 1) := by decide +kernel
theorem dX9_fit_5 : decode cX9_fit 5 = .ok (.invokevirtual 167, 3) := by decide +kernel
theorem dX9_fit_8 : decode cX9_fit 8 = .ok (.astore_n 2, 1) := by decide +kernel
theorem dX9_fit_9 : decode cX9_fit 9 = .ok (.aload_n 0, 1) := by decide +kernel
theorem dX9_fit_10 : decode cX9_fit 10 = .ok (.getfield 46, 3) := by decide +kernel
theorem dX9_fit_13 : decode cX9_fit 13 = .ok (.iload_n 1, 1) := by decide +kernel
theorem dX9_fit_14 : decode cX9_fit 14 = .ok (.invokevirtual 206, 3) := by decide +kernel
theorem dX9_fit_17 : decode cX9_fit 17 = .ok (.astore_n 3, 1) := by decide +kernel
theorem dX9_fit_18 : decode cX9_fit 18 = .ok (.aload_n 2, 1) := by decide +kernel
theorem dX9_fit_19 : decode cX9_fit 19 = .ok (.ifnull 7, 3) := by decide +kernel
theorem dX9_fit_22 : decode cX9_fit 22 = .ok (.aload_n 3, 1) := by decide +kernel
theorem dX9_fit_23 : decode cX9_fit 23 = .ok (.ifnonnull 5, 3) := by decide +kernel
theorem dX9_fit_26 : decode cX9_fit 26 = .ok (.iconst (-1), 1) := by decide +kernel
theorem dX9_fit_27 : decode cX9_fit 27 = .ok (.ireturn, 1) := by decide +kernel
theorem dX9_fit_28 : decode cX9_fit 28 = .ok (.aload_n 3, 1) := by decide +kernel
theorem dX9_fit_29 : decode cX9_fit 29 = .ok (.getfield 213, 3) := by decide +kernel
theorem dX9_fit_32 : decode cX9_fit 32 = .ok (.iconst 1, 1) := by decide +kernel
theorem dX9_fit_33 : decode cX9_fit 33 = .ok (.isub, 1) := by decide +kernel
theorem dX9_fit_34 : decode cX9_fit 34 = .ok (.istore 4, 2) := by decide +kernel
theorem dX9_fit_36 : decode cX9_fit 36 = .ok (.iload 4, 2) := by decide +kernel
theorem dX9_fit_38 : decode cX9_fit 38 = .ok (.ifCond .ge 6, 3) := by decide +kernel
theorem dX9_fit_41 : decode cX9_fit 41 = .ok (.bipush (-2), 2) := by decide +kernel
theorem dX9_fit_43 : decode cX9_fit 43 = .ok (.ireturn, 1) := by decide +kernel
theorem dX9_fit_44 : decode cX9_fit 44 = .ok (.aload_n 3, 1) := by decide +kernel
theorem dX9_fit_45 : decode cX9_fit 45 = .ok (.getfield 216, 3) := by decide +kernel
theorem dX9_fit_48 : decode cX9_fit 48 = .ok (.aload_n 3, 1) := by decide +kernel
theorem dX9_fit_49 : decode cX9_fit 49 = .ok (.iload 4, 2) := by decide +kernel
theorem dX9_fit_51 : decode cX9_fit 51 = .ok (.iconst 1, 1) := by decide +kernel
theorem dX9_fit_52 : decode cX9_fit 52 = .ok (.invokevirtual 235, 3) := by decide +kernel
theorem dX9_fit_55 : decode cX9_fit 55 = .ok (.isub, 1) := by decide +kernel
theorem dX9_fit_56 : decode cX9_fit 56 = .ok (.istore 5, 2) := by decide +kernel
theorem dX9_fit_58 : decode cX9_fit 58 = .ok (.aload_n 2, 1) := by decide +kernel
theorem dX9_fit_59 : decode cX9_fit 59 = .ok (.getfield 197, 3) := by decide +kernel
theorem dX9_fit_62 : decode cX9_fit 62 = .ok (.aload_n 2, 1) := by decide +kernel
theorem dX9_fit_63 : decode cX9_fit 63 = .ok (.getfield 194, 3) := by decide +kernel
theorem dX9_fit_66 : decode cX9_fit 66 = .ok (.isub, 1) := by decide +kernel
theorem dX9_fit_67 : decode cX9_fit 67 = .ok (.iload 5, 2) := by decide +kernel
theorem dX9_fit_69 : decode cX9_fit 69 = .ok (.isub, 1) := by decide +kernel
theorem dX9_fit_70 : decode cX9_fit 70 = .ok (.istore 6, 2) := by decide +kernel
theorem dX9_fit_72 : decode cX9_fit 72 = .ok (.iload 6, 2) := by decide +kernel
theorem dX9_fit_74 : decode cX9_fit 74 = .ok (.ifCond .lt 11, 3) := by decide +kernel
theorem dX9_fit_77 : decode cX9_fit 77 = .ok (.iload 6, 2) := by decide +kernel
theorem dX9_fit_79 : decode cX9_fit 79 = .ok (.sipush 9999, 3) := by decide +kernel
theorem dX9_fit_82 : decode cX9_fit 82 = .ok (.if_icmp .le 6, 3) := by decide +kernel
theorem dX9_fit_85 : decode cX9_fit 85 = .ok (.bipush (-2), 2) := by decide +kernel
theorem dX9_fit_87 : decode cX9_fit 87 = .ok (.ireturn, 1) := by decide +kernel
theorem dX9_fit_88 : decode cX9_fit 88 = .ok (.aload_n 0, 1) := by decide +kernel
theorem dX9_fit_89 : decode cX9_fit 89 = .ok (.getfield 39, 3) := by decide +kernel
theorem dX9_fit_92 : decode cX9_fit 92 = .ok (.aload_n 0, 1) := by decide +kernel
theorem dX9_fit_93 : decode cX9_fit 93 = .ok (.getfield 32, 3) := by decide +kernel
theorem dX9_fit_96 : decode cX9_fit 96 = .ok (.invokevirtual 74, 3) := by decide +kernel
theorem dX9_fit_99 : decode cX9_fit 99 = .ok (.aload_n 0, 1) := by decide +kernel
theorem dX9_fit_100 : decode cX9_fit 100 = .ok (.getfield 32, 3) := by decide +kernel
theorem dX9_fit_103 : decode cX9_fit 103 = .ok (.iload_n 1, 1) := by decide +kernel
theorem dX9_fit_104 : decode cX9_fit 104 = .ok (.aload_n 2, 1) := by decide +kernel
theorem dX9_fit_105 : decode cX9_fit 105 = .ok (.aload_n 2, 1) := by decide +kernel
theorem dX9_fit_106 : decode cX9_fit 106 = .ok (.getfield 238, 3) := by decide +kernel
theorem dX9_fit_109 : decode cX9_fit 109 = .ok (.iload 6, 2) := by decide +kernel
theorem dX9_fit_111 : decode cX9_fit 111 = .ok (.invokevirtual 242, 3) := by decide +kernel
theorem dX9_fit_114 : decode cX9_fit 114 = .ok (.invokevirtual 246, 3) := by decide +kernel
theorem dX9_fit_117 : decode cX9_fit 117 = .ok (.invokevirtual 183, 3) := by decide +kernel
theorem dX9_fit_120 : decode cX9_fit 120 = .ok (.aload_n 0, 1) := by decide +kernel
theorem dX9_fit_121 : decode cX9_fit 121 = .ok (.getfield 46, 3) := by decide +kernel
theorem dX9_fit_124 : decode cX9_fit 124 = .ok (.aload_n 0, 1) := by decide +kernel
theorem dX9_fit_125 : decode cX9_fit 125 = .ok (.getfield 32, 3) := by decide +kernel
theorem dX9_fit_128 : decode cX9_fit 128 = .ok (.invokevirtual 81, 3) := by decide +kernel
theorem dX9_fit_131 : decode cX9_fit 131 = .ok (.iload 6, 2) := by decide +kernel
theorem dX9_fit_133 : decode cX9_fit 133 = .ok (.ireturn, 1) := by decide +kernel
theorem dX9_shows_0 : decode cX9_shows 0 = .ok (.aload_n 0, 1) := by decide +kernel
theorem dX9_shows_1 : decode cX9_shows 1 = .ok (.getfield 46, 3) := by decide +kernel
theorem dX9_shows_4 : decode cX9_shows 4 = .ok (.iload_n 1, 1) := by decide +kernel
theorem dX9_shows_5 : decode cX9_shows 5 = .ok (.invokevirtual 206, 3) := by decide +kernel
theorem dX9_shows_8 : decode cX9_shows 8 = .ok (.astore 4, 2) := by decide +kernel
theorem dX9_shows_10 : decode cX9_shows 10 = .ok (.aload 4, 2) := by decide +kernel
theorem dX9_shows_12 : decode cX9_shows 12 = .ok (.ifnull 12, 3) := by decide +kernel
theorem dX9_shows_15 : decode cX9_shows 15 = .ok (.aload 4, 2) := by decide +kernel
theorem dX9_shows_17 : decode cX9_shows 17 = .ok (.iload_n 2, 1) := by decide +kernel
theorem dX9_shows_18 : decode cX9_shows 18 = .ok (.invokevirtual 226, 3) := by decide +kernel
theorem dX9_shows_21 : decode cX9_shows 21 = .ok (.ifCond .ne 5, 3) := by decide +kernel
theorem dX9_shows_24 : decode cX9_shows 24 = .ok (.iconst (-1), 1) := by decide +kernel
theorem dX9_shows_25 : decode cX9_shows 25 = .ok (.ireturn, 1) := by decide +kernel
theorem dX9_shows_26 : decode cX9_shows 26 = .ok (.aload 4, 2) := by decide +kernel
theorem dX9_shows_28 : decode cX9_shows 28 = .ok (.iload_n 3, 1) := by decide +kernel
theorem dX9_shows_29 : decode cX9_shows 29 = .ok (.invokevirtual 250, 3) := by decide +kernel
theorem dX9_shows_32 : decode cX9_shows 32 = .ok (.ifCond .ne 6, 3) := by decide +kernel
theorem dX9_shows_35 : decode cX9_shows 35 = .ok (.bipush (-9), 2) := by decide +kernel
theorem dX9_shows_37 : decode cX9_shows 37 = .ok (.ireturn, 1) := by decide +kernel
theorem dX9_shows_38 : decode cX9_shows 38 = .ok (.aload 4, 2) := by decide +kernel
theorem dX9_shows_40 : decode cX9_shows 40 = .ok (.iload_n 2, 1) := by decide +kernel
theorem dX9_shows_41 : decode cX9_shows 41 = .ok (.iload_n 3, 1) := by decide +kernel
theorem dX9_shows_42 : decode cX9_shows 42 = .ok (.invokevirtual 253, 3) := by decide +kernel
theorem dX9_shows_45 : decode cX9_shows 45 = .ok (.ifCond .eq 7, 3) := by decide +kernel
theorem dX9_shows_48 : decode cX9_shows 48 = .ok (.iconst 2, 1) := by decide +kernel
theorem dX9_shows_49 : decode cX9_shows 49 = .ok (.goto 4, 3) := by decide +kernel
theorem dX9_shows_52 : decode cX9_shows 52 = .ok (.iconst 1, 1) := by decide +kernel
theorem dX9_shows_53 : decode cX9_shows 53 = .ok (.istore 5, 2) := by decide +kernel
theorem dX9_shows_55 : decode cX9_shows 55 = .ok (.aload 4, 2) := by decide +kernel
theorem dX9_shows_57 : decode cX9_shows 57 = .ok (.iload_n 2, 1) := by decide +kernel
theorem dX9_shows_58 : decode cX9_shows 58 = .ok (.iconst 1, 1) := by decide +kernel
theorem dX9_shows_59 : decode cX9_shows 59 = .ok (.iload 5, 2) := by decide +kernel
theorem dX9_shows_61 : decode cX9_shows 61 = .ok (.iadd, 1) := by decide +kernel
theorem dX9_shows_62 : decode cX9_shows 62 = .ok (.invokevirtual 229, 3) := by decide +kernel
theorem dX9_shows_65 : decode cX9_shows 65 = .ok (.ireturn, 1) := by decide +kernel
theorem dX9_shown_0 : decode cX9_shown 0 = .ok (.iload_n 2, 1) := by decide +kernel
theorem dX9_shown_1 : decode cX9_shown 1 = .ok (.ifCond .ge 5, 3) := by decide +kernel
theorem dX9_shown_4 : decode cX9_shown 4 = .ok (.iconst (-1), 1) := by decide +kernel
theorem dX9_shown_5 : decode cX9_shown 5 = .ok (.ireturn, 1) := by decide +kernel
theorem dX9_shown_6 : decode cX9_shown 6 = .ok (.iconst 0, 1) := by decide +kernel
theorem dX9_shown_7 : decode cX9_shown 7 = .ok (.istore_n 3, 1) := by decide +kernel
theorem dX9_shown_8 : decode cX9_shown 8 = .ok (.iload_n 3, 1) := by decide +kernel
theorem dX9_shown_9 : decode cX9_shown 9 = .ok (.aload_n 0, 1) := by decide +kernel
theorem dX9_shown_10 : decode cX9_shown 10 = .ok (.getfield 32, 3) := by decide +kernel
theorem dX9_shown_13 : decode cX9_shown 13 = .ok (.getfield 139, 3) := by decide +kernel
theorem dX9_shown_16 : decode cX9_shown 16 = .ok (.if_icmp .ge 36, 3) := by decide +kernel
theorem dX9_shown_19 : decode cX9_shown 19 = .ok (.aload_n 0, 1) := by decide +kernel
theorem dX9_shown_20 : decode cX9_shown 20 = .ok (.getfield 46, 3) := by decide +kernel
theorem dX9_shown_23 : decode cX9_shown 23 = .ok (.iload_n 3, 1) := by decide +kernel
theorem dX9_shown_24 : decode cX9_shown 24 = .ok (.iload_n 1, 1) := by decide +kernel
theorem dX9_shown_25 : decode cX9_shown 25 = .ok (.invokevirtual 256, 3) := by decide +kernel
theorem dX9_shown_28 : decode cX9_shown 28 = .ok (.ifCond .eq 18, 3) := by decide +kernel
theorem dX9_shown_31 : decode cX9_shown 31 = .ok (.aload_n 0, 1) := by decide +kernel
theorem dX9_shown_32 : decode cX9_shown 32 = .ok (.getfield 46, 3) := by decide +kernel
theorem dX9_shown_35 : decode cX9_shown 35 = .ok (.iload_n 3, 1) := by decide +kernel
theorem dX9_shown_36 : decode cX9_shown 36 = .ok (.iload_n 1, 1) := by decide +kernel
theorem dX9_shown_37 : decode cX9_shown 37 = .ok (.invokevirtual 258, 3) := by decide +kernel
theorem dX9_shown_40 : decode cX9_shown 40 = .ok (.iload_n 2, 1) := by decide +kernel
theorem dX9_shown_41 : decode cX9_shown 41 = .ok (.if_icmp .ne 5, 3) := by decide +kernel
theorem dX9_shown_44 : decode cX9_shown 44 = .ok (.iload_n 3, 1) := by decide +kernel
theorem dX9_shown_45 : decode cX9_shown 45 = .ok (.ireturn, 1) := by decide +kernel
theorem dX9_shown_46 : decode cX9_shown 46 = .ok (.iinc 3 1, 3) := by decide +kernel
theorem dX9_shown_49 : decode cX9_shown 49 = .ok (.goto (-41), 3) := by decide +kernel
theorem dX9_shown_52 : decode cX9_shown 52 = .ok (.bipush (-9), 2) := by decide +kernel
theorem dX9_shown_54 : decode cX9_shown 54 = .ok (.ireturn, 1) := by decide +kernel
theorem dX9_crowd_0 : decode cX9_crowd 0 = .ok (.bipush (-9), 2) := by decide +kernel
theorem dX9_crowd_2 : decode cX9_crowd 2 = .ok (.istore_n 1, 1) := by decide +kernel
theorem dX9_crowd_3 : decode cX9_crowd 3 = .ok (.iconst 0, 1) := by decide +kernel
theorem dX9_crowd_4 : decode cX9_crowd 4 = .ok (.istore_n 2, 1) := by decide +kernel
theorem dX9_crowd_5 : decode cX9_crowd 5 = .ok (.iconst 0, 1) := by decide +kernel
theorem dX9_crowd_6 : decode cX9_crowd 6 = .ok (.istore_n 3, 1) := by decide +kernel
theorem dX9_crowd_7 : decode cX9_crowd 7 = .ok (.iload_n 3, 1) := by decide +kernel
theorem dX9_crowd_8 : decode cX9_crowd 8 = .ok (.aload_n 0, 1) := by decide +kernel
theorem dX9_crowd_9 : decode cX9_crowd 9 = .ok (.getfield 32, 3) := by decide +kernel
theorem dX9_crowd_12 : decode cX9_crowd 12 = .ok (.getfield 139, 3) := by decide +kernel
theorem dX9_crowd_15 : decode cX9_crowd 15 = .ok (.if_icmp .ge 54, 3) := by decide +kernel
theorem dX9_crowd_18 : decode cX9_crowd 18 = .ok (.aload_n 0, 1) := by decide +kernel
theorem dX9_crowd_19 : decode cX9_crowd 19 = .ok (.getfield 46, 3) := by decide +kernel
theorem dX9_crowd_22 : decode cX9_crowd 22 = .ok (.iload_n 3, 1) := by decide +kernel
theorem dX9_crowd_23 : decode cX9_crowd 23 = .ok (.invokevirtual 261, 3) := by decide +kernel
theorem dX9_crowd_26 : decode cX9_crowd 26 = .ok (.istore 4, 2) := by decide +kernel
theorem dX9_crowd_28 : decode cX9_crowd 28 = .ok (.aload_n 0, 1) := by decide +kernel
theorem dX9_crowd_29 : decode cX9_crowd 29 = .ok (.getfield 46, 3) := by decide +kernel
theorem dX9_crowd_32 : decode cX9_crowd 32 = .ok (.iload 4, 2) := by decide +kernel
theorem dX9_crowd_34 : decode cX9_crowd 34 = .ok (.invokevirtual 264, 3) := by decide +kernel
theorem dX9_crowd_37 : decode cX9_crowd 37 = .ok (.istore 5, 2) := by decide +kernel
theorem dX9_crowd_39 : decode cX9_crowd 39 = .ok (.iload 5, 2) := by decide +kernel
theorem dX9_crowd_41 : decode cX9_crowd 41 = .ok (.iload_n 2, 1) := by decide +kernel
theorem dX9_crowd_42 : decode cX9_crowd 42 = .ok (.if_icmp .gt 15, 3) := by decide +kernel
theorem dX9_crowd_45 : decode cX9_crowd 45 = .ok (.iload 5, 2) := by decide +kernel
theorem dX9_crowd_47 : decode cX9_crowd 47 = .ok (.iload_n 2, 1) := by decide +kernel
theorem dX9_crowd_48 : decode cX9_crowd 48 = .ok (.if_icmp .ne 15, 3) := by decide +kernel
theorem dX9_crowd_51 : decode cX9_crowd 51 = .ok (.iload 4, 2) := by decide +kernel
theorem dX9_crowd_53 : decode cX9_crowd 53 = .ok (.iload_n 1, 1) := by decide +kernel
theorem dX9_crowd_54 : decode cX9_crowd 54 = .ok (.if_icmp .ge 9, 3) := by decide +kernel
theorem dX9_crowd_57 : decode cX9_crowd 57 = .ok (.iload 5, 2) := by decide +kernel
theorem dX9_crowd_59 : decode cX9_crowd 59 = .ok (.istore_n 2, 1) := by decide +kernel
theorem dX9_crowd_60 : decode cX9_crowd 60 = .ok (.iload 4, 2) := by decide +kernel
theorem dX9_crowd_62 : decode cX9_crowd 62 = .ok (.istore_n 1, 1) := by decide +kernel
theorem dX9_crowd_63 : decode cX9_crowd 63 = .ok (.iinc 3 1, 3) := by decide +kernel
theorem dX9_crowd_66 : decode cX9_crowd 66 = .ok (.goto (-59), 3) := by decide +kernel
theorem dX9_crowd_69 : decode cX9_crowd 69 = .ok (.iload_n 1, 1) := by decide +kernel
theorem dX9_crowd_70 : decode cX9_crowd 70 = .ok (.ireturn, 1) := by decide +kernel
theorem dX9_sung_0 : decode cX9_sung 0 = .ok (.iconst 0, 1) := by decide +kernel
theorem dX9_sung_1 : decode cX9_sung 1 = .ok (.istore_n 2, 1) := by decide +kernel
theorem dX9_sung_2 : decode cX9_sung 2 = .ok (.iconst 0, 1) := by decide +kernel
theorem dX9_sung_3 : decode cX9_sung 3 = .ok (.istore_n 3, 1) := by decide +kernel
theorem dX9_sung_4 : decode cX9_sung 4 = .ok (.iconst 0, 1) := by decide +kernel
theorem dX9_sung_5 : decode cX9_sung 5 = .ok (.istore 4, 2) := by decide +kernel
theorem dX9_sung_7 : decode cX9_sung 7 = .ok (.iload 4, 2) := by decide +kernel
theorem dX9_sung_9 : decode cX9_sung 9 = .ok (.aload_n 0, 1) := by decide +kernel
theorem dX9_sung_10 : decode cX9_sung 10 = .ok (.getfield 32, 3) := by decide +kernel
theorem dX9_sung_13 : decode cX9_sung 13 = .ok (.getfield 139, 3) := by decide +kernel
theorem dX9_sung_16 : decode cX9_sung 16 = .ok (.if_icmp .ge 51, 3) := by decide +kernel
theorem dX9_sung_19 : decode cX9_sung 19 = .ok (.aload_n 0, 1) := by decide +kernel
theorem dX9_sung_20 : decode cX9_sung 20 = .ok (.getfield 46, 3) := by decide +kernel
theorem dX9_sung_23 : decode cX9_sung 23 = .ok (.iload 4, 2) := by decide +kernel
theorem dX9_sung_25 : decode cX9_sung 25 = .ok (.invokevirtual 206, 3) := by decide +kernel
theorem dX9_sung_28 : decode cX9_sung 28 = .ok (.astore 5, 2) := by decide +kernel
theorem dX9_sung_30 : decode cX9_sung 30 = .ok (.aload 5, 2) := by decide +kernel
theorem dX9_sung_32 : decode cX9_sung 32 = .ok (.ifnull 29, 3) := by decide +kernel
theorem dX9_sung_35 : decode cX9_sung 35 = .ok (.aload 5, 2) := by decide +kernel
theorem dX9_sung_37 : decode cX9_sung 37 = .ok (.iload_n 1, 1) := by decide +kernel
theorem dX9_sung_38 : decode cX9_sung 38 = .ok (.invokevirtual 250, 3) := by decide +kernel
theorem dX9_sung_41 : decode cX9_sung 41 = .ok (.ifCond .eq 20, 3) := by decide +kernel
theorem dX9_sung_44 : decode cX9_sung 44 = .ok (.iload_n 2, 1) := by decide +kernel
theorem dX9_sung_45 : decode cX9_sung 45 = .ok (.aload 5, 2) := by decide +kernel
theorem dX9_sung_47 : decode cX9_sung 47 = .ok (.getfield 210, 3) := by decide +kernel
theorem dX9_sung_50 : decode cX9_sung 50 = .ok (.iadd, 1) := by decide +kernel
theorem dX9_sung_51 : decode cX9_sung 51 = .ok (.istore_n 2, 1) := by decide +kernel
theorem dX9_sung_52 : decode cX9_sung 52 = .ok (.iload_n 3, 1) := by decide +kernel
theorem dX9_sung_53 : decode cX9_sung 53 = .ok (.aload 5, 2) := by decide +kernel
theorem dX9_sung_55 : decode cX9_sung 55 = .ok (.iload_n 1, 1) := by decide +kernel
theorem dX9_sung_56 : decode cX9_sung 56 = .ok (.invokevirtual 267, 3) := by decide +kernel
theorem dX9_sung_59 : decode cX9_sung 59 = .ok (.iadd, 1) := by decide +kernel
theorem dX9_sung_60 : decode cX9_sung 60 = .ok (.istore_n 3, 1) := by decide +kernel
theorem dX9_sung_61 : decode cX9_sung 61 = .ok (.iinc 4 1, 3) := by decide +kernel
theorem dX9_sung_64 : decode cX9_sung 64 = .ok (.goto (-57), 3) := by decide +kernel
theorem dX9_sung_67 : decode cX9_sung 67 = .ok (.iload_n 2, 1) := by decide +kernel
theorem dX9_sung_68 : decode cX9_sung 68 = .ok (.ifCond .ne 7, 3) := by decide +kernel
theorem dX9_sung_71 : decode cX9_sung 71 = .ok (.fconst 0, 1) := by decide +kernel
theorem dX9_sung_72 : decode cX9_sung 72 = .ok (.goto 8, 3) := by decide +kernel
theorem dX9_sung_75 : decode cX9_sung 75 = .ok (.iload_n 3, 1) := by decide +kernel
theorem dX9_sung_76 : decode cX9_sung 76 = .ok (.i2f, 1) := by decide +kernel
theorem dX9_sung_77 : decode cX9_sung 77 = .ok (.iload_n 2, 1) := by decide +kernel
theorem dX9_sung_78 : decode cX9_sung 78 = .ok (.i2f, 1) := by decide +kernel
theorem dX9_sung_79 : decode cX9_sung 79 = .ok (.fdiv, 1) := by decide +kernel
theorem dX9_sung_80 : decode cX9_sung 80 = .ok (.freturn, 1) := by decide +kernel
theorem dX9_unlike_0 : decode cX9_unlike 0 = .ok (.aload_n 0, 1) := by decide +kernel
theorem dX9_unlike_1 : decode cX9_unlike 1 = .ok (.getfield 53, 3) := by decide +kernel
theorem dX9_unlike_4 : decode cX9_unlike 4 = .ok (.aload_n 0, 1) := by decide +kernel
theorem dX9_unlike_5 : decode cX9_unlike 5 = .ok (.getfield 32, 3) := by decide +kernel
theorem dX9_unlike_8 : decode cX9_unlike 8 = .ok (.getfield 64, 3) := by decide +kernel
theorem dX9_unlike_11 : decode cX9_unlike 11 = .ok (.invokevirtual 270, 3) := by decide +kernel
theorem dX9_unlike_14 : decode cX9_unlike 14 = .ok (.aload_n 0, 1) := by decide +kernel
theorem dX9_unlike_15 : decode cX9_unlike 15 = .ok (.getfield 53, 3) := by decide +kernel
theorem dX9_unlike_18 : decode cX9_unlike 18 = .ok (.invokevirtual 125, 3) := by decide +kernel
theorem dX9_unlike_21 : decode cX9_unlike 21 = .ok (.pop, 1) := by decide +kernel
theorem dX9_unlike_22 : decode cX9_unlike 22 = .ok (.iconst 0, 1) := by decide +kernel
theorem dX9_unlike_23 : decode cX9_unlike 23 = .ok (.istore_n 1, 1) := by decide +kernel
theorem dX9_unlike_24 : decode cX9_unlike 24 = .ok (.iconst 0, 1) := by decide +kernel
theorem dX9_unlike_25 : decode cX9_unlike 25 = .ok (.istore_n 2, 1) := by decide +kernel
theorem dX9_unlike_26 : decode cX9_unlike 26 = .ok (.iload_n 2, 1) := by decide +kernel
theorem dX9_unlike_27 : decode cX9_unlike 27 = .ok (.aload_n 0, 1) := by decide +kernel
theorem dX9_unlike_28 : decode cX9_unlike 28 = .ok (.getfield 32, 3) := by decide +kernel
theorem dX9_unlike_31 : decode cX9_unlike 31 = .ok (.getfield 139, 3) := by decide +kernel
theorem dX9_unlike_34 : decode cX9_unlike 34 = .ok (.if_icmp .ge 61, 3) := by decide +kernel
theorem dX9_unlike_37 : decode cX9_unlike 37 = .ok (.aload_n 0, 1) := by decide +kernel
theorem dX9_unlike_38 : decode cX9_unlike 38 = .ok (.getfield 32, 3) := by decide +kernel
theorem dX9_unlike_41 : decode cX9_unlike 41 = .ok (.iload_n 2, 1) := by decide +kernel
theorem dX9_unlike_42 : decode cX9_unlike 42 = .ok (.invokevirtual 167, 3) := by decide +kernel
theorem dX9_unlike_45 : decode cX9_unlike 45 = .ok (.astore_n 3, 1) := by decide +kernel
theorem dX9_unlike_46 : decode cX9_unlike 46 = .ok (.aload_n 0, 1) := by decide +kernel
theorem dX9_unlike_47 : decode cX9_unlike 47 = .ok (.getfield 46, 3) := by decide +kernel
theorem dX9_unlike_50 : decode cX9_unlike 50 = .ok (.iload_n 2, 1) := by decide +kernel
theorem dX9_unlike_51 : decode cX9_unlike 51 = .ok (.invokevirtual 206, 3) := by decide +kernel
theorem dX9_unlike_54 : decode cX9_unlike 54 = .ok (.astore 4, 2) := by decide +kernel
theorem dX9_unlike_56 : decode cX9_unlike 56 = .ok (.aload_n 3, 1) := by decide +kernel
theorem dX9_unlike_57 : decode cX9_unlike 57 = .ok (.ifnull 32, 3) := by decide +kernel
theorem dX9_unlike_60 : decode cX9_unlike 60 = .ok (.aload 4, 2) := by decide +kernel
theorem dX9_unlike_62 : decode cX9_unlike 62 = .ok (.ifnull 27, 3) := by decide +kernel
theorem dX9_unlike_65 : decode cX9_unlike 65 = .ok (.aload_n 0, 1) := by decide +kernel
theorem dX9_unlike_66 : decode cX9_unlike 66 = .ok (.getfield 60, 3) := by decide +kernel
theorem dX9_unlike_69 : decode cX9_unlike 69 = .ok (.aload_n 3, 1) := by decide +kernel
theorem dX9_unlike_70 : decode cX9_unlike 70 = .ok (.aload_n 0, 1) := by decide +kernel
theorem dX9_unlike_71 : decode cX9_unlike 71 = .ok (.getfield 53, 3) := by decide +kernel
theorem dX9_unlike_74 : decode cX9_unlike 74 = .ok (.invokevirtual 274, 3) := by decide +kernel
theorem dX9_unlike_77 : decode cX9_unlike 77 = .ok (.iload_n 1, 1) := by decide +kernel
theorem dX9_unlike_78 : decode cX9_unlike 78 = .ok (.aload 4, 2) := by decide +kernel
theorem dX9_unlike_80 : decode cX9_unlike 80 = .ok (.aload_n 0, 1) := by decide +kernel
theorem dX9_unlike_81 : decode cX9_unlike 81 = .ok (.getfield 60, 3) := by decide +kernel
theorem dX9_unlike_84 : decode cX9_unlike 84 = .ok (.invokevirtual 277, 3) := by decide +kernel
theorem dX9_unlike_87 : decode cX9_unlike 87 = .ok (.iadd, 1) := by decide +kernel
theorem dX9_unlike_88 : decode cX9_unlike 88 = .ok (.istore_n 1, 1) := by decide +kernel
theorem dX9_unlike_89 : decode cX9_unlike 89 = .ok (.iinc 2 1, 3) := by decide +kernel
theorem dX9_unlike_92 : decode cX9_unlike 92 = .ok (.goto (-66), 3) := by decide +kernel
theorem dX9_unlike_95 : decode cX9_unlike 95 = .ok (.iload_n 1, 1) := by decide +kernel
theorem dX9_unlike_96 : decode cX9_unlike 96 = .ok (.ireturn, 1) := by decide +kernel
theorem dX9_undo_0 : decode cX9_undo 0 = .ok (.aload_n 0, 1) := by decide +kernel
theorem dX9_undo_1 : decode cX9_undo 1 = .ok (.getfield 39, 3) := by decide +kernel
theorem dX9_undo_4 : decode cX9_undo 4 = .ok (.getfield 281, 3) := by decide +kernel
theorem dX9_undo_7 : decode cX9_undo 7 = .ok (.ifCond .gt 6, 3) := by decide +kernel
theorem dX9_undo_10 : decode cX9_undo 10 = .ok (.bipush (-9), 2) := by decide +kernel
theorem dX9_undo_12 : decode cX9_undo 12 = .ok (.ireturn, 1) := by decide +kernel
theorem dX9_undo_13 : decode cX9_undo 13 = .ok (.aload_n 0, 1) := by decide +kernel
theorem dX9_undo_14 : decode cX9_undo 14 = .ok (.getfield 39, 3) := by decide +kernel
theorem dX9_undo_17 : decode cX9_undo 17 = .ok (.aload_n 0, 1) := by decide +kernel
theorem dX9_undo_18 : decode cX9_undo 18 = .ok (.getfield 32, 3) := by decide +kernel
theorem dX9_undo_21 : decode cX9_undo 21 = .ok (.invokevirtual 282, 3) := by decide +kernel
theorem dX9_undo_24 : decode cX9_undo 24 = .ok (.aload_n 0, 1) := by decide +kernel
theorem dX9_undo_25 : decode cX9_undo 25 = .ok (.getfield 46, 3) := by decide +kernel
theorem dX9_undo_28 : decode cX9_undo 28 = .ok (.aload_n 0, 1) := by decide +kernel
theorem dX9_undo_29 : decode cX9_undo 29 = .ok (.getfield 32, 3) := by decide +kernel
theorem dX9_undo_32 : decode cX9_undo 32 = .ok (.invokevirtual 81, 3) := by decide +kernel
theorem dX9_undo_35 : decode cX9_undo 35 = .ok (.aload_n 0, 1) := by decide +kernel
theorem dX9_undo_36 : decode cX9_undo 36 = .ok (.getfield 39, 3) := by decide +kernel
theorem dX9_undo_39 : decode cX9_undo 39 = .ok (.getfield 281, 3) := by decide +kernel
theorem dX9_undo_42 : decode cX9_undo 42 = .ok (.ireturn, 1) := by decide +kernel
theorem dX9_fingerprint_0 : decode cX9_fingerprint 0 = .ok (.ldc2_w 285, 3) := by decide +kernel
theorem dX9_fingerprint_3 : decode cX9_fingerprint 3 = .ok (.aload_n 0, 1) := by decide +kernel
theorem dX9_fingerprint_4 : decode cX9_fingerprint 4 = .ok (.invokevirtual 287, 3) := by decide +kernel
theorem dX9_fingerprint_7 : decode cX9_fingerprint 7 = .ok (.invokestatic 290, 3) := by decide +kernel
theorem dX9_fingerprint_10 : decode cX9_fingerprint 10 = .ok (.lstore_n 1, 1) := by decide +kernel
theorem dX9_fingerprint_11 : decode cX9_fingerprint 11 = .ok (.iconst 0, 1) := by decide +kernel
theorem dX9_fingerprint_12 : decode cX9_fingerprint 12 = .ok (.istore_n 3, 1) := by decide +kernel
theorem dX9_fingerprint_13 : decode cX9_fingerprint 13 = .ok (.iload_n 3, 1) := by decide +kernel
theorem dX9_fingerprint_14 : decode cX9_fingerprint 14 = .ok (.aload_n 0, 1) := by decide +kernel
theorem dX9_fingerprint_15 : decode cX9_fingerprint 15 = .ok (.getfield 32, 3) := by decide +kernel
theorem dX9_fingerprint_18 : decode cX9_fingerprint 18 = .ok (.getfield 64, 3) := by decide +kernel
theorem dX9_fingerprint_21 : decode cX9_fingerprint 21 = .ok (.getfield 71, 3) := by decide +kernel
theorem dX9_fingerprint_24 : decode cX9_fingerprint 24 = .ok (.if_icmp .ge 16, 3) := by decide +kernel
theorem dX9_fingerprint_27 : decode cX9_fingerprint 27 = .ok (.aload_n 0, 1) := by decide +kernel
theorem dX9_fingerprint_28 : decode cX9_fingerprint 28 = .ok (.lload_n 1, 1) := by decide +kernel
theorem dX9_fingerprint_29 : decode cX9_fingerprint 29 = .ok (.iload_n 3, 1) := by decide +kernel
theorem dX9_fingerprint_30 : decode cX9_fingerprint 30 = .ok (.invokevirtual 294, 3) := by decide +kernel
theorem dX9_fingerprint_33 : decode cX9_fingerprint 33 = .ok (.lstore_n 1, 1) := by decide +kernel
theorem dX9_fingerprint_34 : decode cX9_fingerprint 34 = .ok (.iinc 3 1, 3) := by decide +kernel
theorem dX9_fingerprint_37 : decode cX9_fingerprint 37 = .ok (.goto (-24), 3) := by decide +kernel
theorem dX9_fingerprint_40 : decode cX9_fingerprint 40 = .ok (.lload_n 1, 1) := by decide +kernel
theorem dX9_fingerprint_41 : decode cX9_fingerprint 41 = .ok (.aload_n 0, 1) := by decide +kernel
theorem dX9_fingerprint_42 : decode cX9_fingerprint 42 = .ok (.invokevirtual 297, 3) := by decide +kernel
theorem dX9_fingerprint_45 : decode cX9_fingerprint 45 = .ok (.invokestatic 290, 3) := by decide +kernel
theorem dX9_fingerprint_48 : decode cX9_fingerprint 48 = .ok (.lstore_n 1, 1) := by decide +kernel
theorem dX9_fingerprint_49 : decode cX9_fingerprint 49 = .ok (.iconst 0, 1) := by decide +kernel
theorem dX9_fingerprint_50 : decode cX9_fingerprint 50 = .ok (.istore_n 3, 1) := by decide +kernel
theorem dX9_fingerprint_51 : decode cX9_fingerprint 51 = .ok (.iload_n 3, 1) := by decide +kernel
theorem dX9_fingerprint_52 : decode cX9_fingerprint 52 = .ok (.aload_n 0, 1) := by decide +kernel
theorem dX9_fingerprint_53 : decode cX9_fingerprint 53 = .ok (.getfield 32, 3) := by decide +kernel
theorem dX9_fingerprint_56 : decode cX9_fingerprint 56 = .ok (.getfield 139, 3) := by decide +kernel
theorem dX9_fingerprint_59 : decode cX9_fingerprint 59 = .ok (.if_icmp .ge 16, 3) := by decide +kernel
theorem dX9_fingerprint_62 : decode cX9_fingerprint 62 = .ok (.aload_n 0, 1) := by decide +kernel
theorem dX9_fingerprint_63 : decode cX9_fingerprint 63 = .ok (.lload_n 1, 1) := by decide +kernel
theorem dX9_fingerprint_64 : decode cX9_fingerprint 64 = .ok (.iload_n 3, 1) := by decide +kernel
theorem dX9_fingerprint_65 : decode cX9_fingerprint 65 = .ok (.invokevirtual 300, 3) := by decide +kernel
theorem dX9_fingerprint_68 : decode cX9_fingerprint 68 = .ok (.lstore_n 1, 1) := by decide +kernel
theorem dX9_fingerprint_69 : decode cX9_fingerprint 69 = .ok (.iinc 3 1, 3) := by decide +kernel
theorem dX9_fingerprint_72 : decode cX9_fingerprint 72 = .ok (.goto (-21), 3) := by decide +kernel
theorem dX9_fingerprint_75 : decode cX9_fingerprint 75 = .ok (.lload_n 1, 1) := by decide +kernel
theorem dX9_fingerprint_76 : decode cX9_fingerprint 76 = .ok (.aload_n 0, 1) := by decide +kernel
theorem dX9_fingerprint_77 : decode cX9_fingerprint 77 = .ok (.invokevirtual 303, 3) := by decide +kernel
theorem dX9_fingerprint_80 : decode cX9_fingerprint 80 = .ok (.invokestatic 290, 3) := by decide +kernel
theorem dX9_fingerprint_83 : decode cX9_fingerprint 83 = .ok (.lstore_n 1, 1) := by decide +kernel
theorem dX9_fingerprint_84 : decode cX9_fingerprint 84 = .ok (.lload_n 1, 1) := by decide +kernel
theorem dX9_fingerprint_85 : decode cX9_fingerprint 85 = .ok (.aload_n 0, 1) := by decide +kernel
theorem dX9_fingerprint_86 : decode cX9_fingerprint 86 = .ok (.invokevirtual 306, 3) := by decide +kernel
theorem dX9_fingerprint_89 : decode cX9_fingerprint 89 = .ok (.invokestatic 290, 3) := by decide +kernel
theorem dX9_fingerprint_92 : decode cX9_fingerprint 92 = .ok (.lreturn, 1) := by decide +kernel
theorem dX9_mix_0 : decode cX9_mix 0 = .ok (.ldc2_w 309, 3) := by decide +kernel
theorem dX9_mix_3 : decode cX9_mix 3 = .ok (.lload_n 0, 1) := by decide +kernel
theorem dX9_mix_4 : decode cX9_mix 4 = .ok (.lmul, 1) := by decide +kernel
theorem dX9_mix_5 : decode cX9_mix 5 = .ok (.iload_n 2, 1) := by decide +kernel
theorem dX9_mix_6 : decode cX9_mix 6 = .ok (.i2l, 1) := by decide +kernel
theorem dX9_mix_7 : decode cX9_mix 7 = .ok (.ladd, 1) := by decide +kernel
theorem dX9_mix_8 : decode cX9_mix 8 = .ok (.lreturn, 1) := by decide +kernel
theorem dX9_mixStyle_0 : decode cX9_mixStyle 0 = .ok (.lload_n 1, 1) := by decide +kernel
theorem dX9_mixStyle_1 : decode cX9_mixStyle 1 = .ok (.lstore 4, 2) := by decide +kernel
theorem dX9_mixStyle_3 : decode cX9_mixStyle 3 = .ok (.iconst 0, 1) := by decide +kernel
theorem dX9_mixStyle_4 : decode cX9_mixStyle 4 = .ok (.istore 6, 2) := by decide +kernel
theorem dX9_mixStyle_6 : decode cX9_mixStyle 6 = .ok (.iload 6, 2) := by decide +kernel
theorem dX9_mixStyle_8 : decode cX9_mixStyle 8 = .ok (.bipush 9, 2) := by decide +kernel
theorem dX9_mixStyle_10 : decode cX9_mixStyle 10 = .ok (.if_icmp .ge 23, 3) := by decide +kernel
theorem dX9_mixStyle_13 : decode cX9_mixStyle 13 = .ok (.lload 4, 2) := by decide +kernel
theorem dX9_mixStyle_15 : decode cX9_mixStyle 15 = .ok (.aload_n 0, 1) := by decide +kernel
theorem dX9_mixStyle_16 : decode cX9_mixStyle 16 = .ok (.iload_n 3, 1) := by decide +kernel
theorem dX9_mixStyle_17 : decode cX9_mixStyle 17 = .ok (.iload 6, 2) := by decide +kernel
theorem dX9_mixStyle_19 : decode cX9_mixStyle 19 = .ok (.invokevirtual 311, 3) := by decide +kernel
theorem dX9_mixStyle_22 : decode cX9_mixStyle 22 = .ok (.invokestatic 290, 3) := by decide +kernel
theorem dX9_mixStyle_25 : decode cX9_mixStyle 25 = .ok (.lstore 4, 2) := by decide +kernel
theorem dX9_mixStyle_27 : decode cX9_mixStyle 27 = .ok (.iinc 6 1, 3) := by decide +kernel
theorem dX9_mixStyle_30 : decode cX9_mixStyle 30 = .ok (.goto (-24), 3) := by decide +kernel
theorem dX9_mixStyle_33 : decode cX9_mixStyle 33 = .ok (.iconst 0, 1) := by decide +kernel
theorem dX9_mixStyle_34 : decode cX9_mixStyle 34 = .ok (.istore 6, 2) := by decide +kernel
theorem dX9_mixStyle_36 : decode cX9_mixStyle 36 = .ok (.iload 6, 2) := by decide +kernel
theorem dX9_mixStyle_38 : decode cX9_mixStyle 38 = .ok (.bipush 6, 2) := by decide +kernel
theorem dX9_mixStyle_40 : decode cX9_mixStyle 40 = .ok (.if_icmp .ge 23, 3) := by decide +kernel
theorem dX9_mixStyle_43 : decode cX9_mixStyle 43 = .ok (.lload 4, 2) := by decide +kernel
theorem dX9_mixStyle_45 : decode cX9_mixStyle 45 = .ok (.aload_n 0, 1) := by decide +kernel
theorem dX9_mixStyle_46 : decode cX9_mixStyle 46 = .ok (.iload_n 3, 1) := by decide +kernel
theorem dX9_mixStyle_47 : decode cX9_mixStyle 47 = .ok (.iload 6, 2) := by decide +kernel
theorem dX9_mixStyle_49 : decode cX9_mixStyle 49 = .ok (.invokevirtual 314, 3) := by decide +kernel
theorem dX9_mixStyle_52 : decode cX9_mixStyle 52 = .ok (.invokestatic 290, 3) := by decide +kernel
theorem dX9_mixStyle_55 : decode cX9_mixStyle 55 = .ok (.lstore 4, 2) := by decide +kernel
theorem dX9_mixStyle_57 : decode cX9_mixStyle 57 = .ok (.iinc 6 1, 3) := by decide +kernel
theorem dX9_mixStyle_60 : decode cX9_mixStyle 60 = .ok (.goto (-24), 3) := by decide +kernel
theorem dX9_mixStyle_63 : decode cX9_mixStyle 63 = .ok (.lload 4, 2) := by decide +kernel
theorem dX9_mixStyle_65 : decode cX9_mixStyle 65 = .ok (.lreturn, 1) := by decide +kernel
theorem dX9_mixLine_0 : decode cX9_mixLine 0 = .ok (.lload_n 1, 1) := by decide +kernel
theorem dX9_mixLine_1 : decode cX9_mixLine 1 = .ok (.lstore 4, 2) := by decide +kernel
theorem dX9_mixLine_3 : decode cX9_mixLine 3 = .ok (.iconst 0, 1) := by decide +kernel
theorem dX9_mixLine_4 : decode cX9_mixLine 4 = .ok (.istore 6, 2) := by decide +kernel
theorem dX9_mixLine_6 : decode cX9_mixLine 6 = .ok (.iload 6, 2) := by decide +kernel
theorem dX9_mixLine_8 : decode cX9_mixLine 8 = .ok (.bipush 12, 2) := by decide +kernel
theorem dX9_mixLine_10 : decode cX9_mixLine 10 = .ok (.if_icmp .ge 23, 3) := by decide +kernel
theorem dX9_mixLine_13 : decode cX9_mixLine 13 = .ok (.lload 4, 2) := by decide +kernel
theorem dX9_mixLine_15 : decode cX9_mixLine 15 = .ok (.aload_n 0, 1) := by decide +kernel
theorem dX9_mixLine_16 : decode cX9_mixLine 16 = .ok (.iload_n 3, 1) := by decide +kernel
theorem dX9_mixLine_17 : decode cX9_mixLine 17 = .ok (.iload 6, 2) := by decide +kernel
theorem dX9_mixLine_19 : decode cX9_mixLine 19 = .ok (.invokevirtual 317, 3) := by decide +kernel
theorem dX9_mixLine_22 : decode cX9_mixLine 22 = .ok (.invokestatic 290, 3) := by decide +kernel
theorem dX9_mixLine_25 : decode cX9_mixLine 25 = .ok (.lstore 4, 2) := by decide +kernel
theorem dX9_mixLine_27 : decode cX9_mixLine 27 = .ok (.iinc 6 1, 3) := by decide +kernel
theorem dX9_mixLine_30 : decode cX9_mixLine 30 = .ok (.goto (-24), 3) := by decide +kernel
theorem dX9_mixLine_33 : decode cX9_mixLine 33 = .ok (.aload_n 0, 1) := by decide +kernel
theorem dX9_mixLine_34 : decode cX9_mixLine 34 = .ok (.iload_n 3, 1) := by decide +kernel
theorem dX9_mixLine_35 : decode cX9_mixLine 35 = .ok (.iconst 4, 1) := by decide +kernel
theorem dX9_mixLine_36 : decode cX9_mixLine 36 = .ok (.invokevirtual 317, 3) := by decide +kernel
theorem dX9_mixLine_39 : decode cX9_mixLine 39 = .ok (.istore 6, 2) := by decide +kernel
theorem dX9_mixLine_41 : decode cX9_mixLine 41 = .ok (.iconst 0, 1) := by decide +kernel
theorem dX9_mixLine_42 : decode cX9_mixLine 42 = .ok (.istore 7, 2) := by decide +kernel
theorem dX9_mixLine_44 : decode cX9_mixLine 44 = .ok (.iload 7, 2) := by decide +kernel
theorem dX9_mixLine_46 : decode cX9_mixLine 46 = .ok (.iload 6, 2) := by decide +kernel
theorem dX9_mixLine_48 : decode cX9_mixLine 48 = .ok (.if_icmp .ge 41, 3) := by decide +kernel
theorem dX9_mixLine_51 : decode cX9_mixLine 51 = .ok (.iconst 0, 1) := by decide +kernel
theorem dX9_mixLine_52 : decode cX9_mixLine 52 = .ok (.istore 8, 2) := by decide +kernel
theorem dX9_mixLine_54 : decode cX9_mixLine 54 = .ok (.iload 8, 2) := by decide +kernel
theorem dX9_mixLine_56 : decode cX9_mixLine 56 = .ok (.bipush 6, 2) := by decide +kernel
theorem dX9_mixLine_58 : decode cX9_mixLine 58 = .ok (.if_icmp .ge 25, 3) := by decide +kernel
theorem dX9_mixLine_61 : decode cX9_mixLine 61 = .ok (.lload 4, 2) := by decide +kernel
theorem dX9_mixLine_63 : decode cX9_mixLine 63 = .ok (.aload_n 0, 1) := by decide +kernel
theorem dX9_mixLine_64 : decode cX9_mixLine 64 = .ok (.iload_n 3, 1) := by decide +kernel
theorem dX9_mixLine_65 : decode cX9_mixLine 65 = .ok (.iload 7, 2) := by decide +kernel
theorem dX9_mixLine_67 : decode cX9_mixLine 67 = .ok (.iload 8, 2) := by decide +kernel
theorem dX9_mixLine_69 : decode cX9_mixLine 69 = .ok (.invokevirtual 320, 3) := by decide +kernel
theorem dX9_mixLine_72 : decode cX9_mixLine 72 = .ok (.invokestatic 290, 3) := by decide +kernel
theorem dX9_mixLine_75 : decode cX9_mixLine 75 = .ok (.lstore 4, 2) := by decide +kernel
theorem dX9_mixLine_77 : decode cX9_mixLine 77 = .ok (.iinc 8 1, 3) := by decide +kernel
theorem dX9_mixLine_80 : decode cX9_mixLine 80 = .ok (.goto (-26), 3) := by decide +kernel
theorem dX9_mixLine_83 : decode cX9_mixLine 83 = .ok (.iinc 7 1, 3) := by decide +kernel
theorem dX9_mixLine_86 : decode cX9_mixLine 86 = .ok (.goto (-42), 3) := by decide +kernel
theorem dX9_mixLine_89 : decode cX9_mixLine 89 = .ok (.aload_n 0, 1) := by decide +kernel
theorem dX9_mixLine_90 : decode cX9_mixLine 90 = .ok (.iload_n 3, 1) := by decide +kernel
theorem dX9_mixLine_91 : decode cX9_mixLine 91 = .ok (.iconst 5, 1) := by decide +kernel
theorem dX9_mixLine_92 : decode cX9_mixLine 92 = .ok (.invokevirtual 317, 3) := by decide +kernel
theorem dX9_mixLine_95 : decode cX9_mixLine 95 = .ok (.istore 7, 2) := by decide +kernel
theorem dX9_mixLine_97 : decode cX9_mixLine 97 = .ok (.iconst 0, 1) := by decide +kernel
theorem dX9_mixLine_98 : decode cX9_mixLine 98 = .ok (.istore 8, 2) := by decide +kernel
theorem dX9_mixLine_100 : decode cX9_mixLine 100 = .ok (.iload 8, 2) := by decide +kernel
theorem dX9_mixLine_102 : decode cX9_mixLine 102 = .ok (.iload 7, 2) := by decide +kernel
theorem dX9_mixLine_104 : decode cX9_mixLine 104 = .ok (.if_icmp .ge 40, 3) := by decide +kernel
theorem dX9_mixLine_107 : decode cX9_mixLine 107 = .ok (.iconst 0, 1) := by decide +kernel
theorem dX9_mixLine_108 : decode cX9_mixLine 108 = .ok (.istore 9, 2) := by decide +kernel
theorem dX9_mixLine_110 : decode cX9_mixLine 110 = .ok (.iload 9, 2) := by decide +kernel
theorem dX9_mixLine_112 : decode cX9_mixLine 112 = .ok (.iconst 3, 1) := by decide +kernel
theorem dX9_mixLine_113 : decode cX9_mixLine 113 = .ok (.if_icmp .ge 25, 3) := by decide +kernel
theorem dX9_mixLine_116 : decode cX9_mixLine 116 = .ok (.lload 4, 2) := by decide +kernel
theorem dX9_mixLine_118 : decode cX9_mixLine 118 = .ok (.aload_n 0, 1) := by decide +kernel
theorem dX9_mixLine_119 : decode cX9_mixLine 119 = .ok (.iload_n 3, 1) := by decide +kernel
theorem dX9_mixLine_120 : decode cX9_mixLine 120 = .ok (.iload 8, 2) := by decide +kernel
theorem dX9_mixLine_122 : decode cX9_mixLine 122 = .ok (.iload 9, 2) := by decide +kernel
theorem dX9_mixLine_124 : decode cX9_mixLine 124 = .ok (.invokevirtual 324, 3) := by decide +kernel
theorem dX9_mixLine_127 : decode cX9_mixLine 127 = .ok (.invokestatic 290, 3) := by decide +kernel
theorem dX9_mixLine_130 : decode cX9_mixLine 130 = .ok (.lstore 4, 2) := by decide +kernel
theorem dX9_mixLine_132 : decode cX9_mixLine 132 = .ok (.iinc 9 1, 3) := by decide +kernel
theorem dX9_mixLine_135 : decode cX9_mixLine 135 = .ok (.goto (-25), 3) := by decide +kernel
theorem dX9_mixLine_138 : decode cX9_mixLine 138 = .ok (.iinc 8 1, 3) := by decide +kernel
theorem dX9_mixLine_141 : decode cX9_mixLine 141 = .ok (.goto (-41), 3) := by decide +kernel
theorem dX9_mixLine_144 : decode cX9_mixLine 144 = .ok (.lload 4, 2) := by decide +kernel
theorem dX9_mixLine_146 : decode cX9_mixLine 146 = .ok (.lreturn, 1) := by decide +kernel
theorem dX9_isProperty_0 : decode cX9_isProperty 0 = .ok (.iload_n 0, 1) := by decide +kernel
theorem dX9_isProperty_1 : decode cX9_isProperty 1 = .ok (.ifCond .lt 13, 3) := by decide +kernel
theorem dX9_isProperty_4 : decode cX9_isProperty 4 = .ok (.iload_n 0, 1) := by decide +kernel
theorem dX9_isProperty_5 : decode cX9_isProperty 5 = .ok (.bipush 6, 2) := by decide +kernel
theorem dX9_isProperty_7 : decode cX9_isProperty 7 = .ok (.if_icmp .ge 7, 3) := by decide +kernel
theorem dX9_isProperty_10 : decode cX9_isProperty 10 = .ok (.iconst 1, 1) := by decide +kernel
theorem dX9_isProperty_11 : decode cX9_isProperty 11 = .ok (.goto 4, 3) := by decide +kernel
theorem dX9_isProperty_14 : decode cX9_isProperty 14 = .ok (.iconst 0, 1) := by decide +kernel
theorem dX9_isProperty_15 : decode cX9_isProperty 15 = .ok (.ireturn, 1) := by decide +kernel
theorem dX9_allows_0 : decode cX9_allows 0 = .ok (.iload_n 0, 1) := by decide +kernel
theorem dX9_allows_1 : decode cX9_allows 1 = .ok (.ifCond .lt 41, 3) := by decide +kernel
theorem dX9_allows_4 : decode cX9_allows 4 = .ok (.iload_n 0, 1) := by decide +kernel
theorem dX9_allows_5 : decode cX9_allows 5 = .ok (.getstatic 327, 3) := by decide +kernel
theorem dX9_allows_8 : decode cX9_allows 8 = .ok (.arraylength, 1) := by decide +kernel
theorem dX9_allows_9 : decode cX9_allows 9 = .ok (.if_icmp .ge 33, 3) := by decide +kernel
theorem dX9_allows_12 : decode cX9_allows 12 = .ok (.iload_n 0, 1) := by decide +kernel
theorem dX9_allows_13 : decode cX9_allows 13 = .ok (.getstatic 331, 3) := by decide +kernel
theorem dX9_allows_16 : decode cX9_allows 16 = .ok (.arraylength, 1) := by decide +kernel
theorem dX9_allows_17 : decode cX9_allows 17 = .ok (.if_icmp .ge 25, 3) := by decide +kernel
theorem dX9_allows_20 : decode cX9_allows 20 = .ok (.iload_n 1, 1) := by decide +kernel
theorem dX9_allows_21 : decode cX9_allows 21 = .ok (.getstatic 327, 3) := by decide +kernel
theorem dX9_allows_24 : decode cX9_allows 24 = .ok (.iload_n 0, 1) := by decide +kernel
theorem dX9_allows_25 : decode cX9_allows 25 = .ok (.iaload, 1) := by decide +kernel
theorem dX9_allows_26 : decode cX9_allows 26 = .ok (.if_icmp .lt 16, 3) := by decide +kernel
theorem dX9_allows_29 : decode cX9_allows 29 = .ok (.iload_n 1, 1) := by decide +kernel
theorem dX9_allows_30 : decode cX9_allows 30 = .ok (.getstatic 331, 3) := by decide +kernel
theorem dX9_allows_33 : decode cX9_allows 33 = .ok (.iload_n 0, 1) := by decide +kernel
theorem dX9_allows_34 : decode cX9_allows 34 = .ok (.iaload, 1) := by decide +kernel
theorem dX9_allows_35 : decode cX9_allows 35 = .ok (.if_icmp .gt 7, 3) := by decide +kernel
theorem dX9_allows_38 : decode cX9_allows 38 = .ok (.iconst 1, 1) := by decide +kernel
theorem dX9_allows_39 : decode cX9_allows 39 = .ok (.goto 4, 3) := by decide +kernel
theorem dX9_allows_42 : decode cX9_allows 42 = .ok (.iconst 0, 1) := by decide +kernel
theorem dX9_allows_43 : decode cX9_allows 43 = .ok (.ireturn, 1) := by decide +kernel
theorem dX9_basicValue_0 : decode cX9_basicValue 0 = .ok (.iload_n 0, 1) := by decide +kernel
theorem dX9_basicValue_1 : decode cX9_basicValue 1 = .ok (.ifCond .lt 19, 3) := by decide +kernel
theorem dX9_basicValue_4 : decode cX9_basicValue 4 = .ok (.iload_n 0, 1) := by decide +kernel
theorem dX9_basicValue_5 : decode cX9_basicValue 5 = .ok (.getstatic 334, 3) := by decide +kernel
theorem dX9_basicValue_8 : decode cX9_basicValue 8 = .ok (.arraylength, 1) := by decide +kernel
theorem dX9_basicValue_9 : decode cX9_basicValue 9 = .ok (.if_icmp .ge 11, 3) := by decide +kernel
theorem dX9_basicValue_12 : decode cX9_basicValue 12 = .ok (.getstatic 334, 3) := by decide +kernel
theorem dX9_basicValue_15 : decode cX9_basicValue 15 = .ok (.iload_n 0, 1) := by decide +kernel
theorem dX9_basicValue_16 : decode cX9_basicValue 16 = .ok (.iaload, 1) := by decide +kernel
theorem dX9_basicValue_17 : decode cX9_basicValue 17 = .ok (.goto 4, 3) := by decide +kernel
theorem dX9_basicValue_20 : decode cX9_basicValue 20 = .ok (.iconst 0, 1) := by decide +kernel
theorem dX9_basicValue_21 : decode cX9_basicValue 21 = .ok (.ireturn, 1) := by decide +kernel
theorem dX9_propertyOfTag_0 : decode cX9_propertyOfTag 0 = .ok (.iload_n 0, 1) := by decide +kernel
theorem dX9_propertyOfTag_1 : decode cX9_propertyOfTag 1 = .ok (.lookupswitch 51 #[(98, 49), (99, 45), (115, 43), (116, 47)], 43) := by decide +kernel
theorem dX9_propertyOfTag_44 : decode cX9_propertyOfTag 44 = .ok (.iconst 0, 1) := by decide +kernel
theorem dX9_propertyOfTag_45 : decode cX9_propertyOfTag 45 = .ok (.ireturn, 1) := by decide +kernel
theorem dX9_propertyOfTag_46 : decode cX9_propertyOfTag 46 = .ok (.iconst 1, 1) := by decide +kernel
theorem dX9_propertyOfTag_47 : decode cX9_propertyOfTag 47 = .ok (.ireturn, 1) := by decide +kernel
theorem dX9_propertyOfTag_48 : decode cX9_propertyOfTag 48 = .ok (.iconst 2, 1) := by decide +kernel
theorem dX9_propertyOfTag_49 : decode cX9_propertyOfTag 49 = .ok (.ireturn, 1) := by decide +kernel
theorem dX9_propertyOfTag_50 : decode cX9_propertyOfTag 50 = .ok (.iconst 3, 1) := by decide +kernel
theorem dX9_propertyOfTag_51 : decode cX9_propertyOfTag 51 = .ok (.ireturn, 1) := by decide +kernel
theorem dX9_propertyOfTag_52 : decode cX9_propertyOfTag 52 = .ok (.iconst (-1), 1) := by decide +kernel
theorem dX9_propertyOfTag_53 : decode cX9_propertyOfTag 53 = .ok (.ireturn, 1) := by decide +kernel
theorem dL_cell_0 : decode cL_cell 0 = .ok (.iload_n 1, 1) := by decide +kernel
theorem dL_cell_1 : decode cL_cell 1 = .ok (.aload_n 0, 1) := by decide +kernel
theorem dL_cell_2 : decode cL_cell 2 = .ok (.arraylength, 1) := by decide +kernel
theorem dL_cell_3 : decode cL_cell 3 = .ok (.if_icmp .ge 9, 3) := by decide +kernel
theorem dL_cell_6 : decode cL_cell 6 = .ok (.aload_n 0, 1) := by decide +kernel
theorem dL_cell_7 : decode cL_cell 7 = .ok (.iload_n 1, 1) := by decide +kernel
theorem dL_cell_8 : decode cL_cell 8 = .ok (.iaload, 1) := by decide +kernel
theorem dL_cell_9 : decode cL_cell 9 = .ok (.goto 9, 3) := by decide +kernel
theorem dL_cell_12 : decode cL_cell 12 = .ok (.ldc 7, 2) := by decide +kernel
theorem dL_cell_14 : decode cL_cell 14 = .ok (.iload_n 1, 1) := by decide +kernel
theorem dL_cell_15 : decode cL_cell 15 = .ok (.iconst 3, 1) := by decide +kernel
theorem dL_cell_16 : decode cL_cell 16 = .ok (.iadd, 1) := by decide +kernel
theorem dL_cell_17 : decode cL_cell 17 = .ok (.imul, 1) := by decide +kernel
theorem dL_cell_18 : decode cL_cell 18 = .ok (.ireturn, 1) := by decide +kernel
theorem dL_up_0 : decode cL_up 0 = .ok (.iload_n 0, 1) := by decide +kernel
theorem dL_up_1 : decode cL_up 1 = .ok (.ldc 8, 2) := by decide +kernel
theorem dL_up_3 : decode cL_up 3 = .ok (.iand, 1) := by decide +kernel
theorem dL_up_4 : decode cL_up 4 = .ok (.iload_n 1, 1) := by decide +kernel
theorem dL_up_5 : decode cL_up 5 = .ok (.irem, 1) := by decide +kernel
theorem dL_up_6 : decode cL_up 6 = .ok (.ireturn, 1) := by decide +kernel
theorem dL_fails_0 : decode cL_fails 0 = .ok (.aload_n 0, 1) := by decide +kernel
theorem dL_fails_1 : decode cL_fails 1 = .ok (.invokevirtual 9, 3) := by decide +kernel
theorem dL_fails_4 : decode cL_fails 4 = .ok (.lstore_n 1, 1) := by decide +kernel
theorem dL_fails_5 : decode cL_fails 5 = .ok (.aload_n 0, 1) := by decide +kernel
theorem dL_fails_6 : decode cL_fails 6 = .ok (.invokevirtual 15, 3) := by decide +kernel
theorem dL_fails_9 : decode cL_fails 9 = .ok (.istore_n 3, 1) := by decide +kernel
theorem dL_fails_10 : decode cL_fails 10 = .ok (.aload_n 0, 1) := by decide +kernel
theorem dL_fails_11 : decode cL_fails 11 = .ok (.invokevirtual 19, 3) := by decide +kernel
theorem dL_fails_14 : decode cL_fails 14 = .ok (.istore 4, 2) := by decide +kernel
theorem dL_fails_16 : decode cL_fails 16 = .ok (.aload_n 0, 1) := by decide +kernel
theorem dL_fails_17 : decode cL_fails 17 = .ok (.iload_n 3, 1) := by decide +kernel
theorem dL_fails_18 : decode cL_fails 18 = .ok (.invokevirtual 22, 3) := by decide +kernel
theorem dL_fails_21 : decode cL_fails 21 = .ok (.iconst (-1), 1) := by decide +kernel
theorem dL_fails_22 : decode cL_fails 22 = .ok (.if_icmp .ne 188, 3) := by decide +kernel
theorem dL_fails_25 : decode cL_fails 25 = .ok (.aload_n 0, 1) := by decide +kernel
theorem dL_fails_26 : decode cL_fails 26 = .ok (.bipush (-2), 2) := by decide +kernel
theorem dL_fails_28 : decode cL_fails 28 = .ok (.invokevirtual 22, 3) := by decide +kernel
theorem dL_fails_31 : decode cL_fails 31 = .ok (.iconst (-1), 1) := by decide +kernel
theorem dL_fails_32 : decode cL_fails 32 = .ok (.if_icmp .ne 178, 3) := by decide +kernel
theorem dL_fails_35 : decode cL_fails 35 = .ok (.aload_n 0, 1) := by decide +kernel
theorem dL_fails_36 : decode cL_fails 36 = .ok (.iload_n 3, 1) := by decide +kernel
theorem dL_fails_37 : decode cL_fails 37 = .ok (.iconst (-1), 1) := by decide +kernel
theorem dL_fails_38 : decode cL_fails 38 = .ok (.invokevirtual 26, 3) := by decide +kernel
theorem dL_fails_41 : decode cL_fails 41 = .ok (.iconst (-1), 1) := by decide +kernel
theorem dL_fails_42 : decode cL_fails 42 = .ok (.if_icmp .ne 168, 3) := by decide +kernel
theorem dL_fails_45 : decode cL_fails 45 = .ok (.aload_n 0, 1) := by decide +kernel
theorem dL_fails_46 : decode cL_fails 46 = .ok (.iload_n 3, 1) := by decide +kernel
theorem dL_fails_47 : decode cL_fails 47 = .ok (.iconst 0, 1) := by decide +kernel
theorem dL_fails_48 : decode cL_fails 48 = .ok (.iconst 1, 1) := by decide +kernel
theorem dL_fails_49 : decode cL_fails 49 = .ok (.invokevirtual 30, 3) := by decide +kernel
theorem dL_fails_52 : decode cL_fails 52 = .ok (.iconst (-1), 1) := by decide +kernel
theorem dL_fails_53 : decode cL_fails 53 = .ok (.if_icmp .ne 157, 3) := by decide +kernel
theorem dL_fails_56 : decode cL_fails 56 = .ok (.aload_n 0, 1) := by decide +kernel
theorem dL_fails_57 : decode cL_fails 57 = .ok (.iload_n 3, 1) := by decide +kernel
theorem dL_fails_58 : decode cL_fails 58 = .ok (.iconst 0, 1) := by decide +kernel
theorem dL_fails_59 : decode cL_fails 59 = .ok (.invokevirtual 34, 3) := by decide +kernel
theorem dL_fails_62 : decode cL_fails 62 = .ok (.iconst (-1), 1) := by decide +kernel
theorem dL_fails_63 : decode cL_fails 63 = .ok (.if_icmp .ne 147, 3) := by decide +kernel
theorem dL_fails_66 : decode cL_fails 66 = .ok (.aload_n 0, 1) := by decide +kernel
theorem dL_fails_67 : decode cL_fails 67 = .ok (.iload_n 3, 1) := by decide +kernel
theorem dL_fails_68 : decode cL_fails 68 = .ok (.iconst 0, 1) := by decide +kernel
theorem dL_fails_69 : decode cL_fails 69 = .ok (.invokevirtual 37, 3) := by decide +kernel
theorem dL_fails_72 : decode cL_fails 72 = .ok (.iconst (-1), 1) := by decide +kernel
theorem dL_fails_73 : decode cL_fails 73 = .ok (.if_icmp .ne 137, 3) := by decide +kernel
theorem dL_fails_76 : decode cL_fails 76 = .ok (.aload_n 0, 1) := by decide +kernel
theorem dL_fails_77 : decode cL_fails 77 = .ok (.iconst (-1), 1) := by decide +kernel
theorem dL_fails_78 : decode cL_fails 78 = .ok (.bipush 6, 2) := by decide +kernel
theorem dL_fails_80 : decode cL_fails 80 = .ok (.invokevirtual 37, 3) := by decide +kernel
theorem dL_fails_83 : decode cL_fails 83 = .ok (.iconst (-1), 1) := by decide +kernel
theorem dL_fails_84 : decode cL_fails 84 = .ok (.if_icmp .ne 126, 3) := by decide +kernel
theorem dL_fails_87 : decode cL_fails 87 = .ok (.aload_n 0, 1) := by decide +kernel
theorem dL_fails_88 : decode cL_fails 88 = .ok (.iload_n 3, 1) := by decide +kernel
theorem dL_fails_89 : decode cL_fails 89 = .ok (.iconst 0, 1) := by decide +kernel
theorem dL_fails_90 : decode cL_fails 90 = .ok (.invokevirtual 40, 3) := by decide +kernel
theorem dL_fails_93 : decode cL_fails 93 = .ok (.iconst (-1), 1) := by decide +kernel
theorem dL_fails_94 : decode cL_fails 94 = .ok (.if_icmp .ne 116, 3) := by decide +kernel
theorem dL_fails_97 : decode cL_fails 97 = .ok (.aload_n 0, 1) := by decide +kernel
theorem dL_fails_98 : decode cL_fails 98 = .ok (.bipush 31, 2) := by decide +kernel
theorem dL_fails_100 : decode cL_fails 100 = .ok (.invokevirtual 43, 3) := by decide +kernel
theorem dL_fails_103 : decode cL_fails 103 = .ok (.iconst (-1), 1) := by decide +kernel
theorem dL_fails_104 : decode cL_fails 104 = .ok (.if_icmp .ne 106, 3) := by decide +kernel
theorem dL_fails_107 : decode cL_fails 107 = .ok (.aload_n 0, 1) := by decide +kernel
theorem dL_fails_108 : decode cL_fails 108 = .ok (.iconst 0, 1) := by decide +kernel
theorem dL_fails_109 : decode cL_fails 109 = .ok (.iconst 0, 1) := by decide +kernel
theorem dL_fails_110 : decode cL_fails 110 = .ok (.iconst (-1), 1) := by decide +kernel
theorem dL_fails_111 : decode cL_fails 111 = .ok (.invokevirtual 46, 3) := by decide +kernel
theorem dL_fails_114 : decode cL_fails 114 = .ok (.iconst (-1), 1) := by decide +kernel
theorem dL_fails_115 : decode cL_fails 115 = .ok (.if_icmp .ne 95, 3) := by decide +kernel
theorem dL_fails_118 : decode cL_fails 118 = .ok (.aload_n 0, 1) := by decide +kernel
theorem dL_fails_119 : decode cL_fails 119 = .ok (.iconst (-1), 1) := by decide +kernel
theorem dL_fails_120 : decode cL_fails 120 = .ok (.iconst 5, 1) := by decide +kernel
theorem dL_fails_121 : decode cL_fails 121 = .ok (.iconst (-1), 1) := by decide +kernel
theorem dL_fails_122 : decode cL_fails 122 = .ok (.invokevirtual 46, 3) := by decide +kernel
theorem dL_fails_125 : decode cL_fails 125 = .ok (.iconst (-1), 1) := by decide +kernel
theorem dL_fails_126 : decode cL_fails 126 = .ok (.if_icmp .ne 84, 3) := by decide +kernel
theorem dL_fails_129 : decode cL_fails 129 = .ok (.aload_n 0, 1) := by decide +kernel
theorem dL_fails_130 : decode cL_fails 130 = .ok (.iconst 5, 1) := by decide +kernel
theorem dL_fails_131 : decode cL_fails 131 = .ok (.ldc 49, 2) := by decide +kernel
theorem dL_fails_133 : decode cL_fails 133 = .ok (.iconst (-1), 1) := by decide +kernel
theorem dL_fails_134 : decode cL_fails 134 = .ok (.invokevirtual 46, 3) := by decide +kernel
theorem dL_fails_137 : decode cL_fails 137 = .ok (.iconst (-1), 1) := by decide +kernel
theorem dL_fails_138 : decode cL_fails 138 = .ok (.if_icmp .ne 72, 3) := by decide +kernel
theorem dL_fails_141 : decode cL_fails 141 = .ok (.aload_n 0, 1) := by decide +kernel
theorem dL_fails_142 : decode cL_fails 142 = .ok (.iconst 0, 1) := by decide +kernel
theorem dL_fails_143 : decode cL_fails 143 = .ok (.iconst 1, 1) := by decide +kernel
theorem dL_fails_144 : decode cL_fails 144 = .ok (.iload_n 3, 1) := by decide +kernel
theorem dL_fails_145 : decode cL_fails 145 = .ok (.invokevirtual 46, 3) := by decide +kernel
theorem dL_fails_148 : decode cL_fails 148 = .ok (.iconst (-1), 1) := by decide +kernel
theorem dL_fails_149 : decode cL_fails 149 = .ok (.if_icmp .ne 61, 3) := by decide +kernel
theorem dL_fails_152 : decode cL_fails 152 = .ok (.aload_n 0, 1) := by decide +kernel
theorem dL_fails_153 : decode cL_fails 153 = .ok (.iload 4, 2) := by decide +kernel
theorem dL_fails_155 : decode cL_fails 155 = .ok (.invokevirtual 50, 3) := by decide +kernel
theorem dL_fails_158 : decode cL_fails 158 = .ok (.iconst (-1), 1) := by decide +kernel
theorem dL_fails_159 : decode cL_fails 159 = .ok (.if_icmp .ne 51, 3) := by decide +kernel
theorem dL_fails_162 : decode cL_fails 162 = .ok (.aload_n 0, 1) := by decide +kernel
theorem dL_fails_163 : decode cL_fails 163 = .ok (.iload 4, 2) := by decide +kernel
theorem dL_fails_165 : decode cL_fails 165 = .ok (.iconst 0, 1) := by decide +kernel
theorem dL_fails_166 : decode cL_fails 166 = .ok (.iconst (-1), 1) := by decide +kernel
theorem dL_fails_167 : decode cL_fails 167 = .ok (.invokevirtual 53, 3) := by decide +kernel
theorem dL_fails_170 : decode cL_fails 170 = .ok (.iconst (-1), 1) := by decide +kernel
theorem dL_fails_171 : decode cL_fails 171 = .ok (.if_icmp .ne 39, 3) := by decide +kernel
theorem dL_fails_174 : decode cL_fails 174 = .ok (.aload_n 0, 1) := by decide +kernel
theorem dL_fails_175 : decode cL_fails 175 = .ok (.iload 4, 2) := by decide +kernel
theorem dL_fails_177 : decode cL_fails 177 = .ok (.iconst 0, 1) := by decide +kernel
theorem dL_fails_178 : decode cL_fails 178 = .ok (.invokevirtual 56, 3) := by decide +kernel
theorem dL_fails_181 : decode cL_fails 181 = .ok (.iconst (-1), 1) := by decide +kernel
theorem dL_fails_182 : decode cL_fails 182 = .ok (.if_icmp .ne 28, 3) := by decide +kernel
theorem dL_fails_185 : decode cL_fails 185 = .ok (.aload_n 0, 1) := by decide +kernel
theorem dL_fails_186 : decode cL_fails 186 = .ok (.bipush 49, 2) := by decide +kernel
theorem dL_fails_188 : decode cL_fails 188 = .ok (.invokevirtual 59, 3) := by decide +kernel
theorem dL_fails_191 : decode cL_fails 191 = .ok (.iconst (-1), 1) := by decide +kernel
theorem dL_fails_192 : decode cL_fails 192 = .ok (.if_icmp .ne 18, 3) := by decide +kernel
theorem dL_fails_195 : decode cL_fails 195 = .ok (.aload_n 0, 1) := by decide +kernel
theorem dL_fails_196 : decode cL_fails 196 = .ok (.sipush 2001, 3) := by decide +kernel
theorem dL_fails_199 : decode cL_fails 199 = .ok (.invokevirtual 59, 3) := by decide +kernel
theorem dL_fails_202 : decode cL_fails 202 = .ok (.iconst (-1), 1) := by decide +kernel
theorem dL_fails_203 : decode cL_fails 203 = .ok (.if_icmp .ne 7, 3) := by decide +kernel
theorem dL_fails_206 : decode cL_fails 206 = .ok (.iconst 1, 1) := by decide +kernel
theorem dL_fails_207 : decode cL_fails 207 = .ok (.goto 4, 3) := by decide +kernel
theorem dL_fails_210 : decode cL_fails 210 = .ok (.iconst 0, 1) := by decide +kernel
theorem dL_fails_211 : decode cL_fails 211 = .ok (.istore 5, 2) := by decide +kernel
theorem dL_fails_213 : decode cL_fails 213 = .ok (.iload 5, 2) := by decide +kernel
theorem dL_fails_215 : decode cL_fails 215 = .ok (.ifCond .eq 86, 3) := by decide +kernel
theorem dL_fails_218 : decode cL_fails 218 = .ok (.aload_n 0, 1) := by decide +kernel
theorem dL_fails_219 : decode cL_fails 219 = .ok (.iload 4, 2) := by decide +kernel
theorem dL_fails_221 : decode cL_fails 221 = .ok (.iconst 0, 1) := by decide +kernel
theorem dL_fails_222 : decode cL_fails 222 = .ok (.invokevirtual 62, 3) := by decide +kernel
theorem dL_fails_225 : decode cL_fails 225 = .ok (.iconst (-1), 1) := by decide +kernel
theorem dL_fails_226 : decode cL_fails 226 = .ok (.if_icmp .ne 75, 3) := by decide +kernel
theorem dL_fails_229 : decode cL_fails 229 = .ok (.aload_n 0, 1) := by decide +kernel
theorem dL_fails_230 : decode cL_fails 230 = .ok (.iload 4, 2) := by decide +kernel
theorem dL_fails_232 : decode cL_fails 232 = .ok (.iconst 0, 1) := by decide +kernel
theorem dL_fails_233 : decode cL_fails 233 = .ok (.iconst 0, 1) := by decide +kernel
theorem dL_fails_234 : decode cL_fails 234 = .ok (.invokevirtual 65, 3) := by decide +kernel
theorem dL_fails_237 : decode cL_fails 237 = .ok (.iconst (-1), 1) := by decide +kernel
theorem dL_fails_238 : decode cL_fails 238 = .ok (.if_icmp .ne 63, 3) := by decide +kernel
theorem dL_fails_241 : decode cL_fails 241 = .ok (.aload_n 0, 1) := by decide +kernel
theorem dL_fails_242 : decode cL_fails 242 = .ok (.iload 4, 2) := by decide +kernel
theorem dL_fails_244 : decode cL_fails 244 = .ok (.iconst 0, 1) := by decide +kernel
theorem dL_fails_245 : decode cL_fails 245 = .ok (.iconst 0, 1) := by decide +kernel
theorem dL_fails_246 : decode cL_fails 246 = .ok (.invokevirtual 68, 3) := by decide +kernel
theorem dL_fails_249 : decode cL_fails 249 = .ok (.iconst (-1), 1) := by decide +kernel
theorem dL_fails_250 : decode cL_fails 250 = .ok (.if_icmp .ne 51, 3) := by decide +kernel
theorem dL_fails_253 : decode cL_fails 253 = .ok (.aload_n 0, 1) := by decide +kernel
theorem dL_fails_254 : decode cL_fails 254 = .ok (.iload 4, 2) := by decide +kernel
theorem dL_fails_256 : decode cL_fails 256 = .ok (.invokevirtual 71, 3) := by decide +kernel
theorem dL_fails_259 : decode cL_fails 259 = .ok (.iconst (-1), 1) := by decide +kernel
theorem dL_fails_260 : decode cL_fails 260 = .ok (.if_icmp .ne 41, 3) := by decide +kernel
theorem dL_fails_263 : decode cL_fails 263 = .ok (.aload_n 0, 1) := by decide +kernel
theorem dL_fails_264 : decode cL_fails 264 = .ok (.iload 4, 2) := by decide +kernel
theorem dL_fails_266 : decode cL_fails 266 = .ok (.iconst 0, 1) := by decide +kernel
theorem dL_fails_267 : decode cL_fails 267 = .ok (.iconst 0, 1) := by decide +kernel
theorem dL_fails_268 : decode cL_fails 268 = .ok (.invokevirtual 74, 3) := by decide +kernel
theorem dL_fails_271 : decode cL_fails 271 = .ok (.iconst (-1), 1) := by decide +kernel
theorem dL_fails_272 : decode cL_fails 272 = .ok (.if_icmp .ne 29, 3) := by decide +kernel
theorem dL_fails_275 : decode cL_fails 275 = .ok (.aload_n 0, 1) := by decide +kernel
theorem dL_fails_276 : decode cL_fails 276 = .ok (.iconst 0, 1) := by decide +kernel
theorem dL_fails_277 : decode cL_fails 277 = .ok (.iconst (-1), 1) := by decide +kernel
theorem dL_fails_278 : decode cL_fails 278 = .ok (.invokevirtual 77, 3) := by decide +kernel
theorem dL_fails_281 : decode cL_fails 281 = .ok (.iconst (-1), 1) := by decide +kernel
theorem dL_fails_282 : decode cL_fails 282 = .ok (.if_icmp .ne 19, 3) := by decide +kernel
theorem dL_fails_285 : decode cL_fails 285 = .ok (.aload_n 0, 1) := by decide +kernel
theorem dL_fails_286 : decode cL_fails 286 = .ok (.iconst 0, 1) := by decide +kernel
theorem dL_fails_287 : decode cL_fails 287 = .ok (.bipush 16, 2) := by decide +kernel
theorem dL_fails_289 : decode cL_fails 289 = .ok (.invokevirtual 77, 3) := by decide +kernel
theorem dL_fails_292 : decode cL_fails 292 = .ok (.bipush (-9), 2) := by decide +kernel
theorem dL_fails_294 : decode cL_fails 294 = .ok (.if_icmp .ne 7, 3) := by decide +kernel
theorem dL_fails_297 : decode cL_fails 297 = .ok (.iconst 1, 1) := by decide +kernel
theorem dL_fails_298 : decode cL_fails 298 = .ok (.goto 4, 3) := by decide +kernel
theorem dL_fails_301 : decode cL_fails 301 = .ok (.iconst 0, 1) := by decide +kernel
theorem dL_fails_302 : decode cL_fails 302 = .ok (.istore 5, 2) := by decide +kernel
theorem dL_fails_304 : decode cL_fails 304 = .ok (.iload_n 3, 1) := by decide +kernel
theorem dL_fails_305 : decode cL_fails 305 = .ok (.ifCond .le 118, 3) := by decide +kernel
theorem dL_fails_308 : decode cL_fails 308 = .ok (.iload 5, 2) := by decide +kernel
theorem dL_fails_310 : decode cL_fails 310 = .ok (.ifCond .eq 110, 3) := by decide +kernel
theorem dL_fails_313 : decode cL_fails 313 = .ok (.aload_n 0, 1) := by decide +kernel
theorem dL_fails_314 : decode cL_fails 314 = .ok (.iconst 0, 1) := by decide +kernel
theorem dL_fails_315 : decode cL_fails 315 = .ok (.iload_n 3, 1) := by decide +kernel
theorem dL_fails_316 : decode cL_fails 316 = .ok (.invokevirtual 26, 3) := by decide +kernel
theorem dL_fails_319 : decode cL_fails 319 = .ok (.iconst (-1), 1) := by decide +kernel
theorem dL_fails_320 : decode cL_fails 320 = .ok (.if_icmp .ne 100, 3) := by decide +kernel
theorem dL_fails_323 : decode cL_fails 323 = .ok (.aload_n 0, 1) := by decide +kernel
theorem dL_fails_324 : decode cL_fails 324 = .ok (.iconst 0, 1) := by decide +kernel
theorem dL_fails_325 : decode cL_fails 325 = .ok (.iconst 0, 1) := by decide +kernel
theorem dL_fails_326 : decode cL_fails 326 = .ok (.invokevirtual 26, 3) := by decide +kernel
theorem dL_fails_329 : decode cL_fails 329 = .ok (.bipush (-2), 2) := by decide +kernel
theorem dL_fails_331 : decode cL_fails 331 = .ok (.if_icmp .ne 89, 3) := by decide +kernel
theorem dL_fails_334 : decode cL_fails 334 = .ok (.aload_n 0, 1) := by decide +kernel
theorem dL_fails_335 : decode cL_fails 335 = .ok (.iconst 0, 1) := by decide +kernel
theorem dL_fails_336 : decode cL_fails 336 = .ok (.iconst 0, 1) := by decide +kernel
theorem dL_fails_337 : decode cL_fails 337 = .ok (.iconst 0, 1) := by decide +kernel
theorem dL_fails_338 : decode cL_fails 338 = .ok (.invokevirtual 30, 3) := by decide +kernel
theorem dL_fails_341 : decode cL_fails 341 = .ok (.iconst (-1), 1) := by decide +kernel
theorem dL_fails_342 : decode cL_fails 342 = .ok (.if_icmp .ne 78, 3) := by decide +kernel
theorem dL_fails_345 : decode cL_fails 345 = .ok (.aload_n 0, 1) := by decide +kernel
theorem dL_fails_346 : decode cL_fails 346 = .ok (.iconst 0, 1) := by decide +kernel
theorem dL_fails_347 : decode cL_fails 347 = .ok (.iconst 1, 1) := by decide +kernel
theorem dL_fails_348 : decode cL_fails 348 = .ok (.bipush 8, 2) := by decide +kernel
theorem dL_fails_350 : decode cL_fails 350 = .ok (.invokevirtual 30, 3) := by decide +kernel
theorem dL_fails_353 : decode cL_fails 353 = .ok (.iconst (-1), 1) := by decide +kernel
theorem dL_fails_354 : decode cL_fails 354 = .ok (.if_icmp .ne 66, 3) := by decide +kernel
theorem dL_fails_357 : decode cL_fails 357 = .ok (.aload_n 0, 1) := by decide +kernel
theorem dL_fails_358 : decode cL_fails 358 = .ok (.iconst 0, 1) := by decide +kernel
theorem dL_fails_359 : decode cL_fails 359 = .ok (.iconst 3, 1) := by decide +kernel
theorem dL_fails_360 : decode cL_fails 360 = .ok (.iconst 2, 1) := by decide +kernel
theorem dL_fails_361 : decode cL_fails 361 = .ok (.invokevirtual 30, 3) := by decide +kernel
theorem dL_fails_364 : decode cL_fails 364 = .ok (.iconst (-1), 1) := by decide +kernel
theorem dL_fails_365 : decode cL_fails 365 = .ok (.if_icmp .ne 55, 3) := by decide +kernel
theorem dL_fails_368 : decode cL_fails 368 = .ok (.aload_n 0, 1) := by decide +kernel
theorem dL_fails_369 : decode cL_fails 369 = .ok (.iconst 0, 1) := by decide +kernel
theorem dL_fails_370 : decode cL_fails 370 = .ok (.iconst 5, 1) := by decide +kernel
theorem dL_fails_371 : decode cL_fails 371 = .ok (.sipush 201, 3) := by decide +kernel
theorem dL_fails_374 : decode cL_fails 374 = .ok (.invokevirtual 30, 3) := by decide +kernel
theorem dL_fails_377 : decode cL_fails 377 = .ok (.iconst (-1), 1) := by decide +kernel
theorem dL_fails_378 : decode cL_fails 378 = .ok (.if_icmp .ne 42, 3) := by decide +kernel
theorem dL_fails_381 : decode cL_fails 381 = .ok (.aload_n 0, 1) := by decide +kernel
theorem dL_fails_382 : decode cL_fails 382 = .ok (.iconst 0, 1) := by decide +kernel
theorem dL_fails_383 : decode cL_fails 383 = .ok (.bipush 6, 2) := by decide +kernel
theorem dL_fails_385 : decode cL_fails 385 = .ok (.iconst 0, 1) := by decide +kernel
theorem dL_fails_386 : decode cL_fails 386 = .ok (.invokevirtual 30, 3) := by decide +kernel
theorem dL_fails_389 : decode cL_fails 389 = .ok (.iconst (-1), 1) := by decide +kernel
theorem dL_fails_390 : decode cL_fails 390 = .ok (.if_icmp .ne 30, 3) := by decide +kernel
theorem dL_fails_393 : decode cL_fails 393 = .ok (.aload_n 0, 1) := by decide +kernel
theorem dL_fails_394 : decode cL_fails 394 = .ok (.iconst 0, 1) := by decide +kernel
theorem dL_fails_395 : decode cL_fails 395 = .ok (.iconst 2, 1) := by decide +kernel
theorem dL_fails_396 : decode cL_fails 396 = .ok (.bipush (-2), 2) := by decide +kernel
theorem dL_fails_398 : decode cL_fails 398 = .ok (.invokevirtual 30, 3) := by decide +kernel
theorem dL_fails_401 : decode cL_fails 401 = .ok (.iconst (-1), 1) := by decide +kernel
theorem dL_fails_402 : decode cL_fails 402 = .ok (.if_icmp .ne 18, 3) := by decide +kernel
theorem dL_fails_405 : decode cL_fails 405 = .ok (.aload_n 0, 1) := by decide +kernel
theorem dL_fails_406 : decode cL_fails 406 = .ok (.iconst 0, 1) := by decide +kernel
theorem dL_fails_407 : decode cL_fails 407 = .ok (.bipush 9, 2) := by decide +kernel
theorem dL_fails_409 : decode cL_fails 409 = .ok (.invokevirtual 34, 3) := by decide +kernel
theorem dL_fails_412 : decode cL_fails 412 = .ok (.iconst (-1), 1) := by decide +kernel
theorem dL_fails_413 : decode cL_fails 413 = .ok (.if_icmp .ne 7, 3) := by decide +kernel
theorem dL_fails_416 : decode cL_fails 416 = .ok (.iconst 1, 1) := by decide +kernel
theorem dL_fails_417 : decode cL_fails 417 = .ok (.goto 4, 3) := by decide +kernel
theorem dL_fails_420 : decode cL_fails 420 = .ok (.iconst 0, 1) := by decide +kernel
theorem dL_fails_421 : decode cL_fails 421 = .ok (.istore 5, 2) := by decide +kernel
theorem dL_fails_423 : decode cL_fails 423 = .ok (.iload 4, 2) := by decide +kernel
theorem dL_fails_425 : decode cL_fails 425 = .ok (.ifCond .le 127, 3) := by decide +kernel
theorem dL_fails_428 : decode cL_fails 428 = .ok (.iload 5, 2) := by decide +kernel
theorem dL_fails_430 : decode cL_fails 430 = .ok (.ifCond .eq 119, 3) := by decide +kernel
theorem dL_fails_433 : decode cL_fails 433 = .ok (.aload_n 0, 1) := by decide +kernel
theorem dL_fails_434 : decode cL_fails 434 = .ok (.iconst 0, 1) := by decide +kernel
theorem dL_fails_435 : decode cL_fails 435 = .ok (.iconst 0, 1) := by decide +kernel
theorem dL_fails_436 : decode cL_fails 436 = .ok (.iload_n 3, 1) := by decide +kernel
theorem dL_fails_437 : decode cL_fails 437 = .ok (.invokevirtual 53, 3) := by decide +kernel
theorem dL_fails_440 : decode cL_fails 440 = .ok (.iconst (-1), 1) := by decide +kernel
theorem dL_fails_441 : decode cL_fails 441 = .ok (.if_icmp .ne 108, 3) := by decide +kernel
theorem dL_fails_444 : decode cL_fails 444 = .ok (.aload_n 0, 1) := by decide +kernel
theorem dL_fails_445 : decode cL_fails 445 = .ok (.iconst 0, 1) := by decide +kernel
theorem dL_fails_446 : decode cL_fails 446 = .ok (.iconst 1, 1) := by decide +kernel
theorem dL_fails_447 : decode cL_fails 447 = .ok (.sipush 201, 3) := by decide +kernel
theorem dL_fails_450 : decode cL_fails 450 = .ok (.invokevirtual 53, 3) := by decide +kernel
theorem dL_fails_453 : decode cL_fails 453 = .ok (.iconst (-1), 1) := by decide +kernel
theorem dL_fails_454 : decode cL_fails 454 = .ok (.if_icmp .ne 95, 3) := by decide +kernel
theorem dL_fails_457 : decode cL_fails 457 = .ok (.aload_n 0, 1) := by decide +kernel
theorem dL_fails_458 : decode cL_fails 458 = .ok (.iconst 0, 1) := by decide +kernel
theorem dL_fails_459 : decode cL_fails 459 = .ok (.iconst 2, 1) := by decide +kernel
theorem dL_fails_460 : decode cL_fails 460 = .ok (.iconst 0, 1) := by decide +kernel
theorem dL_fails_461 : decode cL_fails 461 = .ok (.invokevirtual 53, 3) := by decide +kernel
theorem dL_fails_464 : decode cL_fails 464 = .ok (.iconst (-1), 1) := by decide +kernel
theorem dL_fails_465 : decode cL_fails 465 = .ok (.if_icmp .ne 84, 3) := by decide +kernel
theorem dL_fails_468 : decode cL_fails 468 = .ok (.aload_n 0, 1) := by decide +kernel
theorem dL_fails_469 : decode cL_fails 469 = .ok (.iconst 0, 1) := by decide +kernel
theorem dL_fails_470 : decode cL_fails 470 = .ok (.ldc 49, 2) := by decide +kernel
theorem dL_fails_472 : decode cL_fails 472 = .ok (.invokevirtual 56, 3) := by decide +kernel
theorem dL_fails_475 : decode cL_fails 475 = .ok (.iconst (-1), 1) := by decide +kernel
theorem dL_fails_476 : decode cL_fails 476 = .ok (.if_icmp .ne 73, 3) := by decide +kernel
theorem dL_fails_479 : decode cL_fails 479 = .ok (.aload_n 0, 1) := by decide +kernel
theorem dL_fails_480 : decode cL_fails 480 = .ok (.iconst 0, 1) := by decide +kernel
theorem dL_fails_481 : decode cL_fails 481 = .ok (.ldc 80, 2) := by decide +kernel
theorem dL_fails_483 : decode cL_fails 483 = .ok (.invokevirtual 56, 3) := by decide +kernel
theorem dL_fails_486 : decode cL_fails 486 = .ok (.bipush (-2), 2) := by decide +kernel
theorem dL_fails_488 : decode cL_fails 488 = .ok (.if_icmp .ne 61, 3) := by decide +kernel
theorem dL_fails_491 : decode cL_fails 491 = .ok (.aload_n 0, 1) := by decide +kernel
theorem dL_fails_492 : decode cL_fails 492 = .ok (.iconst 0, 1) := by decide +kernel
theorem dL_fails_493 : decode cL_fails 493 = .ok (.bipush 12, 2) := by decide +kernel
theorem dL_fails_495 : decode cL_fails 495 = .ok (.invokevirtual 62, 3) := by decide +kernel
theorem dL_fails_498 : decode cL_fails 498 = .ok (.iconst (-1), 1) := by decide +kernel
theorem dL_fails_499 : decode cL_fails 499 = .ok (.if_icmp .ne 50, 3) := by decide +kernel
theorem dL_fails_502 : decode cL_fails 502 = .ok (.aload_n 0, 1) := by decide +kernel
theorem dL_fails_503 : decode cL_fails 503 = .ok (.iconst 0, 1) := by decide +kernel
theorem dL_fails_504 : decode cL_fails 504 = .ok (.aload_n 0, 1) := by decide +kernel
theorem dL_fails_505 : decode cL_fails 505 = .ok (.iconst 0, 1) := by decide +kernel
theorem dL_fails_506 : decode cL_fails 506 = .ok (.iconst 4, 1) := by decide +kernel
theorem dL_fails_507 : decode cL_fails 507 = .ok (.invokevirtual 62, 3) := by decide +kernel
theorem dL_fails_510 : decode cL_fails 510 = .ok (.iconst 0, 1) := by decide +kernel
theorem dL_fails_511 : decode cL_fails 511 = .ok (.invokevirtual 65, 3) := by decide +kernel
theorem dL_fails_514 : decode cL_fails 514 = .ok (.iconst (-1), 1) := by decide +kernel
theorem dL_fails_515 : decode cL_fails 515 = .ok (.if_icmp .ne 34, 3) := by decide +kernel
theorem dL_fails_518 : decode cL_fails 518 = .ok (.aload_n 0, 1) := by decide +kernel
theorem dL_fails_519 : decode cL_fails 519 = .ok (.iconst 0, 1) := by decide +kernel
theorem dL_fails_520 : decode cL_fails 520 = .ok (.aload_n 0, 1) := by decide +kernel
theorem dL_fails_521 : decode cL_fails 521 = .ok (.iconst 0, 1) := by decide +kernel
theorem dL_fails_522 : decode cL_fails 522 = .ok (.iconst 5, 1) := by decide +kernel
theorem dL_fails_523 : decode cL_fails 523 = .ok (.invokevirtual 62, 3) := by decide +kernel
theorem dL_fails_526 : decode cL_fails 526 = .ok (.iconst 0, 1) := by decide +kernel
theorem dL_fails_527 : decode cL_fails 527 = .ok (.invokevirtual 68, 3) := by decide +kernel
theorem dL_fails_530 : decode cL_fails 530 = .ok (.iconst (-1), 1) := by decide +kernel
theorem dL_fails_531 : decode cL_fails 531 = .ok (.if_icmp .ne 18, 3) := by decide +kernel
theorem dL_fails_534 : decode cL_fails 534 = .ok (.aload_n 0, 1) := by decide +kernel
theorem dL_fails_535 : decode cL_fails 535 = .ok (.iconst 0, 1) := by decide +kernel
theorem dL_fails_536 : decode cL_fails 536 = .ok (.iconst (-1), 1) := by decide +kernel
theorem dL_fails_537 : decode cL_fails 537 = .ok (.iconst 0, 1) := by decide +kernel
theorem dL_fails_538 : decode cL_fails 538 = .ok (.invokevirtual 74, 3) := by decide +kernel
theorem dL_fails_541 : decode cL_fails 541 = .ok (.iconst (-1), 1) := by decide +kernel
theorem dL_fails_542 : decode cL_fails 542 = .ok (.if_icmp .ne 7, 3) := by decide +kernel
theorem dL_fails_545 : decode cL_fails 545 = .ok (.iconst 1, 1) := by decide +kernel
theorem dL_fails_546 : decode cL_fails 546 = .ok (.goto 4, 3) := by decide +kernel
theorem dL_fails_549 : decode cL_fails 549 = .ok (.iconst 0, 1) := by decide +kernel
theorem dL_fails_550 : decode cL_fails 550 = .ok (.istore 5, 2) := by decide +kernel
theorem dL_fails_552 : decode cL_fails 552 = .ok (.iload 5, 2) := by decide +kernel
theorem dL_fails_554 : decode cL_fails 554 = .ok (.ifCond .eq 43, 3) := by decide +kernel
theorem dL_fails_557 : decode cL_fails 557 = .ok (.iload_n 3, 1) := by decide +kernel
theorem dL_fails_558 : decode cL_fails 558 = .ok (.ifCond .gt 12, 3) := by decide +kernel
theorem dL_fails_561 : decode cL_fails 561 = .ok (.aload_n 0, 1) := by decide +kernel
theorem dL_fails_562 : decode cL_fails 562 = .ok (.invokevirtual 81, 3) := by decide +kernel
theorem dL_fails_565 : decode cL_fails 565 = .ok (.bipush (-2), 2) := by decide +kernel
theorem dL_fails_567 : decode cL_fails 567 = .ok (.if_icmp .ne 30, 3) := by decide +kernel
theorem dL_fails_570 : decode cL_fails 570 = .ok (.iload 4, 2) := by decide +kernel
theorem dL_fails_572 : decode cL_fails 572 = .ok (.ifCond .gt 12, 3) := by decide +kernel
theorem dL_fails_575 : decode cL_fails 575 = .ok (.aload_n 0, 1) := by decide +kernel
theorem dL_fails_576 : decode cL_fails 576 = .ok (.invokevirtual 84, 3) := by decide +kernel
theorem dL_fails_579 : decode cL_fails 579 = .ok (.bipush (-9), 2) := by decide +kernel
theorem dL_fails_581 : decode cL_fails 581 = .ok (.if_icmp .ne 16, 3) := by decide +kernel
theorem dL_fails_584 : decode cL_fails 584 = .ok (.aload_n 0, 1) := by decide +kernel
theorem dL_fails_585 : decode cL_fails 585 = .ok (.invokevirtual 9, 3) := by decide +kernel
theorem dL_fails_588 : decode cL_fails 588 = .ok (.lload_n 1, 1) := by decide +kernel
theorem dL_fails_589 : decode cL_fails 589 = .ok (.lcmp, 1) := by decide +kernel
theorem dL_fails_590 : decode cL_fails 590 = .ok (.ifCond .ne 7, 3) := by decide +kernel
theorem dL_fails_593 : decode cL_fails 593 = .ok (.iconst 1, 1) := by decide +kernel
theorem dL_fails_594 : decode cL_fails 594 = .ok (.goto 4, 3) := by decide +kernel
theorem dL_fails_597 : decode cL_fails 597 = .ok (.iconst 0, 1) := by decide +kernel
theorem dL_fails_598 : decode cL_fails 598 = .ok (.ireturn, 1) := by decide +kernel
theorem dL_basic_0 : decode cL_basic 0 = .ok (.iload_n 0, 1) := by decide +kernel
theorem dL_basic_1 : decode cL_basic 1 = .ok (.ifCond .ne 8, 3) := by decide +kernel
theorem dL_basic_4 : decode cL_basic 4 = .ok (.bipush 20, 2) := by decide +kernel
theorem dL_basic_6 : decode cL_basic 6 = .ok (.goto 33, 3) := by decide +kernel
theorem dL_basic_9 : decode cL_basic 9 = .ok (.iload_n 0, 1) := by decide +kernel
theorem dL_basic_10 : decode cL_basic 10 = .ok (.iconst 1, 1) := by decide +kernel
theorem dL_basic_11 : decode cL_basic 11 = .ok (.if_icmp .ne 8, 3) := by decide +kernel
theorem dL_basic_14 : decode cL_basic 14 = .ok (.bipush 7, 2) := by decide +kernel
theorem dL_basic_16 : decode cL_basic 16 = .ok (.goto 23, 3) := by decide +kernel
theorem dL_basic_19 : decode cL_basic 19 = .ok (.iload_n 0, 1) := by decide +kernel
theorem dL_basic_20 : decode cL_basic 20 = .ok (.iconst 2, 1) := by decide +kernel
theorem dL_basic_21 : decode cL_basic 21 = .ok (.if_icmp .ne 7, 3) := by decide +kernel
theorem dL_basic_24 : decode cL_basic 24 = .ok (.iconst 1, 1) := by decide +kernel
theorem dL_basic_25 : decode cL_basic 25 = .ok (.goto 14, 3) := by decide +kernel
theorem dL_basic_28 : decode cL_basic 28 = .ok (.iload_n 0, 1) := by decide +kernel
theorem dL_basic_29 : decode cL_basic 29 = .ok (.iconst 5, 1) := by decide +kernel
theorem dL_basic_30 : decode cL_basic 30 = .ok (.if_icmp .ne 8, 3) := by decide +kernel
theorem dL_basic_33 : decode cL_basic 33 = .ok (.bipush 10, 2) := by decide +kernel
theorem dL_basic_35 : decode cL_basic 35 = .ok (.goto 4, 3) := by decide +kernel
theorem dL_basic_38 : decode cL_basic 38 = .ok (.iconst 0, 1) := by decide +kernel
theorem dL_basic_39 : decode cL_basic 39 = .ok (.ireturn, 1) := by decide +kernel
theorem dL_styles_0 : decode cL_styles 0 = .ok (.iconst 0, 1) := by decide +kernel
theorem dL_styles_1 : decode cL_styles 1 = .ok (.istore_n 1, 1) := by decide +kernel
theorem dL_styles_2 : decode cL_styles 2 = .ok (.iload_n 1, 1) := by decide +kernel
theorem dL_styles_3 : decode cL_styles 3 = .ok (.aload_n 0, 1) := by decide +kernel
theorem dL_styles_4 : decode cL_styles 4 = .ok (.invokevirtual 15, 3) := by decide +kernel
theorem dL_styles_7 : decode cL_styles 7 = .ok (.if_icmp .ge 239, 3) := by decide +kernel
theorem dL_styles_10 : decode cL_styles 10 = .ok (.aload_n 0, 1) := by decide +kernel
theorem dL_styles_11 : decode cL_styles 11 = .ok (.iload_n 1, 1) := by decide +kernel
theorem dL_styles_12 : decode cL_styles 12 = .ok (.bipush 6, 2) := by decide +kernel
theorem dL_styles_14 : decode cL_styles 14 = .ok (.invokevirtual 34, 3) := by decide +kernel
theorem dL_styles_17 : decode cL_styles 17 = .ok (.istore_n 2, 1) := by decide +kernel
theorem dL_styles_18 : decode cL_styles 18 = .ok (.iconst 0, 1) := by decide +kernel
theorem dL_styles_19 : decode cL_styles 19 = .ok (.istore_n 3, 1) := by decide +kernel
theorem dL_styles_20 : decode cL_styles 20 = .ok (.iconst 0, 1) := by decide +kernel
theorem dL_styles_21 : decode cL_styles 21 = .ok (.istore 4, 2) := by decide +kernel
theorem dL_styles_23 : decode cL_styles 23 = .ok (.iload 4, 2) := by decide +kernel
theorem dL_styles_25 : decode cL_styles 25 = .ok (.aload_n 0, 1) := by decide +kernel
theorem dL_styles_26 : decode cL_styles 26 = .ok (.invokevirtual 15, 3) := by decide +kernel
theorem dL_styles_29 : decode cL_styles 29 = .ok (.if_icmp .ge 29, 3) := by decide +kernel
theorem dL_styles_32 : decode cL_styles 32 = .ok (.iload_n 3, 1) := by decide +kernel
theorem dL_styles_33 : decode cL_styles 33 = .ok (.aload_n 0, 1) := by decide +kernel
theorem dL_styles_34 : decode cL_styles 34 = .ok (.iload 4, 2) := by decide +kernel
theorem dL_styles_36 : decode cL_styles 36 = .ok (.bipush 6, 2) := by decide +kernel
theorem dL_styles_38 : decode cL_styles 38 = .ok (.invokevirtual 34, 3) := by decide +kernel
theorem dL_styles_41 : decode cL_styles 41 = .ok (.iload_n 1, 1) := by decide +kernel
theorem dL_styles_42 : decode cL_styles 42 = .ok (.if_icmp .ne 7, 3) := by decide +kernel
theorem dL_styles_45 : decode cL_styles 45 = .ok (.iconst 1, 1) := by decide +kernel
theorem dL_styles_46 : decode cL_styles 46 = .ok (.goto 4, 3) := by decide +kernel
theorem dL_styles_49 : decode cL_styles 49 = .ok (.iconst 0, 1) := by decide +kernel
theorem dL_styles_50 : decode cL_styles 50 = .ok (.iadd, 1) := by decide +kernel
theorem dL_styles_51 : decode cL_styles 51 = .ok (.istore_n 3, 1) := by decide +kernel
theorem dL_styles_52 : decode cL_styles 52 = .ok (.iinc 4 1, 3) := by decide +kernel
theorem dL_styles_55 : decode cL_styles 55 = .ok (.goto (-32), 3) := by decide +kernel
theorem dL_styles_58 : decode cL_styles 58 = .ok (.aload_n 0, 1) := by decide +kernel
theorem dL_styles_59 : decode cL_styles 59 = .ok (.iload_n 1, 1) := by decide +kernel
theorem dL_styles_60 : decode cL_styles 60 = .ok (.bipush 8, 2) := by decide +kernel
theorem dL_styles_62 : decode cL_styles 62 = .ok (.invokevirtual 34, 3) := by decide +kernel
theorem dL_styles_65 : decode cL_styles 65 = .ok (.iload_n 3, 1) := by decide +kernel
theorem dL_styles_66 : decode cL_styles 66 = .ok (.if_icmp .ne 42, 3) := by decide +kernel
theorem dL_styles_69 : decode cL_styles 69 = .ok (.aload_n 0, 1) := by decide +kernel
theorem dL_styles_70 : decode cL_styles 70 = .ok (.iload_n 1, 1) := by decide +kernel
theorem dL_styles_71 : decode cL_styles 71 = .ok (.bipush 7, 2) := by decide +kernel
theorem dL_styles_73 : decode cL_styles 73 = .ok (.invokevirtual 34, 3) := by decide +kernel
theorem dL_styles_76 : decode cL_styles 76 = .ok (.iload_n 2, 1) := by decide +kernel
theorem dL_styles_77 : decode cL_styles 77 = .ok (.ifCond .ge 7, 3) := by decide +kernel
theorem dL_styles_80 : decode cL_styles 80 = .ok (.iconst 0, 1) := by decide +kernel
theorem dL_styles_81 : decode cL_styles 81 = .ok (.goto 12, 3) := by decide +kernel
theorem dL_styles_84 : decode cL_styles 84 = .ok (.iconst 1, 1) := by decide +kernel
theorem dL_styles_85 : decode cL_styles 85 = .ok (.aload_n 0, 1) := by decide +kernel
theorem dL_styles_86 : decode cL_styles 86 = .ok (.iload_n 2, 1) := by decide +kernel
theorem dL_styles_87 : decode cL_styles 87 = .ok (.bipush 7, 2) := by decide +kernel
theorem dL_styles_89 : decode cL_styles 89 = .ok (.invokevirtual 34, 3) := by decide +kernel
theorem dL_styles_92 : decode cL_styles 92 = .ok (.iadd, 1) := by decide +kernel
theorem dL_styles_93 : decode cL_styles 93 = .ok (.if_icmp .ne 15, 3) := by decide +kernel
theorem dL_styles_96 : decode cL_styles 96 = .ok (.aload_n 0, 1) := by decide +kernel
theorem dL_styles_97 : decode cL_styles 97 = .ok (.iload_n 1, 1) := by decide +kernel
theorem dL_styles_98 : decode cL_styles 98 = .ok (.bipush 7, 2) := by decide +kernel
theorem dL_styles_100 : decode cL_styles 100 = .ok (.invokevirtual 34, 3) := by decide +kernel
theorem dL_styles_103 : decode cL_styles 103 = .ok (.bipush 9, 2) := by decide +kernel
theorem dL_styles_105 : decode cL_styles 105 = .ok (.if_icmp .le 5, 3) := by decide +kernel
theorem dL_styles_108 : decode cL_styles 108 = .ok (.iconst 0, 1) := by decide +kernel
theorem dL_styles_109 : decode cL_styles 109 = .ok (.ireturn, 1) := by decide +kernel
theorem dL_styles_110 : decode cL_styles 110 = .ok (.iconst 0, 1) := by decide +kernel
theorem dL_styles_111 : decode cL_styles 111 = .ok (.istore 4, 2) := by decide +kernel
theorem dL_styles_113 : decode cL_styles 113 = .ok (.iload 4, 2) := by decide +kernel
theorem dL_styles_115 : decode cL_styles 115 = .ok (.bipush 6, 2) := by decide +kernel
theorem dL_styles_117 : decode cL_styles 117 = .ok (.if_icmp .ge 123, 3) := by decide +kernel
theorem dL_styles_120 : decode cL_styles 120 = .ok (.aload_n 0, 1) := by decide +kernel
theorem dL_styles_121 : decode cL_styles 121 = .ok (.iload_n 1, 1) := by decide +kernel
theorem dL_styles_122 : decode cL_styles 122 = .ok (.iload 4, 2) := by decide +kernel
theorem dL_styles_124 : decode cL_styles 124 = .ok (.invokevirtual 34, 3) := by decide +kernel
theorem dL_styles_127 : decode cL_styles 127 = .ok (.istore 5, 2) := by decide +kernel
theorem dL_styles_129 : decode cL_styles 129 = .ok (.iload 5, 2) := by decide +kernel
theorem dL_styles_131 : decode cL_styles 131 = .ok (.ifCond .lt 8, 3) := by decide +kernel
theorem dL_styles_134 : decode cL_styles 134 = .ok (.iload 5, 2) := by decide +kernel
theorem dL_styles_136 : decode cL_styles 136 = .ok (.goto 10, 3) := by decide +kernel
theorem dL_styles_139 : decode cL_styles 139 = .ok (.aload_n 0, 1) := by decide +kernel
theorem dL_styles_140 : decode cL_styles 140 = .ok (.iload_n 2, 1) := by decide +kernel
theorem dL_styles_141 : decode cL_styles 141 = .ok (.iload 4, 2) := by decide +kernel
theorem dL_styles_143 : decode cL_styles 143 = .ok (.invokevirtual 37, 3) := by decide +kernel
theorem dL_styles_146 : decode cL_styles 146 = .ok (.istore 6, 2) := by decide +kernel
theorem dL_styles_148 : decode cL_styles 148 = .ok (.iload 5, 2) := by decide +kernel
theorem dL_styles_150 : decode cL_styles 150 = .ok (.ifCond .lt 7, 3) := by decide +kernel
theorem dL_styles_153 : decode cL_styles 153 = .ok (.iload_n 1, 1) := by decide +kernel
theorem dL_styles_154 : decode cL_styles 154 = .ok (.goto 19, 3) := by decide +kernel
theorem dL_styles_157 : decode cL_styles 157 = .ok (.iload_n 2, 1) := by decide +kernel
theorem dL_styles_158 : decode cL_styles 158 = .ok (.ifCond .ge 8, 3) := by decide +kernel
theorem dL_styles_161 : decode cL_styles 161 = .ok (.bipush (-9), 2) := by decide +kernel
theorem dL_styles_163 : decode cL_styles 163 = .ok (.goto 10, 3) := by decide +kernel
theorem dL_styles_166 : decode cL_styles 166 = .ok (.aload_n 0, 1) := by decide +kernel
theorem dL_styles_167 : decode cL_styles 167 = .ok (.iload_n 2, 1) := by decide +kernel
theorem dL_styles_168 : decode cL_styles 168 = .ok (.iload 4, 2) := by decide +kernel
theorem dL_styles_170 : decode cL_styles 170 = .ok (.invokevirtual 40, 3) := by decide +kernel
theorem dL_styles_173 : decode cL_styles 173 = .ok (.istore 7, 2) := by decide +kernel
theorem dL_styles_175 : decode cL_styles 175 = .ok (.aload_n 0, 1) := by decide +kernel
theorem dL_styles_176 : decode cL_styles 176 = .ok (.iload_n 1, 1) := by decide +kernel
theorem dL_styles_177 : decode cL_styles 177 = .ok (.iload 4, 2) := by decide +kernel
theorem dL_styles_179 : decode cL_styles 179 = .ok (.invokevirtual 37, 3) := by decide +kernel
theorem dL_styles_182 : decode cL_styles 182 = .ok (.iload 6, 2) := by decide +kernel
theorem dL_styles_184 : decode cL_styles 184 = .ok (.if_icmp .ne 48, 3) := by decide +kernel
theorem dL_styles_187 : decode cL_styles 187 = .ok (.aload_n 0, 1) := by decide +kernel
theorem dL_styles_188 : decode cL_styles 188 = .ok (.iload_n 1, 1) := by decide +kernel
theorem dL_styles_189 : decode cL_styles 189 = .ok (.iload 4, 2) := by decide +kernel
theorem dL_styles_191 : decode cL_styles 191 = .ok (.invokevirtual 40, 3) := by decide +kernel
theorem dL_styles_194 : decode cL_styles 194 = .ok (.iload 7, 2) := by decide +kernel
theorem dL_styles_196 : decode cL_styles 196 = .ok (.if_icmp .ne 36, 3) := by decide +kernel
theorem dL_styles_199 : decode cL_styles 199 = .ok (.aload_n 0, 1) := by decide +kernel
theorem dL_styles_200 : decode cL_styles 200 = .ok (.iconst (-1), 1) := by decide +kernel
theorem dL_styles_201 : decode cL_styles 201 = .ok (.iload 4, 2) := by decide +kernel
theorem dL_styles_203 : decode cL_styles 203 = .ok (.invokevirtual 37, 3) := by decide +kernel
theorem dL_styles_206 : decode cL_styles 206 = .ok (.iload 4, 2) := by decide +kernel
theorem dL_styles_208 : decode cL_styles 208 = .ok (.invokestatic 87, 3) := by decide +kernel
theorem dL_styles_211 : decode cL_styles 211 = .ok (.if_icmp .ne 21, 3) := by decide +kernel
theorem dL_styles_214 : decode cL_styles 214 = .ok (.iload 7, 2) := by decide +kernel
theorem dL_styles_216 : decode cL_styles 216 = .ok (.ifCond .lt 18, 3) := by decide +kernel
theorem dL_styles_219 : decode cL_styles 219 = .ok (.aload_n 0, 1) := by decide +kernel
theorem dL_styles_220 : decode cL_styles 220 = .ok (.iload 7, 2) := by decide +kernel
theorem dL_styles_222 : decode cL_styles 222 = .ok (.iload 4, 2) := by decide +kernel
theorem dL_styles_224 : decode cL_styles 224 = .ok (.invokevirtual 34, 3) := by decide +kernel
theorem dL_styles_227 : decode cL_styles 227 = .ok (.iload 6, 2) := by decide +kernel
theorem dL_styles_229 : decode cL_styles 229 = .ok (.if_icmp .eq 5, 3) := by decide +kernel
theorem dL_styles_232 : decode cL_styles 232 = .ok (.iconst 0, 1) := by decide +kernel
theorem dL_styles_233 : decode cL_styles 233 = .ok (.ireturn, 1) := by decide +kernel
theorem dL_styles_234 : decode cL_styles 234 = .ok (.iinc 4 1, 3) := by decide +kernel
theorem dL_styles_237 : decode cL_styles 237 = .ok (.goto (-124), 3) := by decide +kernel
theorem dL_styles_240 : decode cL_styles 240 = .ok (.iinc 1 1, 3) := by decide +kernel
theorem dL_styles_243 : decode cL_styles 243 = .ok (.goto (-241), 3) := by decide +kernel
theorem dL_styles_246 : decode cL_styles 246 = .ok (.iconst 1, 1) := by decide +kernel
theorem dL_styles_247 : decode cL_styles 247 = .ok (.ireturn, 1) := by decide +kernel
theorem dL_line_0 : decode cL_line 0 = .ok (.aload_n 0, 1) := by decide +kernel
theorem dL_line_1 : decode cL_line 1 = .ok (.iload_n 1, 1) := by decide +kernel
theorem dL_line_2 : decode cL_line 2 = .ok (.iconst 0, 1) := by decide +kernel
theorem dL_line_3 : decode cL_line 3 = .ok (.invokevirtual 62, 3) := by decide +kernel
theorem dL_line_6 : decode cL_line 6 = .ok (.istore_n 2, 1) := by decide +kernel
theorem dL_line_7 : decode cL_line 7 = .ok (.aload_n 0, 1) := by decide +kernel
theorem dL_line_8 : decode cL_line 8 = .ok (.iload_n 1, 1) := by decide +kernel
theorem dL_line_9 : decode cL_line 9 = .ok (.iconst 1, 1) := by decide +kernel
theorem dL_line_10 : decode cL_line 10 = .ok (.invokevirtual 62, 3) := by decide +kernel
theorem dL_line_13 : decode cL_line 13 = .ok (.istore_n 3, 1) := by decide +kernel
theorem dL_line_14 : decode cL_line 14 = .ok (.aload_n 0, 1) := by decide +kernel
theorem dL_line_15 : decode cL_line 15 = .ok (.iload_n 1, 1) := by decide +kernel
theorem dL_line_16 : decode cL_line 16 = .ok (.iconst 2, 1) := by decide +kernel
theorem dL_line_17 : decode cL_line 17 = .ok (.invokevirtual 62, 3) := by decide +kernel
theorem dL_line_20 : decode cL_line 20 = .ok (.istore 4, 2) := by decide +kernel
theorem dL_line_22 : decode cL_line 22 = .ok (.aload_n 0, 1) := by decide +kernel
theorem dL_line_23 : decode cL_line 23 = .ok (.iload_n 1, 1) := by decide +kernel
theorem dL_line_24 : decode cL_line 24 = .ok (.iconst 4, 1) := by decide +kernel
theorem dL_line_25 : decode cL_line 25 = .ok (.invokevirtual 62, 3) := by decide +kernel
theorem dL_line_28 : decode cL_line 28 = .ok (.istore 5, 2) := by decide +kernel
theorem dL_line_30 : decode cL_line 30 = .ok (.aload_n 0, 1) := by decide +kernel
theorem dL_line_31 : decode cL_line 31 = .ok (.iload_n 1, 1) := by decide +kernel
theorem dL_line_32 : decode cL_line 32 = .ok (.iconst 5, 1) := by decide +kernel
theorem dL_line_33 : decode cL_line 33 = .ok (.invokevirtual 62, 3) := by decide +kernel
theorem dL_line_36 : decode cL_line 36 = .ok (.istore 6, 2) := by decide +kernel
theorem dL_line_38 : decode cL_line 38 = .ok (.iload 5, 2) := by decide +kernel
theorem dL_line_40 : decode cL_line 40 = .ok (.ifCond .ne 13, 3) := by decide +kernel
theorem dL_line_43 : decode cL_line 43 = .ok (.aload_n 0, 1) := by decide +kernel
theorem dL_line_44 : decode cL_line 44 = .ok (.iload 4, 2) := by decide +kernel
theorem dL_line_46 : decode cL_line 46 = .ok (.iconst 0, 1) := by decide +kernel
theorem dL_line_47 : decode cL_line 47 = .ok (.invokevirtual 37, 3) := by decide +kernel
theorem dL_line_50 : decode cL_line 50 = .ok (.goto 4, 3) := by decide +kernel
theorem dL_line_53 : decode cL_line 53 = .ok (.iconst 0, 1) := by decide +kernel
theorem dL_line_54 : decode cL_line 54 = .ok (.istore 7, 2) := by decide +kernel
theorem dL_line_56 : decode cL_line 56 = .ok (.bipush (-9), 2) := by decide +kernel
theorem dL_line_58 : decode cL_line 58 = .ok (.istore 8, 2) := by decide +kernel
theorem dL_line_60 : decode cL_line 60 = .ok (.iconst 0, 1) := by decide +kernel
theorem dL_line_61 : decode cL_line 61 = .ok (.istore 9, 2) := by decide +kernel
theorem dL_line_63 : decode cL_line 63 = .ok (.iconst 0, 1) := by decide +kernel
theorem dL_line_64 : decode cL_line 64 = .ok (.istore 10, 2) := by decide +kernel
theorem dL_line_66 : decode cL_line 66 = .ok (.iload 10, 2) := by decide +kernel
theorem dL_line_68 : decode cL_line 68 = .ok (.iload 5, 2) := by decide +kernel
theorem dL_line_70 : decode cL_line 70 = .ok (.if_icmp .ge 254, 3) := by decide +kernel
theorem dL_line_73 : decode cL_line 73 = .ok (.aload_n 0, 1) := by decide +kernel
theorem dL_line_74 : decode cL_line 74 = .ok (.iload_n 1, 1) := by decide +kernel
theorem dL_line_75 : decode cL_line 75 = .ok (.iload 10, 2) := by decide +kernel
theorem dL_line_77 : decode cL_line 77 = .ok (.iconst 5, 1) := by decide +kernel
theorem dL_line_78 : decode cL_line 78 = .ok (.invokevirtual 65, 3) := by decide +kernel
theorem dL_line_81 : decode cL_line 81 = .ok (.istore 11, 2) := by decide +kernel
theorem dL_line_83 : decode cL_line 83 = .ok (.aload_n 0, 1) := by decide +kernel
theorem dL_line_84 : decode cL_line 84 = .ok (.iload_n 1, 1) := by decide +kernel
theorem dL_line_85 : decode cL_line 85 = .ok (.iload 10, 2) := by decide +kernel
theorem dL_line_87 : decode cL_line 87 = .ok (.iconst 1, 1) := by decide +kernel
theorem dL_line_88 : decode cL_line 88 = .ok (.invokevirtual 65, 3) := by decide +kernel
theorem dL_line_91 : decode cL_line 91 = .ok (.istore 12, 2) := by decide +kernel
theorem dL_line_93 : decode cL_line 93 = .ok (.iload 11, 2) := by decide +kernel
theorem dL_line_95 : decode cL_line 95 = .ok (.iload 8, 2) := by decide +kernel
theorem dL_line_97 : decode cL_line 97 = .ok (.if_icmp .lt 72, 3) := by decide +kernel
theorem dL_line_100 : decode cL_line 100 = .ok (.iload 11, 2) := by decide +kernel
theorem dL_line_102 : decode cL_line 102 = .ok (.iload 6, 2) := by decide +kernel
theorem dL_line_104 : decode cL_line 104 = .ok (.if_icmp .ge 65, 3) := by decide +kernel
theorem dL_line_107 : decode cL_line 107 = .ok (.iload 12, 2) := by decide +kernel
theorem dL_line_109 : decode cL_line 109 = .ok (.iconst 1, 1) := by decide +kernel
theorem dL_line_110 : decode cL_line 110 = .ok (.if_icmp .lt 59, 3) := by decide +kernel
theorem dL_line_113 : decode cL_line 113 = .ok (.iload 12, 2) := by decide +kernel
theorem dL_line_115 : decode cL_line 115 = .ok (.bipush 99, 2) := by decide +kernel
theorem dL_line_117 : decode cL_line 117 = .ok (.if_icmp .gt 52, 3) := by decide +kernel
theorem dL_line_120 : decode cL_line 120 = .ok (.aload_n 0, 1) := by decide +kernel
theorem dL_line_121 : decode cL_line 121 = .ok (.iload_n 1, 1) := by decide +kernel
theorem dL_line_122 : decode cL_line 122 = .ok (.iload 10, 2) := by decide +kernel
theorem dL_line_124 : decode cL_line 124 = .ok (.iconst 0, 1) := by decide +kernel
theorem dL_line_125 : decode cL_line 125 = .ok (.invokevirtual 65, 3) := by decide +kernel
theorem dL_line_128 : decode cL_line 128 = .ok (.bipush 32, 2) := by decide +kernel
theorem dL_line_130 : decode cL_line 130 = .ok (.if_icmp .lt 39, 3) := by decide +kernel
theorem dL_line_133 : decode cL_line 133 = .ok (.aload_n 0, 1) := by decide +kernel
theorem dL_line_134 : decode cL_line 134 = .ok (.iload_n 1, 1) := by decide +kernel
theorem dL_line_135 : decode cL_line 135 = .ok (.iload 10, 2) := by decide +kernel
theorem dL_line_137 : decode cL_line 137 = .ok (.iconst 0, 1) := by decide +kernel
theorem dL_line_138 : decode cL_line 138 = .ok (.invokevirtual 65, 3) := by decide +kernel
theorem dL_line_141 : decode cL_line 141 = .ok (.bipush 123, 2) := by decide +kernel
theorem dL_line_143 : decode cL_line 143 = .ok (.if_icmp .eq 26, 3) := by decide +kernel
theorem dL_line_146 : decode cL_line 146 = .ok (.aload_n 0, 1) := by decide +kernel
theorem dL_line_147 : decode cL_line 147 = .ok (.iload_n 1, 1) := by decide +kernel
theorem dL_line_148 : decode cL_line 148 = .ok (.iload 10, 2) := by decide +kernel
theorem dL_line_150 : decode cL_line 150 = .ok (.iconst 4, 1) := by decide +kernel
theorem dL_line_151 : decode cL_line 151 = .ok (.invokevirtual 65, 3) := by decide +kernel
theorem dL_line_154 : decode cL_line 154 = .ok (.ifCond .lt 15, 3) := by decide +kernel
theorem dL_line_157 : decode cL_line 157 = .ok (.aload_n 0, 1) := by decide +kernel
theorem dL_line_158 : decode cL_line 158 = .ok (.iload_n 1, 1) := by decide +kernel
theorem dL_line_159 : decode cL_line 159 = .ok (.iload 10, 2) := by decide +kernel
theorem dL_line_161 : decode cL_line 161 = .ok (.iconst 4, 1) := by decide +kernel
theorem dL_line_162 : decode cL_line 162 = .ok (.invokevirtual 65, 3) := by decide +kernel
theorem dL_line_165 : decode cL_line 165 = .ok (.iconst 1, 1) := by decide +kernel
theorem dL_line_166 : decode cL_line 166 = .ok (.if_icmp .le 5, 3) := by decide +kernel
theorem dL_line_169 : decode cL_line 169 = .ok (.iconst 0, 1) := by decide +kernel
theorem dL_line_170 : decode cL_line 170 = .ok (.ireturn, 1) := by decide +kernel
theorem dL_line_171 : decode cL_line 171 = .ok (.iload 11, 2) := by decide +kernel
theorem dL_line_173 : decode cL_line 173 = .ok (.istore 8, 2) := by decide +kernel
theorem dL_line_175 : decode cL_line 175 = .ok (.iload 9, 2) := by decide +kernel
theorem dL_line_177 : decode cL_line 177 = .ok (.iload 11, 2) := by decide +kernel
theorem dL_line_179 : decode cL_line 179 = .ok (.ifCond .lt 7, 3) := by decide +kernel
theorem dL_line_182 : decode cL_line 182 = .ok (.iconst 1, 1) := by decide +kernel
theorem dL_line_183 : decode cL_line 183 = .ok (.goto 4, 3) := by decide +kernel
theorem dL_line_186 : decode cL_line 186 = .ok (.iconst 0, 1) := by decide +kernel
theorem dL_line_187 : decode cL_line 187 = .ok (.iadd, 1) := by decide +kernel
theorem dL_line_188 : decode cL_line 188 = .ok (.istore 9, 2) := by decide +kernel
theorem dL_line_190 : decode cL_line 190 = .ok (.iload 12, 2) := by decide +kernel
theorem dL_line_192 : decode cL_line 192 = .ok (.iload 7, 2) := by decide +kernel
theorem dL_line_194 : decode cL_line 194 = .ok (.if_icmp .le 8, 3) := by decide +kernel
theorem dL_line_197 : decode cL_line 197 = .ok (.iload 12, 2) := by decide +kernel
theorem dL_line_199 : decode cL_line 199 = .ok (.goto 5, 3) := by decide +kernel
theorem dL_line_202 : decode cL_line 202 = .ok (.iload 7, 2) := by decide +kernel
theorem dL_line_204 : decode cL_line 204 = .ok (.istore 7, 2) := by decide +kernel
theorem dL_line_206 : decode cL_line 206 = .ok (.aload_n 0, 1) := by decide +kernel
theorem dL_line_207 : decode cL_line 207 = .ok (.iload_n 1, 1) := by decide +kernel
theorem dL_line_208 : decode cL_line 208 = .ok (.iload 10, 2) := by decide +kernel
theorem dL_line_210 : decode cL_line 210 = .ok (.iload_n 3, 1) := by decide +kernel
theorem dL_line_211 : decode cL_line 211 = .ok (.invokevirtual 74, 3) := by decide +kernel
theorem dL_line_214 : decode cL_line 214 = .ok (.bipush (-9), 2) := by decide +kernel
theorem dL_line_216 : decode cL_line 216 = .ok (.if_icmp .ne 100, 3) := by decide +kernel
theorem dL_line_219 : decode cL_line 219 = .ok (.aload_n 0, 1) := by decide +kernel
theorem dL_line_220 : decode cL_line 220 = .ok (.iload_n 1, 1) := by decide +kernel
theorem dL_line_221 : decode cL_line 221 = .ok (.iload 10, 2) := by decide +kernel
theorem dL_line_223 : decode cL_line 223 = .ok (.iload_n 2, 1) := by decide +kernel
theorem dL_line_224 : decode cL_line 224 = .ok (.iconst 1, 1) := by decide +kernel
theorem dL_line_225 : decode cL_line 225 = .ok (.isub, 1) := by decide +kernel
theorem dL_line_226 : decode cL_line 226 = .ok (.invokevirtual 74, 3) := by decide +kernel
theorem dL_line_229 : decode cL_line 229 = .ok (.bipush (-9), 2) := by decide +kernel
theorem dL_line_231 : decode cL_line 231 = .ok (.if_icmp .ne 85, 3) := by decide +kernel
theorem dL_line_234 : decode cL_line 234 = .ok (.aload_n 0, 1) := by decide +kernel
theorem dL_line_235 : decode cL_line 235 = .ok (.iload_n 1, 1) := by decide +kernel
theorem dL_line_236 : decode cL_line 236 = .ok (.iload 10, 2) := by decide +kernel
theorem dL_line_238 : decode cL_line 238 = .ok (.iload_n 3, 1) := by decide +kernel
theorem dL_line_239 : decode cL_line 239 = .ok (.iconst 1, 1) := by decide +kernel
theorem dL_line_240 : decode cL_line 240 = .ok (.isub, 1) := by decide +kernel
theorem dL_line_241 : decode cL_line 241 = .ok (.invokevirtual 74, 3) := by decide +kernel
theorem dL_line_244 : decode cL_line 244 = .ok (.aload_n 0, 1) := by decide +kernel
theorem dL_line_245 : decode cL_line 245 = .ok (.iload_n 1, 1) := by decide +kernel
theorem dL_line_246 : decode cL_line 246 = .ok (.iload 10, 2) := by decide +kernel
theorem dL_line_248 : decode cL_line 248 = .ok (.iload 11, 2) := by decide +kernel
theorem dL_line_250 : decode cL_line 250 = .ok (.ifCond .lt 19, 3) := by decide +kernel
theorem dL_line_253 : decode cL_line 253 = .ok (.aload_n 0, 1) := by decide +kernel
theorem dL_line_254 : decode cL_line 254 = .ok (.iload_n 1, 1) := by decide +kernel
theorem dL_line_255 : decode cL_line 255 = .ok (.iload 11, 2) := by decide +kernel
theorem dL_line_257 : decode cL_line 257 = .ok (.iconst 0, 1) := by decide +kernel
theorem dL_line_258 : decode cL_line 258 = .ok (.invokevirtual 68, 3) := by decide +kernel
theorem dL_line_261 : decode cL_line 261 = .ok (.iload_n 3, 1) := by decide +kernel
theorem dL_line_262 : decode cL_line 262 = .ok (.if_icmp .ge 7, 3) := by decide +kernel
theorem dL_line_265 : decode cL_line 265 = .ok (.iconst 3, 1) := by decide +kernel
theorem dL_line_266 : decode cL_line 266 = .ok (.goto 4, 3) := by decide +kernel
theorem dL_line_269 : decode cL_line 269 = .ok (.iconst 2, 1) := by decide +kernel
theorem dL_line_270 : decode cL_line 270 = .ok (.invokevirtual 65, 3) := by decide +kernel
theorem dL_line_273 : decode cL_line 273 = .ok (.if_icmp .ne 43, 3) := by decide +kernel
theorem dL_line_276 : decode cL_line 276 = .ok (.aload_n 0, 1) := by decide +kernel
theorem dL_line_277 : decode cL_line 277 = .ok (.iload_n 1, 1) := by decide +kernel
theorem dL_line_278 : decode cL_line 278 = .ok (.iload 10, 2) := by decide +kernel
theorem dL_line_280 : decode cL_line 280 = .ok (.iload_n 2, 1) := by decide +kernel
theorem dL_line_281 : decode cL_line 281 = .ok (.invokevirtual 74, 3) := by decide +kernel
theorem dL_line_284 : decode cL_line 284 = .ok (.aload_n 0, 1) := by decide +kernel
theorem dL_line_285 : decode cL_line 285 = .ok (.iload_n 1, 1) := by decide +kernel
theorem dL_line_286 : decode cL_line 286 = .ok (.iload 10, 2) := by decide +kernel
theorem dL_line_288 : decode cL_line 288 = .ok (.iload 11, 2) := by decide +kernel
theorem dL_line_290 : decode cL_line 290 = .ok (.ifCond .lt 19, 3) := by decide +kernel
theorem dL_line_293 : decode cL_line 293 = .ok (.aload_n 0, 1) := by decide +kernel
theorem dL_line_294 : decode cL_line 294 = .ok (.iload_n 1, 1) := by decide +kernel
theorem dL_line_295 : decode cL_line 295 = .ok (.iload 11, 2) := by decide +kernel
theorem dL_line_297 : decode cL_line 297 = .ok (.iconst 0, 1) := by decide +kernel
theorem dL_line_298 : decode cL_line 298 = .ok (.invokevirtual 68, 3) := by decide +kernel
theorem dL_line_301 : decode cL_line 301 = .ok (.iload_n 2, 1) := by decide +kernel
theorem dL_line_302 : decode cL_line 302 = .ok (.if_icmp .ne 7, 3) := by decide +kernel
theorem dL_line_305 : decode cL_line 305 = .ok (.iconst 3, 1) := by decide +kernel
theorem dL_line_306 : decode cL_line 306 = .ok (.goto 4, 3) := by decide +kernel
theorem dL_line_309 : decode cL_line 309 = .ok (.iconst 2, 1) := by decide +kernel
theorem dL_line_310 : decode cL_line 310 = .ok (.invokevirtual 65, 3) := by decide +kernel
theorem dL_line_313 : decode cL_line 313 = .ok (.if_icmp .eq 5, 3) := by decide +kernel
theorem dL_line_316 : decode cL_line 316 = .ok (.iconst 0, 1) := by decide +kernel
theorem dL_line_317 : decode cL_line 317 = .ok (.ireturn, 1) := by decide +kernel
theorem dL_line_318 : decode cL_line 318 = .ok (.iinc 10 1, 3) := by decide +kernel
theorem dL_line_321 : decode cL_line 321 = .ok (.goto (-255), 3) := by decide +kernel
theorem dL_line_324 : decode cL_line 324 = .ok (.iload_n 2, 1) := by decide +kernel
theorem dL_line_325 : decode cL_line 325 = .ok (.istore 10, 2) := by decide +kernel
theorem dL_line_327 : decode cL_line 327 = .ok (.iconst 0, 1) := by decide +kernel
theorem dL_line_328 : decode cL_line 328 = .ok (.istore 11, 2) := by decide +kernel
theorem dL_line_330 : decode cL_line 330 = .ok (.iconst 0, 1) := by decide +kernel
theorem dL_line_331 : decode cL_line 331 = .ok (.istore 12, 2) := by decide +kernel
theorem dL_line_333 : decode cL_line 333 = .ok (.iconst 0, 1) := by decide +kernel
theorem dL_line_334 : decode cL_line 334 = .ok (.istore 13, 2) := by decide +kernel
theorem dL_line_336 : decode cL_line 336 = .ok (.iload 13, 2) := by decide +kernel
theorem dL_line_338 : decode cL_line 338 = .ok (.iload 6, 2) := by decide +kernel
theorem dL_line_340 : decode cL_line 340 = .ok (.if_icmp .ge 74, 3) := by decide +kernel
theorem dL_line_343 : decode cL_line 343 = .ok (.aload_n 0, 1) := by decide +kernel
theorem dL_line_344 : decode cL_line 344 = .ok (.iload_n 1, 1) := by decide +kernel
theorem dL_line_345 : decode cL_line 345 = .ok (.iload 13, 2) := by decide +kernel
theorem dL_line_347 : decode cL_line 347 = .ok (.iconst 0, 1) := by decide +kernel
theorem dL_line_348 : decode cL_line 348 = .ok (.invokevirtual 68, 3) := by decide +kernel
theorem dL_line_351 : decode cL_line 351 = .ok (.iload 10, 2) := by decide +kernel
theorem dL_line_353 : decode cL_line 353 = .ok (.if_icmp .ne 14, 3) := by decide +kernel
theorem dL_line_356 : decode cL_line 356 = .ok (.aload_n 0, 1) := by decide +kernel
theorem dL_line_357 : decode cL_line 357 = .ok (.iload_n 1, 1) := by decide +kernel
theorem dL_line_358 : decode cL_line 358 = .ok (.iload 13, 2) := by decide +kernel
theorem dL_line_360 : decode cL_line 360 = .ok (.iconst 1, 1) := by decide +kernel
theorem dL_line_361 : decode cL_line 361 = .ok (.invokevirtual 68, 3) := by decide +kernel
theorem dL_line_364 : decode cL_line 364 = .ok (.ifCond .ge 5, 3) := by decide +kernel
theorem dL_line_367 : decode cL_line 367 = .ok (.iconst 0, 1) := by decide +kernel
theorem dL_line_368 : decode cL_line 368 = .ok (.ireturn, 1) := by decide +kernel
theorem dL_line_369 : decode cL_line 369 = .ok (.iload 10, 2) := by decide +kernel
theorem dL_line_371 : decode cL_line 371 = .ok (.aload_n 0, 1) := by decide +kernel
theorem dL_line_372 : decode cL_line 372 = .ok (.iload_n 1, 1) := by decide +kernel
theorem dL_line_373 : decode cL_line 373 = .ok (.iload 13, 2) := by decide +kernel
theorem dL_line_375 : decode cL_line 375 = .ok (.iconst 1, 1) := by decide +kernel
theorem dL_line_376 : decode cL_line 376 = .ok (.invokevirtual 68, 3) := by decide +kernel
theorem dL_line_379 : decode cL_line 379 = .ok (.iadd, 1) := by decide +kernel
theorem dL_line_380 : decode cL_line 380 = .ok (.istore 10, 2) := by decide +kernel
theorem dL_line_382 : decode cL_line 382 = .ok (.iload 11, 2) := by decide +kernel
theorem dL_line_384 : decode cL_line 384 = .ok (.aload_n 0, 1) := by decide +kernel
theorem dL_line_385 : decode cL_line 385 = .ok (.iload_n 1, 1) := by decide +kernel
theorem dL_line_386 : decode cL_line 386 = .ok (.iload 13, 2) := by decide +kernel
theorem dL_line_388 : decode cL_line 388 = .ok (.iconst 1, 1) := by decide +kernel
theorem dL_line_389 : decode cL_line 389 = .ok (.invokevirtual 68, 3) := by decide +kernel
theorem dL_line_392 : decode cL_line 392 = .ok (.iadd, 1) := by decide +kernel
theorem dL_line_393 : decode cL_line 393 = .ok (.istore 11, 2) := by decide +kernel
theorem dL_line_395 : decode cL_line 395 = .ok (.iload 12, 2) := by decide +kernel
theorem dL_line_397 : decode cL_line 397 = .ok (.aload_n 0, 1) := by decide +kernel
theorem dL_line_398 : decode cL_line 398 = .ok (.iload_n 1, 1) := by decide +kernel
theorem dL_line_399 : decode cL_line 399 = .ok (.iload 13, 2) := by decide +kernel
theorem dL_line_401 : decode cL_line 401 = .ok (.iconst 2, 1) := by decide +kernel
theorem dL_line_402 : decode cL_line 402 = .ok (.invokevirtual 68, 3) := by decide +kernel
theorem dL_line_405 : decode cL_line 405 = .ok (.iadd, 1) := by decide +kernel
theorem dL_line_406 : decode cL_line 406 = .ok (.istore 12, 2) := by decide +kernel
theorem dL_line_408 : decode cL_line 408 = .ok (.iinc 13 1, 3) := by decide +kernel
theorem dL_line_411 : decode cL_line 411 = .ok (.goto (-75), 3) := by decide +kernel
theorem dL_line_414 : decode cL_line 414 = .ok (.aload_n 0, 1) := by decide +kernel
theorem dL_line_415 : decode cL_line 415 = .ok (.iload_n 1, 1) := by decide +kernel
theorem dL_line_416 : decode cL_line 416 = .ok (.iconst 3, 1) := by decide +kernel
theorem dL_line_417 : decode cL_line 417 = .ok (.invokevirtual 62, 3) := by decide +kernel
theorem dL_line_420 : decode cL_line 420 = .ok (.istore 13, 2) := by decide +kernel
theorem dL_line_422 : decode cL_line 422 = .ok (.iload 13, 2) := by decide +kernel
theorem dL_line_424 : decode cL_line 424 = .ok (.ifCond .ge 13, 3) := by decide +kernel
theorem dL_line_427 : decode cL_line 427 = .ok (.aload_n 0, 1) := by decide +kernel
theorem dL_line_428 : decode cL_line 428 = .ok (.iload 4, 2) := by decide +kernel
theorem dL_line_430 : decode cL_line 430 = .ok (.iconst 5, 1) := by decide +kernel
theorem dL_line_431 : decode cL_line 431 = .ok (.invokevirtual 37, 3) := by decide +kernel
theorem dL_line_434 : decode cL_line 434 = .ok (.goto 5, 3) := by decide +kernel
theorem dL_line_437 : decode cL_line 437 = .ok (.iload 13, 2) := by decide +kernel
theorem dL_line_439 : decode cL_line 439 = .ok (.istore 14, 2) := by decide +kernel
theorem dL_line_441 : decode cL_line 441 = .ok (.aload_n 0, 1) := by decide +kernel
theorem dL_line_442 : decode cL_line 442 = .ok (.iload_n 1, 1) := by decide +kernel
theorem dL_line_443 : decode cL_line 443 = .ok (.bipush 9, 2) := by decide +kernel
theorem dL_line_445 : decode cL_line 445 = .ok (.invokevirtual 62, 3) := by decide +kernel
theorem dL_line_448 : decode cL_line 448 = .ok (.istore 15, 2) := by decide +kernel
theorem dL_line_450 : decode cL_line 450 = .ok (.aload_n 0, 1) := by decide +kernel
theorem dL_line_451 : decode cL_line 451 = .ok (.iload_n 1, 1) := by decide +kernel
theorem dL_line_452 : decode cL_line 452 = .ok (.bipush 6, 2) := by decide +kernel
theorem dL_line_454 : decode cL_line 454 = .ok (.invokevirtual 62, 3) := by decide +kernel
theorem dL_line_457 : decode cL_line 457 = .ok (.iload 11, 2) := by decide +kernel
theorem dL_line_459 : decode cL_line 459 = .ok (.if_icmp .ne 74, 3) := by decide +kernel
theorem dL_line_462 : decode cL_line 462 = .ok (.iload 12, 2) := by decide +kernel
theorem dL_line_464 : decode cL_line 464 = .ok (.iload 9, 2) := by decide +kernel
theorem dL_line_466 : decode cL_line 466 = .ok (.if_icmp .ne 67, 3) := by decide +kernel
theorem dL_line_469 : decode cL_line 469 = .ok (.aload_n 0, 1) := by decide +kernel
theorem dL_line_470 : decode cL_line 470 = .ok (.iload_n 1, 1) := by decide +kernel
theorem dL_line_471 : decode cL_line 471 = .ok (.bipush 7, 2) := by decide +kernel
theorem dL_line_473 : decode cL_line 473 = .ok (.invokevirtual 62, 3) := by decide +kernel
theorem dL_line_476 : decode cL_line 476 = .ok (.iload 11, 2) := by decide +kernel
theorem dL_line_478 : decode cL_line 478 = .ok (.iload_n 3, 1) := by decide +kernel
theorem dL_line_479 : decode cL_line 479 = .ok (.iload_n 2, 1) := by decide +kernel
theorem dL_line_480 : decode cL_line 480 = .ok (.isub, 1) := by decide +kernel
theorem dL_line_481 : decode cL_line 481 = .ok (.if_icmp .gt 7, 3) := by decide +kernel
theorem dL_line_484 : decode cL_line 484 = .ok (.iconst 1, 1) := by decide +kernel
theorem dL_line_485 : decode cL_line 485 = .ok (.goto 4, 3) := by decide +kernel
theorem dL_line_488 : decode cL_line 488 = .ok (.iconst 0, 1) := by decide +kernel
theorem dL_line_489 : decode cL_line 489 = .ok (.if_icmp .ne 44, 3) := by decide +kernel
theorem dL_line_492 : decode cL_line 492 = .ok (.aload_n 0, 1) := by decide +kernel
theorem dL_line_493 : decode cL_line 493 = .ok (.iload_n 1, 1) := by decide +kernel
theorem dL_line_494 : decode cL_line 494 = .ok (.bipush 8, 2) := by decide +kernel
theorem dL_line_496 : decode cL_line 496 = .ok (.invokevirtual 62, 3) := by decide +kernel
theorem dL_line_499 : decode cL_line 499 = .ok (.iload 7, 2) := by decide +kernel
theorem dL_line_501 : decode cL_line 501 = .ok (.if_icmp .ne 32, 3) := by decide +kernel
theorem dL_line_504 : decode cL_line 504 = .ok (.iload 15, 2) := by decide +kernel
theorem dL_line_506 : decode cL_line 506 = .ok (.iload 14, 2) := by decide +kernel
theorem dL_line_508 : decode cL_line 508 = .ok (.if_icmp .lt 25, 3) := by decide +kernel
theorem dL_line_511 : decode cL_line 511 = .ok (.aload_n 0, 1) := by decide +kernel
theorem dL_line_512 : decode cL_line 512 = .ok (.iload_n 1, 1) := by decide +kernel
theorem dL_line_513 : decode cL_line 513 = .ok (.bipush 10, 2) := by decide +kernel
theorem dL_line_515 : decode cL_line 515 = .ok (.invokevirtual 62, 3) := by decide +kernel
theorem dL_line_518 : decode cL_line 518 = .ok (.aload_n 0, 1) := by decide +kernel
theorem dL_line_519 : decode cL_line 519 = .ok (.iload 4, 2) := by decide +kernel
theorem dL_line_521 : decode cL_line 521 = .ok (.iconst 4, 1) := by decide +kernel
theorem dL_line_522 : decode cL_line 522 = .ok (.invokevirtual 37, 3) := by decide +kernel
theorem dL_line_525 : decode cL_line 525 = .ok (.if_icmp .ne 8, 3) := by decide +kernel
theorem dL_line_528 : decode cL_line 528 = .ok (.iload_n 2, 1) := by decide +kernel
theorem dL_line_529 : decode cL_line 529 = .ok (.iload_n 3, 1) := by decide +kernel
theorem dL_line_530 : decode cL_line 530 = .ok (.if_icmp .lt 5, 3) := by decide +kernel
theorem dL_line_533 : decode cL_line 533 = .ok (.iconst 0, 1) := by decide +kernel
theorem dL_line_534 : decode cL_line 534 = .ok (.ireturn, 1) := by decide +kernel
theorem dL_line_535 : decode cL_line 535 = .ok (.iload 15, 2) := by decide +kernel
theorem dL_line_537 : decode cL_line 537 = .ok (.iload 14, 2) := by decide +kernel
theorem dL_line_539 : decode cL_line 539 = .ok (.if_icmp .ne 7, 3) := by decide +kernel
theorem dL_line_542 : decode cL_line 542 = .ok (.iconst 1, 1) := by decide +kernel
theorem dL_line_543 : decode cL_line 543 = .ok (.goto 4, 3) := by decide +kernel
theorem dL_line_546 : decode cL_line 546 = .ok (.iconst 0, 1) := by decide +kernel
theorem dL_line_547 : decode cL_line 547 = .ok (.istore 16, 2) := by decide +kernel
theorem dL_line_549 : decode cL_line 549 = .ok (.iconst 0, 1) := by decide +kernel
theorem dL_line_550 : decode cL_line 550 = .ok (.istore 17, 2) := by decide +kernel
theorem dL_line_552 : decode cL_line 552 = .ok (.iload 17, 2) := by decide +kernel
theorem dL_line_554 : decode cL_line 554 = .ok (.aload_n 0, 1) := by decide +kernel
theorem dL_line_555 : decode cL_line 555 = .ok (.invokevirtual 19, 3) := by decide +kernel
theorem dL_line_558 : decode cL_line 558 = .ok (.if_icmp .ge 139, 3) := by decide +kernel
theorem dL_line_561 : decode cL_line 561 = .ok (.aload_n 0, 1) := by decide +kernel
theorem dL_line_562 : decode cL_line 562 = .ok (.iload 17, 2) := by decide +kernel
theorem dL_line_564 : decode cL_line 564 = .ok (.iconst 0, 1) := by decide +kernel
theorem dL_line_565 : decode cL_line 565 = .ok (.invokevirtual 62, 3) := by decide +kernel
theorem dL_line_568 : decode cL_line 568 = .ok (.iload_n 2, 1) := by decide +kernel
theorem dL_line_569 : decode cL_line 569 = .ok (.if_icmp .lt 20, 3) := by decide +kernel
theorem dL_line_572 : decode cL_line 572 = .ok (.aload_n 0, 1) := by decide +kernel
theorem dL_line_573 : decode cL_line 573 = .ok (.iload 17, 2) := by decide +kernel
theorem dL_line_575 : decode cL_line 575 = .ok (.iconst 0, 1) := by decide +kernel
theorem dL_line_576 : decode cL_line 576 = .ok (.invokevirtual 62, 3) := by decide +kernel
theorem dL_line_579 : decode cL_line 579 = .ok (.iload_n 2, 1) := by decide +kernel
theorem dL_line_580 : decode cL_line 580 = .ok (.if_icmp .ne 13, 3) := by decide +kernel
theorem dL_line_583 : decode cL_line 583 = .ok (.iload 17, 2) := by decide +kernel
theorem dL_line_585 : decode cL_line 585 = .ok (.iload_n 1, 1) := by decide +kernel
theorem dL_line_586 : decode cL_line 586 = .ok (.if_icmp .ge 7, 3) := by decide +kernel
theorem dL_line_589 : decode cL_line 589 = .ok (.iconst 1, 1) := by decide +kernel
theorem dL_line_590 : decode cL_line 590 = .ok (.goto 4, 3) := by decide +kernel
theorem dL_line_593 : decode cL_line 593 = .ok (.iconst 0, 1) := by decide +kernel
theorem dL_line_594 : decode cL_line 594 = .ok (.istore 18, 2) := by decide +kernel
theorem dL_line_596 : decode cL_line 596 = .ok (.iload 18, 2) := by decide +kernel
theorem dL_line_598 : decode cL_line 598 = .ok (.ifCond .eq 93, 3) := by decide +kernel
theorem dL_line_601 : decode cL_line 601 = .ok (.aload_n 0, 1) := by decide +kernel
theorem dL_line_602 : decode cL_line 602 = .ok (.iload 17, 2) := by decide +kernel
theorem dL_line_604 : decode cL_line 604 = .ok (.iconst 1, 1) := by decide +kernel
theorem dL_line_605 : decode cL_line 605 = .ok (.invokevirtual 62, 3) := by decide +kernel
theorem dL_line_608 : decode cL_line 608 = .ok (.iload_n 2, 1) := by decide +kernel
theorem dL_line_609 : decode cL_line 609 = .ok (.if_icmp .le 82, 3) := by decide +kernel
theorem dL_line_612 : decode cL_line 612 = .ok (.aload_n 0, 1) := by decide +kernel
theorem dL_line_613 : decode cL_line 613 = .ok (.iload 17, 2) := by decide +kernel
theorem dL_line_615 : decode cL_line 615 = .ok (.bipush 10, 2) := by decide +kernel
theorem dL_line_617 : decode cL_line 617 = .ok (.invokevirtual 62, 3) := by decide +kernel
theorem dL_line_620 : decode cL_line 620 = .ok (.aload_n 0, 1) := by decide +kernel
theorem dL_line_621 : decode cL_line 621 = .ok (.iload_n 1, 1) := by decide +kernel
theorem dL_line_622 : decode cL_line 622 = .ok (.bipush 10, 2) := by decide +kernel
theorem dL_line_624 : decode cL_line 624 = .ok (.invokevirtual 62, 3) := by decide +kernel
theorem dL_line_627 : decode cL_line 627 = .ok (.if_icmp .ne 64, 3) := by decide +kernel
theorem dL_line_630 : decode cL_line 630 = .ok (.aload_n 0, 1) := by decide +kernel
theorem dL_line_631 : decode cL_line 631 = .ok (.iload 17, 2) := by decide +kernel
theorem dL_line_633 : decode cL_line 633 = .ok (.bipush 9, 2) := by decide +kernel
theorem dL_line_635 : decode cL_line 635 = .ok (.invokevirtual 62, 3) := by decide +kernel
theorem dL_line_638 : decode cL_line 638 = .ok (.istore 19, 2) := by decide +kernel
theorem dL_line_640 : decode cL_line 640 = .ok (.iload 19, 2) := by decide +kernel
theorem dL_line_642 : decode cL_line 642 = .ok (.aload_n 0, 1) := by decide +kernel
theorem dL_line_643 : decode cL_line 643 = .ok (.iload 17, 2) := by decide +kernel
theorem dL_line_645 : decode cL_line 645 = .ok (.bipush 8, 2) := by decide +kernel
theorem dL_line_647 : decode cL_line 647 = .ok (.invokevirtual 62, 3) := by decide +kernel
theorem dL_line_650 : decode cL_line 650 = .ok (.iadd, 1) := by decide +kernel
theorem dL_line_651 : decode cL_line 651 = .ok (.istore 20, 2) := by decide +kernel
theorem dL_line_653 : decode cL_line 653 = .ok (.iload 19, 2) := by decide +kernel
theorem dL_line_655 : decode cL_line 655 = .ok (.iload 15, 2) := by decide +kernel
theorem dL_line_657 : decode cL_line 657 = .ok (.iload 7, 2) := by decide +kernel
theorem dL_line_659 : decode cL_line 659 = .ok (.iadd, 1) := by decide +kernel
theorem dL_line_660 : decode cL_line 660 = .ok (.if_icmp .ge 12, 3) := by decide +kernel
theorem dL_line_663 : decode cL_line 663 = .ok (.iload 15, 2) := by decide +kernel
theorem dL_line_665 : decode cL_line 665 = .ok (.iload 20, 2) := by decide +kernel
theorem dL_line_667 : decode cL_line 667 = .ok (.if_icmp .ge 5, 3) := by decide +kernel
theorem dL_line_670 : decode cL_line 670 = .ok (.iconst 0, 1) := by decide +kernel
theorem dL_line_671 : decode cL_line 671 = .ok (.ireturn, 1) := by decide +kernel
theorem dL_line_672 : decode cL_line 672 = .ok (.iload 16, 2) := by decide +kernel
theorem dL_line_674 : decode cL_line 674 = .ok (.ifCond .ne 10, 3) := by decide +kernel
theorem dL_line_677 : decode cL_line 677 = .ok (.iload 20, 2) := by decide +kernel
theorem dL_line_679 : decode cL_line 679 = .ok (.iload 15, 2) := by decide +kernel
theorem dL_line_681 : decode cL_line 681 = .ok (.if_icmp .ne 7, 3) := by decide +kernel
theorem dL_line_684 : decode cL_line 684 = .ok (.iconst 1, 1) := by decide +kernel
theorem dL_line_685 : decode cL_line 685 = .ok (.goto 4, 3) := by decide +kernel
theorem dL_line_688 : decode cL_line 688 = .ok (.iconst 0, 1) := by decide +kernel
theorem dL_line_689 : decode cL_line 689 = .ok (.istore 16, 2) := by decide +kernel
theorem dL_line_691 : decode cL_line 691 = .ok (.iinc 17 1, 3) := by decide +kernel
theorem dL_line_694 : decode cL_line 694 = .ok (.goto (-142), 3) := by decide +kernel
theorem dL_line_697 : decode cL_line 697 = .ok (.iload 16, 2) := by decide +kernel
theorem dL_line_699 : decode cL_line 699 = .ok (.ireturn, 1) := by decide +kernel
theorem dL_shown_0 : decode cL_shown 0 = .ok (.iconst 0, 1) := by decide +kernel
theorem dL_shown_1 : decode cL_shown 1 = .ok (.istore_n 2, 1) := by decide +kernel
theorem dL_shown_2 : decode cL_shown 2 = .ok (.iconst 0, 1) := by decide +kernel
theorem dL_shown_3 : decode cL_shown 3 = .ok (.istore_n 3, 1) := by decide +kernel
theorem dL_shown_4 : decode cL_shown 4 = .ok (.iconst 0, 1) := by decide +kernel
theorem dL_shown_5 : decode cL_shown 5 = .ok (.istore 4, 2) := by decide +kernel
theorem dL_shown_7 : decode cL_shown 7 = .ok (.iconst 0, 1) := by decide +kernel
theorem dL_shown_8 : decode cL_shown 8 = .ok (.istore 5, 2) := by decide +kernel
theorem dL_shown_10 : decode cL_shown 10 = .ok (.iload 5, 2) := by decide +kernel
theorem dL_shown_12 : decode cL_shown 12 = .ok (.aload_n 0, 1) := by decide +kernel
theorem dL_shown_13 : decode cL_shown 13 = .ok (.invokevirtual 19, 3) := by decide +kernel
theorem dL_shown_16 : decode cL_shown 16 = .ok (.if_icmp .ge 119, 3) := by decide +kernel
theorem dL_shown_19 : decode cL_shown 19 = .ok (.aload_n 0, 1) := by decide +kernel
theorem dL_shown_20 : decode cL_shown 20 = .ok (.iload 5, 2) := by decide +kernel
theorem dL_shown_22 : decode cL_shown 22 = .ok (.iconst 0, 1) := by decide +kernel
theorem dL_shown_23 : decode cL_shown 23 = .ok (.invokevirtual 62, 3) := by decide +kernel
theorem dL_shown_26 : decode cL_shown 26 = .ok (.iload_n 1, 1) := by decide +kernel
theorem dL_shown_27 : decode cL_shown 27 = .ok (.if_icmp .gt 18, 3) := by decide +kernel
theorem dL_shown_30 : decode cL_shown 30 = .ok (.iload_n 1, 1) := by decide +kernel
theorem dL_shown_31 : decode cL_shown 31 = .ok (.aload_n 0, 1) := by decide +kernel
theorem dL_shown_32 : decode cL_shown 32 = .ok (.iload 5, 2) := by decide +kernel
theorem dL_shown_34 : decode cL_shown 34 = .ok (.iconst 1, 1) := by decide +kernel
theorem dL_shown_35 : decode cL_shown 35 = .ok (.invokevirtual 62, 3) := by decide +kernel
theorem dL_shown_38 : decode cL_shown 38 = .ok (.if_icmp .ge 7, 3) := by decide +kernel
theorem dL_shown_41 : decode cL_shown 41 = .ok (.iconst 1, 1) := by decide +kernel
theorem dL_shown_42 : decode cL_shown 42 = .ok (.goto 4, 3) := by decide +kernel
theorem dL_shown_45 : decode cL_shown 45 = .ok (.iconst 0, 1) := by decide +kernel
theorem dL_shown_46 : decode cL_shown 46 = .ok (.istore 6, 2) := by decide +kernel
theorem dL_shown_48 : decode cL_shown 48 = .ok (.iload_n 2, 1) := by decide +kernel
theorem dL_shown_49 : decode cL_shown 49 = .ok (.iload 6, 2) := by decide +kernel
theorem dL_shown_51 : decode cL_shown 51 = .ok (.ifCond .eq 7, 3) := by decide +kernel
theorem dL_shown_54 : decode cL_shown 54 = .ok (.iconst 1, 1) := by decide +kernel
theorem dL_shown_55 : decode cL_shown 55 = .ok (.goto 4, 3) := by decide +kernel
theorem dL_shown_58 : decode cL_shown 58 = .ok (.iconst 0, 1) := by decide +kernel
theorem dL_shown_59 : decode cL_shown 59 = .ok (.iadd, 1) := by decide +kernel
theorem dL_shown_60 : decode cL_shown 60 = .ok (.istore_n 2, 1) := by decide +kernel
theorem dL_shown_61 : decode cL_shown 61 = .ok (.iconst 0, 1) := by decide +kernel
theorem dL_shown_62 : decode cL_shown 62 = .ok (.istore 7, 2) := by decide +kernel
theorem dL_shown_64 : decode cL_shown 64 = .ok (.iload 7, 2) := by decide +kernel
theorem dL_shown_66 : decode cL_shown 66 = .ok (.aload_n 0, 1) := by decide +kernel
theorem dL_shown_67 : decode cL_shown 67 = .ok (.iload 5, 2) := by decide +kernel
theorem dL_shown_69 : decode cL_shown 69 = .ok (.iconst 4, 1) := by decide +kernel
theorem dL_shown_70 : decode cL_shown 70 = .ok (.invokevirtual 62, 3) := by decide +kernel
theorem dL_shown_73 : decode cL_shown 73 = .ok (.if_icmp .ge 56, 3) := by decide +kernel
theorem dL_shown_76 : decode cL_shown 76 = .ok (.iload 6, 2) := by decide +kernel
theorem dL_shown_78 : decode cL_shown 78 = .ok (.ifCond .eq 51, 3) := by decide +kernel
theorem dL_shown_81 : decode cL_shown 81 = .ok (.aload_n 0, 1) := by decide +kernel
theorem dL_shown_82 : decode cL_shown 82 = .ok (.iload 5, 2) := by decide +kernel
theorem dL_shown_84 : decode cL_shown 84 = .ok (.iload 7, 2) := by decide +kernel
theorem dL_shown_86 : decode cL_shown 86 = .ok (.iconst 5, 1) := by decide +kernel
theorem dL_shown_87 : decode cL_shown 87 = .ok (.invokevirtual 65, 3) := by decide +kernel
theorem dL_shown_90 : decode cL_shown 90 = .ok (.istore 8, 2) := by decide +kernel
theorem dL_shown_92 : decode cL_shown 92 = .ok (.iinc 3 1, 3) := by decide +kernel
theorem dL_shown_95 : decode cL_shown 95 = .ok (.iload 4, 2) := by decide +kernel
theorem dL_shown_97 : decode cL_shown 97 = .ok (.iload 8, 2) := by decide +kernel
theorem dL_shown_99 : decode cL_shown 99 = .ok (.ifCond .lt 20, 3) := by decide +kernel
theorem dL_shown_102 : decode cL_shown 102 = .ok (.aload_n 0, 1) := by decide +kernel
theorem dL_shown_103 : decode cL_shown 103 = .ok (.iload 5, 2) := by decide +kernel
theorem dL_shown_105 : decode cL_shown 105 = .ok (.iload 8, 2) := by decide +kernel
theorem dL_shown_107 : decode cL_shown 107 = .ok (.iconst 0, 1) := by decide +kernel
theorem dL_shown_108 : decode cL_shown 108 = .ok (.invokevirtual 68, 3) := by decide +kernel
theorem dL_shown_111 : decode cL_shown 111 = .ok (.iload_n 1, 1) := by decide +kernel
theorem dL_shown_112 : decode cL_shown 112 = .ok (.if_icmp .gt 7, 3) := by decide +kernel
theorem dL_shown_115 : decode cL_shown 115 = .ok (.iconst 1, 1) := by decide +kernel
theorem dL_shown_116 : decode cL_shown 116 = .ok (.goto 4, 3) := by decide +kernel
theorem dL_shown_119 : decode cL_shown 119 = .ok (.iconst 0, 1) := by decide +kernel
theorem dL_shown_120 : decode cL_shown 120 = .ok (.iadd, 1) := by decide +kernel
theorem dL_shown_121 : decode cL_shown 121 = .ok (.istore 4, 2) := by decide +kernel
theorem dL_shown_123 : decode cL_shown 123 = .ok (.iinc 7 1, 3) := by decide +kernel
theorem dL_shown_126 : decode cL_shown 126 = .ok (.goto (-62), 3) := by decide +kernel
theorem dL_shown_129 : decode cL_shown 129 = .ok (.iinc 5 1, 3) := by decide +kernel
theorem dL_shown_132 : decode cL_shown 132 = .ok (.goto (-122), 3) := by decide +kernel
theorem dL_shown_135 : decode cL_shown 135 = .ok (.iconst (-1), 1) := by decide +kernel
theorem dL_shown_136 : decode cL_shown 136 = .ok (.istore 5, 2) := by decide +kernel
theorem dL_shown_138 : decode cL_shown 138 = .ok (.iconst 0, 1) := by decide +kernel
theorem dL_shown_139 : decode cL_shown 139 = .ok (.istore 6, 2) := by decide +kernel
theorem dL_shown_141 : decode cL_shown 141 = .ok (.iload 6, 2) := by decide +kernel
theorem dL_shown_143 : decode cL_shown 143 = .ok (.iload_n 2, 1) := by decide +kernel
theorem dL_shown_144 : decode cL_shown 144 = .ok (.if_icmp .ge 89, 3) := by decide +kernel
theorem dL_shown_147 : decode cL_shown 147 = .ok (.aload_n 0, 1) := by decide +kernel
theorem dL_shown_148 : decode cL_shown 148 = .ok (.iload_n 1, 1) := by decide +kernel
theorem dL_shown_149 : decode cL_shown 149 = .ok (.iload 6, 2) := by decide +kernel
theorem dL_shown_151 : decode cL_shown 151 = .ok (.invokevirtual 77, 3) := by decide +kernel
theorem dL_shown_154 : decode cL_shown 154 = .ok (.istore 7, 2) := by decide +kernel
theorem dL_shown_156 : decode cL_shown 156 = .ok (.iload 7, 2) := by decide +kernel
theorem dL_shown_158 : decode cL_shown 158 = .ok (.ifCond .ge 5, 3) := by decide +kernel
theorem dL_shown_161 : decode cL_shown 161 = .ok (.iconst 0, 1) := by decide +kernel
theorem dL_shown_162 : decode cL_shown 162 = .ok (.ireturn, 1) := by decide +kernel
theorem dL_shown_163 : decode cL_shown 163 = .ok (.aload_n 0, 1) := by decide +kernel
theorem dL_shown_164 : decode cL_shown 164 = .ok (.iload 7, 2) := by decide +kernel
theorem dL_shown_166 : decode cL_shown 166 = .ok (.bipush 10, 2) := by decide +kernel
theorem dL_shown_168 : decode cL_shown 168 = .ok (.invokevirtual 62, 3) := by decide +kernel
theorem dL_shown_171 : decode cL_shown 171 = .ok (.sipush 4000, 3) := by decide +kernel
theorem dL_shown_174 : decode cL_shown 174 = .ok (.imul, 1) := by decide +kernel
theorem dL_shown_175 : decode cL_shown 175 = .ok (.aload_n 0, 1) := by decide +kernel
theorem dL_shown_176 : decode cL_shown 176 = .ok (.iload 7, 2) := by decide +kernel
theorem dL_shown_178 : decode cL_shown 178 = .ok (.bipush 9, 2) := by decide +kernel
theorem dL_shown_180 : decode cL_shown 180 = .ok (.invokevirtual 62, 3) := by decide +kernel
theorem dL_shown_183 : decode cL_shown 183 = .ok (.iadd, 1) := by decide +kernel
theorem dL_shown_184 : decode cL_shown 184 = .ok (.bipush 16, 2) := by decide +kernel
theorem dL_shown_186 : decode cL_shown 186 = .ok (.imul, 1) := by decide +kernel
theorem dL_shown_187 : decode cL_shown 187 = .ok (.iload 7, 2) := by decide +kernel
theorem dL_shown_189 : decode cL_shown 189 = .ok (.iadd, 1) := by decide +kernel
theorem dL_shown_190 : decode cL_shown 190 = .ok (.istore 8, 2) := by decide +kernel
theorem dL_shown_192 : decode cL_shown 192 = .ok (.iload 8, 2) := by decide +kernel
theorem dL_shown_194 : decode cL_shown 194 = .ok (.iload 5, 2) := by decide +kernel
theorem dL_shown_196 : decode cL_shown 196 = .ok (.if_icmp .le 25, 3) := by decide +kernel
theorem dL_shown_199 : decode cL_shown 199 = .ok (.iload_n 1, 1) := by decide +kernel
theorem dL_shown_200 : decode cL_shown 200 = .ok (.aload_n 0, 1) := by decide +kernel
theorem dL_shown_201 : decode cL_shown 201 = .ok (.iload 7, 2) := by decide +kernel
theorem dL_shown_203 : decode cL_shown 203 = .ok (.iconst 0, 1) := by decide +kernel
theorem dL_shown_204 : decode cL_shown 204 = .ok (.invokevirtual 62, 3) := by decide +kernel
theorem dL_shown_207 : decode cL_shown 207 = .ok (.if_icmp .lt 14, 3) := by decide +kernel
theorem dL_shown_210 : decode cL_shown 210 = .ok (.iload_n 1, 1) := by decide +kernel
theorem dL_shown_211 : decode cL_shown 211 = .ok (.aload_n 0, 1) := by decide +kernel
theorem dL_shown_212 : decode cL_shown 212 = .ok (.iload 7, 2) := by decide +kernel
theorem dL_shown_214 : decode cL_shown 214 = .ok (.iconst 1, 1) := by decide +kernel
theorem dL_shown_215 : decode cL_shown 215 = .ok (.invokevirtual 62, 3) := by decide +kernel
theorem dL_shown_218 : decode cL_shown 218 = .ok (.if_icmp .lt 5, 3) := by decide +kernel
theorem dL_shown_221 : decode cL_shown 221 = .ok (.iconst 0, 1) := by decide +kernel
theorem dL_shown_222 : decode cL_shown 222 = .ok (.ireturn, 1) := by decide +kernel
theorem dL_shown_223 : decode cL_shown 223 = .ok (.iload 8, 2) := by decide +kernel
theorem dL_shown_225 : decode cL_shown 225 = .ok (.istore 5, 2) := by decide +kernel
theorem dL_shown_227 : decode cL_shown 227 = .ok (.iinc 6 1, 3) := by decide +kernel
theorem dL_shown_230 : decode cL_shown 230 = .ok (.goto (-89), 3) := by decide +kernel
theorem dL_shown_233 : decode cL_shown 233 = .ok (.iload_n 3, 1) := by decide +kernel
theorem dL_shown_234 : decode cL_shown 234 = .ok (.ifCond .ne 7, 3) := by decide +kernel
theorem dL_shown_237 : decode cL_shown 237 = .ok (.fconst 0, 1) := by decide +kernel
theorem dL_shown_238 : decode cL_shown 238 = .ok (.goto 9, 3) := by decide +kernel
theorem dL_shown_241 : decode cL_shown 241 = .ok (.iload 4, 2) := by decide +kernel
theorem dL_shown_243 : decode cL_shown 243 = .ok (.i2f, 1) := by decide +kernel
theorem dL_shown_244 : decode cL_shown 244 = .ok (.iload_n 3, 1) := by decide +kernel
theorem dL_shown_245 : decode cL_shown 245 = .ok (.i2f, 1) := by decide +kernel
theorem dL_shown_246 : decode cL_shown 246 = .ok (.fdiv, 1) := by decide +kernel
theorem dL_shown_247 : decode cL_shown 247 = .ok (.fstore 6, 2) := by decide +kernel
theorem dL_shown_249 : decode cL_shown 249 = .ok (.aload_n 0, 1) := by decide +kernel
theorem dL_shown_250 : decode cL_shown 250 = .ok (.iload_n 1, 1) := by decide +kernel
theorem dL_shown_251 : decode cL_shown 251 = .ok (.iload_n 2, 1) := by decide +kernel
theorem dL_shown_252 : decode cL_shown 252 = .ok (.invokevirtual 77, 3) := by decide +kernel
theorem dL_shown_255 : decode cL_shown 255 = .ok (.bipush (-9), 2) := by decide +kernel
theorem dL_shown_257 : decode cL_shown 257 = .ok (.if_icmp .ne 18, 3) := by decide +kernel
theorem dL_shown_260 : decode cL_shown 260 = .ok (.aload_n 0, 1) := by decide +kernel
theorem dL_shown_261 : decode cL_shown 261 = .ok (.iload_n 1, 1) := by decide +kernel
theorem dL_shown_262 : decode cL_shown 262 = .ok (.invokevirtual 92, 3) := by decide +kernel
theorem dL_shown_265 : decode cL_shown 265 = .ok (.fload 6, 2) := by decide +kernel
theorem dL_shown_267 : decode cL_shown 267 = .ok (.fcmp .l, 1) := by decide +kernel
theorem dL_shown_268 : decode cL_shown 268 = .ok (.ifCond .ne 7, 3) := by decide +kernel
theorem dL_shown_271 : decode cL_shown 271 = .ok (.iconst 1, 1) := by decide +kernel
theorem dL_shown_272 : decode cL_shown 272 = .ok (.goto 4, 3) := by decide +kernel
theorem dL_shown_275 : decode cL_shown 275 = .ok (.iconst 0, 1) := by decide +kernel
theorem dL_shown_276 : decode cL_shown 276 = .ok (.ireturn, 1) := by decide +kernel
theorem dL_flattens_0 : decode cL_flattens 0 = .ok (.aload_n 0, 1) := by decide +kernel
theorem dL_flattens_1 : decode cL_flattens 1 = .ok (.invokevirtual 9, 3) := by decide +kernel
theorem dL_flattens_4 : decode cL_flattens 4 = .ok (.lstore_n 1, 1) := by decide +kernel
theorem dL_flattens_5 : decode cL_flattens 5 = .ok (.iconst 0, 1) := by decide +kernel
theorem dL_flattens_6 : decode cL_flattens 6 = .ok (.istore_n 3, 1) := by decide +kernel
theorem dL_flattens_7 : decode cL_flattens 7 = .ok (.bipush 60, 2) := by decide +kernel
theorem dL_flattens_9 : decode cL_flattens 9 = .ok (.newarray .int, 2) := by decide +kernel
theorem dL_flattens_11 : decode cL_flattens 11 = .ok (.astore 4, 2) := by decide +kernel
theorem dL_flattens_13 : decode cL_flattens 13 = .ok (.iconst 0, 1) := by decide +kernel
theorem dL_flattens_14 : decode cL_flattens 14 = .ok (.istore 5, 2) := by decide +kernel
theorem dL_flattens_16 : decode cL_flattens 16 = .ok (.iload 5, 2) := by decide +kernel
theorem dL_flattens_18 : decode cL_flattens 18 = .ok (.bipush 6, 2) := by decide +kernel
theorem dL_flattens_20 : decode cL_flattens 20 = .ok (.aload_n 0, 1) := by decide +kernel
theorem dL_flattens_21 : decode cL_flattens 21 = .ok (.invokevirtual 15, 3) := by decide +kernel
theorem dL_flattens_24 : decode cL_flattens 24 = .ok (.imul, 1) := by decide +kernel
theorem dL_flattens_25 : decode cL_flattens 25 = .ok (.if_icmp .ge 53, 3) := by decide +kernel
theorem dL_flattens_28 : decode cL_flattens 28 = .ok (.iload_n 3, 1) := by decide +kernel
theorem dL_flattens_29 : decode cL_flattens 29 = .ok (.aload_n 0, 1) := by decide +kernel
theorem dL_flattens_30 : decode cL_flattens 30 = .ok (.iload 5, 2) := by decide +kernel
theorem dL_flattens_32 : decode cL_flattens 32 = .ok (.bipush 6, 2) := by decide +kernel
theorem dL_flattens_34 : decode cL_flattens 34 = .ok (.idiv, 1) := by decide +kernel
theorem dL_flattens_35 : decode cL_flattens 35 = .ok (.iload 5, 2) := by decide +kernel
theorem dL_flattens_37 : decode cL_flattens 37 = .ok (.bipush 6, 2) := by decide +kernel
theorem dL_flattens_39 : decode cL_flattens 39 = .ok (.irem, 1) := by decide +kernel
theorem dL_flattens_40 : decode cL_flattens 40 = .ok (.invokevirtual 34, 3) := by decide +kernel
theorem dL_flattens_43 : decode cL_flattens 43 = .ok (.ifCond .ge 7, 3) := by decide +kernel
theorem dL_flattens_46 : decode cL_flattens 46 = .ok (.iconst 1, 1) := by decide +kernel
theorem dL_flattens_47 : decode cL_flattens 47 = .ok (.goto 4, 3) := by decide +kernel
theorem dL_flattens_50 : decode cL_flattens 50 = .ok (.iconst 0, 1) := by decide +kernel
theorem dL_flattens_51 : decode cL_flattens 51 = .ok (.iadd, 1) := by decide +kernel
theorem dL_flattens_52 : decode cL_flattens 52 = .ok (.istore_n 3, 1) := by decide +kernel
theorem dL_flattens_53 : decode cL_flattens 53 = .ok (.aload 4, 2) := by decide +kernel
theorem dL_flattens_55 : decode cL_flattens 55 = .ok (.iload 5, 2) := by decide +kernel
theorem dL_flattens_57 : decode cL_flattens 57 = .ok (.aload_n 0, 1) := by decide +kernel
theorem dL_flattens_58 : decode cL_flattens 58 = .ok (.iload 5, 2) := by decide +kernel
theorem dL_flattens_60 : decode cL_flattens 60 = .ok (.bipush 6, 2) := by decide +kernel
theorem dL_flattens_62 : decode cL_flattens 62 = .ok (.idiv, 1) := by decide +kernel
theorem dL_flattens_63 : decode cL_flattens 63 = .ok (.iload 5, 2) := by decide +kernel
theorem dL_flattens_65 : decode cL_flattens 65 = .ok (.bipush 6, 2) := by decide +kernel
theorem dL_flattens_67 : decode cL_flattens 67 = .ok (.irem, 1) := by decide +kernel
theorem dL_flattens_68 : decode cL_flattens 68 = .ok (.invokevirtual 37, 3) := by decide +kernel
theorem dL_flattens_71 : decode cL_flattens 71 = .ok (.iastore, 1) := by decide +kernel
theorem dL_flattens_72 : decode cL_flattens 72 = .ok (.iinc 5 1, 3) := by decide +kernel
theorem dL_flattens_75 : decode cL_flattens 75 = .ok (.goto (-59), 3) := by decide +kernel
theorem dL_flattens_78 : decode cL_flattens 78 = .ok (.aload_n 0, 1) := by decide +kernel
theorem dL_flattens_79 : decode cL_flattens 79 = .ok (.invokevirtual 96, 3) := by decide +kernel
theorem dL_flattens_82 : decode cL_flattens 82 = .ok (.istore 5, 2) := by decide +kernel
theorem dL_flattens_84 : decode cL_flattens 84 = .ok (.aload_n 0, 1) := by decide +kernel
theorem dL_flattens_85 : decode cL_flattens 85 = .ok (.invokevirtual 99, 3) := by decide +kernel
theorem dL_flattens_88 : decode cL_flattens 88 = .ok (.iload_n 3, 1) := by decide +kernel
theorem dL_flattens_89 : decode cL_flattens 89 = .ok (.if_icmp .ne 15, 3) := by decide +kernel
theorem dL_flattens_92 : decode cL_flattens 92 = .ok (.iload 5, 2) := by decide +kernel
theorem dL_flattens_94 : decode cL_flattens 94 = .ok (.ifCond .ne 10, 3) := by decide +kernel
theorem dL_flattens_97 : decode cL_flattens 97 = .ok (.aload_n 0, 1) := by decide +kernel
theorem dL_flattens_98 : decode cL_flattens 98 = .ok (.invokevirtual 99, 3) := by decide +kernel
theorem dL_flattens_101 : decode cL_flattens 101 = .ok (.ifCond .eq 5, 3) := by decide +kernel
theorem dL_flattens_104 : decode cL_flattens 104 = .ok (.iconst 0, 1) := by decide +kernel
theorem dL_flattens_105 : decode cL_flattens 105 = .ok (.ireturn, 1) := by decide +kernel
theorem dL_flattens_106 : decode cL_flattens 106 = .ok (.iconst 0, 1) := by decide +kernel
theorem dL_flattens_107 : decode cL_flattens 107 = .ok (.istore 6, 2) := by decide +kernel
theorem dL_flattens_109 : decode cL_flattens 109 = .ok (.iload 6, 2) := by decide +kernel
theorem dL_flattens_111 : decode cL_flattens 111 = .ok (.bipush 6, 2) := by decide +kernel
theorem dL_flattens_113 : decode cL_flattens 113 = .ok (.aload_n 0, 1) := by decide +kernel
theorem dL_flattens_114 : decode cL_flattens 114 = .ok (.invokevirtual 15, 3) := by decide +kernel
theorem dL_flattens_117 : decode cL_flattens 117 = .ok (.imul, 1) := by decide +kernel
theorem dL_flattens_118 : decode cL_flattens 118 = .ok (.if_icmp .ge 70, 3) := by decide +kernel
theorem dL_flattens_121 : decode cL_flattens 121 = .ok (.aload_n 0, 1) := by decide +kernel
theorem dL_flattens_122 : decode cL_flattens 122 = .ok (.iload 6, 2) := by decide +kernel
theorem dL_flattens_124 : decode cL_flattens 124 = .ok (.bipush 6, 2) := by decide +kernel
theorem dL_flattens_126 : decode cL_flattens 126 = .ok (.idiv, 1) := by decide +kernel
theorem dL_flattens_127 : decode cL_flattens 127 = .ok (.iload 6, 2) := by decide +kernel
theorem dL_flattens_129 : decode cL_flattens 129 = .ok (.bipush 6, 2) := by decide +kernel
theorem dL_flattens_131 : decode cL_flattens 131 = .ok (.irem, 1) := by decide +kernel
theorem dL_flattens_132 : decode cL_flattens 132 = .ok (.invokevirtual 34, 3) := by decide +kernel
theorem dL_flattens_135 : decode cL_flattens 135 = .ok (.aload 4, 2) := by decide +kernel
theorem dL_flattens_137 : decode cL_flattens 137 = .ok (.iload 6, 2) := by decide +kernel
theorem dL_flattens_139 : decode cL_flattens 139 = .ok (.iaload, 1) := by decide +kernel
theorem dL_flattens_140 : decode cL_flattens 140 = .ok (.if_icmp .ne 40, 3) := by decide +kernel
theorem dL_flattens_143 : decode cL_flattens 143 = .ok (.aload_n 0, 1) := by decide +kernel
theorem dL_flattens_144 : decode cL_flattens 144 = .ok (.iload 6, 2) := by decide +kernel
theorem dL_flattens_146 : decode cL_flattens 146 = .ok (.bipush 6, 2) := by decide +kernel
theorem dL_flattens_148 : decode cL_flattens 148 = .ok (.idiv, 1) := by decide +kernel
theorem dL_flattens_149 : decode cL_flattens 149 = .ok (.bipush 6, 2) := by decide +kernel
theorem dL_flattens_151 : decode cL_flattens 151 = .ok (.invokevirtual 34, 3) := by decide +kernel
theorem dL_flattens_154 : decode cL_flattens 154 = .ok (.iconst (-1), 1) := by decide +kernel
theorem dL_flattens_155 : decode cL_flattens 155 = .ok (.if_icmp .ne 25, 3) := by decide +kernel
theorem dL_flattens_158 : decode cL_flattens 158 = .ok (.aload_n 0, 1) := by decide +kernel
theorem dL_flattens_159 : decode cL_flattens 159 = .ok (.iload 6, 2) := by decide +kernel
theorem dL_flattens_161 : decode cL_flattens 161 = .ok (.bipush 6, 2) := by decide +kernel
theorem dL_flattens_163 : decode cL_flattens 163 = .ok (.idiv, 1) := by decide +kernel
theorem dL_flattens_164 : decode cL_flattens 164 = .ok (.iload 6, 2) := by decide +kernel
theorem dL_flattens_166 : decode cL_flattens 166 = .ok (.bipush 6, 2) := by decide +kernel
theorem dL_flattens_168 : decode cL_flattens 168 = .ok (.irem, 1) := by decide +kernel
theorem dL_flattens_169 : decode cL_flattens 169 = .ok (.invokevirtual 40, 3) := by decide +kernel
theorem dL_flattens_172 : decode cL_flattens 172 = .ok (.iload 6, 2) := by decide +kernel
theorem dL_flattens_174 : decode cL_flattens 174 = .ok (.bipush 6, 2) := by decide +kernel
theorem dL_flattens_176 : decode cL_flattens 176 = .ok (.idiv, 1) := by decide +kernel
theorem dL_flattens_177 : decode cL_flattens 177 = .ok (.if_icmp .eq 5, 3) := by decide +kernel
theorem dL_flattens_180 : decode cL_flattens 180 = .ok (.iconst 0, 1) := by decide +kernel
theorem dL_flattens_181 : decode cL_flattens 181 = .ok (.ireturn, 1) := by decide +kernel
theorem dL_flattens_182 : decode cL_flattens 182 = .ok (.iinc 6 1, 3) := by decide +kernel
theorem dL_flattens_185 : decode cL_flattens 185 = .ok (.goto (-76), 3) := by decide +kernel
theorem dL_flattens_188 : decode cL_flattens 188 = .ok (.aload_n 0, 1) := by decide +kernel
theorem dL_flattens_189 : decode cL_flattens 189 = .ok (.invokevirtual 102, 3) := by decide +kernel
theorem dL_flattens_192 : decode cL_flattens 192 = .ok (.ifCond .lt 23, 3) := by decide +kernel
theorem dL_flattens_195 : decode cL_flattens 195 = .ok (.aload_n 0, 1) := by decide +kernel
theorem dL_flattens_196 : decode cL_flattens 196 = .ok (.invokevirtual 102, 3) := by decide +kernel
theorem dL_flattens_199 : decode cL_flattens 199 = .ok (.ifCond .lt 16, 3) := by decide +kernel
theorem dL_flattens_202 : decode cL_flattens 202 = .ok (.aload_n 0, 1) := by decide +kernel
theorem dL_flattens_203 : decode cL_flattens 203 = .ok (.invokevirtual 9, 3) := by decide +kernel
theorem dL_flattens_206 : decode cL_flattens 206 = .ok (.lload_n 1, 1) := by decide +kernel
theorem dL_flattens_207 : decode cL_flattens 207 = .ok (.lcmp, 1) := by decide +kernel
theorem dL_flattens_208 : decode cL_flattens 208 = .ok (.ifCond .ne 7, 3) := by decide +kernel
theorem dL_flattens_211 : decode cL_flattens 211 = .ok (.iconst 1, 1) := by decide +kernel
theorem dL_flattens_212 : decode cL_flattens 212 = .ok (.goto 4, 3) := by decide +kernel
theorem dL_flattens_215 : decode cL_flattens 215 = .ok (.iconst 0, 1) := by decide +kernel
theorem dL_flattens_216 : decode cL_flattens 216 = .ok (.ireturn, 1) := by decide +kernel
theorem dL_types_0 : decode cL_types 0 = .ok (.iconst 0, 1) := by decide +kernel
theorem dL_types_1 : decode cL_types 1 = .ok (.istore_n 3, 1) := by decide +kernel
theorem dL_types_2 : decode cL_types 2 = .ok (.iload_n 1, 1) := by decide +kernel
theorem dL_types_3 : decode cL_types 3 = .ok (.bipush 7, 2) := by decide +kernel
theorem dL_types_5 : decode cL_types 5 = .ok (.invokestatic 105, 3) := by decide +kernel
theorem dL_types_8 : decode cL_types 8 = .ok (.istore 4, 2) := by decide +kernel
theorem dL_types_10 : decode cL_types 10 = .ok (.iconst 0, 1) := by decide +kernel
theorem dL_types_11 : decode cL_types 11 = .ok (.istore 5, 2) := by decide +kernel
theorem dL_types_13 : decode cL_types 13 = .ok (.iload 5, 2) := by decide +kernel
theorem dL_types_15 : decode cL_types 15 = .ok (.iload 4, 2) := by decide +kernel
theorem dL_types_17 : decode cL_types 17 = .ok (.if_icmp .ge 286, 3) := by decide +kernel
theorem dL_types_20 : decode cL_types 20 = .ok (.iload_n 2, 1) := by decide +kernel
theorem dL_types_21 : decode cL_types 21 = .ok (.iconst 4, 1) := by decide +kernel
theorem dL_types_22 : decode cL_types 22 = .ok (.iload 5, 2) := by decide +kernel
theorem dL_types_24 : decode cL_types 24 = .ok (.imul, 1) := by decide +kernel
theorem dL_types_25 : decode cL_types 25 = .ok (.ishr, 1) := by decide +kernel
theorem dL_types_26 : decode cL_types 26 = .ok (.istore 6, 2) := by decide +kernel
theorem dL_types_28 : decode cL_types 28 = .ok (.iload 6, 2) := by decide +kernel
theorem dL_types_30 : decode cL_types 30 = .ok (.bipush 9, 2) := by decide +kernel
theorem dL_types_32 : decode cL_types 32 = .ok (.invokestatic 105, 3) := by decide +kernel
theorem dL_types_35 : decode cL_types 35 = .ok (.istore 7, 2) := by decide +kernel
theorem dL_types_37 : decode cL_types 37 = .ok (.iload 6, 2) := by decide +kernel
theorem dL_types_39 : decode cL_types 39 = .ok (.iconst 3, 1) := by decide +kernel
theorem dL_types_40 : decode cL_types 40 = .ok (.ishr, 1) := by decide +kernel
theorem dL_types_41 : decode cL_types 41 = .ok (.bipush 10, 2) := by decide +kernel
theorem dL_types_43 : decode cL_types 43 = .ok (.invokestatic 105, 3) := by decide +kernel
theorem dL_types_46 : decode cL_types 46 = .ok (.istore 8, 2) := by decide +kernel
theorem dL_types_48 : decode cL_types 48 = .ok (.iload 7, 2) := by decide +kernel
theorem dL_types_50 : decode cL_types 50 = .ok (.iconst 3, 1) := by decide +kernel
theorem dL_types_51 : decode cL_types 51 = .ok (.if_icmp .ge 16, 3) := by decide +kernel
theorem dL_types_54 : decode cL_types 54 = .ok (.aload_n 0, 1) := by decide +kernel
theorem dL_types_55 : decode cL_types 55 = .ok (.bipush 65, 2) := by decide +kernel
theorem dL_types_57 : decode cL_types 57 = .ok (.iload 8, 2) := by decide +kernel
theorem dL_types_59 : decode cL_types 59 = .ok (.iadd, 1) := by decide +kernel
theorem dL_types_60 : decode cL_types 60 = .ok (.invokevirtual 43, 3) := by decide +kernel
theorem dL_types_63 : decode cL_types 63 = .ok (.istore_n 3, 1) := by decide +kernel
theorem dL_types_64 : decode cL_types 64 = .ok (.goto 233, 3) := by decide +kernel
theorem dL_types_67 : decode cL_types 67 = .ok (.iload 7, 2) := by decide +kernel
theorem dL_types_69 : decode cL_types 69 = .ok (.bipush 6, 2) := by decide +kernel
theorem dL_types_71 : decode cL_types 71 = .ok (.if_icmp .ge 54, 3) := by decide +kernel
theorem dL_types_74 : decode cL_types 74 = .ok (.aload_n 0, 1) := by decide +kernel
theorem dL_types_75 : decode cL_types 75 = .ok (.bipush 123, 2) := by decide +kernel
theorem dL_types_77 : decode cL_types 77 = .ok (.invokevirtual 43, 3) := by decide +kernel
theorem dL_types_80 : decode cL_types 80 = .ok (.aload_n 0, 1) := by decide +kernel
theorem dL_types_81 : decode cL_types 81 = .ok (.bipush 107, 2) := by decide +kernel
theorem dL_types_83 : decode cL_types 83 = .ok (.invokevirtual 43, 3) := by decide +kernel
theorem dL_types_86 : decode cL_types 86 = .ok (.iadd, 1) := by decide +kernel
theorem dL_types_87 : decode cL_types 87 = .ok (.aload_n 0, 1) := by decide +kernel
theorem dL_types_88 : decode cL_types 88 = .ok (.bipush 48, 2) := by decide +kernel
theorem dL_types_90 : decode cL_types 90 = .ok (.iload 8, 2) := by decide +kernel
theorem dL_types_92 : decode cL_types 92 = .ok (.iadd, 1) := by decide +kernel
theorem dL_types_93 : decode cL_types 93 = .ok (.invokevirtual 43, 3) := by decide +kernel
theorem dL_types_96 : decode cL_types 96 = .ok (.iadd, 1) := by decide +kernel
theorem dL_types_97 : decode cL_types 97 = .ok (.aload_n 0, 1) := by decide +kernel
theorem dL_types_98 : decode cL_types 98 = .ok (.bipush 48, 2) := by decide +kernel
theorem dL_types_100 : decode cL_types 100 = .ok (.invokevirtual 43, 3) := by decide +kernel
theorem dL_types_103 : decode cL_types 103 = .ok (.iadd, 1) := by decide +kernel
theorem dL_types_104 : decode cL_types 104 = .ok (.aload_n 0, 1) := by decide +kernel
theorem dL_types_105 : decode cL_types 105 = .ok (.bipush 125, 2) := by decide +kernel
theorem dL_types_107 : decode cL_types 107 = .ok (.invokevirtual 43, 3) := by decide +kernel
theorem dL_types_110 : decode cL_types 110 = .ok (.iadd, 1) := by decide +kernel
theorem dL_types_111 : decode cL_types 111 = .ok (.aload_n 0, 1) := by decide +kernel
theorem dL_types_112 : decode cL_types 112 = .ok (.bipush 97, 2) := by decide +kernel
theorem dL_types_114 : decode cL_types 114 = .ok (.iload 8, 2) := by decide +kernel
theorem dL_types_116 : decode cL_types 116 = .ok (.iadd, 1) := by decide +kernel
theorem dL_types_117 : decode cL_types 117 = .ok (.invokevirtual 43, 3) := by decide +kernel
theorem dL_types_120 : decode cL_types 120 = .ok (.iadd, 1) := by decide +kernel
theorem dL_types_121 : decode cL_types 121 = .ok (.istore_n 3, 1) := by decide +kernel
theorem dL_types_122 : decode cL_types 122 = .ok (.goto 175, 3) := by decide +kernel
theorem dL_types_125 : decode cL_types 125 = .ok (.iload 7, 2) := by decide +kernel
theorem dL_types_127 : decode cL_types 127 = .ok (.bipush 6, 2) := by decide +kernel
theorem dL_types_129 : decode cL_types 129 = .ok (.if_icmp .ne 57, 3) := by decide +kernel
theorem dL_types_132 : decode cL_types 132 = .ok (.aload_n 0, 1) := by decide +kernel
theorem dL_types_133 : decode cL_types 133 = .ok (.bipush 123, 2) := by decide +kernel
theorem dL_types_135 : decode cL_types 135 = .ok (.invokevirtual 43, 3) := by decide +kernel
theorem dL_types_138 : decode cL_types 138 = .ok (.aload_n 0, 1) := by decide +kernel
theorem dL_types_139 : decode cL_types 139 = .ok (.bipush 115, 2) := by decide +kernel
theorem dL_types_141 : decode cL_types 141 = .ok (.invokevirtual 43, 3) := by decide +kernel
theorem dL_types_144 : decode cL_types 144 = .ok (.iadd, 1) := by decide +kernel
theorem dL_types_145 : decode cL_types 145 = .ok (.aload_n 0, 1) := by decide +kernel
theorem dL_types_146 : decode cL_types 146 = .ok (.bipush 49, 2) := by decide +kernel
theorem dL_types_148 : decode cL_types 148 = .ok (.iload 8, 2) := by decide +kernel
theorem dL_types_150 : decode cL_types 150 = .ok (.bipush 9, 2) := by decide +kernel
theorem dL_types_152 : decode cL_types 152 = .ok (.irem, 1) := by decide +kernel
theorem dL_types_153 : decode cL_types 153 = .ok (.iadd, 1) := by decide +kernel
theorem dL_types_154 : decode cL_types 154 = .ok (.invokevirtual 43, 3) := by decide +kernel
theorem dL_types_157 : decode cL_types 157 = .ok (.iadd, 1) := by decide +kernel
theorem dL_types_158 : decode cL_types 158 = .ok (.aload_n 0, 1) := by decide +kernel
theorem dL_types_159 : decode cL_types 159 = .ok (.bipush 48, 2) := by decide +kernel
theorem dL_types_161 : decode cL_types 161 = .ok (.iload 8, 2) := by decide +kernel
theorem dL_types_163 : decode cL_types 163 = .ok (.iadd, 1) := by decide +kernel
theorem dL_types_164 : decode cL_types 164 = .ok (.invokevirtual 43, 3) := by decide +kernel
theorem dL_types_167 : decode cL_types 167 = .ok (.iadd, 1) := by decide +kernel
theorem dL_types_168 : decode cL_types 168 = .ok (.aload_n 0, 1) := by decide +kernel
theorem dL_types_169 : decode cL_types 169 = .ok (.bipush 125, 2) := by decide +kernel
theorem dL_types_171 : decode cL_types 171 = .ok (.invokevirtual 43, 3) := by decide +kernel
theorem dL_types_174 : decode cL_types 174 = .ok (.iadd, 1) := by decide +kernel
theorem dL_types_175 : decode cL_types 175 = .ok (.aload_n 0, 1) := by decide +kernel
theorem dL_types_176 : decode cL_types 176 = .ok (.bipush 125, 2) := by decide +kernel
theorem dL_types_178 : decode cL_types 178 = .ok (.invokevirtual 43, 3) := by decide +kernel
theorem dL_types_181 : decode cL_types 181 = .ok (.iadd, 1) := by decide +kernel
theorem dL_types_182 : decode cL_types 182 = .ok (.istore_n 3, 1) := by decide +kernel
theorem dL_types_183 : decode cL_types 183 = .ok (.goto 114, 3) := by decide +kernel
theorem dL_types_186 : decode cL_types 186 = .ok (.iload 7, 2) := by decide +kernel
theorem dL_types_188 : decode cL_types 188 = .ok (.bipush 7, 2) := by decide +kernel
theorem dL_types_190 : decode cL_types 190 = .ok (.if_icmp .ne 59, 3) := by decide +kernel
theorem dL_types_193 : decode cL_types 193 = .ok (.aload_n 0, 1) := by decide +kernel
theorem dL_types_194 : decode cL_types 194 = .ok (.bipush 123, 2) := by decide +kernel
theorem dL_types_196 : decode cL_types 196 = .ok (.invokevirtual 43, 3) := by decide +kernel
theorem dL_types_199 : decode cL_types 199 = .ok (.aload_n 0, 1) := by decide +kernel
theorem dL_types_200 : decode cL_types 200 = .ok (.iload 8, 2) := by decide +kernel
theorem dL_types_202 : decode cL_types 202 = .ok (.iconst 2, 1) := by decide +kernel
theorem dL_types_203 : decode cL_types 203 = .ok (.irem, 1) := by decide +kernel
theorem dL_types_204 : decode cL_types 204 = .ok (.ifCond .ne 8, 3) := by decide +kernel
theorem dL_types_207 : decode cL_types 207 = .ok (.bipush 99, 2) := by decide +kernel
theorem dL_types_209 : decode cL_types 209 = .ok (.goto 5, 3) := by decide +kernel
theorem dL_types_212 : decode cL_types 212 = .ok (.bipush 116, 2) := by decide +kernel
theorem dL_types_214 : decode cL_types 214 = .ok (.invokevirtual 43, 3) := by decide +kernel
theorem dL_types_217 : decode cL_types 217 = .ok (.iadd, 1) := by decide +kernel
theorem dL_types_218 : decode cL_types 218 = .ok (.aload_n 0, 1) := by decide +kernel
theorem dL_types_219 : decode cL_types 219 = .ok (.bipush 48, 2) := by decide +kernel
theorem dL_types_221 : decode cL_types 221 = .ok (.iload 8, 2) := by decide +kernel
theorem dL_types_223 : decode cL_types 223 = .ok (.bipush 8, 2) := by decide +kernel
theorem dL_types_225 : decode cL_types 225 = .ok (.irem, 1) := by decide +kernel
theorem dL_types_226 : decode cL_types 226 = .ok (.iadd, 1) := by decide +kernel
theorem dL_types_227 : decode cL_types 227 = .ok (.invokevirtual 43, 3) := by decide +kernel
theorem dL_types_230 : decode cL_types 230 = .ok (.iadd, 1) := by decide +kernel
theorem dL_types_231 : decode cL_types 231 = .ok (.aload_n 0, 1) := by decide +kernel
theorem dL_types_232 : decode cL_types 232 = .ok (.bipush 125, 2) := by decide +kernel
theorem dL_types_234 : decode cL_types 234 = .ok (.invokevirtual 43, 3) := by decide +kernel
theorem dL_types_237 : decode cL_types 237 = .ok (.iadd, 1) := by decide +kernel
theorem dL_types_238 : decode cL_types 238 = .ok (.aload_n 0, 1) := by decide +kernel
theorem dL_types_239 : decode cL_types 239 = .ok (.bipush 35, 2) := by decide +kernel
theorem dL_types_241 : decode cL_types 241 = .ok (.invokevirtual 43, 3) := by decide +kernel
theorem dL_types_244 : decode cL_types 244 = .ok (.iadd, 1) := by decide +kernel
theorem dL_types_245 : decode cL_types 245 = .ok (.istore_n 3, 1) := by decide +kernel
theorem dL_types_246 : decode cL_types 246 = .ok (.goto 51, 3) := by decide +kernel
theorem dL_types_249 : decode cL_types 249 = .ok (.aload_n 0, 1) := by decide +kernel
theorem dL_types_250 : decode cL_types 250 = .ok (.bipush 123, 2) := by decide +kernel
theorem dL_types_252 : decode cL_types 252 = .ok (.invokevirtual 43, 3) := by decide +kernel
theorem dL_types_255 : decode cL_types 255 = .ok (.aload_n 0, 1) := by decide +kernel
theorem dL_types_256 : decode cL_types 256 = .ok (.bipush 114, 2) := by decide +kernel
theorem dL_types_258 : decode cL_types 258 = .ok (.invokevirtual 43, 3) := by decide +kernel
theorem dL_types_261 : decode cL_types 261 = .ok (.iadd, 1) := by decide +kernel
theorem dL_types_262 : decode cL_types 262 = .ok (.istore_n 3, 1) := by decide +kernel
theorem dL_types_263 : decode cL_types 263 = .ok (.iload 8, 2) := by decide +kernel
theorem dL_types_265 : decode cL_types 265 = .ok (.iconst 4, 1) := by decide +kernel
theorem dL_types_266 : decode cL_types 266 = .ok (.if_icmp .le 15, 3) := by decide +kernel
theorem dL_types_269 : decode cL_types 269 = .ok (.aload_n 0, 1) := by decide +kernel
theorem dL_types_270 : decode cL_types 270 = .ok (.bipush 48, 2) := by decide +kernel
theorem dL_types_272 : decode cL_types 272 = .ok (.iload 8, 2) := by decide +kernel
theorem dL_types_274 : decode cL_types 274 = .ok (.iadd, 1) := by decide +kernel
theorem dL_types_275 : decode cL_types 275 = .ok (.invokevirtual 43, 3) := by decide +kernel
theorem dL_types_278 : decode cL_types 278 = .ok (.goto 4, 3) := by decide +kernel
theorem dL_types_281 : decode cL_types 281 = .ok (.iconst 0, 1) := by decide +kernel
theorem dL_types_282 : decode cL_types 282 = .ok (.istore_n 3, 1) := by decide +kernel
theorem dL_types_283 : decode cL_types 283 = .ok (.aload_n 0, 1) := by decide +kernel
theorem dL_types_284 : decode cL_types 284 = .ok (.bipush 125, 2) := by decide +kernel
theorem dL_types_286 : decode cL_types 286 = .ok (.invokevirtual 43, 3) := by decide +kernel
theorem dL_types_289 : decode cL_types 289 = .ok (.aload_n 0, 1) := by decide +kernel
theorem dL_types_290 : decode cL_types 290 = .ok (.bipush 33, 2) := by decide +kernel
theorem dL_types_292 : decode cL_types 292 = .ok (.invokevirtual 43, 3) := by decide +kernel
theorem dL_types_295 : decode cL_types 295 = .ok (.iadd, 1) := by decide +kernel
theorem dL_types_296 : decode cL_types 296 = .ok (.istore_n 3, 1) := by decide +kernel
theorem dL_types_297 : decode cL_types 297 = .ok (.iinc 5 1, 3) := by decide +kernel
theorem dL_types_300 : decode cL_types 300 = .ok (.goto (-287), 3) := by decide +kernel
theorem dL_types_303 : decode cL_types 303 = .ok (.iload_n 3, 1) := by decide +kernel
theorem dL_types_304 : decode cL_types 304 = .ok (.ireturn, 1) := by decide +kernel
theorem dL_law_0 : decode cL_law 0 = .ok (.new 10, 3) := by decide +kernel
theorem dL_law_3 : decode cL_law 3 = .ok (.dup, 1) := by decide +kernel
theorem dL_law_4 : decode cL_law 4 = .ok (.invokespecial 108, 3) := by decide +kernel
theorem dL_law_7 : decode cL_law 7 = .ok (.astore_n 1, 1) := by decide +kernel
theorem dL_law_8 : decode cL_law 8 = .ok (.aload_n 1, 1) := by decide +kernel
theorem dL_law_9 : decode cL_law 9 = .ok (.invokevirtual 102, 3) := by decide +kernel
theorem dL_law_12 : decode cL_law 12 = .ok (.bipush (-9), 2) := by decide +kernel
theorem dL_law_14 : decode cL_law 14 = .ok (.if_icmp .ne 66, 3) := by decide +kernel
theorem dL_law_17 : decode cL_law 17 = .ok (.aload_n 1, 1) := by decide +kernel
theorem dL_law_18 : decode cL_law 18 = .ok (.invokevirtual 15, 3) := by decide +kernel
theorem dL_law_21 : decode cL_law 21 = .ok (.ifCond .ne 59, 3) := by decide +kernel
theorem dL_law_24 : decode cL_law 24 = .ok (.aload_n 1, 1) := by decide +kernel
theorem dL_law_25 : decode cL_law 25 = .ok (.invokevirtual 19, 3) := by decide +kernel
theorem dL_law_28 : decode cL_law 28 = .ok (.ifCond .ne 52, 3) := by decide +kernel
theorem dL_law_31 : decode cL_law 31 = .ok (.aload_n 1, 1) := by decide +kernel
theorem dL_law_32 : decode cL_law 32 = .ok (.iconst (-1), 1) := by decide +kernel
theorem dL_law_33 : decode cL_law 33 = .ok (.iconst 0, 1) := by decide +kernel
theorem dL_law_34 : decode cL_law 34 = .ok (.invokevirtual 37, 3) := by decide +kernel
theorem dL_law_37 : decode cL_law 37 = .ok (.bipush 20, 2) := by decide +kernel
theorem dL_law_39 : decode cL_law 39 = .ok (.if_icmp .ne 41, 3) := by decide +kernel
theorem dL_law_42 : decode cL_law 42 = .ok (.aload_n 1, 1) := by decide +kernel
theorem dL_law_43 : decode cL_law 43 = .ok (.invokevirtual 96, 3) := by decide +kernel
theorem dL_law_46 : decode cL_law 46 = .ok (.ifCond .ne 34, 3) := by decide +kernel
theorem dL_law_49 : decode cL_law 49 = .ok (.aload_n 1, 1) := by decide +kernel
theorem dL_law_50 : decode cL_law 50 = .ok (.invokevirtual 99, 3) := by decide +kernel
theorem dL_law_53 : decode cL_law 53 = .ok (.ifCond .ne 27, 3) := by decide +kernel
theorem dL_law_56 : decode cL_law 56 = .ok (.aload_n 1, 1) := by decide +kernel
theorem dL_law_57 : decode cL_law 57 = .ok (.invokevirtual 102, 3) := by decide +kernel
theorem dL_law_60 : decode cL_law 60 = .ok (.ifCond .ne 20, 3) := by decide +kernel
theorem dL_law_63 : decode cL_law 63 = .ok (.aload_n 1, 1) := by decide +kernel
theorem dL_law_64 : decode cL_law 64 = .ok (.iconst 5, 1) := by decide +kernel
theorem dL_law_65 : decode cL_law 65 = .ok (.invokevirtual 92, 3) := by decide +kernel
theorem dL_law_68 : decode cL_law 68 = .ok (.fconst 0, 1) := by decide +kernel
theorem dL_law_69 : decode cL_law 69 = .ok (.fcmp .l, 1) := by decide +kernel
theorem dL_law_70 : decode cL_law 70 = .ok (.ifCond .ne 10, 3) := by decide +kernel
theorem dL_law_73 : decode cL_law 73 = .ok (.aload_n 1, 1) := by decide +kernel
theorem dL_law_74 : decode cL_law 74 = .ok (.invokestatic 109, 3) := by decide +kernel
theorem dL_law_77 : decode cL_law 77 = .ok (.ifCond .ne 5, 3) := by decide +kernel
theorem dL_law_80 : decode cL_law 80 = .ok (.iconst 0, 1) := by decide +kernel
theorem dL_law_81 : decode cL_law 81 = .ok (.ireturn, 1) := by decide +kernel
theorem dL_law_82 : decode cL_law 82 = .ok (.aload_n 0, 1) := by decide +kernel
theorem dL_law_83 : decode cL_law 83 = .ok (.iconst 0, 1) := by decide +kernel
theorem dL_law_84 : decode cL_law 84 = .ok (.invokestatic 113, 3) := by decide +kernel
theorem dL_law_87 : decode cL_law 87 = .ok (.bipush 8, 2) := by decide +kernel
theorem dL_law_89 : decode cL_law 89 = .ok (.invokestatic 105, 3) := by decide +kernel
theorem dL_law_92 : decode cL_law 92 = .ok (.istore_n 2, 1) := by decide +kernel
theorem dL_law_93 : decode cL_law 93 = .ok (.iconst 0, 1) := by decide +kernel
theorem dL_law_94 : decode cL_law 94 = .ok (.istore_n 3, 1) := by decide +kernel
theorem dL_law_95 : decode cL_law 95 = .ok (.iload_n 3, 1) := by decide +kernel
theorem dL_law_96 : decode cL_law 96 = .ok (.iload_n 2, 1) := by decide +kernel
theorem dL_law_97 : decode cL_law 97 = .ok (.if_icmp .ge 169, 3) := by decide +kernel
theorem dL_law_100 : decode cL_law 100 = .ok (.aload_n 1, 1) := by decide +kernel
theorem dL_law_101 : decode cL_law 101 = .ok (.aload_n 0, 1) := by decide +kernel
theorem dL_law_102 : decode cL_law 102 = .ok (.iconst 1, 1) := by decide +kernel
theorem dL_law_103 : decode cL_law 103 = .ok (.iload_n 3, 1) := by decide +kernel
theorem dL_law_104 : decode cL_law 104 = .ok (.iadd, 1) := by decide +kernel
theorem dL_law_105 : decode cL_law 105 = .ok (.invokestatic 113, 3) := by decide +kernel
theorem dL_law_108 : decode cL_law 108 = .ok (.iload_n 3, 1) := by decide +kernel
theorem dL_law_109 : decode cL_law 109 = .ok (.iconst 1, 1) := by decide +kernel
theorem dL_law_110 : decode cL_law 110 = .ok (.iadd, 1) := by decide +kernel
theorem dL_law_111 : decode cL_law 111 = .ok (.invokestatic 105, 3) := by decide +kernel
theorem dL_law_114 : decode cL_law 114 = .ok (.iconst 1, 1) := by decide +kernel
theorem dL_law_115 : decode cL_law 115 = .ok (.isub, 1) := by decide +kernel
theorem dL_law_116 : decode cL_law 116 = .ok (.invokevirtual 22, 3) := by decide +kernel
theorem dL_law_119 : decode cL_law 119 = .ok (.iload_n 3, 1) := by decide +kernel
theorem dL_law_120 : decode cL_law 120 = .ok (.if_icmp .eq 5, 3) := by decide +kernel
theorem dL_law_123 : decode cL_law 123 = .ok (.iconst 0, 1) := by decide +kernel
theorem dL_law_124 : decode cL_law 124 = .ok (.ireturn, 1) := by decide +kernel
theorem dL_law_125 : decode cL_law 125 = .ok (.iconst 0, 1) := by decide +kernel
theorem dL_law_126 : decode cL_law 126 = .ok (.istore 4, 2) := by decide +kernel
theorem dL_law_128 : decode cL_law 128 = .ok (.iload 4, 2) := by decide +kernel
theorem dL_law_130 : decode cL_law 130 = .ok (.bipush 6, 2) := by decide +kernel
theorem dL_law_132 : decode cL_law 132 = .ok (.if_icmp .ge 128, 3) := by decide +kernel
theorem dL_law_135 : decode cL_law 135 = .ok (.aload_n 0, 1) := by decide +kernel
theorem dL_law_136 : decode cL_law 136 = .ok (.iconst 1, 1) := by decide +kernel
theorem dL_law_137 : decode cL_law 137 = .ok (.iload_n 3, 1) := by decide +kernel
theorem dL_law_138 : decode cL_law 138 = .ok (.iadd, 1) := by decide +kernel
theorem dL_law_139 : decode cL_law 139 = .ok (.invokestatic 113, 3) := by decide +kernel
theorem dL_law_142 : decode cL_law 142 = .ok (.iconst 3, 1) := by decide +kernel
theorem dL_law_143 : decode cL_law 143 = .ok (.iconst 4, 1) := by decide +kernel
theorem dL_law_144 : decode cL_law 144 = .ok (.iload 4, 2) := by decide +kernel
theorem dL_law_146 : decode cL_law 146 = .ok (.imul, 1) := by decide +kernel
theorem dL_law_147 : decode cL_law 147 = .ok (.iadd, 1) := by decide +kernel
theorem dL_law_148 : decode cL_law 148 = .ok (.ishr, 1) := by decide +kernel
theorem dL_law_149 : decode cL_law 149 = .ok (.istore 5, 2) := by decide +kernel
theorem dL_law_151 : decode cL_law 151 = .ok (.iload 4, 2) := by decide +kernel
theorem dL_law_153 : decode cL_law 153 = .ok (.ifCond .ne 17, 3) := by decide +kernel
theorem dL_law_156 : decode cL_law 156 = .ok (.iconst 1, 1) := by decide +kernel
theorem dL_law_157 : decode cL_law 157 = .ok (.iload 5, 2) := by decide +kernel
theorem dL_law_159 : decode cL_law 159 = .ok (.iconst 1, 1) := by decide +kernel
theorem dL_law_160 : decode cL_law 160 = .ok (.ishr, 1) := by decide +kernel
theorem dL_law_161 : decode cL_law 161 = .ok (.bipush 99, 2) := by decide +kernel
theorem dL_law_163 : decode cL_law 163 = .ok (.invokestatic 105, 3) := by decide +kernel
theorem dL_law_166 : decode cL_law 166 = .ok (.iadd, 1) := by decide +kernel
theorem dL_law_167 : decode cL_law 167 = .ok (.goto 62, 3) := by decide +kernel
theorem dL_law_170 : decode cL_law 170 = .ok (.iload 4, 2) := by decide +kernel
theorem dL_law_172 : decode cL_law 172 = .ok (.iconst 3, 1) := by decide +kernel
theorem dL_law_173 : decode cL_law 173 = .ok (.if_icmp .ge 15, 3) := by decide +kernel
theorem dL_law_176 : decode cL_law 176 = .ok (.iload 5, 2) := by decide +kernel
theorem dL_law_178 : decode cL_law 178 = .ok (.iconst 1, 1) := by decide +kernel
theorem dL_law_179 : decode cL_law 179 = .ok (.ishr, 1) := by decide +kernel
theorem dL_law_180 : decode cL_law 180 = .ok (.bipush 8, 2) := by decide +kernel
theorem dL_law_182 : decode cL_law 182 = .ok (.invokestatic 105, 3) := by decide +kernel
theorem dL_law_185 : decode cL_law 185 = .ok (.goto 44, 3) := by decide +kernel
theorem dL_law_188 : decode cL_law 188 = .ok (.iload 4, 2) := by decide +kernel
theorem dL_law_190 : decode cL_law 190 = .ok (.iconst 3, 1) := by decide +kernel
theorem dL_law_191 : decode cL_law 191 = .ok (.if_icmp .ne 12, 3) := by decide +kernel
theorem dL_law_194 : decode cL_law 194 = .ok (.iload 5, 2) := by decide +kernel
theorem dL_law_196 : decode cL_law 196 = .ok (.iconst 1, 1) := by decide +kernel
theorem dL_law_197 : decode cL_law 197 = .ok (.ishr, 1) := by decide +kernel
theorem dL_law_198 : decode cL_law 198 = .ok (.iconst 1, 1) := by decide +kernel
theorem dL_law_199 : decode cL_law 199 = .ok (.iand, 1) := by decide +kernel
theorem dL_law_200 : decode cL_law 200 = .ok (.goto 29, 3) := by decide +kernel
theorem dL_law_203 : decode cL_law 203 = .ok (.iload 4, 2) := by decide +kernel
theorem dL_law_205 : decode cL_law 205 = .ok (.iconst 4, 1) := by decide +kernel
theorem dL_law_206 : decode cL_law 206 = .ok (.if_icmp .ne 14, 3) := by decide +kernel
theorem dL_law_209 : decode cL_law 209 = .ok (.iload 5, 2) := by decide +kernel
theorem dL_law_211 : decode cL_law 211 = .ok (.iconst 1, 1) := by decide +kernel
theorem dL_law_212 : decode cL_law 212 = .ok (.ishr, 1) := by decide +kernel
theorem dL_law_213 : decode cL_law 213 = .ok (.iconst 3, 1) := by decide +kernel
theorem dL_law_214 : decode cL_law 214 = .ok (.invokestatic 105, 3) := by decide +kernel
theorem dL_law_217 : decode cL_law 217 = .ok (.goto 12, 3) := by decide +kernel
theorem dL_law_220 : decode cL_law 220 = .ok (.iload 5, 2) := by decide +kernel
theorem dL_law_222 : decode cL_law 222 = .ok (.iconst 1, 1) := by decide +kernel
theorem dL_law_223 : decode cL_law 223 = .ok (.ishr, 1) := by decide +kernel
theorem dL_law_224 : decode cL_law 224 = .ok (.bipush 60, 2) := by decide +kernel
theorem dL_law_226 : decode cL_law 226 = .ok (.invokestatic 105, 3) := by decide +kernel
theorem dL_law_229 : decode cL_law 229 = .ok (.istore 6, 2) := by decide +kernel
theorem dL_law_231 : decode cL_law 231 = .ok (.iload 5, 2) := by decide +kernel
theorem dL_law_233 : decode cL_law 233 = .ok (.iconst 1, 1) := by decide +kernel
theorem dL_law_234 : decode cL_law 234 = .ok (.iand, 1) := by decide +kernel
theorem dL_law_235 : decode cL_law 235 = .ok (.iconst 1, 1) := by decide +kernel
theorem dL_law_236 : decode cL_law 236 = .ok (.if_icmp .ne 18, 3) := by decide +kernel
theorem dL_law_239 : decode cL_law 239 = .ok (.aload_n 1, 1) := by decide +kernel
theorem dL_law_240 : decode cL_law 240 = .ok (.iload_n 3, 1) := by decide +kernel
theorem dL_law_241 : decode cL_law 241 = .ok (.iload 4, 2) := by decide +kernel
theorem dL_law_243 : decode cL_law 243 = .ok (.iload 6, 2) := by decide +kernel
theorem dL_law_245 : decode cL_law 245 = .ok (.invokevirtual 30, 3) := by decide +kernel
theorem dL_law_248 : decode cL_law 248 = .ok (.iconst (-1), 1) := by decide +kernel
theorem dL_law_249 : decode cL_law 249 = .ok (.if_icmp .eq 5, 3) := by decide +kernel
theorem dL_law_252 : decode cL_law 252 = .ok (.iconst 0, 1) := by decide +kernel
theorem dL_law_253 : decode cL_law 253 = .ok (.ireturn, 1) := by decide +kernel
theorem dL_law_254 : decode cL_law 254 = .ok (.iinc 4 1, 3) := by decide +kernel
theorem dL_law_257 : decode cL_law 257 = .ok (.goto (-129), 3) := by decide +kernel
theorem dL_law_260 : decode cL_law 260 = .ok (.iinc 3 1, 3) := by decide +kernel
theorem dL_law_263 : decode cL_law 263 = .ok (.goto (-168), 3) := by decide +kernel
theorem dL_law_266 : decode cL_law 266 = .ok (.iconst 1, 1) := by decide +kernel
theorem dL_law_267 : decode cL_law 267 = .ok (.aload_n 0, 1) := by decide +kernel
theorem dL_law_268 : decode cL_law 268 = .ok (.iconst 0, 1) := by decide +kernel
theorem dL_law_269 : decode cL_law 269 = .ok (.invokestatic 113, 3) := by decide +kernel
theorem dL_law_272 : decode cL_law 272 = .ok (.iconst 3, 1) := by decide +kernel
theorem dL_law_273 : decode cL_law 273 = .ok (.ishr, 1) := by decide +kernel
theorem dL_law_274 : decode cL_law 274 = .ok (.bipush 7, 2) := by decide +kernel
theorem dL_law_276 : decode cL_law 276 = .ok (.invokestatic 105, 3) := by decide +kernel
theorem dL_law_279 : decode cL_law 279 = .ok (.iadd, 1) := by decide +kernel
theorem dL_law_280 : decode cL_law 280 = .ok (.istore_n 3, 1) := by decide +kernel
theorem dL_law_281 : decode cL_law 281 = .ok (.iconst 0, 1) := by decide +kernel
theorem dL_law_282 : decode cL_law 282 = .ok (.istore 4, 2) := by decide +kernel
theorem dL_law_284 : decode cL_law 284 = .ok (.iload 4, 2) := by decide +kernel
theorem dL_law_286 : decode cL_law 286 = .ok (.iload_n 3, 1) := by decide +kernel
theorem dL_law_287 : decode cL_law 287 = .ok (.if_icmp .ge 96, 3) := by decide +kernel
theorem dL_law_290 : decode cL_law 290 = .ok (.aload_n 0, 1) := by decide +kernel
theorem dL_law_291 : decode cL_law 291 = .ok (.bipush 9, 2) := by decide +kernel
theorem dL_law_293 : decode cL_law 293 = .ok (.iload 4, 2) := by decide +kernel
theorem dL_law_295 : decode cL_law 295 = .ok (.iadd, 1) := by decide +kernel
theorem dL_law_296 : decode cL_law 296 = .ok (.invokestatic 113, 3) := by decide +kernel
theorem dL_law_299 : decode cL_law 299 = .ok (.istore 5, 2) := by decide +kernel
theorem dL_law_301 : decode cL_law 301 = .ok (.aload_n 1, 1) := by decide +kernel
theorem dL_law_302 : decode cL_law 302 = .ok (.iload 5, 2) := by decide +kernel
theorem dL_law_304 : decode cL_law 304 = .ok (.aload_n 0, 1) := by decide +kernel
theorem dL_law_305 : decode cL_law 305 = .ok (.bipush 17, 2) := by decide +kernel
theorem dL_law_307 : decode cL_law 307 = .ok (.iload 4, 2) := by decide +kernel
theorem dL_law_309 : decode cL_law 309 = .ok (.iadd, 1) := by decide +kernel
theorem dL_law_310 : decode cL_law 310 = .ok (.invokestatic 113, 3) := by decide +kernel
theorem dL_law_313 : decode cL_law 313 = .ok (.invokestatic 117, 3) := by decide +kernel
theorem dL_law_316 : decode cL_law 316 = .ok (.istore 6, 2) := by decide +kernel
theorem dL_law_318 : decode cL_law 318 = .ok (.iload 5, 2) := by decide +kernel
theorem dL_law_320 : decode cL_law 320 = .ok (.iconst 3, 1) := by decide +kernel
theorem dL_law_321 : decode cL_law 321 = .ok (.ishr, 1) := by decide +kernel
theorem dL_law_322 : decode cL_law 322 = .ok (.bipush 60, 2) := by decide +kernel
theorem dL_law_324 : decode cL_law 324 = .ok (.invokestatic 105, 3) := by decide +kernel
theorem dL_law_327 : decode cL_law 327 = .ok (.istore 7, 2) := by decide +kernel
theorem dL_law_329 : decode cL_law 329 = .ok (.aload_n 1, 1) := by decide +kernel
theorem dL_law_330 : decode cL_law 330 = .ok (.iload 7, 2) := by decide +kernel
theorem dL_law_332 : decode cL_law 332 = .ok (.iload 7, 2) := by decide +kernel
theorem dL_law_334 : decode cL_law 334 = .ok (.iconst 1, 1) := by decide +kernel
theorem dL_law_335 : decode cL_law 335 = .ok (.iadd, 1) := by decide +kernel
theorem dL_law_336 : decode cL_law 336 = .ok (.iload 5, 2) := by decide +kernel
theorem dL_law_338 : decode cL_law 338 = .ok (.bipush 9, 2) := by decide +kernel
theorem dL_law_340 : decode cL_law 340 = .ok (.ishr, 1) := by decide +kernel
theorem dL_law_341 : decode cL_law 341 = .ok (.bipush 90, 2) := by decide +kernel
theorem dL_law_343 : decode cL_law 343 = .ok (.invokestatic 105, 3) := by decide +kernel
theorem dL_law_346 : decode cL_law 346 = .ok (.iadd, 1) := by decide +kernel
theorem dL_law_347 : decode cL_law 347 = .ok (.iload 5, 2) := by decide +kernel
theorem dL_law_349 : decode cL_law 349 = .ok (.bipush 16, 2) := by decide +kernel
theorem dL_law_351 : decode cL_law 351 = .ok (.ishr, 1) := by decide +kernel
theorem dL_law_352 : decode cL_law 352 = .ok (.iload_n 2, 1) := by decide +kernel
theorem dL_law_353 : decode cL_law 353 = .ok (.iconst 1, 1) := by decide +kernel
theorem dL_law_354 : decode cL_law 354 = .ok (.iadd, 1) := by decide +kernel
theorem dL_law_355 : decode cL_law 355 = .ok (.invokestatic 105, 3) := by decide +kernel
theorem dL_law_358 : decode cL_law 358 = .ok (.iconst 1, 1) := by decide +kernel
theorem dL_law_359 : decode cL_law 359 = .ok (.isub, 1) := by decide +kernel
theorem dL_law_360 : decode cL_law 360 = .ok (.invokevirtual 46, 3) := by decide +kernel
theorem dL_law_363 : decode cL_law 363 = .ok (.iload 4, 2) := by decide +kernel
theorem dL_law_365 : decode cL_law 365 = .ok (.if_icmp .ne 10, 3) := by decide +kernel
theorem dL_law_368 : decode cL_law 368 = .ok (.aload_n 1, 1) := by decide +kernel
theorem dL_law_369 : decode cL_law 369 = .ok (.invokevirtual 121, 3) := by decide +kernel
theorem dL_law_372 : decode cL_law 372 = .ok (.ifCond .eq 5, 3) := by decide +kernel
theorem dL_law_375 : decode cL_law 375 = .ok (.iconst 0, 1) := by decide +kernel
theorem dL_law_376 : decode cL_law 376 = .ok (.ireturn, 1) := by decide +kernel
theorem dL_law_377 : decode cL_law 377 = .ok (.iinc 4 1, 3) := by decide +kernel
theorem dL_law_380 : decode cL_law 380 = .ok (.goto (-96), 3) := by decide +kernel
theorem dL_law_383 : decode cL_law 383 = .ok (.iconst 0, 1) := by decide +kernel
theorem dL_law_384 : decode cL_law 384 = .ok (.istore 4, 2) := by decide +kernel
theorem dL_law_386 : decode cL_law 386 = .ok (.iload 4, 2) := by decide +kernel
theorem dL_law_388 : decode cL_law 388 = .ok (.bipush 7, 2) := by decide +kernel
theorem dL_law_390 : decode cL_law 390 = .ok (.if_icmp .ge 729, 3) := by decide +kernel
theorem dL_law_393 : decode cL_law 393 = .ok (.aload_n 0, 1) := by decide +kernel
theorem dL_law_394 : decode cL_law 394 = .ok (.bipush 25, 2) := by decide +kernel
theorem dL_law_396 : decode cL_law 396 = .ok (.iload 4, 2) := by decide +kernel
theorem dL_law_398 : decode cL_law 398 = .ok (.iadd, 1) := by decide +kernel
theorem dL_law_399 : decode cL_law 399 = .ok (.invokestatic 113, 3) := by decide +kernel
theorem dL_law_402 : decode cL_law 402 = .ok (.istore 5, 2) := by decide +kernel
theorem dL_law_404 : decode cL_law 404 = .ok (.iload 5, 2) := by decide +kernel
theorem dL_law_406 : decode cL_law 406 = .ok (.iconst 4, 1) := by decide +kernel
theorem dL_law_407 : decode cL_law 407 = .ok (.ishr, 1) := by decide +kernel
theorem dL_law_408 : decode cL_law 408 = .ok (.istore 6, 2) := by decide +kernel
theorem dL_law_410 : decode cL_law 410 = .ok (.iload 6, 2) := by decide +kernel
theorem dL_law_412 : decode cL_law 412 = .ok (.aload_n 1, 1) := by decide +kernel
theorem dL_law_413 : decode cL_law 413 = .ok (.invokevirtual 19, 3) := by decide +kernel
theorem dL_law_416 : decode cL_law 416 = .ok (.invokestatic 105, 3) := by decide +kernel
theorem dL_law_419 : decode cL_law 419 = .ok (.istore 7, 2) := by decide +kernel
theorem dL_law_421 : decode cL_law 421 = .ok (.aload_n 1, 1) := by decide +kernel
theorem dL_law_422 : decode cL_law 422 = .ok (.invokevirtual 9, 3) := by decide +kernel
theorem dL_law_425 : decode cL_law 425 = .ok (.lstore 8, 2) := by decide +kernel
theorem dL_law_427 : decode cL_law 427 = .ok (.iconst 1, 1) := by decide +kernel
theorem dL_law_428 : decode cL_law 428 = .ok (.istore 10, 2) := by decide +kernel
theorem dL_law_430 : decode cL_law 430 = .ok (.iload 5, 2) := by decide +kernel
theorem dL_law_432 : decode cL_law 432 = .ok (.bipush 7, 2) := by decide +kernel
theorem dL_law_434 : decode cL_law 434 = .ok (.invokestatic 105, 3) := by decide +kernel
theorem dL_law_437 : decode cL_law 437 = .ok (.istore 11, 2) := by decide +kernel
theorem dL_law_439 : decode cL_law 439 = .ok (.iload 11, 2) := by decide +kernel
theorem dL_law_441 : decode cL_law 441 = .ok (.ifCond .ne 99, 3) := by decide +kernel
theorem dL_law_444 : decode cL_law 444 = .ok (.iload_n 2, 1) := by decide +kernel
theorem dL_law_445 : decode cL_law 445 = .ok (.ifCond .le 95, 3) := by decide +kernel
theorem dL_law_448 : decode cL_law 448 = .ok (.iload 6, 2) := by decide +kernel
theorem dL_law_450 : decode cL_law 450 = .ok (.iconst 3, 1) := by decide +kernel
theorem dL_law_451 : decode cL_law 451 = .ok (.ishr, 1) := by decide +kernel
theorem dL_law_452 : decode cL_law 452 = .ok (.iload_n 2, 1) := by decide +kernel
theorem dL_law_453 : decode cL_law 453 = .ok (.invokestatic 105, 3) := by decide +kernel
theorem dL_law_456 : decode cL_law 456 = .ok (.istore 12, 2) := by decide +kernel
theorem dL_law_458 : decode cL_law 458 = .ok (.iload 6, 2) := by decide +kernel
theorem dL_law_460 : decode cL_law 460 = .ok (.bipush 6, 2) := by decide +kernel
theorem dL_law_462 : decode cL_law 462 = .ok (.ishr, 1) := by decide +kernel
theorem dL_law_463 : decode cL_law 463 = .ok (.iload_n 2, 1) := by decide +kernel
theorem dL_law_464 : decode cL_law 464 = .ok (.iconst 1, 1) := by decide +kernel
theorem dL_law_465 : decode cL_law 465 = .ok (.iadd, 1) := by decide +kernel
theorem dL_law_466 : decode cL_law 466 = .ok (.invokestatic 105, 3) := by decide +kernel
theorem dL_law_469 : decode cL_law 469 = .ok (.iconst 1, 1) := by decide +kernel
theorem dL_law_470 : decode cL_law 470 = .ok (.isub, 1) := by decide +kernel
theorem dL_law_471 : decode cL_law 471 = .ok (.istore 13, 2) := by decide +kernel
theorem dL_law_473 : decode cL_law 473 = .ok (.aload_n 1, 1) := by decide +kernel
theorem dL_law_474 : decode cL_law 474 = .ok (.iload 12, 2) := by decide +kernel
theorem dL_law_476 : decode cL_law 476 = .ok (.bipush 6, 2) := by decide +kernel
theorem dL_law_478 : decode cL_law 478 = .ok (.invokevirtual 34, 3) := by decide +kernel
theorem dL_law_481 : decode cL_law 481 = .ok (.istore 14, 2) := by decide +kernel
theorem dL_law_483 : decode cL_law 483 = .ok (.aload_n 1, 1) := by decide +kernel
theorem dL_law_484 : decode cL_law 484 = .ok (.iload 12, 2) := by decide +kernel
theorem dL_law_486 : decode cL_law 486 = .ok (.iload 13, 2) := by decide +kernel
theorem dL_law_488 : decode cL_law 488 = .ok (.invokevirtual 26, 3) := by decide +kernel
theorem dL_law_491 : decode cL_law 491 = .ok (.istore 15, 2) := by decide +kernel
theorem dL_law_493 : decode cL_law 493 = .ok (.iload 15, 2) := by decide +kernel
theorem dL_law_495 : decode cL_law 495 = .ok (.iload 14, 2) := by decide +kernel
theorem dL_law_497 : decode cL_law 497 = .ok (.if_icmp .ne 16, 3) := by decide +kernel
theorem dL_law_500 : decode cL_law 500 = .ok (.aload_n 1, 1) := by decide +kernel
theorem dL_law_501 : decode cL_law 501 = .ok (.iload 12, 2) := by decide +kernel
theorem dL_law_503 : decode cL_law 503 = .ok (.bipush 6, 2) := by decide +kernel
theorem dL_law_505 : decode cL_law 505 = .ok (.invokevirtual 34, 3) := by decide +kernel
theorem dL_law_508 : decode cL_law 508 = .ok (.iload 13, 2) := by decide +kernel
theorem dL_law_510 : decode cL_law 510 = .ok (.if_icmp .eq 20, 3) := by decide +kernel
theorem dL_law_513 : decode cL_law 513 = .ok (.iload 15, 2) := by decide +kernel
theorem dL_law_515 : decode cL_law 515 = .ok (.bipush (-2), 2) := by decide +kernel
theorem dL_law_517 : decode cL_law 517 = .ok (.if_icmp .ne 17, 3) := by decide +kernel
theorem dL_law_520 : decode cL_law 520 = .ok (.aload_n 1, 1) := by decide +kernel
theorem dL_law_521 : decode cL_law 521 = .ok (.invokevirtual 9, 3) := by decide +kernel
theorem dL_law_524 : decode cL_law 524 = .ok (.lload 8, 2) := by decide +kernel
theorem dL_law_526 : decode cL_law 526 = .ok (.lcmp, 1) := by decide +kernel
theorem dL_law_527 : decode cL_law 527 = .ok (.ifCond .ne 7, 3) := by decide +kernel
theorem dL_law_530 : decode cL_law 530 = .ok (.iconst 1, 1) := by decide +kernel
theorem dL_law_531 : decode cL_law 531 = .ok (.goto 4, 3) := by decide +kernel
theorem dL_law_534 : decode cL_law 534 = .ok (.iconst 0, 1) := by decide +kernel
theorem dL_law_535 : decode cL_law 535 = .ok (.istore 10, 2) := by decide +kernel
theorem dL_law_537 : decode cL_law 537 = .ok (.goto 502, 3) := by decide +kernel
theorem dL_law_540 : decode cL_law 540 = .ok (.iload 11, 2) := by decide +kernel
theorem dL_law_542 : decode cL_law 542 = .ok (.iconst 1, 1) := by decide +kernel
theorem dL_law_543 : decode cL_law 543 = .ok (.if_icmp .ne 46, 3) := by decide +kernel
theorem dL_law_546 : decode cL_law 546 = .ok (.aload_n 1, 1) := by decide +kernel
theorem dL_law_547 : decode cL_law 547 = .ok (.iload 7, 2) := by decide +kernel
theorem dL_law_549 : decode cL_law 549 = .ok (.iconst 2, 1) := by decide +kernel
theorem dL_law_550 : decode cL_law 550 = .ok (.invokevirtual 62, 3) := by decide +kernel
theorem dL_law_553 : decode cL_law 553 = .ok (.istore 12, 2) := by decide +kernel
theorem dL_law_555 : decode cL_law 555 = .ok (.aload_n 1, 1) := by decide +kernel
theorem dL_law_556 : decode cL_law 556 = .ok (.iload 7, 2) := by decide +kernel
theorem dL_law_558 : decode cL_law 558 = .ok (.iconst 0, 1) := by decide +kernel
theorem dL_law_559 : decode cL_law 559 = .ok (.iload 6, 2) := by decide +kernel
theorem dL_law_561 : decode cL_law 561 = .ok (.iconst 4, 1) := by decide +kernel
theorem dL_law_562 : decode cL_law 562 = .ok (.ishr, 1) := by decide +kernel
theorem dL_law_563 : decode cL_law 563 = .ok (.iload_n 2, 1) := by decide +kernel
theorem dL_law_564 : decode cL_law 564 = .ok (.iconst 1, 1) := by decide +kernel
theorem dL_law_565 : decode cL_law 565 = .ok (.iadd, 1) := by decide +kernel
theorem dL_law_566 : decode cL_law 566 = .ok (.invokestatic 105, 3) := by decide +kernel
theorem dL_law_569 : decode cL_law 569 = .ok (.iconst 1, 1) := by decide +kernel
theorem dL_law_570 : decode cL_law 570 = .ok (.isub, 1) := by decide +kernel
theorem dL_law_571 : decode cL_law 571 = .ok (.invokevirtual 53, 3) := by decide +kernel
theorem dL_law_574 : decode cL_law 574 = .ok (.iload 12, 2) := by decide +kernel
theorem dL_law_576 : decode cL_law 576 = .ok (.if_icmp .ne 7, 3) := by decide +kernel
theorem dL_law_579 : decode cL_law 579 = .ok (.iconst 1, 1) := by decide +kernel
theorem dL_law_580 : decode cL_law 580 = .ok (.goto 4, 3) := by decide +kernel
theorem dL_law_583 : decode cL_law 583 = .ok (.iconst 0, 1) := by decide +kernel
theorem dL_law_584 : decode cL_law 584 = .ok (.istore 10, 2) := by decide +kernel
theorem dL_law_586 : decode cL_law 586 = .ok (.goto 453, 3) := by decide +kernel
theorem dL_law_589 : decode cL_law 589 = .ok (.iload 11, 2) := by decide +kernel
theorem dL_law_591 : decode cL_law 591 = .ok (.iconst 2, 1) := by decide +kernel
theorem dL_law_592 : decode cL_law 592 = .ok (.if_icmp .ne 61, 3) := by decide +kernel
theorem dL_law_595 : decode cL_law 595 = .ok (.aload_n 1, 1) := by decide +kernel
theorem dL_law_596 : decode cL_law 596 = .ok (.iload 7, 2) := by decide +kernel
theorem dL_law_598 : decode cL_law 598 = .ok (.iconst 3, 1) := by decide +kernel
theorem dL_law_599 : decode cL_law 599 = .ok (.invokevirtual 62, 3) := by decide +kernel
theorem dL_law_602 : decode cL_law 602 = .ok (.istore 12, 2) := by decide +kernel
theorem dL_law_604 : decode cL_law 604 = .ok (.iload 6, 2) := by decide +kernel
theorem dL_law_606 : decode cL_law 606 = .ok (.iconst 4, 1) := by decide +kernel
theorem dL_law_607 : decode cL_law 607 = .ok (.ishr, 1) := by decide +kernel
theorem dL_law_608 : decode cL_law 608 = .ok (.bipush 80, 2) := by decide +kernel
theorem dL_law_610 : decode cL_law 610 = .ok (.invokestatic 105, 3) := by decide +kernel
theorem dL_law_613 : decode cL_law 613 = .ok (.iconst 1, 1) := by decide +kernel
theorem dL_law_614 : decode cL_law 614 = .ok (.isub, 1) := by decide +kernel
theorem dL_law_615 : decode cL_law 615 = .ok (.istore 13, 2) := by decide +kernel
theorem dL_law_617 : decode cL_law 617 = .ok (.aload_n 1, 1) := by decide +kernel
theorem dL_law_618 : decode cL_law 618 = .ok (.iload 7, 2) := by decide +kernel
theorem dL_law_620 : decode cL_law 620 = .ok (.iconst 1, 1) := by decide +kernel
theorem dL_law_621 : decode cL_law 621 = .ok (.iload 13, 2) := by decide +kernel
theorem dL_law_623 : decode cL_law 623 = .ok (.invokevirtual 53, 3) := by decide +kernel
theorem dL_law_626 : decode cL_law 626 = .ok (.iload 12, 2) := by decide +kernel
theorem dL_law_628 : decode cL_law 628 = .ok (.if_icmp .ne 19, 3) := by decide +kernel
theorem dL_law_631 : decode cL_law 631 = .ok (.aload_n 1, 1) := by decide +kernel
theorem dL_law_632 : decode cL_law 632 = .ok (.iload 7, 2) := by decide +kernel
theorem dL_law_634 : decode cL_law 634 = .ok (.iconst 3, 1) := by decide +kernel
theorem dL_law_635 : decode cL_law 635 = .ok (.invokevirtual 62, 3) := by decide +kernel
theorem dL_law_638 : decode cL_law 638 = .ok (.iload 13, 2) := by decide +kernel
theorem dL_law_640 : decode cL_law 640 = .ok (.if_icmp .ne 7, 3) := by decide +kernel
theorem dL_law_643 : decode cL_law 643 = .ok (.iconst 1, 1) := by decide +kernel
theorem dL_law_644 : decode cL_law 644 = .ok (.goto 4, 3) := by decide +kernel
theorem dL_law_647 : decode cL_law 647 = .ok (.iconst 0, 1) := by decide +kernel
theorem dL_law_648 : decode cL_law 648 = .ok (.istore 10, 2) := by decide +kernel
theorem dL_law_650 : decode cL_law 650 = .ok (.goto 389, 3) := by decide +kernel
theorem dL_law_653 : decode cL_law 653 = .ok (.iload 11, 2) := by decide +kernel
theorem dL_law_655 : decode cL_law 655 = .ok (.iconst 3, 1) := by decide +kernel
theorem dL_law_656 : decode cL_law 656 = .ok (.if_icmp .ne 113, 3) := by decide +kernel
theorem dL_law_659 : decode cL_law 659 = .ok (.iload 6, 2) := by decide +kernel
theorem dL_law_661 : decode cL_law 661 = .ok (.iconst 4, 1) := by decide +kernel
theorem dL_law_662 : decode cL_law 662 = .ok (.ishr, 1) := by decide +kernel
theorem dL_law_663 : decode cL_law 663 = .ok (.bipush 81, 2) := by decide +kernel
theorem dL_law_665 : decode cL_law 665 = .ok (.invokestatic 105, 3) := by decide +kernel
theorem dL_law_668 : decode cL_law 668 = .ok (.bipush 40, 2) := by decide +kernel
theorem dL_law_670 : decode cL_law 670 = .ok (.isub, 1) := by decide +kernel
theorem dL_law_671 : decode cL_law 671 = .ok (.istore 12, 2) := by decide +kernel
theorem dL_law_673 : decode cL_law 673 = .ok (.aload_n 1, 1) := by decide +kernel
theorem dL_law_674 : decode cL_law 674 = .ok (.iload 7, 2) := by decide +kernel
theorem dL_law_676 : decode cL_law 676 = .ok (.iconst 0, 1) := by decide +kernel
theorem dL_law_677 : decode cL_law 677 = .ok (.invokevirtual 62, 3) := by decide +kernel
theorem dL_law_680 : decode cL_law 680 = .ok (.istore 13, 2) := by decide +kernel
theorem dL_law_682 : decode cL_law 682 = .ok (.aload_n 1, 1) := by decide +kernel
theorem dL_law_683 : decode cL_law 683 = .ok (.iload 7, 2) := by decide +kernel
theorem dL_law_685 : decode cL_law 685 = .ok (.iconst 1, 1) := by decide +kernel
theorem dL_law_686 : decode cL_law 686 = .ok (.invokevirtual 62, 3) := by decide +kernel
theorem dL_law_689 : decode cL_law 689 = .ok (.istore 14, 2) := by decide +kernel
theorem dL_law_691 : decode cL_law 691 = .ok (.aload_n 1, 1) := by decide +kernel
theorem dL_law_692 : decode cL_law 692 = .ok (.iload 7, 2) := by decide +kernel
theorem dL_law_694 : decode cL_law 694 = .ok (.iload 12, 2) := by decide +kernel
theorem dL_law_696 : decode cL_law 696 = .ok (.invokevirtual 56, 3) := by decide +kernel
theorem dL_law_699 : decode cL_law 699 = .ok (.istore 15, 2) := by decide +kernel
theorem dL_law_701 : decode cL_law 701 = .ok (.iload 13, 2) := by decide +kernel
theorem dL_law_703 : decode cL_law 703 = .ok (.iload 12, 2) := by decide +kernel
theorem dL_law_705 : decode cL_law 705 = .ok (.iadd, 1) := by decide +kernel
theorem dL_law_706 : decode cL_law 706 = .ok (.ifCond .ge 28, 3) := by decide +kernel
theorem dL_law_709 : decode cL_law 709 = .ok (.iload 15, 2) := by decide +kernel
theorem dL_law_711 : decode cL_law 711 = .ok (.bipush (-2), 2) := by decide +kernel
theorem dL_law_713 : decode cL_law 713 = .ok (.if_icmp .ne 17, 3) := by decide +kernel
theorem dL_law_716 : decode cL_law 716 = .ok (.aload_n 1, 1) := by decide +kernel
theorem dL_law_717 : decode cL_law 717 = .ok (.invokevirtual 9, 3) := by decide +kernel
theorem dL_law_720 : decode cL_law 720 = .ok (.lload 8, 2) := by decide +kernel
theorem dL_law_722 : decode cL_law 722 = .ok (.lcmp, 1) := by decide +kernel
theorem dL_law_723 : decode cL_law 723 = .ok (.ifCond .ne 7, 3) := by decide +kernel
theorem dL_law_726 : decode cL_law 726 = .ok (.iconst 1, 1) := by decide +kernel
theorem dL_law_727 : decode cL_law 727 = .ok (.goto 37, 3) := by decide +kernel
theorem dL_law_730 : decode cL_law 730 = .ok (.iconst 0, 1) := by decide +kernel
theorem dL_law_731 : decode cL_law 731 = .ok (.goto 33, 3) := by decide +kernel
theorem dL_law_734 : decode cL_law 734 = .ok (.iload 15, 2) := by decide +kernel
theorem dL_law_736 : decode cL_law 736 = .ok (.iload 13, 2) := by decide +kernel
theorem dL_law_738 : decode cL_law 738 = .ok (.iload 12, 2) := by decide +kernel
theorem dL_law_740 : decode cL_law 740 = .ok (.iadd, 1) := by decide +kernel
theorem dL_law_741 : decode cL_law 741 = .ok (.if_icmp .ne 22, 3) := by decide +kernel
theorem dL_law_744 : decode cL_law 744 = .ok (.aload_n 1, 1) := by decide +kernel
theorem dL_law_745 : decode cL_law 745 = .ok (.iload 7, 2) := by decide +kernel
theorem dL_law_747 : decode cL_law 747 = .ok (.iconst 1, 1) := by decide +kernel
theorem dL_law_748 : decode cL_law 748 = .ok (.invokevirtual 62, 3) := by decide +kernel
theorem dL_law_751 : decode cL_law 751 = .ok (.iload 14, 2) := by decide +kernel
theorem dL_law_753 : decode cL_law 753 = .ok (.iload 12, 2) := by decide +kernel
theorem dL_law_755 : decode cL_law 755 = .ok (.iadd, 1) := by decide +kernel
theorem dL_law_756 : decode cL_law 756 = .ok (.if_icmp .ne 7, 3) := by decide +kernel
theorem dL_law_759 : decode cL_law 759 = .ok (.iconst 1, 1) := by decide +kernel
theorem dL_law_760 : decode cL_law 760 = .ok (.goto 4, 3) := by decide +kernel
theorem dL_law_763 : decode cL_law 763 = .ok (.iconst 0, 1) := by decide +kernel
theorem dL_law_764 : decode cL_law 764 = .ok (.istore 10, 2) := by decide +kernel
theorem dL_law_766 : decode cL_law 766 = .ok (.goto 273, 3) := by decide +kernel
theorem dL_law_769 : decode cL_law 769 = .ok (.iload 11, 2) := by decide +kernel
theorem dL_law_771 : decode cL_law 771 = .ok (.iconst 4, 1) := by decide +kernel
theorem dL_law_772 : decode cL_law 772 = .ok (.if_icmp .ne 189, 3) := by decide +kernel
theorem dL_law_775 : decode cL_law 775 = .ok (.aload_n 1, 1) := by decide +kernel
theorem dL_law_776 : decode cL_law 776 = .ok (.iload 7, 2) := by decide +kernel
theorem dL_law_778 : decode cL_law 778 = .ok (.iconst 5, 1) := by decide +kernel
theorem dL_law_779 : decode cL_law 779 = .ok (.invokevirtual 62, 3) := by decide +kernel
theorem dL_law_782 : decode cL_law 782 = .ok (.istore 12, 2) := by decide +kernel
theorem dL_law_784 : decode cL_law 784 = .ok (.aload_n 1, 1) := by decide +kernel
theorem dL_law_785 : decode cL_law 785 = .ok (.iload 7, 2) := by decide +kernel
theorem dL_law_787 : decode cL_law 787 = .ok (.bipush 6, 2) := by decide +kernel
theorem dL_law_789 : decode cL_law 789 = .ok (.invokevirtual 62, 3) := by decide +kernel
theorem dL_law_792 : decode cL_law 792 = .ok (.istore 13, 2) := by decide +kernel
theorem dL_law_794 : decode cL_law 794 = .ok (.iload 12, 2) := by decide +kernel
theorem dL_law_796 : decode cL_law 796 = .ok (.ifCond .ne 7, 3) := by decide +kernel
theorem dL_law_799 : decode cL_law 799 = .ok (.iconst (-1), 1) := by decide +kernel
theorem dL_law_800 : decode cL_law 800 = .ok (.goto 14, 3) := by decide +kernel
theorem dL_law_803 : decode cL_law 803 = .ok (.aload_n 1, 1) := by decide +kernel
theorem dL_law_804 : decode cL_law 804 = .ok (.iload 7, 2) := by decide +kernel
theorem dL_law_806 : decode cL_law 806 = .ok (.iload 12, 2) := by decide +kernel
theorem dL_law_808 : decode cL_law 808 = .ok (.iconst 1, 1) := by decide +kernel
theorem dL_law_809 : decode cL_law 809 = .ok (.isub, 1) := by decide +kernel
theorem dL_law_810 : decode cL_law 810 = .ok (.iconst 1, 1) := by decide +kernel
theorem dL_law_811 : decode cL_law 811 = .ok (.invokevirtual 68, 3) := by decide +kernel
theorem dL_law_814 : decode cL_law 814 = .ok (.istore 14, 2) := by decide +kernel
theorem dL_law_816 : decode cL_law 816 = .ok (.aload_n 1, 1) := by decide +kernel
theorem dL_law_817 : decode cL_law 817 = .ok (.iload 7, 2) := by decide +kernel
theorem dL_law_819 : decode cL_law 819 = .ok (.iconst 1, 1) := by decide +kernel
theorem dL_law_820 : decode cL_law 820 = .ok (.invokevirtual 62, 3) := by decide +kernel
theorem dL_law_823 : decode cL_law 823 = .ok (.aload_n 1, 1) := by decide +kernel
theorem dL_law_824 : decode cL_law 824 = .ok (.iload 7, 2) := by decide +kernel
theorem dL_law_826 : decode cL_law 826 = .ok (.iconst 0, 1) := by decide +kernel
theorem dL_law_827 : decode cL_law 827 = .ok (.invokevirtual 62, 3) := by decide +kernel
theorem dL_law_830 : decode cL_law 830 = .ok (.isub, 1) := by decide +kernel
theorem dL_law_831 : decode cL_law 831 = .ok (.iload 13, 2) := by decide +kernel
theorem dL_law_833 : decode cL_law 833 = .ok (.isub, 1) := by decide +kernel
theorem dL_law_834 : decode cL_law 834 = .ok (.iload 14, 2) := by decide +kernel
theorem dL_law_836 : decode cL_law 836 = .ok (.iadd, 1) := by decide +kernel
theorem dL_law_837 : decode cL_law 837 = .ok (.istore 15, 2) := by decide +kernel
theorem dL_law_839 : decode cL_law 839 = .ok (.aload_n 1, 1) := by decide +kernel
theorem dL_law_840 : decode cL_law 840 = .ok (.iload 7, 2) := by decide +kernel
theorem dL_law_842 : decode cL_law 842 = .ok (.invokevirtual 71, 3) := by decide +kernel
theorem dL_law_845 : decode cL_law 845 = .ok (.istore 16, 2) := by decide +kernel
theorem dL_law_847 : decode cL_law 847 = .ok (.iload 12, 2) := by decide +kernel
theorem dL_law_849 : decode cL_law 849 = .ok (.ifCond .eq 16, 3) := by decide +kernel
theorem dL_law_852 : decode cL_law 852 = .ok (.iload 15, 2) := by decide +kernel
theorem dL_law_854 : decode cL_law 854 = .ok (.ifCond .lt 11, 3) := by decide +kernel
theorem dL_law_857 : decode cL_law 857 = .ok (.iload 15, 2) := by decide +kernel
theorem dL_law_859 : decode cL_law 859 = .ok (.sipush 9999, 3) := by decide +kernel
theorem dL_law_862 : decode cL_law 862 = .ok (.if_icmp .le 28, 3) := by decide +kernel
theorem dL_law_865 : decode cL_law 865 = .ok (.iload 16, 2) := by decide +kernel
theorem dL_law_867 : decode cL_law 867 = .ok (.bipush (-2), 2) := by decide +kernel
theorem dL_law_869 : decode cL_law 869 = .ok (.if_icmp .ne 17, 3) := by decide +kernel
theorem dL_law_872 : decode cL_law 872 = .ok (.aload_n 1, 1) := by decide +kernel
theorem dL_law_873 : decode cL_law 873 = .ok (.invokevirtual 9, 3) := by decide +kernel
theorem dL_law_876 : decode cL_law 876 = .ok (.lload 8, 2) := by decide +kernel
theorem dL_law_878 : decode cL_law 878 = .ok (.lcmp, 1) := by decide +kernel
theorem dL_law_879 : decode cL_law 879 = .ok (.ifCond .ne 7, 3) := by decide +kernel
theorem dL_law_882 : decode cL_law 882 = .ok (.iconst 1, 1) := by decide +kernel
theorem dL_law_883 : decode cL_law 883 = .ok (.goto 73, 3) := by decide +kernel
theorem dL_law_886 : decode cL_law 886 = .ok (.iconst 0, 1) := by decide +kernel
theorem dL_law_887 : decode cL_law 887 = .ok (.goto 69, 3) := by decide +kernel
theorem dL_law_890 : decode cL_law 890 = .ok (.iload 16, 2) := by decide +kernel
theorem dL_law_892 : decode cL_law 892 = .ok (.iload 15, 2) := by decide +kernel
theorem dL_law_894 : decode cL_law 894 = .ok (.if_icmp .ne 61, 3) := by decide +kernel
theorem dL_law_897 : decode cL_law 897 = .ok (.aload_n 1, 1) := by decide +kernel
theorem dL_law_898 : decode cL_law 898 = .ok (.iload 7, 2) := by decide +kernel
theorem dL_law_900 : decode cL_law 900 = .ok (.bipush 6, 2) := by decide +kernel
theorem dL_law_902 : decode cL_law 902 = .ok (.invokevirtual 62, 3) := by decide +kernel
theorem dL_law_905 : decode cL_law 905 = .ok (.aload_n 1, 1) := by decide +kernel
theorem dL_law_906 : decode cL_law 906 = .ok (.iload 7, 2) := by decide +kernel
theorem dL_law_908 : decode cL_law 908 = .ok (.iconst 1, 1) := by decide +kernel
theorem dL_law_909 : decode cL_law 909 = .ok (.invokevirtual 62, 3) := by decide +kernel
theorem dL_law_912 : decode cL_law 912 = .ok (.aload_n 1, 1) := by decide +kernel
theorem dL_law_913 : decode cL_law 913 = .ok (.iload 7, 2) := by decide +kernel
theorem dL_law_915 : decode cL_law 915 = .ok (.iconst 0, 1) := by decide +kernel
theorem dL_law_916 : decode cL_law 916 = .ok (.invokevirtual 62, 3) := by decide +kernel
theorem dL_law_919 : decode cL_law 919 = .ok (.isub, 1) := by decide +kernel
theorem dL_law_920 : decode cL_law 920 = .ok (.if_icmp .ne 35, 3) := by decide +kernel
theorem dL_law_923 : decode cL_law 923 = .ok (.aload_n 1, 1) := by decide +kernel
theorem dL_law_924 : decode cL_law 924 = .ok (.iload 7, 2) := by decide +kernel
theorem dL_law_926 : decode cL_law 926 = .ok (.bipush 7, 2) := by decide +kernel
theorem dL_law_928 : decode cL_law 928 = .ok (.invokevirtual 62, 3) := by decide +kernel
theorem dL_law_931 : decode cL_law 931 = .ok (.iconst 1, 1) := by decide +kernel
theorem dL_law_932 : decode cL_law 932 = .ok (.if_icmp .ne 23, 3) := by decide +kernel
theorem dL_law_935 : decode cL_law 935 = .ok (.aload_n 1, 1) := by decide +kernel
theorem dL_law_936 : decode cL_law 936 = .ok (.iload 7, 2) := by decide +kernel
theorem dL_law_938 : decode cL_law 938 = .ok (.iload 12, 2) := by decide +kernel
theorem dL_law_940 : decode cL_law 940 = .ok (.iconst 1, 1) := by decide +kernel
theorem dL_law_941 : decode cL_law 941 = .ok (.isub, 1) := by decide +kernel
theorem dL_law_942 : decode cL_law 942 = .ok (.iconst 1, 1) := by decide +kernel
theorem dL_law_943 : decode cL_law 943 = .ok (.invokevirtual 68, 3) := by decide +kernel
theorem dL_law_946 : decode cL_law 946 = .ok (.iload 15, 2) := by decide +kernel
theorem dL_law_948 : decode cL_law 948 = .ok (.if_icmp .ne 7, 3) := by decide +kernel
theorem dL_law_951 : decode cL_law 951 = .ok (.iconst 1, 1) := by decide +kernel
theorem dL_law_952 : decode cL_law 952 = .ok (.goto 4, 3) := by decide +kernel
theorem dL_law_955 : decode cL_law 955 = .ok (.iconst 0, 1) := by decide +kernel
theorem dL_law_956 : decode cL_law 956 = .ok (.istore 10, 2) := by decide +kernel
theorem dL_law_958 : decode cL_law 958 = .ok (.goto 81, 3) := by decide +kernel
theorem dL_law_961 : decode cL_law 961 = .ok (.iload 11, 2) := by decide +kernel
theorem dL_law_963 : decode cL_law 963 = .ok (.iconst 5, 1) := by decide +kernel
theorem dL_law_964 : decode cL_law 964 = .ok (.if_icmp .ne 12, 3) := by decide +kernel
theorem dL_law_967 : decode cL_law 967 = .ok (.aload_n 1, 1) := by decide +kernel
theorem dL_law_968 : decode cL_law 968 = .ok (.invokestatic 124, 3) := by decide +kernel
theorem dL_law_971 : decode cL_law 971 = .ok (.istore 10, 2) := by decide +kernel
theorem dL_law_973 : decode cL_law 973 = .ok (.goto 66, 3) := by decide +kernel
theorem dL_law_976 : decode cL_law 976 = .ok (.aload_n 1, 1) := by decide +kernel
theorem dL_law_977 : decode cL_law 977 = .ok (.invokevirtual 19, 3) := by decide +kernel
theorem dL_law_980 : decode cL_law 980 = .ok (.istore 12, 2) := by decide +kernel
theorem dL_law_982 : decode cL_law 982 = .ok (.iload 12, 2) := by decide +kernel
theorem dL_law_984 : decode cL_law 984 = .ok (.iconst 2, 1) := by decide +kernel
theorem dL_law_985 : decode cL_law 985 = .ok (.if_icmp .lt 47, 3) := by decide +kernel
theorem dL_law_988 : decode cL_law 988 = .ok (.aload_n 1, 1) := by decide +kernel
theorem dL_law_989 : decode cL_law 989 = .ok (.iload 7, 2) := by decide +kernel
theorem dL_law_991 : decode cL_law 991 = .ok (.invokevirtual 50, 3) := by decide +kernel
theorem dL_law_994 : decode cL_law 994 = .ok (.iload 12, 2) := by decide +kernel
theorem dL_law_996 : decode cL_law 996 = .ok (.iconst 1, 1) := by decide +kernel
theorem dL_law_997 : decode cL_law 997 = .ok (.isub, 1) := by decide +kernel
theorem dL_law_998 : decode cL_law 998 = .ok (.if_icmp .ne 38, 3) := by decide +kernel
theorem dL_law_1001 : decode cL_law 1001 = .ok (.iload 12, 2) := by decide +kernel
theorem dL_law_1003 : decode cL_law 1003 = .ok (.iconst 2, 1) := by decide +kernel
theorem dL_law_1004 : decode cL_law 1004 = .ok (.if_icmp .lt 11, 3) := by decide +kernel
theorem dL_law_1007 : decode cL_law 1007 = .ok (.aload_n 1, 1) := by decide +kernel
theorem dL_law_1008 : decode cL_law 1008 = .ok (.iconst 0, 1) := by decide +kernel
theorem dL_law_1009 : decode cL_law 1009 = .ok (.invokestatic 127, 3) := by decide +kernel
theorem dL_law_1012 : decode cL_law 1012 = .ok (.ifCond .eq 24, 3) := by decide +kernel
theorem dL_law_1015 : decode cL_law 1015 = .ok (.aload_n 1, 1) := by decide +kernel
theorem dL_law_1016 : decode cL_law 1016 = .ok (.invokevirtual 102, 3) := by decide +kernel
theorem dL_law_1019 : decode cL_law 1019 = .ok (.ifCond .lt 17, 3) := by decide +kernel
theorem dL_law_1022 : decode cL_law 1022 = .ok (.aload_n 1, 1) := by decide +kernel
theorem dL_law_1023 : decode cL_law 1023 = .ok (.invokevirtual 9, 3) := by decide +kernel
theorem dL_law_1026 : decode cL_law 1026 = .ok (.lload 8, 2) := by decide +kernel
theorem dL_law_1028 : decode cL_law 1028 = .ok (.lcmp, 1) := by decide +kernel
theorem dL_law_1029 : decode cL_law 1029 = .ok (.ifCond .ne 7, 3) := by decide +kernel
theorem dL_law_1032 : decode cL_law 1032 = .ok (.iconst 1, 1) := by decide +kernel
theorem dL_law_1033 : decode cL_law 1033 = .ok (.goto 4, 3) := by decide +kernel
theorem dL_law_1036 : decode cL_law 1036 = .ok (.iconst 0, 1) := by decide +kernel
theorem dL_law_1037 : decode cL_law 1037 = .ok (.istore 10, 2) := by decide +kernel
theorem dL_law_1039 : decode cL_law 1039 = .ok (.iload 10, 2) := by decide +kernel
theorem dL_law_1041 : decode cL_law 1041 = .ok (.ifCond .eq 10, 3) := by decide +kernel
theorem dL_law_1044 : decode cL_law 1044 = .ok (.aload_n 1, 1) := by decide +kernel
theorem dL_law_1045 : decode cL_law 1045 = .ok (.invokestatic 130, 3) := by decide +kernel
theorem dL_law_1048 : decode cL_law 1048 = .ok (.ifCond .ne 5, 3) := by decide +kernel
theorem dL_law_1051 : decode cL_law 1051 = .ok (.iconst 0, 1) := by decide +kernel
theorem dL_law_1052 : decode cL_law 1052 = .ok (.ireturn, 1) := by decide +kernel
theorem dL_law_1053 : decode cL_law 1053 = .ok (.iconst 0, 1) := by decide +kernel
theorem dL_law_1054 : decode cL_law 1054 = .ok (.istore 12, 2) := by decide +kernel
theorem dL_law_1056 : decode cL_law 1056 = .ok (.iload 12, 2) := by decide +kernel
theorem dL_law_1058 : decode cL_law 1058 = .ok (.aload_n 1, 1) := by decide +kernel
theorem dL_law_1059 : decode cL_law 1059 = .ok (.invokevirtual 19, 3) := by decide +kernel
theorem dL_law_1062 : decode cL_law 1062 = .ok (.if_icmp .ge 20, 3) := by decide +kernel
theorem dL_law_1065 : decode cL_law 1065 = .ok (.aload_n 1, 1) := by decide +kernel
theorem dL_law_1066 : decode cL_law 1066 = .ok (.iload 12, 2) := by decide +kernel
theorem dL_law_1068 : decode cL_law 1068 = .ok (.invokestatic 127, 3) := by decide +kernel
theorem dL_law_1071 : decode cL_law 1071 = .ok (.ifCond .ne 5, 3) := by decide +kernel
theorem dL_law_1074 : decode cL_law 1074 = .ok (.iconst 0, 1) := by decide +kernel
theorem dL_law_1075 : decode cL_law 1075 = .ok (.ireturn, 1) := by decide +kernel
theorem dL_law_1076 : decode cL_law 1076 = .ok (.iinc 12 1, 3) := by decide +kernel
theorem dL_law_1079 : decode cL_law 1079 = .ok (.goto (-23), 3) := by decide +kernel
theorem dL_law_1082 : decode cL_law 1082 = .ok (.aload_n 1, 1) := by decide +kernel
theorem dL_law_1083 : decode cL_law 1083 = .ok (.iload 6, 2) := by decide +kernel
theorem dL_law_1085 : decode cL_law 1085 = .ok (.bipush 8, 2) := by decide +kernel
theorem dL_law_1087 : decode cL_law 1087 = .ok (.ishr, 1) := by decide +kernel
theorem dL_law_1088 : decode cL_law 1088 = .ok (.sipush 150, 3) := by decide +kernel
theorem dL_law_1091 : decode cL_law 1091 = .ok (.invokestatic 105, 3) := by decide +kernel
theorem dL_law_1094 : decode cL_law 1094 = .ok (.invokestatic 132, 3) := by decide +kernel
theorem dL_law_1097 : decode cL_law 1097 = .ok (.ifCond .eq 14, 3) := by decide +kernel
theorem dL_law_1100 : decode cL_law 1100 = .ok (.aload_n 1, 1) := by decide +kernel
theorem dL_law_1101 : decode cL_law 1101 = .ok (.aload_n 1, 1) := by decide +kernel
theorem dL_law_1102 : decode cL_law 1102 = .ok (.invokevirtual 84, 3) := by decide +kernel
theorem dL_law_1105 : decode cL_law 1105 = .ok (.invokestatic 132, 3) := by decide +kernel
theorem dL_law_1108 : decode cL_law 1108 = .ok (.ifCond .ne 5, 3) := by decide +kernel
theorem dL_law_1111 : decode cL_law 1111 = .ok (.iconst 0, 1) := by decide +kernel
theorem dL_law_1112 : decode cL_law 1112 = .ok (.ireturn, 1) := by decide +kernel
theorem dL_law_1113 : decode cL_law 1113 = .ok (.iinc 4 1, 3) := by decide +kernel
theorem dL_law_1116 : decode cL_law 1116 = .ok (.goto (-730), 3) := by decide +kernel
theorem dL_law_1119 : decode cL_law 1119 = .ok (.aload_n 1, 1) := by decide +kernel
theorem dL_law_1120 : decode cL_law 1120 = .ok (.invokestatic 124, 3) := by decide +kernel
theorem dL_law_1123 : decode cL_law 1123 = .ok (.ifCond .eq 14, 3) := by decide +kernel
theorem dL_law_1126 : decode cL_law 1126 = .ok (.aload_n 1, 1) := by decide +kernel
theorem dL_law_1127 : decode cL_law 1127 = .ok (.invokestatic 109, 3) := by decide +kernel
theorem dL_law_1130 : decode cL_law 1130 = .ok (.ifCond .eq 7, 3) := by decide +kernel
theorem dL_law_1133 : decode cL_law 1133 = .ok (.iconst 1, 1) := by decide +kernel
theorem dL_law_1134 : decode cL_law 1134 = .ok (.goto 4, 3) := by decide +kernel
theorem dL_law_1137 : decode cL_law 1137 = .ok (.iconst 0, 1) := by decide +kernel
theorem dL_law_1138 : decode cL_law 1138 = .ok (.ireturn, 1) := by decide +kernel
abbrev vwCl : List vw_C := [(RX0, TX0, 3), (RX1, TX1, 5), (RX2, TX2, 12), (RX3, TX3, 3), (RX4, TX4, 8), (RX5, TX5, 1), (RX6, TX6, 4), (RX7, TX7, 3), (RX8, TX8, 3), (RX9, TX9, 8), (RX9, TX9, 8)]
