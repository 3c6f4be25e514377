section
-- ===== PART A: goes FIRST, ahead of the names: the tables' words, and 'selects' of the private methods out of them =====
/-- a private method of a class that the tables say can be made, by its rows of tables_1 -/
def lw_okq (q : MethodName × Nat) : Prop := (q.1.cls ≠ "java/lang/invoke/MethodHandle" ∧ q.1.cls ≠ "java/lang/invoke/VarHandle") ∧ Cond.instantiable q.1.cls q.2 ∈ tables_1 ∧ Cond.privateMethod q.1 ∈ tables_1 ∧ Cond.instanceMethod q.1 ∈ tables_1
theorem lw_p0 : lw_okq (⟨"PrefixBook", "mean", "(IJJ)V"⟩, 9) := ⟨⟨by decide +kernel, by decide +kernel⟩, List.mem_of_getElem? (i := 4) (by decide +kernel), List.mem_of_getElem? (i := 50) (by decide +kernel), List.mem_of_getElem? (i := 51) (by decide +kernel)⟩
theorem lw_p1 : lw_okq (⟨"PrefixBook", "isPrefix", "(I)Z"⟩, 9) := ⟨⟨by decide +kernel, by decide +kernel⟩, List.mem_of_getElem? (i := 4) (by decide +kernel), List.mem_of_getElem? (i := 58) (by decide +kernel), List.mem_of_getElem? (i := 59) (by decide +kernel)⟩
theorem lw_p2 : lw_okq (⟨"PrefixBook", "isLength", "(I)Z"⟩, 9) := ⟨⟨by decide +kernel, by decide +kernel⟩, List.mem_of_getElem? (i := 4) (by decide +kernel), List.mem_of_getElem? (i := 62) (by decide +kernel), List.mem_of_getElem? (i := 63) (by decide +kernel)⟩
theorem lw_p3 : lw_okq (⟨"PrefixBook", "countAhead", "(I)I"⟩, 9) := ⟨⟨by decide +kernel, by decide +kernel⟩, List.mem_of_getElem? (i := 4) (by decide +kernel), List.mem_of_getElem? (i := 79) (by decide +kernel), List.mem_of_getElem? (i := 80) (by decide +kernel)⟩
theorem lw_p4 : lw_okq (⟨"PrefixBook", "standsAhead", "(II)Z"⟩, 9) := ⟨⟨by decide +kernel, by decide +kernel⟩, List.mem_of_getElem? (i := 4) (by decide +kernel), List.mem_of_getElem? (i := 83) (by decide +kernel), List.mem_of_getElem? (i := 84) (by decide +kernel)⟩
theorem lw_p5 : lw_okq (⟨"PrefixBook", "standsAt", "(II)Z"⟩, 9) := ⟨⟨by decide +kernel, by decide +kernel⟩, List.mem_of_getElem? (i := 4) (by decide +kernel), List.mem_of_getElem? (i := 91) (by decide +kernel), List.mem_of_getElem? (i := 92) (by decide +kernel)⟩
theorem lw_p6 : lw_okq (⟨"PrefixBook", "openPlace", "(I)V"⟩, 9) := ⟨⟨by decide +kernel, by decide +kernel⟩, List.mem_of_getElem? (i := 4) (by decide +kernel), List.mem_of_getElem? (i := 95) (by decide +kernel), List.mem_of_getElem? (i := 96) (by decide +kernel)⟩
theorem lw_p7 : lw_okq (⟨"PrefixBook", "copyPlace", "(II)V"⟩, 9) := ⟨⟨by decide +kernel, by decide +kernel⟩, List.mem_of_getElem? (i := 4) (by decide +kernel), List.mem_of_getElem? (i := 99) (by decide +kernel), List.mem_of_getElem? (i := 100) (by decide +kernel)⟩
theorem lw_p8 : lw_okq (⟨"PrefixBook", "write", "(III)V"⟩, 9) := ⟨⟨by decide +kernel, by decide +kernel⟩, List.mem_of_getElem? (i := 4) (by decide +kernel), List.mem_of_getElem? (i := 103) (by decide +kernel), List.mem_of_getElem? (i := 104) (by decide +kernel)⟩
theorem lw_p9 : lw_okq (⟨"PrefixBook", "closePlace", "(I)V"⟩, 9) := ⟨⟨by decide +kernel, by decide +kernel⟩, List.mem_of_getElem? (i := 4) (by decide +kernel), List.mem_of_getElem? (i := 111) (by decide +kernel), List.mem_of_getElem? (i := 112) (by decide +kernel)⟩
theorem lw_p10 : lw_okq (⟨"PrefixBook", "coversMeant", "(I)Z"⟩, 9) := ⟨⟨by decide +kernel, by decide +kernel⟩, List.mem_of_getElem? (i := 4) (by decide +kernel), List.mem_of_getElem? (i := 124) (by decide +kernel), List.mem_of_getElem? (i := 125) (by decide +kernel)⟩
theorem lw_p11 : lw_okq (⟨"PrefixBookModel", "isPrefix", "(I)Z"⟩, 9) := ⟨⟨by decide +kernel, by decide +kernel⟩, List.mem_of_getElem? (i := 148) (by decide +kernel), List.mem_of_getElem? (i := 191) (by decide +kernel), List.mem_of_getElem? (i := 192) (by decide +kernel)⟩
theorem lw_p12 : lw_okq (⟨"PrefixBookModel", "isLength", "(I)Z"⟩, 9) := ⟨⟨by decide +kernel, by decide +kernel⟩, List.mem_of_getElem? (i := 148) (by decide +kernel), List.mem_of_getElem? (i := 195) (by decide +kernel), List.mem_of_getElem? (i := 196) (by decide +kernel)⟩
theorem lw_p13 : lw_okq (⟨"PrefixBookModel", "find", "(I)I"⟩, 9) := ⟨⟨by decide +kernel, by decide +kernel⟩, List.mem_of_getElem? (i := 148) (by decide +kernel), List.mem_of_getElem? (i := 202) (by decide +kernel), List.mem_of_getElem? (i := 203) (by decide +kernel)⟩
theorem lw_p14 : lw_okq (⟨"PrefixBookModel", "covers", "(I)Z"⟩, 9) := ⟨⟨by decide +kernel, by decide +kernel⟩, List.mem_of_getElem? (i := 148) (by decide +kernel), List.mem_of_getElem? (i := 219) (by decide +kernel), List.mem_of_getElem? (i := 220) (by decide +kernel)⟩
theorem lw_p15 : lw_okq (⟨"PrefixBookModel", "countAhead", "(IJJI)I"⟩, 9) := ⟨⟨by decide +kernel, by decide +kernel⟩, List.mem_of_getElem? (i := 148) (by decide +kernel), List.mem_of_getElem? (i := 231) (by decide +kernel), List.mem_of_getElem? (i := 232) (by decide +kernel)⟩
def lw_privs_1 : List (MethodName × Nat) := [(⟨"PrefixBook", "mean", "(IJJ)V"⟩, 9), (⟨"PrefixBook", "isPrefix", "(I)Z"⟩, 9), (⟨"PrefixBook", "isLength", "(I)Z"⟩, 9), (⟨"PrefixBook", "countAhead", "(I)I"⟩, 9), (⟨"PrefixBook", "standsAhead", "(II)Z"⟩, 9), (⟨"PrefixBook", "standsAt", "(II)Z"⟩, 9), (⟨"PrefixBook", "openPlace", "(I)V"⟩, 9), (⟨"PrefixBook", "copyPlace", "(II)V"⟩, 9), (⟨"PrefixBook", "write", "(III)V"⟩, 9), (⟨"PrefixBook", "closePlace", "(I)V"⟩, 9), (⟨"PrefixBook", "coversMeant", "(I)Z"⟩, 9), (⟨"PrefixBookModel", "isPrefix", "(I)Z"⟩, 9), (⟨"PrefixBookModel", "isLength", "(I)Z"⟩, 9), (⟨"PrefixBookModel", "find", "(I)I"⟩, 9), (⟨"PrefixBookModel", "covers", "(I)Z"⟩, 9), (⟨"PrefixBookModel", "countAhead", "(IJJI)I"⟩, 9)]
theorem lw_r1 : ∀ q ∈ lw_privs_1, lw_okq q := List.forall_mem_cons.mpr ⟨lw_p0, List.forall_mem_cons.mpr ⟨lw_p1, List.forall_mem_cons.mpr ⟨lw_p2, List.forall_mem_cons.mpr ⟨lw_p3, List.forall_mem_cons.mpr ⟨lw_p4, List.forall_mem_cons.mpr ⟨lw_p5, List.forall_mem_cons.mpr ⟨lw_p6, List.forall_mem_cons.mpr ⟨lw_p7, List.forall_mem_cons.mpr ⟨lw_p8, List.forall_mem_cons.mpr ⟨lw_p9, List.forall_mem_cons.mpr ⟨lw_p10, List.forall_mem_cons.mpr ⟨lw_p11, List.forall_mem_cons.mpr ⟨lw_p12, List.forall_mem_cons.mpr ⟨lw_p13, List.forall_mem_cons.mpr ⟨lw_p14, List.forall_mem_cons.mpr ⟨lw_p15, fun _ h => absurd h List.not_mem_nil⟩⟩⟩⟩⟩⟩⟩⟩⟩⟩⟩⟩⟩⟩⟩⟩
theorem lw_p16 : lw_okq (⟨"PrefixBookModel", "isAhead", "(IIJJI)Z"⟩, 9) := ⟨⟨by decide +kernel, by decide +kernel⟩, List.mem_of_getElem? (i := 148) (by decide +kernel), List.mem_of_getElem? (i := 235) (by decide +kernel), List.mem_of_getElem? (i := 236) (by decide +kernel)⟩
def lw_privs_2 : List (MethodName × Nat) := [(⟨"PrefixBookModel", "isAhead", "(IIJJI)Z"⟩, 9)]
theorem lw_r2 : ∀ q ∈ lw_privs_2, lw_okq q := List.forall_mem_cons.mpr ⟨lw_p16, fun _ h => absurd h List.not_mem_nil⟩
def lw_privs : List (MethodName × Nat) := lw_privs_1 ++ (lw_privs_2)
def lw_tbl : List Cond := k2_sels lw_privs ++ tables_1
theorem lw_privs_ok : ∀ q ∈ lw_privs, lw_okq q := by
  show ∀ q ∈ lw_privs_1 ++ (lw_privs_2), lw_okq q
  exact List.forall_mem_append.mpr ⟨lw_r1, lw_r2⟩

/-- the words that last over calls -/
def ltg : List Cond := lw_tbl.filter (fun w => k2_isCode w || goodWord w)
abbrev RX0 : String := "PrefixBook"
abbrev RX1 : String := "PrefixBookModel"
abbrev RL : String := "PrefixBookLaw"
def TX0 : u_T := fun k => match k with
  | 0 => ("PrefixBook", "families", "[I", true)
  | 1 => ("PrefixBook", "uppers", "[J", true)
  | 2 => ("PrefixBook", "lowers", "[J", true)
  | 3 => ("PrefixBook", "lengths", "[I", true)
  | 4 => ("PrefixBook", "numbers", "[I", true)
  | 5 => ("PrefixBook", "count", "I", false)
  | 6 => ("PrefixBook", "meantFamily", "I", false)
  | 7 => ("PrefixBook", "meantUpper", "J", false)
  | _ => ("PrefixBook", "meantLower", "J", false)
def tyX0 : Nat → FieldType := fun k => match k with
  | 0 => .array .int
  | 1 => .array .long
  | 2 => .array .long
  | 3 => .array .int
  | 4 => .array .int
  | 5 => .int
  | 6 => .int
  | 7 => .long
  | _ => .long
theorem nmX0 : ∀ a, a < 9 → ∀ b, b < 9 → a ≠ b → (TX0 a).2.1 ≠ (TX0 b).2.1 := by decide +kernel
theorem tyX0_ok : ∀ k, k < 9 → parseFieldDescriptor (TX0 k).2.2.1 = some (tyX0 k) := by decide +kernel
theorem inX0 : ∀ w ∈ u_ws RX0 TX0 9, w ∈ ltg := by decide +kernel
def TX1 : u_T := fun k => match k with
  | 0 => ("PrefixBookModel", "families", "[I", true)
  | 1 => ("PrefixBookModel", "lengths", "[I", true)
  | 2 => ("PrefixBookModel", "numbers", "[I", true)
  | 3 => ("PrefixBookModel", "uppers", "[J", true)
  | 4 => ("PrefixBookModel", "lowers", "[J", true)
  | 5 => ("PrefixBookModel", "many", "I", false)
  | 6 => ("PrefixBookModel", "family", "I", false)
  | 7 => ("PrefixBookModel", "upper", "J", false)
  | _ => ("PrefixBookModel", "lower", "J", false)
def tyX1 : Nat → FieldType := fun k => match k with
  | 0 => .array .int
  | 1 => .array .int
  | 2 => .array .int
  | 3 => .array .long
  | 4 => .array .long
  | 5 => .int
  | 6 => .int
  | 7 => .long
  | _ => .long
theorem nmX1 : ∀ a, a < 9 → ∀ b, b < 9 → a ≠ b → (TX1 a).2.1 ≠ (TX1 b).2.1 := by decide +kernel
theorem tyX1_ok : ∀ k, k < 9 → parseFieldDescriptor (TX1 k).2.2.1 = some (tyX1 k) := by decide +kernel
theorem inX1 : ∀ w ∈ u_ws RX1 TX1 9, w ∈ ltg := by decide +kernel
abbrev classes : List vw_C := [(RX0, TX0, 9), (RX1, TX1, 9)]
abbrev cX0_init : ByteArray := prog_1_method_1_code
abbrev yX0_init : MethodName := ⟨RX0, "<init>", "()V"⟩
abbrev cX0_address : ByteArray := prog_1_method_2_code
abbrev yX0_address : MethodName := ⟨RX0, "address", "(IJJ)Z"⟩
abbrev cX0_isAddress : ByteArray := prog_1_method_12_code
abbrev yX0_isAddress : MethodName := ⟨RX0, "isAddress", "(IJJ)Z"⟩
abbrev cX0_mean : ByteArray := prog_1_method_13_code
abbrev yX0_mean : MethodName := ⟨RX0, "mean", "(IJJ)V"⟩
abbrev cX0_put : ByteArray := prog_1_method_3_code
abbrev yX0_put : MethodName := ⟨RX0, "put", "(II)I"⟩
abbrev cX0_isPrefix : ByteArray := prog_1_method_15_code
abbrev yX0_isPrefix : MethodName := ⟨RX0, "isPrefix", "(I)Z"⟩
abbrev cX0_isLength : ByteArray := prog_1_method_14_code
abbrev yX0_isLength : MethodName := ⟨RX0, "isLength", "(I)Z"⟩
abbrev cX0_bitsOfWhole : ByteArray := prog_1_method_16_code
abbrev yX0_bitsOfWhole : MethodName := ⟨RX0, "bitsOfWhole", "(II)I"⟩
abbrev cX0_upperMask : ByteArray := prog_1_method_17_code
abbrev yX0_upperMask : MethodName := ⟨RX0, "upperMask", "(I)J"⟩
abbrev cX0_firstBits : ByteArray := prog_1_method_19_code
abbrev yX0_firstBits : MethodName := ⟨RX0, "firstBits", "(I)J"⟩
abbrev cX0_lowerMask : ByteArray := prog_1_method_18_code
abbrev yX0_lowerMask : MethodName := ⟨RX0, "lowerMask", "(I)J"⟩
abbrev cX0_countAhead : ByteArray := prog_1_method_21_code
abbrev yX0_countAhead : MethodName := ⟨RX0, "countAhead", "(I)I"⟩
abbrev cX0_standsAhead : ByteArray := prog_1_method_22_code
abbrev yX0_standsAhead : MethodName := ⟨RX0, "standsAhead", "(II)Z"⟩
abbrev cX0_isBelow : ByteArray := prog_1_method_23_code
abbrev yX0_isBelow : MethodName := ⟨RX0, "isBelow", "(JJ)Z"⟩
abbrev cX0_standsAt : ByteArray := prog_1_method_24_code
abbrev yX0_standsAt : MethodName := ⟨RX0, "standsAt", "(II)Z"⟩
abbrev cX0_openPlace : ByteArray := prog_1_method_25_code
abbrev yX0_openPlace : MethodName := ⟨RX0, "openPlace", "(I)V"⟩
abbrev cX0_copyPlace : ByteArray := prog_1_method_27_code
abbrev yX0_copyPlace : MethodName := ⟨RX0, "copyPlace", "(II)V"⟩
abbrev cX0_write : ByteArray := prog_1_method_28_code
abbrev yX0_write : MethodName := ⟨RX0, "write", "(III)V"⟩
abbrev cX0_remove : ByteArray := prog_1_method_4_code
abbrev yX0_remove : MethodName := ⟨RX0, "remove", "(I)I"⟩
abbrev cX0_closePlace : ByteArray := prog_1_method_26_code
abbrev yX0_closePlace : MethodName := ⟨RX0, "closePlace", "(I)V"⟩
abbrev cX0_number : ByteArray := prog_1_method_5_code
abbrev yX0_number : MethodName := ⟨RX0, "number", "(I)I"⟩
abbrev cX0_longest : ByteArray := prog_1_method_6_code
abbrev yX0_longest : MethodName := ⟨RX0, "longest", "()I"⟩
abbrev cX0_coversMeant : ByteArray := prog_1_method_20_code
abbrev yX0_coversMeant : MethodName := ⟨RX0, "coversMeant", "(I)Z"⟩
abbrev cX0_covering : ByteArray := prog_1_method_7_code
abbrev yX0_covering : MethodName := ⟨RX0, "covering", "()I"⟩
abbrev cX0_ahead : ByteArray := prog_1_method_8_code
abbrev yX0_ahead : MethodName := ⟨RX0, "ahead", "(I)I"⟩
abbrev cX0_at : ByteArray := prog_1_method_9_code
abbrev yX0_at : MethodName := ⟨RX0, "at", "(I)I"⟩
abbrev cX0_size : ByteArray := prog_1_method_10_code
abbrev yX0_size : MethodName := ⟨RX0, "size", "()I"⟩
abbrev cX0_told : ByteArray := prog_1_method_11_code
abbrev yX0_told : MethodName := ⟨RX0, "told", "(I)J"⟩
abbrev cX1_init : ByteArray := prog_3_method_1_code
abbrev yX1_init : MethodName := ⟨RX1, "<init>", "()V"⟩
abbrev cX1_address : ByteArray := prog_3_method_2_code
abbrev yX1_address : MethodName := ⟨RX1, "address", "(IJJ)Z"⟩
abbrev cX1_put : ByteArray := prog_3_method_7_code
abbrev yX1_put : MethodName := ⟨RX1, "put", "(II)I"⟩
abbrev cX1_isPrefix : ByteArray := prog_3_method_5_code
abbrev yX1_isPrefix : MethodName := ⟨RX1, "isPrefix", "(I)Z"⟩
abbrev cX1_isLength : ByteArray := prog_3_method_3_code
abbrev yX1_isLength : MethodName := ⟨RX1, "isLength", "(I)Z"⟩
abbrev cX1_bit : ByteArray := prog_3_method_4_code
abbrev yX1_bit : MethodName := ⟨RX1, "bit", "(IJJI)I"⟩
abbrev cX1_find : ByteArray := prog_3_method_6_code
abbrev yX1_find : MethodName := ⟨RX1, "find", "(I)I"⟩
abbrev cX1_remove : ByteArray := prog_3_method_8_code
abbrev yX1_remove : MethodName := ⟨RX1, "remove", "(I)I"⟩
abbrev cX1_number : ByteArray := prog_3_method_9_code
abbrev yX1_number : MethodName := ⟨RX1, "number", "(I)I"⟩
abbrev cX1_longest : ByteArray := prog_3_method_11_code
abbrev yX1_longest : MethodName := ⟨RX1, "longest", "()I"⟩
abbrev cX1_covers : ByteArray := prog_3_method_10_code
abbrev yX1_covers : MethodName := ⟨RX1, "covers", "(I)Z"⟩
abbrev cX1_covering : ByteArray := prog_3_method_12_code
abbrev yX1_covering : MethodName := ⟨RX1, "covering", "()I"⟩
abbrev cX1_ahead : ByteArray := prog_3_method_16_code
abbrev yX1_ahead : MethodName := ⟨RX1, "ahead", "(I)I"⟩
abbrev cX1_countAhead : ByteArray := prog_3_method_15_code
abbrev yX1_countAhead : MethodName := ⟨RX1, "countAhead", "(IJJI)I"⟩
abbrev cX1_isAhead : ByteArray := prog_3_method_14_code
abbrev yX1_isAhead : MethodName := ⟨RX1, "isAhead", "(IIJJI)Z"⟩
abbrev cX1_compare : ByteArray := prog_3_method_13_code
abbrev yX1_compare : MethodName := ⟨RX1, "compare", "(JJ)I"⟩
abbrev cX1_at : ByteArray := prog_3_method_17_code
abbrev yX1_at : MethodName := ⟨RX1, "at", "(I)I"⟩
abbrev cX1_size : ByteArray := prog_3_method_18_code
abbrev yX1_size : MethodName := ⟨RX1, "size", "()I"⟩
abbrev cX1_told : ByteArray := prog_3_method_19_code
abbrev yX1_told : MethodName := ⟨RX1, "told", "(I)J"⟩
abbrev cL_law : ByteArray := code
set_option maxRecDepth 20000 in
theorem wcX0_init : Cond.code yX0_init cX0_init 1 none ∈ ltg := List.mem_filter.mpr ⟨List.mem_of_getElem? (i := 24) rfl, rfl⟩
set_option maxRecDepth 20000 in
theorem wcX0_address : Cond.code yX0_address cX0_address 6 (some .boolean) ∈ ltg := List.mem_filter.mpr ⟨List.mem_of_getElem? (i := 61) rfl, rfl⟩
set_option maxRecDepth 20000 in
theorem wcX0_isAddress : Cond.code yX0_isAddress cX0_isAddress 5 (some .boolean) ∈ ltg := List.mem_filter.mpr ⟨List.mem_of_getElem? (i := 64) rfl, rfl⟩
set_option maxRecDepth 20000 in
theorem wcX0_mean : Cond.code yX0_mean cX0_mean 6 none ∈ ltg := List.mem_filter.mpr ⟨List.mem_of_getElem? (i := 69) rfl, rfl⟩
set_option maxRecDepth 20000 in
theorem wcX0_put : Cond.code yX0_put cX0_put 4 (some .int) ∈ ltg := List.mem_filter.mpr ⟨List.mem_of_getElem? (i := 73) rfl, rfl⟩
set_option maxRecDepth 20000 in
theorem wcX0_isPrefix : Cond.code yX0_isPrefix cX0_isPrefix 3 (some .boolean) ∈ ltg := List.mem_filter.mpr ⟨List.mem_of_getElem? (i := 77) rfl, rfl⟩
set_option maxRecDepth 20000 in
theorem wcX0_isLength : Cond.code yX0_isLength cX0_isLength 3 (some .boolean) ∈ ltg := List.mem_filter.mpr ⟨List.mem_of_getElem? (i := 81) rfl, rfl⟩
set_option maxRecDepth 20000 in
theorem wcX0_bitsOfWhole : Cond.code yX0_bitsOfWhole cX0_bitsOfWhole 2 (some .int) ∈ ltg := List.mem_filter.mpr ⟨List.mem_of_getElem? (i := 84) rfl, rfl⟩
set_option maxRecDepth 20000 in
theorem wcX0_upperMask : Cond.code yX0_upperMask cX0_upperMask 1 (some .long) ∈ ltg := List.mem_filter.mpr ⟨List.mem_of_getElem? (i := 87) rfl, rfl⟩
set_option maxRecDepth 20000 in
theorem wcX0_firstBits : Cond.code yX0_firstBits cX0_firstBits 1 (some .long) ∈ ltg := List.mem_filter.mpr ⟨List.mem_of_getElem? (i := 90) rfl, rfl⟩
set_option maxRecDepth 20000 in
theorem wcX0_lowerMask : Cond.code yX0_lowerMask cX0_lowerMask 1 (some .long) ∈ ltg := List.mem_filter.mpr ⟨List.mem_of_getElem? (i := 94) rfl, rfl⟩
set_option maxRecDepth 20000 in
theorem wcX0_countAhead : Cond.code yX0_countAhead cX0_countAhead 3 (some .int) ∈ ltg := List.mem_filter.mpr ⟨List.mem_of_getElem? (i := 98) rfl, rfl⟩
set_option maxRecDepth 20000 in
theorem wcX0_standsAhead : Cond.code yX0_standsAhead cX0_standsAhead 3 (some .boolean) ∈ ltg := List.mem_filter.mpr ⟨List.mem_of_getElem? (i := 102) rfl, rfl⟩
set_option maxRecDepth 20000 in
theorem wcX0_isBelow : Cond.code yX0_isBelow cX0_isBelow 4 (some .boolean) ∈ ltg := List.mem_filter.mpr ⟨List.mem_of_getElem? (i := 105) rfl, rfl⟩
set_option maxRecDepth 20000 in
theorem wcX0_standsAt : Cond.code yX0_standsAt cX0_standsAt 3 (some .boolean) ∈ ltg := List.mem_filter.mpr ⟨List.mem_of_getElem? (i := 110) rfl, rfl⟩
set_option maxRecDepth 20000 in
theorem wcX0_openPlace : Cond.code yX0_openPlace cX0_openPlace 3 none ∈ ltg := List.mem_filter.mpr ⟨List.mem_of_getElem? (i := 114) rfl, rfl⟩
set_option maxRecDepth 20000 in
theorem wcX0_copyPlace : Cond.code yX0_copyPlace cX0_copyPlace 3 none ∈ ltg := List.mem_filter.mpr ⟨List.mem_of_getElem? (i := 118) rfl, rfl⟩
set_option maxRecDepth 20000 in
theorem wcX0_write : Cond.code yX0_write cX0_write 4 none ∈ ltg := List.mem_filter.mpr ⟨List.mem_of_getElem? (i := 122) rfl, rfl⟩
set_option maxRecDepth 20000 in
theorem wcX0_remove : Cond.code yX0_remove cX0_remove 3 (some .int) ∈ ltg := List.mem_filter.mpr ⟨List.mem_of_getElem? (i := 126) rfl, rfl⟩
set_option maxRecDepth 20000 in
theorem wcX0_closePlace : Cond.code yX0_closePlace cX0_closePlace 3 none ∈ ltg := List.mem_filter.mpr ⟨List.mem_of_getElem? (i := 130) rfl, rfl⟩
set_option maxRecDepth 20000 in
theorem wcX0_number : Cond.code yX0_number cX0_number 3 (some .int) ∈ ltg := List.mem_filter.mpr ⟨List.mem_of_getElem? (i := 134) rfl, rfl⟩
set_option maxRecDepth 20000 in
theorem wcX0_longest : Cond.code yX0_longest cX0_longest 3 (some .int) ∈ ltg := List.mem_filter.mpr ⟨List.mem_of_getElem? (i := 139) rfl, rfl⟩
set_option maxRecDepth 20000 in
theorem wcX0_coversMeant : Cond.code yX0_coversMeant cX0_coversMeant 3 (some .boolean) ∈ ltg := List.mem_filter.mpr ⟨List.mem_of_getElem? (i := 143) rfl, rfl⟩
set_option maxRecDepth 20000 in
theorem wcX0_covering : Cond.code yX0_covering cX0_covering 3 (some .int) ∈ ltg := List.mem_filter.mpr ⟨List.mem_of_getElem? (i := 147) rfl, rfl⟩
set_option maxRecDepth 20000 in
theorem wcX0_ahead : Cond.code yX0_ahead cX0_ahead 2 (some .int) ∈ ltg := List.mem_filter.mpr ⟨List.mem_of_getElem? (i := 151) rfl, rfl⟩
set_option maxRecDepth 20000 in
theorem wcX0_at : Cond.code yX0_at cX0_at 2 (some .int) ∈ ltg := List.mem_filter.mpr ⟨List.mem_of_getElem? (i := 155) rfl, rfl⟩
set_option maxRecDepth 20000 in
theorem wcX0_size : Cond.code yX0_size cX0_size 1 (some .int) ∈ ltg := List.mem_filter.mpr ⟨List.mem_of_getElem? (i := 159) rfl, rfl⟩
set_option maxRecDepth 20000 in
theorem wcX0_told : Cond.code yX0_told cX0_told 2 (some .long) ∈ ltg := List.mem_filter.mpr ⟨List.mem_of_getElem? (i := 163) rfl, rfl⟩
set_option maxRecDepth 20000 in
theorem wcX1_init : Cond.code yX1_init cX1_init 1 none ∈ ltg := List.mem_filter.mpr ⟨List.mem_of_getElem? (i := 168) rfl, rfl⟩
set_option maxRecDepth 20000 in
theorem wcX1_address : Cond.code yX1_address cX1_address 7 (some .boolean) ∈ ltg := List.mem_filter.mpr ⟨List.mem_of_getElem? (i := 201) rfl, rfl⟩
set_option maxRecDepth 20000 in
theorem wcX1_put : Cond.code yX1_put cX1_put 4 (some .int) ∈ ltg := List.mem_filter.mpr ⟨List.mem_of_getElem? (i := 206) rfl, rfl⟩
set_option maxRecDepth 20000 in
theorem wcX1_isPrefix : Cond.code yX1_isPrefix cX1_isPrefix 5 (some .boolean) ∈ ltg := List.mem_filter.mpr ⟨List.mem_of_getElem? (i := 210) rfl, rfl⟩
set_option maxRecDepth 20000 in
theorem wcX1_isLength : Cond.code yX1_isLength cX1_isLength 2 (some .boolean) ∈ ltg := List.mem_filter.mpr ⟨List.mem_of_getElem? (i := 214) rfl, rfl⟩
set_option maxRecDepth 20000 in
theorem wcX1_bit : Cond.code yX1_bit cX1_bit 6 (some .int) ∈ ltg := List.mem_filter.mpr ⟨List.mem_of_getElem? (i := 217) rfl, rfl⟩
set_option maxRecDepth 20000 in
theorem wcX1_find : Cond.code yX1_find cX1_find 3 (some .int) ∈ ltg := List.mem_filter.mpr ⟨List.mem_of_getElem? (i := 221) rfl, rfl⟩
set_option maxRecDepth 20000 in
theorem wcX1_remove : Cond.code yX1_remove cX1_remove 4 (some .int) ∈ ltg := List.mem_filter.mpr ⟨List.mem_of_getElem? (i := 225) rfl, rfl⟩
set_option maxRecDepth 20000 in
theorem wcX1_number : Cond.code yX1_number cX1_number 3 (some .int) ∈ ltg := List.mem_filter.mpr ⟨List.mem_of_getElem? (i := 229) rfl, rfl⟩
set_option maxRecDepth 20000 in
theorem wcX1_longest : Cond.code yX1_longest cX1_longest 3 (some .int) ∈ ltg := List.mem_filter.mpr ⟨List.mem_of_getElem? (i := 234) rfl, rfl⟩
set_option maxRecDepth 20000 in
theorem wcX1_covers : Cond.code yX1_covers cX1_covers 4 (some .boolean) ∈ ltg := List.mem_filter.mpr ⟨List.mem_of_getElem? (i := 238) rfl, rfl⟩
set_option maxRecDepth 20000 in
theorem wcX1_covering : Cond.code yX1_covering cX1_covering 3 (some .int) ∈ ltg := List.mem_filter.mpr ⟨List.mem_of_getElem? (i := 242) rfl, rfl⟩
set_option maxRecDepth 20000 in
theorem wcX1_ahead : Cond.code yX1_ahead cX1_ahead 2 (some .int) ∈ ltg := List.mem_filter.mpr ⟨List.mem_of_getElem? (i := 246) rfl, rfl⟩
set_option maxRecDepth 20000 in
theorem wcX1_countAhead : Cond.code yX1_countAhead cX1_countAhead 9 (some .int) ∈ ltg := List.mem_filter.mpr ⟨List.mem_of_getElem? (i := 250) rfl, rfl⟩
set_option maxRecDepth 20000 in
theorem wcX1_isAhead : Cond.code yX1_isAhead cX1_isAhead 10 (some .boolean) ∈ ltg := List.mem_filter.mpr ⟨List.mem_of_getElem? (i := 254) rfl, rfl⟩
set_option maxRecDepth 20000 in
theorem wcX1_compare : Cond.code yX1_compare cX1_compare 8 (some .int) ∈ ltg := List.mem_filter.mpr ⟨List.mem_of_getElem? (i := 257) rfl, rfl⟩
set_option maxRecDepth 20000 in
theorem wcX1_at : Cond.code yX1_at cX1_at 3 (some .int) ∈ ltg := List.mem_filter.mpr ⟨List.mem_of_getElem? (i := 262) rfl, rfl⟩
set_option maxRecDepth 20000 in
theorem wcX1_size : Cond.code yX1_size cX1_size 1 (some .int) ∈ ltg := List.mem_filter.mpr ⟨List.mem_of_getElem? (i := 266) rfl, rfl⟩
set_option maxRecDepth 20000 in
theorem wcX1_told : Cond.code yX1_told cX1_told 2 (some .long) ∈ ltg := List.mem_filter.mpr ⟨List.mem_of_getElem? (i := 270) rfl, rfl⟩
theorem flX0_9 : Cond.fieldLink RX0 9 "PrefixBook" "families" "[I" ∈ ltg := by decide +kernel
theorem flX0_13 : Cond.fieldLink RX0 13 "PrefixBook" "uppers" "[J" ∈ ltg := by decide +kernel
theorem flX0_17 : Cond.fieldLink RX0 17 "PrefixBook" "lowers" "[J" ∈ ltg := by decide +kernel
theorem flX0_20 : Cond.fieldLink RX0 20 "PrefixBook" "lengths" "[I" ∈ ltg := by decide +kernel
theorem flX0_23 : Cond.fieldLink RX0 23 "PrefixBook" "numbers" "[I" ∈ ltg := by decide +kernel
theorem flX0_26 : Cond.fieldLink RX0 26 "PrefixBook" "count" "I" ∈ ltg := by decide +kernel
theorem flX0_30 : Cond.fieldLink RX0 30 "PrefixBook" "meantFamily" "I" ∈ ltg := by decide +kernel
theorem flX0_33 : Cond.fieldLink RX0 33 "PrefixBook" "meantUpper" "J" ∈ ltg := by decide +kernel
theorem flX0_37 : Cond.fieldLink RX0 37 "PrefixBook" "meantLower" "J" ∈ ltg := by decide +kernel
theorem flX1_7 : Cond.fieldLink RX1 7 "PrefixBookModel" "families" "[I" ∈ ltg := by decide +kernel
theorem flX1_13 : Cond.fieldLink RX1 13 "PrefixBookModel" "lengths" "[I" ∈ ltg := by decide +kernel
theorem flX1_16 : Cond.fieldLink RX1 16 "PrefixBookModel" "numbers" "[I" ∈ ltg := by decide +kernel
theorem flX1_19 : Cond.fieldLink RX1 19 "PrefixBookModel" "uppers" "[J" ∈ ltg := by decide +kernel
theorem flX1_23 : Cond.fieldLink RX1 23 "PrefixBookModel" "lowers" "[J" ∈ ltg := by decide +kernel
theorem flX1_26 : Cond.fieldLink RX1 26 "PrefixBookModel" "family" "I" ∈ ltg := by decide +kernel
theorem flX1_32 : Cond.fieldLink RX1 32 "PrefixBookModel" "upper" "J" ∈ ltg := by decide +kernel
theorem flX1_36 : Cond.fieldLink RX1 36 "PrefixBookModel" "lower" "J" ∈ ltg := by decide +kernel
theorem flX1_47 : Cond.fieldLink RX1 47 "PrefixBookModel" "many" "I" ∈ ltg := by decide +kernel
theorem wa_int : Cond.arrayClass (newarray.typeOf .int) ∈ ltg := by decide +kernel
theorem wa_long : Cond.arrayClass (newarray.typeOf .long) ∈ ltg := by decide +kernel
set_option maxRecDepth 20000 in
theorem wo_1 : Cond.instanceMethod objectInit ∈ ltg := by decide +kernel
set_option maxRecDepth 20000 in
theorem wo_0 : Cond.methodLink RX0 3 objectInit ∈ ltg := by decide +kernel
set_option maxRecDepth 20000 in
theorem wo_2 : Cond.methodLink RX1 1 objectInit ∈ ltg := by decide +kernel
set_option maxRecDepth 20000 in
theorem wo_c : Cond.code objectInit ⟨#[0xb1]⟩ 1 none ∈ ltg := List.mem_filter.mpr ⟨List.mem_of_getElem? (i := 27) rfl, rfl⟩
theorem kcX0_71 : Cond.constant RX0 71 (-2147483648) ∈ ltg := by decide +kernel
theorem kcX0_78 : Cond.constantLong RX0 78 (4294967296) ∈ ltg := by decide +kernel
theorem kcX0_88 : Cond.constantLong RX0 88 (-1) ∈ ltg := by decide +kernel
theorem kcX0_103 : Cond.constantLong RX0 103 (-9223372036854775808) ∈ ltg := by decide +kernel
theorem kcX1_30 : Cond.constantLong RX1 30 (4294967296) ∈ ltg := by decide +kernel
theorem kcX1_57 : Cond.constant RX1 57 (-2147483648) ∈ ltg := by decide +kernel
theorem kcX1_61 : Cond.constantLong RX1 61 (-9223372036854775808) ∈ ltg := by decide +kernel
theorem kcL_13 : Cond.constantLong RL 13 (4294967295) ∈ ltg := by decide +kernel
end
section
theorem dX0_init_0 : decode cX0_init 0 = .ok (.aload_n 0, 1) := by decide +kernel
theorem dX0_init_1 : decode cX0_init 1 = .ok (.invokespecial 3, 3) := by decide +kernel
theorem dX0_init_4 : decode cX0_init 4 = .ok (.aload_n 0, 1) := by decide +kernel
theorem dX0_init_5 : decode cX0_init 5 = .ok (.sipush 1000, 3) := by decide +kernel
theorem dX0_init_8 : decode cX0_init 8 = .ok (.newarray .int, 2) := by decide +kernel
theorem dX0_init_10 : decode cX0_init 10 = .ok (.putfield 9, 3) := by decide +kernel
theorem dX0_init_13 : decode cX0_init 13 = .ok (.aload_n 0, 1) := by decide +kernel
theorem dX0_init_14 : decode cX0_init 14 = .ok (.sipush 1000, 3) := by decide +kernel
theorem dX0_init_17 : decode cX0_init 17 = .ok (.newarray .long, 2) := by decide +kernel
theorem dX0_init_19 : decode cX0_init 19 = .ok (.putfield 13, 3) := by decide +kernel
theorem dX0_init_22 : decode cX0_init 22 = .ok (.aload_n 0, 1) := by decide +kernel
theorem dX0_init_23 : decode cX0_init 23 = .ok (.sipush 1000, 3) := by decide +kernel
theorem dX0_init_26 : decode cX0_init 26 = .ok (.newarray .long, 2) := by decide +kernel
theorem dX0_init_28 : decode cX0_init 28 = .ok (.putfield 17, 3) := by decide +kernel
theorem dX0_init_31 : decode cX0_init 31 = .ok (.aload_n 0, 1) := by decide +kernel
theorem dX0_init_32 : decode cX0_init 32 = .ok (.sipush 1000, 3) := by decide +kernel
theorem dX0_init_35 : decode cX0_init 35 = .ok (.newarray .int, 2) := by decide +kernel
theorem dX0_init_37 : decode cX0_init 37 = .ok (.putfield 20, 3) := by decide +kernel
theorem dX0_init_40 : decode cX0_init 40 = .ok (.aload_n 0, 1) := by decide +kernel
theorem dX0_init_41 : decode cX0_init 41 = .ok (.sipush 1000, 3) := by decide +kernel
theorem dX0_init_44 : decode cX0_init 44 = .ok (.newarray .int, 2) := by decide +kernel
theorem dX0_init_46 : decode cX0_init 46 = .ok (.putfield 23, 3) := by decide +kernel
theorem dX0_init_49 : decode cX0_init 49 = .ok (.aload_n 0, 1) := by decide +kernel
theorem dX0_init_50 : decode cX0_init 50 = .ok (.iconst 0, 1) := by decide +kernel
theorem dX0_init_51 : decode cX0_init 51 = .ok (.putfield 26, 3) := by decide +kernel
theorem dX0_init_54 : decode cX0_init 54 = .ok (.aload_n 0, 1) := by decide +kernel
theorem dX0_init_55 : decode cX0_init 55 = .ok (.iconst 4, 1) := by decide +kernel
theorem dX0_init_56 : decode cX0_init 56 = .ok (.putfield 30, 3) := by decide +kernel
theorem dX0_init_59 : decode cX0_init 59 = .ok (.aload_n 0, 1) := by decide +kernel
theorem dX0_init_60 : decode cX0_init 60 = .ok (.lconst 0, 1) := by decide +kernel
theorem dX0_init_61 : decode cX0_init 61 = .ok (.putfield 33, 3) := by decide +kernel
theorem dX0_init_64 : decode cX0_init 64 = .ok (.aload_n 0, 1) := by decide +kernel
theorem dX0_init_65 : decode cX0_init 65 = .ok (.lconst 0, 1) := by decide +kernel
theorem dX0_init_66 : decode cX0_init 66 = .ok (.putfield 37, 3) := by decide +kernel
theorem dX0_init_69 : decode cX0_init 69 = .ok (.return_, 1) := by decide +kernel
theorem dX0_address_0 : decode cX0_address 0 = .ok (.iload_n 1, 1) := by decide +kernel
theorem dX0_address_1 : decode cX0_address 1 = .ok (.lload_n 2, 1) := by decide +kernel
theorem dX0_address_2 : decode cX0_address 2 = .ok (.lload 4, 2) := by decide +kernel
theorem dX0_address_4 : decode cX0_address 4 = .ok (.invokestatic 40, 3) := by decide +kernel
theorem dX0_address_7 : decode cX0_address 7 = .ok (.ifCond .ne 5, 3) := by decide +kernel
theorem dX0_address_10 : decode cX0_address 10 = .ok (.iconst 0, 1) := by decide +kernel
theorem dX0_address_11 : decode cX0_address 11 = .ok (.ireturn, 1) := by decide +kernel
theorem dX0_address_12 : decode cX0_address 12 = .ok (.aload_n 0, 1) := by decide +kernel
theorem dX0_address_13 : decode cX0_address 13 = .ok (.iload_n 1, 1) := by decide +kernel
theorem dX0_address_14 : decode cX0_address 14 = .ok (.lload_n 2, 1) := by decide +kernel
theorem dX0_address_15 : decode cX0_address 15 = .ok (.lload 4, 2) := by decide +kernel
theorem dX0_address_17 : decode cX0_address 17 = .ok (.invokevirtual 44, 3) := by decide +kernel
theorem dX0_address_20 : decode cX0_address 20 = .ok (.iconst 1, 1) := by decide +kernel
theorem dX0_address_21 : decode cX0_address 21 = .ok (.ireturn, 1) := by decide +kernel
theorem dX0_put_0 : decode cX0_put 0 = .ok (.aload_n 0, 1) := by decide +kernel
theorem dX0_put_1 : decode cX0_put 1 = .ok (.iload_n 1, 1) := by decide +kernel
theorem dX0_put_2 : decode cX0_put 2 = .ok (.invokevirtual 48, 3) := by decide +kernel
theorem dX0_put_5 : decode cX0_put 5 = .ok (.ifCond .ne 5, 3) := by decide +kernel
theorem dX0_put_8 : decode cX0_put 8 = .ok (.iconst (-1), 1) := by decide +kernel
theorem dX0_put_9 : decode cX0_put 9 = .ok (.ireturn, 1) := by decide +kernel
theorem dX0_put_10 : decode cX0_put 10 = .ok (.aload_n 0, 1) := by decide +kernel
theorem dX0_put_11 : decode cX0_put 11 = .ok (.iload_n 1, 1) := by decide +kernel
theorem dX0_put_12 : decode cX0_put 12 = .ok (.invokevirtual 52, 3) := by decide +kernel
theorem dX0_put_15 : decode cX0_put 15 = .ok (.istore_n 3, 1) := by decide +kernel
theorem dX0_put_16 : decode cX0_put 16 = .ok (.aload_n 0, 1) := by decide +kernel
theorem dX0_put_17 : decode cX0_put 17 = .ok (.iload_n 3, 1) := by decide +kernel
theorem dX0_put_18 : decode cX0_put 18 = .ok (.iload_n 1, 1) := by decide +kernel
theorem dX0_put_19 : decode cX0_put 19 = .ok (.invokevirtual 56, 3) := by decide +kernel
theorem dX0_put_22 : decode cX0_put 22 = .ok (.ifCond .eq 12, 3) := by decide +kernel
theorem dX0_put_25 : decode cX0_put 25 = .ok (.aload_n 0, 1) := by decide +kernel
theorem dX0_put_26 : decode cX0_put 26 = .ok (.getfield 23, 3) := by decide +kernel
theorem dX0_put_29 : decode cX0_put 29 = .ok (.iload_n 3, 1) := by decide +kernel
theorem dX0_put_30 : decode cX0_put 30 = .ok (.iload_n 2, 1) := by decide +kernel
theorem dX0_put_31 : decode cX0_put 31 = .ok (.iastore, 1) := by decide +kernel
theorem dX0_put_32 : decode cX0_put 32 = .ok (.iconst 0, 1) := by decide +kernel
theorem dX0_put_33 : decode cX0_put 33 = .ok (.ireturn, 1) := by decide +kernel
theorem dX0_put_34 : decode cX0_put 34 = .ok (.aload_n 0, 1) := by decide +kernel
theorem dX0_put_35 : decode cX0_put 35 = .ok (.getfield 26, 3) := by decide +kernel
theorem dX0_put_38 : decode cX0_put 38 = .ok (.sipush 1000, 3) := by decide +kernel
theorem dX0_put_41 : decode cX0_put 41 = .ok (.if_icmp .lt 5, 3) := by decide +kernel
theorem dX0_put_44 : decode cX0_put 44 = .ok (.iconst (-1), 1) := by decide +kernel
theorem dX0_put_45 : decode cX0_put 45 = .ok (.ireturn, 1) := by decide +kernel
theorem dX0_put_46 : decode cX0_put 46 = .ok (.aload_n 0, 1) := by decide +kernel
theorem dX0_put_47 : decode cX0_put 47 = .ok (.iload_n 3, 1) := by decide +kernel
theorem dX0_put_48 : decode cX0_put 48 = .ok (.invokevirtual 60, 3) := by decide +kernel
theorem dX0_put_51 : decode cX0_put 51 = .ok (.aload_n 0, 1) := by decide +kernel
theorem dX0_put_52 : decode cX0_put 52 = .ok (.iload_n 3, 1) := by decide +kernel
theorem dX0_put_53 : decode cX0_put 53 = .ok (.iload_n 1, 1) := by decide +kernel
theorem dX0_put_54 : decode cX0_put 54 = .ok (.iload_n 2, 1) := by decide +kernel
theorem dX0_put_55 : decode cX0_put 55 = .ok (.invokevirtual 64, 3) := by decide +kernel
theorem dX0_put_58 : decode cX0_put 58 = .ok (.iconst 1, 1) := by decide +kernel
theorem dX0_put_59 : decode cX0_put 59 = .ok (.ireturn, 1) := by decide +kernel
theorem dX0_remove_0 : decode cX0_remove 0 = .ok (.aload_n 0, 1) := by decide +kernel
theorem dX0_remove_1 : decode cX0_remove 1 = .ok (.iload_n 1, 1) := by decide +kernel
theorem dX0_remove_2 : decode cX0_remove 2 = .ok (.invokevirtual 48, 3) := by decide +kernel
theorem dX0_remove_5 : decode cX0_remove 5 = .ok (.ifCond .ne 5, 3) := by decide +kernel
theorem dX0_remove_8 : decode cX0_remove 8 = .ok (.iconst (-1), 1) := by decide +kernel
theorem dX0_remove_9 : decode cX0_remove 9 = .ok (.ireturn, 1) := by decide +kernel
theorem dX0_remove_10 : decode cX0_remove 10 = .ok (.aload_n 0, 1) := by decide +kernel
theorem dX0_remove_11 : decode cX0_remove 11 = .ok (.iload_n 1, 1) := by decide +kernel
theorem dX0_remove_12 : decode cX0_remove 12 = .ok (.invokevirtual 52, 3) := by decide +kernel
theorem dX0_remove_15 : decode cX0_remove 15 = .ok (.istore_n 2, 1) := by decide +kernel
theorem dX0_remove_16 : decode cX0_remove 16 = .ok (.aload_n 0, 1) := by decide +kernel
theorem dX0_remove_17 : decode cX0_remove 17 = .ok (.iload_n 2, 1) := by decide +kernel
theorem dX0_remove_18 : decode cX0_remove 18 = .ok (.iload_n 1, 1) := by decide +kernel
theorem dX0_remove_19 : decode cX0_remove 19 = .ok (.invokevirtual 56, 3) := by decide +kernel
theorem dX0_remove_22 : decode cX0_remove 22 = .ok (.ifCond .ne 5, 3) := by decide +kernel
theorem dX0_remove_25 : decode cX0_remove 25 = .ok (.iconst 0, 1) := by decide +kernel
theorem dX0_remove_26 : decode cX0_remove 26 = .ok (.ireturn, 1) := by decide +kernel
theorem dX0_remove_27 : decode cX0_remove 27 = .ok (.aload_n 0, 1) := by decide +kernel
theorem dX0_remove_28 : decode cX0_remove 28 = .ok (.iload_n 2, 1) := by decide +kernel
theorem dX0_remove_29 : decode cX0_remove 29 = .ok (.invokevirtual 68, 3) := by decide +kernel
theorem dX0_remove_32 : decode cX0_remove 32 = .ok (.iconst 1, 1) := by decide +kernel
theorem dX0_remove_33 : decode cX0_remove 33 = .ok (.ireturn, 1) := by decide +kernel
theorem dX0_number_0 : decode cX0_number 0 = .ok (.aload_n 0, 1) := by decide +kernel
theorem dX0_number_1 : decode cX0_number 1 = .ok (.iload_n 1, 1) := by decide +kernel
theorem dX0_number_2 : decode cX0_number 2 = .ok (.invokevirtual 52, 3) := by decide +kernel
theorem dX0_number_5 : decode cX0_number 5 = .ok (.istore_n 2, 1) := by decide +kernel
theorem dX0_number_6 : decode cX0_number 6 = .ok (.aload_n 0, 1) := by decide +kernel
theorem dX0_number_7 : decode cX0_number 7 = .ok (.iload_n 2, 1) := by decide +kernel
theorem dX0_number_8 : decode cX0_number 8 = .ok (.iload_n 1, 1) := by decide +kernel
theorem dX0_number_9 : decode cX0_number 9 = .ok (.invokevirtual 56, 3) := by decide +kernel
theorem dX0_number_12 : decode cX0_number 12 = .ok (.ifCond .eq 12, 3) := by decide +kernel
theorem dX0_number_15 : decode cX0_number 15 = .ok (.aload_n 0, 1) := by decide +kernel
theorem dX0_number_16 : decode cX0_number 16 = .ok (.getfield 23, 3) := by decide +kernel
theorem dX0_number_19 : decode cX0_number 19 = .ok (.iload_n 2, 1) := by decide +kernel
theorem dX0_number_20 : decode cX0_number 20 = .ok (.iaload, 1) := by decide +kernel
theorem dX0_number_21 : decode cX0_number 21 = .ok (.goto 5, 3) := by decide +kernel
theorem dX0_number_24 : decode cX0_number 24 = .ok (.ldc 71, 2) := by decide +kernel
theorem dX0_number_26 : decode cX0_number 26 = .ok (.ireturn, 1) := by decide +kernel
theorem dX0_longest_0 : decode cX0_longest 0 = .ok (.iconst (-1), 1) := by decide +kernel
theorem dX0_longest_1 : decode cX0_longest 1 = .ok (.istore_n 1, 1) := by decide +kernel
theorem dX0_longest_2 : decode cX0_longest 2 = .ok (.iconst 0, 1) := by decide +kernel
theorem dX0_longest_3 : decode cX0_longest 3 = .ok (.istore_n 2, 1) := by decide +kernel
theorem dX0_longest_4 : decode cX0_longest 4 = .ok (.iload_n 2, 1) := by decide +kernel
theorem dX0_longest_5 : decode cX0_longest 5 = .ok (.aload_n 0, 1) := by decide +kernel
theorem dX0_longest_6 : decode cX0_longest 6 = .ok (.getfield 26, 3) := by decide +kernel
theorem dX0_longest_9 : decode cX0_longest 9 = .ok (.if_icmp .ge 34, 3) := by decide +kernel
theorem dX0_longest_12 : decode cX0_longest 12 = .ok (.aload_n 0, 1) := by decide +kernel
theorem dX0_longest_13 : decode cX0_longest 13 = .ok (.iload_n 2, 1) := by decide +kernel
theorem dX0_longest_14 : decode cX0_longest 14 = .ok (.invokevirtual 72, 3) := by decide +kernel
theorem dX0_longest_17 : decode cX0_longest 17 = .ok (.ifCond .eq 20, 3) := by decide +kernel
theorem dX0_longest_20 : decode cX0_longest 20 = .ok (.aload_n 0, 1) := by decide +kernel
theorem dX0_longest_21 : decode cX0_longest 21 = .ok (.getfield 20, 3) := by decide +kernel
theorem dX0_longest_24 : decode cX0_longest 24 = .ok (.iload_n 2, 1) := by decide +kernel
theorem dX0_longest_25 : decode cX0_longest 25 = .ok (.iaload, 1) := by decide +kernel
theorem dX0_longest_26 : decode cX0_longest 26 = .ok (.iload_n 1, 1) := by decide +kernel
theorem dX0_longest_27 : decode cX0_longest 27 = .ok (.if_icmp .le 10, 3) := by decide +kernel
theorem dX0_longest_30 : decode cX0_longest 30 = .ok (.aload_n 0, 1) := by decide +kernel
theorem dX0_longest_31 : decode cX0_longest 31 = .ok (.getfield 20, 3) := by decide +kernel
theorem dX0_longest_34 : decode cX0_longest 34 = .ok (.iload_n 2, 1) := by decide +kernel
theorem dX0_longest_35 : decode cX0_longest 35 = .ok (.iaload, 1) := by decide +kernel
theorem dX0_longest_36 : decode cX0_longest 36 = .ok (.istore_n 1, 1) := by decide +kernel
theorem dX0_longest_37 : decode cX0_longest 37 = .ok (.iinc 2 1, 3) := by decide +kernel
theorem dX0_longest_40 : decode cX0_longest 40 = .ok (.goto (-36), 3) := by decide +kernel
theorem dX0_longest_43 : decode cX0_longest 43 = .ok (.iload_n 1, 1) := by decide +kernel
theorem dX0_longest_44 : decode cX0_longest 44 = .ok (.ireturn, 1) := by decide +kernel
theorem dX0_covering_0 : decode cX0_covering 0 = .ok (.iconst 0, 1) := by decide +kernel
theorem dX0_covering_1 : decode cX0_covering 1 = .ok (.istore_n 1, 1) := by decide +kernel
theorem dX0_covering_2 : decode cX0_covering 2 = .ok (.iconst 0, 1) := by decide +kernel
theorem dX0_covering_3 : decode cX0_covering 3 = .ok (.istore_n 2, 1) := by decide +kernel
theorem dX0_covering_4 : decode cX0_covering 4 = .ok (.iload_n 2, 1) := by decide +kernel
theorem dX0_covering_5 : decode cX0_covering 5 = .ok (.aload_n 0, 1) := by decide +kernel
theorem dX0_covering_6 : decode cX0_covering 6 = .ok (.getfield 26, 3) := by decide +kernel
theorem dX0_covering_9 : decode cX0_covering 9 = .ok (.if_icmp .ge 20, 3) := by decide +kernel
theorem dX0_covering_12 : decode cX0_covering 12 = .ok (.aload_n 0, 1) := by decide +kernel
theorem dX0_covering_13 : decode cX0_covering 13 = .ok (.iload_n 2, 1) := by decide +kernel
theorem dX0_covering_14 : decode cX0_covering 14 = .ok (.invokevirtual 72, 3) := by decide +kernel
theorem dX0_covering_17 : decode cX0_covering 17 = .ok (.ifCond .eq 6, 3) := by decide +kernel
theorem dX0_covering_20 : decode cX0_covering 20 = .ok (.iinc 1 1, 3) := by decide +kernel
theorem dX0_covering_23 : decode cX0_covering 23 = .ok (.iinc 2 1, 3) := by decide +kernel
theorem dX0_covering_26 : decode cX0_covering 26 = .ok (.goto (-22), 3) := by decide +kernel
theorem dX0_covering_29 : decode cX0_covering 29 = .ok (.iload_n 1, 1) := by decide +kernel
theorem dX0_covering_30 : decode cX0_covering 30 = .ok (.ireturn, 1) := by decide +kernel
theorem dX0_ahead_0 : decode cX0_ahead 0 = .ok (.aload_n 0, 1) := by decide +kernel
theorem dX0_ahead_1 : decode cX0_ahead 1 = .ok (.iload_n 1, 1) := by decide +kernel
theorem dX0_ahead_2 : decode cX0_ahead 2 = .ok (.invokevirtual 75, 3) := by decide +kernel
theorem dX0_ahead_5 : decode cX0_ahead 5 = .ok (.ifCond .eq 11, 3) := by decide +kernel
theorem dX0_ahead_8 : decode cX0_ahead 8 = .ok (.aload_n 0, 1) := by decide +kernel
theorem dX0_ahead_9 : decode cX0_ahead 9 = .ok (.iload_n 1, 1) := by decide +kernel
theorem dX0_ahead_10 : decode cX0_ahead 10 = .ok (.invokevirtual 52, 3) := by decide +kernel
theorem dX0_ahead_13 : decode cX0_ahead 13 = .ok (.goto 4, 3) := by decide +kernel
theorem dX0_ahead_16 : decode cX0_ahead 16 = .ok (.iconst (-1), 1) := by decide +kernel
theorem dX0_ahead_17 : decode cX0_ahead 17 = .ok (.ireturn, 1) := by decide +kernel
theorem dX0_at_0 : decode cX0_at 0 = .ok (.iload_n 1, 1) := by decide +kernel
theorem dX0_at_1 : decode cX0_at 1 = .ok (.ifCond .lt 11, 3) := by decide +kernel
theorem dX0_at_4 : decode cX0_at 4 = .ok (.iload_n 1, 1) := by decide +kernel
theorem dX0_at_5 : decode cX0_at 5 = .ok (.aload_n 0, 1) := by decide +kernel
theorem dX0_at_6 : decode cX0_at 6 = .ok (.getfield 26, 3) := by decide +kernel
theorem dX0_at_9 : decode cX0_at 9 = .ok (.if_icmp .lt 5, 3) := by decide +kernel
theorem dX0_at_12 : decode cX0_at 12 = .ok (.iconst (-1), 1) := by decide +kernel
theorem dX0_at_13 : decode cX0_at 13 = .ok (.ireturn, 1) := by decide +kernel
theorem dX0_at_14 : decode cX0_at 14 = .ok (.aload_n 0, 1) := by decide +kernel
theorem dX0_at_15 : decode cX0_at 15 = .ok (.aload_n 0, 1) := by decide +kernel
theorem dX0_at_16 : decode cX0_at 16 = .ok (.getfield 9, 3) := by decide +kernel
theorem dX0_at_19 : decode cX0_at 19 = .ok (.iload_n 1, 1) := by decide +kernel
theorem dX0_at_20 : decode cX0_at 20 = .ok (.iaload, 1) := by decide +kernel
theorem dX0_at_21 : decode cX0_at 21 = .ok (.aload_n 0, 1) := by decide +kernel
theorem dX0_at_22 : decode cX0_at 22 = .ok (.getfield 13, 3) := by decide +kernel
theorem dX0_at_25 : decode cX0_at 25 = .ok (.iload_n 1, 1) := by decide +kernel
theorem dX0_at_26 : decode cX0_at 26 = .ok (.laload, 1) := by decide +kernel
theorem dX0_at_27 : decode cX0_at 27 = .ok (.aload_n 0, 1) := by decide +kernel
theorem dX0_at_28 : decode cX0_at 28 = .ok (.getfield 17, 3) := by decide +kernel
theorem dX0_at_31 : decode cX0_at 31 = .ok (.iload_n 1, 1) := by decide +kernel
theorem dX0_at_32 : decode cX0_at 32 = .ok (.laload, 1) := by decide +kernel
theorem dX0_at_33 : decode cX0_at 33 = .ok (.invokevirtual 44, 3) := by decide +kernel
theorem dX0_at_36 : decode cX0_at 36 = .ok (.aload_n 0, 1) := by decide +kernel
theorem dX0_at_37 : decode cX0_at 37 = .ok (.getfield 20, 3) := by decide +kernel
theorem dX0_at_40 : decode cX0_at 40 = .ok (.iload_n 1, 1) := by decide +kernel
theorem dX0_at_41 : decode cX0_at 41 = .ok (.iaload, 1) := by decide +kernel
theorem dX0_at_42 : decode cX0_at 42 = .ok (.ireturn, 1) := by decide +kernel
theorem dX0_size_0 : decode cX0_size 0 = .ok (.aload_n 0, 1) := by decide +kernel
theorem dX0_size_1 : decode cX0_size 1 = .ok (.getfield 26, 3) := by decide +kernel
theorem dX0_size_4 : decode cX0_size 4 = .ok (.ireturn, 1) := by decide +kernel
theorem dX0_told_0 : decode cX0_told 0 = .ok (.iload_n 1, 1) := by decide +kernel
theorem dX0_told_1 : decode cX0_told 1 = .ok (.tableswitch 43 0 2 #[27, 33, 38], 27) := by decide +kernel
theorem dX0_told_28 : decode cX0_told 28 = .ok (.aload_n 0, 1) := by decide +kernel
theorem dX0_told_29 : decode cX0_told 29 = .ok (.getfield 30, 3) := by decide +kernel
theorem dX0_told_32 : decode cX0_told 32 = .ok (.i2l, 1) := by decide +kernel
theorem dX0_told_33 : decode cX0_told 33 = .ok (.lreturn, 1) := by decide +kernel
theorem dX0_told_34 : decode cX0_told 34 = .ok (.aload_n 0, 1) := by decide +kernel
theorem dX0_told_35 : decode cX0_told 35 = .ok (.getfield 33, 3) := by decide +kernel
theorem dX0_told_38 : decode cX0_told 38 = .ok (.lreturn, 1) := by decide +kernel
theorem dX0_told_39 : decode cX0_told 39 = .ok (.aload_n 0, 1) := by decide +kernel
theorem dX0_told_40 : decode cX0_told 40 = .ok (.getfield 37, 3) := by decide +kernel
theorem dX0_told_43 : decode cX0_told 43 = .ok (.lreturn, 1) := by decide +kernel
theorem dX0_told_44 : decode cX0_told 44 = .ok (.lconst 0, 1) := by decide +kernel
theorem dX0_told_45 : decode cX0_told 45 = .ok (.lreturn, 1) := by decide +kernel
theorem dX0_isAddress_0 : decode cX0_isAddress 0 = .ok (.iload_n 0, 1) := by decide +kernel
theorem dX0_isAddress_1 : decode cX0_isAddress 1 = .ok (.iconst 4, 1) := by decide +kernel
theorem dX0_isAddress_2 : decode cX0_isAddress 2 = .ok (.if_icmp .ne 29, 3) := by decide +kernel
theorem dX0_isAddress_5 : decode cX0_isAddress 5 = .ok (.lload_n 1, 1) := by decide +kernel
theorem dX0_isAddress_6 : decode cX0_isAddress 6 = .ok (.lconst 0, 1) := by decide +kernel
theorem dX0_isAddress_7 : decode cX0_isAddress 7 = .ok (.lcmp, 1) := by decide +kernel
theorem dX0_isAddress_8 : decode cX0_isAddress 8 = .ok (.ifCond .ne 21, 3) := by decide +kernel
theorem dX0_isAddress_11 : decode cX0_isAddress 11 = .ok (.lload_n 3, 1) := by decide +kernel
theorem dX0_isAddress_12 : decode cX0_isAddress 12 = .ok (.lconst 0, 1) := by decide +kernel
theorem dX0_isAddress_13 : decode cX0_isAddress 13 = .ok (.lcmp, 1) := by decide +kernel
theorem dX0_isAddress_14 : decode cX0_isAddress 14 = .ok (.ifCond .lt 15, 3) := by decide +kernel
theorem dX0_isAddress_17 : decode cX0_isAddress 17 = .ok (.lload_n 3, 1) := by decide +kernel
theorem dX0_isAddress_18 : decode cX0_isAddress 18 = .ok (.ldc2_w 78, 3) := by decide +kernel
theorem dX0_isAddress_21 : decode cX0_isAddress 21 = .ok (.lcmp, 1) := by decide +kernel
theorem dX0_isAddress_22 : decode cX0_isAddress 22 = .ok (.ifCond .ge 7, 3) := by decide +kernel
theorem dX0_isAddress_25 : decode cX0_isAddress 25 = .ok (.iconst 1, 1) := by decide +kernel
theorem dX0_isAddress_26 : decode cX0_isAddress 26 = .ok (.goto 4, 3) := by decide +kernel
theorem dX0_isAddress_29 : decode cX0_isAddress 29 = .ok (.iconst 0, 1) := by decide +kernel
theorem dX0_isAddress_30 : decode cX0_isAddress 30 = .ok (.ireturn, 1) := by decide +kernel
theorem dX0_isAddress_31 : decode cX0_isAddress 31 = .ok (.iload_n 0, 1) := by decide +kernel
theorem dX0_isAddress_32 : decode cX0_isAddress 32 = .ok (.bipush 6, 2) := by decide +kernel
theorem dX0_isAddress_34 : decode cX0_isAddress 34 = .ok (.if_icmp .ne 7, 3) := by decide +kernel
theorem dX0_isAddress_37 : decode cX0_isAddress 37 = .ok (.iconst 1, 1) := by decide +kernel
theorem dX0_isAddress_38 : decode cX0_isAddress 38 = .ok (.goto 4, 3) := by decide +kernel
theorem dX0_isAddress_41 : decode cX0_isAddress 41 = .ok (.iconst 0, 1) := by decide +kernel
theorem dX0_isAddress_42 : decode cX0_isAddress 42 = .ok (.ireturn, 1) := by decide +kernel
theorem dX0_mean_0 : decode cX0_mean 0 = .ok (.aload_n 0, 1) := by decide +kernel
theorem dX0_mean_1 : decode cX0_mean 1 = .ok (.iload_n 1, 1) := by decide +kernel
theorem dX0_mean_2 : decode cX0_mean 2 = .ok (.putfield 30, 3) := by decide +kernel
theorem dX0_mean_5 : decode cX0_mean 5 = .ok (.aload_n 0, 1) := by decide +kernel
theorem dX0_mean_6 : decode cX0_mean 6 = .ok (.lload_n 2, 1) := by decide +kernel
theorem dX0_mean_7 : decode cX0_mean 7 = .ok (.putfield 33, 3) := by decide +kernel
theorem dX0_mean_10 : decode cX0_mean 10 = .ok (.aload_n 0, 1) := by decide +kernel
theorem dX0_mean_11 : decode cX0_mean 11 = .ok (.lload 4, 2) := by decide +kernel
theorem dX0_mean_13 : decode cX0_mean 13 = .ok (.putfield 37, 3) := by decide +kernel
theorem dX0_mean_16 : decode cX0_mean 16 = .ok (.return_, 1) := by decide +kernel
theorem dX0_isLength_0 : decode cX0_isLength 0 = .ok (.aload_n 0, 1) := by decide +kernel
theorem dX0_isLength_1 : decode cX0_isLength 1 = .ok (.getfield 30, 3) := by decide +kernel
theorem dX0_isLength_4 : decode cX0_isLength 4 = .ok (.iconst 4, 1) := by decide +kernel
theorem dX0_isLength_5 : decode cX0_isLength 5 = .ok (.if_icmp .ne 8, 3) := by decide +kernel
theorem dX0_isLength_8 : decode cX0_isLength 8 = .ok (.bipush 32, 2) := by decide +kernel
theorem dX0_isLength_10 : decode cX0_isLength 10 = .ok (.goto 6, 3) := by decide +kernel
theorem dX0_isLength_13 : decode cX0_isLength 13 = .ok (.sipush 128, 3) := by decide +kernel
theorem dX0_isLength_16 : decode cX0_isLength 16 = .ok (.istore_n 2, 1) := by decide +kernel
theorem dX0_isLength_17 : decode cX0_isLength 17 = .ok (.iload_n 1, 1) := by decide +kernel
theorem dX0_isLength_18 : decode cX0_isLength 18 = .ok (.ifCond .lt 12, 3) := by decide +kernel
theorem dX0_isLength_21 : decode cX0_isLength 21 = .ok (.iload_n 1, 1) := by decide +kernel
theorem dX0_isLength_22 : decode cX0_isLength 22 = .ok (.iload_n 2, 1) := by decide +kernel
theorem dX0_isLength_23 : decode cX0_isLength 23 = .ok (.if_icmp .gt 7, 3) := by decide +kernel
theorem dX0_isLength_26 : decode cX0_isLength 26 = .ok (.iconst 1, 1) := by decide +kernel
theorem dX0_isLength_27 : decode cX0_isLength 27 = .ok (.goto 4, 3) := by decide +kernel
theorem dX0_isLength_30 : decode cX0_isLength 30 = .ok (.iconst 0, 1) := by decide +kernel
theorem dX0_isLength_31 : decode cX0_isLength 31 = .ok (.ireturn, 1) := by decide +kernel
theorem dX0_isPrefix_0 : decode cX0_isPrefix 0 = .ok (.aload_n 0, 1) := by decide +kernel
theorem dX0_isPrefix_1 : decode cX0_isPrefix 1 = .ok (.iload_n 1, 1) := by decide +kernel
theorem dX0_isPrefix_2 : decode cX0_isPrefix 2 = .ok (.invokevirtual 75, 3) := by decide +kernel
theorem dX0_isPrefix_5 : decode cX0_isPrefix 5 = .ok (.ifCond .ne 5, 3) := by decide +kernel
theorem dX0_isPrefix_8 : decode cX0_isPrefix 8 = .ok (.iconst 0, 1) := by decide +kernel
theorem dX0_isPrefix_9 : decode cX0_isPrefix 9 = .ok (.ireturn, 1) := by decide +kernel
theorem dX0_isPrefix_10 : decode cX0_isPrefix 10 = .ok (.aload_n 0, 1) := by decide +kernel
theorem dX0_isPrefix_11 : decode cX0_isPrefix 11 = .ok (.getfield 30, 3) := by decide +kernel
theorem dX0_isPrefix_14 : decode cX0_isPrefix 14 = .ok (.iload_n 1, 1) := by decide +kernel
theorem dX0_isPrefix_15 : decode cX0_isPrefix 15 = .ok (.invokestatic 80, 3) := by decide +kernel
theorem dX0_isPrefix_18 : decode cX0_isPrefix 18 = .ok (.istore_n 2, 1) := by decide +kernel
theorem dX0_isPrefix_19 : decode cX0_isPrefix 19 = .ok (.aload_n 0, 1) := by decide +kernel
theorem dX0_isPrefix_20 : decode cX0_isPrefix 20 = .ok (.getfield 33, 3) := by decide +kernel
theorem dX0_isPrefix_23 : decode cX0_isPrefix 23 = .ok (.iload_n 2, 1) := by decide +kernel
theorem dX0_isPrefix_24 : decode cX0_isPrefix 24 = .ok (.invokestatic 84, 3) := by decide +kernel
theorem dX0_isPrefix_27 : decode cX0_isPrefix 27 = .ok (.ldc2_w 88, 3) := by decide +kernel
theorem dX0_isPrefix_30 : decode cX0_isPrefix 30 = .ok (.lxor, 1) := by decide +kernel
theorem dX0_isPrefix_31 : decode cX0_isPrefix 31 = .ok (.land, 1) := by decide +kernel
theorem dX0_isPrefix_32 : decode cX0_isPrefix 32 = .ok (.lconst 0, 1) := by decide +kernel
theorem dX0_isPrefix_33 : decode cX0_isPrefix 33 = .ok (.lcmp, 1) := by decide +kernel
theorem dX0_isPrefix_34 : decode cX0_isPrefix 34 = .ok (.ifCond .ne 25, 3) := by decide +kernel
theorem dX0_isPrefix_37 : decode cX0_isPrefix 37 = .ok (.aload_n 0, 1) := by decide +kernel
theorem dX0_isPrefix_38 : decode cX0_isPrefix 38 = .ok (.getfield 37, 3) := by decide +kernel
theorem dX0_isPrefix_41 : decode cX0_isPrefix 41 = .ok (.iload_n 2, 1) := by decide +kernel
theorem dX0_isPrefix_42 : decode cX0_isPrefix 42 = .ok (.invokestatic 90, 3) := by decide +kernel
theorem dX0_isPrefix_45 : decode cX0_isPrefix 45 = .ok (.ldc2_w 88, 3) := by decide +kernel
theorem dX0_isPrefix_48 : decode cX0_isPrefix 48 = .ok (.lxor, 1) := by decide +kernel
theorem dX0_isPrefix_49 : decode cX0_isPrefix 49 = .ok (.land, 1) := by decide +kernel
theorem dX0_isPrefix_50 : decode cX0_isPrefix 50 = .ok (.lconst 0, 1) := by decide +kernel
theorem dX0_isPrefix_51 : decode cX0_isPrefix 51 = .ok (.lcmp, 1) := by decide +kernel
theorem dX0_isPrefix_52 : decode cX0_isPrefix 52 = .ok (.ifCond .ne 7, 3) := by decide +kernel
theorem dX0_isPrefix_55 : decode cX0_isPrefix 55 = .ok (.iconst 1, 1) := by decide +kernel
theorem dX0_isPrefix_56 : decode cX0_isPrefix 56 = .ok (.goto 4, 3) := by decide +kernel
theorem dX0_isPrefix_59 : decode cX0_isPrefix 59 = .ok (.iconst 0, 1) := by decide +kernel
theorem dX0_isPrefix_60 : decode cX0_isPrefix 60 = .ok (.ireturn, 1) := by decide +kernel
theorem dX0_bitsOfWhole_0 : decode cX0_bitsOfWhole 0 = .ok (.iload_n 0, 1) := by decide +kernel
theorem dX0_bitsOfWhole_1 : decode cX0_bitsOfWhole 1 = .ok (.iconst 4, 1) := by decide +kernel
theorem dX0_bitsOfWhole_2 : decode cX0_bitsOfWhole 2 = .ok (.if_icmp .ne 10, 3) := by decide +kernel
theorem dX0_bitsOfWhole_5 : decode cX0_bitsOfWhole 5 = .ok (.bipush 96, 2) := by decide +kernel
theorem dX0_bitsOfWhole_7 : decode cX0_bitsOfWhole 7 = .ok (.iload_n 1, 1) := by decide +kernel
theorem dX0_bitsOfWhole_8 : decode cX0_bitsOfWhole 8 = .ok (.iadd, 1) := by decide +kernel
theorem dX0_bitsOfWhole_9 : decode cX0_bitsOfWhole 9 = .ok (.goto 4, 3) := by decide +kernel
theorem dX0_bitsOfWhole_12 : decode cX0_bitsOfWhole 12 = .ok (.iload_n 1, 1) := by decide +kernel
theorem dX0_bitsOfWhole_13 : decode cX0_bitsOfWhole 13 = .ok (.ireturn, 1) := by decide +kernel
theorem dX0_upperMask_0 : decode cX0_upperMask 0 = .ok (.iload_n 0, 1) := by decide +kernel
theorem dX0_upperMask_1 : decode cX0_upperMask 1 = .ok (.invokestatic 93, 3) := by decide +kernel
theorem dX0_upperMask_4 : decode cX0_upperMask 4 = .ok (.lreturn, 1) := by decide +kernel
theorem dX0_lowerMask_0 : decode cX0_lowerMask 0 = .ok (.iload_n 0, 1) := by decide +kernel
theorem dX0_lowerMask_1 : decode cX0_lowerMask 1 = .ok (.bipush 64, 2) := by decide +kernel
theorem dX0_lowerMask_3 : decode cX0_lowerMask 3 = .ok (.isub, 1) := by decide +kernel
theorem dX0_lowerMask_4 : decode cX0_lowerMask 4 = .ok (.invokestatic 93, 3) := by decide +kernel
theorem dX0_lowerMask_7 : decode cX0_lowerMask 7 = .ok (.lreturn, 1) := by decide +kernel
theorem dX0_firstBits_0 : decode cX0_firstBits 0 = .ok (.iload_n 0, 1) := by decide +kernel
theorem dX0_firstBits_1 : decode cX0_firstBits 1 = .ok (.ifCond .gt 5, 3) := by decide +kernel
theorem dX0_firstBits_4 : decode cX0_firstBits 4 = .ok (.lconst 0, 1) := by decide +kernel
theorem dX0_firstBits_5 : decode cX0_firstBits 5 = .ok (.lreturn, 1) := by decide +kernel
theorem dX0_firstBits_6 : decode cX0_firstBits 6 = .ok (.iload_n 0, 1) := by decide +kernel
theorem dX0_firstBits_7 : decode cX0_firstBits 7 = .ok (.bipush 64, 2) := by decide +kernel
theorem dX0_firstBits_9 : decode cX0_firstBits 9 = .ok (.if_icmp .lt 7, 3) := by decide +kernel
theorem dX0_firstBits_12 : decode cX0_firstBits 12 = .ok (.ldc2_w 88, 3) := by decide +kernel
theorem dX0_firstBits_15 : decode cX0_firstBits 15 = .ok (.lreturn, 1) := by decide +kernel
theorem dX0_firstBits_16 : decode cX0_firstBits 16 = .ok (.ldc2_w 88, 3) := by decide +kernel
theorem dX0_firstBits_19 : decode cX0_firstBits 19 = .ok (.bipush 64, 2) := by decide +kernel
theorem dX0_firstBits_21 : decode cX0_firstBits 21 = .ok (.iload_n 0, 1) := by decide +kernel
theorem dX0_firstBits_22 : decode cX0_firstBits 22 = .ok (.isub, 1) := by decide +kernel
theorem dX0_firstBits_23 : decode cX0_firstBits 23 = .ok (.lshl, 1) := by decide +kernel
theorem dX0_firstBits_24 : decode cX0_firstBits 24 = .ok (.lreturn, 1) := by decide +kernel
theorem dX0_coversMeant_0 : decode cX0_coversMeant 0 = .ok (.aload_n 0, 1) := by decide +kernel
theorem dX0_coversMeant_1 : decode cX0_coversMeant 1 = .ok (.getfield 9, 3) := by decide +kernel
theorem dX0_coversMeant_4 : decode cX0_coversMeant 4 = .ok (.iload_n 1, 1) := by decide +kernel
theorem dX0_coversMeant_5 : decode cX0_coversMeant 5 = .ok (.iaload, 1) := by decide +kernel
theorem dX0_coversMeant_6 : decode cX0_coversMeant 6 = .ok (.aload_n 0, 1) := by decide +kernel
theorem dX0_coversMeant_7 : decode cX0_coversMeant 7 = .ok (.getfield 30, 3) := by decide +kernel
theorem dX0_coversMeant_10 : decode cX0_coversMeant 10 = .ok (.if_icmp .eq 5, 3) := by decide +kernel
theorem dX0_coversMeant_13 : decode cX0_coversMeant 13 = .ok (.iconst 0, 1) := by decide +kernel
theorem dX0_coversMeant_14 : decode cX0_coversMeant 14 = .ok (.ireturn, 1) := by decide +kernel
theorem dX0_coversMeant_15 : decode cX0_coversMeant 15 = .ok (.aload_n 0, 1) := by decide +kernel
theorem dX0_coversMeant_16 : decode cX0_coversMeant 16 = .ok (.getfield 30, 3) := by decide +kernel
theorem dX0_coversMeant_19 : decode cX0_coversMeant 19 = .ok (.aload_n 0, 1) := by decide +kernel
theorem dX0_coversMeant_20 : decode cX0_coversMeant 20 = .ok (.getfield 20, 3) := by decide +kernel
theorem dX0_coversMeant_23 : decode cX0_coversMeant 23 = .ok (.iload_n 1, 1) := by decide +kernel
theorem dX0_coversMeant_24 : decode cX0_coversMeant 24 = .ok (.iaload, 1) := by decide +kernel
theorem dX0_coversMeant_25 : decode cX0_coversMeant 25 = .ok (.invokestatic 80, 3) := by decide +kernel
theorem dX0_coversMeant_28 : decode cX0_coversMeant 28 = .ok (.istore_n 2, 1) := by decide +kernel
theorem dX0_coversMeant_29 : decode cX0_coversMeant 29 = .ok (.aload_n 0, 1) := by decide +kernel
theorem dX0_coversMeant_30 : decode cX0_coversMeant 30 = .ok (.getfield 13, 3) := by decide +kernel
theorem dX0_coversMeant_33 : decode cX0_coversMeant 33 = .ok (.iload_n 1, 1) := by decide +kernel
theorem dX0_coversMeant_34 : decode cX0_coversMeant 34 = .ok (.laload, 1) := by decide +kernel
theorem dX0_coversMeant_35 : decode cX0_coversMeant 35 = .ok (.aload_n 0, 1) := by decide +kernel
theorem dX0_coversMeant_36 : decode cX0_coversMeant 36 = .ok (.getfield 33, 3) := by decide +kernel
theorem dX0_coversMeant_39 : decode cX0_coversMeant 39 = .ok (.lxor, 1) := by decide +kernel
theorem dX0_coversMeant_40 : decode cX0_coversMeant 40 = .ok (.iload_n 2, 1) := by decide +kernel
theorem dX0_coversMeant_41 : decode cX0_coversMeant 41 = .ok (.invokestatic 84, 3) := by decide +kernel
theorem dX0_coversMeant_44 : decode cX0_coversMeant 44 = .ok (.land, 1) := by decide +kernel
theorem dX0_coversMeant_45 : decode cX0_coversMeant 45 = .ok (.lconst 0, 1) := by decide +kernel
theorem dX0_coversMeant_46 : decode cX0_coversMeant 46 = .ok (.lcmp, 1) := by decide +kernel
theorem dX0_coversMeant_47 : decode cX0_coversMeant 47 = .ok (.ifCond .ne 28, 3) := by decide +kernel
theorem dX0_coversMeant_50 : decode cX0_coversMeant 50 = .ok (.aload_n 0, 1) := by decide +kernel
theorem dX0_coversMeant_51 : decode cX0_coversMeant 51 = .ok (.getfield 17, 3) := by decide +kernel
theorem dX0_coversMeant_54 : decode cX0_coversMeant 54 = .ok (.iload_n 1, 1) := by decide +kernel
theorem dX0_coversMeant_55 : decode cX0_coversMeant 55 = .ok (.laload, 1) := by decide +kernel
theorem dX0_coversMeant_56 : decode cX0_coversMeant 56 = .ok (.aload_n 0, 1) := by decide +kernel
theorem dX0_coversMeant_57 : decode cX0_coversMeant 57 = .ok (.getfield 37, 3) := by decide +kernel
theorem dX0_coversMeant_60 : decode cX0_coversMeant 60 = .ok (.lxor, 1) := by decide +kernel
theorem dX0_coversMeant_61 : decode cX0_coversMeant 61 = .ok (.iload_n 2, 1) := by decide +kernel
end
section
theorem dX0_coversMeant_62 : decode cX0_coversMeant 62 = .ok (.invokestatic 90, 3) := by decide +kernel
theorem dX0_coversMeant_65 : decode cX0_coversMeant 65 = .ok (.land, 1) := by decide +kernel
theorem dX0_coversMeant_66 : decode cX0_coversMeant 66 = .ok (.lconst 0, 1) := by decide +kernel
theorem dX0_coversMeant_67 : decode cX0_coversMeant 67 = .ok (.lcmp, 1) := by decide +kernel
theorem dX0_coversMeant_68 : decode cX0_coversMeant 68 = .ok (.ifCond .ne 7, 3) := by decide +kernel
theorem dX0_coversMeant_71 : decode cX0_coversMeant 71 = .ok (.iconst 1, 1) := by decide +kernel
theorem dX0_coversMeant_72 : decode cX0_coversMeant 72 = .ok (.goto 4, 3) := by decide +kernel
theorem dX0_coversMeant_75 : decode cX0_coversMeant 75 = .ok (.iconst 0, 1) := by decide +kernel
theorem dX0_coversMeant_76 : decode cX0_coversMeant 76 = .ok (.ireturn, 1) := by decide +kernel
theorem dX0_countAhead_0 : decode cX0_countAhead 0 = .ok (.iconst 0, 1) := by decide +kernel
theorem dX0_countAhead_1 : decode cX0_countAhead 1 = .ok (.istore_n 2, 1) := by decide +kernel
theorem dX0_countAhead_2 : decode cX0_countAhead 2 = .ok (.iload_n 2, 1) := by decide +kernel
theorem dX0_countAhead_3 : decode cX0_countAhead 3 = .ok (.aload_n 0, 1) := by decide +kernel
theorem dX0_countAhead_4 : decode cX0_countAhead 4 = .ok (.getfield 26, 3) := by decide +kernel
theorem dX0_countAhead_7 : decode cX0_countAhead 7 = .ok (.if_icmp .ge 20, 3) := by decide +kernel
theorem dX0_countAhead_10 : decode cX0_countAhead 10 = .ok (.aload_n 0, 1) := by decide +kernel
theorem dX0_countAhead_11 : decode cX0_countAhead 11 = .ok (.iload_n 2, 1) := by decide +kernel
theorem dX0_countAhead_12 : decode cX0_countAhead 12 = .ok (.iload_n 1, 1) := by decide +kernel
theorem dX0_countAhead_13 : decode cX0_countAhead 13 = .ok (.invokevirtual 96, 3) := by decide +kernel
theorem dX0_countAhead_16 : decode cX0_countAhead 16 = .ok (.ifCond .ne 5, 3) := by decide +kernel
theorem dX0_countAhead_19 : decode cX0_countAhead 19 = .ok (.iload_n 2, 1) := by decide +kernel
theorem dX0_countAhead_20 : decode cX0_countAhead 20 = .ok (.ireturn, 1) := by decide +kernel
theorem dX0_countAhead_21 : decode cX0_countAhead 21 = .ok (.iinc 2 1, 3) := by decide +kernel
theorem dX0_countAhead_24 : decode cX0_countAhead 24 = .ok (.goto (-22), 3) := by decide +kernel
theorem dX0_countAhead_27 : decode cX0_countAhead 27 = .ok (.aload_n 0, 1) := by decide +kernel
theorem dX0_countAhead_28 : decode cX0_countAhead 28 = .ok (.getfield 26, 3) := by decide +kernel
theorem dX0_countAhead_31 : decode cX0_countAhead 31 = .ok (.ireturn, 1) := by decide +kernel
theorem dX0_standsAhead_0 : decode cX0_standsAhead 0 = .ok (.aload_n 0, 1) := by decide +kernel
theorem dX0_standsAhead_1 : decode cX0_standsAhead 1 = .ok (.getfield 9, 3) := by decide +kernel
theorem dX0_standsAhead_4 : decode cX0_standsAhead 4 = .ok (.iload_n 1, 1) := by decide +kernel
theorem dX0_standsAhead_5 : decode cX0_standsAhead 5 = .ok (.iaload, 1) := by decide +kernel
theorem dX0_standsAhead_6 : decode cX0_standsAhead 6 = .ok (.aload_n 0, 1) := by decide +kernel
theorem dX0_standsAhead_7 : decode cX0_standsAhead 7 = .ok (.getfield 30, 3) := by decide +kernel
theorem dX0_standsAhead_10 : decode cX0_standsAhead 10 = .ok (.if_icmp .eq 22, 3) := by decide +kernel
theorem dX0_standsAhead_13 : decode cX0_standsAhead 13 = .ok (.aload_n 0, 1) := by decide +kernel
theorem dX0_standsAhead_14 : decode cX0_standsAhead 14 = .ok (.getfield 9, 3) := by decide +kernel
theorem dX0_standsAhead_17 : decode cX0_standsAhead 17 = .ok (.iload_n 1, 1) := by decide +kernel
theorem dX0_standsAhead_18 : decode cX0_standsAhead 18 = .ok (.iaload, 1) := by decide +kernel
theorem dX0_standsAhead_19 : decode cX0_standsAhead 19 = .ok (.aload_n 0, 1) := by decide +kernel
theorem dX0_standsAhead_20 : decode cX0_standsAhead 20 = .ok (.getfield 30, 3) := by decide +kernel
theorem dX0_standsAhead_23 : decode cX0_standsAhead 23 = .ok (.if_icmp .ge 7, 3) := by decide +kernel
theorem dX0_standsAhead_26 : decode cX0_standsAhead 26 = .ok (.iconst 1, 1) := by decide +kernel
theorem dX0_standsAhead_27 : decode cX0_standsAhead 27 = .ok (.goto 4, 3) := by decide +kernel
theorem dX0_standsAhead_30 : decode cX0_standsAhead 30 = .ok (.iconst 0, 1) := by decide +kernel
theorem dX0_standsAhead_31 : decode cX0_standsAhead 31 = .ok (.ireturn, 1) := by decide +kernel
theorem dX0_standsAhead_32 : decode cX0_standsAhead 32 = .ok (.aload_n 0, 1) := by decide +kernel
theorem dX0_standsAhead_33 : decode cX0_standsAhead 33 = .ok (.getfield 13, 3) := by decide +kernel
theorem dX0_standsAhead_36 : decode cX0_standsAhead 36 = .ok (.iload_n 1, 1) := by decide +kernel
theorem dX0_standsAhead_37 : decode cX0_standsAhead 37 = .ok (.laload, 1) := by decide +kernel
theorem dX0_standsAhead_38 : decode cX0_standsAhead 38 = .ok (.aload_n 0, 1) := by decide +kernel
theorem dX0_standsAhead_39 : decode cX0_standsAhead 39 = .ok (.getfield 33, 3) := by decide +kernel
theorem dX0_standsAhead_42 : decode cX0_standsAhead 42 = .ok (.lcmp, 1) := by decide +kernel
theorem dX0_standsAhead_43 : decode cX0_standsAhead 43 = .ok (.ifCond .eq 17, 3) := by decide +kernel
theorem dX0_standsAhead_46 : decode cX0_standsAhead 46 = .ok (.aload_n 0, 1) := by decide +kernel
theorem dX0_standsAhead_47 : decode cX0_standsAhead 47 = .ok (.getfield 13, 3) := by decide +kernel
theorem dX0_standsAhead_50 : decode cX0_standsAhead 50 = .ok (.iload_n 1, 1) := by decide +kernel
theorem dX0_standsAhead_51 : decode cX0_standsAhead 51 = .ok (.laload, 1) := by decide +kernel
theorem dX0_standsAhead_52 : decode cX0_standsAhead 52 = .ok (.aload_n 0, 1) := by decide +kernel
theorem dX0_standsAhead_53 : decode cX0_standsAhead 53 = .ok (.getfield 33, 3) := by decide +kernel
theorem dX0_standsAhead_56 : decode cX0_standsAhead 56 = .ok (.invokestatic 99, 3) := by decide +kernel
theorem dX0_standsAhead_59 : decode cX0_standsAhead 59 = .ok (.ireturn, 1) := by decide +kernel
theorem dX0_standsAhead_60 : decode cX0_standsAhead 60 = .ok (.aload_n 0, 1) := by decide +kernel
theorem dX0_standsAhead_61 : decode cX0_standsAhead 61 = .ok (.getfield 17, 3) := by decide +kernel
theorem dX0_standsAhead_64 : decode cX0_standsAhead 64 = .ok (.iload_n 1, 1) := by decide +kernel
theorem dX0_standsAhead_65 : decode cX0_standsAhead 65 = .ok (.laload, 1) := by decide +kernel
theorem dX0_standsAhead_66 : decode cX0_standsAhead 66 = .ok (.aload_n 0, 1) := by decide +kernel
theorem dX0_standsAhead_67 : decode cX0_standsAhead 67 = .ok (.getfield 37, 3) := by decide +kernel
theorem dX0_standsAhead_70 : decode cX0_standsAhead 70 = .ok (.lcmp, 1) := by decide +kernel
theorem dX0_standsAhead_71 : decode cX0_standsAhead 71 = .ok (.ifCond .eq 17, 3) := by decide +kernel
theorem dX0_standsAhead_74 : decode cX0_standsAhead 74 = .ok (.aload_n 0, 1) := by decide +kernel
theorem dX0_standsAhead_75 : decode cX0_standsAhead 75 = .ok (.getfield 17, 3) := by decide +kernel
theorem dX0_standsAhead_78 : decode cX0_standsAhead 78 = .ok (.iload_n 1, 1) := by decide +kernel
theorem dX0_standsAhead_79 : decode cX0_standsAhead 79 = .ok (.laload, 1) := by decide +kernel
theorem dX0_standsAhead_80 : decode cX0_standsAhead 80 = .ok (.aload_n 0, 1) := by decide +kernel
theorem dX0_standsAhead_81 : decode cX0_standsAhead 81 = .ok (.getfield 37, 3) := by decide +kernel
theorem dX0_standsAhead_84 : decode cX0_standsAhead 84 = .ok (.invokestatic 99, 3) := by decide +kernel
theorem dX0_standsAhead_87 : decode cX0_standsAhead 87 = .ok (.ireturn, 1) := by decide +kernel
theorem dX0_standsAhead_88 : decode cX0_standsAhead 88 = .ok (.aload_n 0, 1) := by decide +kernel
theorem dX0_standsAhead_89 : decode cX0_standsAhead 89 = .ok (.getfield 20, 3) := by decide +kernel
theorem dX0_standsAhead_92 : decode cX0_standsAhead 92 = .ok (.iload_n 1, 1) := by decide +kernel
theorem dX0_standsAhead_93 : decode cX0_standsAhead 93 = .ok (.iaload, 1) := by decide +kernel
theorem dX0_standsAhead_94 : decode cX0_standsAhead 94 = .ok (.iload_n 2, 1) := by decide +kernel
theorem dX0_standsAhead_95 : decode cX0_standsAhead 95 = .ok (.if_icmp .ge 7, 3) := by decide +kernel
theorem dX0_standsAhead_98 : decode cX0_standsAhead 98 = .ok (.iconst 1, 1) := by decide +kernel
theorem dX0_standsAhead_99 : decode cX0_standsAhead 99 = .ok (.goto 4, 3) := by decide +kernel
theorem dX0_standsAhead_102 : decode cX0_standsAhead 102 = .ok (.iconst 0, 1) := by decide +kernel
theorem dX0_standsAhead_103 : decode cX0_standsAhead 103 = .ok (.ireturn, 1) := by decide +kernel
theorem dX0_isBelow_0 : decode cX0_isBelow 0 = .ok (.lload_n 0, 1) := by decide +kernel
theorem dX0_isBelow_1 : decode cX0_isBelow 1 = .ok (.ldc2_w 103, 3) := by decide +kernel
theorem dX0_isBelow_4 : decode cX0_isBelow 4 = .ok (.lxor, 1) := by decide +kernel
theorem dX0_isBelow_5 : decode cX0_isBelow 5 = .ok (.lload_n 2, 1) := by decide +kernel
theorem dX0_isBelow_6 : decode cX0_isBelow 6 = .ok (.ldc2_w 103, 3) := by decide +kernel
theorem dX0_isBelow_9 : decode cX0_isBelow 9 = .ok (.lxor, 1) := by decide +kernel
theorem dX0_isBelow_10 : decode cX0_isBelow 10 = .ok (.lcmp, 1) := by decide +kernel
theorem dX0_isBelow_11 : decode cX0_isBelow 11 = .ok (.ifCond .ge 7, 3) := by decide +kernel
theorem dX0_isBelow_14 : decode cX0_isBelow 14 = .ok (.iconst 1, 1) := by decide +kernel
theorem dX0_isBelow_15 : decode cX0_isBelow 15 = .ok (.goto 4, 3) := by decide +kernel
theorem dX0_isBelow_18 : decode cX0_isBelow 18 = .ok (.iconst 0, 1) := by decide +kernel
theorem dX0_isBelow_19 : decode cX0_isBelow 19 = .ok (.ireturn, 1) := by decide +kernel
theorem dX0_standsAt_0 : decode cX0_standsAt 0 = .ok (.iload_n 1, 1) := by decide +kernel
theorem dX0_standsAt_1 : decode cX0_standsAt 1 = .ok (.ifCond .lt 66, 3) := by decide +kernel
theorem dX0_standsAt_4 : decode cX0_standsAt 4 = .ok (.iload_n 1, 1) := by decide +kernel
theorem dX0_standsAt_5 : decode cX0_standsAt 5 = .ok (.aload_n 0, 1) := by decide +kernel
theorem dX0_standsAt_6 : decode cX0_standsAt 6 = .ok (.getfield 26, 3) := by decide +kernel
theorem dX0_standsAt_9 : decode cX0_standsAt 9 = .ok (.if_icmp .ge 58, 3) := by decide +kernel
theorem dX0_standsAt_12 : decode cX0_standsAt 12 = .ok (.aload_n 0, 1) := by decide +kernel
theorem dX0_standsAt_13 : decode cX0_standsAt 13 = .ok (.getfield 9, 3) := by decide +kernel
theorem dX0_standsAt_16 : decode cX0_standsAt 16 = .ok (.iload_n 1, 1) := by decide +kernel
theorem dX0_standsAt_17 : decode cX0_standsAt 17 = .ok (.iaload, 1) := by decide +kernel
theorem dX0_standsAt_18 : decode cX0_standsAt 18 = .ok (.aload_n 0, 1) := by decide +kernel
theorem dX0_standsAt_19 : decode cX0_standsAt 19 = .ok (.getfield 30, 3) := by decide +kernel
theorem dX0_standsAt_22 : decode cX0_standsAt 22 = .ok (.if_icmp .ne 45, 3) := by decide +kernel
theorem dX0_standsAt_25 : decode cX0_standsAt 25 = .ok (.aload_n 0, 1) := by decide +kernel
theorem dX0_standsAt_26 : decode cX0_standsAt 26 = .ok (.getfield 13, 3) := by decide +kernel
theorem dX0_standsAt_29 : decode cX0_standsAt 29 = .ok (.iload_n 1, 1) := by decide +kernel
theorem dX0_standsAt_30 : decode cX0_standsAt 30 = .ok (.laload, 1) := by decide +kernel
theorem dX0_standsAt_31 : decode cX0_standsAt 31 = .ok (.aload_n 0, 1) := by decide +kernel
theorem dX0_standsAt_32 : decode cX0_standsAt 32 = .ok (.getfield 33, 3) := by decide +kernel
theorem dX0_standsAt_35 : decode cX0_standsAt 35 = .ok (.lcmp, 1) := by decide +kernel
theorem dX0_standsAt_36 : decode cX0_standsAt 36 = .ok (.ifCond .ne 31, 3) := by decide +kernel
theorem dX0_standsAt_39 : decode cX0_standsAt 39 = .ok (.aload_n 0, 1) := by decide +kernel
theorem dX0_standsAt_40 : decode cX0_standsAt 40 = .ok (.getfield 17, 3) := by decide +kernel
theorem dX0_standsAt_43 : decode cX0_standsAt 43 = .ok (.iload_n 1, 1) := by decide +kernel
theorem dX0_standsAt_44 : decode cX0_standsAt 44 = .ok (.laload, 1) := by decide +kernel
theorem dX0_standsAt_45 : decode cX0_standsAt 45 = .ok (.aload_n 0, 1) := by decide +kernel
theorem dX0_standsAt_46 : decode cX0_standsAt 46 = .ok (.getfield 37, 3) := by decide +kernel
theorem dX0_standsAt_49 : decode cX0_standsAt 49 = .ok (.lcmp, 1) := by decide +kernel
theorem dX0_standsAt_50 : decode cX0_standsAt 50 = .ok (.ifCond .ne 17, 3) := by decide +kernel
theorem dX0_standsAt_53 : decode cX0_standsAt 53 = .ok (.aload_n 0, 1) := by decide +kernel
theorem dX0_standsAt_54 : decode cX0_standsAt 54 = .ok (.getfield 20, 3) := by decide +kernel
theorem dX0_standsAt_57 : decode cX0_standsAt 57 = .ok (.iload_n 1, 1) := by decide +kernel
theorem dX0_standsAt_58 : decode cX0_standsAt 58 = .ok (.iaload, 1) := by decide +kernel
theorem dX0_standsAt_59 : decode cX0_standsAt 59 = .ok (.iload_n 2, 1) := by decide +kernel
theorem dX0_standsAt_60 : decode cX0_standsAt 60 = .ok (.if_icmp .ne 7, 3) := by decide +kernel
theorem dX0_standsAt_63 : decode cX0_standsAt 63 = .ok (.iconst 1, 1) := by decide +kernel
theorem dX0_standsAt_64 : decode cX0_standsAt 64 = .ok (.goto 4, 3) := by decide +kernel
theorem dX0_standsAt_67 : decode cX0_standsAt 67 = .ok (.iconst 0, 1) := by decide +kernel
theorem dX0_standsAt_68 : decode cX0_standsAt 68 = .ok (.ireturn, 1) := by decide +kernel
theorem dX0_openPlace_0 : decode cX0_openPlace 0 = .ok (.aload_n 0, 1) := by decide +kernel
theorem dX0_openPlace_1 : decode cX0_openPlace 1 = .ok (.getfield 26, 3) := by decide +kernel
theorem dX0_openPlace_4 : decode cX0_openPlace 4 = .ok (.istore_n 2, 1) := by decide +kernel
theorem dX0_openPlace_5 : decode cX0_openPlace 5 = .ok (.iload_n 2, 1) := by decide +kernel
theorem dX0_openPlace_6 : decode cX0_openPlace 6 = .ok (.iload_n 1, 1) := by decide +kernel
theorem dX0_openPlace_7 : decode cX0_openPlace 7 = .ok (.if_icmp .le 17, 3) := by decide +kernel
theorem dX0_openPlace_10 : decode cX0_openPlace 10 = .ok (.aload_n 0, 1) := by decide +kernel
theorem dX0_openPlace_11 : decode cX0_openPlace 11 = .ok (.iload_n 2, 1) := by decide +kernel
theorem dX0_openPlace_12 : decode cX0_openPlace 12 = .ok (.iconst 1, 1) := by decide +kernel
theorem dX0_openPlace_13 : decode cX0_openPlace 13 = .ok (.isub, 1) := by decide +kernel
theorem dX0_openPlace_14 : decode cX0_openPlace 14 = .ok (.iload_n 2, 1) := by decide +kernel
theorem dX0_openPlace_15 : decode cX0_openPlace 15 = .ok (.invokevirtual 105, 3) := by decide +kernel
theorem dX0_openPlace_18 : decode cX0_openPlace 18 = .ok (.iinc 2 (-1), 3) := by decide +kernel
theorem dX0_openPlace_21 : decode cX0_openPlace 21 = .ok (.goto (-16), 3) := by decide +kernel
theorem dX0_openPlace_24 : decode cX0_openPlace 24 = .ok (.aload_n 0, 1) := by decide +kernel
theorem dX0_openPlace_25 : decode cX0_openPlace 25 = .ok (.dup, 1) := by decide +kernel
theorem dX0_openPlace_26 : decode cX0_openPlace 26 = .ok (.getfield 26, 3) := by decide +kernel
theorem dX0_openPlace_29 : decode cX0_openPlace 29 = .ok (.iconst 1, 1) := by decide +kernel
theorem dX0_openPlace_30 : decode cX0_openPlace 30 = .ok (.iadd, 1) := by decide +kernel
theorem dX0_openPlace_31 : decode cX0_openPlace 31 = .ok (.putfield 26, 3) := by decide +kernel
theorem dX0_openPlace_34 : decode cX0_openPlace 34 = .ok (.return_, 1) := by decide +kernel
theorem dX0_closePlace_0 : decode cX0_closePlace 0 = .ok (.aload_n 0, 1) := by decide +kernel
theorem dX0_closePlace_1 : decode cX0_closePlace 1 = .ok (.dup, 1) := by decide +kernel
theorem dX0_closePlace_2 : decode cX0_closePlace 2 = .ok (.getfield 26, 3) := by decide +kernel
theorem dX0_closePlace_5 : decode cX0_closePlace 5 = .ok (.iconst 1, 1) := by decide +kernel
theorem dX0_closePlace_6 : decode cX0_closePlace 6 = .ok (.isub, 1) := by decide +kernel
theorem dX0_closePlace_7 : decode cX0_closePlace 7 = .ok (.putfield 26, 3) := by decide +kernel
theorem dX0_closePlace_10 : decode cX0_closePlace 10 = .ok (.iload_n 1, 1) := by decide +kernel
theorem dX0_closePlace_11 : decode cX0_closePlace 11 = .ok (.istore_n 2, 1) := by decide +kernel
theorem dX0_closePlace_12 : decode cX0_closePlace 12 = .ok (.iload_n 2, 1) := by decide +kernel
theorem dX0_closePlace_13 : decode cX0_closePlace 13 = .ok (.aload_n 0, 1) := by decide +kernel
theorem dX0_closePlace_14 : decode cX0_closePlace 14 = .ok (.getfield 26, 3) := by decide +kernel
theorem dX0_closePlace_17 : decode cX0_closePlace 17 = .ok (.if_icmp .ge 17, 3) := by decide +kernel
theorem dX0_closePlace_20 : decode cX0_closePlace 20 = .ok (.aload_n 0, 1) := by decide +kernel
theorem dX0_closePlace_21 : decode cX0_closePlace 21 = .ok (.iload_n 2, 1) := by decide +kernel
theorem dX0_closePlace_22 : decode cX0_closePlace 22 = .ok (.iconst 1, 1) := by decide +kernel
theorem dX0_closePlace_23 : decode cX0_closePlace 23 = .ok (.iadd, 1) := by decide +kernel
theorem dX0_closePlace_24 : decode cX0_closePlace 24 = .ok (.iload_n 2, 1) := by decide +kernel
theorem dX0_closePlace_25 : decode cX0_closePlace 25 = .ok (.invokevirtual 105, 3) := by decide +kernel
theorem dX0_closePlace_28 : decode cX0_closePlace 28 = .ok (.iinc 2 1, 3) := by decide +kernel
theorem dX0_closePlace_31 : decode cX0_closePlace 31 = .ok (.goto (-19), 3) := by decide +kernel
theorem dX0_closePlace_34 : decode cX0_closePlace 34 = .ok (.return_, 1) := by decide +kernel
theorem dX0_copyPlace_0 : decode cX0_copyPlace 0 = .ok (.aload_n 0, 1) := by decide +kernel
theorem dX0_copyPlace_1 : decode cX0_copyPlace 1 = .ok (.getfield 9, 3) := by decide +kernel
theorem dX0_copyPlace_4 : decode cX0_copyPlace 4 = .ok (.iload_n 2, 1) := by decide +kernel
theorem dX0_copyPlace_5 : decode cX0_copyPlace 5 = .ok (.aload_n 0, 1) := by decide +kernel
theorem dX0_copyPlace_6 : decode cX0_copyPlace 6 = .ok (.getfield 9, 3) := by decide +kernel
theorem dX0_copyPlace_9 : decode cX0_copyPlace 9 = .ok (.iload_n 1, 1) := by decide +kernel
theorem dX0_copyPlace_10 : decode cX0_copyPlace 10 = .ok (.iaload, 1) := by decide +kernel
theorem dX0_copyPlace_11 : decode cX0_copyPlace 11 = .ok (.iastore, 1) := by decide +kernel
theorem dX0_copyPlace_12 : decode cX0_copyPlace 12 = .ok (.aload_n 0, 1) := by decide +kernel
theorem dX0_copyPlace_13 : decode cX0_copyPlace 13 = .ok (.getfield 13, 3) := by decide +kernel
theorem dX0_copyPlace_16 : decode cX0_copyPlace 16 = .ok (.iload_n 2, 1) := by decide +kernel
theorem dX0_copyPlace_17 : decode cX0_copyPlace 17 = .ok (.aload_n 0, 1) := by decide +kernel
theorem dX0_copyPlace_18 : decode cX0_copyPlace 18 = .ok (.getfield 13, 3) := by decide +kernel
theorem dX0_copyPlace_21 : decode cX0_copyPlace 21 = .ok (.iload_n 1, 1) := by decide +kernel
theorem dX0_copyPlace_22 : decode cX0_copyPlace 22 = .ok (.laload, 1) := by decide +kernel
theorem dX0_copyPlace_23 : decode cX0_copyPlace 23 = .ok (.lastore, 1) := by decide +kernel
theorem dX0_copyPlace_24 : decode cX0_copyPlace 24 = .ok (.aload_n 0, 1) := by decide +kernel
theorem dX0_copyPlace_25 : decode cX0_copyPlace 25 = .ok (.getfield 17, 3) := by decide +kernel
theorem dX0_copyPlace_28 : decode cX0_copyPlace 28 = .ok (.iload_n 2, 1) := by decide +kernel
theorem dX0_copyPlace_29 : decode cX0_copyPlace 29 = .ok (.aload_n 0, 1) := by decide +kernel
theorem dX0_copyPlace_30 : decode cX0_copyPlace 30 = .ok (.getfield 17, 3) := by decide +kernel
theorem dX0_copyPlace_33 : decode cX0_copyPlace 33 = .ok (.iload_n 1, 1) := by decide +kernel
theorem dX0_copyPlace_34 : decode cX0_copyPlace 34 = .ok (.laload, 1) := by decide +kernel
theorem dX0_copyPlace_35 : decode cX0_copyPlace 35 = .ok (.lastore, 1) := by decide +kernel
theorem dX0_copyPlace_36 : decode cX0_copyPlace 36 = .ok (.aload_n 0, 1) := by decide +kernel
theorem dX0_copyPlace_37 : decode cX0_copyPlace 37 = .ok (.getfield 20, 3) := by decide +kernel
theorem dX0_copyPlace_40 : decode cX0_copyPlace 40 = .ok (.iload_n 2, 1) := by decide +kernel
theorem dX0_copyPlace_41 : decode cX0_copyPlace 41 = .ok (.aload_n 0, 1) := by decide +kernel
theorem dX0_copyPlace_42 : decode cX0_copyPlace 42 = .ok (.getfield 20, 3) := by decide +kernel
theorem dX0_copyPlace_45 : decode cX0_copyPlace 45 = .ok (.iload_n 1, 1) := by decide +kernel
theorem dX0_copyPlace_46 : decode cX0_copyPlace 46 = .ok (.iaload, 1) := by decide +kernel
theorem dX0_copyPlace_47 : decode cX0_copyPlace 47 = .ok (.iastore, 1) := by decide +kernel
theorem dX0_copyPlace_48 : decode cX0_copyPlace 48 = .ok (.aload_n 0, 1) := by decide +kernel
theorem dX0_copyPlace_49 : decode cX0_copyPlace 49 = .ok (.getfield 23, 3) := by decide +kernel
theorem dX0_copyPlace_52 : decode cX0_copyPlace 52 = .ok (.iload_n 2, 1) := by decide +kernel
theorem dX0_copyPlace_53 : decode cX0_copyPlace 53 = .ok (.aload_n 0, 1) := by decide +kernel
theorem dX0_copyPlace_54 : decode cX0_copyPlace 54 = .ok (.getfield 23, 3) := by decide +kernel
theorem dX0_copyPlace_57 : decode cX0_copyPlace 57 = .ok (.iload_n 1, 1) := by decide +kernel
theorem dX0_copyPlace_58 : decode cX0_copyPlace 58 = .ok (.iaload, 1) := by decide +kernel
theorem dX0_copyPlace_59 : decode cX0_copyPlace 59 = .ok (.iastore, 1) := by decide +kernel
theorem dX0_copyPlace_60 : decode cX0_copyPlace 60 = .ok (.return_, 1) := by decide +kernel
theorem dX0_write_0 : decode cX0_write 0 = .ok (.aload_n 0, 1) := by decide +kernel
theorem dX0_write_1 : decode cX0_write 1 = .ok (.getfield 9, 3) := by decide +kernel
theorem dX0_write_4 : decode cX0_write 4 = .ok (.iload_n 1, 1) := by decide +kernel
theorem dX0_write_5 : decode cX0_write 5 = .ok (.aload_n 0, 1) := by decide +kernel
theorem dX0_write_6 : decode cX0_write 6 = .ok (.getfield 30, 3) := by decide +kernel
theorem dX0_write_9 : decode cX0_write 9 = .ok (.iastore, 1) := by decide +kernel
theorem dX0_write_10 : decode cX0_write 10 = .ok (.aload_n 0, 1) := by decide +kernel
theorem dX0_write_11 : decode cX0_write 11 = .ok (.getfield 13, 3) := by decide +kernel
theorem dX0_write_14 : decode cX0_write 14 = .ok (.iload_n 1, 1) := by decide +kernel
theorem dX0_write_15 : decode cX0_write 15 = .ok (.aload_n 0, 1) := by decide +kernel
theorem dX0_write_16 : decode cX0_write 16 = .ok (.getfield 33, 3) := by decide +kernel
theorem dX0_write_19 : decode cX0_write 19 = .ok (.lastore, 1) := by decide +kernel
theorem dX0_write_20 : decode cX0_write 20 = .ok (.aload_n 0, 1) := by decide +kernel
theorem dX0_write_21 : decode cX0_write 21 = .ok (.getfield 17, 3) := by decide +kernel
theorem dX0_write_24 : decode cX0_write 24 = .ok (.iload_n 1, 1) := by decide +kernel
theorem dX0_write_25 : decode cX0_write 25 = .ok (.aload_n 0, 1) := by decide +kernel
theorem dX0_write_26 : decode cX0_write 26 = .ok (.getfield 37, 3) := by decide +kernel
theorem dX0_write_29 : decode cX0_write 29 = .ok (.lastore, 1) := by decide +kernel
theorem dX0_write_30 : decode cX0_write 30 = .ok (.aload_n 0, 1) := by decide +kernel
theorem dX0_write_31 : decode cX0_write 31 = .ok (.getfield 20, 3) := by decide +kernel
theorem dX0_write_34 : decode cX0_write 34 = .ok (.iload_n 1, 1) := by decide +kernel
theorem dX0_write_35 : decode cX0_write 35 = .ok (.iload_n 2, 1) := by decide +kernel
theorem dX0_write_36 : decode cX0_write 36 = .ok (.iastore, 1) := by decide +kernel
theorem dX0_write_37 : decode cX0_write 37 = .ok (.aload_n 0, 1) := by decide +kernel
theorem dX0_write_38 : decode cX0_write 38 = .ok (.getfield 23, 3) := by decide +kernel
theorem dX0_write_41 : decode cX0_write 41 = .ok (.iload_n 1, 1) := by decide +kernel
theorem dX0_write_42 : decode cX0_write 42 = .ok (.iload_n 3, 1) := by decide +kernel
theorem dX0_write_43 : decode cX0_write 43 = .ok (.iastore, 1) := by decide +kernel
theorem dX0_write_44 : decode cX0_write 44 = .ok (.return_, 1) := by decide +kernel
theorem dX1_init_0 : decode cX1_init 0 = .ok (.aload_n 0, 1) := by decide +kernel
theorem dX1_init_1 : decode cX1_init 1 = .ok (.invokespecial 1, 3) := by decide +kernel
theorem dX1_init_4 : decode cX1_init 4 = .ok (.aload_n 0, 1) := by decide +kernel
theorem dX1_init_5 : decode cX1_init 5 = .ok (.sipush 1000, 3) := by decide +kernel
theorem dX1_init_8 : decode cX1_init 8 = .ok (.newarray .int, 2) := by decide +kernel
theorem dX1_init_10 : decode cX1_init 10 = .ok (.putfield 7, 3) := by decide +kernel
theorem dX1_init_13 : decode cX1_init 13 = .ok (.aload_n 0, 1) := by decide +kernel
theorem dX1_init_14 : decode cX1_init 14 = .ok (.sipush 1000, 3) := by decide +kernel
theorem dX1_init_17 : decode cX1_init 17 = .ok (.newarray .int, 2) := by decide +kernel
theorem dX1_init_19 : decode cX1_init 19 = .ok (.putfield 13, 3) := by decide +kernel
theorem dX1_init_22 : decode cX1_init 22 = .ok (.aload_n 0, 1) := by decide +kernel
theorem dX1_init_23 : decode cX1_init 23 = .ok (.sipush 1000, 3) := by decide +kernel
theorem dX1_init_26 : decode cX1_init 26 = .ok (.newarray .int, 2) := by decide +kernel
theorem dX1_init_28 : decode cX1_init 28 = .ok (.putfield 16, 3) := by decide +kernel
theorem dX1_init_31 : decode cX1_init 31 = .ok (.aload_n 0, 1) := by decide +kernel
theorem dX1_init_32 : decode cX1_init 32 = .ok (.sipush 1000, 3) := by decide +kernel
theorem dX1_init_35 : decode cX1_init 35 = .ok (.newarray .long, 2) := by decide +kernel
theorem dX1_init_37 : decode cX1_init 37 = .ok (.putfield 19, 3) := by decide +kernel
theorem dX1_init_40 : decode cX1_init 40 = .ok (.aload_n 0, 1) := by decide +kernel
theorem dX1_init_41 : decode cX1_init 41 = .ok (.sipush 1000, 3) := by decide +kernel
theorem dX1_init_44 : decode cX1_init 44 = .ok (.newarray .long, 2) := by decide +kernel
theorem dX1_init_46 : decode cX1_init 46 = .ok (.putfield 23, 3) := by decide +kernel
theorem dX1_init_49 : decode cX1_init 49 = .ok (.aload_n 0, 1) := by decide +kernel
theorem dX1_init_50 : decode cX1_init 50 = .ok (.iconst 4, 1) := by decide +kernel
theorem dX1_init_51 : decode cX1_init 51 = .ok (.putfield 26, 3) := by decide +kernel
theorem dX1_init_54 : decode cX1_init 54 = .ok (.return_, 1) := by decide +kernel
theorem dX1_address_0 : decode cX1_address 0 = .ok (.iload_n 1, 1) := by decide +kernel
theorem dX1_address_1 : decode cX1_address 1 = .ok (.bipush 6, 2) := by decide +kernel
theorem dX1_address_3 : decode cX1_address 3 = .ok (.if_icmp .eq 30, 3) := by decide +kernel
theorem dX1_address_6 : decode cX1_address 6 = .ok (.iload_n 1, 1) := by decide +kernel
theorem dX1_address_7 : decode cX1_address 7 = .ok (.iconst 4, 1) := by decide +kernel
theorem dX1_address_8 : decode cX1_address 8 = .ok (.if_icmp .ne 29, 3) := by decide +kernel
theorem dX1_address_11 : decode cX1_address 11 = .ok (.lload_n 2, 1) := by decide +kernel
theorem dX1_address_12 : decode cX1_address 12 = .ok (.lconst 0, 1) := by decide +kernel
theorem dX1_address_13 : decode cX1_address 13 = .ok (.lcmp, 1) := by decide +kernel
theorem dX1_address_14 : decode cX1_address 14 = .ok (.ifCond .ne 23, 3) := by decide +kernel
theorem dX1_address_17 : decode cX1_address 17 = .ok (.lload 4, 2) := by decide +kernel
theorem dX1_address_19 : decode cX1_address 19 = .ok (.lconst 0, 1) := by decide +kernel
theorem dX1_address_20 : decode cX1_address 20 = .ok (.lcmp, 1) := by decide +kernel
theorem dX1_address_21 : decode cX1_address 21 = .ok (.ifCond .lt 16, 3) := by decide +kernel
theorem dX1_address_24 : decode cX1_address 24 = .ok (.lload 4, 2) := by decide +kernel
theorem dX1_address_26 : decode cX1_address 26 = .ok (.ldc2_w 30, 3) := by decide +kernel
theorem dX1_address_29 : decode cX1_address 29 = .ok (.lcmp, 1) := by decide +kernel
theorem dX1_address_30 : decode cX1_address 30 = .ok (.ifCond .ge 7, 3) := by decide +kernel
theorem dX1_address_33 : decode cX1_address 33 = .ok (.iconst 1, 1) := by decide +kernel
theorem dX1_address_34 : decode cX1_address 34 = .ok (.goto 4, 3) := by decide +kernel
theorem dX1_address_37 : decode cX1_address 37 = .ok (.iconst 0, 1) := by decide +kernel
theorem dX1_address_38 : decode cX1_address 38 = .ok (.istore 6, 2) := by decide +kernel
theorem dX1_address_40 : decode cX1_address 40 = .ok (.iload 6, 2) := by decide +kernel
theorem dX1_address_42 : decode cX1_address 42 = .ok (.ifCond .eq 19, 3) := by decide +kernel
theorem dX1_address_45 : decode cX1_address 45 = .ok (.aload_n 0, 1) := by decide +kernel
theorem dX1_address_46 : decode cX1_address 46 = .ok (.iload_n 1, 1) := by decide +kernel
theorem dX1_address_47 : decode cX1_address 47 = .ok (.putfield 26, 3) := by decide +kernel
theorem dX1_address_50 : decode cX1_address 50 = .ok (.aload_n 0, 1) := by decide +kernel
theorem dX1_address_51 : decode cX1_address 51 = .ok (.lload_n 2, 1) := by decide +kernel
theorem dX1_address_52 : decode cX1_address 52 = .ok (.putfield 32, 3) := by decide +kernel
theorem dX1_address_55 : decode cX1_address 55 = .ok (.aload_n 0, 1) := by decide +kernel
theorem dX1_address_56 : decode cX1_address 56 = .ok (.lload 4, 2) := by decide +kernel
theorem dX1_address_58 : decode cX1_address 58 = .ok (.putfield 36, 3) := by decide +kernel
theorem dX1_address_61 : decode cX1_address 61 = .ok (.iload 6, 2) := by decide +kernel
theorem dX1_address_63 : decode cX1_address 63 = .ok (.ireturn, 1) := by decide +kernel
theorem dX1_isLength_0 : decode cX1_isLength 0 = .ok (.iload_n 1, 1) := by decide +kernel
theorem dX1_isLength_1 : decode cX1_isLength 1 = .ok (.ifCond .lt 27, 3) := by decide +kernel
theorem dX1_isLength_4 : decode cX1_isLength 4 = .ok (.iload_n 1, 1) := by decide +kernel
theorem dX1_isLength_5 : decode cX1_isLength 5 = .ok (.aload_n 0, 1) := by decide +kernel
theorem dX1_isLength_6 : decode cX1_isLength 6 = .ok (.getfield 26, 3) := by decide +kernel
theorem dX1_isLength_9 : decode cX1_isLength 9 = .ok (.iconst 4, 1) := by decide +kernel
theorem dX1_isLength_10 : decode cX1_isLength 10 = .ok (.if_icmp .ne 8, 3) := by decide +kernel
theorem dX1_isLength_13 : decode cX1_isLength 13 = .ok (.bipush 32, 2) := by decide +kernel
theorem dX1_isLength_15 : decode cX1_isLength 15 = .ok (.goto 6, 3) := by decide +kernel
theorem dX1_isLength_18 : decode cX1_isLength 18 = .ok (.sipush 128, 3) := by decide +kernel
theorem dX1_isLength_21 : decode cX1_isLength 21 = .ok (.if_icmp .gt 7, 3) := by decide +kernel
theorem dX1_isLength_24 : decode cX1_isLength 24 = .ok (.iconst 1, 1) := by decide +kernel
theorem dX1_isLength_25 : decode cX1_isLength 25 = .ok (.goto 4, 3) := by decide +kernel
theorem dX1_isLength_28 : decode cX1_isLength 28 = .ok (.iconst 0, 1) := by decide +kernel
theorem dX1_isLength_29 : decode cX1_isLength 29 = .ok (.ireturn, 1) := by decide +kernel
theorem dX1_bit_0 : decode cX1_bit 0 = .ok (.iload_n 0, 1) := by decide +kernel
theorem dX1_bit_1 : decode cX1_bit 1 = .ok (.iconst 4, 1) := by decide +kernel
theorem dX1_bit_2 : decode cX1_bit 2 = .ok (.if_icmp .ne 14, 3) := by decide +kernel
theorem dX1_bit_5 : decode cX1_bit 5 = .ok (.lload_n 3, 1) := by decide +kernel
theorem dX1_bit_6 : decode cX1_bit 6 = .ok (.bipush 31, 2) := by decide +kernel
theorem dX1_bit_8 : decode cX1_bit 8 = .ok (.iload 5, 2) := by decide +kernel
theorem dX1_bit_10 : decode cX1_bit 10 = .ok (.isub, 1) := by decide +kernel
theorem dX1_bit_11 : decode cX1_bit 11 = .ok (.lshr, 1) := by decide +kernel
theorem dX1_bit_12 : decode cX1_bit 12 = .ok (.lconst 1, 1) := by decide +kernel
theorem dX1_bit_13 : decode cX1_bit 13 = .ok (.land, 1) := by decide +kernel
theorem dX1_bit_14 : decode cX1_bit 14 = .ok (.l2i, 1) := by decide +kernel
theorem dX1_bit_15 : decode cX1_bit 15 = .ok (.ireturn, 1) := by decide +kernel
theorem dX1_bit_16 : decode cX1_bit 16 = .ok (.iload 5, 2) := by decide +kernel
theorem dX1_bit_18 : decode cX1_bit 18 = .ok (.bipush 64, 2) := by decide +kernel
theorem dX1_bit_20 : decode cX1_bit 20 = .ok (.if_icmp .ge 15, 3) := by decide +kernel
theorem dX1_bit_23 : decode cX1_bit 23 = .ok (.lload_n 1, 1) := by decide +kernel
theorem dX1_bit_24 : decode cX1_bit 24 = .ok (.bipush 63, 2) := by decide +kernel
theorem dX1_bit_26 : decode cX1_bit 26 = .ok (.iload 5, 2) := by decide +kernel
theorem dX1_bit_28 : decode cX1_bit 28 = .ok (.isub, 1) := by decide +kernel
theorem dX1_bit_29 : decode cX1_bit 29 = .ok (.lshr, 1) := by decide +kernel
theorem dX1_bit_30 : decode cX1_bit 30 = .ok (.lconst 1, 1) := by decide +kernel
theorem dX1_bit_31 : decode cX1_bit 31 = .ok (.land, 1) := by decide +kernel
theorem dX1_bit_32 : decode cX1_bit 32 = .ok (.goto 12, 3) := by decide +kernel
theorem dX1_bit_35 : decode cX1_bit 35 = .ok (.lload_n 3, 1) := by decide +kernel
theorem dX1_bit_36 : decode cX1_bit 36 = .ok (.bipush 127, 2) := by decide +kernel
theorem dX1_bit_38 : decode cX1_bit 38 = .ok (.iload 5, 2) := by decide +kernel
theorem dX1_bit_40 : decode cX1_bit 40 = .ok (.isub, 1) := by decide +kernel
theorem dX1_bit_41 : decode cX1_bit 41 = .ok (.lshr, 1) := by decide +kernel
theorem dX1_bit_42 : decode cX1_bit 42 = .ok (.lconst 1, 1) := by decide +kernel
theorem dX1_bit_43 : decode cX1_bit 43 = .ok (.land, 1) := by decide +kernel
theorem dX1_bit_44 : decode cX1_bit 44 = .ok (.l2i, 1) := by decide +kernel
theorem dX1_bit_45 : decode cX1_bit 45 = .ok (.ireturn, 1) := by decide +kernel
theorem dX1_isPrefix_0 : decode cX1_isPrefix 0 = .ok (.aload_n 0, 1) := by decide +kernel
theorem dX1_isPrefix_1 : decode cX1_isPrefix 1 = .ok (.iload_n 1, 1) := by decide +kernel
theorem dX1_isPrefix_2 : decode cX1_isPrefix 2 = .ok (.invokevirtual 39, 3) := by decide +kernel
theorem dX1_isPrefix_5 : decode cX1_isPrefix 5 = .ok (.istore_n 2, 1) := by decide +kernel
theorem dX1_isPrefix_6 : decode cX1_isPrefix 6 = .ok (.aload_n 0, 1) := by decide +kernel
theorem dX1_isPrefix_7 : decode cX1_isPrefix 7 = .ok (.getfield 26, 3) := by decide +kernel
theorem dX1_isPrefix_10 : decode cX1_isPrefix 10 = .ok (.iconst 4, 1) := by decide +kernel
theorem dX1_isPrefix_11 : decode cX1_isPrefix 11 = .ok (.if_icmp .ne 8, 3) := by decide +kernel
theorem dX1_isPrefix_14 : decode cX1_isPrefix 14 = .ok (.bipush 32, 2) := by decide +kernel
theorem dX1_isPrefix_16 : decode cX1_isPrefix 16 = .ok (.goto 6, 3) := by decide +kernel
theorem dX1_isPrefix_19 : decode cX1_isPrefix 19 = .ok (.sipush 128, 3) := by decide +kernel
theorem dX1_isPrefix_22 : decode cX1_isPrefix 22 = .ok (.istore_n 3, 1) := by decide +kernel
theorem dX1_isPrefix_23 : decode cX1_isPrefix 23 = .ok (.iload_n 1, 1) := by decide +kernel
theorem dX1_isPrefix_24 : decode cX1_isPrefix 24 = .ok (.istore 4, 2) := by decide +kernel
theorem dX1_isPrefix_26 : decode cX1_isPrefix 26 = .ok (.iload 4, 2) := by decide +kernel
theorem dX1_isPrefix_28 : decode cX1_isPrefix 28 = .ok (.iload_n 3, 1) := by decide +kernel
theorem dX1_isPrefix_29 : decode cX1_isPrefix 29 = .ok (.if_icmp .ge 39, 3) := by decide +kernel
theorem dX1_isPrefix_32 : decode cX1_isPrefix 32 = .ok (.iload_n 2, 1) := by decide +kernel
theorem dX1_isPrefix_33 : decode cX1_isPrefix 33 = .ok (.ifCond .eq 35, 3) := by decide +kernel
theorem dX1_isPrefix_36 : decode cX1_isPrefix 36 = .ok (.aload_n 0, 1) := by decide +kernel
theorem dX1_isPrefix_37 : decode cX1_isPrefix 37 = .ok (.getfield 26, 3) := by decide +kernel
theorem dX1_isPrefix_40 : decode cX1_isPrefix 40 = .ok (.aload_n 0, 1) := by decide +kernel
theorem dX1_isPrefix_41 : decode cX1_isPrefix 41 = .ok (.getfield 32, 3) := by decide +kernel
end
section
theorem dX1_isPrefix_44 : decode cX1_isPrefix 44 = .ok (.aload_n 0, 1) := by decide +kernel
theorem dX1_isPrefix_45 : decode cX1_isPrefix 45 = .ok (.getfield 36, 3) := by decide +kernel
theorem dX1_isPrefix_48 : decode cX1_isPrefix 48 = .ok (.iload 4, 2) := by decide +kernel
theorem dX1_isPrefix_50 : decode cX1_isPrefix 50 = .ok (.invokestatic 43, 3) := by decide +kernel
theorem dX1_isPrefix_53 : decode cX1_isPrefix 53 = .ok (.ifCond .ne 7, 3) := by decide +kernel
theorem dX1_isPrefix_56 : decode cX1_isPrefix 56 = .ok (.iconst 1, 1) := by decide +kernel
theorem dX1_isPrefix_57 : decode cX1_isPrefix 57 = .ok (.goto 4, 3) := by decide +kernel
theorem dX1_isPrefix_60 : decode cX1_isPrefix 60 = .ok (.iconst 0, 1) := by decide +kernel
theorem dX1_isPrefix_61 : decode cX1_isPrefix 61 = .ok (.istore_n 2, 1) := by decide +kernel
theorem dX1_isPrefix_62 : decode cX1_isPrefix 62 = .ok (.iinc 4 1, 3) := by decide +kernel
theorem dX1_isPrefix_65 : decode cX1_isPrefix 65 = .ok (.goto (-39), 3) := by decide +kernel
theorem dX1_isPrefix_68 : decode cX1_isPrefix 68 = .ok (.iload_n 2, 1) := by decide +kernel
theorem dX1_isPrefix_69 : decode cX1_isPrefix 69 = .ok (.ireturn, 1) := by decide +kernel
theorem dX1_find_0 : decode cX1_find 0 = .ok (.iconst 0, 1) := by decide +kernel
theorem dX1_find_1 : decode cX1_find 1 = .ok (.istore_n 2, 1) := by decide +kernel
theorem dX1_find_2 : decode cX1_find 2 = .ok (.iload_n 2, 1) := by decide +kernel
theorem dX1_find_3 : decode cX1_find 3 = .ok (.aload_n 0, 1) := by decide +kernel
theorem dX1_find_4 : decode cX1_find 4 = .ok (.getfield 47, 3) := by decide +kernel
theorem dX1_find_7 : decode cX1_find 7 = .ok (.if_icmp .ge 62, 3) := by decide +kernel
theorem dX1_find_10 : decode cX1_find 10 = .ok (.aload_n 0, 1) := by decide +kernel
theorem dX1_find_11 : decode cX1_find 11 = .ok (.getfield 7, 3) := by decide +kernel
theorem dX1_find_14 : decode cX1_find 14 = .ok (.iload_n 2, 1) := by decide +kernel
theorem dX1_find_15 : decode cX1_find 15 = .ok (.iaload, 1) := by decide +kernel
theorem dX1_find_16 : decode cX1_find 16 = .ok (.aload_n 0, 1) := by decide +kernel
theorem dX1_find_17 : decode cX1_find 17 = .ok (.getfield 26, 3) := by decide +kernel
theorem dX1_find_20 : decode cX1_find 20 = .ok (.if_icmp .ne 43, 3) := by decide +kernel
theorem dX1_find_23 : decode cX1_find 23 = .ok (.aload_n 0, 1) := by decide +kernel
theorem dX1_find_24 : decode cX1_find 24 = .ok (.getfield 19, 3) := by decide +kernel
theorem dX1_find_27 : decode cX1_find 27 = .ok (.iload_n 2, 1) := by decide +kernel
theorem dX1_find_28 : decode cX1_find 28 = .ok (.laload, 1) := by decide +kernel
theorem dX1_find_29 : decode cX1_find 29 = .ok (.aload_n 0, 1) := by decide +kernel
theorem dX1_find_30 : decode cX1_find 30 = .ok (.getfield 32, 3) := by decide +kernel
theorem dX1_find_33 : decode cX1_find 33 = .ok (.lcmp, 1) := by decide +kernel
theorem dX1_find_34 : decode cX1_find 34 = .ok (.ifCond .ne 29, 3) := by decide +kernel
theorem dX1_find_37 : decode cX1_find 37 = .ok (.aload_n 0, 1) := by decide +kernel
theorem dX1_find_38 : decode cX1_find 38 = .ok (.getfield 23, 3) := by decide +kernel
theorem dX1_find_41 : decode cX1_find 41 = .ok (.iload_n 2, 1) := by decide +kernel
theorem dX1_find_42 : decode cX1_find 42 = .ok (.laload, 1) := by decide +kernel
theorem dX1_find_43 : decode cX1_find 43 = .ok (.aload_n 0, 1) := by decide +kernel
theorem dX1_find_44 : decode cX1_find 44 = .ok (.getfield 36, 3) := by decide +kernel
theorem dX1_find_47 : decode cX1_find 47 = .ok (.lcmp, 1) := by decide +kernel
theorem dX1_find_48 : decode cX1_find 48 = .ok (.ifCond .ne 15, 3) := by decide +kernel
theorem dX1_find_51 : decode cX1_find 51 = .ok (.aload_n 0, 1) := by decide +kernel
theorem dX1_find_52 : decode cX1_find 52 = .ok (.getfield 13, 3) := by decide +kernel
theorem dX1_find_55 : decode cX1_find 55 = .ok (.iload_n 2, 1) := by decide +kernel
theorem dX1_find_56 : decode cX1_find 56 = .ok (.iaload, 1) := by decide +kernel
theorem dX1_find_57 : decode cX1_find 57 = .ok (.iload_n 1, 1) := by decide +kernel
theorem dX1_find_58 : decode cX1_find 58 = .ok (.if_icmp .ne 5, 3) := by decide +kernel
theorem dX1_find_61 : decode cX1_find 61 = .ok (.iload_n 2, 1) := by decide +kernel
theorem dX1_find_62 : decode cX1_find 62 = .ok (.ireturn, 1) := by decide +kernel
theorem dX1_find_63 : decode cX1_find 63 = .ok (.iinc 2 1, 3) := by decide +kernel
theorem dX1_find_66 : decode cX1_find 66 = .ok (.goto (-64), 3) := by decide +kernel
theorem dX1_find_69 : decode cX1_find 69 = .ok (.iconst (-1), 1) := by decide +kernel
theorem dX1_find_70 : decode cX1_find 70 = .ok (.ireturn, 1) := by decide +kernel
theorem dX1_put_0 : decode cX1_put 0 = .ok (.aload_n 0, 1) := by decide +kernel
theorem dX1_put_1 : decode cX1_put 1 = .ok (.iload_n 1, 1) := by decide +kernel
theorem dX1_put_2 : decode cX1_put 2 = .ok (.invokevirtual 50, 3) := by decide +kernel
theorem dX1_put_5 : decode cX1_put 5 = .ok (.ifCond .ne 5, 3) := by decide +kernel
theorem dX1_put_8 : decode cX1_put 8 = .ok (.iconst (-1), 1) := by decide +kernel
theorem dX1_put_9 : decode cX1_put 9 = .ok (.ireturn, 1) := by decide +kernel
theorem dX1_put_10 : decode cX1_put 10 = .ok (.aload_n 0, 1) := by decide +kernel
theorem dX1_put_11 : decode cX1_put 11 = .ok (.iload_n 1, 1) := by decide +kernel
theorem dX1_put_12 : decode cX1_put 12 = .ok (.invokevirtual 53, 3) := by decide +kernel
theorem dX1_put_15 : decode cX1_put 15 = .ok (.istore_n 3, 1) := by decide +kernel
theorem dX1_put_16 : decode cX1_put 16 = .ok (.iload_n 3, 1) := by decide +kernel
theorem dX1_put_17 : decode cX1_put 17 = .ok (.iconst (-1), 1) := by decide +kernel
theorem dX1_put_18 : decode cX1_put 18 = .ok (.if_icmp .eq 12, 3) := by decide +kernel
theorem dX1_put_21 : decode cX1_put 21 = .ok (.aload_n 0, 1) := by decide +kernel
theorem dX1_put_22 : decode cX1_put 22 = .ok (.getfield 16, 3) := by decide +kernel
theorem dX1_put_25 : decode cX1_put 25 = .ok (.iload_n 3, 1) := by decide +kernel
theorem dX1_put_26 : decode cX1_put 26 = .ok (.iload_n 2, 1) := by decide +kernel
theorem dX1_put_27 : decode cX1_put 27 = .ok (.iastore, 1) := by decide +kernel
theorem dX1_put_28 : decode cX1_put 28 = .ok (.iconst 0, 1) := by decide +kernel
theorem dX1_put_29 : decode cX1_put 29 = .ok (.ireturn, 1) := by decide +kernel
theorem dX1_put_30 : decode cX1_put 30 = .ok (.aload_n 0, 1) := by decide +kernel
theorem dX1_put_31 : decode cX1_put 31 = .ok (.getfield 47, 3) := by decide +kernel
theorem dX1_put_34 : decode cX1_put 34 = .ok (.sipush 1000, 3) := by decide +kernel
theorem dX1_put_37 : decode cX1_put 37 = .ok (.if_icmp .ne 5, 3) := by decide +kernel
theorem dX1_put_40 : decode cX1_put 40 = .ok (.iconst (-1), 1) := by decide +kernel
theorem dX1_put_41 : decode cX1_put 41 = .ok (.ireturn, 1) := by decide +kernel
theorem dX1_put_42 : decode cX1_put 42 = .ok (.aload_n 0, 1) := by decide +kernel
theorem dX1_put_43 : decode cX1_put 43 = .ok (.getfield 7, 3) := by decide +kernel
theorem dX1_put_46 : decode cX1_put 46 = .ok (.aload_n 0, 1) := by decide +kernel
theorem dX1_put_47 : decode cX1_put 47 = .ok (.getfield 47, 3) := by decide +kernel
theorem dX1_put_50 : decode cX1_put 50 = .ok (.aload_n 0, 1) := by decide +kernel
theorem dX1_put_51 : decode cX1_put 51 = .ok (.getfield 26, 3) := by decide +kernel
theorem dX1_put_54 : decode cX1_put 54 = .ok (.iastore, 1) := by decide +kernel
theorem dX1_put_55 : decode cX1_put 55 = .ok (.aload_n 0, 1) := by decide +kernel
theorem dX1_put_56 : decode cX1_put 56 = .ok (.getfield 19, 3) := by decide +kernel
theorem dX1_put_59 : decode cX1_put 59 = .ok (.aload_n 0, 1) := by decide +kernel
theorem dX1_put_60 : decode cX1_put 60 = .ok (.getfield 47, 3) := by decide +kernel
theorem dX1_put_63 : decode cX1_put 63 = .ok (.aload_n 0, 1) := by decide +kernel
theorem dX1_put_64 : decode cX1_put 64 = .ok (.getfield 32, 3) := by decide +kernel
theorem dX1_put_67 : decode cX1_put 67 = .ok (.lastore, 1) := by decide +kernel
theorem dX1_put_68 : decode cX1_put 68 = .ok (.aload_n 0, 1) := by decide +kernel
theorem dX1_put_69 : decode cX1_put 69 = .ok (.getfield 23, 3) := by decide +kernel
theorem dX1_put_72 : decode cX1_put 72 = .ok (.aload_n 0, 1) := by decide +kernel
theorem dX1_put_73 : decode cX1_put 73 = .ok (.getfield 47, 3) := by decide +kernel
theorem dX1_put_76 : decode cX1_put 76 = .ok (.aload_n 0, 1) := by decide +kernel
theorem dX1_put_77 : decode cX1_put 77 = .ok (.getfield 36, 3) := by decide +kernel
theorem dX1_put_80 : decode cX1_put 80 = .ok (.lastore, 1) := by decide +kernel
theorem dX1_put_81 : decode cX1_put 81 = .ok (.aload_n 0, 1) := by decide +kernel
theorem dX1_put_82 : decode cX1_put 82 = .ok (.getfield 13, 3) := by decide +kernel
theorem dX1_put_85 : decode cX1_put 85 = .ok (.aload_n 0, 1) := by decide +kernel
theorem dX1_put_86 : decode cX1_put 86 = .ok (.getfield 47, 3) := by decide +kernel
theorem dX1_put_89 : decode cX1_put 89 = .ok (.iload_n 1, 1) := by decide +kernel
theorem dX1_put_90 : decode cX1_put 90 = .ok (.iastore, 1) := by decide +kernel
theorem dX1_put_91 : decode cX1_put 91 = .ok (.aload_n 0, 1) := by decide +kernel
theorem dX1_put_92 : decode cX1_put 92 = .ok (.getfield 16, 3) := by decide +kernel
theorem dX1_put_95 : decode cX1_put 95 = .ok (.aload_n 0, 1) := by decide +kernel
theorem dX1_put_96 : decode cX1_put 96 = .ok (.getfield 47, 3) := by decide +kernel
theorem dX1_put_99 : decode cX1_put 99 = .ok (.iload_n 2, 1) := by decide +kernel
theorem dX1_put_100 : decode cX1_put 100 = .ok (.iastore, 1) := by decide +kernel
theorem dX1_put_101 : decode cX1_put 101 = .ok (.aload_n 0, 1) := by decide +kernel
theorem dX1_put_102 : decode cX1_put 102 = .ok (.dup, 1) := by decide +kernel
theorem dX1_put_103 : decode cX1_put 103 = .ok (.getfield 47, 3) := by decide +kernel
theorem dX1_put_106 : decode cX1_put 106 = .ok (.iconst 1, 1) := by decide +kernel
theorem dX1_put_107 : decode cX1_put 107 = .ok (.iadd, 1) := by decide +kernel
theorem dX1_put_108 : decode cX1_put 108 = .ok (.putfield 47, 3) := by decide +kernel
theorem dX1_put_111 : decode cX1_put 111 = .ok (.iconst 1, 1) := by decide +kernel
theorem dX1_put_112 : decode cX1_put 112 = .ok (.ireturn, 1) := by decide +kernel
theorem dX1_remove_0 : decode cX1_remove 0 = .ok (.aload_n 0, 1) := by decide +kernel
theorem dX1_remove_1 : decode cX1_remove 1 = .ok (.iload_n 1, 1) := by decide +kernel
theorem dX1_remove_2 : decode cX1_remove 2 = .ok (.invokevirtual 50, 3) := by decide +kernel
theorem dX1_remove_5 : decode cX1_remove 5 = .ok (.ifCond .ne 5, 3) := by decide +kernel
theorem dX1_remove_8 : decode cX1_remove 8 = .ok (.iconst (-1), 1) := by decide +kernel
theorem dX1_remove_9 : decode cX1_remove 9 = .ok (.ireturn, 1) := by decide +kernel
theorem dX1_remove_10 : decode cX1_remove 10 = .ok (.aload_n 0, 1) := by decide +kernel
theorem dX1_remove_11 : decode cX1_remove 11 = .ok (.iload_n 1, 1) := by decide +kernel
theorem dX1_remove_12 : decode cX1_remove 12 = .ok (.invokevirtual 53, 3) := by decide +kernel
theorem dX1_remove_15 : decode cX1_remove 15 = .ok (.istore_n 2, 1) := by decide +kernel
theorem dX1_remove_16 : decode cX1_remove 16 = .ok (.iload_n 2, 1) := by decide +kernel
theorem dX1_remove_17 : decode cX1_remove 17 = .ok (.iconst (-1), 1) := by decide +kernel
theorem dX1_remove_18 : decode cX1_remove 18 = .ok (.if_icmp .ne 5, 3) := by decide +kernel
theorem dX1_remove_21 : decode cX1_remove 21 = .ok (.iconst 0, 1) := by decide +kernel
theorem dX1_remove_22 : decode cX1_remove 22 = .ok (.ireturn, 1) := by decide +kernel
theorem dX1_remove_23 : decode cX1_remove 23 = .ok (.aload_n 0, 1) := by decide +kernel
theorem dX1_remove_24 : decode cX1_remove 24 = .ok (.dup, 1) := by decide +kernel
theorem dX1_remove_25 : decode cX1_remove 25 = .ok (.getfield 47, 3) := by decide +kernel
theorem dX1_remove_28 : decode cX1_remove 28 = .ok (.iconst 1, 1) := by decide +kernel
theorem dX1_remove_29 : decode cX1_remove 29 = .ok (.isub, 1) := by decide +kernel
theorem dX1_remove_30 : decode cX1_remove 30 = .ok (.putfield 47, 3) := by decide +kernel
theorem dX1_remove_33 : decode cX1_remove 33 = .ok (.iload_n 2, 1) := by decide +kernel
theorem dX1_remove_34 : decode cX1_remove 34 = .ok (.istore_n 3, 1) := by decide +kernel
theorem dX1_remove_35 : decode cX1_remove 35 = .ok (.iload_n 3, 1) := by decide +kernel
theorem dX1_remove_36 : decode cX1_remove 36 = .ok (.aload_n 0, 1) := by decide +kernel
theorem dX1_remove_37 : decode cX1_remove 37 = .ok (.getfield 47, 3) := by decide +kernel
theorem dX1_remove_40 : decode cX1_remove 40 = .ok (.if_icmp .ge 79, 3) := by decide +kernel
theorem dX1_remove_43 : decode cX1_remove 43 = .ok (.aload_n 0, 1) := by decide +kernel
theorem dX1_remove_44 : decode cX1_remove 44 = .ok (.getfield 7, 3) := by decide +kernel
theorem dX1_remove_47 : decode cX1_remove 47 = .ok (.iload_n 3, 1) := by decide +kernel
theorem dX1_remove_48 : decode cX1_remove 48 = .ok (.aload_n 0, 1) := by decide +kernel
theorem dX1_remove_49 : decode cX1_remove 49 = .ok (.getfield 7, 3) := by decide +kernel
theorem dX1_remove_52 : decode cX1_remove 52 = .ok (.iload_n 3, 1) := by decide +kernel
theorem dX1_remove_53 : decode cX1_remove 53 = .ok (.iconst 1, 1) := by decide +kernel
theorem dX1_remove_54 : decode cX1_remove 54 = .ok (.iadd, 1) := by decide +kernel
theorem dX1_remove_55 : decode cX1_remove 55 = .ok (.iaload, 1) := by decide +kernel
theorem dX1_remove_56 : decode cX1_remove 56 = .ok (.iastore, 1) := by decide +kernel
theorem dX1_remove_57 : decode cX1_remove 57 = .ok (.aload_n 0, 1) := by decide +kernel
theorem dX1_remove_58 : decode cX1_remove 58 = .ok (.getfield 19, 3) := by decide +kernel
theorem dX1_remove_61 : decode cX1_remove 61 = .ok (.iload_n 3, 1) := by decide +kernel
theorem dX1_remove_62 : decode cX1_remove 62 = .ok (.aload_n 0, 1) := by decide +kernel
theorem dX1_remove_63 : decode cX1_remove 63 = .ok (.getfield 19, 3) := by decide +kernel
theorem dX1_remove_66 : decode cX1_remove 66 = .ok (.iload_n 3, 1) := by decide +kernel
theorem dX1_remove_67 : decode cX1_remove 67 = .ok (.iconst 1, 1) := by decide +kernel
theorem dX1_remove_68 : decode cX1_remove 68 = .ok (.iadd, 1) := by decide +kernel
theorem dX1_remove_69 : decode cX1_remove 69 = .ok (.laload, 1) := by decide +kernel
theorem dX1_remove_70 : decode cX1_remove 70 = .ok (.lastore, 1) := by decide +kernel
theorem dX1_remove_71 : decode cX1_remove 71 = .ok (.aload_n 0, 1) := by decide +kernel
theorem dX1_remove_72 : decode cX1_remove 72 = .ok (.getfield 23, 3) := by decide +kernel
theorem dX1_remove_75 : decode cX1_remove 75 = .ok (.iload_n 3, 1) := by decide +kernel
theorem dX1_remove_76 : decode cX1_remove 76 = .ok (.aload_n 0, 1) := by decide +kernel
theorem dX1_remove_77 : decode cX1_remove 77 = .ok (.getfield 23, 3) := by decide +kernel
theorem dX1_remove_80 : decode cX1_remove 80 = .ok (.iload_n 3, 1) := by decide +kernel
theorem dX1_remove_81 : decode cX1_remove 81 = .ok (.iconst 1, 1) := by decide +kernel
theorem dX1_remove_82 : decode cX1_remove 82 = .ok (.iadd, 1) := by decide +kernel
theorem dX1_remove_83 : decode cX1_remove 83 = .ok (.laload, 1) := by decide +kernel
theorem dX1_remove_84 : decode cX1_remove 84 = .ok (.lastore, 1) := by decide +kernel
theorem dX1_remove_85 : decode cX1_remove 85 = .ok (.aload_n 0, 1) := by decide +kernel
theorem dX1_remove_86 : decode cX1_remove 86 = .ok (.getfield 13, 3) := by decide +kernel
theorem dX1_remove_89 : decode cX1_remove 89 = .ok (.iload_n 3, 1) := by decide +kernel
theorem dX1_remove_90 : decode cX1_remove 90 = .ok (.aload_n 0, 1) := by decide +kernel
theorem dX1_remove_91 : decode cX1_remove 91 = .ok (.getfield 13, 3) := by decide +kernel
theorem dX1_remove_94 : decode cX1_remove 94 = .ok (.iload_n 3, 1) := by decide +kernel
theorem dX1_remove_95 : decode cX1_remove 95 = .ok (.iconst 1, 1) := by decide +kernel
theorem dX1_remove_96 : decode cX1_remove 96 = .ok (.iadd, 1) := by decide +kernel
theorem dX1_remove_97 : decode cX1_remove 97 = .ok (.iaload, 1) := by decide +kernel
theorem dX1_remove_98 : decode cX1_remove 98 = .ok (.iastore, 1) := by decide +kernel
theorem dX1_remove_99 : decode cX1_remove 99 = .ok (.aload_n 0, 1) := by decide +kernel
theorem dX1_remove_100 : decode cX1_remove 100 = .ok (.getfield 16, 3) := by decide +kernel
theorem dX1_remove_103 : decode cX1_remove 103 = .ok (.iload_n 3, 1) := by decide +kernel
theorem dX1_remove_104 : decode cX1_remove 104 = .ok (.aload_n 0, 1) := by decide +kernel
theorem dX1_remove_105 : decode cX1_remove 105 = .ok (.getfield 16, 3) := by decide +kernel
theorem dX1_remove_108 : decode cX1_remove 108 = .ok (.iload_n 3, 1) := by decide +kernel
theorem dX1_remove_109 : decode cX1_remove 109 = .ok (.iconst 1, 1) := by decide +kernel
theorem dX1_remove_110 : decode cX1_remove 110 = .ok (.iadd, 1) := by decide +kernel
theorem dX1_remove_111 : decode cX1_remove 111 = .ok (.iaload, 1) := by decide +kernel
theorem dX1_remove_112 : decode cX1_remove 112 = .ok (.iastore, 1) := by decide +kernel
theorem dX1_remove_113 : decode cX1_remove 113 = .ok (.iinc 3 1, 3) := by decide +kernel
theorem dX1_remove_116 : decode cX1_remove 116 = .ok (.goto (-81), 3) := by decide +kernel
theorem dX1_remove_119 : decode cX1_remove 119 = .ok (.iconst 1, 1) := by decide +kernel
theorem dX1_remove_120 : decode cX1_remove 120 = .ok (.ireturn, 1) := by decide +kernel
theorem dX1_number_0 : decode cX1_number 0 = .ok (.aload_n 0, 1) := by decide +kernel
theorem dX1_number_1 : decode cX1_number 1 = .ok (.iload_n 1, 1) := by decide +kernel
theorem dX1_number_2 : decode cX1_number 2 = .ok (.invokevirtual 50, 3) := by decide +kernel
theorem dX1_number_5 : decode cX1_number 5 = .ok (.ifCond .eq 11, 3) := by decide +kernel
theorem dX1_number_8 : decode cX1_number 8 = .ok (.aload_n 0, 1) := by decide +kernel
theorem dX1_number_9 : decode cX1_number 9 = .ok (.iload_n 1, 1) := by decide +kernel
theorem dX1_number_10 : decode cX1_number 10 = .ok (.invokevirtual 53, 3) := by decide +kernel
theorem dX1_number_13 : decode cX1_number 13 = .ok (.goto 4, 3) := by decide +kernel
theorem dX1_number_16 : decode cX1_number 16 = .ok (.iconst (-1), 1) := by decide +kernel
theorem dX1_number_17 : decode cX1_number 17 = .ok (.istore_n 2, 1) := by decide +kernel
theorem dX1_number_18 : decode cX1_number 18 = .ok (.iload_n 2, 1) := by decide +kernel
theorem dX1_number_19 : decode cX1_number 19 = .ok (.iconst (-1), 1) := by decide +kernel
theorem dX1_number_20 : decode cX1_number 20 = .ok (.if_icmp .ne 8, 3) := by decide +kernel
theorem dX1_number_23 : decode cX1_number 23 = .ok (.ldc 57, 2) := by decide +kernel
theorem dX1_number_25 : decode cX1_number 25 = .ok (.goto 9, 3) := by decide +kernel
theorem dX1_number_28 : decode cX1_number 28 = .ok (.aload_n 0, 1) := by decide +kernel
theorem dX1_number_29 : decode cX1_number 29 = .ok (.getfield 16, 3) := by decide +kernel
theorem dX1_number_32 : decode cX1_number 32 = .ok (.iload_n 2, 1) := by decide +kernel
theorem dX1_number_33 : decode cX1_number 33 = .ok (.iaload, 1) := by decide +kernel
theorem dX1_number_34 : decode cX1_number 34 = .ok (.ireturn, 1) := by decide +kernel
theorem dX1_covers_0 : decode cX1_covers 0 = .ok (.aload_n 0, 1) := by decide +kernel
theorem dX1_covers_1 : decode cX1_covers 1 = .ok (.getfield 7, 3) := by decide +kernel
theorem dX1_covers_4 : decode cX1_covers 4 = .ok (.iload_n 1, 1) := by decide +kernel
theorem dX1_covers_5 : decode cX1_covers 5 = .ok (.iaload, 1) := by decide +kernel
theorem dX1_covers_6 : decode cX1_covers 6 = .ok (.aload_n 0, 1) := by decide +kernel
theorem dX1_covers_7 : decode cX1_covers 7 = .ok (.getfield 26, 3) := by decide +kernel
theorem dX1_covers_10 : decode cX1_covers 10 = .ok (.if_icmp .ne 7, 3) := by decide +kernel
theorem dX1_covers_13 : decode cX1_covers 13 = .ok (.iconst 1, 1) := by decide +kernel
theorem dX1_covers_14 : decode cX1_covers 14 = .ok (.goto 4, 3) := by decide +kernel
theorem dX1_covers_17 : decode cX1_covers 17 = .ok (.iconst 0, 1) := by decide +kernel
theorem dX1_covers_18 : decode cX1_covers 18 = .ok (.istore_n 2, 1) := by decide +kernel
theorem dX1_covers_19 : decode cX1_covers 19 = .ok (.iconst 0, 1) := by decide +kernel
theorem dX1_covers_20 : decode cX1_covers 20 = .ok (.istore_n 3, 1) := by decide +kernel
theorem dX1_covers_21 : decode cX1_covers 21 = .ok (.iload_n 3, 1) := by decide +kernel
theorem dX1_covers_22 : decode cX1_covers 22 = .ok (.aload_n 0, 1) := by decide +kernel
theorem dX1_covers_23 : decode cX1_covers 23 = .ok (.getfield 13, 3) := by decide +kernel
theorem dX1_covers_26 : decode cX1_covers 26 = .ok (.iload_n 1, 1) := by decide +kernel
theorem dX1_covers_27 : decode cX1_covers 27 = .ok (.iaload, 1) := by decide +kernel
theorem dX1_covers_28 : decode cX1_covers 28 = .ok (.if_icmp .ge 58, 3) := by decide +kernel
theorem dX1_covers_31 : decode cX1_covers 31 = .ok (.iload_n 2, 1) := by decide +kernel
theorem dX1_covers_32 : decode cX1_covers 32 = .ok (.ifCond .eq 54, 3) := by decide +kernel
theorem dX1_covers_35 : decode cX1_covers 35 = .ok (.aload_n 0, 1) := by decide +kernel
theorem dX1_covers_36 : decode cX1_covers 36 = .ok (.getfield 26, 3) := by decide +kernel
theorem dX1_covers_39 : decode cX1_covers 39 = .ok (.aload_n 0, 1) := by decide +kernel
theorem dX1_covers_40 : decode cX1_covers 40 = .ok (.getfield 19, 3) := by decide +kernel
theorem dX1_covers_43 : decode cX1_covers 43 = .ok (.iload_n 1, 1) := by decide +kernel
theorem dX1_covers_44 : decode cX1_covers 44 = .ok (.laload, 1) := by decide +kernel
theorem dX1_covers_45 : decode cX1_covers 45 = .ok (.aload_n 0, 1) := by decide +kernel
theorem dX1_covers_46 : decode cX1_covers 46 = .ok (.getfield 23, 3) := by decide +kernel
theorem dX1_covers_49 : decode cX1_covers 49 = .ok (.iload_n 1, 1) := by decide +kernel
theorem dX1_covers_50 : decode cX1_covers 50 = .ok (.laload, 1) := by decide +kernel
theorem dX1_covers_51 : decode cX1_covers 51 = .ok (.iload_n 3, 1) := by decide +kernel
theorem dX1_covers_52 : decode cX1_covers 52 = .ok (.invokestatic 43, 3) := by decide +kernel
theorem dX1_covers_55 : decode cX1_covers 55 = .ok (.aload_n 0, 1) := by decide +kernel
theorem dX1_covers_56 : decode cX1_covers 56 = .ok (.getfield 26, 3) := by decide +kernel
theorem dX1_covers_59 : decode cX1_covers 59 = .ok (.aload_n 0, 1) := by decide +kernel
theorem dX1_covers_60 : decode cX1_covers 60 = .ok (.getfield 32, 3) := by decide +kernel
theorem dX1_covers_63 : decode cX1_covers 63 = .ok (.aload_n 0, 1) := by decide +kernel
theorem dX1_covers_64 : decode cX1_covers 64 = .ok (.getfield 36, 3) := by decide +kernel
theorem dX1_covers_67 : decode cX1_covers 67 = .ok (.iload_n 3, 1) := by decide +kernel
theorem dX1_covers_68 : decode cX1_covers 68 = .ok (.invokestatic 43, 3) := by decide +kernel
theorem dX1_covers_71 : decode cX1_covers 71 = .ok (.if_icmp .ne 7, 3) := by decide +kernel
theorem dX1_covers_74 : decode cX1_covers 74 = .ok (.iconst 1, 1) := by decide +kernel
theorem dX1_covers_75 : decode cX1_covers 75 = .ok (.goto 4, 3) := by decide +kernel
theorem dX1_covers_78 : decode cX1_covers 78 = .ok (.iconst 0, 1) := by decide +kernel
theorem dX1_covers_79 : decode cX1_covers 79 = .ok (.istore_n 2, 1) := by decide +kernel
theorem dX1_covers_80 : decode cX1_covers 80 = .ok (.iinc 3 1, 3) := by decide +kernel
theorem dX1_covers_83 : decode cX1_covers 83 = .ok (.goto (-62), 3) := by decide +kernel
theorem dX1_covers_86 : decode cX1_covers 86 = .ok (.iload_n 2, 1) := by decide +kernel
theorem dX1_covers_87 : decode cX1_covers 87 = .ok (.ireturn, 1) := by decide +kernel
theorem dX1_longest_0 : decode cX1_longest 0 = .ok (.iconst (-1), 1) := by decide +kernel
theorem dX1_longest_1 : decode cX1_longest 1 = .ok (.istore_n 1, 1) := by decide +kernel
theorem dX1_longest_2 : decode cX1_longest 2 = .ok (.iconst 0, 1) := by decide +kernel
theorem dX1_longest_3 : decode cX1_longest 3 = .ok (.istore_n 2, 1) := by decide +kernel
theorem dX1_longest_4 : decode cX1_longest 4 = .ok (.iload_n 2, 1) := by decide +kernel
theorem dX1_longest_5 : decode cX1_longest 5 = .ok (.aload_n 0, 1) := by decide +kernel
theorem dX1_longest_6 : decode cX1_longest 6 = .ok (.getfield 47, 3) := by decide +kernel
theorem dX1_longest_9 : decode cX1_longest 9 = .ok (.if_icmp .ge 38, 3) := by decide +kernel
theorem dX1_longest_12 : decode cX1_longest 12 = .ok (.aload_n 0, 1) := by decide +kernel
theorem dX1_longest_13 : decode cX1_longest 13 = .ok (.iload_n 2, 1) := by decide +kernel
theorem dX1_longest_14 : decode cX1_longest 14 = .ok (.invokevirtual 58, 3) := by decide +kernel
theorem dX1_longest_17 : decode cX1_longest 17 = .ok (.ifCond .eq 22, 3) := by decide +kernel
theorem dX1_longest_20 : decode cX1_longest 20 = .ok (.aload_n 0, 1) := by decide +kernel
theorem dX1_longest_21 : decode cX1_longest 21 = .ok (.getfield 13, 3) := by decide +kernel
theorem dX1_longest_24 : decode cX1_longest 24 = .ok (.iload_n 2, 1) := by decide +kernel
theorem dX1_longest_25 : decode cX1_longest 25 = .ok (.iaload, 1) := by decide +kernel
theorem dX1_longest_26 : decode cX1_longest 26 = .ok (.iload_n 1, 1) := by decide +kernel
theorem dX1_longest_27 : decode cX1_longest 27 = .ok (.if_icmp .le 12, 3) := by decide +kernel
theorem dX1_longest_30 : decode cX1_longest 30 = .ok (.aload_n 0, 1) := by decide +kernel
theorem dX1_longest_31 : decode cX1_longest 31 = .ok (.getfield 13, 3) := by decide +kernel
theorem dX1_longest_34 : decode cX1_longest 34 = .ok (.iload_n 2, 1) := by decide +kernel
theorem dX1_longest_35 : decode cX1_longest 35 = .ok (.iaload, 1) := by decide +kernel
theorem dX1_longest_36 : decode cX1_longest 36 = .ok (.goto 4, 3) := by decide +kernel
theorem dX1_longest_39 : decode cX1_longest 39 = .ok (.iload_n 1, 1) := by decide +kernel
theorem dX1_longest_40 : decode cX1_longest 40 = .ok (.istore_n 1, 1) := by decide +kernel
theorem dX1_longest_41 : decode cX1_longest 41 = .ok (.iinc 2 1, 3) := by decide +kernel
theorem dX1_longest_44 : decode cX1_longest 44 = .ok (.goto (-40), 3) := by decide +kernel
theorem dX1_longest_47 : decode cX1_longest 47 = .ok (.iload_n 1, 1) := by decide +kernel
theorem dX1_longest_48 : decode cX1_longest 48 = .ok (.ireturn, 1) := by decide +kernel
theorem dX1_covering_0 : decode cX1_covering 0 = .ok (.iconst 0, 1) := by decide +kernel
theorem dX1_covering_1 : decode cX1_covering 1 = .ok (.istore_n 1, 1) := by decide +kernel
theorem dX1_covering_2 : decode cX1_covering 2 = .ok (.iconst 0, 1) := by decide +kernel
theorem dX1_covering_3 : decode cX1_covering 3 = .ok (.istore_n 2, 1) := by decide +kernel
theorem dX1_covering_4 : decode cX1_covering 4 = .ok (.iload_n 2, 1) := by decide +kernel
theorem dX1_covering_5 : decode cX1_covering 5 = .ok (.aload_n 0, 1) := by decide +kernel
theorem dX1_covering_6 : decode cX1_covering 6 = .ok (.getfield 47, 3) := by decide +kernel
theorem dX1_covering_9 : decode cX1_covering 9 = .ok (.if_icmp .ge 25, 3) := by decide +kernel
theorem dX1_covering_12 : decode cX1_covering 12 = .ok (.iload_n 1, 1) := by decide +kernel
theorem dX1_covering_13 : decode cX1_covering 13 = .ok (.aload_n 0, 1) := by decide +kernel
theorem dX1_covering_14 : decode cX1_covering 14 = .ok (.iload_n 2, 1) := by decide +kernel
theorem dX1_covering_15 : decode cX1_covering 15 = .ok (.invokevirtual 58, 3) := by decide +kernel
theorem dX1_covering_18 : decode cX1_covering 18 = .ok (.ifCond .eq 7, 3) := by decide +kernel
theorem dX1_covering_21 : decode cX1_covering 21 = .ok (.iconst 1, 1) := by decide +kernel
theorem dX1_covering_22 : decode cX1_covering 22 = .ok (.goto 4, 3) := by decide +kernel
theorem dX1_covering_25 : decode cX1_covering 25 = .ok (.iconst 0, 1) := by decide +kernel
theorem dX1_covering_26 : decode cX1_covering 26 = .ok (.iadd, 1) := by decide +kernel
theorem dX1_covering_27 : decode cX1_covering 27 = .ok (.istore_n 1, 1) := by decide +kernel
theorem dX1_covering_28 : decode cX1_covering 28 = .ok (.iinc 2 1, 3) := by decide +kernel
theorem dX1_covering_31 : decode cX1_covering 31 = .ok (.goto (-27), 3) := by decide +kernel
theorem dX1_covering_34 : decode cX1_covering 34 = .ok (.iload_n 1, 1) := by decide +kernel
theorem dX1_covering_35 : decode cX1_covering 35 = .ok (.ireturn, 1) := by decide +kernel
theorem dX1_compare_0 : decode cX1_compare 0 = .ok (.lload_n 0, 1) := by decide +kernel
theorem dX1_compare_1 : decode cX1_compare 1 = .ok (.ldc2_w 61, 3) := by decide +kernel
theorem dX1_compare_4 : decode cX1_compare 4 = .ok (.lxor, 1) := by decide +kernel
theorem dX1_compare_5 : decode cX1_compare 5 = .ok (.lstore 4, 2) := by decide +kernel
theorem dX1_compare_7 : decode cX1_compare 7 = .ok (.lload_n 2, 1) := by decide +kernel
theorem dX1_compare_8 : decode cX1_compare 8 = .ok (.ldc2_w 61, 3) := by decide +kernel
theorem dX1_compare_11 : decode cX1_compare 11 = .ok (.lxor, 1) := by decide +kernel
theorem dX1_compare_12 : decode cX1_compare 12 = .ok (.lstore 6, 2) := by decide +kernel
theorem dX1_compare_14 : decode cX1_compare 14 = .ok (.lload 4, 2) := by decide +kernel
theorem dX1_compare_16 : decode cX1_compare 16 = .ok (.lload 6, 2) := by decide +kernel
theorem dX1_compare_18 : decode cX1_compare 18 = .ok (.lcmp, 1) := by decide +kernel
theorem dX1_compare_19 : decode cX1_compare 19 = .ok (.ifCond .ge 7, 3) := by decide +kernel
theorem dX1_compare_22 : decode cX1_compare 22 = .ok (.iconst (-1), 1) := by decide +kernel
theorem dX1_compare_23 : decode cX1_compare 23 = .ok (.goto 16, 3) := by decide +kernel
theorem dX1_compare_26 : decode cX1_compare 26 = .ok (.lload 4, 2) := by decide +kernel
theorem dX1_compare_28 : decode cX1_compare 28 = .ok (.lload 6, 2) := by decide +kernel
theorem dX1_compare_30 : decode cX1_compare 30 = .ok (.lcmp, 1) := by decide +kernel
theorem dX1_compare_31 : decode cX1_compare 31 = .ok (.ifCond .le 7, 3) := by decide +kernel
theorem dX1_compare_34 : decode cX1_compare 34 = .ok (.iconst 1, 1) := by decide +kernel
theorem dX1_compare_35 : decode cX1_compare 35 = .ok (.goto 4, 3) := by decide +kernel
theorem dX1_compare_38 : decode cX1_compare 38 = .ok (.iconst 0, 1) := by decide +kernel
theorem dX1_compare_39 : decode cX1_compare 39 = .ok (.ireturn, 1) := by decide +kernel
theorem dX1_isAhead_0 : decode cX1_isAhead 0 = .ok (.aload_n 0, 1) := by decide +kernel
theorem dX1_isAhead_1 : decode cX1_isAhead 1 = .ok (.getfield 7, 3) := by decide +kernel
theorem dX1_isAhead_4 : decode cX1_isAhead 4 = .ok (.iload_n 1, 1) := by decide +kernel
theorem dX1_isAhead_5 : decode cX1_isAhead 5 = .ok (.iaload, 1) := by decide +kernel
theorem dX1_isAhead_6 : decode cX1_isAhead 6 = .ok (.iload_n 2, 1) := by decide +kernel
theorem dX1_isAhead_7 : decode cX1_isAhead 7 = .ok (.if_icmp .eq 19, 3) := by decide +kernel
theorem dX1_isAhead_10 : decode cX1_isAhead 10 = .ok (.aload_n 0, 1) := by decide +kernel
theorem dX1_isAhead_11 : decode cX1_isAhead 11 = .ok (.getfield 7, 3) := by decide +kernel
theorem dX1_isAhead_14 : decode cX1_isAhead 14 = .ok (.iload_n 1, 1) := by decide +kernel
theorem dX1_isAhead_15 : decode cX1_isAhead 15 = .ok (.iaload, 1) := by decide +kernel
theorem dX1_isAhead_16 : decode cX1_isAhead 16 = .ok (.iload_n 2, 1) := by decide +kernel
theorem dX1_isAhead_17 : decode cX1_isAhead 17 = .ok (.if_icmp .ge 7, 3) := by decide +kernel
theorem dX1_isAhead_20 : decode cX1_isAhead 20 = .ok (.iconst 1, 1) := by decide +kernel
theorem dX1_isAhead_21 : decode cX1_isAhead 21 = .ok (.goto 4, 3) := by decide +kernel
theorem dX1_isAhead_24 : decode cX1_isAhead 24 = .ok (.iconst 0, 1) := by decide +kernel
theorem dX1_isAhead_25 : decode cX1_isAhead 25 = .ok (.ireturn, 1) := by decide +kernel
theorem dX1_isAhead_26 : decode cX1_isAhead 26 = .ok (.aload_n 0, 1) := by decide +kernel
theorem dX1_isAhead_27 : decode cX1_isAhead 27 = .ok (.getfield 19, 3) := by decide +kernel
theorem dX1_isAhead_30 : decode cX1_isAhead 30 = .ok (.iload_n 1, 1) := by decide +kernel
theorem dX1_isAhead_31 : decode cX1_isAhead 31 = .ok (.laload, 1) := by decide +kernel
theorem dX1_isAhead_32 : decode cX1_isAhead 32 = .ok (.lload_n 3, 1) := by decide +kernel
theorem dX1_isAhead_33 : decode cX1_isAhead 33 = .ok (.invokestatic 63, 3) := by decide +kernel
theorem dX1_isAhead_36 : decode cX1_isAhead 36 = .ok (.istore 8, 2) := by decide +kernel
theorem dX1_isAhead_38 : decode cX1_isAhead 38 = .ok (.iload 8, 2) := by decide +kernel
theorem dX1_isAhead_40 : decode cX1_isAhead 40 = .ok (.ifCond .ne 17, 3) := by decide +kernel
theorem dX1_isAhead_43 : decode cX1_isAhead 43 = .ok (.aload_n 0, 1) := by decide +kernel
theorem dX1_isAhead_44 : decode cX1_isAhead 44 = .ok (.getfield 23, 3) := by decide +kernel
theorem dX1_isAhead_47 : decode cX1_isAhead 47 = .ok (.iload_n 1, 1) := by decide +kernel
theorem dX1_isAhead_48 : decode cX1_isAhead 48 = .ok (.laload, 1) := by decide +kernel
theorem dX1_isAhead_49 : decode cX1_isAhead 49 = .ok (.lload 5, 2) := by decide +kernel
theorem dX1_isAhead_51 : decode cX1_isAhead 51 = .ok (.invokestatic 63, 3) := by decide +kernel
theorem dX1_isAhead_54 : decode cX1_isAhead 54 = .ok (.goto 5, 3) := by decide +kernel
theorem dX1_isAhead_57 : decode cX1_isAhead 57 = .ok (.iload 8, 2) := by decide +kernel
theorem dX1_isAhead_59 : decode cX1_isAhead 59 = .ok (.istore 9, 2) := by decide +kernel
theorem dX1_isAhead_61 : decode cX1_isAhead 61 = .ok (.iload 9, 2) := by decide +kernel
theorem dX1_isAhead_63 : decode cX1_isAhead 63 = .ok (.ifCond .lt 19, 3) := by decide +kernel
end
section
theorem dX1_isAhead_66 : decode cX1_isAhead 66 = .ok (.iload 9, 2) := by decide +kernel
theorem dX1_isAhead_68 : decode cX1_isAhead 68 = .ok (.ifCond .ne 18, 3) := by decide +kernel
theorem dX1_isAhead_71 : decode cX1_isAhead 71 = .ok (.aload_n 0, 1) := by decide +kernel
theorem dX1_isAhead_72 : decode cX1_isAhead 72 = .ok (.getfield 13, 3) := by decide +kernel
theorem dX1_isAhead_75 : decode cX1_isAhead 75 = .ok (.iload_n 1, 1) := by decide +kernel
theorem dX1_isAhead_76 : decode cX1_isAhead 76 = .ok (.iaload, 1) := by decide +kernel
theorem dX1_isAhead_77 : decode cX1_isAhead 77 = .ok (.iload 7, 2) := by decide +kernel
theorem dX1_isAhead_79 : decode cX1_isAhead 79 = .ok (.if_icmp .ge 7, 3) := by decide +kernel
theorem dX1_isAhead_82 : decode cX1_isAhead 82 = .ok (.iconst 1, 1) := by decide +kernel
theorem dX1_isAhead_83 : decode cX1_isAhead 83 = .ok (.goto 4, 3) := by decide +kernel
theorem dX1_isAhead_86 : decode cX1_isAhead 86 = .ok (.iconst 0, 1) := by decide +kernel
theorem dX1_isAhead_87 : decode cX1_isAhead 87 = .ok (.ireturn, 1) := by decide +kernel
theorem dX1_countAhead_0 : decode cX1_countAhead 0 = .ok (.iconst 0, 1) := by decide +kernel
theorem dX1_countAhead_1 : decode cX1_countAhead 1 = .ok (.istore 7, 2) := by decide +kernel
theorem dX1_countAhead_3 : decode cX1_countAhead 3 = .ok (.iconst 0, 1) := by decide +kernel
theorem dX1_countAhead_4 : decode cX1_countAhead 4 = .ok (.istore 8, 2) := by decide +kernel
theorem dX1_countAhead_6 : decode cX1_countAhead 6 = .ok (.iload 8, 2) := by decide +kernel
theorem dX1_countAhead_8 : decode cX1_countAhead 8 = .ok (.aload_n 0, 1) := by decide +kernel
theorem dX1_countAhead_9 : decode cX1_countAhead 9 = .ok (.getfield 47, 3) := by decide +kernel
theorem dX1_countAhead_12 : decode cX1_countAhead 12 = .ok (.if_icmp .ge 34, 3) := by decide +kernel
theorem dX1_countAhead_15 : decode cX1_countAhead 15 = .ok (.iload 7, 2) := by decide +kernel
theorem dX1_countAhead_17 : decode cX1_countAhead 17 = .ok (.aload_n 0, 1) := by decide +kernel
theorem dX1_countAhead_18 : decode cX1_countAhead 18 = .ok (.iload 8, 2) := by decide +kernel
theorem dX1_countAhead_20 : decode cX1_countAhead 20 = .ok (.iload_n 1, 1) := by decide +kernel
theorem dX1_countAhead_21 : decode cX1_countAhead 21 = .ok (.lload_n 2, 1) := by decide +kernel
theorem dX1_countAhead_22 : decode cX1_countAhead 22 = .ok (.lload 4, 2) := by decide +kernel
theorem dX1_countAhead_24 : decode cX1_countAhead 24 = .ok (.iload 6, 2) := by decide +kernel
theorem dX1_countAhead_26 : decode cX1_countAhead 26 = .ok (.invokevirtual 67, 3) := by decide +kernel
theorem dX1_countAhead_29 : decode cX1_countAhead 29 = .ok (.ifCond .eq 7, 3) := by decide +kernel
theorem dX1_countAhead_32 : decode cX1_countAhead 32 = .ok (.iconst 1, 1) := by decide +kernel
theorem dX1_countAhead_33 : decode cX1_countAhead 33 = .ok (.goto 4, 3) := by decide +kernel
theorem dX1_countAhead_36 : decode cX1_countAhead 36 = .ok (.iconst 0, 1) := by decide +kernel
theorem dX1_countAhead_37 : decode cX1_countAhead 37 = .ok (.iadd, 1) := by decide +kernel
theorem dX1_countAhead_38 : decode cX1_countAhead 38 = .ok (.istore 7, 2) := by decide +kernel
theorem dX1_countAhead_40 : decode cX1_countAhead 40 = .ok (.iinc 8 1, 3) := by decide +kernel
theorem dX1_countAhead_43 : decode cX1_countAhead 43 = .ok (.goto (-37), 3) := by decide +kernel
theorem dX1_countAhead_46 : decode cX1_countAhead 46 = .ok (.iload 7, 2) := by decide +kernel
theorem dX1_countAhead_48 : decode cX1_countAhead 48 = .ok (.ireturn, 1) := by decide +kernel
theorem dX1_ahead_0 : decode cX1_ahead 0 = .ok (.aload_n 0, 1) := by decide +kernel
theorem dX1_ahead_1 : decode cX1_ahead 1 = .ok (.iload_n 1, 1) := by decide +kernel
theorem dX1_ahead_2 : decode cX1_ahead 2 = .ok (.invokevirtual 39, 3) := by decide +kernel
theorem dX1_ahead_5 : decode cX1_ahead 5 = .ok (.ifCond .eq 23, 3) := by decide +kernel
theorem dX1_ahead_8 : decode cX1_ahead 8 = .ok (.aload_n 0, 1) := by decide +kernel
theorem dX1_ahead_9 : decode cX1_ahead 9 = .ok (.aload_n 0, 1) := by decide +kernel
theorem dX1_ahead_10 : decode cX1_ahead 10 = .ok (.getfield 26, 3) := by decide +kernel
theorem dX1_ahead_13 : decode cX1_ahead 13 = .ok (.aload_n 0, 1) := by decide +kernel
theorem dX1_ahead_14 : decode cX1_ahead 14 = .ok (.getfield 32, 3) := by decide +kernel
theorem dX1_ahead_17 : decode cX1_ahead 17 = .ok (.aload_n 0, 1) := by decide +kernel
theorem dX1_ahead_18 : decode cX1_ahead 18 = .ok (.getfield 36, 3) := by decide +kernel
theorem dX1_ahead_21 : decode cX1_ahead 21 = .ok (.iload_n 1, 1) := by decide +kernel
theorem dX1_ahead_22 : decode cX1_ahead 22 = .ok (.invokevirtual 71, 3) := by decide +kernel
theorem dX1_ahead_25 : decode cX1_ahead 25 = .ok (.goto 4, 3) := by decide +kernel
theorem dX1_ahead_28 : decode cX1_ahead 28 = .ok (.iconst (-1), 1) := by decide +kernel
theorem dX1_ahead_29 : decode cX1_ahead 29 = .ok (.ireturn, 1) := by decide +kernel
theorem dX1_at_0 : decode cX1_at 0 = .ok (.iload_n 1, 1) := by decide +kernel
theorem dX1_at_1 : decode cX1_at 1 = .ok (.ifCond .lt 11, 3) := by decide +kernel
theorem dX1_at_4 : decode cX1_at 4 = .ok (.iload_n 1, 1) := by decide +kernel
theorem dX1_at_5 : decode cX1_at 5 = .ok (.aload_n 0, 1) := by decide +kernel
theorem dX1_at_6 : decode cX1_at 6 = .ok (.getfield 47, 3) := by decide +kernel
theorem dX1_at_9 : decode cX1_at 9 = .ok (.if_icmp .lt 5, 3) := by decide +kernel
theorem dX1_at_12 : decode cX1_at 12 = .ok (.iconst (-1), 1) := by decide +kernel
theorem dX1_at_13 : decode cX1_at 13 = .ok (.ireturn, 1) := by decide +kernel
theorem dX1_at_14 : decode cX1_at 14 = .ok (.iconst 0, 1) := by decide +kernel
theorem dX1_at_15 : decode cX1_at 15 = .ok (.istore_n 2, 1) := by decide +kernel
theorem dX1_at_16 : decode cX1_at 16 = .ok (.aload_n 0, 1) := by decide +kernel
theorem dX1_at_17 : decode cX1_at 17 = .ok (.aload_n 0, 1) := by decide +kernel
theorem dX1_at_18 : decode cX1_at 18 = .ok (.getfield 7, 3) := by decide +kernel
theorem dX1_at_21 : decode cX1_at 21 = .ok (.iload_n 2, 1) := by decide +kernel
theorem dX1_at_22 : decode cX1_at 22 = .ok (.iaload, 1) := by decide +kernel
theorem dX1_at_23 : decode cX1_at 23 = .ok (.aload_n 0, 1) := by decide +kernel
theorem dX1_at_24 : decode cX1_at 24 = .ok (.getfield 19, 3) := by decide +kernel
theorem dX1_at_27 : decode cX1_at 27 = .ok (.iload_n 2, 1) := by decide +kernel
theorem dX1_at_28 : decode cX1_at 28 = .ok (.laload, 1) := by decide +kernel
theorem dX1_at_29 : decode cX1_at 29 = .ok (.aload_n 0, 1) := by decide +kernel
theorem dX1_at_30 : decode cX1_at 30 = .ok (.getfield 23, 3) := by decide +kernel
theorem dX1_at_33 : decode cX1_at 33 = .ok (.iload_n 2, 1) := by decide +kernel
theorem dX1_at_34 : decode cX1_at 34 = .ok (.laload, 1) := by decide +kernel
theorem dX1_at_35 : decode cX1_at 35 = .ok (.aload_n 0, 1) := by decide +kernel
theorem dX1_at_36 : decode cX1_at 36 = .ok (.getfield 13, 3) := by decide +kernel
theorem dX1_at_39 : decode cX1_at 39 = .ok (.iload_n 2, 1) := by decide +kernel
theorem dX1_at_40 : decode cX1_at 40 = .ok (.iaload, 1) := by decide +kernel
theorem dX1_at_41 : decode cX1_at 41 = .ok (.invokevirtual 71, 3) := by decide +kernel
theorem dX1_at_44 : decode cX1_at 44 = .ok (.iload_n 1, 1) := by decide +kernel
theorem dX1_at_45 : decode cX1_at 45 = .ok (.if_icmp .eq 9, 3) := by decide +kernel
theorem dX1_at_48 : decode cX1_at 48 = .ok (.iinc 2 1, 3) := by decide +kernel
theorem dX1_at_51 : decode cX1_at 51 = .ok (.goto (-35), 3) := by decide +kernel
theorem dX1_at_54 : decode cX1_at 54 = .ok (.aload_n 0, 1) := by decide +kernel
theorem dX1_at_55 : decode cX1_at 55 = .ok (.aload_n 0, 1) := by decide +kernel
theorem dX1_at_56 : decode cX1_at 56 = .ok (.getfield 7, 3) := by decide +kernel
theorem dX1_at_59 : decode cX1_at 59 = .ok (.iload_n 2, 1) := by decide +kernel
theorem dX1_at_60 : decode cX1_at 60 = .ok (.iaload, 1) := by decide +kernel
theorem dX1_at_61 : decode cX1_at 61 = .ok (.putfield 26, 3) := by decide +kernel
theorem dX1_at_64 : decode cX1_at 64 = .ok (.aload_n 0, 1) := by decide +kernel
theorem dX1_at_65 : decode cX1_at 65 = .ok (.aload_n 0, 1) := by decide +kernel
theorem dX1_at_66 : decode cX1_at 66 = .ok (.getfield 19, 3) := by decide +kernel
theorem dX1_at_69 : decode cX1_at 69 = .ok (.iload_n 2, 1) := by decide +kernel
theorem dX1_at_70 : decode cX1_at 70 = .ok (.laload, 1) := by decide +kernel
theorem dX1_at_71 : decode cX1_at 71 = .ok (.putfield 32, 3) := by decide +kernel
theorem dX1_at_74 : decode cX1_at 74 = .ok (.aload_n 0, 1) := by decide +kernel
theorem dX1_at_75 : decode cX1_at 75 = .ok (.aload_n 0, 1) := by decide +kernel
theorem dX1_at_76 : decode cX1_at 76 = .ok (.getfield 23, 3) := by decide +kernel
theorem dX1_at_79 : decode cX1_at 79 = .ok (.iload_n 2, 1) := by decide +kernel
theorem dX1_at_80 : decode cX1_at 80 = .ok (.laload, 1) := by decide +kernel
theorem dX1_at_81 : decode cX1_at 81 = .ok (.putfield 36, 3) := by decide +kernel
theorem dX1_at_84 : decode cX1_at 84 = .ok (.aload_n 0, 1) := by decide +kernel
theorem dX1_at_85 : decode cX1_at 85 = .ok (.getfield 13, 3) := by decide +kernel
theorem dX1_at_88 : decode cX1_at 88 = .ok (.iload_n 2, 1) := by decide +kernel
theorem dX1_at_89 : decode cX1_at 89 = .ok (.iaload, 1) := by decide +kernel
theorem dX1_at_90 : decode cX1_at 90 = .ok (.ireturn, 1) := by decide +kernel
theorem dX1_size_0 : decode cX1_size 0 = .ok (.aload_n 0, 1) := by decide +kernel
theorem dX1_size_1 : decode cX1_size 1 = .ok (.getfield 47, 3) := by decide +kernel
theorem dX1_size_4 : decode cX1_size 4 = .ok (.ireturn, 1) := by decide +kernel
theorem dX1_told_0 : decode cX1_told 0 = .ok (.iload_n 1, 1) := by decide +kernel
theorem dX1_told_1 : decode cX1_told 1 = .ok (.ifCond .ne 11, 3) := by decide +kernel
theorem dX1_told_4 : decode cX1_told 4 = .ok (.aload_n 0, 1) := by decide +kernel
theorem dX1_told_5 : decode cX1_told 5 = .ok (.getfield 26, 3) := by decide +kernel
theorem dX1_told_8 : decode cX1_told 8 = .ok (.i2l, 1) := by decide +kernel
theorem dX1_told_9 : decode cX1_told 9 = .ok (.goto 28, 3) := by decide +kernel
theorem dX1_told_12 : decode cX1_told 12 = .ok (.iload_n 1, 1) := by decide +kernel
theorem dX1_told_13 : decode cX1_told 13 = .ok (.iconst 1, 1) := by decide +kernel
theorem dX1_told_14 : decode cX1_told 14 = .ok (.if_icmp .ne 10, 3) := by decide +kernel
theorem dX1_told_17 : decode cX1_told 17 = .ok (.aload_n 0, 1) := by decide +kernel
theorem dX1_told_18 : decode cX1_told 18 = .ok (.getfield 32, 3) := by decide +kernel
theorem dX1_told_21 : decode cX1_told 21 = .ok (.goto 16, 3) := by decide +kernel
theorem dX1_told_24 : decode cX1_told 24 = .ok (.iload_n 1, 1) := by decide +kernel
theorem dX1_told_25 : decode cX1_told 25 = .ok (.iconst 2, 1) := by decide +kernel
theorem dX1_told_26 : decode cX1_told 26 = .ok (.if_icmp .ne 10, 3) := by decide +kernel
theorem dX1_told_29 : decode cX1_told 29 = .ok (.aload_n 0, 1) := by decide +kernel
theorem dX1_told_30 : decode cX1_told 30 = .ok (.getfield 36, 3) := by decide +kernel
theorem dX1_told_33 : decode cX1_told 33 = .ok (.goto 4, 3) := by decide +kernel
theorem dX1_told_36 : decode cX1_told 36 = .ok (.lconst 0, 1) := by decide +kernel
theorem dX1_told_37 : decode cX1_told 37 = .ok (.lreturn, 1) := by decide +kernel
theorem dL_law_0 : decode cL_law 0 = .ok (.new 7, 3) := by decide +kernel
theorem dL_law_3 : decode cL_law 3 = .ok (.dup, 1) := by decide +kernel
theorem dL_law_4 : decode cL_law 4 = .ok (.invokespecial 9, 3) := by decide +kernel
theorem dL_law_7 : decode cL_law 7 = .ok (.astore_n 1, 1) := by decide +kernel
theorem dL_law_8 : decode cL_law 8 = .ok (.new 10, 3) := by decide +kernel
theorem dL_law_11 : decode cL_law 11 = .ok (.dup, 1) := by decide +kernel
theorem dL_law_12 : decode cL_law 12 = .ok (.invokespecial 12, 3) := by decide +kernel
theorem dL_law_15 : decode cL_law 15 = .ok (.astore_n 2, 1) := by decide +kernel
theorem dL_law_16 : decode cL_law 16 = .ok (.iconst 0, 1) := by decide +kernel
theorem dL_law_17 : decode cL_law 17 = .ok (.istore_n 3, 1) := by decide +kernel
theorem dL_law_18 : decode cL_law 18 = .ok (.iload_n 3, 1) := by decide +kernel
theorem dL_law_19 : decode cL_law 19 = .ok (.aload_n 0, 1) := by decide +kernel
theorem dL_law_20 : decode cL_law 20 = .ok (.arraylength, 1) := by decide +kernel
theorem dL_law_21 : decode cL_law 21 = .ok (.bipush 6, 2) := by decide +kernel
theorem dL_law_23 : decode cL_law 23 = .ok (.isub, 1) := by decide +kernel
theorem dL_law_24 : decode cL_law 24 = .ok (.if_icmp .gt 361, 3) := by decide +kernel
theorem dL_law_27 : decode cL_law 27 = .ok (.aload_n 0, 1) := by decide +kernel
theorem dL_law_28 : decode cL_law 28 = .ok (.iload_n 3, 1) := by decide +kernel
theorem dL_law_29 : decode cL_law 29 = .ok (.iaload, 1) := by decide +kernel
theorem dL_law_30 : decode cL_law 30 = .ok (.bipush 15, 2) := by decide +kernel
theorem dL_law_32 : decode cL_law 32 = .ok (.iand, 1) := by decide +kernel
theorem dL_law_33 : decode cL_law 33 = .ok (.tableswitch 346 0 9 #[55, 158, 191, 214, 237, 250, 263, 286, 309, 322], 55) := by decide +kernel
theorem dL_law_88 : decode cL_law 88 = .ok (.aload_n 1, 1) := by decide +kernel
theorem dL_law_89 : decode cL_law 89 = .ok (.aload_n 0, 1) := by decide +kernel
theorem dL_law_90 : decode cL_law 90 = .ok (.iload_n 3, 1) := by decide +kernel
theorem dL_law_91 : decode cL_law 91 = .ok (.iconst 1, 1) := by decide +kernel
theorem dL_law_92 : decode cL_law 92 = .ok (.iadd, 1) := by decide +kernel
theorem dL_law_93 : decode cL_law 93 = .ok (.iaload, 1) := by decide +kernel
theorem dL_law_94 : decode cL_law 94 = .ok (.aload_n 0, 1) := by decide +kernel
theorem dL_law_95 : decode cL_law 95 = .ok (.iload_n 3, 1) := by decide +kernel
theorem dL_law_96 : decode cL_law 96 = .ok (.iconst 2, 1) := by decide +kernel
theorem dL_law_97 : decode cL_law 97 = .ok (.iadd, 1) := by decide +kernel
theorem dL_law_98 : decode cL_law 98 = .ok (.iaload, 1) := by decide +kernel
theorem dL_law_99 : decode cL_law 99 = .ok (.i2l, 1) := by decide +kernel
theorem dL_law_100 : decode cL_law 100 = .ok (.bipush 32, 2) := by decide +kernel
theorem dL_law_102 : decode cL_law 102 = .ok (.lshl, 1) := by decide +kernel
theorem dL_law_103 : decode cL_law 103 = .ok (.aload_n 0, 1) := by decide +kernel
theorem dL_law_104 : decode cL_law 104 = .ok (.iload_n 3, 1) := by decide +kernel
theorem dL_law_105 : decode cL_law 105 = .ok (.iconst 3, 1) := by decide +kernel
theorem dL_law_106 : decode cL_law 106 = .ok (.iadd, 1) := by decide +kernel
theorem dL_law_107 : decode cL_law 107 = .ok (.iaload, 1) := by decide +kernel
theorem dL_law_108 : decode cL_law 108 = .ok (.i2l, 1) := by decide +kernel
theorem dL_law_109 : decode cL_law 109 = .ok (.ldc2_w 13, 3) := by decide +kernel
theorem dL_law_112 : decode cL_law 112 = .ok (.land, 1) := by decide +kernel
theorem dL_law_113 : decode cL_law 113 = .ok (.lor, 1) := by decide +kernel
theorem dL_law_114 : decode cL_law 114 = .ok (.aload_n 0, 1) := by decide +kernel
theorem dL_law_115 : decode cL_law 115 = .ok (.iload_n 3, 1) := by decide +kernel
theorem dL_law_116 : decode cL_law 116 = .ok (.iconst 4, 1) := by decide +kernel
theorem dL_law_117 : decode cL_law 117 = .ok (.iadd, 1) := by decide +kernel
theorem dL_law_118 : decode cL_law 118 = .ok (.iaload, 1) := by decide +kernel
theorem dL_law_119 : decode cL_law 119 = .ok (.i2l, 1) := by decide +kernel
theorem dL_law_120 : decode cL_law 120 = .ok (.bipush 32, 2) := by decide +kernel
theorem dL_law_122 : decode cL_law 122 = .ok (.lshl, 1) := by decide +kernel
theorem dL_law_123 : decode cL_law 123 = .ok (.aload_n 0, 1) := by decide +kernel
theorem dL_law_124 : decode cL_law 124 = .ok (.iload_n 3, 1) := by decide +kernel
theorem dL_law_125 : decode cL_law 125 = .ok (.iconst 5, 1) := by decide +kernel
theorem dL_law_126 : decode cL_law 126 = .ok (.iadd, 1) := by decide +kernel
theorem dL_law_127 : decode cL_law 127 = .ok (.iaload, 1) := by decide +kernel
theorem dL_law_128 : decode cL_law 128 = .ok (.i2l, 1) := by decide +kernel
theorem dL_law_129 : decode cL_law 129 = .ok (.ldc2_w 13, 3) := by decide +kernel
theorem dL_law_132 : decode cL_law 132 = .ok (.land, 1) := by decide +kernel
theorem dL_law_133 : decode cL_law 133 = .ok (.lor, 1) := by decide +kernel
theorem dL_law_134 : decode cL_law 134 = .ok (.invokevirtual 15, 3) := by decide +kernel
theorem dL_law_137 : decode cL_law 137 = .ok (.aload_n 2, 1) := by decide +kernel
theorem dL_law_138 : decode cL_law 138 = .ok (.aload_n 0, 1) := by decide +kernel
theorem dL_law_139 : decode cL_law 139 = .ok (.iload_n 3, 1) := by decide +kernel
theorem dL_law_140 : decode cL_law 140 = .ok (.iconst 1, 1) := by decide +kernel
theorem dL_law_141 : decode cL_law 141 = .ok (.iadd, 1) := by decide +kernel
theorem dL_law_142 : decode cL_law 142 = .ok (.iaload, 1) := by decide +kernel
theorem dL_law_143 : decode cL_law 143 = .ok (.aload_n 0, 1) := by decide +kernel
theorem dL_law_144 : decode cL_law 144 = .ok (.iload_n 3, 1) := by decide +kernel
theorem dL_law_145 : decode cL_law 145 = .ok (.iconst 2, 1) := by decide +kernel
theorem dL_law_146 : decode cL_law 146 = .ok (.iadd, 1) := by decide +kernel
theorem dL_law_147 : decode cL_law 147 = .ok (.iaload, 1) := by decide +kernel
theorem dL_law_148 : decode cL_law 148 = .ok (.i2l, 1) := by decide +kernel
theorem dL_law_149 : decode cL_law 149 = .ok (.bipush 32, 2) := by decide +kernel
theorem dL_law_151 : decode cL_law 151 = .ok (.lshl, 1) := by decide +kernel
theorem dL_law_152 : decode cL_law 152 = .ok (.aload_n 0, 1) := by decide +kernel
theorem dL_law_153 : decode cL_law 153 = .ok (.iload_n 3, 1) := by decide +kernel
theorem dL_law_154 : decode cL_law 154 = .ok (.iconst 3, 1) := by decide +kernel
theorem dL_law_155 : decode cL_law 155 = .ok (.iadd, 1) := by decide +kernel
theorem dL_law_156 : decode cL_law 156 = .ok (.iaload, 1) := by decide +kernel
theorem dL_law_157 : decode cL_law 157 = .ok (.i2l, 1) := by decide +kernel
theorem dL_law_158 : decode cL_law 158 = .ok (.ldc2_w 13, 3) := by decide +kernel
theorem dL_law_161 : decode cL_law 161 = .ok (.land, 1) := by decide +kernel
theorem dL_law_162 : decode cL_law 162 = .ok (.lor, 1) := by decide +kernel
theorem dL_law_163 : decode cL_law 163 = .ok (.aload_n 0, 1) := by decide +kernel
theorem dL_law_164 : decode cL_law 164 = .ok (.iload_n 3, 1) := by decide +kernel
theorem dL_law_165 : decode cL_law 165 = .ok (.iconst 4, 1) := by decide +kernel
theorem dL_law_166 : decode cL_law 166 = .ok (.iadd, 1) := by decide +kernel
theorem dL_law_167 : decode cL_law 167 = .ok (.iaload, 1) := by decide +kernel
theorem dL_law_168 : decode cL_law 168 = .ok (.i2l, 1) := by decide +kernel
theorem dL_law_169 : decode cL_law 169 = .ok (.bipush 32, 2) := by decide +kernel
theorem dL_law_171 : decode cL_law 171 = .ok (.lshl, 1) := by decide +kernel
theorem dL_law_172 : decode cL_law 172 = .ok (.aload_n 0, 1) := by decide +kernel
theorem dL_law_173 : decode cL_law 173 = .ok (.iload_n 3, 1) := by decide +kernel
theorem dL_law_174 : decode cL_law 174 = .ok (.iconst 5, 1) := by decide +kernel
theorem dL_law_175 : decode cL_law 175 = .ok (.iadd, 1) := by decide +kernel
theorem dL_law_176 : decode cL_law 176 = .ok (.iaload, 1) := by decide +kernel
theorem dL_law_177 : decode cL_law 177 = .ok (.i2l, 1) := by decide +kernel
theorem dL_law_178 : decode cL_law 178 = .ok (.ldc2_w 13, 3) := by decide +kernel
theorem dL_law_181 : decode cL_law 181 = .ok (.land, 1) := by decide +kernel
theorem dL_law_182 : decode cL_law 182 = .ok (.lor, 1) := by decide +kernel
theorem dL_law_183 : decode cL_law 183 = .ok (.invokevirtual 19, 3) := by decide +kernel
theorem dL_law_186 : decode cL_law 186 = .ok (.if_icmp .eq 193, 3) := by decide +kernel
theorem dL_law_189 : decode cL_law 189 = .ok (.iconst 0, 1) := by decide +kernel
theorem dL_law_190 : decode cL_law 190 = .ok (.ireturn, 1) := by decide +kernel
theorem dL_law_191 : decode cL_law 191 = .ok (.aload_n 1, 1) := by decide +kernel
theorem dL_law_192 : decode cL_law 192 = .ok (.aload_n 0, 1) := by decide +kernel
theorem dL_law_193 : decode cL_law 193 = .ok (.iload_n 3, 1) := by decide +kernel
theorem dL_law_194 : decode cL_law 194 = .ok (.iconst 1, 1) := by decide +kernel
theorem dL_law_195 : decode cL_law 195 = .ok (.iadd, 1) := by decide +kernel
theorem dL_law_196 : decode cL_law 196 = .ok (.iaload, 1) := by decide +kernel
theorem dL_law_197 : decode cL_law 197 = .ok (.aload_n 0, 1) := by decide +kernel
theorem dL_law_198 : decode cL_law 198 = .ok (.iload_n 3, 1) := by decide +kernel
theorem dL_law_199 : decode cL_law 199 = .ok (.iconst 2, 1) := by decide +kernel
theorem dL_law_200 : decode cL_law 200 = .ok (.iadd, 1) := by decide +kernel
theorem dL_law_201 : decode cL_law 201 = .ok (.iaload, 1) := by decide +kernel
theorem dL_law_202 : decode cL_law 202 = .ok (.invokevirtual 20, 3) := by decide +kernel
theorem dL_law_205 : decode cL_law 205 = .ok (.aload_n 2, 1) := by decide +kernel
theorem dL_law_206 : decode cL_law 206 = .ok (.aload_n 0, 1) := by decide +kernel
theorem dL_law_207 : decode cL_law 207 = .ok (.iload_n 3, 1) := by decide +kernel
theorem dL_law_208 : decode cL_law 208 = .ok (.iconst 1, 1) := by decide +kernel
theorem dL_law_209 : decode cL_law 209 = .ok (.iadd, 1) := by decide +kernel
theorem dL_law_210 : decode cL_law 210 = .ok (.iaload, 1) := by decide +kernel
theorem dL_law_211 : decode cL_law 211 = .ok (.aload_n 0, 1) := by decide +kernel
theorem dL_law_212 : decode cL_law 212 = .ok (.iload_n 3, 1) := by decide +kernel
theorem dL_law_213 : decode cL_law 213 = .ok (.iconst 2, 1) := by decide +kernel
theorem dL_law_214 : decode cL_law 214 = .ok (.iadd, 1) := by decide +kernel
theorem dL_law_215 : decode cL_law 215 = .ok (.iaload, 1) := by decide +kernel
theorem dL_law_216 : decode cL_law 216 = .ok (.invokevirtual 24, 3) := by decide +kernel
theorem dL_law_219 : decode cL_law 219 = .ok (.if_icmp .eq 160, 3) := by decide +kernel
theorem dL_law_222 : decode cL_law 222 = .ok (.iconst 0, 1) := by decide +kernel
theorem dL_law_223 : decode cL_law 223 = .ok (.ireturn, 1) := by decide +kernel
theorem dL_law_224 : decode cL_law 224 = .ok (.aload_n 1, 1) := by decide +kernel
theorem dL_law_225 : decode cL_law 225 = .ok (.aload_n 0, 1) := by decide +kernel
theorem dL_law_226 : decode cL_law 226 = .ok (.iload_n 3, 1) := by decide +kernel
theorem dL_law_227 : decode cL_law 227 = .ok (.iconst 1, 1) := by decide +kernel
theorem dL_law_228 : decode cL_law 228 = .ok (.iadd, 1) := by decide +kernel
theorem dL_law_229 : decode cL_law 229 = .ok (.iaload, 1) := by decide +kernel
theorem dL_law_230 : decode cL_law 230 = .ok (.invokevirtual 25, 3) := by decide +kernel
theorem dL_law_233 : decode cL_law 233 = .ok (.aload_n 2, 1) := by decide +kernel
theorem dL_law_234 : decode cL_law 234 = .ok (.aload_n 0, 1) := by decide +kernel
theorem dL_law_235 : decode cL_law 235 = .ok (.iload_n 3, 1) := by decide +kernel
theorem dL_law_236 : decode cL_law 236 = .ok (.iconst 1, 1) := by decide +kernel
theorem dL_law_237 : decode cL_law 237 = .ok (.iadd, 1) := by decide +kernel
theorem dL_law_238 : decode cL_law 238 = .ok (.iaload, 1) := by decide +kernel
theorem dL_law_239 : decode cL_law 239 = .ok (.invokevirtual 29, 3) := by decide +kernel
theorem dL_law_242 : decode cL_law 242 = .ok (.if_icmp .eq 137, 3) := by decide +kernel
theorem dL_law_245 : decode cL_law 245 = .ok (.iconst 0, 1) := by decide +kernel
theorem dL_law_246 : decode cL_law 246 = .ok (.ireturn, 1) := by decide +kernel
theorem dL_law_247 : decode cL_law 247 = .ok (.aload_n 1, 1) := by decide +kernel
theorem dL_law_248 : decode cL_law 248 = .ok (.aload_n 0, 1) := by decide +kernel
theorem dL_law_249 : decode cL_law 249 = .ok (.iload_n 3, 1) := by decide +kernel
theorem dL_law_250 : decode cL_law 250 = .ok (.iconst 1, 1) := by decide +kernel
theorem dL_law_251 : decode cL_law 251 = .ok (.iadd, 1) := by decide +kernel
theorem dL_law_252 : decode cL_law 252 = .ok (.iaload, 1) := by decide +kernel
theorem dL_law_253 : decode cL_law 253 = .ok (.invokevirtual 30, 3) := by decide +kernel
theorem dL_law_256 : decode cL_law 256 = .ok (.aload_n 2, 1) := by decide +kernel
theorem dL_law_257 : decode cL_law 257 = .ok (.aload_n 0, 1) := by decide +kernel
theorem dL_law_258 : decode cL_law 258 = .ok (.iload_n 3, 1) := by decide +kernel
theorem dL_law_259 : decode cL_law 259 = .ok (.iconst 1, 1) := by decide +kernel
theorem dL_law_260 : decode cL_law 260 = .ok (.iadd, 1) := by decide +kernel
theorem dL_law_261 : decode cL_law 261 = .ok (.iaload, 1) := by decide +kernel
theorem dL_law_262 : decode cL_law 262 = .ok (.invokevirtual 33, 3) := by decide +kernel
theorem dL_law_265 : decode cL_law 265 = .ok (.if_icmp .eq 114, 3) := by decide +kernel
theorem dL_law_268 : decode cL_law 268 = .ok (.iconst 0, 1) := by decide +kernel
theorem dL_law_269 : decode cL_law 269 = .ok (.ireturn, 1) := by decide +kernel
theorem dL_law_270 : decode cL_law 270 = .ok (.aload_n 1, 1) := by decide +kernel
theorem dL_law_271 : decode cL_law 271 = .ok (.invokevirtual 34, 3) := by decide +kernel
theorem dL_law_274 : decode cL_law 274 = .ok (.aload_n 2, 1) := by decide +kernel
theorem dL_law_275 : decode cL_law 275 = .ok (.invokevirtual 38, 3) := by decide +kernel
theorem dL_law_278 : decode cL_law 278 = .ok (.if_icmp .eq 101, 3) := by decide +kernel
theorem dL_law_281 : decode cL_law 281 = .ok (.iconst 0, 1) := by decide +kernel
theorem dL_law_282 : decode cL_law 282 = .ok (.ireturn, 1) := by decide +kernel
theorem dL_law_283 : decode cL_law 283 = .ok (.aload_n 1, 1) := by decide +kernel
theorem dL_law_284 : decode cL_law 284 = .ok (.invokevirtual 39, 3) := by decide +kernel
theorem dL_law_287 : decode cL_law 287 = .ok (.aload_n 2, 1) := by decide +kernel
theorem dL_law_288 : decode cL_law 288 = .ok (.invokevirtual 42, 3) := by decide +kernel
theorem dL_law_291 : decode cL_law 291 = .ok (.if_icmp .eq 88, 3) := by decide +kernel
theorem dL_law_294 : decode cL_law 294 = .ok (.iconst 0, 1) := by decide +kernel
theorem dL_law_295 : decode cL_law 295 = .ok (.ireturn, 1) := by decide +kernel
theorem dL_law_296 : decode cL_law 296 = .ok (.aload_n 1, 1) := by decide +kernel
theorem dL_law_297 : decode cL_law 297 = .ok (.aload_n 0, 1) := by decide +kernel
theorem dL_law_298 : decode cL_law 298 = .ok (.iload_n 3, 1) := by decide +kernel
theorem dL_law_299 : decode cL_law 299 = .ok (.iconst 1, 1) := by decide +kernel
theorem dL_law_300 : decode cL_law 300 = .ok (.iadd, 1) := by decide +kernel
theorem dL_law_301 : decode cL_law 301 = .ok (.iaload, 1) := by decide +kernel
theorem dL_law_302 : decode cL_law 302 = .ok (.invokevirtual 43, 3) := by decide +kernel
theorem dL_law_305 : decode cL_law 305 = .ok (.aload_n 2, 1) := by decide +kernel
theorem dL_law_306 : decode cL_law 306 = .ok (.aload_n 0, 1) := by decide +kernel
theorem dL_law_307 : decode cL_law 307 = .ok (.iload_n 3, 1) := by decide +kernel
theorem dL_law_308 : decode cL_law 308 = .ok (.iconst 1, 1) := by decide +kernel
theorem dL_law_309 : decode cL_law 309 = .ok (.iadd, 1) := by decide +kernel
theorem dL_law_310 : decode cL_law 310 = .ok (.iaload, 1) := by decide +kernel
theorem dL_law_311 : decode cL_law 311 = .ok (.invokevirtual 46, 3) := by decide +kernel
theorem dL_law_314 : decode cL_law 314 = .ok (.if_icmp .eq 65, 3) := by decide +kernel
theorem dL_law_317 : decode cL_law 317 = .ok (.iconst 0, 1) := by decide +kernel
theorem dL_law_318 : decode cL_law 318 = .ok (.ireturn, 1) := by decide +kernel
theorem dL_law_319 : decode cL_law 319 = .ok (.aload_n 1, 1) := by decide +kernel
theorem dL_law_320 : decode cL_law 320 = .ok (.aload_n 0, 1) := by decide +kernel
theorem dL_law_321 : decode cL_law 321 = .ok (.iload_n 3, 1) := by decide +kernel
theorem dL_law_322 : decode cL_law 322 = .ok (.iconst 1, 1) := by decide +kernel
theorem dL_law_323 : decode cL_law 323 = .ok (.iadd, 1) := by decide +kernel
theorem dL_law_324 : decode cL_law 324 = .ok (.iaload, 1) := by decide +kernel
theorem dL_law_325 : decode cL_law 325 = .ok (.invokevirtual 47, 3) := by decide +kernel
theorem dL_law_328 : decode cL_law 328 = .ok (.aload_n 2, 1) := by decide +kernel
theorem dL_law_329 : decode cL_law 329 = .ok (.aload_n 0, 1) := by decide +kernel
theorem dL_law_330 : decode cL_law 330 = .ok (.iload_n 3, 1) := by decide +kernel
theorem dL_law_331 : decode cL_law 331 = .ok (.iconst 1, 1) := by decide +kernel
theorem dL_law_332 : decode cL_law 332 = .ok (.iadd, 1) := by decide +kernel
theorem dL_law_333 : decode cL_law 333 = .ok (.iaload, 1) := by decide +kernel
theorem dL_law_334 : decode cL_law 334 = .ok (.invokevirtual 50, 3) := by decide +kernel
theorem dL_law_337 : decode cL_law 337 = .ok (.if_icmp .eq 42, 3) := by decide +kernel
theorem dL_law_340 : decode cL_law 340 = .ok (.iconst 0, 1) := by decide +kernel
theorem dL_law_341 : decode cL_law 341 = .ok (.ireturn, 1) := by decide +kernel
theorem dL_law_342 : decode cL_law 342 = .ok (.aload_n 1, 1) := by decide +kernel
theorem dL_law_343 : decode cL_law 343 = .ok (.invokevirtual 51, 3) := by decide +kernel
theorem dL_law_346 : decode cL_law 346 = .ok (.aload_n 2, 1) := by decide +kernel
theorem dL_law_347 : decode cL_law 347 = .ok (.invokevirtual 54, 3) := by decide +kernel
theorem dL_law_350 : decode cL_law 350 = .ok (.if_icmp .eq 29, 3) := by decide +kernel
theorem dL_law_353 : decode cL_law 353 = .ok (.iconst 0, 1) := by decide +kernel
theorem dL_law_354 : decode cL_law 354 = .ok (.ireturn, 1) := by decide +kernel
theorem dL_law_355 : decode cL_law 355 = .ok (.aload_n 1, 1) := by decide +kernel
theorem dL_law_356 : decode cL_law 356 = .ok (.aload_n 0, 1) := by decide +kernel
theorem dL_law_357 : decode cL_law 357 = .ok (.iload_n 3, 1) := by decide +kernel
theorem dL_law_358 : decode cL_law 358 = .ok (.iconst 1, 1) := by decide +kernel
theorem dL_law_359 : decode cL_law 359 = .ok (.iadd, 1) := by decide +kernel
theorem dL_law_360 : decode cL_law 360 = .ok (.iaload, 1) := by decide +kernel
theorem dL_law_361 : decode cL_law 361 = .ok (.invokevirtual 55, 3) := by decide +kernel
theorem dL_law_364 : decode cL_law 364 = .ok (.aload_n 2, 1) := by decide +kernel
theorem dL_law_365 : decode cL_law 365 = .ok (.aload_n 0, 1) := by decide +kernel
theorem dL_law_366 : decode cL_law 366 = .ok (.iload_n 3, 1) := by decide +kernel
theorem dL_law_367 : decode cL_law 367 = .ok (.iconst 1, 1) := by decide +kernel
theorem dL_law_368 : decode cL_law 368 = .ok (.iadd, 1) := by decide +kernel
theorem dL_law_369 : decode cL_law 369 = .ok (.iaload, 1) := by decide +kernel
theorem dL_law_370 : decode cL_law 370 = .ok (.invokevirtual 59, 3) := by decide +kernel
theorem dL_law_373 : decode cL_law 373 = .ok (.lcmp, 1) := by decide +kernel
theorem dL_law_374 : decode cL_law 374 = .ok (.ifCond .eq 5, 3) := by decide +kernel
theorem dL_law_377 : decode cL_law 377 = .ok (.iconst 0, 1) := by decide +kernel
theorem dL_law_378 : decode cL_law 378 = .ok (.ireturn, 1) := by decide +kernel
theorem dL_law_379 : decode cL_law 379 = .ok (.iinc 3 6, 3) := by decide +kernel
theorem dL_law_382 : decode cL_law 382 = .ok (.goto (-364), 3) := by decide +kernel
theorem dL_law_385 : decode cL_law 385 = .ok (.iconst 1, 1) := by decide +kernel
theorem dL_law_386 : decode cL_law 386 = .ok (.ireturn, 1) := by decide +kernel
end
section
/-! RULES OF MY OWN: calls that only read (heap and locs stay as they are), calls that change a known part; returns; words -/
section RU
variable {p : Program} {l : Launch} {e : Env} {R : Room} {s : State} {m : MethodId} {args : Array Value} {below : List Frame} {meth : Method} {c : Code} {H : Heap} {locs : List Loc} {cells slots : Nat} {Q : State → Prop}
variable {pc : Nat} {ls : Array Slot} {rest st0 : List Value} {a : Array Value}
theorem ru_calli {v : Int32} (hr : va_Run p l e R s m args below meth c H locs cells slots 0 0 (F0 m pc ls st0) rest (va_Qi (fun r (_ : Unit) => r = v) (fun _ t => t.heap = H) (fun _ => False) a) (fun _ => False))
    (kk : W p l e R s m args below meth c H locs cells slots Q (F0 m (pc + 3) ls (.int v :: rest))) : W p l e R s m args below meth c H locs cells slots Q (F0 m pc ls st0) := by
  intro T hT X
  obtain ⟨v', st₀, t, T', L, h0, X', hL, e1, e2, ⟨⟨r, u, hv, hp, hb⟩, hz, hk⟩, st⟩ := hr T hT X
  cases hv
  subst hp
  have hLn : L = [] := by
    cases L with
    | nil => rfl
    | cons q L' => exact (hL q List.mem_cons_self).elim
  subst hLn
  rw [List.append_nil] at X'
  obtain ⟨t2, a1, b1⟩ := kk T' (e1.trans hb) X'
  exact ⟨t2, st t2 a1, b1⟩
theorem ru_calll {v : Int64} (hr : va_Run p l e R s m args below meth c H locs cells slots 0 0 (F0 m pc ls st0) rest (va_Ql (fun r (_ : Unit) => r = v) (fun _ t => t.heap = H) (fun _ => False) a) (fun _ => False))
    (kk : W p l e R s m args below meth c H locs cells slots Q (F0 m (pc + 3) ls (.long v :: rest))) : W p l e R s m args below meth c H locs cells slots Q (F0 m pc ls st0) := by
  intro T hT X
  obtain ⟨v', st₀, t, T', L, h0, X', hL, e1, e2, ⟨⟨r, u, hv, hp, hb⟩, hz, hk⟩, st⟩ := hr T hT X
  cases hv
  subst hp
  have hLn : L = [] := by
    cases L with
    | nil => rfl
    | cons q L' => exact (hL q List.mem_cons_self).elim
  subst hLn
  rw [List.append_nil] at X'
  obtain ⟨t2, a1, b1⟩ := kk T' (e1.trans hb) X'
  exact ⟨t2, st t2 a1, b1⟩
theorem mu_calli {v : Int32} {A0 A1 : Nat → Prop} {H0 : Heap} {D : va_G} {cl : List vw_C} {ws' : va_W} (hr : va_Run p l e R s m args below meth c H locs cells slots 0 0 (F0 m pc ls st0) rest (va_Qi (fun r (_ : Unit) => r = v) (fun _ t => va_P D cl ws' t.heap) A1 a) A1)
    (hS : va_S A0 H0 H locs) (hA : ∀ q, A1 q → A0 q)
    (kk : ∀ (H1 : Heap) (locs1 : List Loc), va_P D cl ws' H1 → va_S A0 H0 H1 locs1 → (∀ q : Nat, q < H.size → ¬ A1 q → H1[q]? = H[q]?) → W p l e R s m args below meth c H1 locs1 cells slots Q (F0 m (pc + 3) ls (.int v :: rest))) : W p l e R s m args below meth c H locs cells slots Q (F0 m pc ls st0) := by
  refine va_calli hr hS (fun q _ h => hA q h) hA (fun r u t H1 locs1 ht hvm hp hB hz hk hS1 => ?_)
  subst hp
  subst ht
  exact kk _ locs1 hB hS1 hk
theorem mu_callv {A0 A1 : Nat → Prop} {H0 : Heap} {D : va_G} {cl : List vw_C} {ws' : va_W} (hr : va_Run p l e R s m args below meth c H locs cells slots 0 0 (F0 m pc ls st0) rest (va_Qv (fun (_ : Unit) => True) (fun _ t => va_P D cl ws' t.heap) A1 a) A1)
    (hS : va_S A0 H0 H locs) (hA : ∀ q, A1 q → A0 q)
    (kk : ∀ (H1 : Heap) (locs1 : List Loc), va_P D cl ws' H1 → va_S A0 H0 H1 locs1 → (∀ q : Nat, q < H.size → ¬ A1 q → H1[q]? = H[q]?) → W p l e R s m args below meth c H1 locs1 cells slots Q (F0 m (pc + 3) ls rest)) : W p l e R s m args below meth c H locs cells slots Q (F0 m pc ls st0) := by
  refine va_callv hr hS (fun q _ h => hA q h) hA (fun u t H1 locs1 ht hvm hp hB hz hk hS1 => ?_)
  subst ht
  exact kk _ locs1 hB hS1 hk
/-- the top under another name -/
theorem tp_i {x v : Int32} (h : x = v) (k : W p l e R s m args below meth c H locs cells slots Q (F0 m pc ls (.int v :: rest))) : W p l e R s m args below meth c H locs cells slots Q (F0 m pc ls (.int x :: rest)) := h ▸ k
theorem tp_l {x v : Int64} (h : x = v) (k : W p l e R s m args below meth c H locs cells slots Q (F0 m pc ls (.long v :: rest))) : W p l e R s m args below meth c H locs cells slots Q (F0 m pc ls (.long x :: rest)) := h ▸ k
variable {cc : ByteArray} {D : va_G} {cl : List vw_C} {tys : List (ClassId × FieldType)} {ws : va_W} {A : Nat → Prop} {H0 : Heap} {ad : Nat}
/-- array reads and writes at a place that is a Nat -/
theorem ld_i (hexec : p.tables.exec = Jvm.exec) (hb : c.code = cc) (hK : va_K D cl tys s) (hP : va_P D cl ws H) (q0 t0 : Nat) {cA : ClassId} {n : Nat} {f : Nat → Int32} (ha : ws[q0]? = some (ad, .inl (cA, n, .inl f))) (ht : tys[t0]? = some (cA, .int)) {j : Nat} (hj : j < n) (hn : n < 2 ^ 31) (hdg : decode cc pc = .ok (.iaload, 1))
    (kk : W p l e R s m args below meth c H locs cells slots Q (F0 m (pc + 1) ls (.int (f j) :: rest))) : W p l e R s m args below meth c H locs cells slots Q (F0 m pc ls (.int (nI j) :: .ref ad :: rest)) := by
  refine va_iald hexec hb hK hP q0 t0 ha ht (vp_in_nI hj hn) hdg ?_
  rw [nI_clamp (by omega)]
  exact kk
theorem ld_l (hexec : p.tables.exec = Jvm.exec) (hb : c.code = cc) (hK : va_K D cl tys s) (hP : va_P D cl ws H) (q0 t0 : Nat) {cA : ClassId} {n : Nat} {f : Nat → Int64} (ha : ws[q0]? = some (ad, .inl (cA, n, .inr (.inl f)))) (ht : tys[t0]? = some (cA, .long)) {j : Nat} (hj : j < n) (hn : n < 2 ^ 31) (hdg : decode cc pc = .ok (.laload, 1))
    (kk : W p l e R s m args below meth c H locs cells slots Q (F0 m (pc + 1) ls (.long (f j) :: rest))) : W p l e R s m args below meth c H locs cells slots Q (F0 m pc ls (.int (nI j) :: .ref ad :: rest)) := by
  refine va_lald hexec hb hK hP q0 t0 ha ht (vp_in_nI hj hn) hdg ?_
  rw [nI_clamp (by omega)]
  exact kk
theorem st_i (hexec : p.tables.exec = Jvm.exec) (hb : c.code = cc) (hK : va_K D cl tys s) (hP : va_P D cl ws H) (hD : va_D A ws) (hS : va_S A H0 H locs) (q0 t0 : Nat) {cA : ClassId} {n : Nat} {f : Nat → Int32} (ha : ws[q0]? = some (ad, .inl (cA, n, .inl f))) (ht : tys[t0]? = some (cA, .int)) {j : Nat} {x : Int32} (hj : j < n) (hn : n < 2 ^ 31) (hdg : decode cc pc = .ok (.iastore, 1))
    (kk : ∀ (H1 : Heap) (locs1 : List Loc), va_P D cl (ws.set q0 (ad, .inl (cA, n, .inl (upd f j x)))) H1 → va_D A (ws.set q0 (ad, .inl (cA, n, .inl (upd f j x)))) → va_S A H0 H1 locs1 → W p l e R s m args below meth c H1 locs1 cells slots Q (F0 m (pc + 1) ls rest)) : W p l e R s m args below meth c H locs cells slots Q (F0 m pc ls (.int x :: .int (nI j) :: .ref ad :: rest)) := by
  refine va_iast hexec hb hK hP hD hS q0 t0 ha ht (vp_in_nI hj hn) hdg ?_
  rw [nI_clamp (by omega)]
  exact kk
theorem st_l (hexec : p.tables.exec = Jvm.exec) (hb : c.code = cc) (hK : va_K D cl tys s) (hP : va_P D cl ws H) (hD : va_D A ws) (hS : va_S A H0 H locs) (q0 t0 : Nat) {cA : ClassId} {n : Nat} {f : Nat → Int64} (ha : ws[q0]? = some (ad, .inl (cA, n, .inr (.inl f)))) (ht : tys[t0]? = some (cA, .long)) {j : Nat} {x : Int64} (hj : j < n) (hn : n < 2 ^ 31) (hdg : decode cc pc = .ok (.lastore, 1))
    (kk : ∀ (H1 : Heap) (locs1 : List Loc), va_P D cl (ws.set q0 (ad, .inl (cA, n, .inr (.inl (vp_updL f j x))))) H1 → va_D A (ws.set q0 (ad, .inl (cA, n, .inr (.inl (vp_updL f j x))))) → va_S A H0 H1 locs1 → W p l e R s m args below meth c H1 locs1 cells slots Q (F0 m (pc + 1) ls rest)) : W p l e R s m args below meth c H locs cells slots Q (F0 m pc ls (.long x :: .int (nI j) :: .ref ad :: rest)) := by
  refine va_last hexec hb hK hP hD hS q0 t0 ha ht (vp_in_nI hj hn) hdg ?_
  rw [nI_clamp (by omega)]
  exact kk
/-- the ends of a method that only reads -/
theorem ru_iret {v w : Int32} (hexec : p.tables.exec = Jvm.exec) (hb : c.code = cc) (hr : meth.sig.returnType = some .int) (hlocks : meth.locks = false) (hv : w = v) (hdg : decode cc pc = .ok (.ireturn, 1)) :
    W p l e R s m args below meth c s.heap [] 0 0 (MQ below (va_Qi (fun r (_ : Unit) => r = v) (fun _ t => t.heap = s.heap) (fun _ => False)) args s 0 0 (fun _ => False)) (F0 m pc ls [.int w]) :=
  W.iret (v := w) hexec hb hr (fun t ht _ => ⟨⟨w, (), rfl, hv, ht⟩, (va_S.rf).F ht⟩) (fun _ h => by cases h) hdg hlocks
theorem ru_zret {v w : Int32} (hexec : p.tables.exec = Jvm.exec) (hb : c.code = cc) (hr : meth.sig.returnType = some .boolean) (hlocks : meth.locks = false) (hv : w = v) (hn : narrow .boolean (.int w) = .int w) (hdg : decode cc pc = .ok (.ireturn, 1)) :
    W p l e R s m args below meth c s.heap [] 0 0 (MQ below (va_Qi (fun r (_ : Unit) => r = v) (fun _ t => t.heap = s.heap) (fun _ => False)) args s 0 0 (fun _ => False)) (F0 m pc ls [.int w]) :=
  W.zret (v := w) hexec hb hr hn (fun t ht _ => ⟨⟨w, (), rfl, hv, ht⟩, (va_S.rf).F ht⟩) (fun _ h => by cases h) hdg hlocks
theorem ru_lret {v w : Int64} (hexec : p.tables.exec = Jvm.exec) (hb : c.code = cc) (hr : meth.sig.returnType = some .long) (hlocks : meth.locks = false) (hv : w = v) (hdg : decode cc pc = .ok (.lreturn, 1)) :
    W p l e R s m args below meth c s.heap [] 0 0 (MQ below (va_Ql (fun r (_ : Unit) => r = v) (fun _ t => t.heap = s.heap) (fun _ => False)) args s 0 0 (fun _ => False)) (F0 m pc ls [.long w]) :=
  W.lret (v := w) hexec hb hr (fun t ht _ => ⟨⟨w, (), rfl, hv, ht⟩, (va_S.rf).F ht⟩) (fun _ h => by cases h) hdg hlocks
/-- the ends of a method that changes a world -/
theorem mu_iret {v w : Int32} {ws' : va_W} (hexec : p.tables.exec = Jvm.exec) (hb : c.code = cc) (hr : meth.sig.returnType = some .int) (hlocks : meth.locks = false) (hS : va_S A s.heap H locs) (hP : va_P D cl ws H) (hw : ws = ws') (hv : w = v) (hdg : decode cc pc = .ok (.ireturn, 1)) :
    W p l e R s m args below meth c H locs 0 0 (MQ below (va_Qi (fun r (_ : Unit) => r = v) (fun _ t => va_P D cl ws' t.heap) A) args s 0 0 A) (F0 m pc ls [.int w]) := by
  subst hw
  exact W.iret (v := w) hexec hb hr (fun t ht _ => ⟨⟨w, (), rfl, hv, by show va_P D cl ws t.heap; rw [ht]; exact hP⟩, hS.F ht⟩) hS.2.2 hdg hlocks
theorem mu_zret {v w : Int32} {ws' : va_W} (hexec : p.tables.exec = Jvm.exec) (hb : c.code = cc) (hr : meth.sig.returnType = some .boolean) (hlocks : meth.locks = false) (hS : va_S A s.heap H locs) (hP : va_P D cl ws H) (hw : ws = ws') (hv : w = v) (hn : narrow .boolean (.int w) = .int w) (hdg : decode cc pc = .ok (.ireturn, 1)) :
    W p l e R s m args below meth c H locs 0 0 (MQ below (va_Qi (fun r (_ : Unit) => r = v) (fun _ t => va_P D cl ws' t.heap) A) args s 0 0 A) (F0 m pc ls [.int w]) := by
  subst hw
  exact W.zret (v := w) hexec hb hr hn (fun t ht _ => ⟨⟨w, (), rfl, hv, by show va_P D cl ws t.heap; rw [ht]; exact hP⟩, hS.F ht⟩) hS.2.2 hdg hlocks
theorem mu_vret {ws' : va_W} (hexec : p.tables.exec = Jvm.exec) (hb : c.code = cc) (hr : meth.sig.returnType = none) (hlocks : meth.locks = false) (hS : va_S A s.heap H locs) (hP : va_P D cl ws H) (hw : ws = ws') (hdg : decode cc pc = .ok (.return_, 1)) :
    W p l e R s m args below meth c H locs 0 0 (MQ below (va_Qv (fun (_ : Unit) => True) (fun _ t => va_P D cl ws' t.heap) A) args s 0 0 A) (F0 m pc ls []) := by
  subst hw
  exact W.vret hexec hb hr (fun t ht _ => ⟨⟨(), rfl, trivial, by show va_P D cl ws t.heap; rw [ht]; exact hP⟩, hS.F ht⟩) hS.2.2 hdg hlocks
end RU
/-- a truth value as the machine has it -/
def b2i (b : Bool) : Int32 := if b = true then 1 else 0
theorem b2i_t : b2i true = 1 := rfl
theorem b2i_f : b2i false = 0 := rfl
theorem b2i_0 {b : Bool} : b2i b = 0 ↔ b = false := by cases b <;> decide
theorem b2i_n {b : Bool} : narrow .boolean (.int (b2i b)) = .int (b2i b) := by cases b <;> rfl
/-- words: every contract has the whole of ltg behind its own code -/
abbrev ww (y : MethodName) (b : ByteArray) (n : Nat) (r : Option FieldType) : List Cond := .code y b n r :: ltg
theorem gd_of {w : Cond} (h : w ∈ ltg) : (w.onTables && w.keeps) = true ∨ ∃ ty, w = .arrayClass ty := by
  have h1 := (List.mem_filter.mp h).2
  rcases Bool.or_eq_true_iff.mp h1 with h2 | h2
  · cases w <;> first | (simp [k2_isCode] at h2; done) | exact Or.inl rfl
  · exact good_of_word h2
theorem gd_ww {big : List Cond} (hb : ∀ w ∈ ltg, w ∈ big) {y : MethodName} {b : ByteArray} {n : Nat} {r : Option FieldType} (hc : Cond.code y b n r ∈ ltg) : GoodIn big (ww y b n r) := by
  intro w hw
  rcases List.mem_cons.mp hw with rfl | h
  · exact ⟨hb _ hc, gd_of hc⟩
  · exact ⟨hb _ h, gd_of h⟩
theorem gd_V {big : List Cond} (hb : ∀ w ∈ ltg, w ∈ big) {own C : String} {idx : Nat} {y : MethodName} {b : ByteArray} {n : Nat} {r : Option FieldType} (hc : Cond.code y b n r ∈ ltg)
    (h : ([.methodLink own idx y, .instanceMethod y, .selects C y y, .initialized C] : List Cond).all (fun w => decide (w ∈ ltg)) = true) : GoodIn big (wsV own idx C y (ww y b n r)) := by
  intro w hw
  rcases List.mem_append.mp hw with h1 | h1
  · have h2 : w ∈ ltg := of_decide_eq_true (List.all_eq_true.mp h w h1)
    exact ⟨hb _ h2, gd_of h2⟩
  · exact gd_ww hb hc w h1
theorem gd_S {big : List Cond} (hb : ∀ w ∈ ltg, w ∈ big) {own : String} {idx : Nat} {y : MethodName} {b : ByteArray} {n : Nat} {r : Option FieldType} (hc : Cond.code y b n r ∈ ltg)
    (h : ([.methodLink own idx y, .static y, .initialized own] : List Cond).all (fun w => decide (w ∈ ltg)) = true) : GoodIn big (wsS own idx y (ww y b n r)) := by
  intro w hw
  rcases List.mem_append.mp hw with h1 | h1
  · have h2 : w ∈ ltg := of_decide_eq_true (List.all_eq_true.mp h w h1)
    exact ⟨hb _ h2, gd_of h2⟩
  · exact gd_ww hb hc w h1
theorem gd_b {y : MethodName} {b : ByteArray} {n : Nat} {r : Option FieldType} : ∀ w ∈ ltg, w ∈ ww y b n r := fun _ h => List.mem_cons_of_mem _ h
theorem gd_i : ∀ w ∈ ltg, w ∈ ltg := fun _ h => h
/-- a contract's start of the two kinds is blind to frames -/
theorem fb_ro {av : List Value} {Hh : Heap} {D : va_G} {cl : List vw_C} {tys : List (ClassId × FieldType)} : FrameBlind (va_Pc av (fun U => U.heap = Hh ∧ va_K D cl tys U)) :=
  fun a U g mk q => by obtain ⟨q0, q1, qK⟩ := q; exact ⟨q0, q1, va_K.moved (u := U) (U := U.calling g mk a) (Vm.Alike.refl U.vm) qK⟩
theorem fb_mu {av : List Value} {ws : va_W} {D : va_G} {cl : List vw_C} {tys : List (ClassId × FieldType)} : FrameBlind (va_Pc av (fun U => va_P D cl ws U.heap ∧ va_K D cl tys U)) :=
  fun a U g mk q => by obtain ⟨q0, q1, qK⟩ := q; exact ⟨q0, q1, va_K.moved (u := U) (U := U.calling g mk a) (Vm.Alike.refl U.vm) qK⟩
/-- apartness speaks of addresses alone -/
theorem vd_same {A : Nat → Prop} {ws ws' : va_W} (hD : va_D A ws) (h : ws.map Prod.fst = ws'.map Prod.fst) : va_D A ws' := by
  have key : ∀ (k : Nat) (q : Nat × va_E), ws'[k]? = some q → ∃ q0, ws[k]? = some q0 ∧ q0.1 = q.1 := by
    intro k q hq
    have h1 : (ws'.map Prod.fst)[k]? = some q.1 := by rw [List.getElem?_map, hq]; rfl
    rw [← h, List.getElem?_map] at h1
    cases hz : ws[k]? with
    | none => rw [hz] at h1; cases h1
    | some q0 => rw [hz] at h1; exact ⟨q0, rfl, Option.some.inj h1⟩
  refine ⟨fun i j x y hi hj hxy => ?_, fun k q hk => ?_⟩
  · obtain ⟨x0, a1, a2⟩ := key i x hi
    obtain ⟨y0, b1, b2⟩ := key j y hj
    exact hD.1 i j x0 y0 a1 b1 (a2.trans (hxy.trans b2.symm))
  · obtain ⟨q0, a1, a2⟩ := key k q hk
    rw [← a2]; exact hD.2 k q0 a1
end
section
/-! WHAT THE CLASS'S METHODS ANSWER, as functions of its rows (f families, u uppers, w lowers, g lengths, n numbers), k its count, mf mu ml the address that is meant -/
def kb_first (b : Int32) : Int64 := if 0 < b then (if b < 64 then (-1) <<< ((64 - b).toInt64 &&& 63) else (-1)) else 0
def kb_bits (fam len : Int32) : Int32 := if fam = 4 then 96 + len else len
def kb_addr (fam : Int32) (up lo : Int64) : Bool := if fam = 4 then decide (up = 0) && (!decide (lo < 0) && !decide (4294967296 ≤ lo)) else decide (fam = 6)
def kb_len (mf len : Int32) : Bool := !decide (len < 0) && !decide ((if mf = 4 then 32 else 128) < len)
def kb_pre (mf : Int32) (mu ml : Int64) (len : Int32) : Bool := kb_len mf len && (decide (mu &&& (kb_first (kb_bits mf len) ^^^ (-1)) = 0) && decide (ml &&& (kb_first (kb_bits mf len - 64) ^^^ (-1)) = 0))
def kb_below (x y : Int64) : Bool := !decide (y ^^^ (-9223372036854775808) ≤ x ^^^ (-9223372036854775808))
def kb_cov (f : Nat → Int32) (u w : Nat → Int64) (g : Nat → Int32) (mf : Int32) (mu ml : Int64) (j : Nat) : Bool := decide (f j = mf) && (decide ((u j ^^^ mu) &&& kb_first (kb_bits mf (g j)) = 0) && decide ((w j ^^^ ml) &&& kb_first (kb_bits mf (g j) - 64) = 0))
def kb_ah (f : Nat → Int32) (u w : Nat → Int64) (g : Nat → Int32) (mf : Int32) (mu ml : Int64) (len : Int32) (j : Nat) : Bool :=
  if f j = mf then (if u j = mu then (if w j = ml then !decide (len ≤ g j) else kb_below (w j) ml) else kb_below (u j) mu) else !decide (mf ≤ f j)
def kb_st (f : Nat → Int32) (u w : Nat → Int64) (g : Nat → Int32) (mf : Int32) (mu ml : Int64) (len : Int32) (k j : Nat) : Bool :=
  !decide (k ≤ j) && (decide (f j = mf) && (decide (u j = mu) && (decide (w j = ml) && decide (g j = len))))
/-- the first place from i on, of at most c more, at which P does not hold -/
def kb_fst (P : Nat → Bool) : Nat → Nat → Nat
  | 0, i => i
  | c + 1, i => if P i = true then kb_fst P c (i + 1) else i
theorem kb_fst_le (P : Nat → Bool) : ∀ c i, kb_fst P c i ≤ i + c
  | 0, i => Nat.le_refl _
  | c + 1, i => by
    unfold kb_fst
    by_cases h : P i = true
    · rw [if_pos h]
      have := kb_fst_le P c (i + 1)
      omega
    · rw [if_neg h]
      omega
theorem kb_fst_ge (P : Nat → Bool) : ∀ c i, i ≤ kb_fst P c i
  | 0, i => Nat.le_refl _
  | c + 1, i => by
    unfold kb_fst
    by_cases h : P i = true
    · rw [if_pos h]
      have := kb_fst_ge P c (i + 1)
      omega
    · rw [if_neg h]
      omega
theorem kb_fst_in (P : Nat → Bool) : ∀ c i j, i ≤ j → j < kb_fst P c i → P j = true
  | 0, i, j, h1, h2 => absurd h2 (by unfold kb_fst; omega)
  | c + 1, i, j, h1, h2 => by
    unfold kb_fst at h2
    by_cases h : P i = true
    · rw [if_pos h] at h2
      by_cases hj : j = i
      · rw [hj]; exact h
      · exact kb_fst_in P c (i + 1) j (by omega) h2
    · rw [if_neg h] at h2
      omega
theorem kb_fst_at (P : Nat → Bool) : ∀ c i, kb_fst P c i < i + c → P (kb_fst P c i) = false
  | 0, i, h => absurd h (by unfold kb_fst; omega)
  | c + 1, i, h => by
    unfold kb_fst at h ⊢
    by_cases hp : P i = true
    · rw [if_pos hp] at h ⊢
      exact kb_fst_at P c (i + 1) (by omega)
    · rw [if_neg hp]
      simpa using hp
def kb_lg (cv : Nat → Bool) (g : Nat → Int32) : Nat → Int32
  | 0 => (-1)
  | i + 1 => if cv i = true ∧ ¬ g i ≤ kb_lg cv g i then g i else kb_lg cv g i
def kb_cv (cv : Nat → Bool) : Nat → Nat
  | 0 => 0
  | i + 1 => if cv i = true then kb_cv cv i + 1 else kb_cv cv i
theorem kb_cv_le (cv : Nat → Bool) : ∀ i, kb_cv cv i ≤ i
  | 0 => Nat.le_refl _
  | i + 1 => by
    have := kb_cv_le cv i
    unfold kb_cv
    by_cases h : cv i = true
    · rw [if_pos h]; omega
    · rw [if_neg h]; omega
/-- a row with the place p opened among k, closed among k -/
def kb_up {α : Type} (f : Nat → α) (p k : Nat) : Nat → α := fun j => if p < j ∧ j ≤ k then f (j - 1) else f j
def kb_dn {α : Type} (f : Nat → α) (p k : Nat) : Nat → α := fun j => if p ≤ j ∧ j < k then f (j + 1) else f j
theorem kb_fst_eq (P : Nat → Bool) (k i : Nat) (hi : i ≤ k) (h1 : ∀ j, j < i → P j = true) (h2 : i = k ∨ P i = false) : kb_fst P k 0 = i := by
  have a1 := kb_fst_le P k 0
  rcases Nat.lt_trichotomy (kb_fst P k 0) i with h | h | h
  · have q := kb_fst_at P k 0 (by omega)
    rw [h1 _ h] at q
    cases q
  · exact h
  · have q := kb_fst_in P k 0 i (Nat.zero_le i) h
    rcases h2 with h2 | h2
    · omega
    · rw [h2] at q
      cases q
theorem kb_up_0 {α : Type} (f : Nat → α) (k : Nat) : kb_up f k k = f := by
  funext j; unfold kb_up; rw [if_neg (by omega)]
theorem kb_dn_0 {α : Type} (f : Nat → α) (p : Nat) : kb_dn f p p = f := by
  funext j; unfold kb_dn; rw [if_neg (by omega)]
theorem kb_up_i (f : Nat → Int32) (q k : Nat) (h : q + 1 ≤ k) : upd (kb_up f (q + 1) k) (q + 1) (kb_up f (q + 1) k q) = kb_up f q k := by
  funext j; unfold upd kb_up
  by_cases e : j = q + 1
  · subst e
    rw [if_pos rfl, if_neg (by omega), if_pos (by omega), Nat.add_sub_cancel]
  · rw [if_neg e]
    by_cases h1 : q + 1 < j ∧ j ≤ k
    · rw [if_pos h1, if_pos (by omega)]
    · rw [if_neg h1, if_neg (by omega)]
theorem kb_up_l (f : Nat → Int64) (q k : Nat) (h : q + 1 ≤ k) : vp_updL (kb_up f (q + 1) k) (q + 1) (kb_up f (q + 1) k q) = kb_up f q k := by
  funext j; unfold vp_updL kb_up
  by_cases e : j = q + 1
  · subst e
    rw [if_pos rfl, if_neg (by omega), if_pos (by omega), Nat.add_sub_cancel]
  · rw [if_neg e]
    by_cases h1 : q + 1 < j ∧ j ≤ k
    · rw [if_pos h1, if_pos (by omega)]
    · rw [if_neg h1, if_neg (by omega)]
theorem kb_dn_i (f : Nat → Int32) (p t : Nat) (h : p ≤ t) : upd (kb_dn f p t) t (kb_dn f p t (t + 1)) = kb_dn f p (t + 1) := by
  funext j; unfold upd kb_dn
  by_cases e : j = t
  · subst e
    rw [if_pos rfl, if_neg (by omega), if_pos (by omega)]
  · rw [if_neg e]
    by_cases h1 : p ≤ j ∧ j < t
    · rw [if_pos h1, if_pos (by omega)]
    · rw [if_neg h1, if_neg (by omega)]
theorem kb_dn_l (f : Nat → Int64) (p t : Nat) (h : p ≤ t) : vp_updL (kb_dn f p t) t (kb_dn f p t (t + 1)) = kb_dn f p (t + 1) := by
  funext j; unfold vp_updL kb_dn
  by_cases e : j = t
  · subst e
    rw [if_pos rfl, if_neg (by omega), if_pos (by omega)]
  · rw [if_neg e]
    by_cases h1 : p ≤ j ∧ j < t
    · rw [if_pos h1, if_pos (by omega)]
    · rw [if_neg h1, if_neg (by omega)]
end
section
/-! PURE: the unsigned value, keys, order -/
def un (x : Int64) : Nat := x.toBitVec.toNat
theorem un_lt (x : Int64) : un x < 18446744073709551616 := x.toBitVec.isLt
theorem un_inj {x y : Int64} : un x = un y ↔ x = y := ⟨fun h => Int64.toBitVec_inj.mp (BitVec.eq_of_toNat_eq h), fun h => by rw [h]⟩
theorem un_flipN (n : Nat) (h : n < 18446744073709551616) : n ^^^ 9223372036854775808 = if n < 9223372036854775808 then n + 9223372036854775808 else n - 9223372036854775808 := by
  have h1 : (n ^^^ 9223372036854775808) / 2 ^ 63 = (n / 2 ^ 63) ^^^ (9223372036854775808 / 2 ^ 63) := Nat.xor_div_two_pow
  have h2 : (n ^^^ 9223372036854775808) % 2 ^ 63 = (n % 2 ^ 63) ^^^ (9223372036854775808 % 2 ^ 63) := Nat.xor_mod_two_pow
  have e1 : (9223372036854775808 : Nat) / 2 ^ 63 = 1 := by decide
  have e2 : (9223372036854775808 : Nat) % 2 ^ 63 = 0 := by decide
  have e3 : (2 : Nat) ^ 63 = 9223372036854775808 := by decide
  rw [e1, e3] at h1
  rw [e2, e3, Nat.xor_zero] at h2
  by_cases hn : n < 9223372036854775808
  · rw [if_pos hn]
    have h3 : n / 9223372036854775808 = 0 := by omega
    rw [h3] at h1
    have h4 : (0 ^^^ 1 : Nat) = 1 := by decide
    rw [h4] at h1
    omega
  · rw [if_neg hn]
    have h3 : n / 9223372036854775808 = 1 := by omega
    rw [h3] at h1
    have h4 : (1 ^^^ 1 : Nat) = 0 := by decide
    rw [h4] at h1
    omega
theorem un_flip (x : Int64) : (x ^^^ (-9223372036854775808)).toInt = (un x : Int) - 9223372036854775808 := by
  have h0 : (x ^^^ (-9223372036854775808)).toBitVec = x.toBitVec ^^^ (-9223372036854775808 : Int64).toBitVec := rfl
  have h1 : (-9223372036854775808 : Int64).toBitVec.toNat = 9223372036854775808 := by decide
  have h2 : (x ^^^ (-9223372036854775808)).toBitVec.toNat = un x ^^^ 9223372036854775808 := by rw [h0, BitVec.toNat_xor, h1]; rfl
  rw [un_flipN _ (un_lt x)] at h2
  rw [← Int64.toInt_toBitVec, BitVec.toInt_eq_toNat_cond, h2]
  have := un_lt x
  by_cases hn : un x < 9223372036854775808
  · rw [if_pos hn, if_neg (by omega)]
    omega
  · rw [if_neg hn, if_pos (by omega)]
    omega
theorem kb_below_iff {x y : Int64} : kb_below x y = true ↔ un x < un y := by
  unfold kb_below
  rw [Bool.not_eq_true', decide_eq_false_iff_not, Int64.not_le, Int64.lt_iff_toInt_lt, un_flip, un_flip]
  omega
theorem i32_b (x : Int32) : -2147483648 ≤ x.toInt ∧ x.toInt < 2147483648 := ⟨Int32.le_toInt x, Int32.toInt_lt x⟩
def kb_key (f : Int32) (u w : Int64) (g : Int32) : Int := ((f.toInt * 18446744073709551616 + un u) * 18446744073709551616 + un w) * 8589934592 + g.toInt
theorem kb_key_inj {f f' : Int32} {u u' w w' : Int64} {g g' : Int32} : kb_key f u w g = kb_key f' u' w' g' ↔ f = f' ∧ u = u' ∧ w = w' ∧ g = g' := by
  unfold kb_key
  rw [← Int32.toInt_inj, ← un_inj, ← un_inj (x := w), ← Int32.toInt_inj (x := g)]
  have := un_lt u; have := un_lt u'; have := un_lt w; have := un_lt w'
  have := i32_b g; have := i32_b g'
  omega
theorem kb_ah_iff {f : Nat → Int32} {u w : Nat → Int64} {g : Nat → Int32} {mf : Int32} {mu ml : Int64} {len : Int32} {j : Nat} : kb_ah f u w g mf mu ml len j = true ↔ kb_key (f j) (u j) (w j) (g j) < kb_key mf mu ml len := by
  unfold kb_ah kb_key
  have := un_lt (u j); have := un_lt mu; have := un_lt (w j); have := un_lt ml
  have := i32_b (g j); have := i32_b len
  by_cases h1 : f j = mf
  · rw [if_pos h1, h1]
    by_cases h2 : u j = mu
    · rw [if_pos h2, h2]
      by_cases h3 : w j = ml
      · rw [if_pos h3, h3, Bool.not_eq_true', decide_eq_false_iff_not, Int32.not_le, Int32.lt_iff_toInt_lt]
        omega
      · rw [if_neg h3, kb_below_iff]
        have : un (w j) ≠ un ml := fun q => h3 (un_inj.mp q)
        omega
    · rw [if_neg h2, kb_below_iff]
      have : un (u j) ≠ un mu := fun q => h2 (un_inj.mp q)
      omega
  · rw [if_neg h1, Bool.not_eq_true', decide_eq_false_iff_not, Int32.not_le, Int32.lt_iff_toInt_lt]
    have : (f j).toInt ≠ mf.toInt := fun q => h1 (Int32.toInt_inj.mp q)
    omega
end
section
/-! PURE: rows in order -/
def sk (key : Nat → Int) (k : Nat) : Prop := ∀ i j, i < j → j < k → key i < key j
theorem sk_inj {key : Nat → Int} {k i j : Nat} (h : sk key k) (hi : i < k) (hj : j < k) (e : key i = key j) : i = j := by
  rcases Nat.lt_trichotomy i j with q | q | q
  · have := h i j q hj; omega
  · exact q
  · have := h j i q hi; omega
theorem sk_ge {key : Nat → Int} {k r j : Nat} {K : Int} (h : sk key k) (hr : K ≤ key r) (hj : r ≤ j) (hk : j < k) : K ≤ key j := by
  by_cases q : r = j
  · rw [← q]; exact hr
  · have := h r j (by omega) hk; omega
theorem sk_ins {key key' : Nat → Int} {k r : Nat} {K : Int} (h : sk key k) (hr : r ≤ k) (h1 : ∀ j, j < r → key j < K) (h2 : ∀ j, r ≤ j → j < k → K < key j)
    (e1 : ∀ j, j < r → key' j = key j) (e2 : key' r = K) (e3 : ∀ j, r < j → j ≤ k → key' j = key (j - 1)) : sk key' (k + 1) := by
  intro i j hij hj
  rcases Nat.lt_trichotomy j r with q | q | q
  · rw [e1 i (by omega), e1 j q]; exact h i j hij (by omega)
  · subst q
    rw [e1 i hij, e2]; exact h1 i hij
  · rw [e3 j q (by omega)]
    rcases Nat.lt_trichotomy i r with z | z | z
    · rw [e1 i z]; exact h i (j - 1) (by omega) (by omega)
    · subst z
      rw [e2]; exact h2 (j - 1) (by omega) (by omega)
    · rw [e3 i z (by omega)]; exact h (i - 1) (j - 1) (by omega) (by omega)
theorem sk_del {key key' : Nat → Int} {k r : Nat} (h : sk key k) (hr : r < k)
    (e1 : ∀ j, j < r → key' j = key j) (e3 : ∀ j, r ≤ j → j + 1 < k → key' j = key (j + 1)) : sk key' (k - 1) := by
  intro i j hij hj
  by_cases q : j < r
  · rw [e1 i (by omega), e1 j q]; exact h i j hij (by omega)
  · rw [e3 j (by omega) (by omega)]
    by_cases z : i < r
    · rw [e1 i z]; exact h i (j + 1) (by omega) (by omega)
    · rw [e3 i (by omega) (by omega)]; exact h (i + 1) (j + 1) (by omega) (by omega)
end
section
theorem gX0_40 : GoodIn ltg (wsS RX0 40 yX0_isAddress (ww yX0_isAddress cX0_isAddress 5 (some .boolean))) := gd_S gd_i wcX0_isAddress (by decide +kernel)
theorem hd_X0_isAddress : yX0_isAddress.cls = RX0 ∧ yX0_isAddress.cls ≠ "java/lang/invoke/MethodHandle" ∧ yX0_isAddress.cls ≠ "java/lang/invoke/VarHandle" ∧ (parseMethodDescriptor yX0_isAddress.desc).map (fun d => d.parameters.length) = some 3 := by decide +kernel
theorem gX0_44 : GoodIn ltg (wsV RX0 44 RX0 yX0_mean (ww yX0_mean cX0_mean 6 none)) := gd_V gd_i wcX0_mean (by decide +kernel)
theorem hd_X0_mean : yX0_mean.cls = RX0 ∧ yX0_mean.cls ≠ "java/lang/invoke/MethodHandle" ∧ yX0_mean.cls ≠ "java/lang/invoke/VarHandle" ∧ (parseMethodDescriptor yX0_mean.desc).map (fun d => d.parameters.length) = some 3 := by decide +kernel
theorem gX0_48 : GoodIn ltg (wsV RX0 48 RX0 yX0_isPrefix (ww yX0_isPrefix cX0_isPrefix 3 (some .boolean))) := gd_V gd_i wcX0_isPrefix (by decide +kernel)
theorem hd_X0_isPrefix : yX0_isPrefix.cls = RX0 ∧ yX0_isPrefix.cls ≠ "java/lang/invoke/MethodHandle" ∧ yX0_isPrefix.cls ≠ "java/lang/invoke/VarHandle" ∧ (parseMethodDescriptor yX0_isPrefix.desc).map (fun d => d.parameters.length) = some 1 := by decide +kernel
theorem gX0_52 : GoodIn ltg (wsV RX0 52 RX0 yX0_countAhead (ww yX0_countAhead cX0_countAhead 3 (some .int))) := gd_V gd_i wcX0_countAhead (by decide +kernel)
theorem hd_X0_countAhead : yX0_countAhead.cls = RX0 ∧ yX0_countAhead.cls ≠ "java/lang/invoke/MethodHandle" ∧ yX0_countAhead.cls ≠ "java/lang/invoke/VarHandle" ∧ (parseMethodDescriptor yX0_countAhead.desc).map (fun d => d.parameters.length) = some 1 := by decide +kernel
theorem gX0_56 : GoodIn ltg (wsV RX0 56 RX0 yX0_standsAt (ww yX0_standsAt cX0_standsAt 3 (some .boolean))) := gd_V gd_i wcX0_standsAt (by decide +kernel)
theorem hd_X0_standsAt : yX0_standsAt.cls = RX0 ∧ yX0_standsAt.cls ≠ "java/lang/invoke/MethodHandle" ∧ yX0_standsAt.cls ≠ "java/lang/invoke/VarHandle" ∧ (parseMethodDescriptor yX0_standsAt.desc).map (fun d => d.parameters.length) = some 2 := by decide +kernel
theorem gX0_60 : GoodIn ltg (wsV RX0 60 RX0 yX0_openPlace (ww yX0_openPlace cX0_openPlace 3 none)) := gd_V gd_i wcX0_openPlace (by decide +kernel)
theorem hd_X0_openPlace : yX0_openPlace.cls = RX0 ∧ yX0_openPlace.cls ≠ "java/lang/invoke/MethodHandle" ∧ yX0_openPlace.cls ≠ "java/lang/invoke/VarHandle" ∧ (parseMethodDescriptor yX0_openPlace.desc).map (fun d => d.parameters.length) = some 1 := by decide +kernel
theorem gX0_64 : GoodIn ltg (wsV RX0 64 RX0 yX0_write (ww yX0_write cX0_write 4 none)) := gd_V gd_i wcX0_write (by decide +kernel)
theorem hd_X0_write : yX0_write.cls = RX0 ∧ yX0_write.cls ≠ "java/lang/invoke/MethodHandle" ∧ yX0_write.cls ≠ "java/lang/invoke/VarHandle" ∧ (parseMethodDescriptor yX0_write.desc).map (fun d => d.parameters.length) = some 3 := by decide +kernel
theorem gX0_68 : GoodIn ltg (wsV RX0 68 RX0 yX0_closePlace (ww yX0_closePlace cX0_closePlace 3 none)) := gd_V gd_i wcX0_closePlace (by decide +kernel)
theorem hd_X0_closePlace : yX0_closePlace.cls = RX0 ∧ yX0_closePlace.cls ≠ "java/lang/invoke/MethodHandle" ∧ yX0_closePlace.cls ≠ "java/lang/invoke/VarHandle" ∧ (parseMethodDescriptor yX0_closePlace.desc).map (fun d => d.parameters.length) = some 1 := by decide +kernel
theorem gX0_72 : GoodIn ltg (wsV RX0 72 RX0 yX0_coversMeant (ww yX0_coversMeant cX0_coversMeant 3 (some .boolean))) := gd_V gd_i wcX0_coversMeant (by decide +kernel)
theorem hd_X0_coversMeant : yX0_coversMeant.cls = RX0 ∧ yX0_coversMeant.cls ≠ "java/lang/invoke/MethodHandle" ∧ yX0_coversMeant.cls ≠ "java/lang/invoke/VarHandle" ∧ (parseMethodDescriptor yX0_coversMeant.desc).map (fun d => d.parameters.length) = some 1 := by decide +kernel
theorem gX0_75 : GoodIn ltg (wsV RX0 75 RX0 yX0_isLength (ww yX0_isLength cX0_isLength 3 (some .boolean))) := gd_V gd_i wcX0_isLength (by decide +kernel)
theorem hd_X0_isLength : yX0_isLength.cls = RX0 ∧ yX0_isLength.cls ≠ "java/lang/invoke/MethodHandle" ∧ yX0_isLength.cls ≠ "java/lang/invoke/VarHandle" ∧ (parseMethodDescriptor yX0_isLength.desc).map (fun d => d.parameters.length) = some 1 := by decide +kernel
theorem gX0_80 : GoodIn ltg (wsS RX0 80 yX0_bitsOfWhole (ww yX0_bitsOfWhole cX0_bitsOfWhole 2 (some .int))) := gd_S gd_i wcX0_bitsOfWhole (by decide +kernel)
theorem hd_X0_bitsOfWhole : yX0_bitsOfWhole.cls = RX0 ∧ yX0_bitsOfWhole.cls ≠ "java/lang/invoke/MethodHandle" ∧ yX0_bitsOfWhole.cls ≠ "java/lang/invoke/VarHandle" ∧ (parseMethodDescriptor yX0_bitsOfWhole.desc).map (fun d => d.parameters.length) = some 2 := by decide +kernel
theorem gX0_84 : GoodIn ltg (wsS RX0 84 yX0_upperMask (ww yX0_upperMask cX0_upperMask 1 (some .long))) := gd_S gd_i wcX0_upperMask (by decide +kernel)
theorem hd_X0_upperMask : yX0_upperMask.cls = RX0 ∧ yX0_upperMask.cls ≠ "java/lang/invoke/MethodHandle" ∧ yX0_upperMask.cls ≠ "java/lang/invoke/VarHandle" ∧ (parseMethodDescriptor yX0_upperMask.desc).map (fun d => d.parameters.length) = some 1 := by decide +kernel
theorem gX0_90 : GoodIn ltg (wsS RX0 90 yX0_lowerMask (ww yX0_lowerMask cX0_lowerMask 1 (some .long))) := gd_S gd_i wcX0_lowerMask (by decide +kernel)
theorem hd_X0_lowerMask : yX0_lowerMask.cls = RX0 ∧ yX0_lowerMask.cls ≠ "java/lang/invoke/MethodHandle" ∧ yX0_lowerMask.cls ≠ "java/lang/invoke/VarHandle" ∧ (parseMethodDescriptor yX0_lowerMask.desc).map (fun d => d.parameters.length) = some 1 := by decide +kernel
theorem gX0_93 : GoodIn ltg (wsS RX0 93 yX0_firstBits (ww yX0_firstBits cX0_firstBits 1 (some .long))) := gd_S gd_i wcX0_firstBits (by decide +kernel)
theorem hd_X0_firstBits : yX0_firstBits.cls = RX0 ∧ yX0_firstBits.cls ≠ "java/lang/invoke/MethodHandle" ∧ yX0_firstBits.cls ≠ "java/lang/invoke/VarHandle" ∧ (parseMethodDescriptor yX0_firstBits.desc).map (fun d => d.parameters.length) = some 1 := by decide +kernel
theorem gX0_96 : GoodIn ltg (wsV RX0 96 RX0 yX0_standsAhead (ww yX0_standsAhead cX0_standsAhead 3 (some .boolean))) := gd_V gd_i wcX0_standsAhead (by decide +kernel)
theorem hd_X0_standsAhead : yX0_standsAhead.cls = RX0 ∧ yX0_standsAhead.cls ≠ "java/lang/invoke/MethodHandle" ∧ yX0_standsAhead.cls ≠ "java/lang/invoke/VarHandle" ∧ (parseMethodDescriptor yX0_standsAhead.desc).map (fun d => d.parameters.length) = some 2 := by decide +kernel
theorem gX0_99 : GoodIn ltg (wsS RX0 99 yX0_isBelow (ww yX0_isBelow cX0_isBelow 4 (some .boolean))) := gd_S gd_i wcX0_isBelow (by decide +kernel)
theorem hd_X0_isBelow : yX0_isBelow.cls = RX0 ∧ yX0_isBelow.cls ≠ "java/lang/invoke/MethodHandle" ∧ yX0_isBelow.cls ≠ "java/lang/invoke/VarHandle" ∧ (parseMethodDescriptor yX0_isBelow.desc).map (fun d => d.parameters.length) = some 2 := by decide +kernel
theorem gX0_105 : GoodIn ltg (wsV RX0 105 RX0 yX0_copyPlace (ww yX0_copyPlace cX0_copyPlace 3 none)) := gd_V gd_i wcX0_copyPlace (by decide +kernel)
theorem hd_X0_copyPlace : yX0_copyPlace.cls = RX0 ∧ yX0_copyPlace.cls ≠ "java/lang/invoke/MethodHandle" ∧ yX0_copyPlace.cls ≠ "java/lang/invoke/VarHandle" ∧ (parseMethodDescriptor yX0_copyPlace.desc).map (fun d => d.parameters.length) = some 2 := by decide +kernel
theorem gX1_39 : GoodIn ltg (wsV RX1 39 RX1 yX1_isLength (ww yX1_isLength cX1_isLength 2 (some .boolean))) := gd_V gd_i wcX1_isLength (by decide +kernel)
theorem hd_X1_isLength : yX1_isLength.cls = RX1 ∧ yX1_isLength.cls ≠ "java/lang/invoke/MethodHandle" ∧ yX1_isLength.cls ≠ "java/lang/invoke/VarHandle" ∧ (parseMethodDescriptor yX1_isLength.desc).map (fun d => d.parameters.length) = some 1 := by decide +kernel
theorem gX1_43 : GoodIn ltg (wsS RX1 43 yX1_bit (ww yX1_bit cX1_bit 6 (some .int))) := gd_S gd_i wcX1_bit (by decide +kernel)
theorem hd_X1_bit : yX1_bit.cls = RX1 ∧ yX1_bit.cls ≠ "java/lang/invoke/MethodHandle" ∧ yX1_bit.cls ≠ "java/lang/invoke/VarHandle" ∧ (parseMethodDescriptor yX1_bit.desc).map (fun d => d.parameters.length) = some 4 := by decide +kernel
theorem gX1_50 : GoodIn ltg (wsV RX1 50 RX1 yX1_isPrefix (ww yX1_isPrefix cX1_isPrefix 5 (some .boolean))) := gd_V gd_i wcX1_isPrefix (by decide +kernel)
theorem hd_X1_isPrefix : yX1_isPrefix.cls = RX1 ∧ yX1_isPrefix.cls ≠ "java/lang/invoke/MethodHandle" ∧ yX1_isPrefix.cls ≠ "java/lang/invoke/VarHandle" ∧ (parseMethodDescriptor yX1_isPrefix.desc).map (fun d => d.parameters.length) = some 1 := by decide +kernel
theorem gX1_53 : GoodIn ltg (wsV RX1 53 RX1 yX1_find (ww yX1_find cX1_find 3 (some .int))) := gd_V gd_i wcX1_find (by decide +kernel)
theorem hd_X1_find : yX1_find.cls = RX1 ∧ yX1_find.cls ≠ "java/lang/invoke/MethodHandle" ∧ yX1_find.cls ≠ "java/lang/invoke/VarHandle" ∧ (parseMethodDescriptor yX1_find.desc).map (fun d => d.parameters.length) = some 1 := by decide +kernel
theorem gX1_58 : GoodIn ltg (wsV RX1 58 RX1 yX1_covers (ww yX1_covers cX1_covers 4 (some .boolean))) := gd_V gd_i wcX1_covers (by decide +kernel)
theorem hd_X1_covers : yX1_covers.cls = RX1 ∧ yX1_covers.cls ≠ "java/lang/invoke/MethodHandle" ∧ yX1_covers.cls ≠ "java/lang/invoke/VarHandle" ∧ (parseMethodDescriptor yX1_covers.desc).map (fun d => d.parameters.length) = some 1 := by decide +kernel
theorem gX1_63 : GoodIn ltg (wsS RX1 63 yX1_compare (ww yX1_compare cX1_compare 8 (some .int))) := gd_S gd_i wcX1_compare (by decide +kernel)
theorem hd_X1_compare : yX1_compare.cls = RX1 ∧ yX1_compare.cls ≠ "java/lang/invoke/MethodHandle" ∧ yX1_compare.cls ≠ "java/lang/invoke/VarHandle" ∧ (parseMethodDescriptor yX1_compare.desc).map (fun d => d.parameters.length) = some 2 := by decide +kernel
theorem gX1_67 : GoodIn ltg (wsV RX1 67 RX1 yX1_isAhead (ww yX1_isAhead cX1_isAhead 10 (some .boolean))) := gd_V gd_i wcX1_isAhead (by decide +kernel)
theorem hd_X1_isAhead : yX1_isAhead.cls = RX1 ∧ yX1_isAhead.cls ≠ "java/lang/invoke/MethodHandle" ∧ yX1_isAhead.cls ≠ "java/lang/invoke/VarHandle" ∧ (parseMethodDescriptor yX1_isAhead.desc).map (fun d => d.parameters.length) = some 5 := by decide +kernel
theorem gX1_71 : GoodIn ltg (wsV RX1 71 RX1 yX1_countAhead (ww yX1_countAhead cX1_countAhead 9 (some .int))) := gd_V gd_i wcX1_countAhead (by decide +kernel)
theorem hd_X1_countAhead : yX1_countAhead.cls = RX1 ∧ yX1_countAhead.cls ≠ "java/lang/invoke/MethodHandle" ∧ yX1_countAhead.cls ≠ "java/lang/invoke/VarHandle" ∧ (parseMethodDescriptor yX1_countAhead.desc).map (fun d => d.parameters.length) = some 4 := by decide +kernel
theorem gL_15 : GoodIn ltg (wsV RL 15 RX0 yX0_address (ww yX0_address cX0_address 6 (some .boolean))) := gd_V gd_i wcX0_address (by decide +kernel)
theorem hd_X0_address : yX0_address.cls = RX0 ∧ yX0_address.cls ≠ "java/lang/invoke/MethodHandle" ∧ yX0_address.cls ≠ "java/lang/invoke/VarHandle" ∧ (parseMethodDescriptor yX0_address.desc).map (fun d => d.parameters.length) = some 3 := by decide +kernel
theorem gL_19 : GoodIn ltg (wsV RL 19 RX1 yX1_address (ww yX1_address cX1_address 7 (some .boolean))) := gd_V gd_i wcX1_address (by decide +kernel)
theorem hd_X1_address : yX1_address.cls = RX1 ∧ yX1_address.cls ≠ "java/lang/invoke/MethodHandle" ∧ yX1_address.cls ≠ "java/lang/invoke/VarHandle" ∧ (parseMethodDescriptor yX1_address.desc).map (fun d => d.parameters.length) = some 3 := by decide +kernel
theorem gL_20 : GoodIn ltg (wsV RL 20 RX0 yX0_put (ww yX0_put cX0_put 4 (some .int))) := gd_V gd_i wcX0_put (by decide +kernel)
theorem hd_X0_put : yX0_put.cls = RX0 ∧ yX0_put.cls ≠ "java/lang/invoke/MethodHandle" ∧ yX0_put.cls ≠ "java/lang/invoke/VarHandle" ∧ (parseMethodDescriptor yX0_put.desc).map (fun d => d.parameters.length) = some 2 := by decide +kernel
theorem gL_24 : GoodIn ltg (wsV RL 24 RX1 yX1_put (ww yX1_put cX1_put 4 (some .int))) := gd_V gd_i wcX1_put (by decide +kernel)
theorem hd_X1_put : yX1_put.cls = RX1 ∧ yX1_put.cls ≠ "java/lang/invoke/MethodHandle" ∧ yX1_put.cls ≠ "java/lang/invoke/VarHandle" ∧ (parseMethodDescriptor yX1_put.desc).map (fun d => d.parameters.length) = some 2 := by decide +kernel
theorem gL_25 : GoodIn ltg (wsV RL 25 RX0 yX0_remove (ww yX0_remove cX0_remove 3 (some .int))) := gd_V gd_i wcX0_remove (by decide +kernel)
theorem hd_X0_remove : yX0_remove.cls = RX0 ∧ yX0_remove.cls ≠ "java/lang/invoke/MethodHandle" ∧ yX0_remove.cls ≠ "java/lang/invoke/VarHandle" ∧ (parseMethodDescriptor yX0_remove.desc).map (fun d => d.parameters.length) = some 1 := by decide +kernel
theorem gL_29 : GoodIn ltg (wsV RL 29 RX1 yX1_remove (ww yX1_remove cX1_remove 4 (some .int))) := gd_V gd_i wcX1_remove (by decide +kernel)
theorem hd_X1_remove : yX1_remove.cls = RX1 ∧ yX1_remove.cls ≠ "java/lang/invoke/MethodHandle" ∧ yX1_remove.cls ≠ "java/lang/invoke/VarHandle" ∧ (parseMethodDescriptor yX1_remove.desc).map (fun d => d.parameters.length) = some 1 := by decide +kernel
theorem gL_30 : GoodIn ltg (wsV RL 30 RX0 yX0_number (ww yX0_number cX0_number 3 (some .int))) := gd_V gd_i wcX0_number (by decide +kernel)
theorem hd_X0_number : yX0_number.cls = RX0 ∧ yX0_number.cls ≠ "java/lang/invoke/MethodHandle" ∧ yX0_number.cls ≠ "java/lang/invoke/VarHandle" ∧ (parseMethodDescriptor yX0_number.desc).map (fun d => d.parameters.length) = some 1 := by decide +kernel
theorem gL_33 : GoodIn ltg (wsV RL 33 RX1 yX1_number (ww yX1_number cX1_number 3 (some .int))) := gd_V gd_i wcX1_number (by decide +kernel)
theorem hd_X1_number : yX1_number.cls = RX1 ∧ yX1_number.cls ≠ "java/lang/invoke/MethodHandle" ∧ yX1_number.cls ≠ "java/lang/invoke/VarHandle" ∧ (parseMethodDescriptor yX1_number.desc).map (fun d => d.parameters.length) = some 1 := by decide +kernel
theorem gL_34 : GoodIn ltg (wsV RL 34 RX0 yX0_longest (ww yX0_longest cX0_longest 3 (some .int))) := gd_V gd_i wcX0_longest (by decide +kernel)
theorem hd_X0_longest : yX0_longest.cls = RX0 ∧ yX0_longest.cls ≠ "java/lang/invoke/MethodHandle" ∧ yX0_longest.cls ≠ "java/lang/invoke/VarHandle" ∧ (parseMethodDescriptor yX0_longest.desc).map (fun d => d.parameters.length) = some 0 := by decide +kernel
theorem gL_38 : GoodIn ltg (wsV RL 38 RX1 yX1_longest (ww yX1_longest cX1_longest 3 (some .int))) := gd_V gd_i wcX1_longest (by decide +kernel)
theorem hd_X1_longest : yX1_longest.cls = RX1 ∧ yX1_longest.cls ≠ "java/lang/invoke/MethodHandle" ∧ yX1_longest.cls ≠ "java/lang/invoke/VarHandle" ∧ (parseMethodDescriptor yX1_longest.desc).map (fun d => d.parameters.length) = some 0 := by decide +kernel
theorem gL_39 : GoodIn ltg (wsV RL 39 RX0 yX0_covering (ww yX0_covering cX0_covering 3 (some .int))) := gd_V gd_i wcX0_covering (by decide +kernel)
theorem hd_X0_covering : yX0_covering.cls = RX0 ∧ yX0_covering.cls ≠ "java/lang/invoke/MethodHandle" ∧ yX0_covering.cls ≠ "java/lang/invoke/VarHandle" ∧ (parseMethodDescriptor yX0_covering.desc).map (fun d => d.parameters.length) = some 0 := by decide +kernel
theorem gL_42 : GoodIn ltg (wsV RL 42 RX1 yX1_covering (ww yX1_covering cX1_covering 3 (some .int))) := gd_V gd_i wcX1_covering (by decide +kernel)
theorem hd_X1_covering : yX1_covering.cls = RX1 ∧ yX1_covering.cls ≠ "java/lang/invoke/MethodHandle" ∧ yX1_covering.cls ≠ "java/lang/invoke/VarHandle" ∧ (parseMethodDescriptor yX1_covering.desc).map (fun d => d.parameters.length) = some 0 := by decide +kernel
theorem gL_43 : GoodIn ltg (wsV RL 43 RX0 yX0_ahead (ww yX0_ahead cX0_ahead 2 (some .int))) := gd_V gd_i wcX0_ahead (by decide +kernel)
theorem hd_X0_ahead : yX0_ahead.cls = RX0 ∧ yX0_ahead.cls ≠ "java/lang/invoke/MethodHandle" ∧ yX0_ahead.cls ≠ "java/lang/invoke/VarHandle" ∧ (parseMethodDescriptor yX0_ahead.desc).map (fun d => d.parameters.length) = some 1 := by decide +kernel
theorem gL_46 : GoodIn ltg (wsV RL 46 RX1 yX1_ahead (ww yX1_ahead cX1_ahead 2 (some .int))) := gd_V gd_i wcX1_ahead (by decide +kernel)
theorem hd_X1_ahead : yX1_ahead.cls = RX1 ∧ yX1_ahead.cls ≠ "java/lang/invoke/MethodHandle" ∧ yX1_ahead.cls ≠ "java/lang/invoke/VarHandle" ∧ (parseMethodDescriptor yX1_ahead.desc).map (fun d => d.parameters.length) = some 1 := by decide +kernel
theorem gL_47 : GoodIn ltg (wsV RL 47 RX0 yX0_at (ww yX0_at cX0_at 2 (some .int))) := gd_V gd_i wcX0_at (by decide +kernel)
theorem hd_X0_at : yX0_at.cls = RX0 ∧ yX0_at.cls ≠ "java/lang/invoke/MethodHandle" ∧ yX0_at.cls ≠ "java/lang/invoke/VarHandle" ∧ (parseMethodDescriptor yX0_at.desc).map (fun d => d.parameters.length) = some 1 := by decide +kernel
theorem gL_50 : GoodIn ltg (wsV RL 50 RX1 yX1_at (ww yX1_at cX1_at 3 (some .int))) := gd_V gd_i wcX1_at (by decide +kernel)
theorem hd_X1_at : yX1_at.cls = RX1 ∧ yX1_at.cls ≠ "java/lang/invoke/MethodHandle" ∧ yX1_at.cls ≠ "java/lang/invoke/VarHandle" ∧ (parseMethodDescriptor yX1_at.desc).map (fun d => d.parameters.length) = some 1 := by decide +kernel
theorem gL_51 : GoodIn ltg (wsV RL 51 RX0 yX0_size (ww yX0_size cX0_size 1 (some .int))) := gd_V gd_i wcX0_size (by decide +kernel)
theorem hd_X0_size : yX0_size.cls = RX0 ∧ yX0_size.cls ≠ "java/lang/invoke/MethodHandle" ∧ yX0_size.cls ≠ "java/lang/invoke/VarHandle" ∧ (parseMethodDescriptor yX0_size.desc).map (fun d => d.parameters.length) = some 0 := by decide +kernel
theorem gL_54 : GoodIn ltg (wsV RL 54 RX1 yX1_size (ww yX1_size cX1_size 1 (some .int))) := gd_V gd_i wcX1_size (by decide +kernel)
theorem hd_X1_size : yX1_size.cls = RX1 ∧ yX1_size.cls ≠ "java/lang/invoke/MethodHandle" ∧ yX1_size.cls ≠ "java/lang/invoke/VarHandle" ∧ (parseMethodDescriptor yX1_size.desc).map (fun d => d.parameters.length) = some 0 := by decide +kernel
theorem gL_55 : GoodIn ltg (wsV RL 55 RX0 yX0_told (ww yX0_told cX0_told 2 (some .long))) := gd_V gd_i wcX0_told (by decide +kernel)
theorem hd_X0_told : yX0_told.cls = RX0 ∧ yX0_told.cls ≠ "java/lang/invoke/MethodHandle" ∧ yX0_told.cls ≠ "java/lang/invoke/VarHandle" ∧ (parseMethodDescriptor yX0_told.desc).map (fun d => d.parameters.length) = some 1 := by decide +kernel
theorem gL_59 : GoodIn ltg (wsV RL 59 RX1 yX1_told (ww yX1_told cX1_told 2 (some .long))) := gd_V gd_i wcX1_told (by decide +kernel)
theorem hd_X1_told : yX1_told.cls = RX1 ∧ yX1_told.cls ≠ "java/lang/invoke/MethodHandle" ∧ yX1_told.cls ≠ "java/lang/invoke/VarHandle" ∧ (parseMethodDescriptor yX1_told.desc).map (fun d => d.parameters.length) = some 1 := by decide +kernel
end
section
/-! THE CLASS: its cells, and its methods that only read -/
abbrev pbw (x a1 a2 a3 a4 a5 : Nat) (k1 k2 k3 k4 k5 : ClassId) (f : Nat → Int32) (u w : Nat → Int64) (g n : Nat → Int32) (k : Nat) (mf : Int32) (mu ml : Int64) : va_W := [(x, .inr (0, [.ref a1, .ref a2, .ref a3, .ref a4, .ref a5, .int (nI k), .int mf, .long mu, .long ml])), (a1, .inl (k1, 1000, .inl f)), (a2, .inl (k2, 1000, .inr (.inl u))), (a3, .inl (k3, 1000, .inr (.inl w))), (a4, .inl (k4, 1000, .inl g)), (a5, .inl (k5, 1000, .inl n))]
abbrev pbt (k1 k2 k3 k4 k5 : ClassId) : List (ClassId × FieldType) := [(k1, .int), (k2, .long), (k3, .long), (k4, .int), (k5, .int)]
abbrev mdw (x a1 a2 a3 a4 a5 : Nat) (k1 k2 k3 k4 k5 : ClassId) (f : Nat → Int32) (u w : Nat → Int64) (g n : Nat → Int32) (k : Nat) (mf : Int32) (mu ml : Int64) : va_W := [(x, .inr (1, [.ref a1, .ref a2, .ref a3, .ref a4, .ref a5, .int (nI k), .int mf, .long mu, .long ml])), (a1, .inl (k1, 1000, .inl f)), (a2, .inl (k2, 1000, .inl g)), (a3, .inl (k3, 1000, .inl n)), (a4, .inl (k4, 1000, .inr (.inl u))), (a5, .inl (k5, 1000, .inr (.inl w)))]
abbrev mdt (k1 k2 k3 k4 k5 : ClassId) : List (ClassId × FieldType) := [(k1, .int), (k2, .int), (k3, .int), (k4, .long), (k5, .long)]
set_option maxHeartbeats 4000000 in
set_option maxRecDepth 100000 in
theorem c_X0_isAddress (l : Launch) (dC : Nat → ClassId) (dI : Nat → Nat → Nat)  {tys : List (ClassId × FieldType)} (fa : Int32) (up lo : Int64) (Hh : Heap)  : Met l yX0_isAddress (ww yX0_isAddress cX0_isAddress 5 (some .boolean)) ({ frames := 0, cells := 0, slots := 0, locals := 0 } : Room) (va_Pc [.int fa, .long up, .long lo] (fun U => U.heap = Hh ∧ va_K (dC, dI) classes tys U)) (va_Qi (fun r (_ : Unit) => r = (b2i (kb_addr fa up lo))) (fun _ t => t.heap = Hh) (fun _ => False)) 0 0 (fun _ => False) := by
  refine Met.ofW (cc := cX0_isAddress) (maxL := 5) (ret := (some .boolean)) (by decide) rfl ?_
  intro p e s m args below meth c s₁ B hml hv
  obtain ⟨rfl, hHh, hK⟩ := hv
  subst hHh
  have hx := B.exec
  have hb := B.bytes
  have hr := B.returns
  have hts := atoms_spec (ws := ww yX0_isAddress cX0_isAddress 5 (some .boolean)) B.pre
  have htl : ∀ w ∈ ltg, w.before [.int fa, .long up, .long lo].toArray s = true := fun w h => hts w (List.mem_cons_of_mem _ h)
  have hown : s.vm.findClass RX0 = some m.cls := findClass_of_methodNamed B.named
  have hlocks := B.notSynchronized
  have hl := lv_entry ([.int fa, .long up, .long lo]) (n := 5) (Nat.le_of_ble_eq_true rfl)
  rw [lg_entry_eq]
  generalize (lg_sl ([.int fa, .long up, .long lo]) ++ List.replicate (5 - (lg_sl ([.int fa, .long up, .long lo])).length) Slot.unset).toArray = ls at hl ⊢
  have hl : lv_has ls 5 [(0, .int fa), (1, .long up), (3, .long lo)] := hl
  refine lv_iload_n hx hb dX0_isAddress_0 rfl (lv_at hl 0 rfl) ?_
  refine lv_iconst (v := 4) hx hb dX0_isAddress_1 (by decide) ?_
  refine lv_icmp_ne (tgt := 31) hx hb dX0_isAddress_2 (by decide) (fun c_1 => ?_) (fun c_1 => ?_)
  · refine lv_iload_n hx hb dX0_isAddress_31 rfl (lv_at hl 0 rfl) ?_
    refine lv_bipush (v := 6) hx hb dX0_isAddress_32 (by decide) ?_
    refine lv_icmp_ne (tgt := 41) hx hb dX0_isAddress_34 (by decide) (fun c_2 => ?_) (fun c_2 => ?_)
    · refine lv_iconst (v := 0) hx hb dX0_isAddress_41 (by decide) ?_
      exact ru_zret hx hb hr hlocks (by simp [kb_addr, b2i, c_1, c_2]) rfl dX0_isAddress_42
    · refine lv_iconst (v := 1) hx hb dX0_isAddress_37 (by decide) ?_
      refine lv_goto (tgt := 42) hx hb dX0_isAddress_38 (by decide) ?_
      exact ru_zret hx hb hr hlocks (by simp [kb_addr, b2i, c_1, c_2]) rfl dX0_isAddress_42
  · refine lv_lload_n hx hb dX0_isAddress_5 rfl (lv_at hl 1 rfl) ?_
    refine lv_lconst (v := 0) hx hb dX0_isAddress_6 (by decide) ?_
    refine W.lcmp hx hb dX0_isAddress_7 ?_
    refine lv_if_ne (tgt := 29) hx hb dX0_isAddress_8 (by decide) (fun c_3 => ?_) (fun c_3 => ?_)
    · rw [lg_cmp_eq] at c_3
      refine lv_iconst (v := 0) hx hb dX0_isAddress_29 (by decide) ?_
      exact ru_zret hx hb hr hlocks (by simp [kb_addr, b2i, c_1, c_3]) rfl dX0_isAddress_30
    · rw [lg_cmp_eq] at c_3
      refine lv_lload_n hx hb dX0_isAddress_11 rfl (lv_at hl 2 rfl) ?_
      refine lv_lconst (v := 0) hx hb dX0_isAddress_12 (by decide) ?_
      refine W.lcmp hx hb dX0_isAddress_13 ?_
      refine lv_if_lt (tgt := 29) hx hb dX0_isAddress_14 (by decide) (fun c_4 => ?_) (fun c_4 => ?_)
      · rw [lg_cmp_lt] at c_4
        refine lv_iconst (v := 0) hx hb dX0_isAddress_29 (by decide) ?_
        exact ru_zret hx hb hr hlocks (by simp [kb_addr, b2i, c_1, c_3, c_4]) rfl dX0_isAddress_30
      · rw [lg_cmp_lt] at c_4
        refine lv_lload_n hx hb dX0_isAddress_17 rfl (lv_at hl 2 rfl) ?_
        refine lv_ldc2 (v := 4294967296) hx hb hown (htl _ kcX0_78) dX0_isAddress_18 ?_
        refine W.lcmp hx hb dX0_isAddress_21 ?_
        refine lv_if_ge (tgt := 29) hx hb dX0_isAddress_22 (by decide) (fun c_5 => ?_) (fun c_5 => ?_)
        · rw [lg_cmp_ge] at c_5
          refine lv_iconst (v := 0) hx hb dX0_isAddress_29 (by decide) ?_
          exact ru_zret hx hb hr hlocks (by simp [kb_addr, b2i, c_1, c_3, c_4, c_5]) rfl dX0_isAddress_30
        · rw [lg_cmp_ge] at c_5
          refine lv_iconst (v := 1) hx hb dX0_isAddress_25 (by decide) ?_
          refine lv_goto (tgt := 30) hx hb dX0_isAddress_26 (by decide) ?_
          exact ru_zret hx hb hr hlocks (by simp [kb_addr, b2i, c_1, c_3, c_4, c_5]) rfl dX0_isAddress_30
set_option maxHeartbeats 4000000 in
set_option maxRecDepth 100000 in
theorem c_X0_bitsOfWhole (l : Launch) (dC : Nat → ClassId) (dI : Nat → Nat → Nat)  {tys : List (ClassId × FieldType)} (fa le : Int32) (Hh : Heap)  : Met l yX0_bitsOfWhole (ww yX0_bitsOfWhole cX0_bitsOfWhole 2 (some .int)) ({ frames := 0, cells := 0, slots := 0, locals := 0 } : Room) (va_Pc [.int fa, .int le] (fun U => U.heap = Hh ∧ va_K (dC, dI) classes tys U)) (va_Qi (fun r (_ : Unit) => r = (kb_bits fa le)) (fun _ t => t.heap = Hh) (fun _ => False)) 0 0 (fun _ => False) := by
  refine Met.ofW (cc := cX0_bitsOfWhole) (maxL := 2) (ret := (some .int)) (by decide) rfl ?_
  intro p e s m args below meth c s₁ B hml hv
  obtain ⟨rfl, hHh, hK⟩ := hv
  subst hHh
  have hx := B.exec
  have hb := B.bytes
  have hr := B.returns
  have hts := atoms_spec (ws := ww yX0_bitsOfWhole cX0_bitsOfWhole 2 (some .int)) B.pre
  have htl : ∀ w ∈ ltg, w.before [.int fa, .int le].toArray s = true := fun w h => hts w (List.mem_cons_of_mem _ h)
  have hown : s.vm.findClass RX0 = some m.cls := findClass_of_methodNamed B.named
  have hlocks := B.notSynchronized
  have hl := lv_entry ([.int fa, .int le]) (n := 2) (Nat.le_of_ble_eq_true rfl)
  rw [lg_entry_eq]
  generalize (lg_sl ([.int fa, .int le]) ++ List.replicate (2 - (lg_sl ([.int fa, .int le])).length) Slot.unset).toArray = ls at hl ⊢
  have hl : lv_has ls 2 [(0, .int fa), (1, .int le)] := hl
  refine lv_iload_n hx hb dX0_bitsOfWhole_0 rfl (lv_at hl 0 rfl) ?_
  refine lv_iconst (v := 4) hx hb dX0_bitsOfWhole_1 (by decide) ?_
  refine lv_icmp_ne (tgt := 12) hx hb dX0_bitsOfWhole_2 (by decide) (fun c_1 => ?_) (fun c_1 => ?_)
  · refine lv_iload_n hx hb dX0_bitsOfWhole_12 rfl (lv_at hl 1 rfl) ?_
    exact ru_iret hx hb hr hlocks (by simp [kb_bits, c_1]) dX0_bitsOfWhole_13
  · refine lv_bipush (v := 96) hx hb dX0_bitsOfWhole_5 (by decide) ?_
    refine lv_iload_n hx hb dX0_bitsOfWhole_7 rfl (lv_at hl 1 rfl) ?_
    refine lv_iadd hx hb dX0_bitsOfWhole_8 ?_
    refine lv_goto (tgt := 13) hx hb dX0_bitsOfWhole_9 (by decide) ?_
    exact ru_iret hx hb hr hlocks (by simp [kb_bits, c_1]) dX0_bitsOfWhole_13
set_option maxHeartbeats 4000000 in
set_option maxRecDepth 100000 in
theorem c_X0_firstBits (l : Launch) (dC : Nat → ClassId) (dI : Nat → Nat → Nat)  {tys : List (ClassId × FieldType)} (b : Int32) (Hh : Heap)  : Met l yX0_firstBits (ww yX0_firstBits cX0_firstBits 1 (some .long)) ({ frames := 0, cells := 0, slots := 0, locals := 0 } : Room) (va_Pc [.int b] (fun U => U.heap = Hh ∧ va_K (dC, dI) classes tys U)) (va_Ql (fun r (_ : Unit) => r = (kb_first b)) (fun _ t => t.heap = Hh) (fun _ => False)) 0 0 (fun _ => False) := by
  refine Met.ofW (cc := cX0_firstBits) (maxL := 1) (ret := (some .long)) (by decide) rfl ?_
  intro p e s m args below meth c s₁ B hml hv
  obtain ⟨rfl, hHh, hK⟩ := hv
  subst hHh
  have hx := B.exec
  have hb := B.bytes
  have hr := B.returns
  have hts := atoms_spec (ws := ww yX0_firstBits cX0_firstBits 1 (some .long)) B.pre
  have htl : ∀ w ∈ ltg, w.before [.int b].toArray s = true := fun w h => hts w (List.mem_cons_of_mem _ h)
  have hown : s.vm.findClass RX0 = some m.cls := findClass_of_methodNamed B.named
  have hlocks := B.notSynchronized
  have hl := lv_entry ([.int b]) (n := 1) (Nat.le_of_ble_eq_true rfl)
  rw [lg_entry_eq]
  generalize (lg_sl ([.int b]) ++ List.replicate (1 - (lg_sl ([.int b])).length) Slot.unset).toArray = ls at hl ⊢
  have hl : lv_has ls 1 [(0, .int b)] := hl
  refine lv_iload_n hx hb dX0_firstBits_0 rfl (lv_at hl 0 rfl) ?_
  refine lv_if_gt (tgt := 6) hx hb dX0_firstBits_1 (by decide) (fun c_1 => ?_) (fun c_1 => ?_)
  · refine lv_iload_n hx hb dX0_firstBits_6 rfl (lv_at hl 0 rfl) ?_
    refine lv_bipush (v := 64) hx hb dX0_firstBits_7 (by decide) ?_
    refine lv_icmp_lt (tgt := 16) hx hb dX0_firstBits_9 (by decide) (fun c_2 => ?_) (fun c_2 => ?_)
    · refine lv_ldc2 (v := (-1)) hx hb hown (htl _ kcX0_88) dX0_firstBits_16 ?_
      refine lv_bipush (v := 64) hx hb dX0_firstBits_19 (by decide) ?_
      refine lv_iload_n hx hb dX0_firstBits_21 rfl (lv_at hl 0 rfl) ?_
      refine lv_isub hx hb dX0_firstBits_22 ?_
      refine lv_lshl hx hb dX0_firstBits_23 rfl ?_
      exact ru_lret hx hb hr hlocks (by simp [kb_first, c_1, c_2]) dX0_firstBits_24
    · refine lv_ldc2 (v := (-1)) hx hb hown (htl _ kcX0_88) dX0_firstBits_12 ?_
      exact ru_lret hx hb hr hlocks (by simp [kb_first, c_1, c_2]) dX0_firstBits_15
  · refine lv_lconst (v := 0) hx hb dX0_firstBits_4 (by decide) ?_
    exact ru_lret hx hb hr hlocks (by simp [kb_first, c_1]) dX0_firstBits_5
set_option maxHeartbeats 4000000 in
set_option maxRecDepth 100000 in
theorem c_X0_upperMask (l : Launch) (dC : Nat → ClassId) (dI : Nat → Nat → Nat)  {tys : List (ClassId × FieldType)} (b : Int32) (Hh : Heap)  : Met l yX0_upperMask (ww yX0_upperMask cX0_upperMask 1 (some .long)) ({ frames := 1, cells := 0, slots := 0, locals := 20 } : Room) (va_Pc [.int b] (fun U => U.heap = Hh ∧ va_K (dC, dI) classes tys U)) (va_Ql (fun r (_ : Unit) => r = (kb_first b)) (fun _ t => t.heap = Hh) (fun _ => False)) 0 0 (fun _ => False) := by
  refine Met.ofW (cc := cX0_upperMask) (maxL := 1) (ret := (some .long)) (by decide) rfl ?_
  intro p e s m args below meth c s₁ B hml hv
  obtain ⟨rfl, hHh, hK⟩ := hv
  subst hHh
  have hx := B.exec
  have hb := B.bytes
  have hr := B.returns
  have hts := atoms_spec (ws := ww yX0_upperMask cX0_upperMask 1 (some .long)) B.pre
  have htl : ∀ w ∈ ltg, w.before [.int b].toArray s = true := fun w h => hts w (List.mem_cons_of_mem _ h)
  have hown : s.vm.findClass RX0 = some m.cls := findClass_of_methodNamed B.named
  have hlocks := B.notSynchronized
  have hl := lv_entry ([.int b]) (n := 1) (Nat.le_of_ble_eq_true rfl)
  rw [lg_entry_eq]
  generalize (lg_sl ([.int b]) ++ List.replicate (1 - (lg_sl ([.int b])).length) Slot.unset).toArray = ls at hl ⊢
  have hl : lv_has ls 1 [(0, .int b)] := hl
  refine lv_iload_n hx hb dX0_upperMask_0 rfl (lv_at hl 0 rfl) ?_
  refine ru_calll (va_runS (As := [.int b]) (rest := []) ⟨hx, hb, hml, hown, htl⟩ (c_X0_firstBits l dC dI b _) (cwS 1 htl gX0_93 rfl rfl rfl hd_X0_firstBits ⟨Nat.le_of_ble_eq_true rfl, Nat.le_of_ble_eq_true rfl⟩) ⟨fb_ro, fun U hU hW => ⟨rfl, hU, va_K.moved hW.alike hK⟩⟩ rfl rfl hl.1 rfl (lv_room (Nat.le_of_ble_eq_true rfl)) dX0_upperMask_1 ⟨Nat.le_of_ble_eq_true rfl, Nat.le_of_ble_eq_true rfl⟩) ?_
  exact ru_lret hx hb hr hlocks (rfl) dX0_upperMask_4
set_option maxHeartbeats 4000000 in
set_option maxRecDepth 100000 in
theorem c_X0_lowerMask (l : Launch) (dC : Nat → ClassId) (dI : Nat → Nat → Nat)  {tys : List (ClassId × FieldType)} (b : Int32) (Hh : Heap)  : Met l yX0_lowerMask (ww yX0_lowerMask cX0_lowerMask 1 (some .long)) ({ frames := 1, cells := 0, slots := 0, locals := 20 } : Room) (va_Pc [.int b] (fun U => U.heap = Hh ∧ va_K (dC, dI) classes tys U)) (va_Ql (fun r (_ : Unit) => r = (kb_first (b - 64))) (fun _ t => t.heap = Hh) (fun _ => False)) 0 0 (fun _ => False) := by
  refine Met.ofW (cc := cX0_lowerMask) (maxL := 1) (ret := (some .long)) (by decide) rfl ?_
  intro p e s m args below meth c s₁ B hml hv
  obtain ⟨rfl, hHh, hK⟩ := hv
  subst hHh
  have hx := B.exec
  have hb := B.bytes
  have hr := B.returns
  have hts := atoms_spec (ws := ww yX0_lowerMask cX0_lowerMask 1 (some .long)) B.pre
  have htl : ∀ w ∈ ltg, w.before [.int b].toArray s = true := fun w h => hts w (List.mem_cons_of_mem _ h)
  have hown : s.vm.findClass RX0 = some m.cls := findClass_of_methodNamed B.named
  have hlocks := B.notSynchronized
  have hl := lv_entry ([.int b]) (n := 1) (Nat.le_of_ble_eq_true rfl)
  rw [lg_entry_eq]
  generalize (lg_sl ([.int b]) ++ List.replicate (1 - (lg_sl ([.int b])).length) Slot.unset).toArray = ls at hl ⊢
  have hl : lv_has ls 1 [(0, .int b)] := hl
  refine lv_iload_n hx hb dX0_lowerMask_0 rfl (lv_at hl 0 rfl) ?_
  refine lv_bipush (v := 64) hx hb dX0_lowerMask_1 (by decide) ?_
  refine lv_isub hx hb dX0_lowerMask_3 ?_
  refine ru_calll (va_runS (As := [.int (b - 64)]) (rest := []) ⟨hx, hb, hml, hown, htl⟩ (c_X0_firstBits l dC dI (b - 64) _) (cwS 1 htl gX0_93 rfl rfl rfl hd_X0_firstBits ⟨Nat.le_of_ble_eq_true rfl, Nat.le_of_ble_eq_true rfl⟩) ⟨fb_ro, fun U hU hW => ⟨rfl, hU, va_K.moved hW.alike hK⟩⟩ rfl rfl hl.1 rfl (lv_room (Nat.le_of_ble_eq_true rfl)) dX0_lowerMask_4 ⟨Nat.le_of_ble_eq_true rfl, Nat.le_of_ble_eq_true rfl⟩) ?_
  exact ru_lret hx hb hr hlocks (rfl) dX0_lowerMask_7
set_option maxHeartbeats 4000000 in
set_option maxRecDepth 100000 in
theorem c_X0_isBelow (l : Launch) (dC : Nat → ClassId) (dI : Nat → Nat → Nat)  {tys : List (ClassId × FieldType)} (y z : Int64) (Hh : Heap)  : Met l yX0_isBelow (ww yX0_isBelow cX0_isBelow 4 (some .boolean)) ({ frames := 0, cells := 0, slots := 0, locals := 0 } : Room) (va_Pc [.long y, .long z] (fun U => U.heap = Hh ∧ va_K (dC, dI) classes tys U)) (va_Qi (fun r (_ : Unit) => r = (b2i (kb_below y z))) (fun _ t => t.heap = Hh) (fun _ => False)) 0 0 (fun _ => False) := by
  refine Met.ofW (cc := cX0_isBelow) (maxL := 4) (ret := (some .boolean)) (by decide) rfl ?_
  intro p e s m args below meth c s₁ B hml hv
  obtain ⟨rfl, hHh, hK⟩ := hv
  subst hHh
  have hx := B.exec
  have hb := B.bytes
  have hr := B.returns
  have hts := atoms_spec (ws := ww yX0_isBelow cX0_isBelow 4 (some .boolean)) B.pre
  have htl : ∀ w ∈ ltg, w.before [.long y, .long z].toArray s = true := fun w h => hts w (List.mem_cons_of_mem _ h)
  have hown : s.vm.findClass RX0 = some m.cls := findClass_of_methodNamed B.named
  have hlocks := B.notSynchronized
  have hl := lv_entry ([.long y, .long z]) (n := 4) (Nat.le_of_ble_eq_true rfl)
  rw [lg_entry_eq]
  generalize (lg_sl ([.long y, .long z]) ++ List.replicate (4 - (lg_sl ([.long y, .long z])).length) Slot.unset).toArray = ls at hl ⊢
  have hl : lv_has ls 4 [(0, .long y), (2, .long z)] := hl
  refine lv_lload_n hx hb dX0_isBelow_0 rfl (lv_at hl 0 rfl) ?_
  refine lv_ldc2 (v := (-9223372036854775808)) hx hb hown (htl _ kcX0_103) dX0_isBelow_1 ?_
  refine lv_lxor hx hb dX0_isBelow_4 ?_
  refine lv_lload_n hx hb dX0_isBelow_5 rfl (lv_at hl 1 rfl) ?_
  refine lv_ldc2 (v := (-9223372036854775808)) hx hb hown (htl _ kcX0_103) dX0_isBelow_6 ?_
  refine lv_lxor hx hb dX0_isBelow_9 ?_
  refine W.lcmp hx hb dX0_isBelow_10 ?_
  refine lv_if_ge (tgt := 18) hx hb dX0_isBelow_11 (by decide) (fun c_1 => ?_) (fun c_1 => ?_)
  · rw [lg_cmp_ge] at c_1
    refine lv_iconst (v := 0) hx hb dX0_isBelow_18 (by decide) ?_
    exact ru_zret hx hb hr hlocks (by simp [kb_below, b2i, c_1]) rfl dX0_isBelow_19
  · rw [lg_cmp_ge] at c_1
    refine lv_iconst (v := 1) hx hb dX0_isBelow_14 (by decide) ?_
    refine lv_goto (tgt := 19) hx hb dX0_isBelow_15 (by decide) ?_
    exact ru_zret hx hb hr hlocks (by simp [kb_below, b2i, c_1]) rfl dX0_isBelow_19
end
section
set_option maxHeartbeats 4000000 in
set_option maxRecDepth 100000 in
theorem c_X0_isLength (l : Launch) (dC : Nat → ClassId) (dI : Nat → Nat → Nat) {x a1 a2 a3 a4 a5 : Nat} {k1 k2 k3 k4 k5 : ClassId} {f : Nat → Int32} {u w : Nat → Int64} {g n : Nat → Int32} {k : Nat} {mf : Int32} {mu ml : Int64} (le : Int32) (Hh : Heap)  (hP : va_P (dC, dI) classes (pbw x a1 a2 a3 a4 a5 k1 k2 k3 k4 k5 f u w g n k mf mu ml) Hh) : Met l yX0_isLength (ww yX0_isLength cX0_isLength 3 (some .boolean)) ({ frames := 0, cells := 0, slots := 0, locals := 0 } : Room) (va_Pc [.ref x, .int le] (fun U => U.heap = Hh ∧ va_K (dC, dI) classes (pbt k1 k2 k3 k4 k5) U)) (va_Qi (fun r (_ : Unit) => r = (b2i (kb_len mf le))) (fun _ t => t.heap = Hh) (fun _ => False)) 0 0 (fun _ => False) := by
  refine Met.ofW (cc := cX0_isLength) (maxL := 3) (ret := (some .boolean)) (by decide) rfl ?_
  intro p e s m args below meth c s₁ B hml hv
  obtain ⟨rfl, hHh, hK⟩ := hv
  subst hHh
  have hx := B.exec
  have hb := B.bytes
  have hr := B.returns
  have hts := atoms_spec (ws := ww yX0_isLength cX0_isLength 3 (some .boolean)) B.pre
  have htl : ∀ w ∈ ltg, w.before [.ref x, .int le].toArray s = true := fun w h => hts w (List.mem_cons_of_mem _ h)
  have hown : s.vm.findClass RX0 = some m.cls := findClass_of_methodNamed B.named
  have hlocks := B.notSynchronized
  have hl := lv_entry ([.ref x, .int le]) (n := 3) (Nat.le_of_ble_eq_true rfl)
  rw [lg_entry_eq]
  generalize (lg_sl ([.ref x, .int le]) ++ List.replicate (3 - (lg_sl ([.ref x, .int le])).length) Slot.unset).toArray = ls at hl ⊢
  have hl : lv_has ls 3 [(0, .ref x), (1, .int le)] := hl
  refine lv_aload_n hx hb dX0_isLength_0 rfl (lv_at hl 0 rfl) ?_
  refine va_get (D := (dC, dI)) (ci := 0) (v := .int mf) (C := RX0) (T := TX0) (N := 9) hx hb htl inX0 hown hK hP 0 rfl rfl 6 (by decide) (htl _ flX0_30) (fun _ h9 => h9) rfl dX0_isLength_1 ?_
  refine lv_iconst (v := 4) hx hb dX0_isLength_4 (by decide) ?_
  refine lv_icmp_ne (tgt := 13) hx hb dX0_isLength_5 (by decide) (fun c_1 => ?_) (fun c_1 => ?_)
  · refine lv_sipush (v := 128) hx hb dX0_isLength_13 (by decide) ?_
    refine lv_istore_n (lv' := [(2, .int 128), (0, .ref x), (1, .int le)]) hx hb dX0_isLength_16 rfl hl (by decide) rfl (fun ls hl => ?_)
    refine lv_iload_n hx hb dX0_isLength_17 rfl (lv_at hl 2 rfl) ?_
    refine lv_if_lt (tgt := 30) hx hb dX0_isLength_18 (by decide) (fun c_2 => ?_) (fun c_2 => ?_)
    · refine lv_iconst (v := 0) hx hb dX0_isLength_30 (by decide) ?_
      exact ru_zret hx hb hr hlocks (by simp [kb_len, b2i, c_1, c_2]) rfl dX0_isLength_31
    · refine lv_iload_n hx hb dX0_isLength_21 rfl (lv_at hl 2 rfl) ?_
      refine lv_iload_n hx hb dX0_isLength_22 rfl (lv_at hl 0 rfl) ?_
      refine lv_icmp_gt (tgt := 30) hx hb dX0_isLength_23 (by decide) (fun c_3 => ?_) (fun c_3 => ?_)
      · refine lv_iconst (v := 0) hx hb dX0_isLength_30 (by decide) ?_
        exact ru_zret hx hb hr hlocks (by simp [kb_len, b2i, c_1, c_2, c_3]) rfl dX0_isLength_31
      · refine lv_iconst (v := 1) hx hb dX0_isLength_26 (by decide) ?_
        refine lv_goto (tgt := 31) hx hb dX0_isLength_27 (by decide) ?_
        exact ru_zret hx hb hr hlocks (by simp [kb_len, b2i, c_1, c_2, c_3]) rfl dX0_isLength_31
  · refine lv_bipush (v := 32) hx hb dX0_isLength_8 (by decide) ?_
    refine lv_goto (tgt := 16) hx hb dX0_isLength_10 (by decide) ?_
    refine lv_istore_n (lv' := [(2, .int 32), (0, .ref x), (1, .int le)]) hx hb dX0_isLength_16 rfl hl (by decide) rfl (fun ls hl => ?_)
    refine lv_iload_n hx hb dX0_isLength_17 rfl (lv_at hl 2 rfl) ?_
    refine lv_if_lt (tgt := 30) hx hb dX0_isLength_18 (by decide) (fun c_4 => ?_) (fun c_4 => ?_)
    · refine lv_iconst (v := 0) hx hb dX0_isLength_30 (by decide) ?_
      exact ru_zret hx hb hr hlocks (by simp [kb_len, b2i, c_1, c_4]) rfl dX0_isLength_31
    · refine lv_iload_n hx hb dX0_isLength_21 rfl (lv_at hl 2 rfl) ?_
      refine lv_iload_n hx hb dX0_isLength_22 rfl (lv_at hl 0 rfl) ?_
      refine lv_icmp_gt (tgt := 30) hx hb dX0_isLength_23 (by decide) (fun c_5 => ?_) (fun c_5 => ?_)
      · refine lv_iconst (v := 0) hx hb dX0_isLength_30 (by decide) ?_
        exact ru_zret hx hb hr hlocks (by simp [kb_len, b2i, c_1, c_4, c_5]) rfl dX0_isLength_31
      · refine lv_iconst (v := 1) hx hb dX0_isLength_26 (by decide) ?_
        refine lv_goto (tgt := 31) hx hb dX0_isLength_27 (by decide) ?_
        exact ru_zret hx hb hr hlocks (by simp [kb_len, b2i, c_1, c_4, c_5]) rfl dX0_isLength_31
set_option maxHeartbeats 4000000 in
set_option maxRecDepth 100000 in
theorem c_X0_isPrefix (l : Launch) (dC : Nat → ClassId) (dI : Nat → Nat → Nat) {x a1 a2 a3 a4 a5 : Nat} {k1 k2 k3 k4 k5 : ClassId} {f : Nat → Int32} {u w : Nat → Int64} {g n : Nat → Int32} {k : Nat} {mf : Int32} {mu ml : Int64} (le : Int32) (Hh : Heap)  (hP : va_P (dC, dI) classes (pbw x a1 a2 a3 a4 a5 k1 k2 k3 k4 k5 f u w g n k mf mu ml) Hh) : Met l yX0_isPrefix (ww yX0_isPrefix cX0_isPrefix 3 (some .boolean)) ({ frames := 2, cells := 0, slots := 0, locals := 40 } : Room) (va_Pc [.ref x, .int le] (fun U => U.heap = Hh ∧ va_K (dC, dI) classes (pbt k1 k2 k3 k4 k5) U)) (va_Qi (fun r (_ : Unit) => r = (b2i (kb_pre mf mu ml le))) (fun _ t => t.heap = Hh) (fun _ => False)) 0 0 (fun _ => False) := by
  refine Met.ofW (cc := cX0_isPrefix) (maxL := 3) (ret := (some .boolean)) (by decide) rfl ?_
  intro p e s m args below meth c s₁ B hml hv
  obtain ⟨rfl, hHh, hK⟩ := hv
  subst hHh
  have hx := B.exec
  have hb := B.bytes
  have hr := B.returns
  have hts := atoms_spec (ws := ww yX0_isPrefix cX0_isPrefix 3 (some .boolean)) B.pre
  have htl : ∀ w ∈ ltg, w.before [.ref x, .int le].toArray s = true := fun w h => hts w (List.mem_cons_of_mem _ h)
  have hown : s.vm.findClass RX0 = some m.cls := findClass_of_methodNamed B.named
  have hlocks := B.notSynchronized
  have hl := lv_entry ([.ref x, .int le]) (n := 3) (Nat.le_of_ble_eq_true rfl)
  rw [lg_entry_eq]
  generalize (lg_sl ([.ref x, .int le]) ++ List.replicate (3 - (lg_sl ([.ref x, .int le])).length) Slot.unset).toArray = ls at hl ⊢
  have hl : lv_has ls 3 [(0, .ref x), (1, .int le)] := hl
  refine lv_aload_n hx hb dX0_isPrefix_0 rfl (lv_at hl 0 rfl) ?_
  refine lv_iload_n hx hb dX0_isPrefix_1 rfl (lv_at hl 1 rfl) ?_
  refine ru_calli (va_runV (As := [.int le]) (rest := []) ⟨hx, hb, hml, hown, htl⟩ (c_X0_isLength l dC dI le _ hP) (cwV 1 htl gX0_75 rfl rfl rfl hd_X0_isLength ⟨Nat.le_of_ble_eq_true rfl, Nat.le_of_ble_eq_true rfl⟩) ⟨fb_ro, va_recv hK hP (ci := 0) (q0 := 0) rfl rfl, fun U hU hW => ⟨rfl, hU, va_K.moved hW.alike hK⟩⟩ rfl rfl hl.1 rfl (lv_room (Nat.le_of_ble_eq_true rfl)) dX0_isPrefix_2 ⟨Nat.le_of_ble_eq_true rfl, Nat.le_of_ble_eq_true rfl⟩) ?_
  refine lv_if_ne (tgt := 10) hx hb dX0_isPrefix_5 (by decide) (fun c_1 => ?_) (fun c_1 => ?_)
  · rw [b2i_0, Bool.not_eq_false] at c_1
    refine lv_aload_n hx hb dX0_isPrefix_10 rfl (lv_at hl 0 rfl) ?_
    refine va_get (D := (dC, dI)) (ci := 0) (v := .int mf) (C := RX0) (T := TX0) (N := 9) hx hb htl inX0 hown hK hP 0 rfl rfl 6 (by decide) (htl _ flX0_30) (fun _ h9 => h9) rfl dX0_isPrefix_11 ?_
    refine lv_iload_n hx hb dX0_isPrefix_14 rfl (lv_at hl 1 rfl) ?_
    refine ru_calli (va_runS (As := [.int mf, .int le]) (rest := []) ⟨hx, hb, hml, hown, htl⟩ (c_X0_bitsOfWhole l dC dI mf le _) (cwS 2 htl gX0_80 rfl rfl rfl hd_X0_bitsOfWhole ⟨Nat.le_of_ble_eq_true rfl, Nat.le_of_ble_eq_true rfl⟩) ⟨fb_ro, fun U hU hW => ⟨rfl, hU, va_K.moved hW.alike hK⟩⟩ rfl rfl hl.1 rfl (lv_room (Nat.le_of_ble_eq_true rfl)) dX0_isPrefix_15 ⟨Nat.le_of_ble_eq_true rfl, Nat.le_of_ble_eq_true rfl⟩) ?_
    refine lv_topi (fun y_2 ey_2 => ?_)
    refine lv_istore_n (lv' := [(2, .int y_2), (0, .ref x), (1, .int le)]) hx hb dX0_isPrefix_18 rfl hl (by decide) rfl (fun ls hl => ?_)
    refine lv_aload_n hx hb dX0_isPrefix_19 rfl (lv_at hl 1 rfl) ?_
    refine va_get (D := (dC, dI)) (ci := 0) (v := .long mu) (C := RX0) (T := TX0) (N := 9) hx hb htl inX0 hown hK hP 0 rfl rfl 7 (by decide) (htl _ flX0_33) (fun _ h9 => h9) rfl dX0_isPrefix_20 ?_
    refine lv_iload_n hx hb dX0_isPrefix_23 rfl (lv_at hl 0 rfl) ?_
    refine ru_calll (va_runS (As := [.int y_2]) (rest := [.long mu]) ⟨hx, hb, hml, hown, htl⟩ (c_X0_upperMask l dC dI y_2 _) (cwS 1 htl gX0_84 rfl rfl rfl hd_X0_upperMask ⟨Nat.le_of_ble_eq_true rfl, Nat.le_of_ble_eq_true rfl⟩) ⟨fb_ro, fun U hU hW => ⟨rfl, hU, va_K.moved hW.alike hK⟩⟩ rfl rfl hl.1 rfl (lv_room (Nat.le_of_ble_eq_true rfl)) dX0_isPrefix_24 ⟨Nat.le_of_ble_eq_true rfl, Nat.le_of_ble_eq_true rfl⟩) ?_
    refine lv_ldc2 (v := (-1)) hx hb hown (htl _ kcX0_88) dX0_isPrefix_27 ?_
    refine lv_lxor hx hb dX0_isPrefix_30 ?_
    refine lv_land hx hb dX0_isPrefix_31 ?_
    refine lv_lconst (v := 0) hx hb dX0_isPrefix_32 (by decide) ?_
    refine W.lcmp hx hb dX0_isPrefix_33 ?_
    refine lv_if_ne (tgt := 59) hx hb dX0_isPrefix_34 (by decide) (fun c_3 => ?_) (fun c_3 => ?_)
    · rw [lg_cmp_eq] at c_3
      refine lv_iconst (v := 0) hx hb dX0_isPrefix_59 (by decide) ?_
      exact ru_zret hx hb hr hlocks (by (try subst ey_2); simp [-Int64.xor_neg_one, kb_pre, b2i, c_1, c_3]) rfl dX0_isPrefix_60
    · rw [lg_cmp_eq] at c_3
      refine lv_aload_n hx hb dX0_isPrefix_37 rfl (lv_at hl 1 rfl) ?_
      refine va_get (D := (dC, dI)) (ci := 0) (v := .long ml) (C := RX0) (T := TX0) (N := 9) hx hb htl inX0 hown hK hP 0 rfl rfl 8 (by decide) (htl _ flX0_37) (fun _ h9 => h9) rfl dX0_isPrefix_38 ?_
      refine lv_iload_n hx hb dX0_isPrefix_41 rfl (lv_at hl 0 rfl) ?_
      refine ru_calll (va_runS (As := [.int y_2]) (rest := [.long ml]) ⟨hx, hb, hml, hown, htl⟩ (c_X0_lowerMask l dC dI y_2 _) (cwS 1 htl gX0_90 rfl rfl rfl hd_X0_lowerMask ⟨Nat.le_of_ble_eq_true rfl, Nat.le_of_ble_eq_true rfl⟩) ⟨fb_ro, fun U hU hW => ⟨rfl, hU, va_K.moved hW.alike hK⟩⟩ rfl rfl hl.1 rfl (lv_room (Nat.le_of_ble_eq_true rfl)) dX0_isPrefix_42 ⟨Nat.le_of_ble_eq_true rfl, Nat.le_of_ble_eq_true rfl⟩) ?_
      refine lv_ldc2 (v := (-1)) hx hb hown (htl _ kcX0_88) dX0_isPrefix_45 ?_
      refine lv_lxor hx hb dX0_isPrefix_48 ?_
      refine lv_land hx hb dX0_isPrefix_49 ?_
      refine lv_lconst (v := 0) hx hb dX0_isPrefix_50 (by decide) ?_
      refine W.lcmp hx hb dX0_isPrefix_51 ?_
      refine lv_if_ne (tgt := 59) hx hb dX0_isPrefix_52 (by decide) (fun c_4 => ?_) (fun c_4 => ?_)
      · rw [lg_cmp_eq] at c_4
        refine lv_iconst (v := 0) hx hb dX0_isPrefix_59 (by decide) ?_
        exact ru_zret hx hb hr hlocks (by (try subst ey_2); simp [-Int64.xor_neg_one, kb_pre, b2i, c_1, c_3, c_4]) rfl dX0_isPrefix_60
      · rw [lg_cmp_eq] at c_4
        refine lv_iconst (v := 1) hx hb dX0_isPrefix_55 (by decide) ?_
        refine lv_goto (tgt := 60) hx hb dX0_isPrefix_56 (by decide) ?_
        exact ru_zret hx hb hr hlocks (by (try subst ey_2); simp [-Int64.xor_neg_one, kb_pre, b2i, c_1, c_3, c_4]) rfl dX0_isPrefix_60
  · rw [b2i_0] at c_1
    refine lv_iconst (v := 0) hx hb dX0_isPrefix_8 (by decide) ?_
    exact ru_zret hx hb hr hlocks (by (try subst ey_2); simp [-Int64.xor_neg_one, kb_pre, b2i, c_1]) rfl dX0_isPrefix_9
set_option maxHeartbeats 4000000 in
set_option maxRecDepth 100000 in
theorem c_X0_coversMeant (l : Launch) (dC : Nat → ClassId) (dI : Nat → Nat → Nat) {x a1 a2 a3 a4 a5 : Nat} {k1 k2 k3 k4 k5 : ClassId} {f : Nat → Int32} {u w : Nat → Int64} {g n : Nat → Int32} {k : Nat} {mf : Int32} {mu ml : Int64} (j : Nat) (Hh : Heap) (hj : j < 1000) (hP : va_P (dC, dI) classes (pbw x a1 a2 a3 a4 a5 k1 k2 k3 k4 k5 f u w g n k mf mu ml) Hh) : Met l yX0_coversMeant (ww yX0_coversMeant cX0_coversMeant 3 (some .boolean)) ({ frames := 2, cells := 0, slots := 0, locals := 40 } : Room) (va_Pc [.ref x, .int (nI j)] (fun U => U.heap = Hh ∧ va_K (dC, dI) classes (pbt k1 k2 k3 k4 k5) U)) (va_Qi (fun r (_ : Unit) => r = (b2i (kb_cov f u w g mf mu ml j))) (fun _ t => t.heap = Hh) (fun _ => False)) 0 0 (fun _ => False) := by
  refine Met.ofW (cc := cX0_coversMeant) (maxL := 3) (ret := (some .boolean)) (by decide) rfl ?_
  intro p e s m args below meth c s₁ B hml hv
  obtain ⟨rfl, hHh, hK⟩ := hv
  subst hHh
  have hx := B.exec
  have hb := B.bytes
  have hr := B.returns
  have hts := atoms_spec (ws := ww yX0_coversMeant cX0_coversMeant 3 (some .boolean)) B.pre
  have htl : ∀ w ∈ ltg, w.before [.ref x, .int (nI j)].toArray s = true := fun w h => hts w (List.mem_cons_of_mem _ h)
  have hown : s.vm.findClass RX0 = some m.cls := findClass_of_methodNamed B.named
  have hlocks := B.notSynchronized
  have hl := lv_entry ([.ref x, .int (nI j)]) (n := 3) (Nat.le_of_ble_eq_true rfl)
  rw [lg_entry_eq]
  generalize (lg_sl ([.ref x, .int (nI j)]) ++ List.replicate (3 - (lg_sl ([.ref x, .int (nI j)])).length) Slot.unset).toArray = ls at hl ⊢
  have hl : lv_has ls 3 [(0, .ref x), (1, .int (nI j))] := hl
  refine lv_aload_n hx hb dX0_coversMeant_0 rfl (lv_at hl 0 rfl) ?_
  refine va_get (D := (dC, dI)) (ci := 0) (v := .ref a1) (C := RX0) (T := TX0) (N := 9) hx hb htl inX0 hown hK hP 0 rfl rfl 0 (by decide) (htl _ flX0_9) (fun _ h9 => h9) rfl dX0_coversMeant_1 ?_
  refine lv_iload_n hx hb dX0_coversMeant_4 rfl (lv_at hl 1 rfl) ?_
  refine ld_i hx hb hK hP 1 0 rfl rfl (j := j) (by omega) (Nat.le_of_ble_eq_true rfl) dX0_coversMeant_5 ?_
  refine lv_aload_n hx hb dX0_coversMeant_6 rfl (lv_at hl 0 rfl) ?_
  refine va_get (D := (dC, dI)) (ci := 0) (v := .int mf) (C := RX0) (T := TX0) (N := 9) hx hb htl inX0 hown hK hP 0 rfl rfl 6 (by decide) (htl _ flX0_30) (fun _ h9 => h9) rfl dX0_coversMeant_7 ?_
  refine lv_icmp_eq (tgt := 15) hx hb dX0_coversMeant_10 (by decide) (fun c_1 => ?_) (fun c_1 => ?_)
  · refine lv_aload_n hx hb dX0_coversMeant_15 rfl (lv_at hl 0 rfl) ?_
    refine va_get (D := (dC, dI)) (ci := 0) (v := .int mf) (C := RX0) (T := TX0) (N := 9) hx hb htl inX0 hown hK hP 0 rfl rfl 6 (by decide) (htl _ flX0_30) (fun _ h9 => h9) rfl dX0_coversMeant_16 ?_
    refine lv_aload_n hx hb dX0_coversMeant_19 rfl (lv_at hl 0 rfl) ?_
    refine va_get (D := (dC, dI)) (ci := 0) (v := .ref a4) (C := RX0) (T := TX0) (N := 9) hx hb htl inX0 hown hK hP 0 rfl rfl 3 (by decide) (htl _ flX0_20) (fun _ h9 => h9) rfl dX0_coversMeant_20 ?_
    refine lv_iload_n hx hb dX0_coversMeant_23 rfl (lv_at hl 1 rfl) ?_
    refine ld_i hx hb hK hP 4 3 rfl rfl (j := j) (by omega) (Nat.le_of_ble_eq_true rfl) dX0_coversMeant_24 ?_
    refine ru_calli (va_runS (As := [.int mf, .int (g j)]) (rest := []) ⟨hx, hb, hml, hown, htl⟩ (c_X0_bitsOfWhole l dC dI mf (g j) _) (cwS 2 htl gX0_80 rfl rfl rfl hd_X0_bitsOfWhole ⟨Nat.le_of_ble_eq_true rfl, Nat.le_of_ble_eq_true rfl⟩) ⟨fb_ro, fun U hU hW => ⟨rfl, hU, va_K.moved hW.alike hK⟩⟩ rfl rfl hl.1 rfl (lv_room (Nat.le_of_ble_eq_true rfl)) dX0_coversMeant_25 ⟨Nat.le_of_ble_eq_true rfl, Nat.le_of_ble_eq_true rfl⟩) ?_
    refine lv_topi (fun y_2 ey_2 => ?_)
    refine lv_istore_n (lv' := [(2, .int y_2), (0, .ref x), (1, .int (nI j))]) hx hb dX0_coversMeant_28 rfl hl (by decide) rfl (fun ls hl => ?_)
    refine lv_aload_n hx hb dX0_coversMeant_29 rfl (lv_at hl 1 rfl) ?_
    refine va_get (D := (dC, dI)) (ci := 0) (v := .ref a2) (C := RX0) (T := TX0) (N := 9) hx hb htl inX0 hown hK hP 0 rfl rfl 1 (by decide) (htl _ flX0_13) (fun _ h9 => h9) rfl dX0_coversMeant_30 ?_
    refine lv_iload_n hx hb dX0_coversMeant_33 rfl (lv_at hl 2 rfl) ?_
    refine ld_l hx hb hK hP 2 1 rfl rfl (j := j) (by omega) (Nat.le_of_ble_eq_true rfl) dX0_coversMeant_34 ?_
    refine lv_aload_n hx hb dX0_coversMeant_35 rfl (lv_at hl 1 rfl) ?_
    refine va_get (D := (dC, dI)) (ci := 0) (v := .long mu) (C := RX0) (T := TX0) (N := 9) hx hb htl inX0 hown hK hP 0 rfl rfl 7 (by decide) (htl _ flX0_33) (fun _ h9 => h9) rfl dX0_coversMeant_36 ?_
    refine lv_lxor hx hb dX0_coversMeant_39 ?_
    refine lv_iload_n hx hb dX0_coversMeant_40 rfl (lv_at hl 0 rfl) ?_
    refine ru_calll (va_runS (As := [.int y_2]) (rest := [.long ((u j) ^^^ mu)]) ⟨hx, hb, hml, hown, htl⟩ (c_X0_upperMask l dC dI y_2 _) (cwS 1 htl gX0_84 rfl rfl rfl hd_X0_upperMask ⟨Nat.le_of_ble_eq_true rfl, Nat.le_of_ble_eq_true rfl⟩) ⟨fb_ro, fun U hU hW => ⟨rfl, hU, va_K.moved hW.alike hK⟩⟩ rfl rfl hl.1 rfl (lv_room (Nat.le_of_ble_eq_true rfl)) dX0_coversMeant_41 ⟨Nat.le_of_ble_eq_true rfl, Nat.le_of_ble_eq_true rfl⟩) ?_
    refine lv_land hx hb dX0_coversMeant_44 ?_
    refine lv_lconst (v := 0) hx hb dX0_coversMeant_45 (by decide) ?_
    refine W.lcmp hx hb dX0_coversMeant_46 ?_
    refine lv_if_ne (tgt := 75) hx hb dX0_coversMeant_47 (by decide) (fun c_3 => ?_) (fun c_3 => ?_)
    · rw [lg_cmp_eq] at c_3
      refine lv_iconst (v := 0) hx hb dX0_coversMeant_75 (by decide) ?_
      exact ru_zret hx hb hr hlocks (by (try subst ey_2); simp [kb_cov, b2i, c_1, c_3]) rfl dX0_coversMeant_76
    · rw [lg_cmp_eq] at c_3
      refine lv_aload_n hx hb dX0_coversMeant_50 rfl (lv_at hl 1 rfl) ?_
      refine va_get (D := (dC, dI)) (ci := 0) (v := .ref a3) (C := RX0) (T := TX0) (N := 9) hx hb htl inX0 hown hK hP 0 rfl rfl 2 (by decide) (htl _ flX0_17) (fun _ h9 => h9) rfl dX0_coversMeant_51 ?_
      refine lv_iload_n hx hb dX0_coversMeant_54 rfl (lv_at hl 2 rfl) ?_
      refine ld_l hx hb hK hP 3 2 rfl rfl (j := j) (by omega) (Nat.le_of_ble_eq_true rfl) dX0_coversMeant_55 ?_
      refine lv_aload_n hx hb dX0_coversMeant_56 rfl (lv_at hl 1 rfl) ?_
      refine va_get (D := (dC, dI)) (ci := 0) (v := .long ml) (C := RX0) (T := TX0) (N := 9) hx hb htl inX0 hown hK hP 0 rfl rfl 8 (by decide) (htl _ flX0_37) (fun _ h9 => h9) rfl dX0_coversMeant_57 ?_
      refine lv_lxor hx hb dX0_coversMeant_60 ?_
      refine lv_iload_n hx hb dX0_coversMeant_61 rfl (lv_at hl 0 rfl) ?_
      refine ru_calll (va_runS (As := [.int y_2]) (rest := [.long ((w j) ^^^ ml)]) ⟨hx, hb, hml, hown, htl⟩ (c_X0_lowerMask l dC dI y_2 _) (cwS 1 htl gX0_90 rfl rfl rfl hd_X0_lowerMask ⟨Nat.le_of_ble_eq_true rfl, Nat.le_of_ble_eq_true rfl⟩) ⟨fb_ro, fun U hU hW => ⟨rfl, hU, va_K.moved hW.alike hK⟩⟩ rfl rfl hl.1 rfl (lv_room (Nat.le_of_ble_eq_true rfl)) dX0_coversMeant_62 ⟨Nat.le_of_ble_eq_true rfl, Nat.le_of_ble_eq_true rfl⟩) ?_
      refine lv_land hx hb dX0_coversMeant_65 ?_
      refine lv_lconst (v := 0) hx hb dX0_coversMeant_66 (by decide) ?_
      refine W.lcmp hx hb dX0_coversMeant_67 ?_
      refine lv_if_ne (tgt := 75) hx hb dX0_coversMeant_68 (by decide) (fun c_4 => ?_) (fun c_4 => ?_)
      · rw [lg_cmp_eq] at c_4
        refine lv_iconst (v := 0) hx hb dX0_coversMeant_75 (by decide) ?_
        exact ru_zret hx hb hr hlocks (by (try subst ey_2); simp [kb_cov, b2i, c_1, c_3, c_4]) rfl dX0_coversMeant_76
      · rw [lg_cmp_eq] at c_4
        refine lv_iconst (v := 1) hx hb dX0_coversMeant_71 (by decide) ?_
        refine lv_goto (tgt := 76) hx hb dX0_coversMeant_72 (by decide) ?_
        exact ru_zret hx hb hr hlocks (by (try subst ey_2); simp [kb_cov, b2i, c_1, c_3, c_4]) rfl dX0_coversMeant_76
  · refine lv_iconst (v := 0) hx hb dX0_coversMeant_13 (by decide) ?_
    exact ru_zret hx hb hr hlocks (by (try subst ey_2); simp [kb_cov, b2i, c_1]) rfl dX0_coversMeant_14
set_option maxHeartbeats 4000000 in
set_option maxRecDepth 100000 in
theorem c_X0_standsAhead (l : Launch) (dC : Nat → ClassId) (dI : Nat → Nat → Nat) {x a1 a2 a3 a4 a5 : Nat} {k1 k2 k3 k4 k5 : ClassId} {f : Nat → Int32} {u w : Nat → Int64} {g n : Nat → Int32} {k : Nat} {mf : Int32} {mu ml : Int64} (j : Nat) (le : Int32) (Hh : Heap) (hj : j < 1000) (hP : va_P (dC, dI) classes (pbw x a1 a2 a3 a4 a5 k1 k2 k3 k4 k5 f u w g n k mf mu ml) Hh) : Met l yX0_standsAhead (ww yX0_standsAhead cX0_standsAhead 3 (some .boolean)) ({ frames := 1, cells := 0, slots := 0, locals := 23 } : Room) (va_Pc [.ref x, .int (nI j), .int le] (fun U => U.heap = Hh ∧ va_K (dC, dI) classes (pbt k1 k2 k3 k4 k5) U)) (va_Qi (fun r (_ : Unit) => r = (b2i (kb_ah f u w g mf mu ml le j))) (fun _ t => t.heap = Hh) (fun _ => False)) 0 0 (fun _ => False) := by
  refine Met.ofW (cc := cX0_standsAhead) (maxL := 3) (ret := (some .boolean)) (by decide) rfl ?_
  intro p e s m args below meth c s₁ B hml hv
  obtain ⟨rfl, hHh, hK⟩ := hv
  subst hHh
  have hx := B.exec
  have hb := B.bytes
  have hr := B.returns
  have hts := atoms_spec (ws := ww yX0_standsAhead cX0_standsAhead 3 (some .boolean)) B.pre
  have htl : ∀ w ∈ ltg, w.before [.ref x, .int (nI j), .int le].toArray s = true := fun w h => hts w (List.mem_cons_of_mem _ h)
  have hown : s.vm.findClass RX0 = some m.cls := findClass_of_methodNamed B.named
  have hlocks := B.notSynchronized
  have hl := lv_entry ([.ref x, .int (nI j), .int le]) (n := 3) (Nat.le_of_ble_eq_true rfl)
  rw [lg_entry_eq]
  generalize (lg_sl ([.ref x, .int (nI j), .int le]) ++ List.replicate (3 - (lg_sl ([.ref x, .int (nI j), .int le])).length) Slot.unset).toArray = ls at hl ⊢
  have hl : lv_has ls 3 [(0, .ref x), (1, .int (nI j)), (2, .int le)] := hl
  refine lv_aload_n hx hb dX0_standsAhead_0 rfl (lv_at hl 0 rfl) ?_
  refine va_get (D := (dC, dI)) (ci := 0) (v := .ref a1) (C := RX0) (T := TX0) (N := 9) hx hb htl inX0 hown hK hP 0 rfl rfl 0 (by decide) (htl _ flX0_9) (fun _ h9 => h9) rfl dX0_standsAhead_1 ?_
  refine lv_iload_n hx hb dX0_standsAhead_4 rfl (lv_at hl 1 rfl) ?_
  refine ld_i hx hb hK hP 1 0 rfl rfl (j := j) (by omega) (Nat.le_of_ble_eq_true rfl) dX0_standsAhead_5 ?_
  refine lv_aload_n hx hb dX0_standsAhead_6 rfl (lv_at hl 0 rfl) ?_
  refine va_get (D := (dC, dI)) (ci := 0) (v := .int mf) (C := RX0) (T := TX0) (N := 9) hx hb htl inX0 hown hK hP 0 rfl rfl 6 (by decide) (htl _ flX0_30) (fun _ h9 => h9) rfl dX0_standsAhead_7 ?_
  refine lv_icmp_eq (tgt := 32) hx hb dX0_standsAhead_10 (by decide) (fun c_1 => ?_) (fun c_1 => ?_)
  · refine lv_aload_n hx hb dX0_standsAhead_32 rfl (lv_at hl 0 rfl) ?_
    refine va_get (D := (dC, dI)) (ci := 0) (v := .ref a2) (C := RX0) (T := TX0) (N := 9) hx hb htl inX0 hown hK hP 0 rfl rfl 1 (by decide) (htl _ flX0_13) (fun _ h9 => h9) rfl dX0_standsAhead_33 ?_
    refine lv_iload_n hx hb dX0_standsAhead_36 rfl (lv_at hl 1 rfl) ?_
    refine ld_l hx hb hK hP 2 1 rfl rfl (j := j) (by omega) (Nat.le_of_ble_eq_true rfl) dX0_standsAhead_37 ?_
    refine lv_aload_n hx hb dX0_standsAhead_38 rfl (lv_at hl 0 rfl) ?_
    refine va_get (D := (dC, dI)) (ci := 0) (v := .long mu) (C := RX0) (T := TX0) (N := 9) hx hb htl inX0 hown hK hP 0 rfl rfl 7 (by decide) (htl _ flX0_33) (fun _ h9 => h9) rfl dX0_standsAhead_39 ?_
    refine W.lcmp hx hb dX0_standsAhead_42 ?_
    refine lv_if_eq (tgt := 60) hx hb dX0_standsAhead_43 (by decide) (fun c_2 => ?_) (fun c_2 => ?_)
    · rw [lg_cmp_eq] at c_2
      refine lv_aload_n hx hb dX0_standsAhead_60 rfl (lv_at hl 0 rfl) ?_
      refine va_get (D := (dC, dI)) (ci := 0) (v := .ref a3) (C := RX0) (T := TX0) (N := 9) hx hb htl inX0 hown hK hP 0 rfl rfl 2 (by decide) (htl _ flX0_17) (fun _ h9 => h9) rfl dX0_standsAhead_61 ?_
      refine lv_iload_n hx hb dX0_standsAhead_64 rfl (lv_at hl 1 rfl) ?_
      refine ld_l hx hb hK hP 3 2 rfl rfl (j := j) (by omega) (Nat.le_of_ble_eq_true rfl) dX0_standsAhead_65 ?_
      refine lv_aload_n hx hb dX0_standsAhead_66 rfl (lv_at hl 0 rfl) ?_
      refine va_get (D := (dC, dI)) (ci := 0) (v := .long ml) (C := RX0) (T := TX0) (N := 9) hx hb htl inX0 hown hK hP 0 rfl rfl 8 (by decide) (htl _ flX0_37) (fun _ h9 => h9) rfl dX0_standsAhead_67 ?_
      refine W.lcmp hx hb dX0_standsAhead_70 ?_
      refine lv_if_eq (tgt := 88) hx hb dX0_standsAhead_71 (by decide) (fun c_3 => ?_) (fun c_3 => ?_)
      · rw [lg_cmp_eq] at c_3
        refine lv_aload_n hx hb dX0_standsAhead_88 rfl (lv_at hl 0 rfl) ?_
        refine va_get (D := (dC, dI)) (ci := 0) (v := .ref a4) (C := RX0) (T := TX0) (N := 9) hx hb htl inX0 hown hK hP 0 rfl rfl 3 (by decide) (htl _ flX0_20) (fun _ h9 => h9) rfl dX0_standsAhead_89 ?_
        refine lv_iload_n hx hb dX0_standsAhead_92 rfl (lv_at hl 1 rfl) ?_
        refine ld_i hx hb hK hP 4 3 rfl rfl (j := j) (by omega) (Nat.le_of_ble_eq_true rfl) dX0_standsAhead_93 ?_
        refine lv_iload_n hx hb dX0_standsAhead_94 rfl (lv_at hl 2 rfl) ?_
        refine lv_icmp_ge (tgt := 102) hx hb dX0_standsAhead_95 (by decide) (fun c_4 => ?_) (fun c_4 => ?_)
        · refine lv_iconst (v := 0) hx hb dX0_standsAhead_102 (by decide) ?_
          exact ru_zret hx hb hr hlocks (by simp [kb_ah, b2i, c_1, c_2, c_3, c_4]) rfl dX0_standsAhead_103
        · refine lv_iconst (v := 1) hx hb dX0_standsAhead_98 (by decide) ?_
          refine lv_goto (tgt := 103) hx hb dX0_standsAhead_99 (by decide) ?_
          exact ru_zret hx hb hr hlocks (by simp [kb_ah, b2i, c_1, c_2, c_3, c_4]) rfl dX0_standsAhead_103
      · rw [lg_cmp_eq] at c_3
        refine lv_aload_n hx hb dX0_standsAhead_74 rfl (lv_at hl 0 rfl) ?_
        refine va_get (D := (dC, dI)) (ci := 0) (v := .ref a3) (C := RX0) (T := TX0) (N := 9) hx hb htl inX0 hown hK hP 0 rfl rfl 2 (by decide) (htl _ flX0_17) (fun _ h9 => h9) rfl dX0_standsAhead_75 ?_
        refine lv_iload_n hx hb dX0_standsAhead_78 rfl (lv_at hl 1 rfl) ?_
        refine ld_l hx hb hK hP 3 2 rfl rfl (j := j) (by omega) (Nat.le_of_ble_eq_true rfl) dX0_standsAhead_79 ?_
        refine lv_aload_n hx hb dX0_standsAhead_80 rfl (lv_at hl 0 rfl) ?_
        refine va_get (D := (dC, dI)) (ci := 0) (v := .long ml) (C := RX0) (T := TX0) (N := 9) hx hb htl inX0 hown hK hP 0 rfl rfl 8 (by decide) (htl _ flX0_37) (fun _ h9 => h9) rfl dX0_standsAhead_81 ?_
        refine ru_calli (va_runS (As := [.long (w j), .long ml]) (rest := []) ⟨hx, hb, hml, hown, htl⟩ (c_X0_isBelow l dC dI (w j) ml _) (cwS 2 htl gX0_99 rfl rfl rfl hd_X0_isBelow ⟨Nat.le_of_ble_eq_true rfl, Nat.le_of_ble_eq_true rfl⟩) ⟨fb_ro, fun U hU hW => ⟨rfl, hU, va_K.moved hW.alike hK⟩⟩ rfl rfl hl.1 rfl (lv_room (Nat.le_of_ble_eq_true rfl)) dX0_standsAhead_84 ⟨Nat.le_of_ble_eq_true rfl, Nat.le_of_ble_eq_true rfl⟩) ?_
        exact ru_zret hx hb hr hlocks (by simp [kb_ah, b2i, c_1, c_2, c_3]) b2i_n dX0_standsAhead_87
    · rw [lg_cmp_eq] at c_2
      refine lv_aload_n hx hb dX0_standsAhead_46 rfl (lv_at hl 0 rfl) ?_
      refine va_get (D := (dC, dI)) (ci := 0) (v := .ref a2) (C := RX0) (T := TX0) (N := 9) hx hb htl inX0 hown hK hP 0 rfl rfl 1 (by decide) (htl _ flX0_13) (fun _ h9 => h9) rfl dX0_standsAhead_47 ?_
      refine lv_iload_n hx hb dX0_standsAhead_50 rfl (lv_at hl 1 rfl) ?_
      refine ld_l hx hb hK hP 2 1 rfl rfl (j := j) (by omega) (Nat.le_of_ble_eq_true rfl) dX0_standsAhead_51 ?_
      refine lv_aload_n hx hb dX0_standsAhead_52 rfl (lv_at hl 0 rfl) ?_
      refine va_get (D := (dC, dI)) (ci := 0) (v := .long mu) (C := RX0) (T := TX0) (N := 9) hx hb htl inX0 hown hK hP 0 rfl rfl 7 (by decide) (htl _ flX0_33) (fun _ h9 => h9) rfl dX0_standsAhead_53 ?_
      refine ru_calli (va_runS (As := [.long (u j), .long mu]) (rest := []) ⟨hx, hb, hml, hown, htl⟩ (c_X0_isBelow l dC dI (u j) mu _) (cwS 2 htl gX0_99 rfl rfl rfl hd_X0_isBelow ⟨Nat.le_of_ble_eq_true rfl, Nat.le_of_ble_eq_true rfl⟩) ⟨fb_ro, fun U hU hW => ⟨rfl, hU, va_K.moved hW.alike hK⟩⟩ rfl rfl hl.1 rfl (lv_room (Nat.le_of_ble_eq_true rfl)) dX0_standsAhead_56 ⟨Nat.le_of_ble_eq_true rfl, Nat.le_of_ble_eq_true rfl⟩) ?_
      exact ru_zret hx hb hr hlocks (by simp [kb_ah, b2i, c_1, c_2]) b2i_n dX0_standsAhead_59
  · refine lv_aload_n hx hb dX0_standsAhead_13 rfl (lv_at hl 0 rfl) ?_
    refine va_get (D := (dC, dI)) (ci := 0) (v := .ref a1) (C := RX0) (T := TX0) (N := 9) hx hb htl inX0 hown hK hP 0 rfl rfl 0 (by decide) (htl _ flX0_9) (fun _ h9 => h9) rfl dX0_standsAhead_14 ?_
    refine lv_iload_n hx hb dX0_standsAhead_17 rfl (lv_at hl 1 rfl) ?_
    refine ld_i hx hb hK hP 1 0 rfl rfl (j := j) (by omega) (Nat.le_of_ble_eq_true rfl) dX0_standsAhead_18 ?_
    refine lv_aload_n hx hb dX0_standsAhead_19 rfl (lv_at hl 0 rfl) ?_
    refine va_get (D := (dC, dI)) (ci := 0) (v := .int mf) (C := RX0) (T := TX0) (N := 9) hx hb htl inX0 hown hK hP 0 rfl rfl 6 (by decide) (htl _ flX0_30) (fun _ h9 => h9) rfl dX0_standsAhead_20 ?_
    refine lv_icmp_ge (tgt := 30) hx hb dX0_standsAhead_23 (by decide) (fun c_5 => ?_) (fun c_5 => ?_)
    · refine lv_iconst (v := 0) hx hb dX0_standsAhead_30 (by decide) ?_
      exact ru_zret hx hb hr hlocks (by simp [kb_ah, b2i, c_1, c_5]) rfl dX0_standsAhead_31
    · refine lv_iconst (v := 1) hx hb dX0_standsAhead_26 (by decide) ?_
      refine lv_goto (tgt := 31) hx hb dX0_standsAhead_27 (by decide) ?_
      exact ru_zret hx hb hr hlocks (by simp [kb_ah, b2i, c_1, c_5]) rfl dX0_standsAhead_31
set_option maxHeartbeats 4000000 in
set_option maxRecDepth 100000 in
theorem c_X0_standsAt (l : Launch) (dC : Nat → ClassId) (dI : Nat → Nat → Nat) {x a1 a2 a3 a4 a5 : Nat} {k1 k2 k3 k4 k5 : ClassId} {f : Nat → Int32} {u w : Nat → Int64} {g n : Nat → Int32} {k : Nat} {mf : Int32} {mu ml : Int64} (j : Nat) (le : Int32) (Hh : Heap) (hk : k ≤ 1000) (hj : j ≤ 1000) (hP : va_P (dC, dI) classes (pbw x a1 a2 a3 a4 a5 k1 k2 k3 k4 k5 f u w g n k mf mu ml) Hh) : Met l yX0_standsAt (ww yX0_standsAt cX0_standsAt 3 (some .boolean)) ({ frames := 0, cells := 0, slots := 0, locals := 0 } : Room) (va_Pc [.ref x, .int (nI j), .int le] (fun U => U.heap = Hh ∧ va_K (dC, dI) classes (pbt k1 k2 k3 k4 k5) U)) (va_Qi (fun r (_ : Unit) => r = (b2i (kb_st f u w g mf mu ml le k j))) (fun _ t => t.heap = Hh) (fun _ => False)) 0 0 (fun _ => False) := by
  refine Met.ofW (cc := cX0_standsAt) (maxL := 3) (ret := (some .boolean)) (by decide) rfl ?_
  intro p e s m args below meth c s₁ B hml hv
  obtain ⟨rfl, hHh, hK⟩ := hv
  subst hHh
  have hx := B.exec
  have hb := B.bytes
  have hr := B.returns
  have hts := atoms_spec (ws := ww yX0_standsAt cX0_standsAt 3 (some .boolean)) B.pre
  have htl : ∀ w ∈ ltg, w.before [.ref x, .int (nI j), .int le].toArray s = true := fun w h => hts w (List.mem_cons_of_mem _ h)
  have hown : s.vm.findClass RX0 = some m.cls := findClass_of_methodNamed B.named
  have hlocks := B.notSynchronized
  have hl := lv_entry ([.ref x, .int (nI j), .int le]) (n := 3) (Nat.le_of_ble_eq_true rfl)
  rw [lg_entry_eq]
  generalize (lg_sl ([.ref x, .int (nI j), .int le]) ++ List.replicate (3 - (lg_sl ([.ref x, .int (nI j), .int le])).length) Slot.unset).toArray = ls at hl ⊢
  have hl : lv_has ls 3 [(0, .ref x), (1, .int (nI j)), (2, .int le)] := hl
  refine lv_iload_n hx hb dX0_standsAt_0 rfl (lv_at hl 1 rfl) ?_
  refine lv_if_lt (tgt := 67) hx hb dX0_standsAt_1 (by decide) (fun c_1 => ?_) (fun c_1 => ?_)
  · exact absurd c_1 (nI_pos (by omega))
  · refine lv_iload_n hx hb dX0_standsAt_4 rfl (lv_at hl 1 rfl) ?_
    refine lv_aload_n hx hb dX0_standsAt_5 rfl (lv_at hl 0 rfl) ?_
    refine va_get (D := (dC, dI)) (ci := 0) (v := .int (nI k)) (C := RX0) (T := TX0) (N := 9) hx hb htl inX0 hown hK hP 0 rfl rfl 5 (by decide) (htl _ flX0_26) (fun _ h9 => h9) rfl dX0_standsAt_6 ?_
    refine lv_icmp_ge (tgt := 67) hx hb dX0_standsAt_9 (by decide) (fun c_2 => ?_) (fun c_2 => ?_)
    · rw [nI_leI (by omega) (by omega)] at c_2
      refine lv_iconst (v := 0) hx hb dX0_standsAt_67 (by decide) ?_
      exact ru_zret hx hb hr hlocks (by simp [kb_st, b2i, c_1, c_2]) rfl dX0_standsAt_68
    · rw [nI_leI (by omega) (by omega)] at c_2
      refine lv_aload_n hx hb dX0_standsAt_12 rfl (lv_at hl 0 rfl) ?_
      refine va_get (D := (dC, dI)) (ci := 0) (v := .ref a1) (C := RX0) (T := TX0) (N := 9) hx hb htl inX0 hown hK hP 0 rfl rfl 0 (by decide) (htl _ flX0_9) (fun _ h9 => h9) rfl dX0_standsAt_13 ?_
      refine lv_iload_n hx hb dX0_standsAt_16 rfl (lv_at hl 1 rfl) ?_
      refine ld_i hx hb hK hP 1 0 rfl rfl (j := j) (by omega) (Nat.le_of_ble_eq_true rfl) dX0_standsAt_17 ?_
      refine lv_aload_n hx hb dX0_standsAt_18 rfl (lv_at hl 0 rfl) ?_
      refine va_get (D := (dC, dI)) (ci := 0) (v := .int mf) (C := RX0) (T := TX0) (N := 9) hx hb htl inX0 hown hK hP 0 rfl rfl 6 (by decide) (htl _ flX0_30) (fun _ h9 => h9) rfl dX0_standsAt_19 ?_
      refine lv_icmp_ne (tgt := 67) hx hb dX0_standsAt_22 (by decide) (fun c_3 => ?_) (fun c_3 => ?_)
      · refine lv_iconst (v := 0) hx hb dX0_standsAt_67 (by decide) ?_
        exact ru_zret hx hb hr hlocks (by simp [kb_st, b2i, c_1, c_2, c_3]) rfl dX0_standsAt_68
      · refine lv_aload_n hx hb dX0_standsAt_25 rfl (lv_at hl 0 rfl) ?_
        refine va_get (D := (dC, dI)) (ci := 0) (v := .ref a2) (C := RX0) (T := TX0) (N := 9) hx hb htl inX0 hown hK hP 0 rfl rfl 1 (by decide) (htl _ flX0_13) (fun _ h9 => h9) rfl dX0_standsAt_26 ?_
        refine lv_iload_n hx hb dX0_standsAt_29 rfl (lv_at hl 1 rfl) ?_
        refine ld_l hx hb hK hP 2 1 rfl rfl (j := j) (by omega) (Nat.le_of_ble_eq_true rfl) dX0_standsAt_30 ?_
        refine lv_aload_n hx hb dX0_standsAt_31 rfl (lv_at hl 0 rfl) ?_
        refine va_get (D := (dC, dI)) (ci := 0) (v := .long mu) (C := RX0) (T := TX0) (N := 9) hx hb htl inX0 hown hK hP 0 rfl rfl 7 (by decide) (htl _ flX0_33) (fun _ h9 => h9) rfl dX0_standsAt_32 ?_
        refine W.lcmp hx hb dX0_standsAt_35 ?_
        refine lv_if_ne (tgt := 67) hx hb dX0_standsAt_36 (by decide) (fun c_4 => ?_) (fun c_4 => ?_)
        · rw [lg_cmp_eq] at c_4
          refine lv_iconst (v := 0) hx hb dX0_standsAt_67 (by decide) ?_
          exact ru_zret hx hb hr hlocks (by simp [kb_st, b2i, c_1, c_2, c_3, c_4]) rfl dX0_standsAt_68
        · rw [lg_cmp_eq] at c_4
          refine lv_aload_n hx hb dX0_standsAt_39 rfl (lv_at hl 0 rfl) ?_
          refine va_get (D := (dC, dI)) (ci := 0) (v := .ref a3) (C := RX0) (T := TX0) (N := 9) hx hb htl inX0 hown hK hP 0 rfl rfl 2 (by decide) (htl _ flX0_17) (fun _ h9 => h9) rfl dX0_standsAt_40 ?_
          refine lv_iload_n hx hb dX0_standsAt_43 rfl (lv_at hl 1 rfl) ?_
          refine ld_l hx hb hK hP 3 2 rfl rfl (j := j) (by omega) (Nat.le_of_ble_eq_true rfl) dX0_standsAt_44 ?_
          refine lv_aload_n hx hb dX0_standsAt_45 rfl (lv_at hl 0 rfl) ?_
          refine va_get (D := (dC, dI)) (ci := 0) (v := .long ml) (C := RX0) (T := TX0) (N := 9) hx hb htl inX0 hown hK hP 0 rfl rfl 8 (by decide) (htl _ flX0_37) (fun _ h9 => h9) rfl dX0_standsAt_46 ?_
          refine W.lcmp hx hb dX0_standsAt_49 ?_
          refine lv_if_ne (tgt := 67) hx hb dX0_standsAt_50 (by decide) (fun c_5 => ?_) (fun c_5 => ?_)
          · rw [lg_cmp_eq] at c_5
            refine lv_iconst (v := 0) hx hb dX0_standsAt_67 (by decide) ?_
            exact ru_zret hx hb hr hlocks (by simp [kb_st, b2i, c_1, c_2, c_3, c_4, c_5]) rfl dX0_standsAt_68
          · rw [lg_cmp_eq] at c_5
            refine lv_aload_n hx hb dX0_standsAt_53 rfl (lv_at hl 0 rfl) ?_
            refine va_get (D := (dC, dI)) (ci := 0) (v := .ref a4) (C := RX0) (T := TX0) (N := 9) hx hb htl inX0 hown hK hP 0 rfl rfl 3 (by decide) (htl _ flX0_20) (fun _ h9 => h9) rfl dX0_standsAt_54 ?_
            refine lv_iload_n hx hb dX0_standsAt_57 rfl (lv_at hl 1 rfl) ?_
            refine ld_i hx hb hK hP 4 3 rfl rfl (j := j) (by omega) (Nat.le_of_ble_eq_true rfl) dX0_standsAt_58 ?_
            refine lv_iload_n hx hb dX0_standsAt_59 rfl (lv_at hl 2 rfl) ?_
            refine lv_icmp_ne (tgt := 67) hx hb dX0_standsAt_60 (by decide) (fun c_6 => ?_) (fun c_6 => ?_)
            · refine lv_iconst (v := 0) hx hb dX0_standsAt_67 (by decide) ?_
              exact ru_zret hx hb hr hlocks (by simp [kb_st, b2i, c_1, c_2, c_3, c_4, c_5, c_6]) rfl dX0_standsAt_68
            · refine lv_iconst (v := 1) hx hb dX0_standsAt_63 (by decide) ?_
              refine lv_goto (tgt := 68) hx hb dX0_standsAt_64 (by decide) ?_
              exact ru_zret hx hb hr hlocks (by simp [kb_st, b2i, c_1, c_2, c_3, c_4, c_5, c_6]) rfl dX0_standsAt_68
end
section
set_option maxHeartbeats 4000000 in
set_option maxRecDepth 100000 in
theorem c_X0_countAhead (l : Launch) (dC : Nat → ClassId) (dI : Nat → Nat → Nat) {x a1 a2 a3 a4 a5 : Nat} {k1 k2 k3 k4 k5 : ClassId} {f : Nat → Int32} {u w : Nat → Int64} {g n : Nat → Int32} {k : Nat} {mf : Int32} {mu ml : Int64} (le : Int32) (Hh : Heap) (hk : k ≤ 1000) (hP : va_P (dC, dI) classes (pbw x a1 a2 a3 a4 a5 k1 k2 k3 k4 k5 f u w g n k mf mu ml) Hh) : Met l yX0_countAhead (ww yX0_countAhead cX0_countAhead 3 (some .int)) ({ frames := 2, cells := 0, slots := 0, locals := 45 } : Room) (va_Pc [.ref x, .int le] (fun U => U.heap = Hh ∧ va_K (dC, dI) classes (pbt k1 k2 k3 k4 k5) U)) (va_Qi (fun r (_ : Unit) => r = (nI (kb_fst (kb_ah f u w g mf mu ml le) k 0))) (fun _ t => t.heap = Hh) (fun _ => False)) 0 0 (fun _ => False) := by
  refine Met.ofW (cc := cX0_countAhead) (maxL := 3) (ret := (some .int)) (by decide) rfl ?_
  intro p e s m args below meth c s₁ B hml hv
  obtain ⟨rfl, hHh, hK⟩ := hv
  subst hHh
  have hx := B.exec
  have hb := B.bytes
  have hr := B.returns
  have hts := atoms_spec (ws := ww yX0_countAhead cX0_countAhead 3 (some .int)) B.pre
  have htl : ∀ w ∈ ltg, w.before [.ref x, .int le].toArray s = true := fun w h => hts w (List.mem_cons_of_mem _ h)
  have hown : s.vm.findClass RX0 = some m.cls := findClass_of_methodNamed B.named
  have hlocks := B.notSynchronized
  have hl := lv_entry ([.ref x, .int le]) (n := 3) (Nat.le_of_ble_eq_true rfl)
  rw [lg_entry_eq]
  generalize (lg_sl ([.ref x, .int le]) ++ List.replicate (3 - (lg_sl ([.ref x, .int le])).length) Slot.unset).toArray = ls at hl ⊢
  have hl : lv_has ls 3 [(0, .ref x), (1, .int le)] := hl
  refine lv_iconst (v := nI 0) hx hb dX0_countAhead_0 (by decide) ?_
  refine lv_istore_n (lv' := [(2, .int (nI 0)), (0, .ref x), (1, .int le)]) hx hb dX0_countAhead_1 rfl hl (by decide) rfl (fun ls hl => ?_)
  have loop : ∀ (d i : Nat), i ≤ k → k + 1 ≤ i + d → (∀ j, j < i → kb_ah f u w g mf mu ml le j = true) → ∀ (ls : Array Slot), lv_has ls 3 [(0, .ref x), (1, .int le), (2, .int (nI i))] → W p l e ({ frames := 2, cells := 0, slots := 0, locals := 45 } : Room) s m ([.ref x, .int le] : List Value).toArray below meth c s.heap [] 0 0 (MQ below (va_Qi (fun r (_ : Unit) => r = (nI (kb_fst (kb_ah f u w g mf mu ml le) k 0))) (fun _ t => t.heap = s.heap) (fun _ => False)) [.ref x, .int le].toArray s 0 0 (fun _ => False)) (F0 m 2 ls []) := by
    intro d
    induction d with
    | zero => intro i h1 h2; exact absurd h2 (by omega)
    | succ d ih =>
      intro i  hi hd hinv ls hl
      refine lv_iload_n hx hb dX0_countAhead_2 rfl (lv_at hl 2 rfl) ?_
      refine lv_aload_n hx hb dX0_countAhead_3 rfl (lv_at hl 0 rfl) ?_
      refine va_get (D := (dC, dI)) (ci := 0) (v := .int (nI k)) (C := RX0) (T := TX0) (N := 9) hx hb htl inX0 hown hK hP 0 rfl rfl 5 (by decide) (htl _ flX0_26) (fun _ h9 => h9) rfl dX0_countAhead_4 ?_
      refine lv_icmp_ge (tgt := 27) hx hb dX0_countAhead_7 (by decide) (fun c_1 => ?_) (fun c_1 => ?_)
      · rw [nI_leI (by omega) (by omega)] at c_1
        refine lv_aload_n hx hb dX0_countAhead_27 rfl (lv_at hl 0 rfl) ?_
        refine va_get (D := (dC, dI)) (ci := 0) (v := .int (nI k)) (C := RX0) (T := TX0) (N := 9) hx hb htl inX0 hown hK hP 0 rfl rfl 5 (by decide) (htl _ flX0_26) (fun _ h9 => h9) rfl dX0_countAhead_28 ?_
        exact ru_iret hx hb hr hlocks (by rw [kb_fst_eq _ k k (Nat.le_refl k) (fun j h => hinv j (by omega)) (Or.inl rfl)]) dX0_countAhead_31
      · rw [nI_leI (by omega) (by omega), Nat.not_le] at c_1
        refine lv_aload_n hx hb dX0_countAhead_10 rfl (lv_at hl 0 rfl) ?_
        refine lv_iload_n hx hb dX0_countAhead_11 rfl (lv_at hl 2 rfl) ?_
        refine lv_iload_n hx hb dX0_countAhead_12 rfl (lv_at hl 1 rfl) ?_
        refine ru_calli (va_runV (As := [.int (nI i), .int le]) (rest := []) ⟨hx, hb, hml, hown, htl⟩ (c_X0_standsAhead l dC dI i le _ (by omega) hP) (cwV 2 htl gX0_96 rfl rfl rfl hd_X0_standsAhead ⟨Nat.le_of_ble_eq_true rfl, Nat.le_of_ble_eq_true rfl⟩) ⟨fb_ro, va_recv hK hP (ci := 0) (q0 := 0) rfl rfl, fun U hU hW => ⟨rfl, hU, va_K.moved hW.alike hK⟩⟩ rfl rfl hl.1 rfl (lv_room (Nat.le_of_ble_eq_true rfl)) dX0_countAhead_13 ⟨Nat.le_of_ble_eq_true rfl, Nat.le_of_ble_eq_true rfl⟩) ?_
        refine lv_if_ne (tgt := 21) hx hb dX0_countAhead_16 (by decide) (fun c_2 => ?_) (fun c_2 => ?_)
        · rw [b2i_0, Bool.not_eq_false] at c_2
          refine lv_iinc (v := nI (i + 1)) (lv' := [(2, .int (nI (i + 1))), (0, .ref x), (1, .int le)]) hx hb dX0_countAhead_21 hl (k := 2) rfl (by first | rfl | exact nI_1 _) (by decide) rfl (fun ls hl => ?_)
          refine lv_goto (tgt := 2) hx hb dX0_countAhead_24 (by decide) ?_
          exact ih (i + 1) c_1 (by omega) (lt_s hinv c_2) ls (lv_sub hl [1, 2, 0] rfl)
        · rw [b2i_0] at c_2
          refine lv_iload_n hx hb dX0_countAhead_19 rfl (lv_at hl 2 rfl) ?_
          exact ru_iret hx hb hr hlocks (by rw [kb_fst_eq _ k i hi hinv (Or.inr c_2)]) dX0_countAhead_20
  exact loop (k + 1) 0 (Nat.zero_le k) (by omega) (fun j h => absurd h (by omega)) ls (lv_sub hl [1, 2, 0] rfl)
set_option maxHeartbeats 4000000 in
set_option maxRecDepth 100000 in
theorem c_X0_longest (l : Launch) (dC : Nat → ClassId) (dI : Nat → Nat → Nat) {x a1 a2 a3 a4 a5 : Nat} {k1 k2 k3 k4 k5 : ClassId} {f : Nat → Int32} {u w : Nat → Int64} {g n : Nat → Int32} {k : Nat} {mf : Int32} {mu ml : Int64}  (Hh : Heap) (hk : k ≤ 1000) (hP : va_P (dC, dI) classes (pbw x a1 a2 a3 a4 a5 k1 k2 k3 k4 k5 f u w g n k mf mu ml) Hh) : Met l yX0_longest (ww yX0_longest cX0_longest 3 (some .int)) ({ frames := 3, cells := 0, slots := 0, locals := 62 } : Room) (va_Pc [.ref x] (fun U => U.heap = Hh ∧ va_K (dC, dI) classes (pbt k1 k2 k3 k4 k5) U)) (va_Qi (fun r (_ : Unit) => r = (kb_lg (kb_cov f u w g mf mu ml) g k)) (fun _ t => t.heap = Hh) (fun _ => False)) 0 0 (fun _ => False) := by
  refine Met.ofW (cc := cX0_longest) (maxL := 3) (ret := (some .int)) (by decide) rfl ?_
  intro p e s m args below meth c s₁ B hml hv
  obtain ⟨rfl, hHh, hK⟩ := hv
  subst hHh
  have hx := B.exec
  have hb := B.bytes
  have hr := B.returns
  have hts := atoms_spec (ws := ww yX0_longest cX0_longest 3 (some .int)) B.pre
  have htl : ∀ w ∈ ltg, w.before [.ref x].toArray s = true := fun w h => hts w (List.mem_cons_of_mem _ h)
  have hown : s.vm.findClass RX0 = some m.cls := findClass_of_methodNamed B.named
  have hlocks := B.notSynchronized
  have hl := lv_entry ([.ref x]) (n := 3) (Nat.le_of_ble_eq_true rfl)
  rw [lg_entry_eq]
  generalize (lg_sl ([.ref x]) ++ List.replicate (3 - (lg_sl ([.ref x])).length) Slot.unset).toArray = ls at hl ⊢
  have hl : lv_has ls 3 [(0, .ref x)] := hl
  refine lv_iconst (v := (-1)) hx hb dX0_longest_0 (by decide) ?_
  refine lv_istore_n (lv' := [(1, .int (-1)), (0, .ref x)]) hx hb dX0_longest_1 rfl hl (by decide) rfl (fun ls hl => ?_)
  refine lv_iconst (v := nI 0) hx hb dX0_longest_2 (by decide) ?_
  refine lv_istore_n (lv' := [(2, .int (nI 0)), (1, .int (-1)), (0, .ref x)]) hx hb dX0_longest_3 rfl hl (by decide) rfl (fun ls hl => ?_)
  have loop : ∀ (d i : Nat) (y : Int32), i ≤ k → k + 1 ≤ i + d → y = kb_lg (kb_cov f u w g mf mu ml) g i → ∀ (ls : Array Slot), lv_has ls 3 [(0, .ref x), (1, .int y), (2, .int (nI i))] → W p l e ({ frames := 3, cells := 0, slots := 0, locals := 62 } : Room) s m ([.ref x] : List Value).toArray below meth c s.heap [] 0 0 (MQ below (va_Qi (fun r (_ : Unit) => r = (kb_lg (kb_cov f u w g mf mu ml) g k)) (fun _ t => t.heap = s.heap) (fun _ => False)) [.ref x].toArray s 0 0 (fun _ => False)) (F0 m 4 ls []) := by
    intro d
    induction d with
    | zero => intro i y h1 h2; exact absurd h2 (by omega)
    | succ d ih =>
      intro i y hi hd hinv ls hl
      refine lv_iload_n hx hb dX0_longest_4 rfl (lv_at hl 2 rfl) ?_
      refine lv_aload_n hx hb dX0_longest_5 rfl (lv_at hl 0 rfl) ?_
      refine va_get (D := (dC, dI)) (ci := 0) (v := .int (nI k)) (C := RX0) (T := TX0) (N := 9) hx hb htl inX0 hown hK hP 0 rfl rfl 5 (by decide) (htl _ flX0_26) (fun _ h9 => h9) rfl dX0_longest_6 ?_
      refine lv_icmp_ge (tgt := 43) hx hb dX0_longest_9 (by decide) (fun c_1 => ?_) (fun c_1 => ?_)
      · rw [nI_leI (by omega) (by omega)] at c_1
        refine lv_iload_n hx hb dX0_longest_43 rfl (lv_at hl 1 rfl) ?_
        exact ru_iret hx hb hr hlocks (by rw [hinv, Nat.le_antisymm hi c_1]) dX0_longest_44
      · rw [nI_leI (by omega) (by omega), Nat.not_le] at c_1
        refine lv_aload_n hx hb dX0_longest_12 rfl (lv_at hl 0 rfl) ?_
        refine lv_iload_n hx hb dX0_longest_13 rfl (lv_at hl 2 rfl) ?_
        refine ru_calli (va_runV (As := [.int (nI i)]) (rest := []) ⟨hx, hb, hml, hown, htl⟩ (c_X0_coversMeant l dC dI i _ (by omega) hP) (cwV 1 htl gX0_72 rfl rfl rfl hd_X0_coversMeant ⟨Nat.le_of_ble_eq_true rfl, Nat.le_of_ble_eq_true rfl⟩) ⟨fb_ro, va_recv hK hP (ci := 0) (q0 := 0) rfl rfl, fun U hU hW => ⟨rfl, hU, va_K.moved hW.alike hK⟩⟩ rfl rfl hl.1 rfl (lv_room (Nat.le_of_ble_eq_true rfl)) dX0_longest_14 ⟨Nat.le_of_ble_eq_true rfl, Nat.le_of_ble_eq_true rfl⟩) ?_
        refine lv_if_eq (tgt := 37) hx hb dX0_longest_17 (by decide) (fun c_2 => ?_) (fun c_2 => ?_)
        · rw [b2i_0] at c_2
          refine lv_iinc (v := nI (i + 1)) (lv' := [(2, .int (nI (i + 1))), (0, .ref x), (1, .int y)]) hx hb dX0_longest_37 hl (k := 2) rfl (by first | rfl | exact nI_1 _) (by decide) rfl (fun ls hl => ?_)
          refine lv_goto (tgt := 4) hx hb dX0_longest_40 (by decide) ?_
          exact ih (i + 1) y c_1 (by omega) (by subst hinv; simp [kb_lg, c_2]) ls (lv_sub hl [1, 2, 0] rfl)
        · rw [b2i_0, Bool.not_eq_false] at c_2
          refine lv_aload_n hx hb dX0_longest_20 rfl (lv_at hl 0 rfl) ?_
          refine va_get (D := (dC, dI)) (ci := 0) (v := .ref a4) (C := RX0) (T := TX0) (N := 9) hx hb htl inX0 hown hK hP 0 rfl rfl 3 (by decide) (htl _ flX0_20) (fun _ h9 => h9) rfl dX0_longest_21 ?_
          refine lv_iload_n hx hb dX0_longest_24 rfl (lv_at hl 2 rfl) ?_
          refine ld_i hx hb hK hP 4 3 rfl rfl (j := i) (by omega) (Nat.le_of_ble_eq_true rfl) dX0_longest_25 ?_
          refine lv_iload_n hx hb dX0_longest_26 rfl (lv_at hl 1 rfl) ?_
          refine lv_icmp_le (tgt := 37) hx hb dX0_longest_27 (by decide) (fun c_3 => ?_) (fun c_3 => ?_)
          · refine lv_iinc (v := nI (i + 1)) (lv' := [(2, .int (nI (i + 1))), (0, .ref x), (1, .int y)]) hx hb dX0_longest_37 hl (k := 2) rfl (by first | rfl | exact nI_1 _) (by decide) rfl (fun ls hl => ?_)
            refine lv_goto (tgt := 4) hx hb dX0_longest_40 (by decide) ?_
            exact ih (i + 1) y c_1 (by omega) (by subst hinv; simp [kb_lg, c_2, c_3]) ls (lv_sub hl [1, 2, 0] rfl)
          · refine lv_aload_n hx hb dX0_longest_30 rfl (lv_at hl 0 rfl) ?_
            refine va_get (D := (dC, dI)) (ci := 0) (v := .ref a4) (C := RX0) (T := TX0) (N := 9) hx hb htl inX0 hown hK hP 0 rfl rfl 3 (by decide) (htl _ flX0_20) (fun _ h9 => h9) rfl dX0_longest_31 ?_
            refine lv_iload_n hx hb dX0_longest_34 rfl (lv_at hl 2 rfl) ?_
            refine ld_i hx hb hK hP 4 3 rfl rfl (j := i) (by omega) (Nat.le_of_ble_eq_true rfl) dX0_longest_35 ?_
            refine lv_topi (fun y_4 ey_4 => ?_)
            refine lv_istore_n (lv' := [(1, .int y_4), (0, .ref x), (2, .int (nI i))]) hx hb dX0_longest_36 rfl hl (by decide) rfl (fun ls hl => ?_)
            refine lv_iinc (v := nI (i + 1)) (lv' := [(2, .int (nI (i + 1))), (1, .int y_4), (0, .ref x)]) hx hb dX0_longest_37 hl (k := 2) rfl (by first | rfl | exact nI_1 _) (by decide) rfl (fun ls hl => ?_)
            refine lv_goto (tgt := 4) hx hb dX0_longest_40 (by decide) ?_
            exact ih (i + 1) y_4 c_1 (by omega) (by subst hinv; simp [kb_lg, c_2, c_3, ey_4]) ls (lv_sub hl [2, 1, 0] rfl)
  exact loop (k + 1) 0 (-1) (Nat.zero_le k) (by omega) rfl ls (lv_sub hl [2, 1, 0] rfl)
set_option maxHeartbeats 4000000 in
set_option maxRecDepth 100000 in
theorem c_X0_covering (l : Launch) (dC : Nat → ClassId) (dI : Nat → Nat → Nat) {x a1 a2 a3 a4 a5 : Nat} {k1 k2 k3 k4 k5 : ClassId} {f : Nat → Int32} {u w : Nat → Int64} {g n : Nat → Int32} {k : Nat} {mf : Int32} {mu ml : Int64}  (Hh : Heap) (hk : k ≤ 1000) (hP : va_P (dC, dI) classes (pbw x a1 a2 a3 a4 a5 k1 k2 k3 k4 k5 f u w g n k mf mu ml) Hh) : Met l yX0_covering (ww yX0_covering cX0_covering 3 (some .int)) ({ frames := 3, cells := 0, slots := 0, locals := 62 } : Room) (va_Pc [.ref x] (fun U => U.heap = Hh ∧ va_K (dC, dI) classes (pbt k1 k2 k3 k4 k5) U)) (va_Qi (fun r (_ : Unit) => r = (nI (kb_cv (kb_cov f u w g mf mu ml) k))) (fun _ t => t.heap = Hh) (fun _ => False)) 0 0 (fun _ => False) := by
  refine Met.ofW (cc := cX0_covering) (maxL := 3) (ret := (some .int)) (by decide) rfl ?_
  intro p e s m args below meth c s₁ B hml hv
  obtain ⟨rfl, hHh, hK⟩ := hv
  subst hHh
  have hx := B.exec
  have hb := B.bytes
  have hr := B.returns
  have hts := atoms_spec (ws := ww yX0_covering cX0_covering 3 (some .int)) B.pre
  have htl : ∀ w ∈ ltg, w.before [.ref x].toArray s = true := fun w h => hts w (List.mem_cons_of_mem _ h)
  have hown : s.vm.findClass RX0 = some m.cls := findClass_of_methodNamed B.named
  have hlocks := B.notSynchronized
  have hl := lv_entry ([.ref x]) (n := 3) (Nat.le_of_ble_eq_true rfl)
  rw [lg_entry_eq]
  generalize (lg_sl ([.ref x]) ++ List.replicate (3 - (lg_sl ([.ref x])).length) Slot.unset).toArray = ls at hl ⊢
  have hl : lv_has ls 3 [(0, .ref x)] := hl
  refine lv_iconst (v := nI 0) hx hb dX0_covering_0 (by decide) ?_
  refine lv_istore_n (lv' := [(1, .int (nI 0)), (0, .ref x)]) hx hb dX0_covering_1 rfl hl (by decide) rfl (fun ls hl => ?_)
  refine lv_iconst (v := nI 0) hx hb dX0_covering_2 (by decide) ?_
  refine lv_istore_n (lv' := [(2, .int (nI 0)), (1, .int (nI 0)), (0, .ref x)]) hx hb dX0_covering_3 rfl hl (by decide) rfl (fun ls hl => ?_)
  have loop : ∀ (d i : Nat) (z : Nat), i ≤ k → k + 1 ≤ i + d → z = kb_cv (kb_cov f u w g mf mu ml) i → ∀ (ls : Array Slot), lv_has ls 3 [(0, .ref x), (1, .int (nI z)), (2, .int (nI i))] → W p l e ({ frames := 3, cells := 0, slots := 0, locals := 62 } : Room) s m ([.ref x] : List Value).toArray below meth c s.heap [] 0 0 (MQ below (va_Qi (fun r (_ : Unit) => r = (nI (kb_cv (kb_cov f u w g mf mu ml) k))) (fun _ t => t.heap = s.heap) (fun _ => False)) [.ref x].toArray s 0 0 (fun _ => False)) (F0 m 4 ls []) := by
    intro d
    induction d with
    | zero => intro i z h1 h2; exact absurd h2 (by omega)
    | succ d ih =>
      intro i z hi hd hinv ls hl
      refine lv_iload_n hx hb dX0_covering_4 rfl (lv_at hl 2 rfl) ?_
      refine lv_aload_n hx hb dX0_covering_5 rfl (lv_at hl 0 rfl) ?_
      refine va_get (D := (dC, dI)) (ci := 0) (v := .int (nI k)) (C := RX0) (T := TX0) (N := 9) hx hb htl inX0 hown hK hP 0 rfl rfl 5 (by decide) (htl _ flX0_26) (fun _ h9 => h9) rfl dX0_covering_6 ?_
      refine lv_icmp_ge (tgt := 29) hx hb dX0_covering_9 (by decide) (fun c_1 => ?_) (fun c_1 => ?_)
      · rw [nI_leI (by omega) (by omega)] at c_1
        refine lv_iload_n hx hb dX0_covering_29 rfl (lv_at hl 1 rfl) ?_
        exact ru_iret hx hb hr hlocks (by rw [hinv, Nat.le_antisymm hi c_1]) dX0_covering_30
      · rw [nI_leI (by omega) (by omega), Nat.not_le] at c_1
        refine lv_aload_n hx hb dX0_covering_12 rfl (lv_at hl 0 rfl) ?_
        refine lv_iload_n hx hb dX0_covering_13 rfl (lv_at hl 2 rfl) ?_
        refine ru_calli (va_runV (As := [.int (nI i)]) (rest := []) ⟨hx, hb, hml, hown, htl⟩ (c_X0_coversMeant l dC dI i _ (by omega) hP) (cwV 1 htl gX0_72 rfl rfl rfl hd_X0_coversMeant ⟨Nat.le_of_ble_eq_true rfl, Nat.le_of_ble_eq_true rfl⟩) ⟨fb_ro, va_recv hK hP (ci := 0) (q0 := 0) rfl rfl, fun U hU hW => ⟨rfl, hU, va_K.moved hW.alike hK⟩⟩ rfl rfl hl.1 rfl (lv_room (Nat.le_of_ble_eq_true rfl)) dX0_covering_14 ⟨Nat.le_of_ble_eq_true rfl, Nat.le_of_ble_eq_true rfl⟩) ?_
        refine lv_if_eq (tgt := 23) hx hb dX0_covering_17 (by decide) (fun c_2 => ?_) (fun c_2 => ?_)
        · rw [b2i_0] at c_2
          refine lv_iinc (v := nI (i + 1)) (lv' := [(2, .int (nI (i + 1))), (0, .ref x), (1, .int (nI z))]) hx hb dX0_covering_23 hl (k := 2) rfl (by first | rfl | exact nI_1 _) (by decide) rfl (fun ls hl => ?_)
          refine lv_goto (tgt := 4) hx hb dX0_covering_26 (by decide) ?_
          exact ih (i + 1) z c_1 (by omega) (by subst hinv; simp [kb_cv, c_2]) ls (lv_sub hl [1, 2, 0] rfl)
        · rw [b2i_0, Bool.not_eq_false] at c_2
          refine lv_iinc (v := nI (z + 1)) (lv' := [(1, .int (nI (z + 1))), (0, .ref x), (2, .int (nI i))]) hx hb dX0_covering_20 hl (k := 1) rfl (by first | rfl | exact nI_1 _) (by decide) rfl (fun ls hl => ?_)
          refine lv_iinc (v := nI (i + 1)) (lv' := [(2, .int (nI (i + 1))), (1, .int (nI (z + 1))), (0, .ref x)]) hx hb dX0_covering_23 hl (k := 2) rfl (by first | rfl | exact nI_1 _) (by decide) rfl (fun ls hl => ?_)
          refine lv_goto (tgt := 4) hx hb dX0_covering_26 (by decide) ?_
          exact ih (i + 1) (z + 1) c_1 (by omega) (by subst hinv; simp [kb_cv, c_2]) ls (lv_sub hl [2, 1, 0] rfl)
  exact loop (k + 1) 0 0 (Nat.zero_le k) (by omega) rfl ls (lv_sub hl [2, 1, 0] rfl)
end
section
/-! THE CLASS: its methods that write -/
set_option maxHeartbeats 4000000 in
set_option maxRecDepth 100000 in
theorem c_X0_mean (l : Launch) (dC : Nat → ClassId) (dI : Nat → Nat → Nat) {x a1 a2 a3 a4 a5 : Nat} {k1 k2 k3 k4 k5 : ClassId} {f : Nat → Int32} {u w : Nat → Int64} {g n : Nat → Int32} {k : Nat} {mf : Int32} {mu ml : Int64} (fa : Int32) (up lo : Int64) (A : Nat → Prop)  (hD : va_D A (pbw x a1 a2 a3 a4 a5 k1 k2 k3 k4 k5 f u w g n k mf mu ml)) : Met l yX0_mean (ww yX0_mean cX0_mean 6 none) ({ frames := 0, cells := 0, slots := 0, locals := 0 } : Room) (va_Pc [.ref x, .int fa, .long up, .long lo] (fun U => va_P (dC, dI) classes (pbw x a1 a2 a3 a4 a5 k1 k2 k3 k4 k5 f u w g n k mf mu ml) U.heap ∧ va_K (dC, dI) classes (pbt k1 k2 k3 k4 k5) U)) (va_Qv (fun (_ : Unit) => True) (fun _ t => va_P (dC, dI) classes (pbw x a1 a2 a3 a4 a5 k1 k2 k3 k4 k5 f u w g n k fa up lo) t.heap) A) 0 0 A := by
  refine Met.ofW (cc := cX0_mean) (maxL := 6) (ret := none) (by decide) rfl ?_
  intro p e s m args below meth c s₁ B hml hv
  obtain ⟨rfl, hP, hK⟩ := hv
  have hS : va_S A s.heap s.heap [] := va_S.rf
  have hx := B.exec
  have hb := B.bytes
  have hr := B.returns
  have hts := atoms_spec (ws := ww yX0_mean cX0_mean 6 none) B.pre
  have htl : ∀ w ∈ ltg, w.before [.ref x, .int fa, .long up, .long lo].toArray s = true := fun w h => hts w (List.mem_cons_of_mem _ h)
  have hown : s.vm.findClass RX0 = some m.cls := findClass_of_methodNamed B.named
  have hlocks := B.notSynchronized
  have hl := lv_entry ([.ref x, .int fa, .long up, .long lo]) (n := 6) (Nat.le_of_ble_eq_true rfl)
  rw [lg_entry_eq]
  generalize (lg_sl ([.ref x, .int fa, .long up, .long lo]) ++ List.replicate (6 - (lg_sl ([.ref x, .int fa, .long up, .long lo])).length) Slot.unset).toArray = ls at hl ⊢
  have hl : lv_has ls 6 [(0, .ref x), (1, .int fa), (2, .long up), (4, .long lo)] := hl
  refine lv_aload_n hx hb dX0_mean_0 rfl (lv_at hl 0 rfl) ?_
  refine lv_iload_n hx hb dX0_mean_1 rfl (lv_at hl 1 rfl) ?_
  refine va_put (D := (dC, dI)) (ci := 0) (v := .int fa) (ty := .int) (C := RX0) (T := TX0) (N := 9) hx hb htl inX0 tyX0 tyX0_ok nmX0 hown hK hP hD hS 0 rfl rfl 6 (by decide) (htl _ flX0_30) (fun _ h9 => h9) rfl (by decide +kernel) rfl rfl (Nat.le_of_ble_eq_true rfl) dX0_mean_2 (fun H_1 locs hP hD hS => ?_)
  have hP : va_P (dC, dI) classes [(x, .inr (0, [.ref a1, .ref a2, .ref a3, .ref a4, .ref a5, .int (nI k), .int fa, .long mu, .long ml])), (a1, .inl (k1, 1000, .inl f)), (a2, .inl (k2, 1000, .inr (.inl u))), (a3, .inl (k3, 1000, .inr (.inl w))), (a4, .inl (k4, 1000, .inl g)), (a5, .inl (k5, 1000, .inl n))] H_1 := hP
  have hD : va_D A [(x, .inr (0, [.ref a1, .ref a2, .ref a3, .ref a4, .ref a5, .int (nI k), .int fa, .long mu, .long ml])), (a1, .inl (k1, 1000, .inl f)), (a2, .inl (k2, 1000, .inr (.inl u))), (a3, .inl (k3, 1000, .inr (.inl w))), (a4, .inl (k4, 1000, .inl g)), (a5, .inl (k5, 1000, .inl n))] := hD
  refine lv_aload_n hx hb dX0_mean_5 rfl (lv_at hl 0 rfl) ?_
  refine lv_lload_n hx hb dX0_mean_6 rfl (lv_at hl 2 rfl) ?_
  refine va_put (D := (dC, dI)) (ci := 0) (v := .long up) (ty := .long) (C := RX0) (T := TX0) (N := 9) hx hb htl inX0 tyX0 tyX0_ok nmX0 hown hK hP hD hS 0 rfl rfl 7 (by decide) (htl _ flX0_33) (fun _ h9 => h9) rfl (by decide +kernel) rfl rfl (Nat.le_of_ble_eq_true rfl) dX0_mean_7 (fun H_2 locs hP hD hS => ?_)
  have hP : va_P (dC, dI) classes [(x, .inr (0, [.ref a1, .ref a2, .ref a3, .ref a4, .ref a5, .int (nI k), .int fa, .long up, .long ml])), (a1, .inl (k1, 1000, .inl f)), (a2, .inl (k2, 1000, .inr (.inl u))), (a3, .inl (k3, 1000, .inr (.inl w))), (a4, .inl (k4, 1000, .inl g)), (a5, .inl (k5, 1000, .inl n))] H_2 := hP
  have hD : va_D A [(x, .inr (0, [.ref a1, .ref a2, .ref a3, .ref a4, .ref a5, .int (nI k), .int fa, .long up, .long ml])), (a1, .inl (k1, 1000, .inl f)), (a2, .inl (k2, 1000, .inr (.inl u))), (a3, .inl (k3, 1000, .inr (.inl w))), (a4, .inl (k4, 1000, .inl g)), (a5, .inl (k5, 1000, .inl n))] := hD
  refine lv_aload_n hx hb dX0_mean_10 rfl (lv_at hl 0 rfl) ?_
  refine lv_lload hx hb dX0_mean_11 (lv_at hl 3 rfl) ?_
  refine va_put (D := (dC, dI)) (ci := 0) (v := .long lo) (ty := .long) (C := RX0) (T := TX0) (N := 9) hx hb htl inX0 tyX0 tyX0_ok nmX0 hown hK hP hD hS 0 rfl rfl 8 (by decide) (htl _ flX0_37) (fun _ h9 => h9) rfl (by decide +kernel) rfl rfl (Nat.le_of_ble_eq_true rfl) dX0_mean_13 (fun H_3 locs hP hD hS => ?_)
  have hP : va_P (dC, dI) classes [(x, .inr (0, [.ref a1, .ref a2, .ref a3, .ref a4, .ref a5, .int (nI k), .int fa, .long up, .long lo])), (a1, .inl (k1, 1000, .inl f)), (a2, .inl (k2, 1000, .inr (.inl u))), (a3, .inl (k3, 1000, .inr (.inl w))), (a4, .inl (k4, 1000, .inl g)), (a5, .inl (k5, 1000, .inl n))] H_3 := hP
  have hD : va_D A [(x, .inr (0, [.ref a1, .ref a2, .ref a3, .ref a4, .ref a5, .int (nI k), .int fa, .long up, .long lo])), (a1, .inl (k1, 1000, .inl f)), (a2, .inl (k2, 1000, .inr (.inl u))), (a3, .inl (k3, 1000, .inr (.inl w))), (a4, .inl (k4, 1000, .inl g)), (a5, .inl (k5, 1000, .inl n))] := hD
  exact mu_vret hx hb hr hlocks hS hP (rfl) dX0_mean_16
set_option maxHeartbeats 4000000 in
set_option maxRecDepth 100000 in
theorem c_X0_copyPlace (l : Launch) (dC : Nat → ClassId) (dI : Nat → Nat → Nat) {x a1 a2 a3 a4 a5 : Nat} {k1 k2 k3 k4 k5 : ClassId} {f : Nat → Int32} {u w : Nat → Int64} {g n : Nat → Int32} {k : Nat} {mf : Int32} {mu ml : Int64} (i j : Nat) (A : Nat → Prop) (hi : i < 1000) (hj : j < 1000) (hD : va_D A (pbw x a1 a2 a3 a4 a5 k1 k2 k3 k4 k5 f u w g n k mf mu ml)) : Met l yX0_copyPlace (ww yX0_copyPlace cX0_copyPlace 3 none) ({ frames := 0, cells := 0, slots := 0, locals := 0 } : Room) (va_Pc [.ref x, .int (nI i), .int (nI j)] (fun U => va_P (dC, dI) classes (pbw x a1 a2 a3 a4 a5 k1 k2 k3 k4 k5 f u w g n k mf mu ml) U.heap ∧ va_K (dC, dI) classes (pbt k1 k2 k3 k4 k5) U)) (va_Qv (fun (_ : Unit) => True) (fun _ t => va_P (dC, dI) classes (pbw x a1 a2 a3 a4 a5 k1 k2 k3 k4 k5 (upd f j (f i)) (vp_updL u j (u i)) (vp_updL w j (w i)) (upd g j (g i)) (upd n j (n i)) k mf mu ml) t.heap) A) 0 0 A := by
  refine Met.ofW (cc := cX0_copyPlace) (maxL := 3) (ret := none) (by decide) rfl ?_
  intro p e s m args below meth c s₁ B hml hv
  obtain ⟨rfl, hP, hK⟩ := hv
  have hS : va_S A s.heap s.heap [] := va_S.rf
  have hx := B.exec
  have hb := B.bytes
  have hr := B.returns
  have hts := atoms_spec (ws := ww yX0_copyPlace cX0_copyPlace 3 none) B.pre
  have htl : ∀ w ∈ ltg, w.before [.ref x, .int (nI i), .int (nI j)].toArray s = true := fun w h => hts w (List.mem_cons_of_mem _ h)
  have hown : s.vm.findClass RX0 = some m.cls := findClass_of_methodNamed B.named
  have hlocks := B.notSynchronized
  have hl := lv_entry ([.ref x, .int (nI i), .int (nI j)]) (n := 3) (Nat.le_of_ble_eq_true rfl)
  rw [lg_entry_eq]
  generalize (lg_sl ([.ref x, .int (nI i), .int (nI j)]) ++ List.replicate (3 - (lg_sl ([.ref x, .int (nI i), .int (nI j)])).length) Slot.unset).toArray = ls at hl ⊢
  have hl : lv_has ls 3 [(0, .ref x), (1, .int (nI i)), (2, .int (nI j))] := hl
  refine lv_aload_n hx hb dX0_copyPlace_0 rfl (lv_at hl 0 rfl) ?_
  refine va_get (D := (dC, dI)) (ci := 0) (v := .ref a1) (C := RX0) (T := TX0) (N := 9) hx hb htl inX0 hown hK hP 0 rfl rfl 0 (by decide) (htl _ flX0_9) (fun _ h9 => h9) rfl dX0_copyPlace_1 ?_
  refine lv_iload_n hx hb dX0_copyPlace_4 rfl (lv_at hl 2 rfl) ?_
  refine lv_aload_n hx hb dX0_copyPlace_5 rfl (lv_at hl 0 rfl) ?_
  refine va_get (D := (dC, dI)) (ci := 0) (v := .ref a1) (C := RX0) (T := TX0) (N := 9) hx hb htl inX0 hown hK hP 0 rfl rfl 0 (by decide) (htl _ flX0_9) (fun _ h9 => h9) rfl dX0_copyPlace_6 ?_
  refine lv_iload_n hx hb dX0_copyPlace_9 rfl (lv_at hl 1 rfl) ?_
  refine ld_i hx hb hK hP 1 0 rfl rfl (j := i) (by omega) (Nat.le_of_ble_eq_true rfl) dX0_copyPlace_10 ?_
  refine st_i hx hb hK hP hD hS 1 0 rfl rfl (j := j) (by omega) (Nat.le_of_ble_eq_true rfl) dX0_copyPlace_11 (fun H_1 locs hP hD hS => ?_)
  have hP : va_P (dC, dI) classes [(x, .inr (0, [.ref a1, .ref a2, .ref a3, .ref a4, .ref a5, .int (nI k), .int mf, .long mu, .long ml])), (a1, .inl (k1, 1000, .inl (upd f j (f i)))), (a2, .inl (k2, 1000, .inr (.inl u))), (a3, .inl (k3, 1000, .inr (.inl w))), (a4, .inl (k4, 1000, .inl g)), (a5, .inl (k5, 1000, .inl n))] H_1 := hP
  have hD : va_D A [(x, .inr (0, [.ref a1, .ref a2, .ref a3, .ref a4, .ref a5, .int (nI k), .int mf, .long mu, .long ml])), (a1, .inl (k1, 1000, .inl (upd f j (f i)))), (a2, .inl (k2, 1000, .inr (.inl u))), (a3, .inl (k3, 1000, .inr (.inl w))), (a4, .inl (k4, 1000, .inl g)), (a5, .inl (k5, 1000, .inl n))] := hD
  refine lv_aload_n hx hb dX0_copyPlace_12 rfl (lv_at hl 0 rfl) ?_
  refine va_get (D := (dC, dI)) (ci := 0) (v := .ref a2) (C := RX0) (T := TX0) (N := 9) hx hb htl inX0 hown hK hP 0 rfl rfl 1 (by decide) (htl _ flX0_13) (fun _ h9 => h9) rfl dX0_copyPlace_13 ?_
  refine lv_iload_n hx hb dX0_copyPlace_16 rfl (lv_at hl 2 rfl) ?_
  refine lv_aload_n hx hb dX0_copyPlace_17 rfl (lv_at hl 0 rfl) ?_
  refine va_get (D := (dC, dI)) (ci := 0) (v := .ref a2) (C := RX0) (T := TX0) (N := 9) hx hb htl inX0 hown hK hP 0 rfl rfl 1 (by decide) (htl _ flX0_13) (fun _ h9 => h9) rfl dX0_copyPlace_18 ?_
  refine lv_iload_n hx hb dX0_copyPlace_21 rfl (lv_at hl 1 rfl) ?_
  refine ld_l hx hb hK hP 2 1 rfl rfl (j := i) (by omega) (Nat.le_of_ble_eq_true rfl) dX0_copyPlace_22 ?_
  refine st_l hx hb hK hP hD hS 2 1 rfl rfl (j := j) (by omega) (Nat.le_of_ble_eq_true rfl) dX0_copyPlace_23 (fun H_2 locs hP hD hS => ?_)
  have hP : va_P (dC, dI) classes [(x, .inr (0, [.ref a1, .ref a2, .ref a3, .ref a4, .ref a5, .int (nI k), .int mf, .long mu, .long ml])), (a1, .inl (k1, 1000, .inl (upd f j (f i)))), (a2, .inl (k2, 1000, .inr (.inl (vp_updL u j (u i))))), (a3, .inl (k3, 1000, .inr (.inl w))), (a4, .inl (k4, 1000, .inl g)), (a5, .inl (k5, 1000, .inl n))] H_2 := hP
  have hD : va_D A [(x, .inr (0, [.ref a1, .ref a2, .ref a3, .ref a4, .ref a5, .int (nI k), .int mf, .long mu, .long ml])), (a1, .inl (k1, 1000, .inl (upd f j (f i)))), (a2, .inl (k2, 1000, .inr (.inl (vp_updL u j (u i))))), (a3, .inl (k3, 1000, .inr (.inl w))), (a4, .inl (k4, 1000, .inl g)), (a5, .inl (k5, 1000, .inl n))] := hD
  refine lv_aload_n hx hb dX0_copyPlace_24 rfl (lv_at hl 0 rfl) ?_
  refine va_get (D := (dC, dI)) (ci := 0) (v := .ref a3) (C := RX0) (T := TX0) (N := 9) hx hb htl inX0 hown hK hP 0 rfl rfl 2 (by decide) (htl _ flX0_17) (fun _ h9 => h9) rfl dX0_copyPlace_25 ?_
  refine lv_iload_n hx hb dX0_copyPlace_28 rfl (lv_at hl 2 rfl) ?_
  refine lv_aload_n hx hb dX0_copyPlace_29 rfl (lv_at hl 0 rfl) ?_
  refine va_get (D := (dC, dI)) (ci := 0) (v := .ref a3) (C := RX0) (T := TX0) (N := 9) hx hb htl inX0 hown hK hP 0 rfl rfl 2 (by decide) (htl _ flX0_17) (fun _ h9 => h9) rfl dX0_copyPlace_30 ?_
  refine lv_iload_n hx hb dX0_copyPlace_33 rfl (lv_at hl 1 rfl) ?_
  refine ld_l hx hb hK hP 3 2 rfl rfl (j := i) (by omega) (Nat.le_of_ble_eq_true rfl) dX0_copyPlace_34 ?_
  refine st_l hx hb hK hP hD hS 3 2 rfl rfl (j := j) (by omega) (Nat.le_of_ble_eq_true rfl) dX0_copyPlace_35 (fun H_3 locs hP hD hS => ?_)
  have hP : va_P (dC, dI) classes [(x, .inr (0, [.ref a1, .ref a2, .ref a3, .ref a4, .ref a5, .int (nI k), .int mf, .long mu, .long ml])), (a1, .inl (k1, 1000, .inl (upd f j (f i)))), (a2, .inl (k2, 1000, .inr (.inl (vp_updL u j (u i))))), (a3, .inl (k3, 1000, .inr (.inl (vp_updL w j (w i))))), (a4, .inl (k4, 1000, .inl g)), (a5, .inl (k5, 1000, .inl n))] H_3 := hP
  have hD : va_D A [(x, .inr (0, [.ref a1, .ref a2, .ref a3, .ref a4, .ref a5, .int (nI k), .int mf, .long mu, .long ml])), (a1, .inl (k1, 1000, .inl (upd f j (f i)))), (a2, .inl (k2, 1000, .inr (.inl (vp_updL u j (u i))))), (a3, .inl (k3, 1000, .inr (.inl (vp_updL w j (w i))))), (a4, .inl (k4, 1000, .inl g)), (a5, .inl (k5, 1000, .inl n))] := hD
  refine lv_aload_n hx hb dX0_copyPlace_36 rfl (lv_at hl 0 rfl) ?_
  refine va_get (D := (dC, dI)) (ci := 0) (v := .ref a4) (C := RX0) (T := TX0) (N := 9) hx hb htl inX0 hown hK hP 0 rfl rfl 3 (by decide) (htl _ flX0_20) (fun _ h9 => h9) rfl dX0_copyPlace_37 ?_
  refine lv_iload_n hx hb dX0_copyPlace_40 rfl (lv_at hl 2 rfl) ?_
  refine lv_aload_n hx hb dX0_copyPlace_41 rfl (lv_at hl 0 rfl) ?_
  refine va_get (D := (dC, dI)) (ci := 0) (v := .ref a4) (C := RX0) (T := TX0) (N := 9) hx hb htl inX0 hown hK hP 0 rfl rfl 3 (by decide) (htl _ flX0_20) (fun _ h9 => h9) rfl dX0_copyPlace_42 ?_
  refine lv_iload_n hx hb dX0_copyPlace_45 rfl (lv_at hl 1 rfl) ?_
  refine ld_i hx hb hK hP 4 3 rfl rfl (j := i) (by omega) (Nat.le_of_ble_eq_true rfl) dX0_copyPlace_46 ?_
  refine st_i hx hb hK hP hD hS 4 3 rfl rfl (j := j) (by omega) (Nat.le_of_ble_eq_true rfl) dX0_copyPlace_47 (fun H_4 locs hP hD hS => ?_)
  have hP : va_P (dC, dI) classes [(x, .inr (0, [.ref a1, .ref a2, .ref a3, .ref a4, .ref a5, .int (nI k), .int mf, .long mu, .long ml])), (a1, .inl (k1, 1000, .inl (upd f j (f i)))), (a2, .inl (k2, 1000, .inr (.inl (vp_updL u j (u i))))), (a3, .inl (k3, 1000, .inr (.inl (vp_updL w j (w i))))), (a4, .inl (k4, 1000, .inl (upd g j (g i)))), (a5, .inl (k5, 1000, .inl n))] H_4 := hP
  have hD : va_D A [(x, .inr (0, [.ref a1, .ref a2, .ref a3, .ref a4, .ref a5, .int (nI k), .int mf, .long mu, .long ml])), (a1, .inl (k1, 1000, .inl (upd f j (f i)))), (a2, .inl (k2, 1000, .inr (.inl (vp_updL u j (u i))))), (a3, .inl (k3, 1000, .inr (.inl (vp_updL w j (w i))))), (a4, .inl (k4, 1000, .inl (upd g j (g i)))), (a5, .inl (k5, 1000, .inl n))] := hD
  refine lv_aload_n hx hb dX0_copyPlace_48 rfl (lv_at hl 0 rfl) ?_
  refine va_get (D := (dC, dI)) (ci := 0) (v := .ref a5) (C := RX0) (T := TX0) (N := 9) hx hb htl inX0 hown hK hP 0 rfl rfl 4 (by decide) (htl _ flX0_23) (fun _ h9 => h9) rfl dX0_copyPlace_49 ?_
  refine lv_iload_n hx hb dX0_copyPlace_52 rfl (lv_at hl 2 rfl) ?_
  refine lv_aload_n hx hb dX0_copyPlace_53 rfl (lv_at hl 0 rfl) ?_
  refine va_get (D := (dC, dI)) (ci := 0) (v := .ref a5) (C := RX0) (T := TX0) (N := 9) hx hb htl inX0 hown hK hP 0 rfl rfl 4 (by decide) (htl _ flX0_23) (fun _ h9 => h9) rfl dX0_copyPlace_54 ?_
  refine lv_iload_n hx hb dX0_copyPlace_57 rfl (lv_at hl 1 rfl) ?_
  refine ld_i hx hb hK hP 5 4 rfl rfl (j := i) (by omega) (Nat.le_of_ble_eq_true rfl) dX0_copyPlace_58 ?_
  refine st_i hx hb hK hP hD hS 5 4 rfl rfl (j := j) (by omega) (Nat.le_of_ble_eq_true rfl) dX0_copyPlace_59 (fun H_5 locs hP hD hS => ?_)
  have hP : va_P (dC, dI) classes [(x, .inr (0, [.ref a1, .ref a2, .ref a3, .ref a4, .ref a5, .int (nI k), .int mf, .long mu, .long ml])), (a1, .inl (k1, 1000, .inl (upd f j (f i)))), (a2, .inl (k2, 1000, .inr (.inl (vp_updL u j (u i))))), (a3, .inl (k3, 1000, .inr (.inl (vp_updL w j (w i))))), (a4, .inl (k4, 1000, .inl (upd g j (g i)))), (a5, .inl (k5, 1000, .inl (upd n j (n i))))] H_5 := hP
  have hD : va_D A [(x, .inr (0, [.ref a1, .ref a2, .ref a3, .ref a4, .ref a5, .int (nI k), .int mf, .long mu, .long ml])), (a1, .inl (k1, 1000, .inl (upd f j (f i)))), (a2, .inl (k2, 1000, .inr (.inl (vp_updL u j (u i))))), (a3, .inl (k3, 1000, .inr (.inl (vp_updL w j (w i))))), (a4, .inl (k4, 1000, .inl (upd g j (g i)))), (a5, .inl (k5, 1000, .inl (upd n j (n i))))] := hD
  exact mu_vret hx hb hr hlocks hS hP (rfl) dX0_copyPlace_60
set_option maxHeartbeats 4000000 in
set_option maxRecDepth 100000 in
theorem c_X0_write (l : Launch) (dC : Nat → ClassId) (dI : Nat → Nat → Nat) {x a1 a2 a3 a4 a5 : Nat} {k1 k2 k3 k4 k5 : ClassId} {f : Nat → Int32} {u w : Nat → Int64} {g n : Nat → Int32} {k : Nat} {mf : Int32} {mu ml : Int64} (j : Nat) (le nu : Int32) (A : Nat → Prop) (hj : j < 1000) (hD : va_D A (pbw x a1 a2 a3 a4 a5 k1 k2 k3 k4 k5 f u w g n k mf mu ml)) : Met l yX0_write (ww yX0_write cX0_write 4 none) ({ frames := 0, cells := 0, slots := 0, locals := 0 } : Room) (va_Pc [.ref x, .int (nI j), .int le, .int nu] (fun U => va_P (dC, dI) classes (pbw x a1 a2 a3 a4 a5 k1 k2 k3 k4 k5 f u w g n k mf mu ml) U.heap ∧ va_K (dC, dI) classes (pbt k1 k2 k3 k4 k5) U)) (va_Qv (fun (_ : Unit) => True) (fun _ t => va_P (dC, dI) classes (pbw x a1 a2 a3 a4 a5 k1 k2 k3 k4 k5 (upd f j mf) (vp_updL u j mu) (vp_updL w j ml) (upd g j le) (upd n j nu) k mf mu ml) t.heap) A) 0 0 A := by
  refine Met.ofW (cc := cX0_write) (maxL := 4) (ret := none) (by decide) rfl ?_
  intro p e s m args below meth c s₁ B hml hv
  obtain ⟨rfl, hP, hK⟩ := hv
  have hS : va_S A s.heap s.heap [] := va_S.rf
  have hx := B.exec
  have hb := B.bytes
  have hr := B.returns
  have hts := atoms_spec (ws := ww yX0_write cX0_write 4 none) B.pre
  have htl : ∀ w ∈ ltg, w.before [.ref x, .int (nI j), .int le, .int nu].toArray s = true := fun w h => hts w (List.mem_cons_of_mem _ h)
  have hown : s.vm.findClass RX0 = some m.cls := findClass_of_methodNamed B.named
  have hlocks := B.notSynchronized
  have hl := lv_entry ([.ref x, .int (nI j), .int le, .int nu]) (n := 4) (Nat.le_of_ble_eq_true rfl)
  rw [lg_entry_eq]
  generalize (lg_sl ([.ref x, .int (nI j), .int le, .int nu]) ++ List.replicate (4 - (lg_sl ([.ref x, .int (nI j), .int le, .int nu])).length) Slot.unset).toArray = ls at hl ⊢
  have hl : lv_has ls 4 [(0, .ref x), (1, .int (nI j)), (2, .int le), (3, .int nu)] := hl
  refine lv_aload_n hx hb dX0_write_0 rfl (lv_at hl 0 rfl) ?_
  refine va_get (D := (dC, dI)) (ci := 0) (v := .ref a1) (C := RX0) (T := TX0) (N := 9) hx hb htl inX0 hown hK hP 0 rfl rfl 0 (by decide) (htl _ flX0_9) (fun _ h9 => h9) rfl dX0_write_1 ?_
  refine lv_iload_n hx hb dX0_write_4 rfl (lv_at hl 1 rfl) ?_
  refine lv_aload_n hx hb dX0_write_5 rfl (lv_at hl 0 rfl) ?_
  refine va_get (D := (dC, dI)) (ci := 0) (v := .int mf) (C := RX0) (T := TX0) (N := 9) hx hb htl inX0 hown hK hP 0 rfl rfl 6 (by decide) (htl _ flX0_30) (fun _ h9 => h9) rfl dX0_write_6 ?_
  refine st_i hx hb hK hP hD hS 1 0 rfl rfl (j := j) (by omega) (Nat.le_of_ble_eq_true rfl) dX0_write_9 (fun H_1 locs hP hD hS => ?_)
  have hP : va_P (dC, dI) classes [(x, .inr (0, [.ref a1, .ref a2, .ref a3, .ref a4, .ref a5, .int (nI k), .int mf, .long mu, .long ml])), (a1, .inl (k1, 1000, .inl (upd f j mf))), (a2, .inl (k2, 1000, .inr (.inl u))), (a3, .inl (k3, 1000, .inr (.inl w))), (a4, .inl (k4, 1000, .inl g)), (a5, .inl (k5, 1000, .inl n))] H_1 := hP
  have hD : va_D A [(x, .inr (0, [.ref a1, .ref a2, .ref a3, .ref a4, .ref a5, .int (nI k), .int mf, .long mu, .long ml])), (a1, .inl (k1, 1000, .inl (upd f j mf))), (a2, .inl (k2, 1000, .inr (.inl u))), (a3, .inl (k3, 1000, .inr (.inl w))), (a4, .inl (k4, 1000, .inl g)), (a5, .inl (k5, 1000, .inl n))] := hD
  refine lv_aload_n hx hb dX0_write_10 rfl (lv_at hl 0 rfl) ?_
  refine va_get (D := (dC, dI)) (ci := 0) (v := .ref a2) (C := RX0) (T := TX0) (N := 9) hx hb htl inX0 hown hK hP 0 rfl rfl 1 (by decide) (htl _ flX0_13) (fun _ h9 => h9) rfl dX0_write_11 ?_
  refine lv_iload_n hx hb dX0_write_14 rfl (lv_at hl 1 rfl) ?_
  refine lv_aload_n hx hb dX0_write_15 rfl (lv_at hl 0 rfl) ?_
  refine va_get (D := (dC, dI)) (ci := 0) (v := .long mu) (C := RX0) (T := TX0) (N := 9) hx hb htl inX0 hown hK hP 0 rfl rfl 7 (by decide) (htl _ flX0_33) (fun _ h9 => h9) rfl dX0_write_16 ?_
  refine st_l hx hb hK hP hD hS 2 1 rfl rfl (j := j) (by omega) (Nat.le_of_ble_eq_true rfl) dX0_write_19 (fun H_2 locs hP hD hS => ?_)
  have hP : va_P (dC, dI) classes [(x, .inr (0, [.ref a1, .ref a2, .ref a3, .ref a4, .ref a5, .int (nI k), .int mf, .long mu, .long ml])), (a1, .inl (k1, 1000, .inl (upd f j mf))), (a2, .inl (k2, 1000, .inr (.inl (vp_updL u j mu)))), (a3, .inl (k3, 1000, .inr (.inl w))), (a4, .inl (k4, 1000, .inl g)), (a5, .inl (k5, 1000, .inl n))] H_2 := hP
  have hD : va_D A [(x, .inr (0, [.ref a1, .ref a2, .ref a3, .ref a4, .ref a5, .int (nI k), .int mf, .long mu, .long ml])), (a1, .inl (k1, 1000, .inl (upd f j mf))), (a2, .inl (k2, 1000, .inr (.inl (vp_updL u j mu)))), (a3, .inl (k3, 1000, .inr (.inl w))), (a4, .inl (k4, 1000, .inl g)), (a5, .inl (k5, 1000, .inl n))] := hD
  refine lv_aload_n hx hb dX0_write_20 rfl (lv_at hl 0 rfl) ?_
  refine va_get (D := (dC, dI)) (ci := 0) (v := .ref a3) (C := RX0) (T := TX0) (N := 9) hx hb htl inX0 hown hK hP 0 rfl rfl 2 (by decide) (htl _ flX0_17) (fun _ h9 => h9) rfl dX0_write_21 ?_
  refine lv_iload_n hx hb dX0_write_24 rfl (lv_at hl 1 rfl) ?_
  refine lv_aload_n hx hb dX0_write_25 rfl (lv_at hl 0 rfl) ?_
  refine va_get (D := (dC, dI)) (ci := 0) (v := .long ml) (C := RX0) (T := TX0) (N := 9) hx hb htl inX0 hown hK hP 0 rfl rfl 8 (by decide) (htl _ flX0_37) (fun _ h9 => h9) rfl dX0_write_26 ?_
  refine st_l hx hb hK hP hD hS 3 2 rfl rfl (j := j) (by omega) (Nat.le_of_ble_eq_true rfl) dX0_write_29 (fun H_3 locs hP hD hS => ?_)
  have hP : va_P (dC, dI) classes [(x, .inr (0, [.ref a1, .ref a2, .ref a3, .ref a4, .ref a5, .int (nI k), .int mf, .long mu, .long ml])), (a1, .inl (k1, 1000, .inl (upd f j mf))), (a2, .inl (k2, 1000, .inr (.inl (vp_updL u j mu)))), (a3, .inl (k3, 1000, .inr (.inl (vp_updL w j ml)))), (a4, .inl (k4, 1000, .inl g)), (a5, .inl (k5, 1000, .inl n))] H_3 := hP
  have hD : va_D A [(x, .inr (0, [.ref a1, .ref a2, .ref a3, .ref a4, .ref a5, .int (nI k), .int mf, .long mu, .long ml])), (a1, .inl (k1, 1000, .inl (upd f j mf))), (a2, .inl (k2, 1000, .inr (.inl (vp_updL u j mu)))), (a3, .inl (k3, 1000, .inr (.inl (vp_updL w j ml)))), (a4, .inl (k4, 1000, .inl g)), (a5, .inl (k5, 1000, .inl n))] := hD
  refine lv_aload_n hx hb dX0_write_30 rfl (lv_at hl 0 rfl) ?_
  refine va_get (D := (dC, dI)) (ci := 0) (v := .ref a4) (C := RX0) (T := TX0) (N := 9) hx hb htl inX0 hown hK hP 0 rfl rfl 3 (by decide) (htl _ flX0_20) (fun _ h9 => h9) rfl dX0_write_31 ?_
  refine lv_iload_n hx hb dX0_write_34 rfl (lv_at hl 1 rfl) ?_
  refine lv_iload_n hx hb dX0_write_35 rfl (lv_at hl 2 rfl) ?_
  refine st_i hx hb hK hP hD hS 4 3 rfl rfl (j := j) (by omega) (Nat.le_of_ble_eq_true rfl) dX0_write_36 (fun H_4 locs hP hD hS => ?_)
  have hP : va_P (dC, dI) classes [(x, .inr (0, [.ref a1, .ref a2, .ref a3, .ref a4, .ref a5, .int (nI k), .int mf, .long mu, .long ml])), (a1, .inl (k1, 1000, .inl (upd f j mf))), (a2, .inl (k2, 1000, .inr (.inl (vp_updL u j mu)))), (a3, .inl (k3, 1000, .inr (.inl (vp_updL w j ml)))), (a4, .inl (k4, 1000, .inl (upd g j le))), (a5, .inl (k5, 1000, .inl n))] H_4 := hP
  have hD : va_D A [(x, .inr (0, [.ref a1, .ref a2, .ref a3, .ref a4, .ref a5, .int (nI k), .int mf, .long mu, .long ml])), (a1, .inl (k1, 1000, .inl (upd f j mf))), (a2, .inl (k2, 1000, .inr (.inl (vp_updL u j mu)))), (a3, .inl (k3, 1000, .inr (.inl (vp_updL w j ml)))), (a4, .inl (k4, 1000, .inl (upd g j le))), (a5, .inl (k5, 1000, .inl n))] := hD
  refine lv_aload_n hx hb dX0_write_37 rfl (lv_at hl 0 rfl) ?_
  refine va_get (D := (dC, dI)) (ci := 0) (v := .ref a5) (C := RX0) (T := TX0) (N := 9) hx hb htl inX0 hown hK hP 0 rfl rfl 4 (by decide) (htl _ flX0_23) (fun _ h9 => h9) rfl dX0_write_38 ?_
  refine lv_iload_n hx hb dX0_write_41 rfl (lv_at hl 1 rfl) ?_
  refine lv_iload_n hx hb dX0_write_42 rfl (lv_at hl 3 rfl) ?_
  refine st_i hx hb hK hP hD hS 5 4 rfl rfl (j := j) (by omega) (Nat.le_of_ble_eq_true rfl) dX0_write_43 (fun H_5 locs hP hD hS => ?_)
  have hP : va_P (dC, dI) classes [(x, .inr (0, [.ref a1, .ref a2, .ref a3, .ref a4, .ref a5, .int (nI k), .int mf, .long mu, .long ml])), (a1, .inl (k1, 1000, .inl (upd f j mf))), (a2, .inl (k2, 1000, .inr (.inl (vp_updL u j mu)))), (a3, .inl (k3, 1000, .inr (.inl (vp_updL w j ml)))), (a4, .inl (k4, 1000, .inl (upd g j le))), (a5, .inl (k5, 1000, .inl (upd n j nu)))] H_5 := hP
  have hD : va_D A [(x, .inr (0, [.ref a1, .ref a2, .ref a3, .ref a4, .ref a5, .int (nI k), .int mf, .long mu, .long ml])), (a1, .inl (k1, 1000, .inl (upd f j mf))), (a2, .inl (k2, 1000, .inr (.inl (vp_updL u j mu)))), (a3, .inl (k3, 1000, .inr (.inl (vp_updL w j ml)))), (a4, .inl (k4, 1000, .inl (upd g j le))), (a5, .inl (k5, 1000, .inl (upd n j nu)))] := hD
  exact mu_vret hx hb hr hlocks hS hP (rfl) dX0_write_44
end
section
set_option maxHeartbeats 4000000 in
set_option maxRecDepth 100000 in
theorem c_X0_openPlace (l : Launch) (dC : Nat → ClassId) (dI : Nat → Nat → Nat) {x a1 a2 a3 a4 a5 : Nat} {k1 k2 k3 k4 k5 : ClassId} {f : Nat → Int32} {u w : Nat → Int64} {g n : Nat → Int32} {k : Nat} {mf : Int32} {mu ml : Int64} (pl : Nat) (A : Nat → Prop) (hp : pl ≤ k) (hk : k < 1000) (hD : va_D A (pbw x a1 a2 a3 a4 a5 k1 k2 k3 k4 k5 f u w g n k mf mu ml)) : Met l yX0_openPlace (ww yX0_openPlace cX0_openPlace 3 none) ({ frames := 1, cells := 0, slots := 0, locals := 22 } : Room) (va_Pc [.ref x, .int (nI pl)] (fun U => va_P (dC, dI) classes (pbw x a1 a2 a3 a4 a5 k1 k2 k3 k4 k5 f u w g n k mf mu ml) U.heap ∧ va_K (dC, dI) classes (pbt k1 k2 k3 k4 k5) U)) (va_Qv (fun (_ : Unit) => True) (fun _ t => va_P (dC, dI) classes (pbw x a1 a2 a3 a4 a5 k1 k2 k3 k4 k5 (kb_up f pl k) (kb_up u pl k) (kb_up w pl k) (kb_up g pl k) (kb_up n pl k) (k + 1) mf mu ml) t.heap) A) 0 0 A := by
  refine Met.ofW (cc := cX0_openPlace) (maxL := 3) (ret := none) (by decide) rfl ?_
  intro p e s m args below meth c s₁ B hml hv
  obtain ⟨rfl, hP, hK⟩ := hv
  have hS : va_S A s.heap s.heap [] := va_S.rf
  have hx := B.exec
  have hb := B.bytes
  have hr := B.returns
  have hts := atoms_spec (ws := ww yX0_openPlace cX0_openPlace 3 none) B.pre
  have htl : ∀ w ∈ ltg, w.before [.ref x, .int (nI pl)].toArray s = true := fun w h => hts w (List.mem_cons_of_mem _ h)
  have hown : s.vm.findClass RX0 = some m.cls := findClass_of_methodNamed B.named
  have hlocks := B.notSynchronized
  have hl := lv_entry ([.ref x, .int (nI pl)]) (n := 3) (Nat.le_of_ble_eq_true rfl)
  rw [lg_entry_eq]
  generalize (lg_sl ([.ref x, .int (nI pl)]) ++ List.replicate (3 - (lg_sl ([.ref x, .int (nI pl)])).length) Slot.unset).toArray = ls at hl ⊢
  have hl : lv_has ls 3 [(0, .ref x), (1, .int (nI pl))] := hl
  refine lv_aload_n hx hb dX0_openPlace_0 rfl (lv_at hl 0 rfl) ?_
  refine va_get (D := (dC, dI)) (ci := 0) (v := .int (nI k)) (C := RX0) (T := TX0) (N := 9) hx hb htl inX0 hown hK hP 0 rfl rfl 5 (by decide) (htl _ flX0_26) (fun _ h9 => h9) rfl dX0_openPlace_1 ?_
  refine lv_istore_n (lv' := [(2, .int (nI k)), (0, .ref x), (1, .int (nI pl))]) hx hb dX0_openPlace_4 rfl hl (by decide) rfl (fun ls hl => ?_)
  have loop : ∀ (d t : Nat), pl ≤ t → t ≤ k → t + 1 ≤ pl + d → ∀ (H : Heap) (locs : List Loc), va_P (dC, dI) classes (pbw x a1 a2 a3 a4 a5 k1 k2 k3 k4 k5 (kb_up f t k) (kb_up u t k) (kb_up w t k) (kb_up g t k) (kb_up n t k) k mf mu ml) H → va_S A s.heap H locs → ∀ (ls : Array Slot), lv_has ls 3 [(0, .ref x), (1, .int (nI pl)), (2, .int (nI t))] → W p l e ({ frames := 1, cells := 0, slots := 0, locals := 22 } : Room) s m ([.ref x, .int (nI pl)] : List Value).toArray below meth c H locs 0 0 (MQ below (va_Qv (fun (_ : Unit) => True) (fun _ t => va_P (dC, dI) classes (pbw x a1 a2 a3 a4 a5 k1 k2 k3 k4 k5 (kb_up f pl k) (kb_up u pl k) (kb_up w pl k) (kb_up g pl k) (kb_up n pl k) (k + 1) mf mu ml) t.heap) A) [.ref x, .int (nI pl)].toArray s 0 0 A) (F0 m 5 ls []) := by
    intro d
    induction d with
    | zero => intro t h1 h2 h3; exact absurd h3 (by omega)
    | succ d ih =>
      intro t h1 h2 h3 H locs hP hS ls hl
      have hP : va_P (dC, dI) classes [(x, .inr (0, [.ref a1, .ref a2, .ref a3, .ref a4, .ref a5, .int (nI k), .int mf, .long mu, .long ml])), (a1, .inl (k1, 1000, .inl (kb_up f t k))), (a2, .inl (k2, 1000, .inr (.inl (kb_up u t k)))), (a3, .inl (k3, 1000, .inr (.inl (kb_up w t k)))), (a4, .inl (k4, 1000, .inl (kb_up g t k))), (a5, .inl (k5, 1000, .inl (kb_up n t k)))] H := hP
      have hD : va_D A [(x, .inr (0, [.ref a1, .ref a2, .ref a3, .ref a4, .ref a5, .int (nI k), .int mf, .long mu, .long ml])), (a1, .inl (k1, 1000, .inl (kb_up f t k))), (a2, .inl (k2, 1000, .inr (.inl (kb_up u t k)))), (a3, .inl (k3, 1000, .inr (.inl (kb_up w t k)))), (a4, .inl (k4, 1000, .inl (kb_up g t k))), (a5, .inl (k5, 1000, .inl (kb_up n t k)))] := vd_same hD rfl
      refine lv_iload_n hx hb dX0_openPlace_5 rfl (lv_at hl 2 rfl) ?_
      refine lv_iload_n hx hb dX0_openPlace_6 rfl (lv_at hl 1 rfl) ?_
      refine lv_icmp_le (tgt := 24) hx hb dX0_openPlace_7 (by decide) (fun c_1 => ?_) (fun c_1 => ?_)
      · rw [nI_leI (by omega) (by omega)] at c_1
        obtain rfl : t = pl := by omega
        refine lv_aload_n hx hb dX0_openPlace_24 rfl (lv_at hl 0 rfl) ?_
        refine lv_dup hx hb dX0_openPlace_25 rfl ?_
        refine va_get (D := (dC, dI)) (ci := 0) (v := .int (nI k)) (C := RX0) (T := TX0) (N := 9) hx hb htl inX0 hown hK hP 0 rfl rfl 5 (by decide) (htl _ flX0_26) (fun _ h9 => h9) rfl dX0_openPlace_26 ?_
        refine lv_iconst (v := 1) hx hb dX0_openPlace_29 (by decide) ?_
        refine lv_iadd hx hb dX0_openPlace_30 ?_
        refine tp_i (nI_1 k) ?_
        refine va_put (D := (dC, dI)) (ci := 0) (v := .int (nI (k + 1))) (ty := .int) (C := RX0) (T := TX0) (N := 9) hx hb htl inX0 tyX0 tyX0_ok nmX0 hown hK hP hD hS 0 rfl rfl 5 (by decide) (htl _ flX0_26) (fun _ h9 => h9) rfl (by decide +kernel) rfl rfl (Nat.le_of_ble_eq_true rfl) dX0_openPlace_31 (fun H_2 locs hP hD hS => ?_)
        have hP : va_P (dC, dI) classes [(x, .inr (0, [.ref a1, .ref a2, .ref a3, .ref a4, .ref a5, .int (nI (k + 1)), .int mf, .long mu, .long ml])), (a1, .inl (k1, 1000, .inl (kb_up f t k))), (a2, .inl (k2, 1000, .inr (.inl (kb_up u t k)))), (a3, .inl (k3, 1000, .inr (.inl (kb_up w t k)))), (a4, .inl (k4, 1000, .inl (kb_up g t k))), (a5, .inl (k5, 1000, .inl (kb_up n t k)))] H_2 := hP
        have hD : va_D A [(x, .inr (0, [.ref a1, .ref a2, .ref a3, .ref a4, .ref a5, .int (nI (k + 1)), .int mf, .long mu, .long ml])), (a1, .inl (k1, 1000, .inl (kb_up f t k))), (a2, .inl (k2, 1000, .inr (.inl (kb_up u t k)))), (a3, .inl (k3, 1000, .inr (.inl (kb_up w t k)))), (a4, .inl (k4, 1000, .inl (kb_up g t k))), (a5, .inl (k5, 1000, .inl (kb_up n t k)))] := hD
        exact mu_vret hx hb hr hlocks hS hP (rfl) dX0_openPlace_34
      · rw [nI_leI (by omega) (by omega)] at c_1
        obtain ⟨q, rfl⟩ : ∃ q, t = q + 1 := ⟨t - 1, by omega⟩
        refine lv_aload_n hx hb dX0_openPlace_10 rfl (lv_at hl 0 rfl) ?_
        refine lv_iload_n hx hb dX0_openPlace_11 rfl (lv_at hl 2 rfl) ?_
        refine lv_iconst (v := 1) hx hb dX0_openPlace_12 (by decide) ?_
        refine lv_isub hx hb dX0_openPlace_13 ?_
        refine tp_i (nI_pred q) ?_
        refine lv_iload_n hx hb dX0_openPlace_14 rfl (lv_at hl 2 rfl) ?_
        refine mu_callv (va_runV (As := [.int (nI q), .int (nI (q + 1))]) (rest := []) ⟨hx, hb, hml, hown, htl⟩ (c_X0_copyPlace l dC dI q (q + 1) A (by omega) (by omega) hD) (cwV 2 htl gX0_105 rfl rfl rfl hd_X0_copyPlace ⟨Nat.le_of_ble_eq_true rfl, Nat.le_of_ble_eq_true rfl⟩) ⟨fb_mu, va_recv hK hP (ci := 0) (q0 := 0) rfl rfl, fun U hU hW => ⟨rfl, by rw [hU]; exact hP, va_K.moved hW.alike hK⟩⟩ rfl rfl hl.1 rfl (lv_room (Nat.le_of_ble_eq_true rfl)) dX0_openPlace_15 ⟨Nat.le_of_ble_eq_true rfl, Nat.le_of_ble_eq_true rfl⟩) hS (fun _ h => h) (fun H_3 locs hP hS _ => ?_)
        have hP : va_P (dC, dI) classes [(x, .inr (0, [.ref a1, .ref a2, .ref a3, .ref a4, .ref a5, .int (nI k), .int mf, .long mu, .long ml])), (a1, .inl (k1, 1000, .inl (upd (kb_up f (q + 1) k) (q + 1) ((kb_up f (q + 1) k) q)))), (a2, .inl (k2, 1000, .inr (.inl (vp_updL (kb_up u (q + 1) k) (q + 1) ((kb_up u (q + 1) k) q))))), (a3, .inl (k3, 1000, .inr (.inl (vp_updL (kb_up w (q + 1) k) (q + 1) ((kb_up w (q + 1) k) q))))), (a4, .inl (k4, 1000, .inl (upd (kb_up g (q + 1) k) (q + 1) ((kb_up g (q + 1) k) q)))), (a5, .inl (k5, 1000, .inl (upd (kb_up n (q + 1) k) (q + 1) ((kb_up n (q + 1) k) q))))] H_3 := hP
        have hD : va_D A [(x, .inr (0, [.ref a1, .ref a2, .ref a3, .ref a4, .ref a5, .int (nI k), .int mf, .long mu, .long ml])), (a1, .inl (k1, 1000, .inl (upd (kb_up f (q + 1) k) (q + 1) ((kb_up f (q + 1) k) q)))), (a2, .inl (k2, 1000, .inr (.inl (vp_updL (kb_up u (q + 1) k) (q + 1) ((kb_up u (q + 1) k) q))))), (a3, .inl (k3, 1000, .inr (.inl (vp_updL (kb_up w (q + 1) k) (q + 1) ((kb_up w (q + 1) k) q))))), (a4, .inl (k4, 1000, .inl (upd (kb_up g (q + 1) k) (q + 1) ((kb_up g (q + 1) k) q)))), (a5, .inl (k5, 1000, .inl (upd (kb_up n (q + 1) k) (q + 1) ((kb_up n (q + 1) k) q))))] := vd_same hD rfl
        refine lv_iinc (v := nI q) (lv' := [(2, .int (nI q)), (0, .ref x), (1, .int (nI pl))]) hx hb dX0_openPlace_18 hl (k := 2) rfl (by rw [show Int32.ofInt (-1) = (-1 : Int32) by decide]; exact pk_m1 q) (by decide) rfl (fun ls hl => ?_)
        refine lv_goto (tgt := 5) hx hb dX0_openPlace_21 (by decide) ?_
        exact ih q (by omega) (by omega) (by omega) _ _ (by rw [kb_up_i f q k h2, kb_up_l u q k h2, kb_up_l w q k h2, kb_up_i g q k h2, kb_up_i n q k h2] at hP; exact hP) hS ls (lv_sub hl [1, 2, 0] rfl)
  exact loop (k + 1) k hp (Nat.le_refl k) (by omega) _ _ (by rw [kb_up_0, kb_up_0, kb_up_0, kb_up_0, kb_up_0]; exact hP) hS ls (lv_sub hl [1, 2, 0] rfl)
set_option maxHeartbeats 4000000 in
set_option maxRecDepth 100000 in
theorem c_X0_closePlace (l : Launch) (dC : Nat → ClassId) (dI : Nat → Nat → Nat) {x a1 a2 a3 a4 a5 : Nat} {k1 k2 k3 k4 k5 : ClassId} {f : Nat → Int32} {u w : Nat → Int64} {g n : Nat → Int32} {k : Nat} {mf : Int32} {mu ml : Int64} (pl : Nat) (A : Nat → Prop) (hp : pl ≤ k) (hk : k < 1000) (hD : va_D A (pbw x a1 a2 a3 a4 a5 k1 k2 k3 k4 k5 f u w g n (k + 1) mf mu ml)) : Met l yX0_closePlace (ww yX0_closePlace cX0_closePlace 3 none) ({ frames := 1, cells := 0, slots := 0, locals := 22 } : Room) (va_Pc [.ref x, .int (nI pl)] (fun U => va_P (dC, dI) classes (pbw x a1 a2 a3 a4 a5 k1 k2 k3 k4 k5 f u w g n (k + 1) mf mu ml) U.heap ∧ va_K (dC, dI) classes (pbt k1 k2 k3 k4 k5) U)) (va_Qv (fun (_ : Unit) => True) (fun _ t => va_P (dC, dI) classes (pbw x a1 a2 a3 a4 a5 k1 k2 k3 k4 k5 (kb_dn f pl k) (kb_dn u pl k) (kb_dn w pl k) (kb_dn g pl k) (kb_dn n pl k) k mf mu ml) t.heap) A) 0 0 A := by
  refine Met.ofW (cc := cX0_closePlace) (maxL := 3) (ret := none) (by decide) rfl ?_
  intro p e s m args below meth c s₁ B hml hv
  obtain ⟨rfl, hP, hK⟩ := hv
  have hS : va_S A s.heap s.heap [] := va_S.rf
  have hx := B.exec
  have hb := B.bytes
  have hr := B.returns
  have hts := atoms_spec (ws := ww yX0_closePlace cX0_closePlace 3 none) B.pre
  have htl : ∀ w ∈ ltg, w.before [.ref x, .int (nI pl)].toArray s = true := fun w h => hts w (List.mem_cons_of_mem _ h)
  have hown : s.vm.findClass RX0 = some m.cls := findClass_of_methodNamed B.named
  have hlocks := B.notSynchronized
  have hl := lv_entry ([.ref x, .int (nI pl)]) (n := 3) (Nat.le_of_ble_eq_true rfl)
  rw [lg_entry_eq]
  generalize (lg_sl ([.ref x, .int (nI pl)]) ++ List.replicate (3 - (lg_sl ([.ref x, .int (nI pl)])).length) Slot.unset).toArray = ls at hl ⊢
  have hl : lv_has ls 3 [(0, .ref x), (1, .int (nI pl))] := hl
  refine lv_aload_n hx hb dX0_closePlace_0 rfl (lv_at hl 0 rfl) ?_
  refine lv_dup hx hb dX0_closePlace_1 rfl ?_
  refine va_get (D := (dC, dI)) (ci := 0) (v := .int (nI (k + 1))) (C := RX0) (T := TX0) (N := 9) hx hb htl inX0 hown hK hP 0 rfl rfl 5 (by decide) (htl _ flX0_26) (fun _ h9 => h9) rfl dX0_closePlace_2 ?_
  refine lv_iconst (v := 1) hx hb dX0_closePlace_5 (by decide) ?_
  refine lv_isub hx hb dX0_closePlace_6 ?_
  refine tp_i (nI_pred k) ?_
  refine va_put (D := (dC, dI)) (ci := 0) (v := .int (nI k)) (ty := .int) (C := RX0) (T := TX0) (N := 9) hx hb htl inX0 tyX0 tyX0_ok nmX0 hown hK hP hD hS 0 rfl rfl 5 (by decide) (htl _ flX0_26) (fun _ h9 => h9) rfl (by decide +kernel) rfl rfl (Nat.le_of_ble_eq_true rfl) dX0_closePlace_7 (fun H_1 locs hP hD hS => ?_)
  have hP : va_P (dC, dI) classes [(x, .inr (0, [.ref a1, .ref a2, .ref a3, .ref a4, .ref a5, .int (nI k), .int mf, .long mu, .long ml])), (a1, .inl (k1, 1000, .inl f)), (a2, .inl (k2, 1000, .inr (.inl u))), (a3, .inl (k3, 1000, .inr (.inl w))), (a4, .inl (k4, 1000, .inl g)), (a5, .inl (k5, 1000, .inl n))] H_1 := hP
  have hD : va_D A [(x, .inr (0, [.ref a1, .ref a2, .ref a3, .ref a4, .ref a5, .int (nI k), .int mf, .long mu, .long ml])), (a1, .inl (k1, 1000, .inl f)), (a2, .inl (k2, 1000, .inr (.inl u))), (a3, .inl (k3, 1000, .inr (.inl w))), (a4, .inl (k4, 1000, .inl g)), (a5, .inl (k5, 1000, .inl n))] := hD
  refine lv_iload_n hx hb dX0_closePlace_10 rfl (lv_at hl 1 rfl) ?_
  refine lv_istore_n (lv' := [(2, .int (nI pl)), (0, .ref x), (1, .int (nI pl))]) hx hb dX0_closePlace_11 rfl hl (by decide) rfl (fun ls hl => ?_)
  have loop : ∀ (d t : Nat), pl ≤ t → t ≤ k → k + 1 ≤ t + d → ∀ (H : Heap) (locs : List Loc), va_P (dC, dI) classes (pbw x a1 a2 a3 a4 a5 k1 k2 k3 k4 k5 (kb_dn f pl t) (kb_dn u pl t) (kb_dn w pl t) (kb_dn g pl t) (kb_dn n pl t) k mf mu ml) H → va_S A s.heap H locs → ∀ (ls : Array Slot), lv_has ls 3 [(0, .ref x), (1, .int (nI pl)), (2, .int (nI t))] → W p l e ({ frames := 1, cells := 0, slots := 0, locals := 22 } : Room) s m ([.ref x, .int (nI pl)] : List Value).toArray below meth c H locs 0 0 (MQ below (va_Qv (fun (_ : Unit) => True) (fun _ t => va_P (dC, dI) classes (pbw x a1 a2 a3 a4 a5 k1 k2 k3 k4 k5 (kb_dn f pl k) (kb_dn u pl k) (kb_dn w pl k) (kb_dn g pl k) (kb_dn n pl k) k mf mu ml) t.heap) A) [.ref x, .int (nI pl)].toArray s 0 0 A) (F0 m 12 ls []) := by
    intro d
    induction d with
    | zero => intro t h1 h2 h3; exact absurd h3 (by omega)
    | succ d ih =>
      intro t h1 h2 h3 H locs hP hS ls hl
      have hP : va_P (dC, dI) classes [(x, .inr (0, [.ref a1, .ref a2, .ref a3, .ref a4, .ref a5, .int (nI k), .int mf, .long mu, .long ml])), (a1, .inl (k1, 1000, .inl (kb_dn f pl t))), (a2, .inl (k2, 1000, .inr (.inl (kb_dn u pl t)))), (a3, .inl (k3, 1000, .inr (.inl (kb_dn w pl t)))), (a4, .inl (k4, 1000, .inl (kb_dn g pl t))), (a5, .inl (k5, 1000, .inl (kb_dn n pl t)))] H := hP
      have hD : va_D A [(x, .inr (0, [.ref a1, .ref a2, .ref a3, .ref a4, .ref a5, .int (nI k), .int mf, .long mu, .long ml])), (a1, .inl (k1, 1000, .inl (kb_dn f pl t))), (a2, .inl (k2, 1000, .inr (.inl (kb_dn u pl t)))), (a3, .inl (k3, 1000, .inr (.inl (kb_dn w pl t)))), (a4, .inl (k4, 1000, .inl (kb_dn g pl t))), (a5, .inl (k5, 1000, .inl (kb_dn n pl t)))] := vd_same hD rfl
      refine lv_iload_n hx hb dX0_closePlace_12 rfl (lv_at hl 2 rfl) ?_
      refine lv_aload_n hx hb dX0_closePlace_13 rfl (lv_at hl 0 rfl) ?_
      refine va_get (D := (dC, dI)) (ci := 0) (v := .int (nI k)) (C := RX0) (T := TX0) (N := 9) hx hb htl inX0 hown hK hP 0 rfl rfl 5 (by decide) (htl _ flX0_26) (fun _ h9 => h9) rfl dX0_closePlace_14 ?_
      refine lv_icmp_ge (tgt := 34) hx hb dX0_closePlace_17 (by decide) (fun c_2 => ?_) (fun c_2 => ?_)
      · rw [nI_leI (by omega) (by omega)] at c_2
        obtain rfl : t = k := by omega
        exact mu_vret hx hb hr hlocks hS hP (rfl) dX0_closePlace_34
      · rw [nI_leI (by omega) (by omega)] at c_2
        refine lv_aload_n hx hb dX0_closePlace_20 rfl (lv_at hl 0 rfl) ?_
        refine lv_iload_n hx hb dX0_closePlace_21 rfl (lv_at hl 2 rfl) ?_
        refine lv_iconst (v := 1) hx hb dX0_closePlace_22 (by decide) ?_
        refine lv_iadd hx hb dX0_closePlace_23 ?_
        refine tp_i (nI_1 t) ?_
        refine lv_iload_n hx hb dX0_closePlace_24 rfl (lv_at hl 2 rfl) ?_
        refine mu_callv (va_runV (As := [.int (nI (t + 1)), .int (nI t)]) (rest := []) ⟨hx, hb, hml, hown, htl⟩ (c_X0_copyPlace l dC dI (t + 1) t A (by omega) (by omega) hD) (cwV 2 htl gX0_105 rfl rfl rfl hd_X0_copyPlace ⟨Nat.le_of_ble_eq_true rfl, Nat.le_of_ble_eq_true rfl⟩) ⟨fb_mu, va_recv hK hP (ci := 0) (q0 := 0) rfl rfl, fun U hU hW => ⟨rfl, by rw [hU]; exact hP, va_K.moved hW.alike hK⟩⟩ rfl rfl hl.1 rfl (lv_room (Nat.le_of_ble_eq_true rfl)) dX0_closePlace_25 ⟨Nat.le_of_ble_eq_true rfl, Nat.le_of_ble_eq_true rfl⟩) hS (fun _ h => h) (fun H_3 locs hP hS _ => ?_)
        have hP : va_P (dC, dI) classes [(x, .inr (0, [.ref a1, .ref a2, .ref a3, .ref a4, .ref a5, .int (nI k), .int mf, .long mu, .long ml])), (a1, .inl (k1, 1000, .inl (upd (kb_dn f pl t) t ((kb_dn f pl t) (t + 1))))), (a2, .inl (k2, 1000, .inr (.inl (vp_updL (kb_dn u pl t) t ((kb_dn u pl t) (t + 1)))))), (a3, .inl (k3, 1000, .inr (.inl (vp_updL (kb_dn w pl t) t ((kb_dn w pl t) (t + 1)))))), (a4, .inl (k4, 1000, .inl (upd (kb_dn g pl t) t ((kb_dn g pl t) (t + 1))))), (a5, .inl (k5, 1000, .inl (upd (kb_dn n pl t) t ((kb_dn n pl t) (t + 1)))))] H_3 := hP
        have hD : va_D A [(x, .inr (0, [.ref a1, .ref a2, .ref a3, .ref a4, .ref a5, .int (nI k), .int mf, .long mu, .long ml])), (a1, .inl (k1, 1000, .inl (upd (kb_dn f pl t) t ((kb_dn f pl t) (t + 1))))), (a2, .inl (k2, 1000, .inr (.inl (vp_updL (kb_dn u pl t) t ((kb_dn u pl t) (t + 1)))))), (a3, .inl (k3, 1000, .inr (.inl (vp_updL (kb_dn w pl t) t ((kb_dn w pl t) (t + 1)))))), (a4, .inl (k4, 1000, .inl (upd (kb_dn g pl t) t ((kb_dn g pl t) (t + 1))))), (a5, .inl (k5, 1000, .inl (upd (kb_dn n pl t) t ((kb_dn n pl t) (t + 1)))))] := vd_same hD rfl
        refine lv_iinc (v := nI (t + 1)) (lv' := [(2, .int (nI (t + 1))), (0, .ref x), (1, .int (nI pl))]) hx hb dX0_closePlace_28 hl (k := 2) rfl (by first | rfl | exact nI_1 _) (by decide) rfl (fun ls hl => ?_)
        refine lv_goto (tgt := 12) hx hb dX0_closePlace_31 (by decide) ?_
        exact ih (t + 1) (by omega) (by omega) (by omega) _ _ (by rw [kb_dn_i f pl t h1, kb_dn_l u pl t h1, kb_dn_l w pl t h1, kb_dn_i g pl t h1, kb_dn_i n pl t h1] at hP; exact hP) hS ls (lv_sub hl [1, 2, 0] rfl)
  exact loop (k + 1) pl (Nat.le_refl pl) hp (by omega) _ _ (by rw [kb_dn_0, kb_dn_0, kb_dn_0, kb_dn_0, kb_dn_0]; exact hP) hS ls (lv_sub hl [1, 2, 0] rfl)
end
section
/-- closePlace with the count as it stands -/
theorem c_X0_closeP (l : Launch) (dC : Nat → ClassId) (dI : Nat → Nat → Nat) {x a1 a2 a3 a4 a5 : Nat} {k1 k2 k3 k4 k5 : ClassId} {f : Nat → Int32} {u w : Nat → Int64} {g n : Nat → Int32} {k : Nat} {mf : Int32} {mu ml : Int64} (pl : Nat) (A : Nat → Prop) (hp : pl < k) (hk : k ≤ 1000) (hD : va_D A (pbw x a1 a2 a3 a4 a5 k1 k2 k3 k4 k5 f u w g n k mf mu ml)) : Met l yX0_closePlace (ww yX0_closePlace cX0_closePlace 3 none) ({ frames := 1, cells := 0, slots := 0, locals := 22 } : Room) (va_Pc [.ref x, .int (nI pl)] (fun U => va_P (dC, dI) classes (pbw x a1 a2 a3 a4 a5 k1 k2 k3 k4 k5 f u w g n k mf mu ml) U.heap ∧ va_K (dC, dI) classes (pbt k1 k2 k3 k4 k5) U)) (va_Qv (fun (_ : Unit) => True) (fun _ t => va_P (dC, dI) classes (pbw x a1 a2 a3 a4 a5 k1 k2 k3 k4 k5 (kb_dn f pl (k - 1)) (kb_dn u pl (k - 1)) (kb_dn w pl (k - 1)) (kb_dn g pl (k - 1)) (kb_dn n pl (k - 1)) (k - 1) mf mu ml) t.heap) A) 0 0 A := by
  obtain ⟨k', rfl⟩ : ∃ k', k = k' + 1 := ⟨k - 1, by omega⟩
  exact c_X0_closePlace l dC dI pl A (by omega) (by omega) hD
theorem kb_st_lt {f : Nat → Int32} {u w : Nat → Int64} {g : Nat → Int32} {mf : Int32} {mu ml : Int64} {len : Int32} {k j : Nat} (h : kb_st f u w g mf mu ml len k j = true) : j < k := by
  unfold kb_st at h
  by_cases q : k ≤ j
  · rw [decide_eq_true q] at h
    cases h
  · omega
set_option maxHeartbeats 4000000 in
set_option maxRecDepth 100000 in
theorem c_X0_put (l : Launch) (dC : Nat → ClassId) (dI : Nat → Nat → Nat) {x a1 a2 a3 a4 a5 : Nat} {k1 k2 k3 k4 k5 : ClassId} {f : Nat → Int32} {u w : Nat → Int64} {g n : Nat → Int32} {k : Nat} {mf : Int32} {mu ml : Int64} (le nu : Int32) (A : Nat → Prop) (hk : k ≤ 1000) (hD : va_D A (pbw x a1 a2 a3 a4 a5 k1 k2 k3 k4 k5 f u w g n k mf mu ml)) : Met l yX0_put (ww yX0_put cX0_put 4 (some .int)) ({ frames := 3, cells := 0, slots := 0, locals := 67 } : Room) (va_Pc [.ref x, .int le, .int nu] (fun U => va_P (dC, dI) classes (pbw x a1 a2 a3 a4 a5 k1 k2 k3 k4 k5 f u w g n k mf mu ml) U.heap ∧ va_K (dC, dI) classes (pbt k1 k2 k3 k4 k5) U)) (va_Qi (fun r (_ : Unit) => r = (if kb_pre mf mu ml le = true then (if kb_st f u w g mf mu ml le k (kb_fst (kb_ah f u w g mf mu ml le) k 0) = true then (0 : Int32) else if k < 1000 then 1 else (-1)) else (-1))) (fun _ t => va_P (dC, dI) classes (if kb_pre mf mu ml le = true then (if kb_st f u w g mf mu ml le k (kb_fst (kb_ah f u w g mf mu ml le) k 0) = true then (pbw x a1 a2 a3 a4 a5 k1 k2 k3 k4 k5 f u w g (upd n (kb_fst (kb_ah f u w g mf mu ml le) k 0) nu) k mf mu ml) else if k < 1000 then (pbw x a1 a2 a3 a4 a5 k1 k2 k3 k4 k5 (upd (kb_up f (kb_fst (kb_ah f u w g mf mu ml le) k 0) k) (kb_fst (kb_ah f u w g mf mu ml le) k 0) mf) (vp_updL (kb_up u (kb_fst (kb_ah f u w g mf mu ml le) k 0) k) (kb_fst (kb_ah f u w g mf mu ml le) k 0) mu) (vp_updL (kb_up w (kb_fst (kb_ah f u w g mf mu ml le) k 0) k) (kb_fst (kb_ah f u w g mf mu ml le) k 0) ml) (upd (kb_up g (kb_fst (kb_ah f u w g mf mu ml le) k 0) k) (kb_fst (kb_ah f u w g mf mu ml le) k 0) le) (upd (kb_up n (kb_fst (kb_ah f u w g mf mu ml le) k 0) k) (kb_fst (kb_ah f u w g mf mu ml le) k 0) nu) (k + 1) mf mu ml) else (pbw x a1 a2 a3 a4 a5 k1 k2 k3 k4 k5 f u w g n k mf mu ml)) else (pbw x a1 a2 a3 a4 a5 k1 k2 k3 k4 k5 f u w g n k mf mu ml)) t.heap) A) 0 0 A := by
  refine Met.ofW (cc := cX0_put) (maxL := 4) (ret := (some .int)) (by decide) rfl ?_
  intro p e s m args below meth c s₁ B hml hv
  obtain ⟨rfl, hP, hK⟩ := hv
  have hS : va_S A s.heap s.heap [] := va_S.rf
  have hx := B.exec
  have hb := B.bytes
  have hr := B.returns
  have hts := atoms_spec (ws := ww yX0_put cX0_put 4 (some .int)) B.pre
  have htl : ∀ w ∈ ltg, w.before [.ref x, .int le, .int nu].toArray s = true := fun w h => hts w (List.mem_cons_of_mem _ h)
  have hown : s.vm.findClass RX0 = some m.cls := findClass_of_methodNamed B.named
  have hlocks := B.notSynchronized
  have hl := lv_entry ([.ref x, .int le, .int nu]) (n := 4) (Nat.le_of_ble_eq_true rfl)
  rw [lg_entry_eq]
  generalize (lg_sl ([.ref x, .int le, .int nu]) ++ List.replicate (4 - (lg_sl ([.ref x, .int le, .int nu])).length) Slot.unset).toArray = ls at hl ⊢
  have hl : lv_has ls 4 [(0, .ref x), (1, .int le), (2, .int nu)] := hl
  refine lv_aload_n hx hb dX0_put_0 rfl (lv_at hl 0 rfl) ?_
  refine lv_iload_n hx hb dX0_put_1 rfl (lv_at hl 1 rfl) ?_
  refine ru_calli (va_runV (As := [.int le]) (rest := []) ⟨hx, hb, hml, hown, htl⟩ (c_X0_isPrefix l dC dI le _ hP) (cwV 1 htl gX0_48 rfl rfl rfl hd_X0_isPrefix ⟨Nat.le_of_ble_eq_true rfl, Nat.le_of_ble_eq_true rfl⟩) ⟨fb_ro, va_recv hK hP (ci := 0) (q0 := 0) rfl rfl, fun U hU hW => ⟨rfl, hU, va_K.moved hW.alike hK⟩⟩ rfl rfl hl.1 rfl (lv_room (Nat.le_of_ble_eq_true rfl)) dX0_put_2 ⟨Nat.le_of_ble_eq_true rfl, Nat.le_of_ble_eq_true rfl⟩) ?_
  refine lv_if_ne (tgt := 10) hx hb dX0_put_5 (by decide) (fun c_1 => ?_) (fun c_1 => ?_)
  · rw [b2i_0, Bool.not_eq_false] at c_1
    refine lv_aload_n hx hb dX0_put_10 rfl (lv_at hl 0 rfl) ?_
    refine lv_iload_n hx hb dX0_put_11 rfl (lv_at hl 1 rfl) ?_
    refine ru_calli (va_runV (As := [.int le]) (rest := []) ⟨hx, hb, hml, hown, htl⟩ (c_X0_countAhead l dC dI le _ hk hP) (cwV 1 htl gX0_52 rfl rfl rfl hd_X0_countAhead ⟨Nat.le_of_ble_eq_true rfl, Nat.le_of_ble_eq_true rfl⟩) ⟨fb_ro, va_recv hK hP (ci := 0) (q0 := 0) rfl rfl, fun U hU hW => ⟨rfl, hU, va_K.moved hW.alike hK⟩⟩ rfl rfl hl.1 rfl (lv_room (Nat.le_of_ble_eq_true rfl)) dX0_put_12 ⟨Nat.le_of_ble_eq_true rfl, Nat.le_of_ble_eq_true rfl⟩) ?_
    refine lv_istore_n (lv' := [(3, .int (nI (kb_fst (kb_ah f u w g mf mu ml le) k 0))), (0, .ref x), (1, .int le), (2, .int nu)]) hx hb dX0_put_15 rfl hl (by decide) rfl (fun ls hl => ?_)
    have hr0 := kb_fst_le (kb_ah f u w g mf mu ml le) k 0
    refine lv_aload_n hx hb dX0_put_16 rfl (lv_at hl 1 rfl) ?_
    refine lv_iload_n hx hb dX0_put_17 rfl (lv_at hl 0 rfl) ?_
    refine lv_iload_n hx hb dX0_put_18 rfl (lv_at hl 2 rfl) ?_
    refine ru_calli (va_runV (As := [.int (nI (kb_fst (kb_ah f u w g mf mu ml le) k 0)), .int le]) (rest := []) ⟨hx, hb, hml, hown, htl⟩ (c_X0_standsAt l dC dI (kb_fst (kb_ah f u w g mf mu ml le) k 0) le _ hk (by omega) hP) (cwV 2 htl gX0_56 rfl rfl rfl hd_X0_standsAt ⟨Nat.le_of_ble_eq_true rfl, Nat.le_of_ble_eq_true rfl⟩) ⟨fb_ro, va_recv hK hP (ci := 0) (q0 := 0) rfl rfl, fun U hU hW => ⟨rfl, hU, va_K.moved hW.alike hK⟩⟩ rfl rfl hl.1 rfl (lv_room (Nat.le_of_ble_eq_true rfl)) dX0_put_19 ⟨Nat.le_of_ble_eq_true rfl, Nat.le_of_ble_eq_true rfl⟩) ?_
    refine lv_if_eq (tgt := 34) hx hb dX0_put_22 (by decide) (fun c_2 => ?_) (fun c_2 => ?_)
    · rw [b2i_0] at c_2
      refine lv_aload_n hx hb dX0_put_34 rfl (lv_at hl 1 rfl) ?_
      refine va_get (D := (dC, dI)) (ci := 0) (v := .int (nI k)) (C := RX0) (T := TX0) (N := 9) hx hb htl inX0 hown hK hP 0 rfl rfl 5 (by decide) (htl _ flX0_26) (fun _ h9 => h9) rfl dX0_put_35 ?_
      refine lv_sipush (v := nI 1000) hx hb dX0_put_38 (by decide) ?_
      refine lv_icmp_lt (tgt := 46) hx hb dX0_put_41 (by decide) (fun c_3 => ?_) (fun c_3 => ?_)
      · rw [nI_ltI (by omega) (by omega)] at c_3
        refine lv_aload_n hx hb dX0_put_46 rfl (lv_at hl 1 rfl) ?_
        refine lv_iload_n hx hb dX0_put_47 rfl (lv_at hl 0 rfl) ?_
        refine mu_callv (va_runV (As := [.int (nI (kb_fst (kb_ah f u w g mf mu ml le) k 0))]) (rest := []) ⟨hx, hb, hml, hown, htl⟩ (c_X0_openPlace l dC dI (kb_fst (kb_ah f u w g mf mu ml le) k 0) A (by omega) (by omega) hD) (cwV 1 htl gX0_60 rfl rfl rfl hd_X0_openPlace ⟨Nat.le_of_ble_eq_true rfl, Nat.le_of_ble_eq_true rfl⟩) ⟨fb_mu, va_recv hK hP (ci := 0) (q0 := 0) rfl rfl, fun U hU hW => ⟨rfl, by rw [hU]; exact hP, va_K.moved hW.alike hK⟩⟩ rfl rfl hl.1 rfl (lv_room (Nat.le_of_ble_eq_true rfl)) dX0_put_48 ⟨Nat.le_of_ble_eq_true rfl, Nat.le_of_ble_eq_true rfl⟩) hS (fun _ h => h) (fun H_4 locs hP hS _ => ?_)
        have hP : va_P (dC, dI) classes [(x, .inr (0, [.ref a1, .ref a2, .ref a3, .ref a4, .ref a5, .int (nI (k + 1)), .int mf, .long mu, .long ml])), (a1, .inl (k1, 1000, .inl (kb_up f (kb_fst (kb_ah f u w g mf mu ml le) k 0) k))), (a2, .inl (k2, 1000, .inr (.inl (kb_up u (kb_fst (kb_ah f u w g mf mu ml le) k 0) k)))), (a3, .inl (k3, 1000, .inr (.inl (kb_up w (kb_fst (kb_ah f u w g mf mu ml le) k 0) k)))), (a4, .inl (k4, 1000, .inl (kb_up g (kb_fst (kb_ah f u w g mf mu ml le) k 0) k))), (a5, .inl (k5, 1000, .inl (kb_up n (kb_fst (kb_ah f u w g mf mu ml le) k 0) k)))] H_4 := hP
        have hD : va_D A [(x, .inr (0, [.ref a1, .ref a2, .ref a3, .ref a4, .ref a5, .int (nI (k + 1)), .int mf, .long mu, .long ml])), (a1, .inl (k1, 1000, .inl (kb_up f (kb_fst (kb_ah f u w g mf mu ml le) k 0) k))), (a2, .inl (k2, 1000, .inr (.inl (kb_up u (kb_fst (kb_ah f u w g mf mu ml le) k 0) k)))), (a3, .inl (k3, 1000, .inr (.inl (kb_up w (kb_fst (kb_ah f u w g mf mu ml le) k 0) k)))), (a4, .inl (k4, 1000, .inl (kb_up g (kb_fst (kb_ah f u w g mf mu ml le) k 0) k))), (a5, .inl (k5, 1000, .inl (kb_up n (kb_fst (kb_ah f u w g mf mu ml le) k 0) k)))] := vd_same hD rfl
        refine lv_aload_n hx hb dX0_put_51 rfl (lv_at hl 1 rfl) ?_
        refine lv_iload_n hx hb dX0_put_52 rfl (lv_at hl 0 rfl) ?_
        refine lv_iload_n hx hb dX0_put_53 rfl (lv_at hl 2 rfl) ?_
        refine lv_iload_n hx hb dX0_put_54 rfl (lv_at hl 3 rfl) ?_
        refine mu_callv (va_runV (As := [.int (nI (kb_fst (kb_ah f u w g mf mu ml le) k 0)), .int le, .int nu]) (rest := []) ⟨hx, hb, hml, hown, htl⟩ (c_X0_write l dC dI (kb_fst (kb_ah f u w g mf mu ml le) k 0) le nu A (by omega) hD) (cwV 3 htl gX0_64 rfl rfl rfl hd_X0_write ⟨Nat.le_of_ble_eq_true rfl, Nat.le_of_ble_eq_true rfl⟩) ⟨fb_mu, va_recv hK hP (ci := 0) (q0 := 0) rfl rfl, fun U hU hW => ⟨rfl, by rw [hU]; exact hP, va_K.moved hW.alike hK⟩⟩ rfl rfl hl.1 rfl (lv_room (Nat.le_of_ble_eq_true rfl)) dX0_put_55 ⟨Nat.le_of_ble_eq_true rfl, Nat.le_of_ble_eq_true rfl⟩) hS (fun _ h => h) (fun H_5 locs hP hS _ => ?_)
        have hP : va_P (dC, dI) classes [(x, .inr (0, [.ref a1, .ref a2, .ref a3, .ref a4, .ref a5, .int (nI (k + 1)), .int mf, .long mu, .long ml])), (a1, .inl (k1, 1000, .inl (upd (kb_up f (kb_fst (kb_ah f u w g mf mu ml le) k 0) k) (kb_fst (kb_ah f u w g mf mu ml le) k 0) mf))), (a2, .inl (k2, 1000, .inr (.inl (vp_updL (kb_up u (kb_fst (kb_ah f u w g mf mu ml le) k 0) k) (kb_fst (kb_ah f u w g mf mu ml le) k 0) mu)))), (a3, .inl (k3, 1000, .inr (.inl (vp_updL (kb_up w (kb_fst (kb_ah f u w g mf mu ml le) k 0) k) (kb_fst (kb_ah f u w g mf mu ml le) k 0) ml)))), (a4, .inl (k4, 1000, .inl (upd (kb_up g (kb_fst (kb_ah f u w g mf mu ml le) k 0) k) (kb_fst (kb_ah f u w g mf mu ml le) k 0) le))), (a5, .inl (k5, 1000, .inl (upd (kb_up n (kb_fst (kb_ah f u w g mf mu ml le) k 0) k) (kb_fst (kb_ah f u w g mf mu ml le) k 0) nu)))] H_5 := hP
        have hD : va_D A [(x, .inr (0, [.ref a1, .ref a2, .ref a3, .ref a4, .ref a5, .int (nI (k + 1)), .int mf, .long mu, .long ml])), (a1, .inl (k1, 1000, .inl (upd (kb_up f (kb_fst (kb_ah f u w g mf mu ml le) k 0) k) (kb_fst (kb_ah f u w g mf mu ml le) k 0) mf))), (a2, .inl (k2, 1000, .inr (.inl (vp_updL (kb_up u (kb_fst (kb_ah f u w g mf mu ml le) k 0) k) (kb_fst (kb_ah f u w g mf mu ml le) k 0) mu)))), (a3, .inl (k3, 1000, .inr (.inl (vp_updL (kb_up w (kb_fst (kb_ah f u w g mf mu ml le) k 0) k) (kb_fst (kb_ah f u w g mf mu ml le) k 0) ml)))), (a4, .inl (k4, 1000, .inl (upd (kb_up g (kb_fst (kb_ah f u w g mf mu ml le) k 0) k) (kb_fst (kb_ah f u w g mf mu ml le) k 0) le))), (a5, .inl (k5, 1000, .inl (upd (kb_up n (kb_fst (kb_ah f u w g mf mu ml le) k 0) k) (kb_fst (kb_ah f u w g mf mu ml le) k 0) nu)))] := vd_same hD rfl
        refine lv_iconst (v := 1) hx hb dX0_put_58 (by decide) ?_
        exact mu_iret hx hb hr hlocks hS hP (by simp only [c_1, c_2, c_3, if_true, if_false, Bool.false_eq_true, reduceIte]) (by simp only [c_1, c_2, c_3, if_true, if_false, Bool.false_eq_true, reduceIte]) dX0_put_59
      · rw [nI_ltI (by omega) (by omega)] at c_3
        refine lv_iconst (v := (-1)) hx hb dX0_put_44 (by decide) ?_
        exact mu_iret hx hb hr hlocks hS hP (by simp only [c_1, c_2, c_3, if_true, if_false, Bool.false_eq_true, reduceIte]) (by simp only [c_1, c_2, c_3, if_true, if_false, Bool.false_eq_true, reduceIte]) dX0_put_45
    · rw [b2i_0, Bool.not_eq_false] at c_2
      have hlt := kb_st_lt c_2
      refine lv_aload_n hx hb dX0_put_25 rfl (lv_at hl 1 rfl) ?_
      refine va_get (D := (dC, dI)) (ci := 0) (v := .ref a5) (C := RX0) (T := TX0) (N := 9) hx hb htl inX0 hown hK hP 0 rfl rfl 4 (by decide) (htl _ flX0_23) (fun _ h9 => h9) rfl dX0_put_26 ?_
      refine lv_iload_n hx hb dX0_put_29 rfl (lv_at hl 0 rfl) ?_
      refine lv_iload_n hx hb dX0_put_30 rfl (lv_at hl 3 rfl) ?_
      refine st_i hx hb hK hP hD hS 5 4 rfl rfl (j := (kb_fst (kb_ah f u w g mf mu ml le) k 0)) (by omega) (Nat.le_of_ble_eq_true rfl) dX0_put_31 (fun H_6 locs hP hD hS => ?_)
      have hP : va_P (dC, dI) classes [(x, .inr (0, [.ref a1, .ref a2, .ref a3, .ref a4, .ref a5, .int (nI k), .int mf, .long mu, .long ml])), (a1, .inl (k1, 1000, .inl f)), (a2, .inl (k2, 1000, .inr (.inl u))), (a3, .inl (k3, 1000, .inr (.inl w))), (a4, .inl (k4, 1000, .inl g)), (a5, .inl (k5, 1000, .inl (upd n (kb_fst (kb_ah f u w g mf mu ml le) k 0) nu)))] H_6 := hP
      have hD : va_D A [(x, .inr (0, [.ref a1, .ref a2, .ref a3, .ref a4, .ref a5, .int (nI k), .int mf, .long mu, .long ml])), (a1, .inl (k1, 1000, .inl f)), (a2, .inl (k2, 1000, .inr (.inl u))), (a3, .inl (k3, 1000, .inr (.inl w))), (a4, .inl (k4, 1000, .inl g)), (a5, .inl (k5, 1000, .inl (upd n (kb_fst (kb_ah f u w g mf mu ml le) k 0) nu)))] := hD
      refine lv_iconst (v := 0) hx hb dX0_put_32 (by decide) ?_
      exact mu_iret hx hb hr hlocks hS hP (by simp only [c_1, c_2, if_true, if_false, Bool.false_eq_true, reduceIte]) (by simp only [c_1, c_2, if_true, if_false, Bool.false_eq_true, reduceIte]) dX0_put_33
  · rw [b2i_0] at c_1
    refine lv_iconst (v := (-1)) hx hb dX0_put_8 (by decide) ?_
    exact mu_iret hx hb hr hlocks hS hP (by simp only [c_1, if_true, if_false, Bool.false_eq_true, reduceIte]) (by simp only [c_1, if_true, if_false, Bool.false_eq_true, reduceIte]) dX0_put_9
set_option maxHeartbeats 4000000 in
set_option maxRecDepth 100000 in
theorem c_X0_remove (l : Launch) (dC : Nat → ClassId) (dI : Nat → Nat → Nat) {x a1 a2 a3 a4 a5 : Nat} {k1 k2 k3 k4 k5 : ClassId} {f : Nat → Int32} {u w : Nat → Int64} {g n : Nat → Int32} {k : Nat} {mf : Int32} {mu ml : Int64} (le : Int32) (A : Nat → Prop) (hk : k ≤ 1000) (hD : va_D A (pbw x a1 a2 a3 a4 a5 k1 k2 k3 k4 k5 f u w g n k mf mu ml)) : Met l yX0_remove (ww yX0_remove cX0_remove 3 (some .int)) ({ frames := 3, cells := 0, slots := 0, locals := 67 } : Room) (va_Pc [.ref x, .int le] (fun U => va_P (dC, dI) classes (pbw x a1 a2 a3 a4 a5 k1 k2 k3 k4 k5 f u w g n k mf mu ml) U.heap ∧ va_K (dC, dI) classes (pbt k1 k2 k3 k4 k5) U)) (va_Qi (fun r (_ : Unit) => r = (if kb_pre mf mu ml le = true then (if kb_st f u w g mf mu ml le k (kb_fst (kb_ah f u w g mf mu ml le) k 0) = true then (1 : Int32) else 0) else (-1))) (fun _ t => va_P (dC, dI) classes (if kb_pre mf mu ml le = true then (if kb_st f u w g mf mu ml le k (kb_fst (kb_ah f u w g mf mu ml le) k 0) = true then (pbw x a1 a2 a3 a4 a5 k1 k2 k3 k4 k5 (kb_dn f (kb_fst (kb_ah f u w g mf mu ml le) k 0) (k - 1)) (kb_dn u (kb_fst (kb_ah f u w g mf mu ml le) k 0) (k - 1)) (kb_dn w (kb_fst (kb_ah f u w g mf mu ml le) k 0) (k - 1)) (kb_dn g (kb_fst (kb_ah f u w g mf mu ml le) k 0) (k - 1)) (kb_dn n (kb_fst (kb_ah f u w g mf mu ml le) k 0) (k - 1)) (k - 1) mf mu ml) else (pbw x a1 a2 a3 a4 a5 k1 k2 k3 k4 k5 f u w g n k mf mu ml)) else (pbw x a1 a2 a3 a4 a5 k1 k2 k3 k4 k5 f u w g n k mf mu ml)) t.heap) A) 0 0 A := by
  refine Met.ofW (cc := cX0_remove) (maxL := 3) (ret := (some .int)) (by decide) rfl ?_
  intro p e s m args below meth c s₁ B hml hv
  obtain ⟨rfl, hP, hK⟩ := hv
  have hS : va_S A s.heap s.heap [] := va_S.rf
  have hx := B.exec
  have hb := B.bytes
  have hr := B.returns
  have hts := atoms_spec (ws := ww yX0_remove cX0_remove 3 (some .int)) B.pre
  have htl : ∀ w ∈ ltg, w.before [.ref x, .int le].toArray s = true := fun w h => hts w (List.mem_cons_of_mem _ h)
  have hown : s.vm.findClass RX0 = some m.cls := findClass_of_methodNamed B.named
  have hlocks := B.notSynchronized
  have hl := lv_entry ([.ref x, .int le]) (n := 3) (Nat.le_of_ble_eq_true rfl)
  rw [lg_entry_eq]
  generalize (lg_sl ([.ref x, .int le]) ++ List.replicate (3 - (lg_sl ([.ref x, .int le])).length) Slot.unset).toArray = ls at hl ⊢
  have hl : lv_has ls 3 [(0, .ref x), (1, .int le)] := hl
  refine lv_aload_n hx hb dX0_remove_0 rfl (lv_at hl 0 rfl) ?_
  refine lv_iload_n hx hb dX0_remove_1 rfl (lv_at hl 1 rfl) ?_
  refine ru_calli (va_runV (As := [.int le]) (rest := []) ⟨hx, hb, hml, hown, htl⟩ (c_X0_isPrefix l dC dI le _ hP) (cwV 1 htl gX0_48 rfl rfl rfl hd_X0_isPrefix ⟨Nat.le_of_ble_eq_true rfl, Nat.le_of_ble_eq_true rfl⟩) ⟨fb_ro, va_recv hK hP (ci := 0) (q0 := 0) rfl rfl, fun U hU hW => ⟨rfl, hU, va_K.moved hW.alike hK⟩⟩ rfl rfl hl.1 rfl (lv_room (Nat.le_of_ble_eq_true rfl)) dX0_remove_2 ⟨Nat.le_of_ble_eq_true rfl, Nat.le_of_ble_eq_true rfl⟩) ?_
  refine lv_if_ne (tgt := 10) hx hb dX0_remove_5 (by decide) (fun c_1 => ?_) (fun c_1 => ?_)
  · rw [b2i_0, Bool.not_eq_false] at c_1
    refine lv_aload_n hx hb dX0_remove_10 rfl (lv_at hl 0 rfl) ?_
    refine lv_iload_n hx hb dX0_remove_11 rfl (lv_at hl 1 rfl) ?_
    refine ru_calli (va_runV (As := [.int le]) (rest := []) ⟨hx, hb, hml, hown, htl⟩ (c_X0_countAhead l dC dI le _ hk hP) (cwV 1 htl gX0_52 rfl rfl rfl hd_X0_countAhead ⟨Nat.le_of_ble_eq_true rfl, Nat.le_of_ble_eq_true rfl⟩) ⟨fb_ro, va_recv hK hP (ci := 0) (q0 := 0) rfl rfl, fun U hU hW => ⟨rfl, hU, va_K.moved hW.alike hK⟩⟩ rfl rfl hl.1 rfl (lv_room (Nat.le_of_ble_eq_true rfl)) dX0_remove_12 ⟨Nat.le_of_ble_eq_true rfl, Nat.le_of_ble_eq_true rfl⟩) ?_
    refine lv_istore_n (lv' := [(2, .int (nI (kb_fst (kb_ah f u w g mf mu ml le) k 0))), (0, .ref x), (1, .int le)]) hx hb dX0_remove_15 rfl hl (by decide) rfl (fun ls hl => ?_)
    have hr0 := kb_fst_le (kb_ah f u w g mf mu ml le) k 0
    refine lv_aload_n hx hb dX0_remove_16 rfl (lv_at hl 1 rfl) ?_
    refine lv_iload_n hx hb dX0_remove_17 rfl (lv_at hl 0 rfl) ?_
    refine lv_iload_n hx hb dX0_remove_18 rfl (lv_at hl 2 rfl) ?_
    refine ru_calli (va_runV (As := [.int (nI (kb_fst (kb_ah f u w g mf mu ml le) k 0)), .int le]) (rest := []) ⟨hx, hb, hml, hown, htl⟩ (c_X0_standsAt l dC dI (kb_fst (kb_ah f u w g mf mu ml le) k 0) le _ hk (by omega) hP) (cwV 2 htl gX0_56 rfl rfl rfl hd_X0_standsAt ⟨Nat.le_of_ble_eq_true rfl, Nat.le_of_ble_eq_true rfl⟩) ⟨fb_ro, va_recv hK hP (ci := 0) (q0 := 0) rfl rfl, fun U hU hW => ⟨rfl, hU, va_K.moved hW.alike hK⟩⟩ rfl rfl hl.1 rfl (lv_room (Nat.le_of_ble_eq_true rfl)) dX0_remove_19 ⟨Nat.le_of_ble_eq_true rfl, Nat.le_of_ble_eq_true rfl⟩) ?_
    refine lv_if_ne (tgt := 27) hx hb dX0_remove_22 (by decide) (fun c_2 => ?_) (fun c_2 => ?_)
    · rw [b2i_0, Bool.not_eq_false] at c_2
      have hlt := kb_st_lt c_2
      refine lv_aload_n hx hb dX0_remove_27 rfl (lv_at hl 1 rfl) ?_
      refine lv_iload_n hx hb dX0_remove_28 rfl (lv_at hl 0 rfl) ?_
      refine mu_callv (va_runV (As := [.int (nI (kb_fst (kb_ah f u w g mf mu ml le) k 0))]) (rest := []) ⟨hx, hb, hml, hown, htl⟩ (c_X0_closeP l dC dI (kb_fst (kb_ah f u w g mf mu ml le) k 0) A (by omega) (by omega) hD) (cwV 1 htl gX0_68 rfl rfl rfl hd_X0_closePlace ⟨Nat.le_of_ble_eq_true rfl, Nat.le_of_ble_eq_true rfl⟩) ⟨fb_mu, va_recv hK hP (ci := 0) (q0 := 0) rfl rfl, fun U hU hW => ⟨rfl, by rw [hU]; exact hP, va_K.moved hW.alike hK⟩⟩ rfl rfl hl.1 rfl (lv_room (Nat.le_of_ble_eq_true rfl)) dX0_remove_29 ⟨Nat.le_of_ble_eq_true rfl, Nat.le_of_ble_eq_true rfl⟩) hS (fun _ h => h) (fun H_3 locs hP hS _ => ?_)
      have hP : va_P (dC, dI) classes [(x, .inr (0, [.ref a1, .ref a2, .ref a3, .ref a4, .ref a5, .int (nI (k - 1)), .int mf, .long mu, .long ml])), (a1, .inl (k1, 1000, .inl (kb_dn f (kb_fst (kb_ah f u w g mf mu ml le) k 0) (k - 1)))), (a2, .inl (k2, 1000, .inr (.inl (kb_dn u (kb_fst (kb_ah f u w g mf mu ml le) k 0) (k - 1))))), (a3, .inl (k3, 1000, .inr (.inl (kb_dn w (kb_fst (kb_ah f u w g mf mu ml le) k 0) (k - 1))))), (a4, .inl (k4, 1000, .inl (kb_dn g (kb_fst (kb_ah f u w g mf mu ml le) k 0) (k - 1)))), (a5, .inl (k5, 1000, .inl (kb_dn n (kb_fst (kb_ah f u w g mf mu ml le) k 0) (k - 1))))] H_3 := hP
      have hD : va_D A [(x, .inr (0, [.ref a1, .ref a2, .ref a3, .ref a4, .ref a5, .int (nI (k - 1)), .int mf, .long mu, .long ml])), (a1, .inl (k1, 1000, .inl (kb_dn f (kb_fst (kb_ah f u w g mf mu ml le) k 0) (k - 1)))), (a2, .inl (k2, 1000, .inr (.inl (kb_dn u (kb_fst (kb_ah f u w g mf mu ml le) k 0) (k - 1))))), (a3, .inl (k3, 1000, .inr (.inl (kb_dn w (kb_fst (kb_ah f u w g mf mu ml le) k 0) (k - 1))))), (a4, .inl (k4, 1000, .inl (kb_dn g (kb_fst (kb_ah f u w g mf mu ml le) k 0) (k - 1)))), (a5, .inl (k5, 1000, .inl (kb_dn n (kb_fst (kb_ah f u w g mf mu ml le) k 0) (k - 1))))] := vd_same hD rfl
      refine lv_iconst (v := 1) hx hb dX0_remove_32 (by decide) ?_
      exact mu_iret hx hb hr hlocks hS hP (by simp only [c_1, c_2, if_true, if_false, Bool.false_eq_true, reduceIte]) (by simp only [c_1, c_2, if_true, if_false, Bool.false_eq_true, reduceIte]) dX0_remove_33
    · rw [b2i_0] at c_2
      refine lv_iconst (v := 0) hx hb dX0_remove_25 (by decide) ?_
      exact mu_iret hx hb hr hlocks hS hP (by simp only [c_1, c_2, if_true, if_false, Bool.false_eq_true, reduceIte]) (by simp only [c_1, c_2, if_true, if_false, Bool.false_eq_true, reduceIte]) dX0_remove_26
  · rw [b2i_0] at c_1
    refine lv_iconst (v := (-1)) hx hb dX0_remove_8 (by decide) ?_
    exact mu_iret hx hb hr hlocks hS hP (by simp only [c_1, if_true, if_false, Bool.false_eq_true, reduceIte]) (by simp only [c_1, if_true, if_false, Bool.false_eq_true, reduceIte]) dX0_remove_9
set_option maxHeartbeats 4000000 in
set_option maxRecDepth 100000 in
theorem c_X0_number (l : Launch) (dC : Nat → ClassId) (dI : Nat → Nat → Nat) {x a1 a2 a3 a4 a5 : Nat} {k1 k2 k3 k4 k5 : ClassId} {f : Nat → Int32} {u w : Nat → Int64} {g n : Nat → Int32} {k : Nat} {mf : Int32} {mu ml : Int64} (le : Int32) (Hh : Heap) (hk : k ≤ 1000) (hP : va_P (dC, dI) classes (pbw x a1 a2 a3 a4 a5 k1 k2 k3 k4 k5 f u w g n k mf mu ml) Hh) : Met l yX0_number (ww yX0_number cX0_number 3 (some .int)) ({ frames := 3, cells := 0, slots := 0, locals := 67 } : Room) (va_Pc [.ref x, .int le] (fun U => U.heap = Hh ∧ va_K (dC, dI) classes (pbt k1 k2 k3 k4 k5) U)) (va_Qi (fun r (_ : Unit) => r = (if kb_st f u w g mf mu ml le k (kb_fst (kb_ah f u w g mf mu ml le) k 0) = true then n (kb_fst (kb_ah f u w g mf mu ml le) k 0) else (-2147483648))) (fun _ t => t.heap = Hh) (fun _ => False)) 0 0 (fun _ => False) := by
  refine Met.ofW (cc := cX0_number) (maxL := 3) (ret := (some .int)) (by decide) rfl ?_
  intro p e s m args below meth c s₁ B hml hv
  obtain ⟨rfl, hHh, hK⟩ := hv
  subst hHh
  have hx := B.exec
  have hb := B.bytes
  have hr := B.returns
  have hts := atoms_spec (ws := ww yX0_number cX0_number 3 (some .int)) B.pre
  have htl : ∀ w ∈ ltg, w.before [.ref x, .int le].toArray s = true := fun w h => hts w (List.mem_cons_of_mem _ h)
  have hown : s.vm.findClass RX0 = some m.cls := findClass_of_methodNamed B.named
  have hlocks := B.notSynchronized
  have hl := lv_entry ([.ref x, .int le]) (n := 3) (Nat.le_of_ble_eq_true rfl)
  rw [lg_entry_eq]
  generalize (lg_sl ([.ref x, .int le]) ++ List.replicate (3 - (lg_sl ([.ref x, .int le])).length) Slot.unset).toArray = ls at hl ⊢
  have hl : lv_has ls 3 [(0, .ref x), (1, .int le)] := hl
  refine lv_aload_n hx hb dX0_number_0 rfl (lv_at hl 0 rfl) ?_
  refine lv_iload_n hx hb dX0_number_1 rfl (lv_at hl 1 rfl) ?_
  refine ru_calli (va_runV (As := [.int le]) (rest := []) ⟨hx, hb, hml, hown, htl⟩ (c_X0_countAhead l dC dI le _ hk hP) (cwV 1 htl gX0_52 rfl rfl rfl hd_X0_countAhead ⟨Nat.le_of_ble_eq_true rfl, Nat.le_of_ble_eq_true rfl⟩) ⟨fb_ro, va_recv hK hP (ci := 0) (q0 := 0) rfl rfl, fun U hU hW => ⟨rfl, hU, va_K.moved hW.alike hK⟩⟩ rfl rfl hl.1 rfl (lv_room (Nat.le_of_ble_eq_true rfl)) dX0_number_2 ⟨Nat.le_of_ble_eq_true rfl, Nat.le_of_ble_eq_true rfl⟩) ?_
  refine lv_istore_n (lv' := [(2, .int (nI (kb_fst (kb_ah f u w g mf mu ml le) k 0))), (0, .ref x), (1, .int le)]) hx hb dX0_number_5 rfl hl (by decide) rfl (fun ls hl => ?_)
  have hr0 := kb_fst_le (kb_ah f u w g mf mu ml le) k 0
  refine lv_aload_n hx hb dX0_number_6 rfl (lv_at hl 1 rfl) ?_
  refine lv_iload_n hx hb dX0_number_7 rfl (lv_at hl 0 rfl) ?_
  refine lv_iload_n hx hb dX0_number_8 rfl (lv_at hl 2 rfl) ?_
  refine ru_calli (va_runV (As := [.int (nI (kb_fst (kb_ah f u w g mf mu ml le) k 0)), .int le]) (rest := []) ⟨hx, hb, hml, hown, htl⟩ (c_X0_standsAt l dC dI (kb_fst (kb_ah f u w g mf mu ml le) k 0) le _ hk (by omega) hP) (cwV 2 htl gX0_56 rfl rfl rfl hd_X0_standsAt ⟨Nat.le_of_ble_eq_true rfl, Nat.le_of_ble_eq_true rfl⟩) ⟨fb_ro, va_recv hK hP (ci := 0) (q0 := 0) rfl rfl, fun U hU hW => ⟨rfl, hU, va_K.moved hW.alike hK⟩⟩ rfl rfl hl.1 rfl (lv_room (Nat.le_of_ble_eq_true rfl)) dX0_number_9 ⟨Nat.le_of_ble_eq_true rfl, Nat.le_of_ble_eq_true rfl⟩) ?_
  refine lv_if_eq (tgt := 24) hx hb dX0_number_12 (by decide) (fun c_1 => ?_) (fun c_1 => ?_)
  · rw [b2i_0] at c_1
    refine lv_ldc (v := (-2147483648)) hx hb hown (htl _ kcX0_71) dX0_number_24 ?_
    exact ru_iret hx hb hr hlocks (by simp only [c_1, if_true, if_false, Bool.false_eq_true, reduceIte]) dX0_number_26
  · rw [b2i_0, Bool.not_eq_false] at c_1
    have hlt := kb_st_lt c_1
    refine lv_aload_n hx hb dX0_number_15 rfl (lv_at hl 1 rfl) ?_
    refine va_get (D := (dC, dI)) (ci := 0) (v := .ref a5) (C := RX0) (T := TX0) (N := 9) hx hb htl inX0 hown hK hP 0 rfl rfl 4 (by decide) (htl _ flX0_23) (fun _ h9 => h9) rfl dX0_number_16 ?_
    refine lv_iload_n hx hb dX0_number_19 rfl (lv_at hl 0 rfl) ?_
    refine ld_i hx hb hK hP 5 4 rfl rfl (j := (kb_fst (kb_ah f u w g mf mu ml le) k 0)) (by omega) (Nat.le_of_ble_eq_true rfl) dX0_number_20 ?_
    refine lv_goto (tgt := 26) hx hb dX0_number_21 (by decide) ?_
    exact ru_iret hx hb hr hlocks (by simp only [c_1, if_true, if_false, Bool.false_eq_true, reduceIte]) dX0_number_26
set_option maxHeartbeats 4000000 in
set_option maxRecDepth 100000 in
theorem c_X0_ahead (l : Launch) (dC : Nat → ClassId) (dI : Nat → Nat → Nat) {x a1 a2 a3 a4 a5 : Nat} {k1 k2 k3 k4 k5 : ClassId} {f : Nat → Int32} {u w : Nat → Int64} {g n : Nat → Int32} {k : Nat} {mf : Int32} {mu ml : Int64} (le : Int32) (Hh : Heap) (hk : k ≤ 1000) (hP : va_P (dC, dI) classes (pbw x a1 a2 a3 a4 a5 k1 k2 k3 k4 k5 f u w g n k mf mu ml) Hh) : Met l yX0_ahead (ww yX0_ahead cX0_ahead 2 (some .int)) ({ frames := 3, cells := 0, slots := 0, locals := 67 } : Room) (va_Pc [.ref x, .int le] (fun U => U.heap = Hh ∧ va_K (dC, dI) classes (pbt k1 k2 k3 k4 k5) U)) (va_Qi (fun r (_ : Unit) => r = (if kb_len mf le = true then nI (kb_fst (kb_ah f u w g mf mu ml le) k 0) else (-1))) (fun _ t => t.heap = Hh) (fun _ => False)) 0 0 (fun _ => False) := by
  refine Met.ofW (cc := cX0_ahead) (maxL := 2) (ret := (some .int)) (by decide) rfl ?_
  intro p e s m args below meth c s₁ B hml hv
  obtain ⟨rfl, hHh, hK⟩ := hv
  subst hHh
  have hx := B.exec
  have hb := B.bytes
  have hr := B.returns
  have hts := atoms_spec (ws := ww yX0_ahead cX0_ahead 2 (some .int)) B.pre
  have htl : ∀ w ∈ ltg, w.before [.ref x, .int le].toArray s = true := fun w h => hts w (List.mem_cons_of_mem _ h)
  have hown : s.vm.findClass RX0 = some m.cls := findClass_of_methodNamed B.named
  have hlocks := B.notSynchronized
  have hl := lv_entry ([.ref x, .int le]) (n := 2) (Nat.le_of_ble_eq_true rfl)
  rw [lg_entry_eq]
  generalize (lg_sl ([.ref x, .int le]) ++ List.replicate (2 - (lg_sl ([.ref x, .int le])).length) Slot.unset).toArray = ls at hl ⊢
  have hl : lv_has ls 2 [(0, .ref x), (1, .int le)] := hl
  refine lv_aload_n hx hb dX0_ahead_0 rfl (lv_at hl 0 rfl) ?_
  refine lv_iload_n hx hb dX0_ahead_1 rfl (lv_at hl 1 rfl) ?_
  refine ru_calli (va_runV (As := [.int le]) (rest := []) ⟨hx, hb, hml, hown, htl⟩ (c_X0_isLength l dC dI le _ hP) (cwV 1 htl gX0_75 rfl rfl rfl hd_X0_isLength ⟨Nat.le_of_ble_eq_true rfl, Nat.le_of_ble_eq_true rfl⟩) ⟨fb_ro, va_recv hK hP (ci := 0) (q0 := 0) rfl rfl, fun U hU hW => ⟨rfl, hU, va_K.moved hW.alike hK⟩⟩ rfl rfl hl.1 rfl (lv_room (Nat.le_of_ble_eq_true rfl)) dX0_ahead_2 ⟨Nat.le_of_ble_eq_true rfl, Nat.le_of_ble_eq_true rfl⟩) ?_
  refine lv_if_eq (tgt := 16) hx hb dX0_ahead_5 (by decide) (fun c_1 => ?_) (fun c_1 => ?_)
  · rw [b2i_0] at c_1
    refine lv_iconst (v := (-1)) hx hb dX0_ahead_16 (by decide) ?_
    exact ru_iret hx hb hr hlocks (by simp only [c_1, if_true, if_false, Bool.false_eq_true, reduceIte]) dX0_ahead_17
  · rw [b2i_0, Bool.not_eq_false] at c_1
    refine lv_aload_n hx hb dX0_ahead_8 rfl (lv_at hl 0 rfl) ?_
    refine lv_iload_n hx hb dX0_ahead_9 rfl (lv_at hl 1 rfl) ?_
    refine ru_calli (va_runV (As := [.int le]) (rest := []) ⟨hx, hb, hml, hown, htl⟩ (c_X0_countAhead l dC dI le _ hk hP) (cwV 1 htl gX0_52 rfl rfl rfl hd_X0_countAhead ⟨Nat.le_of_ble_eq_true rfl, Nat.le_of_ble_eq_true rfl⟩) ⟨fb_ro, va_recv hK hP (ci := 0) (q0 := 0) rfl rfl, fun U hU hW => ⟨rfl, hU, va_K.moved hW.alike hK⟩⟩ rfl rfl hl.1 rfl (lv_room (Nat.le_of_ble_eq_true rfl)) dX0_ahead_10 ⟨Nat.le_of_ble_eq_true rfl, Nat.le_of_ble_eq_true rfl⟩) ?_
    refine lv_goto (tgt := 17) hx hb dX0_ahead_13 (by decide) ?_
    exact ru_iret hx hb hr hlocks (by simp only [c_1, if_true, if_false, Bool.false_eq_true, reduceIte]) dX0_ahead_17
set_option maxHeartbeats 4000000 in
set_option maxRecDepth 100000 in
theorem c_X0_size (l : Launch) (dC : Nat → ClassId) (dI : Nat → Nat → Nat) {x a1 a2 a3 a4 a5 : Nat} {k1 k2 k3 k4 k5 : ClassId} {f : Nat → Int32} {u w : Nat → Int64} {g n : Nat → Int32} {k : Nat} {mf : Int32} {mu ml : Int64}  (Hh : Heap)  (hP : va_P (dC, dI) classes (pbw x a1 a2 a3 a4 a5 k1 k2 k3 k4 k5 f u w g n k mf mu ml) Hh) : Met l yX0_size (ww yX0_size cX0_size 1 (some .int)) ({ frames := 0, cells := 0, slots := 0, locals := 0 } : Room) (va_Pc [.ref x] (fun U => U.heap = Hh ∧ va_K (dC, dI) classes (pbt k1 k2 k3 k4 k5) U)) (va_Qi (fun r (_ : Unit) => r = (nI k)) (fun _ t => t.heap = Hh) (fun _ => False)) 0 0 (fun _ => False) := by
  refine Met.ofW (cc := cX0_size) (maxL := 1) (ret := (some .int)) (by decide) rfl ?_
  intro p e s m args below meth c s₁ B hml hv
  obtain ⟨rfl, hHh, hK⟩ := hv
  subst hHh
  have hx := B.exec
  have hb := B.bytes
  have hr := B.returns
  have hts := atoms_spec (ws := ww yX0_size cX0_size 1 (some .int)) B.pre
  have htl : ∀ w ∈ ltg, w.before [.ref x].toArray s = true := fun w h => hts w (List.mem_cons_of_mem _ h)
  have hown : s.vm.findClass RX0 = some m.cls := findClass_of_methodNamed B.named
  have hlocks := B.notSynchronized
  have hl := lv_entry ([.ref x]) (n := 1) (Nat.le_of_ble_eq_true rfl)
  rw [lg_entry_eq]
  generalize (lg_sl ([.ref x]) ++ List.replicate (1 - (lg_sl ([.ref x])).length) Slot.unset).toArray = ls at hl ⊢
  have hl : lv_has ls 1 [(0, .ref x)] := hl
  refine lv_aload_n hx hb dX0_size_0 rfl (lv_at hl 0 rfl) ?_
  refine va_get (D := (dC, dI)) (ci := 0) (v := .int (nI k)) (C := RX0) (T := TX0) (N := 9) hx hb htl inX0 hown hK hP 0 rfl rfl 5 (by decide) (htl _ flX0_26) (fun _ h9 => h9) rfl dX0_size_1 ?_
  exact ru_iret hx hb hr hlocks (rfl) dX0_size_4
set_option maxHeartbeats 4000000 in
set_option maxRecDepth 100000 in
theorem c_X0_told (l : Launch) (dC : Nat → ClassId) (dI : Nat → Nat → Nat) {x a1 a2 a3 a4 a5 : Nat} {k1 k2 k3 k4 k5 : ClassId} {f : Nat → Int32} {u w : Nat → Int64} {g n : Nat → Int32} {k : Nat} {mf : Int32} {mu ml : Int64} (wh : Int32) (Hh : Heap)  (hP : va_P (dC, dI) classes (pbw x a1 a2 a3 a4 a5 k1 k2 k3 k4 k5 f u w g n k mf mu ml) Hh) : Met l yX0_told (ww yX0_told cX0_told 2 (some .long)) ({ frames := 0, cells := 0, slots := 0, locals := 0 } : Room) (va_Pc [.ref x, .int wh] (fun U => U.heap = Hh ∧ va_K (dC, dI) classes (pbt k1 k2 k3 k4 k5) U)) (va_Ql (fun r (_ : Unit) => r = (if wh = 0 then mf.toInt64 else if wh = 1 then mu else if wh = 2 then ml else 0)) (fun _ t => t.heap = Hh) (fun _ => False)) 0 0 (fun _ => False) := by
  refine Met.ofW (cc := cX0_told) (maxL := 2) (ret := (some .long)) (by decide) rfl ?_
  intro p e s m args below meth c s₁ B hml hv
  obtain ⟨rfl, hHh, hK⟩ := hv
  subst hHh
  have hx := B.exec
  have hb := B.bytes
  have hr := B.returns
  have hts := atoms_spec (ws := ww yX0_told cX0_told 2 (some .long)) B.pre
  have htl : ∀ w ∈ ltg, w.before [.ref x, .int wh].toArray s = true := fun w h => hts w (List.mem_cons_of_mem _ h)
  have hown : s.vm.findClass RX0 = some m.cls := findClass_of_methodNamed B.named
  have hlocks := B.notSynchronized
  have hl := lv_entry ([.ref x, .int wh]) (n := 2) (Nat.le_of_ble_eq_true rfl)
  rw [lg_entry_eq]
  generalize (lg_sl ([.ref x, .int wh]) ++ List.replicate (2 - (lg_sl ([.ref x, .int wh])).length) Slot.unset).toArray = ls at hl ⊢
  have hl : lv_has ls 2 [(0, .ref x), (1, .int wh)] := hl
  refine lv_iload_n hx hb dX0_told_0 rfl (lv_at hl 1 rfl) ?_
  by_cases t_1 : wh = 0
  · refine lv_tableIn (off := 27) (tgt := 28) hx hb dX0_told_1 (by rw [t_1]; decide) (by rw [t_1]; decide) (by rw [t_1]; rfl) (by decide) ?_
    refine lv_aload_n hx hb dX0_told_28 rfl (lv_at hl 0 rfl) ?_
    refine va_get (D := (dC, dI)) (ci := 0) (v := .int mf) (C := RX0) (T := TX0) (N := 9) hx hb htl inX0 hown hK hP 0 rfl rfl 6 (by decide) (htl _ flX0_30) (fun _ h9 => h9) rfl dX0_told_29 ?_
    refine lv_i2l hx hb dX0_told_32 rfl ?_
    exact ru_lret hx hb hr hlocks (by simp [t_1]) dX0_told_33
  by_cases t_2 : wh = 1
  · refine lv_tableIn (off := 33) (tgt := 34) hx hb dX0_told_1 (by rw [t_2]; decide) (by rw [t_2]; decide) (by rw [t_2]; rfl) (by decide) ?_
    refine lv_aload_n hx hb dX0_told_34 rfl (lv_at hl 0 rfl) ?_
    refine va_get (D := (dC, dI)) (ci := 0) (v := .long mu) (C := RX0) (T := TX0) (N := 9) hx hb htl inX0 hown hK hP 0 rfl rfl 7 (by decide) (htl _ flX0_33) (fun _ h9 => h9) rfl dX0_told_35 ?_
    exact ru_lret hx hb hr hlocks (by simp [t_1, t_2]) dX0_told_38
  by_cases t_3 : wh = 2
  · refine lv_tableIn (off := 38) (tgt := 39) hx hb dX0_told_1 (by rw [t_3]; decide) (by rw [t_3]; decide) (by rw [t_3]; rfl) (by decide) ?_
    refine lv_aload_n hx hb dX0_told_39 rfl (lv_at hl 0 rfl) ?_
    refine va_get (D := (dC, dI)) (ci := 0) (v := .long ml) (C := RX0) (T := TX0) (N := 9) hx hb htl inX0 hown hK hP 0 rfl rfl 8 (by decide) (htl _ flX0_37) (fun _ h9 => h9) rfl dX0_told_40 ?_
    exact ru_lret hx hb hr hlocks (by simp [t_1, t_2, t_3]) dX0_told_43
  refine lv_tableOut (tgt := 44) hx hb dX0_told_1 (by have zt_1 := lv_neT t_1 (a := 0) rfl; have zt_2 := lv_neT t_2 (a := 1) rfl; have zt_3 := lv_neT t_3 (a := 2) rfl; omega) (by decide) ?_
  refine lv_lconst (v := 0) hx hb dX0_told_44 (by decide) ?_
  exact ru_lret hx hb hr hlocks (by simp [t_1, t_2, t_3]) dX0_told_45
set_option maxHeartbeats 4000000 in
set_option maxRecDepth 100000 in
theorem c_X0_address (l : Launch) (dC : Nat → ClassId) (dI : Nat → Nat → Nat) {x a1 a2 a3 a4 a5 : Nat} {k1 k2 k3 k4 k5 : ClassId} {f : Nat → Int32} {u w : Nat → Int64} {g n : Nat → Int32} {k : Nat} {mf : Int32} {mu ml : Int64} (fa : Int32) (up lo : Int64) (A : Nat → Prop)  (hD : va_D A (pbw x a1 a2 a3 a4 a5 k1 k2 k3 k4 k5 f u w g n k mf mu ml)) : Met l yX0_address (ww yX0_address cX0_address 6 (some .boolean)) ({ frames := 1, cells := 0, slots := 0, locals := 25 } : Room) (va_Pc [.ref x, .int fa, .long up, .long lo] (fun U => va_P (dC, dI) classes (pbw x a1 a2 a3 a4 a5 k1 k2 k3 k4 k5 f u w g n k mf mu ml) U.heap ∧ va_K (dC, dI) classes (pbt k1 k2 k3 k4 k5) U)) (va_Qi (fun r (_ : Unit) => r = (b2i (kb_addr fa up lo))) (fun _ t => va_P (dC, dI) classes (if kb_addr fa up lo = true then (pbw x a1 a2 a3 a4 a5 k1 k2 k3 k4 k5 f u w g n k fa up lo) else (pbw x a1 a2 a3 a4 a5 k1 k2 k3 k4 k5 f u w g n k mf mu ml)) t.heap) A) 0 0 A := by
  refine Met.ofW (cc := cX0_address) (maxL := 6) (ret := (some .boolean)) (by decide) rfl ?_
  intro p e s m args below meth c s₁ B hml hv
  obtain ⟨rfl, hP, hK⟩ := hv
  have hS : va_S A s.heap s.heap [] := va_S.rf
  have hx := B.exec
  have hb := B.bytes
  have hr := B.returns
  have hts := atoms_spec (ws := ww yX0_address cX0_address 6 (some .boolean)) B.pre
  have htl : ∀ w ∈ ltg, w.before [.ref x, .int fa, .long up, .long lo].toArray s = true := fun w h => hts w (List.mem_cons_of_mem _ h)
  have hown : s.vm.findClass RX0 = some m.cls := findClass_of_methodNamed B.named
  have hlocks := B.notSynchronized
  have hl := lv_entry ([.ref x, .int fa, .long up, .long lo]) (n := 6) (Nat.le_of_ble_eq_true rfl)
  rw [lg_entry_eq]
  generalize (lg_sl ([.ref x, .int fa, .long up, .long lo]) ++ List.replicate (6 - (lg_sl ([.ref x, .int fa, .long up, .long lo])).length) Slot.unset).toArray = ls at hl ⊢
  have hl : lv_has ls 6 [(0, .ref x), (1, .int fa), (2, .long up), (4, .long lo)] := hl
  refine lv_iload_n hx hb dX0_address_0 rfl (lv_at hl 1 rfl) ?_
  refine lv_lload_n hx hb dX0_address_1 rfl (lv_at hl 2 rfl) ?_
  refine lv_lload hx hb dX0_address_2 (lv_at hl 3 rfl) ?_
  refine ru_calli (va_runS (As := [.int fa, .long up, .long lo]) (rest := []) ⟨hx, hb, hml, hown, htl⟩ (c_X0_isAddress l dC dI fa up lo _) (cwS 3 htl gX0_40 rfl rfl rfl hd_X0_isAddress ⟨Nat.le_of_ble_eq_true rfl, Nat.le_of_ble_eq_true rfl⟩) ⟨fb_ro, fun U hU hW => ⟨rfl, hU, va_K.moved hW.alike hK⟩⟩ rfl rfl hl.1 rfl (lv_room (Nat.le_of_ble_eq_true rfl)) dX0_address_4 ⟨Nat.le_of_ble_eq_true rfl, Nat.le_of_ble_eq_true rfl⟩) ?_
  refine lv_if_ne (tgt := 12) hx hb dX0_address_7 (by decide) (fun c_1 => ?_) (fun c_1 => ?_)
  · rw [b2i_0, Bool.not_eq_false] at c_1
    refine lv_aload_n hx hb dX0_address_12 rfl (lv_at hl 0 rfl) ?_
    refine lv_iload_n hx hb dX0_address_13 rfl (lv_at hl 1 rfl) ?_
    refine lv_lload_n hx hb dX0_address_14 rfl (lv_at hl 2 rfl) ?_
    refine lv_lload hx hb dX0_address_15 (lv_at hl 3 rfl) ?_
    refine mu_callv (va_runV (As := [.int fa, .long up, .long lo]) (rest := []) ⟨hx, hb, hml, hown, htl⟩ (c_X0_mean l dC dI fa up lo A hD) (cwV 3 htl gX0_44 rfl rfl rfl hd_X0_mean ⟨Nat.le_of_ble_eq_true rfl, Nat.le_of_ble_eq_true rfl⟩) ⟨fb_mu, va_recv hK hP (ci := 0) (q0 := 0) rfl rfl, fun U hU hW => ⟨rfl, by rw [hU]; exact hP, va_K.moved hW.alike hK⟩⟩ rfl rfl hl.1 rfl (lv_room (Nat.le_of_ble_eq_true rfl)) dX0_address_17 ⟨Nat.le_of_ble_eq_true rfl, Nat.le_of_ble_eq_true rfl⟩) hS (fun _ h => h) (fun H_2 locs hP hS _ => ?_)
    have hP : va_P (dC, dI) classes [(x, .inr (0, [.ref a1, .ref a2, .ref a3, .ref a4, .ref a5, .int (nI k), .int fa, .long up, .long lo])), (a1, .inl (k1, 1000, .inl f)), (a2, .inl (k2, 1000, .inr (.inl u))), (a3, .inl (k3, 1000, .inr (.inl w))), (a4, .inl (k4, 1000, .inl g)), (a5, .inl (k5, 1000, .inl n))] H_2 := hP
    have hD : va_D A [(x, .inr (0, [.ref a1, .ref a2, .ref a3, .ref a4, .ref a5, .int (nI k), .int fa, .long up, .long lo])), (a1, .inl (k1, 1000, .inl f)), (a2, .inl (k2, 1000, .inr (.inl u))), (a3, .inl (k3, 1000, .inr (.inl w))), (a4, .inl (k4, 1000, .inl g)), (a5, .inl (k5, 1000, .inl n))] := vd_same hD rfl
    refine lv_iconst (v := 1) hx hb dX0_address_20 (by decide) ?_
    exact mu_zret hx hb hr hlocks hS hP (by simp only [c_1, if_true, if_false, Bool.false_eq_true, reduceIte]) (by rw [c_1]; rfl) rfl dX0_address_21
  · rw [b2i_0] at c_1
    refine lv_iconst (v := 0) hx hb dX0_address_10 (by decide) ?_
    exact mu_zret hx hb hr hlocks hS hP (by simp only [c_1, if_true, if_false, Bool.false_eq_true, reduceIte]) (by rw [c_1]; rfl) rfl dX0_address_11
set_option maxHeartbeats 4000000 in
set_option maxRecDepth 100000 in
theorem c_X0_atBad (l : Launch) (dC : Nat → ClassId) (dI : Nat → Nat → Nat) {x a1 a2 a3 a4 a5 : Nat} {k1 k2 k3 k4 k5 : ClassId} {f : Nat → Int32} {u w : Nat → Int64} {g n : Nat → Int32} {k : Nat} {mf : Int32} {mu ml : Int64} (ra : Int32) (A : Nat → Prop) (hra : ra < 0 ∨ nI k ≤ ra) (hD : va_D A (pbw x a1 a2 a3 a4 a5 k1 k2 k3 k4 k5 f u w g n k mf mu ml)) : Met l yX0_at (ww yX0_at cX0_at 2 (some .int)) ({ frames := 1, cells := 0, slots := 0, locals := 25 } : Room) (va_Pc [.ref x, .int ra] (fun U => va_P (dC, dI) classes (pbw x a1 a2 a3 a4 a5 k1 k2 k3 k4 k5 f u w g n k mf mu ml) U.heap ∧ va_K (dC, dI) classes (pbt k1 k2 k3 k4 k5) U)) (va_Qi (fun r (_ : Unit) => r = (-1)) (fun _ t => va_P (dC, dI) classes (pbw x a1 a2 a3 a4 a5 k1 k2 k3 k4 k5 f u w g n k mf mu ml) t.heap) A) 0 0 A := by
  refine Met.ofW (cc := cX0_at) (maxL := 2) (ret := (some .int)) (by decide) rfl ?_
  intro p e s m args below meth c s₁ B hml hv
  obtain ⟨rfl, hP, hK⟩ := hv
  have hS : va_S A s.heap s.heap [] := va_S.rf
  have hx := B.exec
  have hb := B.bytes
  have hr := B.returns
  have hts := atoms_spec (ws := ww yX0_at cX0_at 2 (some .int)) B.pre
  have htl : ∀ w ∈ ltg, w.before [.ref x, .int ra].toArray s = true := fun w h => hts w (List.mem_cons_of_mem _ h)
  have hown : s.vm.findClass RX0 = some m.cls := findClass_of_methodNamed B.named
  have hlocks := B.notSynchronized
  have hl := lv_entry ([.ref x, .int ra]) (n := 2) (Nat.le_of_ble_eq_true rfl)
  rw [lg_entry_eq]
  generalize (lg_sl ([.ref x, .int ra]) ++ List.replicate (2 - (lg_sl ([.ref x, .int ra])).length) Slot.unset).toArray = ls at hl ⊢
  have hl : lv_has ls 2 [(0, .ref x), (1, .int ra)] := hl
  refine lv_iload_n hx hb dX0_at_0 rfl (lv_at hl 1 rfl) ?_
  refine lv_if_lt (tgt := 12) hx hb dX0_at_1 (by decide) (fun c_1 => ?_) (fun c_1 => ?_)
  · refine lv_iconst (v := (-1)) hx hb dX0_at_12 (by decide) ?_
    exact mu_iret hx hb hr hlocks hS hP (rfl) (rfl) dX0_at_13
  · refine lv_iload_n hx hb dX0_at_4 rfl (lv_at hl 1 rfl) ?_
    refine lv_aload_n hx hb dX0_at_5 rfl (lv_at hl 0 rfl) ?_
    refine va_get (D := (dC, dI)) (ci := 0) (v := .int (nI k)) (C := RX0) (T := TX0) (N := 9) hx hb htl inX0 hown hK hP 0 rfl rfl 5 (by decide) (htl _ flX0_26) (fun _ h9 => h9) rfl dX0_at_6 ?_
    refine lv_icmp_lt (tgt := 14) hx hb dX0_at_9 (by decide) (fun c_2 => ?_) (fun c_2 => ?_)
    · exact absurd hra (fun q => q.elim c_1 (fun z => Int32.not_le.mpr c_2 z))
    · refine lv_iconst (v := (-1)) hx hb dX0_at_12 (by decide) ?_
      exact mu_iret hx hb hr hlocks hS hP (rfl) (rfl) dX0_at_13
set_option maxHeartbeats 4000000 in
set_option maxRecDepth 100000 in
theorem c_X0_atOk (l : Launch) (dC : Nat → ClassId) (dI : Nat → Nat → Nat) {x a1 a2 a3 a4 a5 : Nat} {k1 k2 k3 k4 k5 : ClassId} {f : Nat → Int32} {u w : Nat → Int64} {g n : Nat → Int32} {k : Nat} {mf : Int32} {mu ml : Int64} (j : Nat) (A : Nat → Prop) (hj : j < k) (hk : k ≤ 1000) (hD : va_D A (pbw x a1 a2 a3 a4 a5 k1 k2 k3 k4 k5 f u w g n k mf mu ml)) : Met l yX0_at (ww yX0_at cX0_at 2 (some .int)) ({ frames := 1, cells := 0, slots := 0, locals := 25 } : Room) (va_Pc [.ref x, .int (nI j)] (fun U => va_P (dC, dI) classes (pbw x a1 a2 a3 a4 a5 k1 k2 k3 k4 k5 f u w g n k mf mu ml) U.heap ∧ va_K (dC, dI) classes (pbt k1 k2 k3 k4 k5) U)) (va_Qi (fun r (_ : Unit) => r = (g j)) (fun _ t => va_P (dC, dI) classes (pbw x a1 a2 a3 a4 a5 k1 k2 k3 k4 k5 f u w g n k (f j) (u j) (w j)) t.heap) A) 0 0 A := by
  refine Met.ofW (cc := cX0_at) (maxL := 2) (ret := (some .int)) (by decide) rfl ?_
  intro p e s m args below meth c s₁ B hml hv
  obtain ⟨rfl, hP, hK⟩ := hv
  have hS : va_S A s.heap s.heap [] := va_S.rf
  have hx := B.exec
  have hb := B.bytes
  have hr := B.returns
  have hts := atoms_spec (ws := ww yX0_at cX0_at 2 (some .int)) B.pre
  have htl : ∀ w ∈ ltg, w.before [.ref x, .int (nI j)].toArray s = true := fun w h => hts w (List.mem_cons_of_mem _ h)
  have hown : s.vm.findClass RX0 = some m.cls := findClass_of_methodNamed B.named
  have hlocks := B.notSynchronized
  have hl := lv_entry ([.ref x, .int (nI j)]) (n := 2) (Nat.le_of_ble_eq_true rfl)
  rw [lg_entry_eq]
  generalize (lg_sl ([.ref x, .int (nI j)]) ++ List.replicate (2 - (lg_sl ([.ref x, .int (nI j)])).length) Slot.unset).toArray = ls at hl ⊢
  have hl : lv_has ls 2 [(0, .ref x), (1, .int (nI j))] := hl
  refine lv_iload_n hx hb dX0_at_0 rfl (lv_at hl 1 rfl) ?_
  refine lv_if_lt (tgt := 12) hx hb dX0_at_1 (by decide) (fun c_1 => ?_) (fun c_1 => ?_)
  · exact absurd c_1 (nI_pos (by omega))
  · refine lv_iload_n hx hb dX0_at_4 rfl (lv_at hl 1 rfl) ?_
    refine lv_aload_n hx hb dX0_at_5 rfl (lv_at hl 0 rfl) ?_
    refine va_get (D := (dC, dI)) (ci := 0) (v := .int (nI k)) (C := RX0) (T := TX0) (N := 9) hx hb htl inX0 hown hK hP 0 rfl rfl 5 (by decide) (htl _ flX0_26) (fun _ h9 => h9) rfl dX0_at_6 ?_
    refine lv_icmp_lt (tgt := 14) hx hb dX0_at_9 (by decide) (fun c_2 => ?_) (fun c_2 => ?_)
    · refine lv_aload_n hx hb dX0_at_14 rfl (lv_at hl 0 rfl) ?_
      refine lv_aload_n hx hb dX0_at_15 rfl (lv_at hl 0 rfl) ?_
      refine va_get (D := (dC, dI)) (ci := 0) (v := .ref a1) (C := RX0) (T := TX0) (N := 9) hx hb htl inX0 hown hK hP 0 rfl rfl 0 (by decide) (htl _ flX0_9) (fun _ h9 => h9) rfl dX0_at_16 ?_
      refine lv_iload_n hx hb dX0_at_19 rfl (lv_at hl 1 rfl) ?_
      refine ld_i hx hb hK hP 1 0 rfl rfl (j := j) (by omega) (Nat.le_of_ble_eq_true rfl) dX0_at_20 ?_
      refine lv_aload_n hx hb dX0_at_21 rfl (lv_at hl 0 rfl) ?_
      refine va_get (D := (dC, dI)) (ci := 0) (v := .ref a2) (C := RX0) (T := TX0) (N := 9) hx hb htl inX0 hown hK hP 0 rfl rfl 1 (by decide) (htl _ flX0_13) (fun _ h9 => h9) rfl dX0_at_22 ?_
      refine lv_iload_n hx hb dX0_at_25 rfl (lv_at hl 1 rfl) ?_
      refine ld_l hx hb hK hP 2 1 rfl rfl (j := j) (by omega) (Nat.le_of_ble_eq_true rfl) dX0_at_26 ?_
      refine lv_aload_n hx hb dX0_at_27 rfl (lv_at hl 0 rfl) ?_
      refine va_get (D := (dC, dI)) (ci := 0) (v := .ref a3) (C := RX0) (T := TX0) (N := 9) hx hb htl inX0 hown hK hP 0 rfl rfl 2 (by decide) (htl _ flX0_17) (fun _ h9 => h9) rfl dX0_at_28 ?_
      refine lv_iload_n hx hb dX0_at_31 rfl (lv_at hl 1 rfl) ?_
      refine ld_l hx hb hK hP 3 2 rfl rfl (j := j) (by omega) (Nat.le_of_ble_eq_true rfl) dX0_at_32 ?_
      refine mu_callv (va_runV (As := [.int (f j), .long (u j), .long (w j)]) (rest := []) ⟨hx, hb, hml, hown, htl⟩ (c_X0_mean l dC dI (f j) (u j) (w j) A hD) (cwV 3 htl gX0_44 rfl rfl rfl hd_X0_mean ⟨Nat.le_of_ble_eq_true rfl, Nat.le_of_ble_eq_true rfl⟩) ⟨fb_mu, va_recv hK hP (ci := 0) (q0 := 0) rfl rfl, fun U hU hW => ⟨rfl, by rw [hU]; exact hP, va_K.moved hW.alike hK⟩⟩ rfl rfl hl.1 rfl (lv_room (Nat.le_of_ble_eq_true rfl)) dX0_at_33 ⟨Nat.le_of_ble_eq_true rfl, Nat.le_of_ble_eq_true rfl⟩) hS (fun _ h => h) (fun H_3 locs hP hS _ => ?_)
      have hP : va_P (dC, dI) classes [(x, .inr (0, [.ref a1, .ref a2, .ref a3, .ref a4, .ref a5, .int (nI k), .int (f j), .long (u j), .long (w j)])), (a1, .inl (k1, 1000, .inl f)), (a2, .inl (k2, 1000, .inr (.inl u))), (a3, .inl (k3, 1000, .inr (.inl w))), (a4, .inl (k4, 1000, .inl g)), (a5, .inl (k5, 1000, .inl n))] H_3 := hP
      have hD : va_D A [(x, .inr (0, [.ref a1, .ref a2, .ref a3, .ref a4, .ref a5, .int (nI k), .int (f j), .long (u j), .long (w j)])), (a1, .inl (k1, 1000, .inl f)), (a2, .inl (k2, 1000, .inr (.inl u))), (a3, .inl (k3, 1000, .inr (.inl w))), (a4, .inl (k4, 1000, .inl g)), (a5, .inl (k5, 1000, .inl n))] := vd_same hD rfl
      refine lv_aload_n hx hb dX0_at_36 rfl (lv_at hl 0 rfl) ?_
      refine va_get (D := (dC, dI)) (ci := 0) (v := .ref a4) (C := RX0) (T := TX0) (N := 9) hx hb htl inX0 hown hK hP 0 rfl rfl 3 (by decide) (htl _ flX0_20) (fun _ h9 => h9) rfl dX0_at_37 ?_
      refine lv_iload_n hx hb dX0_at_40 rfl (lv_at hl 1 rfl) ?_
      refine ld_i hx hb hK hP 4 3 rfl rfl (j := j) (by omega) (Nat.le_of_ble_eq_true rfl) dX0_at_41 ?_
      exact mu_iret hx hb hr hlocks hS hP (rfl) (rfl) dX0_at_42
    · exact absurd (nI_lt hj (by omega)) c_2
end
section
set_option maxHeartbeats 4000000 in
set_option maxRecDepth 100000 in
theorem c_X0_init (l : Launch) (dC : Nat → ClassId) (dI : Nat → Nat → Nat) (h0 sz : Nat) : Met l yX0_init (ww yX0_init cX0_init 1 none) ({ frames := 1, cells := 5, slots := 5000, locals := 12 } : Room) (va_Pc [.ref h0] (fun U => U.heap.size = sz ∧ va_P (dC, dI) classes [(h0, .inr (0, [.null, .null, .null, .null, .null, .int 0, .int 0, .long 0, .long 0]))] U.heap ∧ va_K (dC, dI) classes [] U ∧ va_D (fun _ => True) [(h0, .inr (0, [.null, .null, .null, .null, .null, .int 0, .int 0, .long 0, .long 0]))])) (va_Qv (fun (_ : Unit) => True) (fun _ t => ∃ (a1 a2 a3 a4 a5 : Nat) (k1 k2 k3 k4 k5 : ClassId), va_P (dC, dI) classes (pbw h0 a1 a2 a3 a4 a5 k1 k2 k3 k4 k5 (fun _ => 0) (fun _ => 0) (fun _ => 0) (fun _ => 0) (fun _ => 0) 0 4 0 0) t.heap ∧ va_K (dC, dI) classes (pbt k1 k2 k3 k4 k5) t ∧ va_D (va_A [(h0, .inr (0, [.null, .null, .null, .null, .null, .int 0, .int 0, .long 0, .long 0]))] sz) (pbw h0 a1 a2 a3 a4 a5 k1 k2 k3 k4 k5 (fun _ => 0) (fun _ => 0) (fun _ => 0) (fun _ => 0) (fun _ => 0) 0 4 0 0)) (va_A [(h0, .inr (0, [.null, .null, .null, .null, .null, .int 0, .int 0, .long 0, .long 0]))] sz)) 5 5000 (va_A [(h0, .inr (0, [.null, .null, .null, .null, .null, .int 0, .int 0, .long 0, .long 0]))] sz) := by
  refine Met.ofW (cc := cX0_init) (maxL := 1) (ret := none) (by decide) rfl ?_
  intro p e s m args below meth c s₁ B hml hv
  obtain ⟨rfl, hsz, hP, hK, hD0⟩ := hv
  subst hsz
  have hD := hD0.self (sz := s.heap.size)
  generalize hAe : va_A [(h0, .inr (0, [.null, .null, .null, .null, .null, .int 0, .int 0, .long 0, .long 0]))] s.heap.size = A at hD ⊢
  have hA : ∀ q : Nat, s.heap.size ≤ q → A q := fun q h => by rw [← hAe]; exact Or.inr h
  have hS : va_S A s.heap s.heap [] := va_S.rf
  have hx := B.exec
  have hb := B.bytes
  have hr := B.returns
  have hts := atoms_spec (ws := ww yX0_init cX0_init 1 none) B.pre
  have htl : ∀ w ∈ ltg, w.before [.ref h0].toArray s = true := fun w h => hts w (List.mem_cons_of_mem _ h)
  have hown : s.vm.findClass RX0 = some m.cls := findClass_of_methodNamed B.named
  have hlocks := B.notSynchronized
  have hl := lv_entry ([.ref h0]) (n := 1) (Nat.le_of_ble_eq_true rfl)
  rw [lg_entry_eq]
  generalize (lg_sl ([.ref h0]) ++ List.replicate (1 - (lg_sl ([.ref h0])).length) Slot.unset).toArray = ls at hl ⊢
  have hl : lv_has ls 1 [(0, .ref h0)] := hl
  have hin : meth.name = "<init>" := (name_of_methodNamed B.named B.method).1
  refine lv_aload_n hx hb dX0_init_0 rfl (lv_at hl 0 rfl) ?_
  refine W.objInit hx hb hown (htl _ wo_0) (htl _ wo_1) (htl _ wo_c) rfl (by rw [hml]; exact hl.1) rfl dX0_init_1 (Nat.le_of_ble_eq_true rfl) (Nat.le_of_ble_eq_true rfl) ?_
  refine W.eq (g2 := F0 m 4 ls []) rfl ?_
  refine lv_aload_n hx hb dX0_init_4 rfl (lv_at hl 0 rfl) ?_
  refine lv_sipush (v := 1000) hx hb dX0_init_5 (by decide) ?_
  refine va_newa (atype := .int) hx hb (htl _ wa_int) (ty := .int) rfl hK hP hD hS hA (n := 1000) (N' := 1000) (a0 := (1000, .inl (fun _ => 0))) (fun _ => rfl) (by decide) (by decide) (by decide) (Nat.le_of_ble_eq_true rfl) (Nat.le_of_ble_eq_true rfl) dX0_init_8 (fun a1 k1 H_1 hK hP hD hS => ?_)
  have hP : va_P (dC, dI) classes [(h0, .inr (0, [.null, .null, .null, .null, .null, .int 0, .int 0, .long 0, .long 0])), (a1, .inl (k1, 1000, .inl (fun _ => 0)))] H_1 := hP
  have hD : va_D A [(h0, .inr (0, [.null, .null, .null, .null, .null, .int 0, .int 0, .long 0, .long 0])), (a1, .inl (k1, 1000, .inl (fun _ => 0)))] := hD
  have hK : va_K (dC, dI) classes [(k1, .int)] s := hK
  refine va_putF (D := (dC, dI)) (ci := 0) (v := .ref a1) (ty := .array .int) (C := RX0) (T := TX0) (N := 9) hx hb htl inX0 tyX0 tyX0_ok nmX0 hown hK hP hD hS 0 rfl rfl 0 (by decide) (htl _ flX0_9) (fun _ h9 => h9) rfl hin rfl (by decide +kernel) rfl rfl (Nat.le_of_ble_eq_true rfl) dX0_init_10 (fun H_2 locs hP hD hS => ?_)
  have hP : va_P (dC, dI) classes [(h0, .inr (0, [.ref a1, .null, .null, .null, .null, .int 0, .int 0, .long 0, .long 0])), (a1, .inl (k1, 1000, .inl (fun _ => 0)))] H_2 := hP
  have hD : va_D A [(h0, .inr (0, [.ref a1, .null, .null, .null, .null, .int 0, .int 0, .long 0, .long 0])), (a1, .inl (k1, 1000, .inl (fun _ => 0)))] := hD
  refine lv_aload_n hx hb dX0_init_13 rfl (lv_at hl 0 rfl) ?_
  refine lv_sipush (v := 1000) hx hb dX0_init_14 (by decide) ?_
  refine va_newa (atype := .long) hx hb (htl _ wa_long) (ty := .long) rfl hK hP hD hS hA (n := 1000) (N' := 1000) (a0 := (1000, .inr (.inl (fun _ => 0)))) (fun _ => rfl) (by decide) (by decide) (by decide) (Nat.le_of_ble_eq_true rfl) (Nat.le_of_ble_eq_true rfl) dX0_init_17 (fun a2 k2 H_3 hK hP hD hS => ?_)
  have hP : va_P (dC, dI) classes [(h0, .inr (0, [.ref a1, .null, .null, .null, .null, .int 0, .int 0, .long 0, .long 0])), (a1, .inl (k1, 1000, .inl (fun _ => 0))), (a2, .inl (k2, 1000, .inr (.inl (fun _ => 0))))] H_3 := hP
  have hD : va_D A [(h0, .inr (0, [.ref a1, .null, .null, .null, .null, .int 0, .int 0, .long 0, .long 0])), (a1, .inl (k1, 1000, .inl (fun _ => 0))), (a2, .inl (k2, 1000, .inr (.inl (fun _ => 0))))] := hD
  have hK : va_K (dC, dI) classes [(k1, .int), (k2, .long)] s := hK
  refine va_putF (D := (dC, dI)) (ci := 0) (v := .ref a2) (ty := .array .long) (C := RX0) (T := TX0) (N := 9) hx hb htl inX0 tyX0 tyX0_ok nmX0 hown hK hP hD hS 0 rfl rfl 1 (by decide) (htl _ flX0_13) (fun _ h9 => h9) rfl hin rfl (by decide +kernel) rfl rfl (Nat.le_of_ble_eq_true rfl) dX0_init_19 (fun H_4 locs hP hD hS => ?_)
  have hP : va_P (dC, dI) classes [(h0, .inr (0, [.ref a1, .ref a2, .null, .null, .null, .int 0, .int 0, .long 0, .long 0])), (a1, .inl (k1, 1000, .inl (fun _ => 0))), (a2, .inl (k2, 1000, .inr (.inl (fun _ => 0))))] H_4 := hP
  have hD : va_D A [(h0, .inr (0, [.ref a1, .ref a2, .null, .null, .null, .int 0, .int 0, .long 0, .long 0])), (a1, .inl (k1, 1000, .inl (fun _ => 0))), (a2, .inl (k2, 1000, .inr (.inl (fun _ => 0))))] := hD
  refine lv_aload_n hx hb dX0_init_22 rfl (lv_at hl 0 rfl) ?_
  refine lv_sipush (v := 1000) hx hb dX0_init_23 (by decide) ?_
  refine va_newa (atype := .long) hx hb (htl _ wa_long) (ty := .long) rfl hK hP hD hS hA (n := 1000) (N' := 1000) (a0 := (1000, .inr (.inl (fun _ => 0)))) (fun _ => rfl) (by decide) (by decide) (by decide) (Nat.le_of_ble_eq_true rfl) (Nat.le_of_ble_eq_true rfl) dX0_init_26 (fun a3 k3 H_5 hK hP hD hS => ?_)
  have hP : va_P (dC, dI) classes [(h0, .inr (0, [.ref a1, .ref a2, .null, .null, .null, .int 0, .int 0, .long 0, .long 0])), (a1, .inl (k1, 1000, .inl (fun _ => 0))), (a2, .inl (k2, 1000, .inr (.inl (fun _ => 0)))), (a3, .inl (k3, 1000, .inr (.inl (fun _ => 0))))] H_5 := hP
  have hD : va_D A [(h0, .inr (0, [.ref a1, .ref a2, .null, .null, .null, .int 0, .int 0, .long 0, .long 0])), (a1, .inl (k1, 1000, .inl (fun _ => 0))), (a2, .inl (k2, 1000, .inr (.inl (fun _ => 0)))), (a3, .inl (k3, 1000, .inr (.inl (fun _ => 0))))] := hD
  have hK : va_K (dC, dI) classes [(k1, .int), (k2, .long), (k3, .long)] s := hK
  refine va_putF (D := (dC, dI)) (ci := 0) (v := .ref a3) (ty := .array .long) (C := RX0) (T := TX0) (N := 9) hx hb htl inX0 tyX0 tyX0_ok nmX0 hown hK hP hD hS 0 rfl rfl 2 (by decide) (htl _ flX0_17) (fun _ h9 => h9) rfl hin rfl (by decide +kernel) rfl rfl (Nat.le_of_ble_eq_true rfl) dX0_init_28 (fun H_6 locs hP hD hS => ?_)
  have hP : va_P (dC, dI) classes [(h0, .inr (0, [.ref a1, .ref a2, .ref a3, .null, .null, .int 0, .int 0, .long 0, .long 0])), (a1, .inl (k1, 1000, .inl (fun _ => 0))), (a2, .inl (k2, 1000, .inr (.inl (fun _ => 0)))), (a3, .inl (k3, 1000, .inr (.inl (fun _ => 0))))] H_6 := hP
  have hD : va_D A [(h0, .inr (0, [.ref a1, .ref a2, .ref a3, .null, .null, .int 0, .int 0, .long 0, .long 0])), (a1, .inl (k1, 1000, .inl (fun _ => 0))), (a2, .inl (k2, 1000, .inr (.inl (fun _ => 0)))), (a3, .inl (k3, 1000, .inr (.inl (fun _ => 0))))] := hD
  refine lv_aload_n hx hb dX0_init_31 rfl (lv_at hl 0 rfl) ?_
  refine lv_sipush (v := 1000) hx hb dX0_init_32 (by decide) ?_
  refine va_newa (atype := .int) hx hb (htl _ wa_int) (ty := .int) rfl hK hP hD hS hA (n := 1000) (N' := 1000) (a0 := (1000, .inl (fun _ => 0))) (fun _ => rfl) (by decide) (by decide) (by decide) (Nat.le_of_ble_eq_true rfl) (Nat.le_of_ble_eq_true rfl) dX0_init_35 (fun a4 k4 H_7 hK hP hD hS => ?_)
  have hP : va_P (dC, dI) classes [(h0, .inr (0, [.ref a1, .ref a2, .ref a3, .null, .null, .int 0, .int 0, .long 0, .long 0])), (a1, .inl (k1, 1000, .inl (fun _ => 0))), (a2, .inl (k2, 1000, .inr (.inl (fun _ => 0)))), (a3, .inl (k3, 1000, .inr (.inl (fun _ => 0)))), (a4, .inl (k4, 1000, .inl (fun _ => 0)))] H_7 := hP
  have hD : va_D A [(h0, .inr (0, [.ref a1, .ref a2, .ref a3, .null, .null, .int 0, .int 0, .long 0, .long 0])), (a1, .inl (k1, 1000, .inl (fun _ => 0))), (a2, .inl (k2, 1000, .inr (.inl (fun _ => 0)))), (a3, .inl (k3, 1000, .inr (.inl (fun _ => 0)))), (a4, .inl (k4, 1000, .inl (fun _ => 0)))] := hD
  have hK : va_K (dC, dI) classes [(k1, .int), (k2, .long), (k3, .long), (k4, .int)] s := hK
  refine va_putF (D := (dC, dI)) (ci := 0) (v := .ref a4) (ty := .array .int) (C := RX0) (T := TX0) (N := 9) hx hb htl inX0 tyX0 tyX0_ok nmX0 hown hK hP hD hS 0 rfl rfl 3 (by decide) (htl _ flX0_20) (fun _ h9 => h9) rfl hin rfl (by decide +kernel) rfl rfl (Nat.le_of_ble_eq_true rfl) dX0_init_37 (fun H_8 locs hP hD hS => ?_)
  have hP : va_P (dC, dI) classes [(h0, .inr (0, [.ref a1, .ref a2, .ref a3, .ref a4, .null, .int 0, .int 0, .long 0, .long 0])), (a1, .inl (k1, 1000, .inl (fun _ => 0))), (a2, .inl (k2, 1000, .inr (.inl (fun _ => 0)))), (a3, .inl (k3, 1000, .inr (.inl (fun _ => 0)))), (a4, .inl (k4, 1000, .inl (fun _ => 0)))] H_8 := hP
  have hD : va_D A [(h0, .inr (0, [.ref a1, .ref a2, .ref a3, .ref a4, .null, .int 0, .int 0, .long 0, .long 0])), (a1, .inl (k1, 1000, .inl (fun _ => 0))), (a2, .inl (k2, 1000, .inr (.inl (fun _ => 0)))), (a3, .inl (k3, 1000, .inr (.inl (fun _ => 0)))), (a4, .inl (k4, 1000, .inl (fun _ => 0)))] := hD
  refine lv_aload_n hx hb dX0_init_40 rfl (lv_at hl 0 rfl) ?_
  refine lv_sipush (v := 1000) hx hb dX0_init_41 (by decide) ?_
  refine va_newa (atype := .int) hx hb (htl _ wa_int) (ty := .int) rfl hK hP hD hS hA (n := 1000) (N' := 1000) (a0 := (1000, .inl (fun _ => 0))) (fun _ => rfl) (by decide) (by decide) (by decide) (Nat.le_of_ble_eq_true rfl) (Nat.le_of_ble_eq_true rfl) dX0_init_44 (fun a5 k5 H_9 hK hP hD hS => ?_)
  have hP : va_P (dC, dI) classes [(h0, .inr (0, [.ref a1, .ref a2, .ref a3, .ref a4, .null, .int 0, .int 0, .long 0, .long 0])), (a1, .inl (k1, 1000, .inl (fun _ => 0))), (a2, .inl (k2, 1000, .inr (.inl (fun _ => 0)))), (a3, .inl (k3, 1000, .inr (.inl (fun _ => 0)))), (a4, .inl (k4, 1000, .inl (fun _ => 0))), (a5, .inl (k5, 1000, .inl (fun _ => 0)))] H_9 := hP
  have hD : va_D A [(h0, .inr (0, [.ref a1, .ref a2, .ref a3, .ref a4, .null, .int 0, .int 0, .long 0, .long 0])), (a1, .inl (k1, 1000, .inl (fun _ => 0))), (a2, .inl (k2, 1000, .inr (.inl (fun _ => 0)))), (a3, .inl (k3, 1000, .inr (.inl (fun _ => 0)))), (a4, .inl (k4, 1000, .inl (fun _ => 0))), (a5, .inl (k5, 1000, .inl (fun _ => 0)))] := hD
  have hK : va_K (dC, dI) classes [(k1, .int), (k2, .long), (k3, .long), (k4, .int), (k5, .int)] s := hK
  refine va_putF (D := (dC, dI)) (ci := 0) (v := .ref a5) (ty := .array .int) (C := RX0) (T := TX0) (N := 9) hx hb htl inX0 tyX0 tyX0_ok nmX0 hown hK hP hD hS 0 rfl rfl 4 (by decide) (htl _ flX0_23) (fun _ h9 => h9) rfl hin rfl (by decide +kernel) rfl rfl (Nat.le_of_ble_eq_true rfl) dX0_init_46 (fun H_10 locs hP hD hS => ?_)
  have hP : va_P (dC, dI) classes [(h0, .inr (0, [.ref a1, .ref a2, .ref a3, .ref a4, .ref a5, .int 0, .int 0, .long 0, .long 0])), (a1, .inl (k1, 1000, .inl (fun _ => 0))), (a2, .inl (k2, 1000, .inr (.inl (fun _ => 0)))), (a3, .inl (k3, 1000, .inr (.inl (fun _ => 0)))), (a4, .inl (k4, 1000, .inl (fun _ => 0))), (a5, .inl (k5, 1000, .inl (fun _ => 0)))] H_10 := hP
  have hD : va_D A [(h0, .inr (0, [.ref a1, .ref a2, .ref a3, .ref a4, .ref a5, .int 0, .int 0, .long 0, .long 0])), (a1, .inl (k1, 1000, .inl (fun _ => 0))), (a2, .inl (k2, 1000, .inr (.inl (fun _ => 0)))), (a3, .inl (k3, 1000, .inr (.inl (fun _ => 0)))), (a4, .inl (k4, 1000, .inl (fun _ => 0))), (a5, .inl (k5, 1000, .inl (fun _ => 0)))] := hD
  refine lv_aload_n hx hb dX0_init_49 rfl (lv_at hl 0 rfl) ?_
  refine lv_iconst (v := nI 0) hx hb dX0_init_50 (by decide) ?_
  refine va_put (D := (dC, dI)) (ci := 0) (v := .int (nI 0)) (ty := .int) (C := RX0) (T := TX0) (N := 9) hx hb htl inX0 tyX0 tyX0_ok nmX0 hown hK hP hD hS 0 rfl rfl 5 (by decide) (htl _ flX0_26) (fun _ h9 => h9) rfl (by decide +kernel) rfl rfl (Nat.le_of_ble_eq_true rfl) dX0_init_51 (fun H_11 locs hP hD hS => ?_)
  have hP : va_P (dC, dI) classes [(h0, .inr (0, [.ref a1, .ref a2, .ref a3, .ref a4, .ref a5, .int (nI 0), .int 0, .long 0, .long 0])), (a1, .inl (k1, 1000, .inl (fun _ => 0))), (a2, .inl (k2, 1000, .inr (.inl (fun _ => 0)))), (a3, .inl (k3, 1000, .inr (.inl (fun _ => 0)))), (a4, .inl (k4, 1000, .inl (fun _ => 0))), (a5, .inl (k5, 1000, .inl (fun _ => 0)))] H_11 := hP
  have hD : va_D A [(h0, .inr (0, [.ref a1, .ref a2, .ref a3, .ref a4, .ref a5, .int (nI 0), .int 0, .long 0, .long 0])), (a1, .inl (k1, 1000, .inl (fun _ => 0))), (a2, .inl (k2, 1000, .inr (.inl (fun _ => 0)))), (a3, .inl (k3, 1000, .inr (.inl (fun _ => 0)))), (a4, .inl (k4, 1000, .inl (fun _ => 0))), (a5, .inl (k5, 1000, .inl (fun _ => 0)))] := hD
  refine lv_aload_n hx hb dX0_init_54 rfl (lv_at hl 0 rfl) ?_
  refine lv_iconst (v := 4) hx hb dX0_init_55 (by decide) ?_
  refine va_put (D := (dC, dI)) (ci := 0) (v := .int 4) (ty := .int) (C := RX0) (T := TX0) (N := 9) hx hb htl inX0 tyX0 tyX0_ok nmX0 hown hK hP hD hS 0 rfl rfl 6 (by decide) (htl _ flX0_30) (fun _ h9 => h9) rfl (by decide +kernel) rfl rfl (Nat.le_of_ble_eq_true rfl) dX0_init_56 (fun H_12 locs hP hD hS => ?_)
  have hP : va_P (dC, dI) classes [(h0, .inr (0, [.ref a1, .ref a2, .ref a3, .ref a4, .ref a5, .int (nI 0), .int 4, .long 0, .long 0])), (a1, .inl (k1, 1000, .inl (fun _ => 0))), (a2, .inl (k2, 1000, .inr (.inl (fun _ => 0)))), (a3, .inl (k3, 1000, .inr (.inl (fun _ => 0)))), (a4, .inl (k4, 1000, .inl (fun _ => 0))), (a5, .inl (k5, 1000, .inl (fun _ => 0)))] H_12 := hP
  have hD : va_D A [(h0, .inr (0, [.ref a1, .ref a2, .ref a3, .ref a4, .ref a5, .int (nI 0), .int 4, .long 0, .long 0])), (a1, .inl (k1, 1000, .inl (fun _ => 0))), (a2, .inl (k2, 1000, .inr (.inl (fun _ => 0)))), (a3, .inl (k3, 1000, .inr (.inl (fun _ => 0)))), (a4, .inl (k4, 1000, .inl (fun _ => 0))), (a5, .inl (k5, 1000, .inl (fun _ => 0)))] := hD
  refine lv_aload_n hx hb dX0_init_59 rfl (lv_at hl 0 rfl) ?_
  refine lv_lconst (v := 0) hx hb dX0_init_60 (by decide) ?_
  refine va_put (D := (dC, dI)) (ci := 0) (v := .long 0) (ty := .long) (C := RX0) (T := TX0) (N := 9) hx hb htl inX0 tyX0 tyX0_ok nmX0 hown hK hP hD hS 0 rfl rfl 7 (by decide) (htl _ flX0_33) (fun _ h9 => h9) rfl (by decide +kernel) rfl rfl (Nat.le_of_ble_eq_true rfl) dX0_init_61 (fun H_13 locs hP hD hS => ?_)
  have hP : va_P (dC, dI) classes [(h0, .inr (0, [.ref a1, .ref a2, .ref a3, .ref a4, .ref a5, .int (nI 0), .int 4, .long 0, .long 0])), (a1, .inl (k1, 1000, .inl (fun _ => 0))), (a2, .inl (k2, 1000, .inr (.inl (fun _ => 0)))), (a3, .inl (k3, 1000, .inr (.inl (fun _ => 0)))), (a4, .inl (k4, 1000, .inl (fun _ => 0))), (a5, .inl (k5, 1000, .inl (fun _ => 0)))] H_13 := hP
  have hD : va_D A [(h0, .inr (0, [.ref a1, .ref a2, .ref a3, .ref a4, .ref a5, .int (nI 0), .int 4, .long 0, .long 0])), (a1, .inl (k1, 1000, .inl (fun _ => 0))), (a2, .inl (k2, 1000, .inr (.inl (fun _ => 0)))), (a3, .inl (k3, 1000, .inr (.inl (fun _ => 0)))), (a4, .inl (k4, 1000, .inl (fun _ => 0))), (a5, .inl (k5, 1000, .inl (fun _ => 0)))] := hD
  refine lv_aload_n hx hb dX0_init_64 rfl (lv_at hl 0 rfl) ?_
  refine lv_lconst (v := 0) hx hb dX0_init_65 (by decide) ?_
  refine va_put (D := (dC, dI)) (ci := 0) (v := .long 0) (ty := .long) (C := RX0) (T := TX0) (N := 9) hx hb htl inX0 tyX0 tyX0_ok nmX0 hown hK hP hD hS 0 rfl rfl 8 (by decide) (htl _ flX0_37) (fun _ h9 => h9) rfl (by decide +kernel) rfl rfl (Nat.le_of_ble_eq_true rfl) dX0_init_66 (fun H_14 locs hP hD hS => ?_)
  have hP : va_P (dC, dI) classes [(h0, .inr (0, [.ref a1, .ref a2, .ref a3, .ref a4, .ref a5, .int (nI 0), .int 4, .long 0, .long 0])), (a1, .inl (k1, 1000, .inl (fun _ => 0))), (a2, .inl (k2, 1000, .inr (.inl (fun _ => 0)))), (a3, .inl (k3, 1000, .inr (.inl (fun _ => 0)))), (a4, .inl (k4, 1000, .inl (fun _ => 0))), (a5, .inl (k5, 1000, .inl (fun _ => 0)))] H_14 := hP
  have hD : va_D A [(h0, .inr (0, [.ref a1, .ref a2, .ref a3, .ref a4, .ref a5, .int (nI 0), .int 4, .long 0, .long 0])), (a1, .inl (k1, 1000, .inl (fun _ => 0))), (a2, .inl (k2, 1000, .inr (.inl (fun _ => 0)))), (a3, .inl (k3, 1000, .inr (.inl (fun _ => 0)))), (a4, .inl (k4, 1000, .inl (fun _ => 0))), (a5, .inl (k5, 1000, .inl (fun _ => 0)))] := hD
  refine W.widen (k := 5) (n := 5000) (Nat.le_of_ble_eq_true rfl) (Nat.le_of_ble_eq_true rfl) ?_
  exact W.vret hx hb hr (fun t ht hW => ⟨⟨(), rfl, trivial, a1, a2, a3, a4, a5, k1, k2, k3, k4, k5, by show va_P _ _ _ t.heap; rw [ht]; exact hP, va_K.moved hW.alike hK, hD⟩, hS.F ht⟩) hS.2.2 dX0_init_69
end
section
/-! WHAT THE REFERENCE'S METHODS ANSWER, in the same words -/
def md_bit (fa : Int32) (u l : Int64) (q : Int32) : Int32 := if fa = 4 then ((l >>> ((31 - q).toInt64 &&& 63)) &&& 1).toInt32 else if 64 ≤ q then ((l >>> ((127 - q).toInt64 &&& 63)) &&& 1).toInt32 else ((u >>> ((63 - q).toInt64 &&& 63)) &&& 1).toInt32
def md_z (B : Nat → Bool) : Nat → Nat → Bool
  | 0, _ => true
  | c + 1, i => if B i = true then md_z B c (i + 1) else false
theorem md_z_iff (B : Nat → Bool) : ∀ c i, md_z B c i = true ↔ ∀ j, i ≤ j → j < i + c → B j = true
  | 0, i => ⟨fun _ j h1 h2 => absurd h2 (by omega), fun _ => rfl⟩
  | c + 1, i => by
    unfold md_z
    by_cases h : B i = true
    · rw [if_pos h, md_z_iff B c (i + 1)]
      constructor
      · intro q j h1 h2
        by_cases e : j = i
        · rw [e]; exact h
        · exact q j (by omega) (by omega)
      · intro q j h1 h2
        exact q j (by omega) (by omega)
    · rw [if_neg h]
      constructor
      · intro q; cases q
      · intro q; exact absurd (q i (Nat.le_refl i) (by omega)) h
theorem md_z_step (B : Nat → Bool) (al i : Nat) (h : i < al) : md_z B (al - i) i = if B i = true then md_z B (al - (i + 1)) (i + 1) else false := by
  obtain ⟨c, hc⟩ : ∃ c, al - i = c + 1 := ⟨al - i - 1, by omega⟩
  rw [hc, show al - (i + 1) = c by omega]
  rfl
def md_pre (mf : Int32) (mu ml : Int64) (le : Int32) : Bool := kb_len mf le && md_z (fun i => decide (md_bit mf mu ml (nI i) = 0)) ((if mf = 4 then 32 else 128) - le.toNatClampNeg) le.toNatClampNeg
def md_ne (f : Nat → Int32) (u w : Nat → Int64) (g : Nat → Int32) (mf : Int32) (mu ml : Int64) (le : Int32) (j : Nat) : Bool := !(decide (f j = mf) && (decide (u j = mu) && (decide (w j = ml) && decide (g j = le))))
def md_cov (f : Nat → Int32) (u w : Nat → Int64) (g : Nat → Int32) (mf : Int32) (mu ml : Int64) (j : Nat) : Bool := decide (f j = mf) && md_z (fun i => decide (md_bit mf (u j) (w j) (nI i) = md_bit mf mu ml (nI i))) (g j).toNatClampNeg 0
def md_cmp (y z : Int64) : Int32 := if z ^^^ (-9223372036854775808) ≤ y ^^^ (-9223372036854775808) then (if y ^^^ (-9223372036854775808) ≤ z ^^^ (-9223372036854775808) then 0 else 1) else (-1)
def md_low (a b c d : Int64) : Int32 := if md_cmp a b = 0 then md_cmp c d else md_cmp a b
def md_ah (f : Nat → Int32) (u w : Nat → Int64) (g : Nat → Int32) (fa : Int32) (up lo : Int64) (le : Int32) (j : Nat) : Bool :=
  if f j = fa then (if md_low (u j) up (w j) lo < 0 then true else if md_low (u j) up (w j) lo = 0 then !decide (le ≤ g j) else false) else !decide (fa ≤ f j)
def md_ct (f : Nat → Int32) (u w : Nat → Int64) (g : Nat → Int32) (k q : Nat) : Nat := kb_cv (md_ah f u w g (f q) (u q) (w q) (g q)) k
theorem nI_nm1 {n : Nat} (h : n < 2 ^ 31) : ¬ nI n = (-1) := fun q => by
  have h1 := nI_toInt h
  rw [q] at h1
  have h2 : (-1 : Int32).toInt = -1 := by decide
  omega
theorem nI_sub1 {n : Nat} (h : 0 < n) : nI n - 1 = nI (n - 1) := by
  obtain ⟨m, rfl⟩ : ∃ m, n = m + 1 := ⟨n - 1, by omega⟩
  exact nI_pred m
/-- a length that the family has is a Nat -/
theorem kb_len_nI {mf le : Int32} (h : kb_len mf le = true) : le = nI le.toNatClampNeg ∧ le.toNatClampNeg ≤ (if mf = 4 then 32 else 128) := by
  unfold kb_len at h
  rw [Bool.and_eq_true, Bool.not_eq_true', Bool.not_eq_true', decide_eq_false_iff_not, decide_eq_false_iff_not] at h
  obtain ⟨h1, h2⟩ := h
  obtain ⟨j, hj, rfl⟩ := nI_of h1
  rw [nI_clamp hj]
  refine ⟨rfl, ?_⟩
  by_cases hm : mf = 4
  · rw [if_pos hm] at h2 ⊢
    have h3 : ¬ nI 32 < nI j := h2
    rw [nI_ltI (by omega) (by omega)] at h3
    omega
  · rw [if_neg hm] at h2 ⊢
    have h3 : ¬ nI 128 < nI j := h2
    rw [nI_ltI (by omega) (by omega)] at h3
    omega
end
section
set_option maxHeartbeats 4000000 in
set_option maxRecDepth 100000 in
theorem c_X1_bit (l : Launch) (dC : Nat → ClassId) (dI : Nat → Nat → Nat)  {tys : List (ClassId × FieldType)} (fa : Int32) (up lo : Int64) (q : Int32) (Hh : Heap)  : Met l yX1_bit (ww yX1_bit cX1_bit 6 (some .int)) ({ frames := 0, cells := 0, slots := 0, locals := 0 } : Room) (va_Pc [.int fa, .long up, .long lo, .int q] (fun U => U.heap = Hh ∧ va_K (dC, dI) classes tys U)) (va_Qi (fun r (_ : Unit) => r = (md_bit fa up lo q)) (fun _ t => t.heap = Hh) (fun _ => False)) 0 0 (fun _ => False) := by
  refine Met.ofW (cc := cX1_bit) (maxL := 6) (ret := (some .int)) (by decide) rfl ?_
  intro p e s m args below meth c s₁ B hml hv
  obtain ⟨rfl, hHh, hK⟩ := hv
  subst hHh
  have hx := B.exec
  have hb := B.bytes
  have hr := B.returns
  have hts := atoms_spec (ws := ww yX1_bit cX1_bit 6 (some .int)) B.pre
  have htl : ∀ w ∈ ltg, w.before [.int fa, .long up, .long lo, .int q].toArray s = true := fun w h => hts w (List.mem_cons_of_mem _ h)
  have hown : s.vm.findClass RX1 = some m.cls := findClass_of_methodNamed B.named
  have hlocks := B.notSynchronized
  have hl := lv_entry ([.int fa, .long up, .long lo, .int q]) (n := 6) (Nat.le_of_ble_eq_true rfl)
  rw [lg_entry_eq]
  generalize (lg_sl ([.int fa, .long up, .long lo, .int q]) ++ List.replicate (6 - (lg_sl ([.int fa, .long up, .long lo, .int q])).length) Slot.unset).toArray = ls at hl ⊢
  have hl : lv_has ls 6 [(0, .int fa), (1, .long up), (3, .long lo), (5, .int q)] := hl
  refine lv_iload_n hx hb dX1_bit_0 rfl (lv_at hl 0 rfl) ?_
  refine lv_iconst (v := 4) hx hb dX1_bit_1 (by decide) ?_
  refine lv_icmp_ne (tgt := 16) hx hb dX1_bit_2 (by decide) (fun c_1 => ?_) (fun c_1 => ?_)
  · refine lv_iload hx hb dX1_bit_16 (lv_at hl 3 rfl) ?_
    refine lv_bipush (v := 64) hx hb dX1_bit_18 (by decide) ?_
    refine lv_icmp_ge (tgt := 35) hx hb dX1_bit_20 (by decide) (fun c_2 => ?_) (fun c_2 => ?_)
    · refine lv_lload_n hx hb dX1_bit_35 rfl (lv_at hl 2 rfl) ?_
      refine lv_bipush (v := 127) hx hb dX1_bit_36 (by decide) ?_
      refine lv_iload hx hb dX1_bit_38 (lv_at hl 3 rfl) ?_
      refine lv_isub hx hb dX1_bit_40 ?_
      refine lv_lshr hx hb dX1_bit_41 rfl ?_
      refine lv_lconst (v := 1) hx hb dX1_bit_42 (by decide) ?_
      refine lv_land hx hb dX1_bit_43 ?_
      refine lv_l2i hx hb dX1_bit_44 rfl ?_
      exact ru_iret hx hb hr hlocks (by simp [md_bit, c_1, c_2]) dX1_bit_45
    · refine lv_lload_n hx hb dX1_bit_23 rfl (lv_at hl 1 rfl) ?_
      refine lv_bipush (v := 63) hx hb dX1_bit_24 (by decide) ?_
      refine lv_iload hx hb dX1_bit_26 (lv_at hl 3 rfl) ?_
      refine lv_isub hx hb dX1_bit_28 ?_
      refine lv_lshr hx hb dX1_bit_29 rfl ?_
      refine lv_lconst (v := 1) hx hb dX1_bit_30 (by decide) ?_
      refine lv_land hx hb dX1_bit_31 ?_
      refine lv_goto (tgt := 44) hx hb dX1_bit_32 (by decide) ?_
      refine lv_l2i hx hb dX1_bit_44 rfl ?_
      exact ru_iret hx hb hr hlocks (by simp [md_bit, c_1, c_2]) dX1_bit_45
  · refine lv_lload_n hx hb dX1_bit_5 rfl (lv_at hl 2 rfl) ?_
    refine lv_bipush (v := 31) hx hb dX1_bit_6 (by decide) ?_
    refine lv_iload hx hb dX1_bit_8 (lv_at hl 3 rfl) ?_
    refine lv_isub hx hb dX1_bit_10 ?_
    refine lv_lshr hx hb dX1_bit_11 rfl ?_
    refine lv_lconst (v := 1) hx hb dX1_bit_12 (by decide) ?_
    refine lv_land hx hb dX1_bit_13 ?_
    refine lv_l2i hx hb dX1_bit_14 rfl ?_
    exact ru_iret hx hb hr hlocks (by simp [md_bit, c_1]) dX1_bit_15
set_option maxHeartbeats 4000000 in
set_option maxRecDepth 100000 in
theorem c_X1_compare (l : Launch) (dC : Nat → ClassId) (dI : Nat → Nat → Nat)  {tys : List (ClassId × FieldType)} (y z : Int64) (Hh : Heap)  : Met l yX1_compare (ww yX1_compare cX1_compare 8 (some .int)) ({ frames := 0, cells := 0, slots := 0, locals := 0 } : Room) (va_Pc [.long y, .long z] (fun U => U.heap = Hh ∧ va_K (dC, dI) classes tys U)) (va_Qi (fun r (_ : Unit) => r = (md_cmp y z)) (fun _ t => t.heap = Hh) (fun _ => False)) 0 0 (fun _ => False) := by
  refine Met.ofW (cc := cX1_compare) (maxL := 8) (ret := (some .int)) (by decide) rfl ?_
  intro p e s m args below meth c s₁ B hml hv
  obtain ⟨rfl, hHh, hK⟩ := hv
  subst hHh
  have hx := B.exec
  have hb := B.bytes
  have hr := B.returns
  have hts := atoms_spec (ws := ww yX1_compare cX1_compare 8 (some .int)) B.pre
  have htl : ∀ w ∈ ltg, w.before [.long y, .long z].toArray s = true := fun w h => hts w (List.mem_cons_of_mem _ h)
  have hown : s.vm.findClass RX1 = some m.cls := findClass_of_methodNamed B.named
  have hlocks := B.notSynchronized
  have hl := lv_entry ([.long y, .long z]) (n := 8) (Nat.le_of_ble_eq_true rfl)
  rw [lg_entry_eq]
  generalize (lg_sl ([.long y, .long z]) ++ List.replicate (8 - (lg_sl ([.long y, .long z])).length) Slot.unset).toArray = ls at hl ⊢
  have hl : lv_has ls 8 [(0, .long y), (2, .long z)] := hl
  refine lv_lload_n hx hb dX1_compare_0 rfl (lv_at hl 0 rfl) ?_
  refine lv_ldc2 (v := (-9223372036854775808)) hx hb hown (htl _ kcX1_61) dX1_compare_1 ?_
  refine lv_lxor hx hb dX1_compare_4 ?_
  refine lv_lstore (lv' := [(4, .long (y ^^^ (-9223372036854775808))), (0, .long y), (2, .long z)]) hx hb dX1_compare_5 hl (by decide) rfl (fun ls hl => ?_)
  refine lv_lload_n hx hb dX1_compare_7 rfl (lv_at hl 2 rfl) ?_
  refine lv_ldc2 (v := (-9223372036854775808)) hx hb hown (htl _ kcX1_61) dX1_compare_8 ?_
  refine lv_lxor hx hb dX1_compare_11 ?_
  refine lv_lstore (lv' := [(6, .long (z ^^^ (-9223372036854775808))), (4, .long (y ^^^ (-9223372036854775808))), (0, .long y), (2, .long z)]) hx hb dX1_compare_12 hl (by decide) rfl (fun ls hl => ?_)
  refine lv_lload hx hb dX1_compare_14 (lv_at hl 1 rfl) ?_
  refine lv_lload hx hb dX1_compare_16 (lv_at hl 0 rfl) ?_
  refine W.lcmp hx hb dX1_compare_18 ?_
  refine lv_if_ge (tgt := 26) hx hb dX1_compare_19 (by decide) (fun c_1 => ?_) (fun c_1 => ?_)
  · rw [lg_cmp_ge] at c_1
    refine lv_lload hx hb dX1_compare_26 (lv_at hl 1 rfl) ?_
    refine lv_lload hx hb dX1_compare_28 (lv_at hl 0 rfl) ?_
    refine W.lcmp hx hb dX1_compare_30 ?_
    refine lv_if_le (tgt := 38) hx hb dX1_compare_31 (by decide) (fun c_2 => ?_) (fun c_2 => ?_)
    · rw [lg_cmp_le] at c_2
      refine lv_iconst (v := 0) hx hb dX1_compare_38 (by decide) ?_
      exact ru_iret hx hb hr hlocks (by simp [md_cmp, c_1, c_2]) dX1_compare_39
    · rw [lg_cmp_le] at c_2
      refine lv_iconst (v := 1) hx hb dX1_compare_34 (by decide) ?_
      refine lv_goto (tgt := 39) hx hb dX1_compare_35 (by decide) ?_
      exact ru_iret hx hb hr hlocks (by simp [md_cmp, c_1, c_2]) dX1_compare_39
  · rw [lg_cmp_ge] at c_1
    refine lv_iconst (v := (-1)) hx hb dX1_compare_22 (by decide) ?_
    refine lv_goto (tgt := 39) hx hb dX1_compare_23 (by decide) ?_
    exact ru_iret hx hb hr hlocks (by simp [md_cmp, c_1]) dX1_compare_39
set_option maxHeartbeats 4000000 in
set_option maxRecDepth 100000 in
theorem c_X1_isLength (l : Launch) (dC : Nat → ClassId) (dI : Nat → Nat → Nat) {x a1 a2 a3 a4 a5 : Nat} {k1 k2 k3 k4 k5 : ClassId} {f : Nat → Int32} {u w : Nat → Int64} {g n : Nat → Int32} {k : Nat} {mf : Int32} {mu ml : Int64} (le : Int32) (Hh : Heap)  (hP : va_P (dC, dI) classes (mdw x a1 a2 a3 a4 a5 k1 k2 k3 k4 k5 f u w g n k mf mu ml) Hh) : Met l yX1_isLength (ww yX1_isLength cX1_isLength 2 (some .boolean)) ({ frames := 0, cells := 0, slots := 0, locals := 0 } : Room) (va_Pc [.ref x, .int le] (fun U => U.heap = Hh ∧ va_K (dC, dI) classes (mdt k1 k2 k3 k4 k5) U)) (va_Qi (fun r (_ : Unit) => r = (b2i (kb_len mf le))) (fun _ t => t.heap = Hh) (fun _ => False)) 0 0 (fun _ => False) := by
  refine Met.ofW (cc := cX1_isLength) (maxL := 2) (ret := (some .boolean)) (by decide) rfl ?_
  intro p e s m args below meth c s₁ B hml hv
  obtain ⟨rfl, hHh, hK⟩ := hv
  subst hHh
  have hx := B.exec
  have hb := B.bytes
  have hr := B.returns
  have hts := atoms_spec (ws := ww yX1_isLength cX1_isLength 2 (some .boolean)) B.pre
  have htl : ∀ w ∈ ltg, w.before [.ref x, .int le].toArray s = true := fun w h => hts w (List.mem_cons_of_mem _ h)
  have hown : s.vm.findClass RX1 = some m.cls := findClass_of_methodNamed B.named
  have hlocks := B.notSynchronized
  have hl := lv_entry ([.ref x, .int le]) (n := 2) (Nat.le_of_ble_eq_true rfl)
  rw [lg_entry_eq]
  generalize (lg_sl ([.ref x, .int le]) ++ List.replicate (2 - (lg_sl ([.ref x, .int le])).length) Slot.unset).toArray = ls at hl ⊢
  have hl : lv_has ls 2 [(0, .ref x), (1, .int le)] := hl
  refine lv_iload_n hx hb dX1_isLength_0 rfl (lv_at hl 1 rfl) ?_
  refine lv_if_lt (tgt := 28) hx hb dX1_isLength_1 (by decide) (fun c_1 => ?_) (fun c_1 => ?_)
  · refine lv_iconst (v := 0) hx hb dX1_isLength_28 (by decide) ?_
    exact ru_zret hx hb hr hlocks (by simp [kb_len, b2i, c_1]) rfl dX1_isLength_29
  · refine lv_iload_n hx hb dX1_isLength_4 rfl (lv_at hl 1 rfl) ?_
    refine lv_aload_n hx hb dX1_isLength_5 rfl (lv_at hl 0 rfl) ?_
    refine va_get (D := (dC, dI)) (ci := 1) (v := .int mf) (C := RX1) (T := TX1) (N := 9) hx hb htl inX1 hown hK hP 0 rfl rfl 6 (by decide) (htl _ flX1_26) (fun _ h9 => h9) rfl dX1_isLength_6 ?_
    refine lv_iconst (v := 4) hx hb dX1_isLength_9 (by decide) ?_
    refine lv_icmp_ne (tgt := 18) hx hb dX1_isLength_10 (by decide) (fun c_2 => ?_) (fun c_2 => ?_)
    · refine lv_sipush (v := 128) hx hb dX1_isLength_18 (by decide) ?_
      refine lv_icmp_gt (tgt := 28) hx hb dX1_isLength_21 (by decide) (fun c_3 => ?_) (fun c_3 => ?_)
      · refine lv_iconst (v := 0) hx hb dX1_isLength_28 (by decide) ?_
        exact ru_zret hx hb hr hlocks (by simp [kb_len, b2i, c_1, c_2, c_3]) rfl dX1_isLength_29
      · refine lv_iconst (v := 1) hx hb dX1_isLength_24 (by decide) ?_
        refine lv_goto (tgt := 29) hx hb dX1_isLength_25 (by decide) ?_
        exact ru_zret hx hb hr hlocks (by simp [kb_len, b2i, c_1, c_2, c_3]) rfl dX1_isLength_29
    · refine lv_bipush (v := 32) hx hb dX1_isLength_13 (by decide) ?_
      refine lv_goto (tgt := 21) hx hb dX1_isLength_15 (by decide) ?_
      refine lv_icmp_gt (tgt := 28) hx hb dX1_isLength_21 (by decide) (fun c_4 => ?_) (fun c_4 => ?_)
      · refine lv_iconst (v := 0) hx hb dX1_isLength_28 (by decide) ?_
        exact ru_zret hx hb hr hlocks (by simp [kb_len, b2i, c_1, c_2, c_4]) rfl dX1_isLength_29
      · refine lv_iconst (v := 1) hx hb dX1_isLength_24 (by decide) ?_
        refine lv_goto (tgt := 29) hx hb dX1_isLength_25 (by decide) ?_
        exact ru_zret hx hb hr hlocks (by simp [kb_len, b2i, c_1, c_2, c_4]) rfl dX1_isLength_29
set_option maxHeartbeats 4000000 in
set_option maxRecDepth 100000 in
theorem c_X1_isPrefix (l : Launch) (dC : Nat → ClassId) (dI : Nat → Nat → Nat) {x a1 a2 a3 a4 a5 : Nat} {k1 k2 k3 k4 k5 : ClassId} {f : Nat → Int32} {u w : Nat → Int64} {g n : Nat → Int32} {k : Nat} {mf : Int32} {mu ml : Int64} (le : Int32) (Hh : Heap)  (hP : va_P (dC, dI) classes (mdw x a1 a2 a3 a4 a5 k1 k2 k3 k4 k5 f u w g n k mf mu ml) Hh) : Met l yX1_isPrefix (ww yX1_isPrefix cX1_isPrefix 5 (some .boolean)) ({ frames := 1, cells := 0, slots := 0, locals := 25 } : Room) (va_Pc [.ref x, .int le] (fun U => U.heap = Hh ∧ va_K (dC, dI) classes (mdt k1 k2 k3 k4 k5) U)) (va_Qi (fun r (_ : Unit) => r = (b2i (md_pre mf mu ml le))) (fun _ t => t.heap = Hh) (fun _ => False)) 0 0 (fun _ => False) := by
  refine Met.ofW (cc := cX1_isPrefix) (maxL := 5) (ret := (some .boolean)) (by decide) rfl ?_
  intro p e s m args below meth c s₁ B hml hv
  obtain ⟨rfl, hHh, hK⟩ := hv
  subst hHh
  have hx := B.exec
  have hb := B.bytes
  have hr := B.returns
  have hts := atoms_spec (ws := ww yX1_isPrefix cX1_isPrefix 5 (some .boolean)) B.pre
  have htl : ∀ w ∈ ltg, w.before [.ref x, .int le].toArray s = true := fun w h => hts w (List.mem_cons_of_mem _ h)
  have hown : s.vm.findClass RX1 = some m.cls := findClass_of_methodNamed B.named
  have hlocks := B.notSynchronized
  have hl := lv_entry ([.ref x, .int le]) (n := 5) (Nat.le_of_ble_eq_true rfl)
  rw [lg_entry_eq]
  generalize (lg_sl ([.ref x, .int le]) ++ List.replicate (5 - (lg_sl ([.ref x, .int le])).length) Slot.unset).toArray = ls at hl ⊢
  have hl : lv_has ls 5 [(0, .ref x), (1, .int le)] := hl
  have loop : ∀ (al : Nat), al ≤ 128 → ∀ (d i : Nat) (b : Bool), i ≤ al → al + 1 ≤ i + d → b2i (md_pre mf mu ml le) = b2i (b && md_z (fun i => decide (md_bit mf mu ml (nI i) = 0)) (al - i) i) → ∀ (ls : Array Slot), lv_has ls 5 [(0, .ref x), (1, .int le), (2, .int (b2i b)), (3, .int (nI al)), (4, .int (nI i))] → W p l e ({ frames := 1, cells := 0, slots := 0, locals := 25 } : Room) s m ([.ref x, .int le] : List Value).toArray below meth c s.heap [] 0 0 (MQ below (va_Qi (fun r (_ : Unit) => r = (b2i (md_pre mf mu ml le))) (fun _ t => t.heap = s.heap) (fun _ => False)) [.ref x, .int le].toArray s 0 0 (fun _ => False)) (F0 m 26 ls []) := by
    intro al hal d
    induction d with
    | zero => intro i b hi hd; exact absurd hd (by omega)
    | succ d ih =>
      intro i b hi hd hinv ls hl
      refine lv_iload hx hb dX1_isPrefix_26 (lv_at hl 4 rfl) ?_
      refine lv_iload_n hx hb dX1_isPrefix_28 rfl (lv_at hl 3 rfl) ?_
      refine lv_icmp_ge (tgt := 68) hx hb dX1_isPrefix_29 (by decide) (fun c_1 => ?_) (fun c_1 => ?_)
      · rw [nI_leI (by omega) (by omega)] at c_1
        refine lv_iload_n hx hb dX1_isPrefix_68 rfl (lv_at hl 2 rfl) ?_
        exact ru_zret hx hb hr hlocks (by rw [hinv, show al - i = 0 by omega]; simp [md_z]) b2i_n dX1_isPrefix_69
      · rw [nI_leI (by omega) (by omega), Nat.not_le] at c_1
        refine lv_iload_n hx hb dX1_isPrefix_32 rfl (lv_at hl 2 rfl) ?_
        refine lv_if_eq (tgt := 68) hx hb dX1_isPrefix_33 (by decide) (fun c_2 => ?_) (fun c_2 => ?_)
        · rw [b2i_0] at c_2
          refine lv_iload_n hx hb dX1_isPrefix_68 rfl (lv_at hl 2 rfl) ?_
          exact ru_zret hx hb hr hlocks (by rw [hinv, c_2]; rfl) b2i_n dX1_isPrefix_69
        · rw [b2i_0, Bool.not_eq_false] at c_2
          refine lv_aload_n hx hb dX1_isPrefix_36 rfl (lv_at hl 0 rfl) ?_
          refine va_get (D := (dC, dI)) (ci := 1) (v := .int mf) (C := RX1) (T := TX1) (N := 9) hx hb htl inX1 hown hK hP 0 rfl rfl 6 (by decide) (htl _ flX1_26) (fun _ h9 => h9) rfl dX1_isPrefix_37 ?_
          refine lv_aload_n hx hb dX1_isPrefix_40 rfl (lv_at hl 0 rfl) ?_
          refine va_get (D := (dC, dI)) (ci := 1) (v := .long mu) (C := RX1) (T := TX1) (N := 9) hx hb htl inX1 hown hK hP 0 rfl rfl 7 (by decide) (htl _ flX1_32) (fun _ h9 => h9) rfl dX1_isPrefix_41 ?_
          refine lv_aload_n hx hb dX1_isPrefix_44 rfl (lv_at hl 0 rfl) ?_
          refine va_get (D := (dC, dI)) (ci := 1) (v := .long ml) (C := RX1) (T := TX1) (N := 9) hx hb htl inX1 hown hK hP 0 rfl rfl 8 (by decide) (htl _ flX1_36) (fun _ h9 => h9) rfl dX1_isPrefix_45 ?_
          refine lv_iload hx hb dX1_isPrefix_48 (lv_at hl 4 rfl) ?_
          refine ru_calli (va_runS (As := [.int mf, .long mu, .long ml, .int (nI i)]) (rest := []) ⟨hx, hb, hml, hown, htl⟩ (c_X1_bit l dC dI mf mu ml (nI i) _) (cwS 4 htl gX1_43 rfl rfl rfl hd_X1_bit ⟨Nat.le_of_ble_eq_true rfl, Nat.le_of_ble_eq_true rfl⟩) ⟨fb_ro, fun U hU hW => ⟨rfl, hU, va_K.moved hW.alike hK⟩⟩ rfl rfl hl.1 rfl (lv_room (Nat.le_of_ble_eq_true rfl)) dX1_isPrefix_50 ⟨Nat.le_of_ble_eq_true rfl, Nat.le_of_ble_eq_true rfl⟩) ?_
          refine lv_if_ne (tgt := 60) hx hb dX1_isPrefix_53 (by decide) (fun c_3 => ?_) (fun c_3 => ?_)
          · refine lv_iconst (v := b2i false) hx hb dX1_isPrefix_60 (by decide) ?_
            refine lv_istore_n (lv' := [(2, .int (b2i false)), (0, .ref x), (1, .int le), (3, .int (nI al)), (4, .int (nI i))]) hx hb dX1_isPrefix_61 rfl hl (by decide) rfl (fun ls hl => ?_)
            refine lv_iinc (v := nI (i + 1)) (lv' := [(4, .int (nI (i + 1))), (2, .int (b2i false)), (0, .ref x), (1, .int le), (3, .int (nI al))]) hx hb dX1_isPrefix_62 hl (k := 4) rfl (by first | rfl | exact nI_1 _) (by decide) rfl (fun ls hl => ?_)
            refine lv_goto (tgt := 26) hx hb dX1_isPrefix_65 (by decide) ?_
            exact ih (i + 1) false (by omega) (by omega) (by rw [hinv, c_2, md_z_step _ al i c_1]; simp [c_3]) ls (lv_sub hl [2, 3, 1, 4, 0] rfl)
          · refine lv_iconst (v := b2i true) hx hb dX1_isPrefix_56 (by decide) ?_
            refine lv_goto (tgt := 61) hx hb dX1_isPrefix_57 (by decide) ?_
            refine lv_istore_n (lv' := [(2, .int (b2i true)), (0, .ref x), (1, .int le), (3, .int (nI al)), (4, .int (nI i))]) hx hb dX1_isPrefix_61 rfl hl (by decide) rfl (fun ls hl => ?_)
            refine lv_iinc (v := nI (i + 1)) (lv' := [(4, .int (nI (i + 1))), (2, .int (b2i true)), (0, .ref x), (1, .int le), (3, .int (nI al))]) hx hb dX1_isPrefix_62 hl (k := 4) rfl (by first | rfl | exact nI_1 _) (by decide) rfl (fun ls hl => ?_)
            refine lv_goto (tgt := 26) hx hb dX1_isPrefix_65 (by decide) ?_
            exact ih (i + 1) true (by omega) (by omega) (by rw [hinv, c_2, md_z_step _ al i c_1]; simp [c_3]) ls (lv_sub hl [2, 3, 1, 4, 0] rfl)
  refine lv_aload_n hx hb dX1_isPrefix_0 rfl (lv_at hl 0 rfl) ?_
  refine lv_iload_n hx hb dX1_isPrefix_1 rfl (lv_at hl 1 rfl) ?_
  refine ru_calli (va_runV (As := [.int le]) (rest := []) ⟨hx, hb, hml, hown, htl⟩ (c_X1_isLength l dC dI le _ hP) (cwV 1 htl gX1_39 rfl rfl rfl hd_X1_isLength ⟨Nat.le_of_ble_eq_true rfl, Nat.le_of_ble_eq_true rfl⟩) ⟨fb_ro, va_recv hK hP (ci := 1) (q0 := 0) rfl rfl, fun U hU hW => ⟨rfl, hU, va_K.moved hW.alike hK⟩⟩ rfl rfl hl.1 rfl (lv_room (Nat.le_of_ble_eq_true rfl)) dX1_isPrefix_2 ⟨Nat.le_of_ble_eq_true rfl, Nat.le_of_ble_eq_true rfl⟩) ?_
  refine lv_istore_n (lv' := [(2, .int (b2i (kb_len mf le))), (0, .ref x), (1, .int le)]) hx hb dX1_isPrefix_5 rfl hl (by decide) rfl (fun ls hl => ?_)
  cases hlen : kb_len mf le with
    | false =>
      rw [hlen] at hl
      refine lv_aload_n hx hb dX1_isPrefix_6 rfl (lv_at hl 1 rfl) ?_
      refine va_get (D := (dC, dI)) (ci := 1) (v := .int mf) (C := RX1) (T := TX1) (N := 9) hx hb htl inX1 hown hK hP 0 rfl rfl 6 (by decide) (htl _ flX1_26) (fun _ h9 => h9) rfl dX1_isPrefix_7 ?_
      refine lv_iconst (v := 4) hx hb dX1_isPrefix_10 (by decide) ?_
      refine lv_icmp_ne (tgt := 19) hx hb dX1_isPrefix_11 (by decide) (fun c_11 => ?_) (fun c_11 => ?_)
      · refine lv_sipush (v := nI 128) hx hb dX1_isPrefix_19 (by decide) ?_
        refine lv_istore_n (lv' := [(3, .int (nI 128)), (2, .int (b2i false)), (0, .ref x), (1, .int le)]) hx hb dX1_isPrefix_22 rfl hl (by decide) rfl (fun ls hl => ?_)
        refine lv_iload_n hx hb dX1_isPrefix_23 rfl (lv_at hl 3 rfl) ?_
        refine lv_istore (lv' := [(4, .int le), (3, .int (nI 128)), (2, .int (b2i false)), (0, .ref x), (1, .int le)]) hx hb dX1_isPrefix_24 hl (by decide) rfl (fun ls hl => ?_)
        refine lv_iload hx hb dX1_isPrefix_26 (lv_at hl 0 rfl) ?_
        refine lv_iload_n hx hb dX1_isPrefix_28 rfl (lv_at hl 1 rfl) ?_
        refine lv_icmp_ge (tgt := 68) hx hb dX1_isPrefix_29 (by decide) (fun c_12 => ?_) (fun c_12 => ?_)
        · refine lv_iload_n hx hb dX1_isPrefix_68 rfl (lv_at hl 2 rfl) ?_
          exact ru_zret hx hb hr hlocks (by simp [md_pre, hlen]) b2i_n dX1_isPrefix_69
        · refine lv_iload_n hx hb dX1_isPrefix_32 rfl (lv_at hl 2 rfl) ?_
          refine lv_if_eq (tgt := 68) hx hb dX1_isPrefix_33 (by decide) (fun c_13 => ?_) (fun c_13 => ?_)
          · refine lv_iload_n hx hb dX1_isPrefix_68 rfl (lv_at hl 2 rfl) ?_
            exact ru_zret hx hb hr hlocks (by simp [md_pre, hlen]) b2i_n dX1_isPrefix_69
          · exact absurd c_13 (by decide)
      · refine lv_bipush (v := nI 32) hx hb dX1_isPrefix_14 (by decide) ?_
        refine lv_goto (tgt := 22) hx hb dX1_isPrefix_16 (by decide) ?_
        refine lv_istore_n (lv' := [(3, .int (nI 32)), (2, .int (b2i false)), (0, .ref x), (1, .int le)]) hx hb dX1_isPrefix_22 rfl hl (by decide) rfl (fun ls hl => ?_)
        refine lv_iload_n hx hb dX1_isPrefix_23 rfl (lv_at hl 3 rfl) ?_
        refine lv_istore (lv' := [(4, .int le), (3, .int (nI 32)), (2, .int (b2i false)), (0, .ref x), (1, .int le)]) hx hb dX1_isPrefix_24 hl (by decide) rfl (fun ls hl => ?_)
        refine lv_iload hx hb dX1_isPrefix_26 (lv_at hl 0 rfl) ?_
        refine lv_iload_n hx hb dX1_isPrefix_28 rfl (lv_at hl 1 rfl) ?_
        refine lv_icmp_ge (tgt := 68) hx hb dX1_isPrefix_29 (by decide) (fun c_14 => ?_) (fun c_14 => ?_)
        · refine lv_iload_n hx hb dX1_isPrefix_68 rfl (lv_at hl 2 rfl) ?_
          exact ru_zret hx hb hr hlocks (by simp [md_pre, hlen]) b2i_n dX1_isPrefix_69
        · refine lv_iload_n hx hb dX1_isPrefix_32 rfl (lv_at hl 2 rfl) ?_
          refine lv_if_eq (tgt := 68) hx hb dX1_isPrefix_33 (by decide) (fun c_15 => ?_) (fun c_15 => ?_)
          · refine lv_iload_n hx hb dX1_isPrefix_68 rfl (lv_at hl 2 rfl) ?_
            exact ru_zret hx hb hr hlocks (by simp [md_pre, hlen]) b2i_n dX1_isPrefix_69
          · exact absurd c_15 (by decide)
    | true =>
      rw [hlen] at hl
      obtain ⟨hle, hlb⟩ := kb_len_nI hlen
      refine lv_aload_n hx hb dX1_isPrefix_6 rfl (lv_at hl 1 rfl) ?_
      refine va_get (D := (dC, dI)) (ci := 1) (v := .int mf) (C := RX1) (T := TX1) (N := 9) hx hb htl inX1 hown hK hP 0 rfl rfl 6 (by decide) (htl _ flX1_26) (fun _ h9 => h9) rfl dX1_isPrefix_7 ?_
      refine lv_iconst (v := 4) hx hb dX1_isPrefix_10 (by decide) ?_
      refine lv_icmp_ne (tgt := 19) hx hb dX1_isPrefix_11 (by decide) (fun c_16 => ?_) (fun c_16 => ?_)
      · refine lv_sipush (v := nI 128) hx hb dX1_isPrefix_19 (by decide) ?_
        refine lv_istore_n (lv' := [(3, .int (nI 128)), (2, .int (b2i true)), (0, .ref x), (1, .int le)]) hx hb dX1_isPrefix_22 rfl hl (by decide) rfl (fun ls hl => ?_)
        refine lv_iload_n hx hb dX1_isPrefix_23 rfl (lv_at hl 3 rfl) ?_
        refine lv_istore (lv' := [(4, .int le), (3, .int (nI 128)), (2, .int (b2i true)), (0, .ref x), (1, .int le)]) hx hb dX1_isPrefix_24 hl (by decide) rfl (fun ls hl => ?_)
        rw [if_neg c_16] at hlb
        exact loop 128 (by omega) (128 + 1) le.toNatClampNeg true hlb (by omega) (by unfold md_pre; rw [hlen, if_neg c_16]) ls (by rw [← hle]; exact lv_sub hl [3, 4, 2, 1, 0] rfl)
      · refine lv_bipush (v := nI 32) hx hb dX1_isPrefix_14 (by decide) ?_
        refine lv_goto (tgt := 22) hx hb dX1_isPrefix_16 (by decide) ?_
        refine lv_istore_n (lv' := [(3, .int (nI 32)), (2, .int (b2i true)), (0, .ref x), (1, .int le)]) hx hb dX1_isPrefix_22 rfl hl (by decide) rfl (fun ls hl => ?_)
        refine lv_iload_n hx hb dX1_isPrefix_23 rfl (lv_at hl 3 rfl) ?_
        refine lv_istore (lv' := [(4, .int le), (3, .int (nI 32)), (2, .int (b2i true)), (0, .ref x), (1, .int le)]) hx hb dX1_isPrefix_24 hl (by decide) rfl (fun ls hl => ?_)
        rw [if_pos c_16] at hlb
        exact loop 32 (by omega) (32 + 1) le.toNatClampNeg true hlb (by omega) (by unfold md_pre; rw [hlen, if_pos c_16]) ls (by rw [← hle]; exact lv_sub hl [3, 4, 2, 1, 0] rfl)
end
section
set_option maxHeartbeats 4000000 in
set_option maxRecDepth 100000 in
theorem c_X1_find (l : Launch) (dC : Nat → ClassId) (dI : Nat → Nat → Nat) {x a1 a2 a3 a4 a5 : Nat} {k1 k2 k3 k4 k5 : ClassId} {f : Nat → Int32} {u w : Nat → Int64} {g n : Nat → Int32} {k : Nat} {mf : Int32} {mu ml : Int64} (le : Int32) (Hh : Heap) (hk : k ≤ 1000) (hP : va_P (dC, dI) classes (mdw x a1 a2 a3 a4 a5 k1 k2 k3 k4 k5 f u w g n k mf mu ml) Hh) : Met l yX1_find (ww yX1_find cX1_find 3 (some .int)) ({ frames := 0, cells := 0, slots := 0, locals := 0 } : Room) (va_Pc [.ref x, .int le] (fun U => U.heap = Hh ∧ va_K (dC, dI) classes (mdt k1 k2 k3 k4 k5) U)) (va_Qi (fun r (_ : Unit) => r = (if kb_fst (md_ne f u w g mf mu ml le) k 0 < k then nI (kb_fst (md_ne f u w g mf mu ml le) k 0) else (-1))) (fun _ t => t.heap = Hh) (fun _ => False)) 0 0 (fun _ => False) := by
  refine Met.ofW (cc := cX1_find) (maxL := 3) (ret := (some .int)) (by decide) rfl ?_
  intro p e s m args below meth c s₁ B hml hv
  obtain ⟨rfl, hHh, hK⟩ := hv
  subst hHh
  have hx := B.exec
  have hb := B.bytes
  have hr := B.returns
  have hts := atoms_spec (ws := ww yX1_find cX1_find 3 (some .int)) B.pre
  have htl : ∀ w ∈ ltg, w.before [.ref x, .int le].toArray s = true := fun w h => hts w (List.mem_cons_of_mem _ h)
  have hown : s.vm.findClass RX1 = some m.cls := findClass_of_methodNamed B.named
  have hlocks := B.notSynchronized
  have hl := lv_entry ([.ref x, .int le]) (n := 3) (Nat.le_of_ble_eq_true rfl)
  rw [lg_entry_eq]
  generalize (lg_sl ([.ref x, .int le]) ++ List.replicate (3 - (lg_sl ([.ref x, .int le])).length) Slot.unset).toArray = ls at hl ⊢
  have hl : lv_has ls 3 [(0, .ref x), (1, .int le)] := hl
  have loop : ∀  (d i : Nat), i ≤ k → k + 1 ≤ i + d → (∀ j, j < i → md_ne f u w g mf mu ml le j = true) → ∀ (ls : Array Slot), lv_has ls 3 [(0, .ref x), (1, .int le), (2, .int (nI i))] → W p l e ({ frames := 0, cells := 0, slots := 0, locals := 0 } : Room) s m ([.ref x, .int le] : List Value).toArray below meth c s.heap [] 0 0 (MQ below (va_Qi (fun r (_ : Unit) => r = (if kb_fst (md_ne f u w g mf mu ml le) k 0 < k then nI (kb_fst (md_ne f u w g mf mu ml le) k 0) else (-1))) (fun _ t => t.heap = s.heap) (fun _ => False)) [.ref x, .int le].toArray s 0 0 (fun _ => False)) (F0 m 2 ls []) := by
    intro d
    induction d with
    | zero => intro i  hi hd; exact absurd hd (by omega)
    | succ d ih =>
      intro i  hi hd hinv ls hl
      refine lv_iload_n hx hb dX1_find_2 rfl (lv_at hl 2 rfl) ?_
      refine lv_aload_n hx hb dX1_find_3 rfl (lv_at hl 0 rfl) ?_
      refine va_get (D := (dC, dI)) (ci := 1) (v := .int (nI k)) (C := RX1) (T := TX1) (N := 9) hx hb htl inX1 hown hK hP 0 rfl rfl 5 (by decide) (htl _ flX1_47) (fun _ h9 => h9) rfl dX1_find_4 ?_
      refine lv_icmp_ge (tgt := 69) hx hb dX1_find_7 (by decide) (fun c_1 => ?_) (fun c_1 => ?_)
      · rw [nI_leI (by omega) (by omega)] at c_1
        refine lv_iconst (v := (-1)) hx hb dX1_find_69 (by decide) ?_
        exact ru_iret hx hb hr hlocks (by rw [kb_fst_eq _ k k (Nat.le_refl k) (fun j h => hinv j (by omega)) (Or.inl rfl), if_neg (Nat.lt_irrefl k)]) dX1_find_70
      · rw [nI_leI (by omega) (by omega), Nat.not_le] at c_1
        refine lv_aload_n hx hb dX1_find_10 rfl (lv_at hl 0 rfl) ?_
        refine va_get (D := (dC, dI)) (ci := 1) (v := .ref a1) (C := RX1) (T := TX1) (N := 9) hx hb htl inX1 hown hK hP 0 rfl rfl 0 (by decide) (htl _ flX1_7) (fun _ h9 => h9) rfl dX1_find_11 ?_
        refine lv_iload_n hx hb dX1_find_14 rfl (lv_at hl 2 rfl) ?_
        refine ld_i hx hb hK hP 1 0 rfl rfl (j := i) (by omega) (Nat.le_of_ble_eq_true rfl) dX1_find_15 ?_
        refine lv_aload_n hx hb dX1_find_16 rfl (lv_at hl 0 rfl) ?_
        refine va_get (D := (dC, dI)) (ci := 1) (v := .int mf) (C := RX1) (T := TX1) (N := 9) hx hb htl inX1 hown hK hP 0 rfl rfl 6 (by decide) (htl _ flX1_26) (fun _ h9 => h9) rfl dX1_find_17 ?_
        refine lv_icmp_ne (tgt := 63) hx hb dX1_find_20 (by decide) (fun c_2 => ?_) (fun c_2 => ?_)
        · refine lv_iinc (v := nI (i + 1)) (lv' := [(2, .int (nI (i + 1))), (0, .ref x), (1, .int le)]) hx hb dX1_find_63 hl (k := 2) rfl (by first | rfl | exact nI_1 _) (by decide) rfl (fun ls hl => ?_)
          refine lv_goto (tgt := 2) hx hb dX1_find_66 (by decide) ?_
          exact ih (i + 1) c_1 (by omega) (lt_s hinv (by simp [md_ne, c_2])) ls (lv_sub hl [1, 2, 0] rfl)
        · refine lv_aload_n hx hb dX1_find_23 rfl (lv_at hl 0 rfl) ?_
          refine va_get (D := (dC, dI)) (ci := 1) (v := .ref a4) (C := RX1) (T := TX1) (N := 9) hx hb htl inX1 hown hK hP 0 rfl rfl 3 (by decide) (htl _ flX1_19) (fun _ h9 => h9) rfl dX1_find_24 ?_
          refine lv_iload_n hx hb dX1_find_27 rfl (lv_at hl 2 rfl) ?_
          refine ld_l hx hb hK hP 4 3 rfl rfl (j := i) (by omega) (Nat.le_of_ble_eq_true rfl) dX1_find_28 ?_
          refine lv_aload_n hx hb dX1_find_29 rfl (lv_at hl 0 rfl) ?_
          refine va_get (D := (dC, dI)) (ci := 1) (v := .long mu) (C := RX1) (T := TX1) (N := 9) hx hb htl inX1 hown hK hP 0 rfl rfl 7 (by decide) (htl _ flX1_32) (fun _ h9 => h9) rfl dX1_find_30 ?_
          refine W.lcmp hx hb dX1_find_33 ?_
          refine lv_if_ne (tgt := 63) hx hb dX1_find_34 (by decide) (fun c_3 => ?_) (fun c_3 => ?_)
          · rw [lg_cmp_eq] at c_3
            refine lv_iinc (v := nI (i + 1)) (lv' := [(2, .int (nI (i + 1))), (0, .ref x), (1, .int le)]) hx hb dX1_find_63 hl (k := 2) rfl (by first | rfl | exact nI_1 _) (by decide) rfl (fun ls hl => ?_)
            refine lv_goto (tgt := 2) hx hb dX1_find_66 (by decide) ?_
            exact ih (i + 1) c_1 (by omega) (lt_s hinv (by simp [md_ne, c_2, c_3])) ls (lv_sub hl [1, 2, 0] rfl)
          · rw [lg_cmp_eq] at c_3
            refine lv_aload_n hx hb dX1_find_37 rfl (lv_at hl 0 rfl) ?_
            refine va_get (D := (dC, dI)) (ci := 1) (v := .ref a5) (C := RX1) (T := TX1) (N := 9) hx hb htl inX1 hown hK hP 0 rfl rfl 4 (by decide) (htl _ flX1_23) (fun _ h9 => h9) rfl dX1_find_38 ?_
            refine lv_iload_n hx hb dX1_find_41 rfl (lv_at hl 2 rfl) ?_
            refine ld_l hx hb hK hP 5 4 rfl rfl (j := i) (by omega) (Nat.le_of_ble_eq_true rfl) dX1_find_42 ?_
            refine lv_aload_n hx hb dX1_find_43 rfl (lv_at hl 0 rfl) ?_
            refine va_get (D := (dC, dI)) (ci := 1) (v := .long ml) (C := RX1) (T := TX1) (N := 9) hx hb htl inX1 hown hK hP 0 rfl rfl 8 (by decide) (htl _ flX1_36) (fun _ h9 => h9) rfl dX1_find_44 ?_
            refine W.lcmp hx hb dX1_find_47 ?_
            refine lv_if_ne (tgt := 63) hx hb dX1_find_48 (by decide) (fun c_4 => ?_) (fun c_4 => ?_)
            · rw [lg_cmp_eq] at c_4
              refine lv_iinc (v := nI (i + 1)) (lv' := [(2, .int (nI (i + 1))), (0, .ref x), (1, .int le)]) hx hb dX1_find_63 hl (k := 2) rfl (by first | rfl | exact nI_1 _) (by decide) rfl (fun ls hl => ?_)
              refine lv_goto (tgt := 2) hx hb dX1_find_66 (by decide) ?_
              exact ih (i + 1) c_1 (by omega) (lt_s hinv (by simp [md_ne, c_2, c_3, c_4])) ls (lv_sub hl [1, 2, 0] rfl)
            · rw [lg_cmp_eq] at c_4
              refine lv_aload_n hx hb dX1_find_51 rfl (lv_at hl 0 rfl) ?_
              refine va_get (D := (dC, dI)) (ci := 1) (v := .ref a2) (C := RX1) (T := TX1) (N := 9) hx hb htl inX1 hown hK hP 0 rfl rfl 1 (by decide) (htl _ flX1_13) (fun _ h9 => h9) rfl dX1_find_52 ?_
              refine lv_iload_n hx hb dX1_find_55 rfl (lv_at hl 2 rfl) ?_
              refine ld_i hx hb hK hP 2 1 rfl rfl (j := i) (by omega) (Nat.le_of_ble_eq_true rfl) dX1_find_56 ?_
              refine lv_iload_n hx hb dX1_find_57 rfl (lv_at hl 1 rfl) ?_
              refine lv_icmp_ne (tgt := 63) hx hb dX1_find_58 (by decide) (fun c_5 => ?_) (fun c_5 => ?_)
              · refine lv_iinc (v := nI (i + 1)) (lv' := [(2, .int (nI (i + 1))), (0, .ref x), (1, .int le)]) hx hb dX1_find_63 hl (k := 2) rfl (by first | rfl | exact nI_1 _) (by decide) rfl (fun ls hl => ?_)
                refine lv_goto (tgt := 2) hx hb dX1_find_66 (by decide) ?_
                exact ih (i + 1) c_1 (by omega) (lt_s hinv (by simp [md_ne, c_2, c_3, c_4, c_5])) ls (lv_sub hl [1, 2, 0] rfl)
              · refine lv_iload_n hx hb dX1_find_61 rfl (lv_at hl 2 rfl) ?_
                exact ru_iret hx hb hr hlocks (by rw [kb_fst_eq _ k i hi hinv (Or.inr (by simp [md_ne, c_2, c_3, c_4, c_5])), if_pos c_1]) dX1_find_62
  refine lv_iconst (v := nI 0) hx hb dX1_find_0 (by decide) ?_
  refine lv_istore_n (lv' := [(2, .int (nI 0)), (0, .ref x), (1, .int le)]) hx hb dX1_find_1 rfl hl (by decide) rfl (fun ls hl => ?_)
  exact loop (k + 1) 0 (Nat.zero_le k) (by omega) (fun j h => absurd h (by omega)) ls (lv_sub hl [1, 2, 0] rfl)
set_option maxHeartbeats 4000000 in
set_option maxRecDepth 100000 in
theorem c_X1_covers (l : Launch) (dC : Nat → ClassId) (dI : Nat → Nat → Nat) {x a1 a2 a3 a4 a5 : Nat} {k1 k2 k3 k4 k5 : ClassId} {f : Nat → Int32} {u w : Nat → Int64} {g n : Nat → Int32} {k : Nat} {mf : Int32} {mu ml : Int64} (j : Nat) (Hh : Heap) (hj : j < 1000) (hg : g j = nI (g j).toNatClampNeg ∧ (g j).toNatClampNeg ≤ 128) (hP : va_P (dC, dI) classes (mdw x a1 a2 a3 a4 a5 k1 k2 k3 k4 k5 f u w g n k mf mu ml) Hh) : Met l yX1_covers (ww yX1_covers cX1_covers 4 (some .boolean)) ({ frames := 1, cells := 0, slots := 0, locals := 25 } : Room) (va_Pc [.ref x, .int (nI j)] (fun U => U.heap = Hh ∧ va_K (dC, dI) classes (mdt k1 k2 k3 k4 k5) U)) (va_Qi (fun r (_ : Unit) => r = (b2i (md_cov f u w g mf mu ml j))) (fun _ t => t.heap = Hh) (fun _ => False)) 0 0 (fun _ => False) := by
  refine Met.ofW (cc := cX1_covers) (maxL := 4) (ret := (some .boolean)) (by decide) rfl ?_
  intro p e s m args below meth c s₁ B hml hv
  obtain ⟨rfl, hHh, hK⟩ := hv
  subst hHh
  have hx := B.exec
  have hb := B.bytes
  have hr := B.returns
  have hts := atoms_spec (ws := ww yX1_covers cX1_covers 4 (some .boolean)) B.pre
  have htl : ∀ w ∈ ltg, w.before [.ref x, .int (nI j)].toArray s = true := fun w h => hts w (List.mem_cons_of_mem _ h)
  have hown : s.vm.findClass RX1 = some m.cls := findClass_of_methodNamed B.named
  have hlocks := B.notSynchronized
  have hl := lv_entry ([.ref x, .int (nI j)]) (n := 4) (Nat.le_of_ble_eq_true rfl)
  rw [lg_entry_eq]
  generalize (lg_sl ([.ref x, .int (nI j)]) ++ List.replicate (4 - (lg_sl ([.ref x, .int (nI j)])).length) Slot.unset).toArray = ls at hl ⊢
  have hl : lv_has ls 4 [(0, .ref x), (1, .int (nI j))] := hl
  obtain ⟨hgq, hgb⟩ := hg
  generalize hq : (g j).toNatClampNeg = q at hgq hgb
  have loop : ∀  (d i : Nat) (b : Bool), i ≤ q → q + 1 ≤ i + d → b2i (md_cov f u w g mf mu ml j) = b2i (b && md_z (fun i => decide (md_bit mf (u j) (w j) (nI i) = md_bit mf mu ml (nI i))) (q - i) i) → ∀ (ls : Array Slot), lv_has ls 4 [(0, .ref x), (1, .int (nI j)), (2, .int (b2i b)), (3, .int (nI i))] → W p l e ({ frames := 1, cells := 0, slots := 0, locals := 25 } : Room) s m ([.ref x, .int (nI j)] : List Value).toArray below meth c s.heap [] 0 0 (MQ below (va_Qi (fun r (_ : Unit) => r = (b2i (md_cov f u w g mf mu ml j))) (fun _ t => t.heap = s.heap) (fun _ => False)) [.ref x, .int (nI j)].toArray s 0 0 (fun _ => False)) (F0 m 21 ls []) := by
    intro d
    induction d with
    | zero => intro i b hi hd; exact absurd hd (by omega)
    | succ d ih =>
      intro i b hi hd hinv ls hl
      refine lv_iload_n hx hb dX1_covers_21 rfl (lv_at hl 3 rfl) ?_
      refine lv_aload_n hx hb dX1_covers_22 rfl (lv_at hl 0 rfl) ?_
      refine va_get (D := (dC, dI)) (ci := 1) (v := .ref a2) (C := RX1) (T := TX1) (N := 9) hx hb htl inX1 hown hK hP 0 rfl rfl 1 (by decide) (htl _ flX1_13) (fun _ h9 => h9) rfl dX1_covers_23 ?_
      refine lv_iload_n hx hb dX1_covers_26 rfl (lv_at hl 1 rfl) ?_
      refine ld_i hx hb hK hP 2 1 rfl rfl (j := j) (by omega) (Nat.le_of_ble_eq_true rfl) dX1_covers_27 ?_
      refine tp_i (hgq) ?_
      refine lv_icmp_ge (tgt := 86) hx hb dX1_covers_28 (by decide) (fun c_1 => ?_) (fun c_1 => ?_)
      · rw [nI_leI (by omega) (by omega)] at c_1
        refine lv_iload_n hx hb dX1_covers_86 rfl (lv_at hl 2 rfl) ?_
        exact ru_zret hx hb hr hlocks (by rw [hinv, show q - i = 0 by omega]; simp [md_z]) b2i_n dX1_covers_87
      · rw [nI_leI (by omega) (by omega), Nat.not_le] at c_1
        refine lv_iload_n hx hb dX1_covers_31 rfl (lv_at hl 2 rfl) ?_
        refine lv_if_eq (tgt := 86) hx hb dX1_covers_32 (by decide) (fun c_2 => ?_) (fun c_2 => ?_)
        · rw [b2i_0] at c_2
          refine lv_iload_n hx hb dX1_covers_86 rfl (lv_at hl 2 rfl) ?_
          exact ru_zret hx hb hr hlocks (by rw [hinv, c_2]; rfl) b2i_n dX1_covers_87
        · rw [b2i_0, Bool.not_eq_false] at c_2
          refine lv_aload_n hx hb dX1_covers_35 rfl (lv_at hl 0 rfl) ?_
          refine va_get (D := (dC, dI)) (ci := 1) (v := .int mf) (C := RX1) (T := TX1) (N := 9) hx hb htl inX1 hown hK hP 0 rfl rfl 6 (by decide) (htl _ flX1_26) (fun _ h9 => h9) rfl dX1_covers_36 ?_
          refine lv_aload_n hx hb dX1_covers_39 rfl (lv_at hl 0 rfl) ?_
          refine va_get (D := (dC, dI)) (ci := 1) (v := .ref a4) (C := RX1) (T := TX1) (N := 9) hx hb htl inX1 hown hK hP 0 rfl rfl 3 (by decide) (htl _ flX1_19) (fun _ h9 => h9) rfl dX1_covers_40 ?_
          refine lv_iload_n hx hb dX1_covers_43 rfl (lv_at hl 1 rfl) ?_
          refine ld_l hx hb hK hP 4 3 rfl rfl (j := j) (by omega) (Nat.le_of_ble_eq_true rfl) dX1_covers_44 ?_
          refine lv_aload_n hx hb dX1_covers_45 rfl (lv_at hl 0 rfl) ?_
          refine va_get (D := (dC, dI)) (ci := 1) (v := .ref a5) (C := RX1) (T := TX1) (N := 9) hx hb htl inX1 hown hK hP 0 rfl rfl 4 (by decide) (htl _ flX1_23) (fun _ h9 => h9) rfl dX1_covers_46 ?_
          refine lv_iload_n hx hb dX1_covers_49 rfl (lv_at hl 1 rfl) ?_
          refine ld_l hx hb hK hP 5 4 rfl rfl (j := j) (by omega) (Nat.le_of_ble_eq_true rfl) dX1_covers_50 ?_
          refine lv_iload_n hx hb dX1_covers_51 rfl (lv_at hl 3 rfl) ?_
          refine ru_calli (va_runS (As := [.int mf, .long (u j), .long (w j), .int (nI i)]) (rest := []) ⟨hx, hb, hml, hown, htl⟩ (c_X1_bit l dC dI mf (u j) (w j) (nI i) _) (cwS 4 htl gX1_43 rfl rfl rfl hd_X1_bit ⟨Nat.le_of_ble_eq_true rfl, Nat.le_of_ble_eq_true rfl⟩) ⟨fb_ro, fun U hU hW => ⟨rfl, hU, va_K.moved hW.alike hK⟩⟩ rfl rfl hl.1 rfl (lv_room (Nat.le_of_ble_eq_true rfl)) dX1_covers_52 ⟨Nat.le_of_ble_eq_true rfl, Nat.le_of_ble_eq_true rfl⟩) ?_
          refine lv_aload_n hx hb dX1_covers_55 rfl (lv_at hl 0 rfl) ?_
          refine va_get (D := (dC, dI)) (ci := 1) (v := .int mf) (C := RX1) (T := TX1) (N := 9) hx hb htl inX1 hown hK hP 0 rfl rfl 6 (by decide) (htl _ flX1_26) (fun _ h9 => h9) rfl dX1_covers_56 ?_
          refine lv_aload_n hx hb dX1_covers_59 rfl (lv_at hl 0 rfl) ?_
          refine va_get (D := (dC, dI)) (ci := 1) (v := .long mu) (C := RX1) (T := TX1) (N := 9) hx hb htl inX1 hown hK hP 0 rfl rfl 7 (by decide) (htl _ flX1_32) (fun _ h9 => h9) rfl dX1_covers_60 ?_
          refine lv_aload_n hx hb dX1_covers_63 rfl (lv_at hl 0 rfl) ?_
          refine va_get (D := (dC, dI)) (ci := 1) (v := .long ml) (C := RX1) (T := TX1) (N := 9) hx hb htl inX1 hown hK hP 0 rfl rfl 8 (by decide) (htl _ flX1_36) (fun _ h9 => h9) rfl dX1_covers_64 ?_
          refine lv_iload_n hx hb dX1_covers_67 rfl (lv_at hl 3 rfl) ?_
          refine ru_calli (va_runS (As := [.int mf, .long mu, .long ml, .int (nI i)]) (rest := [.int (md_bit mf (u j) (w j) (nI i))]) ⟨hx, hb, hml, hown, htl⟩ (c_X1_bit l dC dI mf mu ml (nI i) _) (cwS 4 htl gX1_43 rfl rfl rfl hd_X1_bit ⟨Nat.le_of_ble_eq_true rfl, Nat.le_of_ble_eq_true rfl⟩) ⟨fb_ro, fun U hU hW => ⟨rfl, hU, va_K.moved hW.alike hK⟩⟩ rfl rfl hl.1 rfl (lv_room (Nat.le_of_ble_eq_true rfl)) dX1_covers_68 ⟨Nat.le_of_ble_eq_true rfl, Nat.le_of_ble_eq_true rfl⟩) ?_
          refine lv_icmp_ne (tgt := 78) hx hb dX1_covers_71 (by decide) (fun c_3 => ?_) (fun c_3 => ?_)
          · refine lv_iconst (v := b2i false) hx hb dX1_covers_78 (by decide) ?_
            refine lv_istore_n (lv' := [(2, .int (b2i false)), (0, .ref x), (1, .int (nI j)), (3, .int (nI i))]) hx hb dX1_covers_79 rfl hl (by decide) rfl (fun ls hl => ?_)
            refine lv_iinc (v := nI (i + 1)) (lv' := [(3, .int (nI (i + 1))), (2, .int (b2i false)), (0, .ref x), (1, .int (nI j))]) hx hb dX1_covers_80 hl (k := 3) rfl (by first | rfl | exact nI_1 _) (by decide) rfl (fun ls hl => ?_)
            refine lv_goto (tgt := 21) hx hb dX1_covers_83 (by decide) ?_
            exact ih (i + 1) false (by omega) (by omega) (by rw [hinv, c_2, md_z_step _ q i c_1]; simp [c_3]) ls (lv_sub hl [2, 3, 1, 0] rfl)
          · refine lv_iconst (v := b2i true) hx hb dX1_covers_74 (by decide) ?_
            refine lv_goto (tgt := 79) hx hb dX1_covers_75 (by decide) ?_
            refine lv_istore_n (lv' := [(2, .int (b2i true)), (0, .ref x), (1, .int (nI j)), (3, .int (nI i))]) hx hb dX1_covers_79 rfl hl (by decide) rfl (fun ls hl => ?_)
            refine lv_iinc (v := nI (i + 1)) (lv' := [(3, .int (nI (i + 1))), (2, .int (b2i true)), (0, .ref x), (1, .int (nI j))]) hx hb dX1_covers_80 hl (k := 3) rfl (by first | rfl | exact nI_1 _) (by decide) rfl (fun ls hl => ?_)
            refine lv_goto (tgt := 21) hx hb dX1_covers_83 (by decide) ?_
            exact ih (i + 1) true (by omega) (by omega) (by rw [hinv, c_2, md_z_step _ q i c_1]; simp [c_3]) ls (lv_sub hl [2, 3, 1, 0] rfl)
  refine lv_aload_n hx hb dX1_covers_0 rfl (lv_at hl 0 rfl) ?_
  refine va_get (D := (dC, dI)) (ci := 1) (v := .ref a1) (C := RX1) (T := TX1) (N := 9) hx hb htl inX1 hown hK hP 0 rfl rfl 0 (by decide) (htl _ flX1_7) (fun _ h9 => h9) rfl dX1_covers_1 ?_
  refine lv_iload_n hx hb dX1_covers_4 rfl (lv_at hl 1 rfl) ?_
  refine ld_i hx hb hK hP 1 0 rfl rfl (j := j) (by omega) (Nat.le_of_ble_eq_true rfl) dX1_covers_5 ?_
  refine lv_aload_n hx hb dX1_covers_6 rfl (lv_at hl 0 rfl) ?_
  refine va_get (D := (dC, dI)) (ci := 1) (v := .int mf) (C := RX1) (T := TX1) (N := 9) hx hb htl inX1 hown hK hP 0 rfl rfl 6 (by decide) (htl _ flX1_26) (fun _ h9 => h9) rfl dX1_covers_7 ?_
  refine lv_icmp_ne (tgt := 17) hx hb dX1_covers_10 (by decide) (fun c_11 => ?_) (fun c_11 => ?_)
  · refine lv_iconst (v := b2i false) hx hb dX1_covers_17 (by decide) ?_
    refine lv_istore_n (lv' := [(2, .int (b2i false)), (0, .ref x), (1, .int (nI j))]) hx hb dX1_covers_18 rfl hl (by decide) rfl (fun ls hl => ?_)
    refine lv_iconst (v := nI 0) hx hb dX1_covers_19 (by decide) ?_
    refine lv_istore_n (lv' := [(3, .int (nI 0)), (2, .int (b2i false)), (0, .ref x), (1, .int (nI j))]) hx hb dX1_covers_20 rfl hl (by decide) rfl (fun ls hl => ?_)
    exact loop (q + 1) 0 false (Nat.zero_le q) (by omega) (by simp [md_cov, hq, c_11]) ls (lv_sub hl [2, 3, 1, 0] rfl)
  · refine lv_iconst (v := b2i true) hx hb dX1_covers_13 (by decide) ?_
    refine lv_goto (tgt := 18) hx hb dX1_covers_14 (by decide) ?_
    refine lv_istore_n (lv' := [(2, .int (b2i true)), (0, .ref x), (1, .int (nI j))]) hx hb dX1_covers_18 rfl hl (by decide) rfl (fun ls hl => ?_)
    refine lv_iconst (v := nI 0) hx hb dX1_covers_19 (by decide) ?_
    refine lv_istore_n (lv' := [(3, .int (nI 0)), (2, .int (b2i true)), (0, .ref x), (1, .int (nI j))]) hx hb dX1_covers_20 rfl hl (by decide) rfl (fun ls hl => ?_)
    exact loop (q + 1) 0 true (Nat.zero_le q) (by omega) (by simp [md_cov, hq, c_11]) ls (lv_sub hl [2, 3, 1, 0] rfl)
set_option maxHeartbeats 4000000 in
set_option maxRecDepth 100000 in
theorem c_X1_longest (l : Launch) (dC : Nat → ClassId) (dI : Nat → Nat → Nat) {x a1 a2 a3 a4 a5 : Nat} {k1 k2 k3 k4 k5 : ClassId} {f : Nat → Int32} {u w : Nat → Int64} {g n : Nat → Int32} {k : Nat} {mf : Int32} {mu ml : Int64}  (Hh : Heap) (hk : k ≤ 1000) (hg : ∀ j, j < k → g j = nI (g j).toNatClampNeg ∧ (g j).toNatClampNeg ≤ 128) (hP : va_P (dC, dI) classes (mdw x a1 a2 a3 a4 a5 k1 k2 k3 k4 k5 f u w g n k mf mu ml) Hh) : Met l yX1_longest (ww yX1_longest cX1_longest 3 (some .int)) ({ frames := 2, cells := 0, slots := 0, locals := 48 } : Room) (va_Pc [.ref x] (fun U => U.heap = Hh ∧ va_K (dC, dI) classes (mdt k1 k2 k3 k4 k5) U)) (va_Qi (fun r (_ : Unit) => r = (kb_lg (md_cov f u w g mf mu ml) g k)) (fun _ t => t.heap = Hh) (fun _ => False)) 0 0 (fun _ => False) := by
  refine Met.ofW (cc := cX1_longest) (maxL := 3) (ret := (some .int)) (by decide) rfl ?_
  intro p e s m args below meth c s₁ B hml hv
  obtain ⟨rfl, hHh, hK⟩ := hv
  subst hHh
  have hx := B.exec
  have hb := B.bytes
  have hr := B.returns
  have hts := atoms_spec (ws := ww yX1_longest cX1_longest 3 (some .int)) B.pre
  have htl : ∀ w ∈ ltg, w.before [.ref x].toArray s = true := fun w h => hts w (List.mem_cons_of_mem _ h)
  have hown : s.vm.findClass RX1 = some m.cls := findClass_of_methodNamed B.named
  have hlocks := B.notSynchronized
  have hl := lv_entry ([.ref x]) (n := 3) (Nat.le_of_ble_eq_true rfl)
  rw [lg_entry_eq]
  generalize (lg_sl ([.ref x]) ++ List.replicate (3 - (lg_sl ([.ref x])).length) Slot.unset).toArray = ls at hl ⊢
  have hl : lv_has ls 3 [(0, .ref x)] := hl
  have loop : ∀  (d i : Nat) (y : Int32), i ≤ k → k + 1 ≤ i + d → y = kb_lg (md_cov f u w g mf mu ml) g i → ∀ (ls : Array Slot), lv_has ls 3 [(0, .ref x), (1, .int y), (2, .int (nI i))] → W p l e ({ frames := 2, cells := 0, slots := 0, locals := 48 } : Room) s m ([.ref x] : List Value).toArray below meth c s.heap [] 0 0 (MQ below (va_Qi (fun r (_ : Unit) => r = (kb_lg (md_cov f u w g mf mu ml) g k)) (fun _ t => t.heap = s.heap) (fun _ => False)) [.ref x].toArray s 0 0 (fun _ => False)) (F0 m 4 ls []) := by
    intro d
    induction d with
    | zero => intro i y hi hd; exact absurd hd (by omega)
    | succ d ih =>
      intro i y hi hd hinv ls hl
      refine lv_iload_n hx hb dX1_longest_4 rfl (lv_at hl 2 rfl) ?_
      refine lv_aload_n hx hb dX1_longest_5 rfl (lv_at hl 0 rfl) ?_
      refine va_get (D := (dC, dI)) (ci := 1) (v := .int (nI k)) (C := RX1) (T := TX1) (N := 9) hx hb htl inX1 hown hK hP 0 rfl rfl 5 (by decide) (htl _ flX1_47) (fun _ h9 => h9) rfl dX1_longest_6 ?_
      refine lv_icmp_ge (tgt := 47) hx hb dX1_longest_9 (by decide) (fun c_1 => ?_) (fun c_1 => ?_)
      · rw [nI_leI (by omega) (by omega)] at c_1
        refine lv_iload_n hx hb dX1_longest_47 rfl (lv_at hl 1 rfl) ?_
        exact ru_iret hx hb hr hlocks (by rw [hinv, Nat.le_antisymm hi c_1]) dX1_longest_48
      · rw [nI_leI (by omega) (by omega), Nat.not_le] at c_1
        refine lv_aload_n hx hb dX1_longest_12 rfl (lv_at hl 0 rfl) ?_
        refine lv_iload_n hx hb dX1_longest_13 rfl (lv_at hl 2 rfl) ?_
        refine ru_calli (va_runV (As := [.int (nI i)]) (rest := []) ⟨hx, hb, hml, hown, htl⟩ (c_X1_covers l dC dI i _ (by omega) (hg _ (by omega)) hP) (cwV 1 htl gX1_58 rfl rfl rfl hd_X1_covers ⟨Nat.le_of_ble_eq_true rfl, Nat.le_of_ble_eq_true rfl⟩) ⟨fb_ro, va_recv hK hP (ci := 1) (q0 := 0) rfl rfl, fun U hU hW => ⟨rfl, hU, va_K.moved hW.alike hK⟩⟩ rfl rfl hl.1 rfl (lv_room (Nat.le_of_ble_eq_true rfl)) dX1_longest_14 ⟨Nat.le_of_ble_eq_true rfl, Nat.le_of_ble_eq_true rfl⟩) ?_
        refine lv_if_eq (tgt := 39) hx hb dX1_longest_17 (by decide) (fun c_2 => ?_) (fun c_2 => ?_)
        · rw [b2i_0] at c_2
          refine lv_iload_n hx hb dX1_longest_39 rfl (lv_at hl 1 rfl) ?_
          refine lv_istore_n (lv' := [(1, .int y), (0, .ref x), (2, .int (nI i))]) hx hb dX1_longest_40 rfl hl (by decide) rfl (fun ls hl => ?_)
          refine lv_iinc (v := nI (i + 1)) (lv' := [(2, .int (nI (i + 1))), (1, .int y), (0, .ref x)]) hx hb dX1_longest_41 hl (k := 2) rfl (by first | rfl | exact nI_1 _) (by decide) rfl (fun ls hl => ?_)
          refine lv_goto (tgt := 4) hx hb dX1_longest_44 (by decide) ?_
          exact ih (i + 1) y c_1 (by omega) (by subst hinv; simp [kb_lg, c_2]) ls (lv_sub hl [2, 1, 0] rfl)
        · rw [b2i_0, Bool.not_eq_false] at c_2
          refine lv_aload_n hx hb dX1_longest_20 rfl (lv_at hl 0 rfl) ?_
          refine va_get (D := (dC, dI)) (ci := 1) (v := .ref a2) (C := RX1) (T := TX1) (N := 9) hx hb htl inX1 hown hK hP 0 rfl rfl 1 (by decide) (htl _ flX1_13) (fun _ h9 => h9) rfl dX1_longest_21 ?_
          refine lv_iload_n hx hb dX1_longest_24 rfl (lv_at hl 2 rfl) ?_
          refine ld_i hx hb hK hP 2 1 rfl rfl (j := i) (by omega) (Nat.le_of_ble_eq_true rfl) dX1_longest_25 ?_
          refine lv_iload_n hx hb dX1_longest_26 rfl (lv_at hl 1 rfl) ?_
          refine lv_icmp_le (tgt := 39) hx hb dX1_longest_27 (by decide) (fun c_3 => ?_) (fun c_3 => ?_)
          · refine lv_iload_n hx hb dX1_longest_39 rfl (lv_at hl 1 rfl) ?_
            refine lv_istore_n (lv' := [(1, .int y), (0, .ref x), (2, .int (nI i))]) hx hb dX1_longest_40 rfl hl (by decide) rfl (fun ls hl => ?_)
            refine lv_iinc (v := nI (i + 1)) (lv' := [(2, .int (nI (i + 1))), (1, .int y), (0, .ref x)]) hx hb dX1_longest_41 hl (k := 2) rfl (by first | rfl | exact nI_1 _) (by decide) rfl (fun ls hl => ?_)
            refine lv_goto (tgt := 4) hx hb dX1_longest_44 (by decide) ?_
            exact ih (i + 1) y c_1 (by omega) (by subst hinv; simp [kb_lg, c_2, c_3]) ls (lv_sub hl [2, 1, 0] rfl)
          · refine lv_aload_n hx hb dX1_longest_30 rfl (lv_at hl 0 rfl) ?_
            refine va_get (D := (dC, dI)) (ci := 1) (v := .ref a2) (C := RX1) (T := TX1) (N := 9) hx hb htl inX1 hown hK hP 0 rfl rfl 1 (by decide) (htl _ flX1_13) (fun _ h9 => h9) rfl dX1_longest_31 ?_
            refine lv_iload_n hx hb dX1_longest_34 rfl (lv_at hl 2 rfl) ?_
            refine ld_i hx hb hK hP 2 1 rfl rfl (j := i) (by omega) (Nat.le_of_ble_eq_true rfl) dX1_longest_35 ?_
            refine lv_goto (tgt := 40) hx hb dX1_longest_36 (by decide) ?_
            refine lv_istore_n (lv' := [(1, .int (g i)), (0, .ref x), (2, .int (nI i))]) hx hb dX1_longest_40 rfl hl (by decide) rfl (fun ls hl => ?_)
            refine lv_iinc (v := nI (i + 1)) (lv' := [(2, .int (nI (i + 1))), (1, .int (g i)), (0, .ref x)]) hx hb dX1_longest_41 hl (k := 2) rfl (by first | rfl | exact nI_1 _) (by decide) rfl (fun ls hl => ?_)
            refine lv_goto (tgt := 4) hx hb dX1_longest_44 (by decide) ?_
            exact ih (i + 1) (g i) c_1 (by omega) (by subst hinv; simp [kb_lg, c_2, c_3]) ls (lv_sub hl [2, 1, 0] rfl)
  refine lv_iconst (v := (-1)) hx hb dX1_longest_0 (by decide) ?_
  refine lv_istore_n (lv' := [(1, .int (-1)), (0, .ref x)]) hx hb dX1_longest_1 rfl hl (by decide) rfl (fun ls hl => ?_)
  refine lv_iconst (v := nI 0) hx hb dX1_longest_2 (by decide) ?_
  refine lv_istore_n (lv' := [(2, .int (nI 0)), (1, .int (-1)), (0, .ref x)]) hx hb dX1_longest_3 rfl hl (by decide) rfl (fun ls hl => ?_)
  exact loop (k + 1) 0 (-1) (Nat.zero_le k) (by omega) rfl ls (lv_sub hl [2, 1, 0] rfl)
set_option maxHeartbeats 4000000 in
set_option maxRecDepth 100000 in
theorem c_X1_covering (l : Launch) (dC : Nat → ClassId) (dI : Nat → Nat → Nat) {x a1 a2 a3 a4 a5 : Nat} {k1 k2 k3 k4 k5 : ClassId} {f : Nat → Int32} {u w : Nat → Int64} {g n : Nat → Int32} {k : Nat} {mf : Int32} {mu ml : Int64}  (Hh : Heap) (hk : k ≤ 1000) (hg : ∀ j, j < k → g j = nI (g j).toNatClampNeg ∧ (g j).toNatClampNeg ≤ 128) (hP : va_P (dC, dI) classes (mdw x a1 a2 a3 a4 a5 k1 k2 k3 k4 k5 f u w g n k mf mu ml) Hh) : Met l yX1_covering (ww yX1_covering cX1_covering 3 (some .int)) ({ frames := 2, cells := 0, slots := 0, locals := 48 } : Room) (va_Pc [.ref x] (fun U => U.heap = Hh ∧ va_K (dC, dI) classes (mdt k1 k2 k3 k4 k5) U)) (va_Qi (fun r (_ : Unit) => r = (nI (kb_cv (md_cov f u w g mf mu ml) k))) (fun _ t => t.heap = Hh) (fun _ => False)) 0 0 (fun _ => False) := by
  refine Met.ofW (cc := cX1_covering) (maxL := 3) (ret := (some .int)) (by decide) rfl ?_
  intro p e s m args below meth c s₁ B hml hv
  obtain ⟨rfl, hHh, hK⟩ := hv
  subst hHh
  have hx := B.exec
  have hb := B.bytes
  have hr := B.returns
  have hts := atoms_spec (ws := ww yX1_covering cX1_covering 3 (some .int)) B.pre
  have htl : ∀ w ∈ ltg, w.before [.ref x].toArray s = true := fun w h => hts w (List.mem_cons_of_mem _ h)
  have hown : s.vm.findClass RX1 = some m.cls := findClass_of_methodNamed B.named
  have hlocks := B.notSynchronized
  have hl := lv_entry ([.ref x]) (n := 3) (Nat.le_of_ble_eq_true rfl)
  rw [lg_entry_eq]
  generalize (lg_sl ([.ref x]) ++ List.replicate (3 - (lg_sl ([.ref x])).length) Slot.unset).toArray = ls at hl ⊢
  have hl : lv_has ls 3 [(0, .ref x)] := hl
  have loop : ∀  (d i : Nat) (z : Nat), i ≤ k → k + 1 ≤ i + d → z = kb_cv (md_cov f u w g mf mu ml) i → ∀ (ls : Array Slot), lv_has ls 3 [(0, .ref x), (1, .int (nI z)), (2, .int (nI i))] → W p l e ({ frames := 2, cells := 0, slots := 0, locals := 48 } : Room) s m ([.ref x] : List Value).toArray below meth c s.heap [] 0 0 (MQ below (va_Qi (fun r (_ : Unit) => r = (nI (kb_cv (md_cov f u w g mf mu ml) k))) (fun _ t => t.heap = s.heap) (fun _ => False)) [.ref x].toArray s 0 0 (fun _ => False)) (F0 m 4 ls []) := by
    intro d
    induction d with
    | zero => intro i z hi hd; exact absurd hd (by omega)
    | succ d ih =>
      intro i z hi hd hinv ls hl
      refine lv_iload_n hx hb dX1_covering_4 rfl (lv_at hl 2 rfl) ?_
      refine lv_aload_n hx hb dX1_covering_5 rfl (lv_at hl 0 rfl) ?_
      refine va_get (D := (dC, dI)) (ci := 1) (v := .int (nI k)) (C := RX1) (T := TX1) (N := 9) hx hb htl inX1 hown hK hP 0 rfl rfl 5 (by decide) (htl _ flX1_47) (fun _ h9 => h9) rfl dX1_covering_6 ?_
      refine lv_icmp_ge (tgt := 34) hx hb dX1_covering_9 (by decide) (fun c_1 => ?_) (fun c_1 => ?_)
      · rw [nI_leI (by omega) (by omega)] at c_1
        refine lv_iload_n hx hb dX1_covering_34 rfl (lv_at hl 1 rfl) ?_
        exact ru_iret hx hb hr hlocks (by rw [hinv, Nat.le_antisymm hi c_1]) dX1_covering_35
      · rw [nI_leI (by omega) (by omega), Nat.not_le] at c_1
        refine lv_iload_n hx hb dX1_covering_12 rfl (lv_at hl 1 rfl) ?_
        refine lv_aload_n hx hb dX1_covering_13 rfl (lv_at hl 0 rfl) ?_
        refine lv_iload_n hx hb dX1_covering_14 rfl (lv_at hl 2 rfl) ?_
        refine ru_calli (va_runV (As := [.int (nI i)]) (rest := [.int (nI z)]) ⟨hx, hb, hml, hown, htl⟩ (c_X1_covers l dC dI i _ (by omega) (hg _ (by omega)) hP) (cwV 1 htl gX1_58 rfl rfl rfl hd_X1_covers ⟨Nat.le_of_ble_eq_true rfl, Nat.le_of_ble_eq_true rfl⟩) ⟨fb_ro, va_recv hK hP (ci := 1) (q0 := 0) rfl rfl, fun U hU hW => ⟨rfl, hU, va_K.moved hW.alike hK⟩⟩ rfl rfl hl.1 rfl (lv_room (Nat.le_of_ble_eq_true rfl)) dX1_covering_15 ⟨Nat.le_of_ble_eq_true rfl, Nat.le_of_ble_eq_true rfl⟩) ?_
        refine lv_if_eq (tgt := 25) hx hb dX1_covering_18 (by decide) (fun c_2 => ?_) (fun c_2 => ?_)
        · rw [b2i_0] at c_2
          refine lv_iconst (v := 0) hx hb dX1_covering_25 (by decide) ?_
          refine lv_iadd hx hb dX1_covering_26 ?_
          refine tp_i (Int32.add_zero _) ?_
          refine lv_istore_n (lv' := [(1, .int (nI z)), (0, .ref x), (2, .int (nI i))]) hx hb dX1_covering_27 rfl hl (by decide) rfl (fun ls hl => ?_)
          refine lv_iinc (v := nI (i + 1)) (lv' := [(2, .int (nI (i + 1))), (1, .int (nI z)), (0, .ref x)]) hx hb dX1_covering_28 hl (k := 2) rfl (by first | rfl | exact nI_1 _) (by decide) rfl (fun ls hl => ?_)
          refine lv_goto (tgt := 4) hx hb dX1_covering_31 (by decide) ?_
          exact ih (i + 1) z c_1 (by omega) (by subst hinv; simp [kb_cv, c_2]) ls (lv_sub hl [2, 1, 0] rfl)
        · rw [b2i_0, Bool.not_eq_false] at c_2
          refine lv_iconst (v := 1) hx hb dX1_covering_21 (by decide) ?_
          refine lv_goto (tgt := 26) hx hb dX1_covering_22 (by decide) ?_
          refine lv_iadd hx hb dX1_covering_26 ?_
          refine tp_i (nI_1 z) ?_
          refine lv_istore_n (lv' := [(1, .int (nI (z + 1))), (0, .ref x), (2, .int (nI i))]) hx hb dX1_covering_27 rfl hl (by decide) rfl (fun ls hl => ?_)
          refine lv_iinc (v := nI (i + 1)) (lv' := [(2, .int (nI (i + 1))), (1, .int (nI (z + 1))), (0, .ref x)]) hx hb dX1_covering_28 hl (k := 2) rfl (by first | rfl | exact nI_1 _) (by decide) rfl (fun ls hl => ?_)
          refine lv_goto (tgt := 4) hx hb dX1_covering_31 (by decide) ?_
          exact ih (i + 1) (z + 1) c_1 (by omega) (by subst hinv; simp [kb_cv, c_2]) ls (lv_sub hl [2, 1, 0] rfl)
  refine lv_iconst (v := nI 0) hx hb dX1_covering_0 (by decide) ?_
  refine lv_istore_n (lv' := [(1, .int (nI 0)), (0, .ref x)]) hx hb dX1_covering_1 rfl hl (by decide) rfl (fun ls hl => ?_)
  refine lv_iconst (v := nI 0) hx hb dX1_covering_2 (by decide) ?_
  refine lv_istore_n (lv' := [(2, .int (nI 0)), (1, .int (nI 0)), (0, .ref x)]) hx hb dX1_covering_3 rfl hl (by decide) rfl (fun ls hl => ?_)
  exact loop (k + 1) 0 0 (Nat.zero_le k) (by omega) rfl ls (lv_sub hl [2, 1, 0] rfl)
set_option maxHeartbeats 4000000 in
set_option maxRecDepth 100000 in
theorem c_X1_isAhead (l : Launch) (dC : Nat → ClassId) (dI : Nat → Nat → Nat) {x a1 a2 a3 a4 a5 : Nat} {k1 k2 k3 k4 k5 : ClassId} {f : Nat → Int32} {u w : Nat → Int64} {g n : Nat → Int32} {k : Nat} {mf : Int32} {mu ml : Int64} (j : Nat) (fa : Int32) (up lo : Int64) (le : Int32) (Hh : Heap) (hj : j < 1000) (hP : va_P (dC, dI) classes (mdw x a1 a2 a3 a4 a5 k1 k2 k3 k4 k5 f u w g n k mf mu ml) Hh) : Met l yX1_isAhead (ww yX1_isAhead cX1_isAhead 10 (some .boolean)) ({ frames := 1, cells := 0, slots := 0, locals := 27 } : Room) (va_Pc [.ref x, .int (nI j), .int fa, .long up, .long lo, .int le] (fun U => U.heap = Hh ∧ va_K (dC, dI) classes (mdt k1 k2 k3 k4 k5) U)) (va_Qi (fun r (_ : Unit) => r = (b2i (md_ah f u w g fa up lo le j))) (fun _ t => t.heap = Hh) (fun _ => False)) 0 0 (fun _ => False) := by
  refine Met.ofW (cc := cX1_isAhead) (maxL := 10) (ret := (some .boolean)) (by decide) rfl ?_
  intro p e s m args below meth c s₁ B hml hv
  obtain ⟨rfl, hHh, hK⟩ := hv
  subst hHh
  have hx := B.exec
  have hb := B.bytes
  have hr := B.returns
  have hts := atoms_spec (ws := ww yX1_isAhead cX1_isAhead 10 (some .boolean)) B.pre
  have htl : ∀ w ∈ ltg, w.before [.ref x, .int (nI j), .int fa, .long up, .long lo, .int le].toArray s = true := fun w h => hts w (List.mem_cons_of_mem _ h)
  have hown : s.vm.findClass RX1 = some m.cls := findClass_of_methodNamed B.named
  have hlocks := B.notSynchronized
  have hl := lv_entry ([.ref x, .int (nI j), .int fa, .long up, .long lo, .int le]) (n := 10) (Nat.le_of_ble_eq_true rfl)
  rw [lg_entry_eq]
  generalize (lg_sl ([.ref x, .int (nI j), .int fa, .long up, .long lo, .int le]) ++ List.replicate (10 - (lg_sl ([.ref x, .int (nI j), .int fa, .long up, .long lo, .int le])).length) Slot.unset).toArray = ls at hl ⊢
  have hl : lv_has ls 10 [(0, .ref x), (1, .int (nI j)), (2, .int fa), (3, .long up), (5, .long lo), (7, .int le)] := hl
  refine lv_aload_n hx hb dX1_isAhead_0 rfl (lv_at hl 0 rfl) ?_
  refine va_get (D := (dC, dI)) (ci := 1) (v := .ref a1) (C := RX1) (T := TX1) (N := 9) hx hb htl inX1 hown hK hP 0 rfl rfl 0 (by decide) (htl _ flX1_7) (fun _ h9 => h9) rfl dX1_isAhead_1 ?_
  refine lv_iload_n hx hb dX1_isAhead_4 rfl (lv_at hl 1 rfl) ?_
  refine ld_i hx hb hK hP 1 0 rfl rfl (j := j) (by omega) (Nat.le_of_ble_eq_true rfl) dX1_isAhead_5 ?_
  refine lv_iload_n hx hb dX1_isAhead_6 rfl (lv_at hl 2 rfl) ?_
  refine lv_icmp_eq (tgt := 26) hx hb dX1_isAhead_7 (by decide) (fun c_1 => ?_) (fun c_1 => ?_)
  · refine lv_aload_n hx hb dX1_isAhead_26 rfl (lv_at hl 0 rfl) ?_
    refine va_get (D := (dC, dI)) (ci := 1) (v := .ref a4) (C := RX1) (T := TX1) (N := 9) hx hb htl inX1 hown hK hP 0 rfl rfl 3 (by decide) (htl _ flX1_19) (fun _ h9 => h9) rfl dX1_isAhead_27 ?_
    refine lv_iload_n hx hb dX1_isAhead_30 rfl (lv_at hl 1 rfl) ?_
    refine ld_l hx hb hK hP 4 3 rfl rfl (j := j) (by omega) (Nat.le_of_ble_eq_true rfl) dX1_isAhead_31 ?_
    refine lv_lload_n hx hb dX1_isAhead_32 rfl (lv_at hl 3 rfl) ?_
    refine ru_calli (va_runS (As := [.long (u j), .long up]) (rest := []) ⟨hx, hb, hml, hown, htl⟩ (c_X1_compare l dC dI (u j) up _) (cwS 2 htl gX1_63 rfl rfl rfl hd_X1_compare ⟨Nat.le_of_ble_eq_true rfl, Nat.le_of_ble_eq_true rfl⟩) ⟨fb_ro, fun U hU hW => ⟨rfl, hU, va_K.moved hW.alike hK⟩⟩ rfl rfl hl.1 rfl (lv_room (Nat.le_of_ble_eq_true rfl)) dX1_isAhead_33 ⟨Nat.le_of_ble_eq_true rfl, Nat.le_of_ble_eq_true rfl⟩) ?_
    refine lv_istore (lv' := [(8, .int (md_cmp (u j) up)), (0, .ref x), (1, .int (nI j)), (2, .int fa), (3, .long up), (5, .long lo), (7, .int le)]) hx hb dX1_isAhead_36 hl (by decide) rfl (fun ls hl => ?_)
    refine lv_iload hx hb dX1_isAhead_38 (lv_at hl 0 rfl) ?_
    refine lv_if_ne (tgt := 57) hx hb dX1_isAhead_40 (by decide) (fun c_2 => ?_) (fun c_2 => ?_)
    · refine lv_iload hx hb dX1_isAhead_57 (lv_at hl 0 rfl) ?_
      refine lv_istore (lv' := [(9, .int (md_cmp (u j) up)), (8, .int (md_cmp (u j) up)), (0, .ref x), (1, .int (nI j)), (2, .int fa), (3, .long up), (5, .long lo), (7, .int le)]) hx hb dX1_isAhead_59 hl (by decide) rfl (fun ls hl => ?_)
      refine lv_iload hx hb dX1_isAhead_61 (lv_at hl 0 rfl) ?_
      refine lv_if_lt (tgt := 82) hx hb dX1_isAhead_63 (by decide) (fun c_3 => ?_) (fun c_3 => ?_)
      · refine lv_iconst (v := 1) hx hb dX1_isAhead_82 (by decide) ?_
        refine lv_goto (tgt := 87) hx hb dX1_isAhead_83 (by decide) ?_
        exact ru_zret hx hb hr hlocks (by first | exact absurd c_4 c_2 | simp [md_ah, md_low, b2i, c_1, c_2, c_3]) rfl dX1_isAhead_87
      · refine lv_iload hx hb dX1_isAhead_66 (lv_at hl 0 rfl) ?_
        refine lv_if_ne (tgt := 86) hx hb dX1_isAhead_68 (by decide) (fun c_4 => ?_) (fun c_4 => ?_)
        · refine lv_iconst (v := 0) hx hb dX1_isAhead_86 (by decide) ?_
          exact ru_zret hx hb hr hlocks (by first | exact absurd c_4 c_2 | simp [md_ah, md_low, b2i, c_1, c_2, c_3, c_4]) rfl dX1_isAhead_87
        · refine lv_aload_n hx hb dX1_isAhead_71 rfl (lv_at hl 2 rfl) ?_
          refine va_get (D := (dC, dI)) (ci := 1) (v := .ref a2) (C := RX1) (T := TX1) (N := 9) hx hb htl inX1 hown hK hP 0 rfl rfl 1 (by decide) (htl _ flX1_13) (fun _ h9 => h9) rfl dX1_isAhead_72 ?_
          refine lv_iload_n hx hb dX1_isAhead_75 rfl (lv_at hl 3 rfl) ?_
          refine ld_i hx hb hK hP 2 1 rfl rfl (j := j) (by omega) (Nat.le_of_ble_eq_true rfl) dX1_isAhead_76 ?_
          refine lv_iload hx hb dX1_isAhead_77 (lv_at hl 7 rfl) ?_
          refine lv_icmp_ge (tgt := 86) hx hb dX1_isAhead_79 (by decide) (fun c_5 => ?_) (fun c_5 => ?_)
          · refine lv_iconst (v := 0) hx hb dX1_isAhead_86 (by decide) ?_
            exact ru_zret hx hb hr hlocks (by first | exact absurd c_4 c_2 | simp [md_ah, md_low, b2i, c_1, c_2, c_3, c_4, c_5]) rfl dX1_isAhead_87
          · refine lv_iconst (v := 1) hx hb dX1_isAhead_82 (by decide) ?_
            refine lv_goto (tgt := 87) hx hb dX1_isAhead_83 (by decide) ?_
            exact ru_zret hx hb hr hlocks (by first | exact absurd c_4 c_2 | simp [md_ah, md_low, b2i, c_1, c_2, c_3, c_4, c_5]) rfl dX1_isAhead_87
    · refine lv_aload_n hx hb dX1_isAhead_43 rfl (lv_at hl 1 rfl) ?_
      refine va_get (D := (dC, dI)) (ci := 1) (v := .ref a5) (C := RX1) (T := TX1) (N := 9) hx hb htl inX1 hown hK hP 0 rfl rfl 4 (by decide) (htl _ flX1_23) (fun _ h9 => h9) rfl dX1_isAhead_44 ?_
      refine lv_iload_n hx hb dX1_isAhead_47 rfl (lv_at hl 2 rfl) ?_
      refine ld_l hx hb hK hP 5 4 rfl rfl (j := j) (by omega) (Nat.le_of_ble_eq_true rfl) dX1_isAhead_48 ?_
      refine lv_lload hx hb dX1_isAhead_49 (lv_at hl 5 rfl) ?_
      refine ru_calli (va_runS (As := [.long (w j), .long lo]) (rest := []) ⟨hx, hb, hml, hown, htl⟩ (c_X1_compare l dC dI (w j) lo _) (cwS 2 htl gX1_63 rfl rfl rfl hd_X1_compare ⟨Nat.le_of_ble_eq_true rfl, Nat.le_of_ble_eq_true rfl⟩) ⟨fb_ro, fun U hU hW => ⟨rfl, hU, va_K.moved hW.alike hK⟩⟩ rfl rfl hl.1 rfl (lv_room (Nat.le_of_ble_eq_true rfl)) dX1_isAhead_51 ⟨Nat.le_of_ble_eq_true rfl, Nat.le_of_ble_eq_true rfl⟩) ?_
      refine lv_goto (tgt := 59) hx hb dX1_isAhead_54 (by decide) ?_
      refine lv_istore (lv' := [(9, .int (md_cmp (w j) lo)), (8, .int (md_cmp (u j) up)), (0, .ref x), (1, .int (nI j)), (2, .int fa), (3, .long up), (5, .long lo), (7, .int le)]) hx hb dX1_isAhead_59 hl (by decide) rfl (fun ls hl => ?_)
      refine lv_iload hx hb dX1_isAhead_61 (lv_at hl 0 rfl) ?_
      refine lv_if_lt (tgt := 82) hx hb dX1_isAhead_63 (by decide) (fun c_6 => ?_) (fun c_6 => ?_)
      · refine lv_iconst (v := 1) hx hb dX1_isAhead_82 (by decide) ?_
        refine lv_goto (tgt := 87) hx hb dX1_isAhead_83 (by decide) ?_
        exact ru_zret hx hb hr hlocks (by first | exact absurd c_4 c_2 | simp [md_ah, md_low, b2i, c_1, c_2, c_6]) rfl dX1_isAhead_87
      · refine lv_iload hx hb dX1_isAhead_66 (lv_at hl 0 rfl) ?_
        refine lv_if_ne (tgt := 86) hx hb dX1_isAhead_68 (by decide) (fun c_7 => ?_) (fun c_7 => ?_)
        · refine lv_iconst (v := 0) hx hb dX1_isAhead_86 (by decide) ?_
          exact ru_zret hx hb hr hlocks (by first | exact absurd c_4 c_2 | simp [md_ah, md_low, b2i, c_1, c_2, c_6, c_7]) rfl dX1_isAhead_87
        · refine lv_aload_n hx hb dX1_isAhead_71 rfl (lv_at hl 2 rfl) ?_
          refine va_get (D := (dC, dI)) (ci := 1) (v := .ref a2) (C := RX1) (T := TX1) (N := 9) hx hb htl inX1 hown hK hP 0 rfl rfl 1 (by decide) (htl _ flX1_13) (fun _ h9 => h9) rfl dX1_isAhead_72 ?_
          refine lv_iload_n hx hb dX1_isAhead_75 rfl (lv_at hl 3 rfl) ?_
          refine ld_i hx hb hK hP 2 1 rfl rfl (j := j) (by omega) (Nat.le_of_ble_eq_true rfl) dX1_isAhead_76 ?_
          refine lv_iload hx hb dX1_isAhead_77 (lv_at hl 7 rfl) ?_
          refine lv_icmp_ge (tgt := 86) hx hb dX1_isAhead_79 (by decide) (fun c_8 => ?_) (fun c_8 => ?_)
          · refine lv_iconst (v := 0) hx hb dX1_isAhead_86 (by decide) ?_
            exact ru_zret hx hb hr hlocks (by first | exact absurd c_4 c_2 | simp [md_ah, md_low, b2i, c_1, c_2, c_6, c_7, c_8]) rfl dX1_isAhead_87
          · refine lv_iconst (v := 1) hx hb dX1_isAhead_82 (by decide) ?_
            refine lv_goto (tgt := 87) hx hb dX1_isAhead_83 (by decide) ?_
            exact ru_zret hx hb hr hlocks (by first | exact absurd c_4 c_2 | simp [md_ah, md_low, b2i, c_1, c_2, c_6, c_7, c_8]) rfl dX1_isAhead_87
  · refine lv_aload_n hx hb dX1_isAhead_10 rfl (lv_at hl 0 rfl) ?_
    refine va_get (D := (dC, dI)) (ci := 1) (v := .ref a1) (C := RX1) (T := TX1) (N := 9) hx hb htl inX1 hown hK hP 0 rfl rfl 0 (by decide) (htl _ flX1_7) (fun _ h9 => h9) rfl dX1_isAhead_11 ?_
    refine lv_iload_n hx hb dX1_isAhead_14 rfl (lv_at hl 1 rfl) ?_
    refine ld_i hx hb hK hP 1 0 rfl rfl (j := j) (by omega) (Nat.le_of_ble_eq_true rfl) dX1_isAhead_15 ?_
    refine lv_iload_n hx hb dX1_isAhead_16 rfl (lv_at hl 2 rfl) ?_
    refine lv_icmp_ge (tgt := 24) hx hb dX1_isAhead_17 (by decide) (fun c_9 => ?_) (fun c_9 => ?_)
    · refine lv_iconst (v := 0) hx hb dX1_isAhead_24 (by decide) ?_
      exact ru_zret hx hb hr hlocks (by first | exact absurd c_4 c_2 | simp [md_ah, md_low, b2i, c_1, c_9]) rfl dX1_isAhead_25
    · refine lv_iconst (v := 1) hx hb dX1_isAhead_20 (by decide) ?_
      refine lv_goto (tgt := 25) hx hb dX1_isAhead_21 (by decide) ?_
      exact ru_zret hx hb hr hlocks (by first | exact absurd c_4 c_2 | simp [md_ah, md_low, b2i, c_1, c_9]) rfl dX1_isAhead_25
set_option maxHeartbeats 4000000 in
set_option maxRecDepth 100000 in
theorem c_X1_countAhead (l : Launch) (dC : Nat → ClassId) (dI : Nat → Nat → Nat) {x a1 a2 a3 a4 a5 : Nat} {k1 k2 k3 k4 k5 : ClassId} {f : Nat → Int32} {u w : Nat → Int64} {g n : Nat → Int32} {k : Nat} {mf : Int32} {mu ml : Int64} (fa : Int32) (up lo : Int64) (le : Int32) (Hh : Heap) (hk : k ≤ 1000) (hP : va_P (dC, dI) classes (mdw x a1 a2 a3 a4 a5 k1 k2 k3 k4 k5 f u w g n k mf mu ml) Hh) : Met l yX1_countAhead (ww yX1_countAhead cX1_countAhead 9 (some .int)) ({ frames := 2, cells := 0, slots := 0, locals := 56 } : Room) (va_Pc [.ref x, .int fa, .long up, .long lo, .int le] (fun U => U.heap = Hh ∧ va_K (dC, dI) classes (mdt k1 k2 k3 k4 k5) U)) (va_Qi (fun r (_ : Unit) => r = (nI (kb_cv (md_ah f u w g fa up lo le) k))) (fun _ t => t.heap = Hh) (fun _ => False)) 0 0 (fun _ => False) := by
  refine Met.ofW (cc := cX1_countAhead) (maxL := 9) (ret := (some .int)) (by decide) rfl ?_
  intro p e s m args below meth c s₁ B hml hv
  obtain ⟨rfl, hHh, hK⟩ := hv
  subst hHh
  have hx := B.exec
  have hb := B.bytes
  have hr := B.returns
  have hts := atoms_spec (ws := ww yX1_countAhead cX1_countAhead 9 (some .int)) B.pre
  have htl : ∀ w ∈ ltg, w.before [.ref x, .int fa, .long up, .long lo, .int le].toArray s = true := fun w h => hts w (List.mem_cons_of_mem _ h)
  have hown : s.vm.findClass RX1 = some m.cls := findClass_of_methodNamed B.named
  have hlocks := B.notSynchronized
  have hl := lv_entry ([.ref x, .int fa, .long up, .long lo, .int le]) (n := 9) (Nat.le_of_ble_eq_true rfl)
  rw [lg_entry_eq]
  generalize (lg_sl ([.ref x, .int fa, .long up, .long lo, .int le]) ++ List.replicate (9 - (lg_sl ([.ref x, .int fa, .long up, .long lo, .int le])).length) Slot.unset).toArray = ls at hl ⊢
  have hl : lv_has ls 9 [(0, .ref x), (1, .int fa), (2, .long up), (4, .long lo), (6, .int le)] := hl
  have loop : ∀  (d i : Nat) (z : Nat), i ≤ k → k + 1 ≤ i + d → z = kb_cv (md_ah f u w g fa up lo le) i → ∀ (ls : Array Slot), lv_has ls 9 [(0, .ref x), (1, .int fa), (2, .long up), (4, .long lo), (6, .int le), (7, .int (nI z)), (8, .int (nI i))] → W p l e ({ frames := 2, cells := 0, slots := 0, locals := 56 } : Room) s m ([.ref x, .int fa, .long up, .long lo, .int le] : List Value).toArray below meth c s.heap [] 0 0 (MQ below (va_Qi (fun r (_ : Unit) => r = (nI (kb_cv (md_ah f u w g fa up lo le) k))) (fun _ t => t.heap = s.heap) (fun _ => False)) [.ref x, .int fa, .long up, .long lo, .int le].toArray s 0 0 (fun _ => False)) (F0 m 6 ls []) := by
    intro d
    induction d with
    | zero => intro i z hi hd; exact absurd hd (by omega)
    | succ d ih =>
      intro i z hi hd hinv ls hl
      refine lv_iload hx hb dX1_countAhead_6 (lv_at hl 6 rfl) ?_
      refine lv_aload_n hx hb dX1_countAhead_8 rfl (lv_at hl 0 rfl) ?_
      refine va_get (D := (dC, dI)) (ci := 1) (v := .int (nI k)) (C := RX1) (T := TX1) (N := 9) hx hb htl inX1 hown hK hP 0 rfl rfl 5 (by decide) (htl _ flX1_47) (fun _ h9 => h9) rfl dX1_countAhead_9 ?_
      refine lv_icmp_ge (tgt := 46) hx hb dX1_countAhead_12 (by decide) (fun c_1 => ?_) (fun c_1 => ?_)
      · rw [nI_leI (by omega) (by omega)] at c_1
        refine lv_iload hx hb dX1_countAhead_46 (lv_at hl 5 rfl) ?_
        exact ru_iret hx hb hr hlocks (by rw [hinv, Nat.le_antisymm hi c_1]) dX1_countAhead_48
      · rw [nI_leI (by omega) (by omega), Nat.not_le] at c_1
        refine lv_iload hx hb dX1_countAhead_15 (lv_at hl 5 rfl) ?_
        refine lv_aload_n hx hb dX1_countAhead_17 rfl (lv_at hl 0 rfl) ?_
        refine lv_iload hx hb dX1_countAhead_18 (lv_at hl 6 rfl) ?_
        refine lv_iload_n hx hb dX1_countAhead_20 rfl (lv_at hl 1 rfl) ?_
        refine lv_lload_n hx hb dX1_countAhead_21 rfl (lv_at hl 2 rfl) ?_
        refine lv_lload hx hb dX1_countAhead_22 (lv_at hl 3 rfl) ?_
        refine lv_iload hx hb dX1_countAhead_24 (lv_at hl 4 rfl) ?_
        refine ru_calli (va_runV (As := [.int (nI i), .int fa, .long up, .long lo, .int le]) (rest := [.int (nI z)]) ⟨hx, hb, hml, hown, htl⟩ (c_X1_isAhead l dC dI i fa up lo le _ (by omega) hP) (cwV 5 htl gX1_67 rfl rfl rfl hd_X1_isAhead ⟨Nat.le_of_ble_eq_true rfl, Nat.le_of_ble_eq_true rfl⟩) ⟨fb_ro, va_recv hK hP (ci := 1) (q0 := 0) rfl rfl, fun U hU hW => ⟨rfl, hU, va_K.moved hW.alike hK⟩⟩ rfl rfl hl.1 rfl (lv_room (Nat.le_of_ble_eq_true rfl)) dX1_countAhead_26 ⟨Nat.le_of_ble_eq_true rfl, Nat.le_of_ble_eq_true rfl⟩) ?_
        refine lv_if_eq (tgt := 36) hx hb dX1_countAhead_29 (by decide) (fun c_2 => ?_) (fun c_2 => ?_)
        · rw [b2i_0] at c_2
          refine lv_iconst (v := 0) hx hb dX1_countAhead_36 (by decide) ?_
          refine lv_iadd hx hb dX1_countAhead_37 ?_
          refine tp_i (Int32.add_zero _) ?_
          refine lv_istore (lv' := [(7, .int (nI z)), (0, .ref x), (1, .int fa), (2, .long up), (4, .long lo), (6, .int le), (8, .int (nI i))]) hx hb dX1_countAhead_38 hl (by decide) rfl (fun ls hl => ?_)
          refine lv_iinc (v := nI (i + 1)) (lv' := [(8, .int (nI (i + 1))), (7, .int (nI z)), (0, .ref x), (1, .int fa), (2, .long up), (4, .long lo), (6, .int le)]) hx hb dX1_countAhead_40 hl (k := 6) rfl (by first | rfl | exact nI_1 _) (by decide) rfl (fun ls hl => ?_)
          refine lv_goto (tgt := 6) hx hb dX1_countAhead_43 (by decide) ?_
          exact ih (i + 1) z c_1 (by omega) (by subst hinv; simp [kb_cv, c_2]) ls (lv_sub hl [2, 3, 4, 5, 6, 1, 0] rfl)
        · rw [b2i_0, Bool.not_eq_false] at c_2
          refine lv_iconst (v := 1) hx hb dX1_countAhead_32 (by decide) ?_
          refine lv_goto (tgt := 37) hx hb dX1_countAhead_33 (by decide) ?_
          refine lv_iadd hx hb dX1_countAhead_37 ?_
          refine tp_i (nI_1 z) ?_
          refine lv_istore (lv' := [(7, .int (nI (z + 1))), (0, .ref x), (1, .int fa), (2, .long up), (4, .long lo), (6, .int le), (8, .int (nI i))]) hx hb dX1_countAhead_38 hl (by decide) rfl (fun ls hl => ?_)
          refine lv_iinc (v := nI (i + 1)) (lv' := [(8, .int (nI (i + 1))), (7, .int (nI (z + 1))), (0, .ref x), (1, .int fa), (2, .long up), (4, .long lo), (6, .int le)]) hx hb dX1_countAhead_40 hl (k := 6) rfl (by first | rfl | exact nI_1 _) (by decide) rfl (fun ls hl => ?_)
          refine lv_goto (tgt := 6) hx hb dX1_countAhead_43 (by decide) ?_
          exact ih (i + 1) (z + 1) c_1 (by omega) (by subst hinv; simp [kb_cv, c_2]) ls (lv_sub hl [2, 3, 4, 5, 6, 1, 0] rfl)
  refine lv_iconst (v := nI 0) hx hb dX1_countAhead_0 (by decide) ?_
  refine lv_istore (lv' := [(7, .int (nI 0)), (0, .ref x), (1, .int fa), (2, .long up), (4, .long lo), (6, .int le)]) hx hb dX1_countAhead_1 hl (by decide) rfl (fun ls hl => ?_)
  refine lv_iconst (v := nI 0) hx hb dX1_countAhead_3 (by decide) ?_
  refine lv_istore (lv' := [(8, .int (nI 0)), (7, .int (nI 0)), (0, .ref x), (1, .int fa), (2, .long up), (4, .long lo), (6, .int le)]) hx hb dX1_countAhead_4 hl (by decide) rfl (fun ls hl => ?_)
  exact loop (k + 1) 0 0 (Nat.zero_le k) (by omega) rfl ls (lv_sub hl [2, 3, 4, 5, 6, 1, 0] rfl)
end
section
set_option maxHeartbeats 4000000 in
set_option maxRecDepth 100000 in
theorem c_X1_put (l : Launch) (dC : Nat → ClassId) (dI : Nat → Nat → Nat) {x a1 a2 a3 a4 a5 : Nat} {k1 k2 k3 k4 k5 : ClassId} {f : Nat → Int32} {u w : Nat → Int64} {g n : Nat → Int32} {k : Nat} {mf : Int32} {mu ml : Int64} (le nu : Int32) (A : Nat → Prop) (hk : k ≤ 1000) (hD : va_D A (mdw x a1 a2 a3 a4 a5 k1 k2 k3 k4 k5 f u w g n k mf mu ml)) : Met l yX1_put (ww yX1_put cX1_put 4 (some .int)) ({ frames := 2, cells := 0, slots := 0, locals := 49 } : Room) (va_Pc [.ref x, .int le, .int nu] (fun U => va_P (dC, dI) classes (mdw x a1 a2 a3 a4 a5 k1 k2 k3 k4 k5 f u w g n k mf mu ml) U.heap ∧ va_K (dC, dI) classes (mdt k1 k2 k3 k4 k5) U)) (va_Qi (fun r (_ : Unit) => r = (if md_pre mf mu ml le = true then (if kb_fst (md_ne f u w g mf mu ml le) k 0 < k then (0 : Int32) else if k = 1000 then (-1) else 1) else (-1))) (fun _ t => va_P (dC, dI) classes (if md_pre mf mu ml le = true then (if kb_fst (md_ne f u w g mf mu ml le) k 0 < k then (mdw x a1 a2 a3 a4 a5 k1 k2 k3 k4 k5 f u w g (upd n (kb_fst (md_ne f u w g mf mu ml le) k 0) nu) k mf mu ml) else if k = 1000 then (mdw x a1 a2 a3 a4 a5 k1 k2 k3 k4 k5 f u w g n k mf mu ml) else (mdw x a1 a2 a3 a4 a5 k1 k2 k3 k4 k5 (upd f k mf) (vp_updL u k mu) (vp_updL w k ml) (upd g k le) (upd n k nu) (k + 1) mf mu ml)) else (mdw x a1 a2 a3 a4 a5 k1 k2 k3 k4 k5 f u w g n k mf mu ml)) t.heap) A) 0 0 A := by
  refine Met.ofW (cc := cX1_put) (maxL := 4) (ret := (some .int)) (by decide) rfl ?_
  intro p e s m args below meth c s₁ B hml hv
  obtain ⟨rfl, hP, hK⟩ := hv
  have hS : va_S A s.heap s.heap [] := va_S.rf
  have hx := B.exec
  have hb := B.bytes
  have hr := B.returns
  have hts := atoms_spec (ws := ww yX1_put cX1_put 4 (some .int)) B.pre
  have htl : ∀ w ∈ ltg, w.before [.ref x, .int le, .int nu].toArray s = true := fun w h => hts w (List.mem_cons_of_mem _ h)
  have hown : s.vm.findClass RX1 = some m.cls := findClass_of_methodNamed B.named
  have hlocks := B.notSynchronized
  have hl := lv_entry ([.ref x, .int le, .int nu]) (n := 4) (Nat.le_of_ble_eq_true rfl)
  rw [lg_entry_eq]
  generalize (lg_sl ([.ref x, .int le, .int nu]) ++ List.replicate (4 - (lg_sl ([.ref x, .int le, .int nu])).length) Slot.unset).toArray = ls at hl ⊢
  have hl : lv_has ls 4 [(0, .ref x), (1, .int le), (2, .int nu)] := hl
  refine lv_aload_n hx hb dX1_put_0 rfl (lv_at hl 0 rfl) ?_
  refine lv_iload_n hx hb dX1_put_1 rfl (lv_at hl 1 rfl) ?_
  refine ru_calli (va_runV (As := [.int le]) (rest := []) ⟨hx, hb, hml, hown, htl⟩ (c_X1_isPrefix l dC dI le _ hP) (cwV 1 htl gX1_50 rfl rfl rfl hd_X1_isPrefix ⟨Nat.le_of_ble_eq_true rfl, Nat.le_of_ble_eq_true rfl⟩) ⟨fb_ro, va_recv hK hP (ci := 1) (q0 := 0) rfl rfl, fun U hU hW => ⟨rfl, hU, va_K.moved hW.alike hK⟩⟩ rfl rfl hl.1 rfl (lv_room (Nat.le_of_ble_eq_true rfl)) dX1_put_2 ⟨Nat.le_of_ble_eq_true rfl, Nat.le_of_ble_eq_true rfl⟩) ?_
  refine lv_if_ne (tgt := 10) hx hb dX1_put_5 (by decide) (fun c_1 => ?_) (fun c_1 => ?_)
  · rw [b2i_0, Bool.not_eq_false] at c_1
    refine lv_aload_n hx hb dX1_put_10 rfl (lv_at hl 0 rfl) ?_
    refine lv_iload_n hx hb dX1_put_11 rfl (lv_at hl 1 rfl) ?_
    refine ru_calli (va_runV (As := [.int le]) (rest := []) ⟨hx, hb, hml, hown, htl⟩ (c_X1_find l dC dI le _ hk hP) (cwV 1 htl gX1_53 rfl rfl rfl hd_X1_find ⟨Nat.le_of_ble_eq_true rfl, Nat.le_of_ble_eq_true rfl⟩) ⟨fb_ro, va_recv hK hP (ci := 1) (q0 := 0) rfl rfl, fun U hU hW => ⟨rfl, hU, va_K.moved hW.alike hK⟩⟩ rfl rfl hl.1 rfl (lv_room (Nat.le_of_ble_eq_true rfl)) dX1_put_12 ⟨Nat.le_of_ble_eq_true rfl, Nat.le_of_ble_eq_true rfl⟩) ?_
    by_cases hfk : kb_fst (md_ne f u w g mf mu ml le) k 0 < k
    · refine tp_i (if_pos hfk) ?_
      refine lv_istore_n (lv' := [(3, .int (nI (kb_fst (md_ne f u w g mf mu ml le) k 0))), (0, .ref x), (1, .int le), (2, .int nu)]) hx hb dX1_put_15 rfl hl (by decide) rfl (fun ls hl => ?_)
      refine lv_iload_n hx hb dX1_put_16 rfl (lv_at hl 0 rfl) ?_
      refine lv_iconst (v := (-1)) hx hb dX1_put_17 (by decide) ?_
      refine lv_icmp_eq (tgt := 30) hx hb dX1_put_18 (by decide) (fun c_2 => ?_) (fun c_2 => ?_)
      · exact absurd c_2 (nI_nm1 (by omega))
      · refine lv_aload_n hx hb dX1_put_21 rfl (lv_at hl 1 rfl) ?_
        refine va_get (D := (dC, dI)) (ci := 1) (v := .ref a3) (C := RX1) (T := TX1) (N := 9) hx hb htl inX1 hown hK hP 0 rfl rfl 2 (by decide) (htl _ flX1_16) (fun _ h9 => h9) rfl dX1_put_22 ?_
        refine lv_iload_n hx hb dX1_put_25 rfl (lv_at hl 0 rfl) ?_
        refine lv_iload_n hx hb dX1_put_26 rfl (lv_at hl 3 rfl) ?_
        refine st_i hx hb hK hP hD hS 3 2 rfl rfl (j := (kb_fst (md_ne f u w g mf mu ml le) k 0)) (by omega) (Nat.le_of_ble_eq_true rfl) dX1_put_27 (fun H_3 locs hP hD hS => ?_)
        have hP : va_P (dC, dI) classes [(x, .inr (1, [.ref a1, .ref a2, .ref a3, .ref a4, .ref a5, .int (nI k), .int mf, .long mu, .long ml])), (a1, .inl (k1, 1000, .inl f)), (a2, .inl (k2, 1000, .inl g)), (a3, .inl (k3, 1000, .inl (upd n (kb_fst (md_ne f u w g mf mu ml le) k 0) nu))), (a4, .inl (k4, 1000, .inr (.inl u))), (a5, .inl (k5, 1000, .inr (.inl w)))] H_3 := hP
        have hD : va_D A [(x, .inr (1, [.ref a1, .ref a2, .ref a3, .ref a4, .ref a5, .int (nI k), .int mf, .long mu, .long ml])), (a1, .inl (k1, 1000, .inl f)), (a2, .inl (k2, 1000, .inl g)), (a3, .inl (k3, 1000, .inl (upd n (kb_fst (md_ne f u w g mf mu ml le) k 0) nu))), (a4, .inl (k4, 1000, .inr (.inl u))), (a5, .inl (k5, 1000, .inr (.inl w)))] := hD
        refine lv_iconst (v := 0) hx hb dX1_put_28 (by decide) ?_
        exact mu_iret hx hb hr hlocks hS hP (by simp only [c_1, hfk, if_true, if_false, Bool.false_eq_true, reduceIte]) (by simp only [c_1, hfk, if_true, if_false, Bool.false_eq_true, reduceIte]) dX1_put_29
    · refine tp_i (if_neg hfk) ?_
      refine lv_istore_n (lv' := [(3, .int (-1)), (0, .ref x), (1, .int le), (2, .int nu)]) hx hb dX1_put_15 rfl hl (by decide) rfl (fun ls hl => ?_)
      refine lv_iload_n hx hb dX1_put_16 rfl (lv_at hl 0 rfl) ?_
      refine lv_iconst (v := (-1)) hx hb dX1_put_17 (by decide) ?_
      refine lv_icmp_eq (tgt := 30) hx hb dX1_put_18 (by decide) (fun c_4 => ?_) (fun c_4 => ?_)
      · refine lv_aload_n hx hb dX1_put_30 rfl (lv_at hl 1 rfl) ?_
        refine va_get (D := (dC, dI)) (ci := 1) (v := .int (nI k)) (C := RX1) (T := TX1) (N := 9) hx hb htl inX1 hown hK hP 0 rfl rfl 5 (by decide) (htl _ flX1_47) (fun _ h9 => h9) rfl dX1_put_31 ?_
        refine lv_sipush (v := nI 1000) hx hb dX1_put_34 (by decide) ?_
        refine lv_icmp_ne (tgt := 42) hx hb dX1_put_37 (by decide) (fun c_5 => ?_) (fun c_5 => ?_)
        · rw [nI_eq (by omega) (by omega)] at c_5
          refine lv_aload_n hx hb dX1_put_42 rfl (lv_at hl 1 rfl) ?_
          refine va_get (D := (dC, dI)) (ci := 1) (v := .ref a1) (C := RX1) (T := TX1) (N := 9) hx hb htl inX1 hown hK hP 0 rfl rfl 0 (by decide) (htl _ flX1_7) (fun _ h9 => h9) rfl dX1_put_43 ?_
          refine lv_aload_n hx hb dX1_put_46 rfl (lv_at hl 1 rfl) ?_
          refine va_get (D := (dC, dI)) (ci := 1) (v := .int (nI k)) (C := RX1) (T := TX1) (N := 9) hx hb htl inX1 hown hK hP 0 rfl rfl 5 (by decide) (htl _ flX1_47) (fun _ h9 => h9) rfl dX1_put_47 ?_
          refine lv_aload_n hx hb dX1_put_50 rfl (lv_at hl 1 rfl) ?_
          refine va_get (D := (dC, dI)) (ci := 1) (v := .int mf) (C := RX1) (T := TX1) (N := 9) hx hb htl inX1 hown hK hP 0 rfl rfl 6 (by decide) (htl _ flX1_26) (fun _ h9 => h9) rfl dX1_put_51 ?_
          refine st_i hx hb hK hP hD hS 1 0 rfl rfl (j := k) (by omega) (Nat.le_of_ble_eq_true rfl) dX1_put_54 (fun H_6 locs hP hD hS => ?_)
          have hP : va_P (dC, dI) classes [(x, .inr (1, [.ref a1, .ref a2, .ref a3, .ref a4, .ref a5, .int (nI k), .int mf, .long mu, .long ml])), (a1, .inl (k1, 1000, .inl (upd f k mf))), (a2, .inl (k2, 1000, .inl g)), (a3, .inl (k3, 1000, .inl n)), (a4, .inl (k4, 1000, .inr (.inl u))), (a5, .inl (k5, 1000, .inr (.inl w)))] H_6 := hP
          have hD : va_D A [(x, .inr (1, [.ref a1, .ref a2, .ref a3, .ref a4, .ref a5, .int (nI k), .int mf, .long mu, .long ml])), (a1, .inl (k1, 1000, .inl (upd f k mf))), (a2, .inl (k2, 1000, .inl g)), (a3, .inl (k3, 1000, .inl n)), (a4, .inl (k4, 1000, .inr (.inl u))), (a5, .inl (k5, 1000, .inr (.inl w)))] := hD
          refine lv_aload_n hx hb dX1_put_55 rfl (lv_at hl 1 rfl) ?_
          refine va_get (D := (dC, dI)) (ci := 1) (v := .ref a4) (C := RX1) (T := TX1) (N := 9) hx hb htl inX1 hown hK hP 0 rfl rfl 3 (by decide) (htl _ flX1_19) (fun _ h9 => h9) rfl dX1_put_56 ?_
          refine lv_aload_n hx hb dX1_put_59 rfl (lv_at hl 1 rfl) ?_
          refine va_get (D := (dC, dI)) (ci := 1) (v := .int (nI k)) (C := RX1) (T := TX1) (N := 9) hx hb htl inX1 hown hK hP 0 rfl rfl 5 (by decide) (htl _ flX1_47) (fun _ h9 => h9) rfl dX1_put_60 ?_
          refine lv_aload_n hx hb dX1_put_63 rfl (lv_at hl 1 rfl) ?_
          refine va_get (D := (dC, dI)) (ci := 1) (v := .long mu) (C := RX1) (T := TX1) (N := 9) hx hb htl inX1 hown hK hP 0 rfl rfl 7 (by decide) (htl _ flX1_32) (fun _ h9 => h9) rfl dX1_put_64 ?_
          refine st_l hx hb hK hP hD hS 4 3 rfl rfl (j := k) (by omega) (Nat.le_of_ble_eq_true rfl) dX1_put_67 (fun H_7 locs hP hD hS => ?_)
          have hP : va_P (dC, dI) classes [(x, .inr (1, [.ref a1, .ref a2, .ref a3, .ref a4, .ref a5, .int (nI k), .int mf, .long mu, .long ml])), (a1, .inl (k1, 1000, .inl (upd f k mf))), (a2, .inl (k2, 1000, .inl g)), (a3, .inl (k3, 1000, .inl n)), (a4, .inl (k4, 1000, .inr (.inl (vp_updL u k mu)))), (a5, .inl (k5, 1000, .inr (.inl w)))] H_7 := hP
          have hD : va_D A [(x, .inr (1, [.ref a1, .ref a2, .ref a3, .ref a4, .ref a5, .int (nI k), .int mf, .long mu, .long ml])), (a1, .inl (k1, 1000, .inl (upd f k mf))), (a2, .inl (k2, 1000, .inl g)), (a3, .inl (k3, 1000, .inl n)), (a4, .inl (k4, 1000, .inr (.inl (vp_updL u k mu)))), (a5, .inl (k5, 1000, .inr (.inl w)))] := hD
          refine lv_aload_n hx hb dX1_put_68 rfl (lv_at hl 1 rfl) ?_
          refine va_get (D := (dC, dI)) (ci := 1) (v := .ref a5) (C := RX1) (T := TX1) (N := 9) hx hb htl inX1 hown hK hP 0 rfl rfl 4 (by decide) (htl _ flX1_23) (fun _ h9 => h9) rfl dX1_put_69 ?_
          refine lv_aload_n hx hb dX1_put_72 rfl (lv_at hl 1 rfl) ?_
          refine va_get (D := (dC, dI)) (ci := 1) (v := .int (nI k)) (C := RX1) (T := TX1) (N := 9) hx hb htl inX1 hown hK hP 0 rfl rfl 5 (by decide) (htl _ flX1_47) (fun _ h9 => h9) rfl dX1_put_73 ?_
          refine lv_aload_n hx hb dX1_put_76 rfl (lv_at hl 1 rfl) ?_
          refine va_get (D := (dC, dI)) (ci := 1) (v := .long ml) (C := RX1) (T := TX1) (N := 9) hx hb htl inX1 hown hK hP 0 rfl rfl 8 (by decide) (htl _ flX1_36) (fun _ h9 => h9) rfl dX1_put_77 ?_
          refine st_l hx hb hK hP hD hS 5 4 rfl rfl (j := k) (by omega) (Nat.le_of_ble_eq_true rfl) dX1_put_80 (fun H_8 locs hP hD hS => ?_)
          have hP : va_P (dC, dI) classes [(x, .inr (1, [.ref a1, .ref a2, .ref a3, .ref a4, .ref a5, .int (nI k), .int mf, .long mu, .long ml])), (a1, .inl (k1, 1000, .inl (upd f k mf))), (a2, .inl (k2, 1000, .inl g)), (a3, .inl (k3, 1000, .inl n)), (a4, .inl (k4, 1000, .inr (.inl (vp_updL u k mu)))), (a5, .inl (k5, 1000, .inr (.inl (vp_updL w k ml))))] H_8 := hP
          have hD : va_D A [(x, .inr (1, [.ref a1, .ref a2, .ref a3, .ref a4, .ref a5, .int (nI k), .int mf, .long mu, .long ml])), (a1, .inl (k1, 1000, .inl (upd f k mf))), (a2, .inl (k2, 1000, .inl g)), (a3, .inl (k3, 1000, .inl n)), (a4, .inl (k4, 1000, .inr (.inl (vp_updL u k mu)))), (a5, .inl (k5, 1000, .inr (.inl (vp_updL w k ml))))] := hD
          refine lv_aload_n hx hb dX1_put_81 rfl (lv_at hl 1 rfl) ?_
          refine va_get (D := (dC, dI)) (ci := 1) (v := .ref a2) (C := RX1) (T := TX1) (N := 9) hx hb htl inX1 hown hK hP 0 rfl rfl 1 (by decide) (htl _ flX1_13) (fun _ h9 => h9) rfl dX1_put_82 ?_
          refine lv_aload_n hx hb dX1_put_85 rfl (lv_at hl 1 rfl) ?_
          refine va_get (D := (dC, dI)) (ci := 1) (v := .int (nI k)) (C := RX1) (T := TX1) (N := 9) hx hb htl inX1 hown hK hP 0 rfl rfl 5 (by decide) (htl _ flX1_47) (fun _ h9 => h9) rfl dX1_put_86 ?_
          refine lv_iload_n hx hb dX1_put_89 rfl (lv_at hl 2 rfl) ?_
          refine st_i hx hb hK hP hD hS 2 1 rfl rfl (j := k) (by omega) (Nat.le_of_ble_eq_true rfl) dX1_put_90 (fun H_9 locs hP hD hS => ?_)
          have hP : va_P (dC, dI) classes [(x, .inr (1, [.ref a1, .ref a2, .ref a3, .ref a4, .ref a5, .int (nI k), .int mf, .long mu, .long ml])), (a1, .inl (k1, 1000, .inl (upd f k mf))), (a2, .inl (k2, 1000, .inl (upd g k le))), (a3, .inl (k3, 1000, .inl n)), (a4, .inl (k4, 1000, .inr (.inl (vp_updL u k mu)))), (a5, .inl (k5, 1000, .inr (.inl (vp_updL w k ml))))] H_9 := hP
          have hD : va_D A [(x, .inr (1, [.ref a1, .ref a2, .ref a3, .ref a4, .ref a5, .int (nI k), .int mf, .long mu, .long ml])), (a1, .inl (k1, 1000, .inl (upd f k mf))), (a2, .inl (k2, 1000, .inl (upd g k le))), (a3, .inl (k3, 1000, .inl n)), (a4, .inl (k4, 1000, .inr (.inl (vp_updL u k mu)))), (a5, .inl (k5, 1000, .inr (.inl (vp_updL w k ml))))] := hD
          refine lv_aload_n hx hb dX1_put_91 rfl (lv_at hl 1 rfl) ?_
          refine va_get (D := (dC, dI)) (ci := 1) (v := .ref a3) (C := RX1) (T := TX1) (N := 9) hx hb htl inX1 hown hK hP 0 rfl rfl 2 (by decide) (htl _ flX1_16) (fun _ h9 => h9) rfl dX1_put_92 ?_
          refine lv_aload_n hx hb dX1_put_95 rfl (lv_at hl 1 rfl) ?_
          refine va_get (D := (dC, dI)) (ci := 1) (v := .int (nI k)) (C := RX1) (T := TX1) (N := 9) hx hb htl inX1 hown hK hP 0 rfl rfl 5 (by decide) (htl _ flX1_47) (fun _ h9 => h9) rfl dX1_put_96 ?_
          refine lv_iload_n hx hb dX1_put_99 rfl (lv_at hl 3 rfl) ?_
          refine st_i hx hb hK hP hD hS 3 2 rfl rfl (j := k) (by omega) (Nat.le_of_ble_eq_true rfl) dX1_put_100 (fun H_10 locs hP hD hS => ?_)
          have hP : va_P (dC, dI) classes [(x, .inr (1, [.ref a1, .ref a2, .ref a3, .ref a4, .ref a5, .int (nI k), .int mf, .long mu, .long ml])), (a1, .inl (k1, 1000, .inl (upd f k mf))), (a2, .inl (k2, 1000, .inl (upd g k le))), (a3, .inl (k3, 1000, .inl (upd n k nu))), (a4, .inl (k4, 1000, .inr (.inl (vp_updL u k mu)))), (a5, .inl (k5, 1000, .inr (.inl (vp_updL w k ml))))] H_10 := hP
          have hD : va_D A [(x, .inr (1, [.ref a1, .ref a2, .ref a3, .ref a4, .ref a5, .int (nI k), .int mf, .long mu, .long ml])), (a1, .inl (k1, 1000, .inl (upd f k mf))), (a2, .inl (k2, 1000, .inl (upd g k le))), (a3, .inl (k3, 1000, .inl (upd n k nu))), (a4, .inl (k4, 1000, .inr (.inl (vp_updL u k mu)))), (a5, .inl (k5, 1000, .inr (.inl (vp_updL w k ml))))] := hD
          refine lv_aload_n hx hb dX1_put_101 rfl (lv_at hl 1 rfl) ?_
          refine lv_dup hx hb dX1_put_102 rfl ?_
          refine va_get (D := (dC, dI)) (ci := 1) (v := .int (nI k)) (C := RX1) (T := TX1) (N := 9) hx hb htl inX1 hown hK hP 0 rfl rfl 5 (by decide) (htl _ flX1_47) (fun _ h9 => h9) rfl dX1_put_103 ?_
          refine lv_iconst (v := 1) hx hb dX1_put_106 (by decide) ?_
          refine lv_iadd hx hb dX1_put_107 ?_
          refine tp_i (nI_1 k) ?_
          refine va_put (D := (dC, dI)) (ci := 1) (v := .int (nI (k + 1))) (ty := .int) (C := RX1) (T := TX1) (N := 9) hx hb htl inX1 tyX1 tyX1_ok nmX1 hown hK hP hD hS 0 rfl rfl 5 (by decide) (htl _ flX1_47) (fun _ h9 => h9) rfl (by decide +kernel) rfl rfl (Nat.le_of_ble_eq_true rfl) dX1_put_108 (fun H_11 locs hP hD hS => ?_)
          have hP : va_P (dC, dI) classes [(x, .inr (1, [.ref a1, .ref a2, .ref a3, .ref a4, .ref a5, .int (nI (k + 1)), .int mf, .long mu, .long ml])), (a1, .inl (k1, 1000, .inl (upd f k mf))), (a2, .inl (k2, 1000, .inl (upd g k le))), (a3, .inl (k3, 1000, .inl (upd n k nu))), (a4, .inl (k4, 1000, .inr (.inl (vp_updL u k mu)))), (a5, .inl (k5, 1000, .inr (.inl (vp_updL w k ml))))] H_11 := hP
          have hD : va_D A [(x, .inr (1, [.ref a1, .ref a2, .ref a3, .ref a4, .ref a5, .int (nI (k + 1)), .int mf, .long mu, .long ml])), (a1, .inl (k1, 1000, .inl (upd f k mf))), (a2, .inl (k2, 1000, .inl (upd g k le))), (a3, .inl (k3, 1000, .inl (upd n k nu))), (a4, .inl (k4, 1000, .inr (.inl (vp_updL u k mu)))), (a5, .inl (k5, 1000, .inr (.inl (vp_updL w k ml))))] := hD
          refine lv_iconst (v := 1) hx hb dX1_put_111 (by decide) ?_
          exact mu_iret hx hb hr hlocks hS hP (by simp only [c_1, hfk, c_5, if_true, if_false, Bool.false_eq_true, reduceIte]) (by simp only [c_1, hfk, c_5, if_true, if_false, Bool.false_eq_true, reduceIte]) dX1_put_112
        · rw [nI_eq (by omega) (by omega)] at c_5
          refine lv_iconst (v := (-1)) hx hb dX1_put_40 (by decide) ?_
          exact mu_iret hx hb hr hlocks hS hP (by rw [if_pos c_1, if_neg hfk, if_pos c_5]) (by rw [if_pos c_1, if_neg hfk, if_pos c_5]) dX1_put_41
      · exact absurd c_4 (by decide)
  · rw [b2i_0] at c_1
    refine lv_iconst (v := (-1)) hx hb dX1_put_8 (by decide) ?_
    exact mu_iret hx hb hr hlocks hS hP (by simp only [c_1, if_true, if_false, Bool.false_eq_true, reduceIte]) (by simp only [c_1, if_true, if_false, Bool.false_eq_true, reduceIte]) dX1_put_9
set_option maxHeartbeats 4000000 in
set_option maxRecDepth 100000 in
theorem c_X1_remove (l : Launch) (dC : Nat → ClassId) (dI : Nat → Nat → Nat) {x a1 a2 a3 a4 a5 : Nat} {k1 k2 k3 k4 k5 : ClassId} {f : Nat → Int32} {u w : Nat → Int64} {g n : Nat → Int32} {k : Nat} {mf : Int32} {mu ml : Int64} (le : Int32) (A : Nat → Prop) (hk : k ≤ 1000) (hD : va_D A (mdw x a1 a2 a3 a4 a5 k1 k2 k3 k4 k5 f u w g n k mf mu ml)) : Met l yX1_remove (ww yX1_remove cX1_remove 4 (some .int)) ({ frames := 2, cells := 0, slots := 0, locals := 49 } : Room) (va_Pc [.ref x, .int le] (fun U => va_P (dC, dI) classes (mdw x a1 a2 a3 a4 a5 k1 k2 k3 k4 k5 f u w g n k mf mu ml) U.heap ∧ va_K (dC, dI) classes (mdt k1 k2 k3 k4 k5) U)) (va_Qi (fun r (_ : Unit) => r = (if md_pre mf mu ml le = true then (if kb_fst (md_ne f u w g mf mu ml le) k 0 < k then (1 : Int32) else 0) else (-1))) (fun _ t => va_P (dC, dI) classes (if md_pre mf mu ml le = true then (if kb_fst (md_ne f u w g mf mu ml le) k 0 < k then (mdw x a1 a2 a3 a4 a5 k1 k2 k3 k4 k5 (kb_dn f (kb_fst (md_ne f u w g mf mu ml le) k 0) (k - 1)) (kb_dn u (kb_fst (md_ne f u w g mf mu ml le) k 0) (k - 1)) (kb_dn w (kb_fst (md_ne f u w g mf mu ml le) k 0) (k - 1)) (kb_dn g (kb_fst (md_ne f u w g mf mu ml le) k 0) (k - 1)) (kb_dn n (kb_fst (md_ne f u w g mf mu ml le) k 0) (k - 1)) (k - 1) mf mu ml) else (mdw x a1 a2 a3 a4 a5 k1 k2 k3 k4 k5 f u w g n k mf mu ml)) else (mdw x a1 a2 a3 a4 a5 k1 k2 k3 k4 k5 f u w g n k mf mu ml)) t.heap) A) 0 0 A := by
  refine Met.ofW (cc := cX1_remove) (maxL := 4) (ret := (some .int)) (by decide) rfl ?_
  intro p e s m args below meth c s₁ B hml hv
  obtain ⟨rfl, hP, hK⟩ := hv
  have hS : va_S A s.heap s.heap [] := va_S.rf
  have hx := B.exec
  have hb := B.bytes
  have hr := B.returns
  have hts := atoms_spec (ws := ww yX1_remove cX1_remove 4 (some .int)) B.pre
  have htl : ∀ w ∈ ltg, w.before [.ref x, .int le].toArray s = true := fun w h => hts w (List.mem_cons_of_mem _ h)
  have hown : s.vm.findClass RX1 = some m.cls := findClass_of_methodNamed B.named
  have hlocks := B.notSynchronized
  have hl := lv_entry ([.ref x, .int le]) (n := 4) (Nat.le_of_ble_eq_true rfl)
  rw [lg_entry_eq]
  generalize (lg_sl ([.ref x, .int le]) ++ List.replicate (4 - (lg_sl ([.ref x, .int le])).length) Slot.unset).toArray = ls at hl ⊢
  have hl : lv_has ls 4 [(0, .ref x), (1, .int le)] := hl
  have loop : ∀ (pl : Nat) (hpl : pl < k) (hplR : pl = kb_fst (md_ne f u w g mf mu ml le) k 0) (hmp : md_pre mf mu ml le = true) (d t : Nat), pl ≤ t → t ≤ k - 1 → k ≤ t + d → ∀ (H : Heap) (locs : List Loc), va_P (dC, dI) classes (mdw x a1 a2 a3 a4 a5 k1 k2 k3 k4 k5 (kb_dn f pl t) (kb_dn u pl t) (kb_dn w pl t) (kb_dn g pl t) (kb_dn n pl t) (k - 1) mf mu ml) H → va_S A s.heap H locs → ∀ (ls : Array Slot), lv_has ls 4 [(0, .ref x), (1, .int le), (2, .int (nI pl)), (3, .int (nI t))] → W p l e ({ frames := 2, cells := 0, slots := 0, locals := 49 } : Room) s m ([.ref x, .int le] : List Value).toArray below meth c H locs 0 0 (MQ below (va_Qi (fun r (_ : Unit) => r = (if md_pre mf mu ml le = true then (if kb_fst (md_ne f u w g mf mu ml le) k 0 < k then (1 : Int32) else 0) else (-1))) (fun _ t => va_P (dC, dI) classes (if md_pre mf mu ml le = true then (if kb_fst (md_ne f u w g mf mu ml le) k 0 < k then (mdw x a1 a2 a3 a4 a5 k1 k2 k3 k4 k5 (kb_dn f (kb_fst (md_ne f u w g mf mu ml le) k 0) (k - 1)) (kb_dn u (kb_fst (md_ne f u w g mf mu ml le) k 0) (k - 1)) (kb_dn w (kb_fst (md_ne f u w g mf mu ml le) k 0) (k - 1)) (kb_dn g (kb_fst (md_ne f u w g mf mu ml le) k 0) (k - 1)) (kb_dn n (kb_fst (md_ne f u w g mf mu ml le) k 0) (k - 1)) (k - 1) mf mu ml) else (mdw x a1 a2 a3 a4 a5 k1 k2 k3 k4 k5 f u w g n k mf mu ml)) else (mdw x a1 a2 a3 a4 a5 k1 k2 k3 k4 k5 f u w g n k mf mu ml)) t.heap) A) [.ref x, .int le].toArray s 0 0 A) (F0 m 35 ls []) := by
    intro pl hpl hplR hmp d
    induction d with
    | zero => intro t h1 h2 h3; exact absurd h3 (by omega)
    | succ d ih =>
      intro t h1 h2 h3 H locs hP hS ls hl
      have hP : va_P (dC, dI) classes [(x, .inr (1, [.ref a1, .ref a2, .ref a3, .ref a4, .ref a5, .int (nI (k - 1)), .int mf, .long mu, .long ml])), (a1, .inl (k1, 1000, .inl (kb_dn f pl t))), (a2, .inl (k2, 1000, .inl (kb_dn g pl t))), (a3, .inl (k3, 1000, .inl (kb_dn n pl t))), (a4, .inl (k4, 1000, .inr (.inl (kb_dn u pl t)))), (a5, .inl (k5, 1000, .inr (.inl (kb_dn w pl t))))] H := hP
      have hD : va_D A [(x, .inr (1, [.ref a1, .ref a2, .ref a3, .ref a4, .ref a5, .int (nI (k - 1)), .int mf, .long mu, .long ml])), (a1, .inl (k1, 1000, .inl (kb_dn f pl t))), (a2, .inl (k2, 1000, .inl (kb_dn g pl t))), (a3, .inl (k3, 1000, .inl (kb_dn n pl t))), (a4, .inl (k4, 1000, .inr (.inl (kb_dn u pl t)))), (a5, .inl (k5, 1000, .inr (.inl (kb_dn w pl t))))] := vd_same hD rfl
      refine lv_iload_n hx hb dX1_remove_35 rfl (lv_at hl 3 rfl) ?_
      refine lv_aload_n hx hb dX1_remove_36 rfl (lv_at hl 0 rfl) ?_
      refine va_get (D := (dC, dI)) (ci := 1) (v := .int (nI (k - 1))) (C := RX1) (T := TX1) (N := 9) hx hb htl inX1 hown hK hP 0 rfl rfl 5 (by decide) (htl _ flX1_47) (fun _ h9 => h9) rfl dX1_remove_37 ?_
      refine lv_icmp_ge (tgt := 119) hx hb dX1_remove_40 (by decide) (fun c_1 => ?_) (fun c_1 => ?_)
      · rw [nI_leI (by omega) (by omega)] at c_1
        obtain rfl : t = k - 1 := by omega
        refine lv_iconst (v := 1) hx hb dX1_remove_119 (by decide) ?_
        exact mu_iret hx hb hr hlocks hS hP (by rw [if_pos hmp, ← hplR, if_pos hpl]) (by rw [if_pos hmp, ← hplR, if_pos hpl]) dX1_remove_120
      · rw [nI_leI (by omega) (by omega), Nat.not_le] at c_1
        refine lv_aload_n hx hb dX1_remove_43 rfl (lv_at hl 0 rfl) ?_
        refine va_get (D := (dC, dI)) (ci := 1) (v := .ref a1) (C := RX1) (T := TX1) (N := 9) hx hb htl inX1 hown hK hP 0 rfl rfl 0 (by decide) (htl _ flX1_7) (fun _ h9 => h9) rfl dX1_remove_44 ?_
        refine lv_iload_n hx hb dX1_remove_47 rfl (lv_at hl 3 rfl) ?_
        refine lv_aload_n hx hb dX1_remove_48 rfl (lv_at hl 0 rfl) ?_
        refine va_get (D := (dC, dI)) (ci := 1) (v := .ref a1) (C := RX1) (T := TX1) (N := 9) hx hb htl inX1 hown hK hP 0 rfl rfl 0 (by decide) (htl _ flX1_7) (fun _ h9 => h9) rfl dX1_remove_49 ?_
        refine lv_iload_n hx hb dX1_remove_52 rfl (lv_at hl 3 rfl) ?_
        refine lv_iconst (v := 1) hx hb dX1_remove_53 (by decide) ?_
        refine lv_iadd hx hb dX1_remove_54 ?_
        refine tp_i (nI_1 t) ?_
        refine ld_i hx hb hK hP 1 0 rfl rfl (j := (t + 1)) (by omega) (Nat.le_of_ble_eq_true rfl) dX1_remove_55 ?_
        refine st_i hx hb hK hP hD hS 1 0 rfl rfl (j := t) (by omega) (Nat.le_of_ble_eq_true rfl) dX1_remove_56 (fun H_2 locs hP hD hS => ?_)
        have hP : va_P (dC, dI) classes [(x, .inr (1, [.ref a1, .ref a2, .ref a3, .ref a4, .ref a5, .int (nI (k - 1)), .int mf, .long mu, .long ml])), (a1, .inl (k1, 1000, .inl (upd (kb_dn f pl t) t ((kb_dn f pl t) (t + 1))))), (a2, .inl (k2, 1000, .inl (kb_dn g pl t))), (a3, .inl (k3, 1000, .inl (kb_dn n pl t))), (a4, .inl (k4, 1000, .inr (.inl (kb_dn u pl t)))), (a5, .inl (k5, 1000, .inr (.inl (kb_dn w pl t))))] H_2 := hP
        have hD : va_D A [(x, .inr (1, [.ref a1, .ref a2, .ref a3, .ref a4, .ref a5, .int (nI (k - 1)), .int mf, .long mu, .long ml])), (a1, .inl (k1, 1000, .inl (upd (kb_dn f pl t) t ((kb_dn f pl t) (t + 1))))), (a2, .inl (k2, 1000, .inl (kb_dn g pl t))), (a3, .inl (k3, 1000, .inl (kb_dn n pl t))), (a4, .inl (k4, 1000, .inr (.inl (kb_dn u pl t)))), (a5, .inl (k5, 1000, .inr (.inl (kb_dn w pl t))))] := hD
        refine lv_aload_n hx hb dX1_remove_57 rfl (lv_at hl 0 rfl) ?_
        refine va_get (D := (dC, dI)) (ci := 1) (v := .ref a4) (C := RX1) (T := TX1) (N := 9) hx hb htl inX1 hown hK hP 0 rfl rfl 3 (by decide) (htl _ flX1_19) (fun _ h9 => h9) rfl dX1_remove_58 ?_
        refine lv_iload_n hx hb dX1_remove_61 rfl (lv_at hl 3 rfl) ?_
        refine lv_aload_n hx hb dX1_remove_62 rfl (lv_at hl 0 rfl) ?_
        refine va_get (D := (dC, dI)) (ci := 1) (v := .ref a4) (C := RX1) (T := TX1) (N := 9) hx hb htl inX1 hown hK hP 0 rfl rfl 3 (by decide) (htl _ flX1_19) (fun _ h9 => h9) rfl dX1_remove_63 ?_
        refine lv_iload_n hx hb dX1_remove_66 rfl (lv_at hl 3 rfl) ?_
        refine lv_iconst (v := 1) hx hb dX1_remove_67 (by decide) ?_
        refine lv_iadd hx hb dX1_remove_68 ?_
        refine tp_i (nI_1 t) ?_
        refine ld_l hx hb hK hP 4 3 rfl rfl (j := (t + 1)) (by omega) (Nat.le_of_ble_eq_true rfl) dX1_remove_69 ?_
        refine st_l hx hb hK hP hD hS 4 3 rfl rfl (j := t) (by omega) (Nat.le_of_ble_eq_true rfl) dX1_remove_70 (fun H_3 locs hP hD hS => ?_)
        have hP : va_P (dC, dI) classes [(x, .inr (1, [.ref a1, .ref a2, .ref a3, .ref a4, .ref a5, .int (nI (k - 1)), .int mf, .long mu, .long ml])), (a1, .inl (k1, 1000, .inl (upd (kb_dn f pl t) t ((kb_dn f pl t) (t + 1))))), (a2, .inl (k2, 1000, .inl (kb_dn g pl t))), (a3, .inl (k3, 1000, .inl (kb_dn n pl t))), (a4, .inl (k4, 1000, .inr (.inl (vp_updL (kb_dn u pl t) t ((kb_dn u pl t) (t + 1)))))), (a5, .inl (k5, 1000, .inr (.inl (kb_dn w pl t))))] H_3 := hP
        have hD : va_D A [(x, .inr (1, [.ref a1, .ref a2, .ref a3, .ref a4, .ref a5, .int (nI (k - 1)), .int mf, .long mu, .long ml])), (a1, .inl (k1, 1000, .inl (upd (kb_dn f pl t) t ((kb_dn f pl t) (t + 1))))), (a2, .inl (k2, 1000, .inl (kb_dn g pl t))), (a3, .inl (k3, 1000, .inl (kb_dn n pl t))), (a4, .inl (k4, 1000, .inr (.inl (vp_updL (kb_dn u pl t) t ((kb_dn u pl t) (t + 1)))))), (a5, .inl (k5, 1000, .inr (.inl (kb_dn w pl t))))] := hD
        refine lv_aload_n hx hb dX1_remove_71 rfl (lv_at hl 0 rfl) ?_
        refine va_get (D := (dC, dI)) (ci := 1) (v := .ref a5) (C := RX1) (T := TX1) (N := 9) hx hb htl inX1 hown hK hP 0 rfl rfl 4 (by decide) (htl _ flX1_23) (fun _ h9 => h9) rfl dX1_remove_72 ?_
        refine lv_iload_n hx hb dX1_remove_75 rfl (lv_at hl 3 rfl) ?_
        refine lv_aload_n hx hb dX1_remove_76 rfl (lv_at hl 0 rfl) ?_
        refine va_get (D := (dC, dI)) (ci := 1) (v := .ref a5) (C := RX1) (T := TX1) (N := 9) hx hb htl inX1 hown hK hP 0 rfl rfl 4 (by decide) (htl _ flX1_23) (fun _ h9 => h9) rfl dX1_remove_77 ?_
        refine lv_iload_n hx hb dX1_remove_80 rfl (lv_at hl 3 rfl) ?_
        refine lv_iconst (v := 1) hx hb dX1_remove_81 (by decide) ?_
        refine lv_iadd hx hb dX1_remove_82 ?_
        refine tp_i (nI_1 t) ?_
        refine ld_l hx hb hK hP 5 4 rfl rfl (j := (t + 1)) (by omega) (Nat.le_of_ble_eq_true rfl) dX1_remove_83 ?_
        refine st_l hx hb hK hP hD hS 5 4 rfl rfl (j := t) (by omega) (Nat.le_of_ble_eq_true rfl) dX1_remove_84 (fun H_4 locs hP hD hS => ?_)
        have hP : va_P (dC, dI) classes [(x, .inr (1, [.ref a1, .ref a2, .ref a3, .ref a4, .ref a5, .int (nI (k - 1)), .int mf, .long mu, .long ml])), (a1, .inl (k1, 1000, .inl (upd (kb_dn f pl t) t ((kb_dn f pl t) (t + 1))))), (a2, .inl (k2, 1000, .inl (kb_dn g pl t))), (a3, .inl (k3, 1000, .inl (kb_dn n pl t))), (a4, .inl (k4, 1000, .inr (.inl (vp_updL (kb_dn u pl t) t ((kb_dn u pl t) (t + 1)))))), (a5, .inl (k5, 1000, .inr (.inl (vp_updL (kb_dn w pl t) t ((kb_dn w pl t) (t + 1))))))] H_4 := hP
        have hD : va_D A [(x, .inr (1, [.ref a1, .ref a2, .ref a3, .ref a4, .ref a5, .int (nI (k - 1)), .int mf, .long mu, .long ml])), (a1, .inl (k1, 1000, .inl (upd (kb_dn f pl t) t ((kb_dn f pl t) (t + 1))))), (a2, .inl (k2, 1000, .inl (kb_dn g pl t))), (a3, .inl (k3, 1000, .inl (kb_dn n pl t))), (a4, .inl (k4, 1000, .inr (.inl (vp_updL (kb_dn u pl t) t ((kb_dn u pl t) (t + 1)))))), (a5, .inl (k5, 1000, .inr (.inl (vp_updL (kb_dn w pl t) t ((kb_dn w pl t) (t + 1))))))] := hD
        refine lv_aload_n hx hb dX1_remove_85 rfl (lv_at hl 0 rfl) ?_
        refine va_get (D := (dC, dI)) (ci := 1) (v := .ref a2) (C := RX1) (T := TX1) (N := 9) hx hb htl inX1 hown hK hP 0 rfl rfl 1 (by decide) (htl _ flX1_13) (fun _ h9 => h9) rfl dX1_remove_86 ?_
        refine lv_iload_n hx hb dX1_remove_89 rfl (lv_at hl 3 rfl) ?_
        refine lv_aload_n hx hb dX1_remove_90 rfl (lv_at hl 0 rfl) ?_
        refine va_get (D := (dC, dI)) (ci := 1) (v := .ref a2) (C := RX1) (T := TX1) (N := 9) hx hb htl inX1 hown hK hP 0 rfl rfl 1 (by decide) (htl _ flX1_13) (fun _ h9 => h9) rfl dX1_remove_91 ?_
        refine lv_iload_n hx hb dX1_remove_94 rfl (lv_at hl 3 rfl) ?_
        refine lv_iconst (v := 1) hx hb dX1_remove_95 (by decide) ?_
        refine lv_iadd hx hb dX1_remove_96 ?_
        refine tp_i (nI_1 t) ?_
        refine ld_i hx hb hK hP 2 1 rfl rfl (j := (t + 1)) (by omega) (Nat.le_of_ble_eq_true rfl) dX1_remove_97 ?_
        refine st_i hx hb hK hP hD hS 2 1 rfl rfl (j := t) (by omega) (Nat.le_of_ble_eq_true rfl) dX1_remove_98 (fun H_5 locs hP hD hS => ?_)
        have hP : va_P (dC, dI) classes [(x, .inr (1, [.ref a1, .ref a2, .ref a3, .ref a4, .ref a5, .int (nI (k - 1)), .int mf, .long mu, .long ml])), (a1, .inl (k1, 1000, .inl (upd (kb_dn f pl t) t ((kb_dn f pl t) (t + 1))))), (a2, .inl (k2, 1000, .inl (upd (kb_dn g pl t) t ((kb_dn g pl t) (t + 1))))), (a3, .inl (k3, 1000, .inl (kb_dn n pl t))), (a4, .inl (k4, 1000, .inr (.inl (vp_updL (kb_dn u pl t) t ((kb_dn u pl t) (t + 1)))))), (a5, .inl (k5, 1000, .inr (.inl (vp_updL (kb_dn w pl t) t ((kb_dn w pl t) (t + 1))))))] H_5 := hP
        have hD : va_D A [(x, .inr (1, [.ref a1, .ref a2, .ref a3, .ref a4, .ref a5, .int (nI (k - 1)), .int mf, .long mu, .long ml])), (a1, .inl (k1, 1000, .inl (upd (kb_dn f pl t) t ((kb_dn f pl t) (t + 1))))), (a2, .inl (k2, 1000, .inl (upd (kb_dn g pl t) t ((kb_dn g pl t) (t + 1))))), (a3, .inl (k3, 1000, .inl (kb_dn n pl t))), (a4, .inl (k4, 1000, .inr (.inl (vp_updL (kb_dn u pl t) t ((kb_dn u pl t) (t + 1)))))), (a5, .inl (k5, 1000, .inr (.inl (vp_updL (kb_dn w pl t) t ((kb_dn w pl t) (t + 1))))))] := hD
        refine lv_aload_n hx hb dX1_remove_99 rfl (lv_at hl 0 rfl) ?_
        refine va_get (D := (dC, dI)) (ci := 1) (v := .ref a3) (C := RX1) (T := TX1) (N := 9) hx hb htl inX1 hown hK hP 0 rfl rfl 2 (by decide) (htl _ flX1_16) (fun _ h9 => h9) rfl dX1_remove_100 ?_
        refine lv_iload_n hx hb dX1_remove_103 rfl (lv_at hl 3 rfl) ?_
        refine lv_aload_n hx hb dX1_remove_104 rfl (lv_at hl 0 rfl) ?_
        refine va_get (D := (dC, dI)) (ci := 1) (v := .ref a3) (C := RX1) (T := TX1) (N := 9) hx hb htl inX1 hown hK hP 0 rfl rfl 2 (by decide) (htl _ flX1_16) (fun _ h9 => h9) rfl dX1_remove_105 ?_
        refine lv_iload_n hx hb dX1_remove_108 rfl (lv_at hl 3 rfl) ?_
        refine lv_iconst (v := 1) hx hb dX1_remove_109 (by decide) ?_
        refine lv_iadd hx hb dX1_remove_110 ?_
        refine tp_i (nI_1 t) ?_
        refine ld_i hx hb hK hP 3 2 rfl rfl (j := (t + 1)) (by omega) (Nat.le_of_ble_eq_true rfl) dX1_remove_111 ?_
        refine st_i hx hb hK hP hD hS 3 2 rfl rfl (j := t) (by omega) (Nat.le_of_ble_eq_true rfl) dX1_remove_112 (fun H_6 locs hP hD hS => ?_)
        have hP : va_P (dC, dI) classes [(x, .inr (1, [.ref a1, .ref a2, .ref a3, .ref a4, .ref a5, .int (nI (k - 1)), .int mf, .long mu, .long ml])), (a1, .inl (k1, 1000, .inl (upd (kb_dn f pl t) t ((kb_dn f pl t) (t + 1))))), (a2, .inl (k2, 1000, .inl (upd (kb_dn g pl t) t ((kb_dn g pl t) (t + 1))))), (a3, .inl (k3, 1000, .inl (upd (kb_dn n pl t) t ((kb_dn n pl t) (t + 1))))), (a4, .inl (k4, 1000, .inr (.inl (vp_updL (kb_dn u pl t) t ((kb_dn u pl t) (t + 1)))))), (a5, .inl (k5, 1000, .inr (.inl (vp_updL (kb_dn w pl t) t ((kb_dn w pl t) (t + 1))))))] H_6 := hP
        have hD : va_D A [(x, .inr (1, [.ref a1, .ref a2, .ref a3, .ref a4, .ref a5, .int (nI (k - 1)), .int mf, .long mu, .long ml])), (a1, .inl (k1, 1000, .inl (upd (kb_dn f pl t) t ((kb_dn f pl t) (t + 1))))), (a2, .inl (k2, 1000, .inl (upd (kb_dn g pl t) t ((kb_dn g pl t) (t + 1))))), (a3, .inl (k3, 1000, .inl (upd (kb_dn n pl t) t ((kb_dn n pl t) (t + 1))))), (a4, .inl (k4, 1000, .inr (.inl (vp_updL (kb_dn u pl t) t ((kb_dn u pl t) (t + 1)))))), (a5, .inl (k5, 1000, .inr (.inl (vp_updL (kb_dn w pl t) t ((kb_dn w pl t) (t + 1))))))] := hD
        refine lv_iinc (v := nI (t + 1)) (lv' := [(3, .int (nI (t + 1))), (0, .ref x), (1, .int le), (2, .int (nI pl))]) hx hb dX1_remove_113 hl (k := 3) rfl (by first | rfl | exact nI_1 _) (by decide) rfl (fun ls hl => ?_)
        refine lv_goto (tgt := 35) hx hb dX1_remove_116 (by decide) ?_
        exact ih (t + 1) (by omega) (by omega) (by omega) _ _ (by rw [kb_dn_i f pl t h1, kb_dn_l u pl t h1, kb_dn_l w pl t h1, kb_dn_i g pl t h1, kb_dn_i n pl t h1] at hP; exact hP) hS ls (lv_sub hl [1, 2, 3, 0] rfl)
  refine lv_aload_n hx hb dX1_remove_0 rfl (lv_at hl 0 rfl) ?_
  refine lv_iload_n hx hb dX1_remove_1 rfl (lv_at hl 1 rfl) ?_
  refine ru_calli (va_runV (As := [.int le]) (rest := []) ⟨hx, hb, hml, hown, htl⟩ (c_X1_isPrefix l dC dI le _ hP) (cwV 1 htl gX1_50 rfl rfl rfl hd_X1_isPrefix ⟨Nat.le_of_ble_eq_true rfl, Nat.le_of_ble_eq_true rfl⟩) ⟨fb_ro, va_recv hK hP (ci := 1) (q0 := 0) rfl rfl, fun U hU hW => ⟨rfl, hU, va_K.moved hW.alike hK⟩⟩ rfl rfl hl.1 rfl (lv_room (Nat.le_of_ble_eq_true rfl)) dX1_remove_2 ⟨Nat.le_of_ble_eq_true rfl, Nat.le_of_ble_eq_true rfl⟩) ?_
  refine lv_if_ne (tgt := 10) hx hb dX1_remove_5 (by decide) (fun c_7 => ?_) (fun c_7 => ?_)
  · rw [b2i_0, Bool.not_eq_false] at c_7
    refine lv_aload_n hx hb dX1_remove_10 rfl (lv_at hl 0 rfl) ?_
    refine lv_iload_n hx hb dX1_remove_11 rfl (lv_at hl 1 rfl) ?_
    refine ru_calli (va_runV (As := [.int le]) (rest := []) ⟨hx, hb, hml, hown, htl⟩ (c_X1_find l dC dI le _ hk hP) (cwV 1 htl gX1_53 rfl rfl rfl hd_X1_find ⟨Nat.le_of_ble_eq_true rfl, Nat.le_of_ble_eq_true rfl⟩) ⟨fb_ro, va_recv hK hP (ci := 1) (q0 := 0) rfl rfl, fun U hU hW => ⟨rfl, hU, va_K.moved hW.alike hK⟩⟩ rfl rfl hl.1 rfl (lv_room (Nat.le_of_ble_eq_true rfl)) dX1_remove_12 ⟨Nat.le_of_ble_eq_true rfl, Nat.le_of_ble_eq_true rfl⟩) ?_
    by_cases hfk : kb_fst (md_ne f u w g mf mu ml le) k 0 < k
    · refine tp_i (if_pos hfk) ?_
      refine lv_istore_n (lv' := [(2, .int (nI (kb_fst (md_ne f u w g mf mu ml le) k 0))), (0, .ref x), (1, .int le)]) hx hb dX1_remove_15 rfl hl (by decide) rfl (fun ls hl => ?_)
      refine lv_iload_n hx hb dX1_remove_16 rfl (lv_at hl 0 rfl) ?_
      refine lv_iconst (v := (-1)) hx hb dX1_remove_17 (by decide) ?_
      refine lv_icmp_ne (tgt := 23) hx hb dX1_remove_18 (by decide) (fun c_8 => ?_) (fun c_8 => ?_)
      · refine lv_aload_n hx hb dX1_remove_23 rfl (lv_at hl 1 rfl) ?_
        refine lv_dup hx hb dX1_remove_24 rfl ?_
        refine va_get (D := (dC, dI)) (ci := 1) (v := .int (nI k)) (C := RX1) (T := TX1) (N := 9) hx hb htl inX1 hown hK hP 0 rfl rfl 5 (by decide) (htl _ flX1_47) (fun _ h9 => h9) rfl dX1_remove_25 ?_
        refine lv_iconst (v := 1) hx hb dX1_remove_28 (by decide) ?_
        refine lv_isub hx hb dX1_remove_29 ?_
        refine tp_i (nI_sub1 (by omega)) ?_
        refine va_put (D := (dC, dI)) (ci := 1) (v := .int (nI (k - 1))) (ty := .int) (C := RX1) (T := TX1) (N := 9) hx hb htl inX1 tyX1 tyX1_ok nmX1 hown hK hP hD hS 0 rfl rfl 5 (by decide) (htl _ flX1_47) (fun _ h9 => h9) rfl (by decide +kernel) rfl rfl (Nat.le_of_ble_eq_true rfl) dX1_remove_30 (fun H_9 locs hP hD hS => ?_)
        have hP : va_P (dC, dI) classes [(x, .inr (1, [.ref a1, .ref a2, .ref a3, .ref a4, .ref a5, .int (nI (k - 1)), .int mf, .long mu, .long ml])), (a1, .inl (k1, 1000, .inl f)), (a2, .inl (k2, 1000, .inl g)), (a3, .inl (k3, 1000, .inl n)), (a4, .inl (k4, 1000, .inr (.inl u))), (a5, .inl (k5, 1000, .inr (.inl w)))] H_9 := hP
        have hD : va_D A [(x, .inr (1, [.ref a1, .ref a2, .ref a3, .ref a4, .ref a5, .int (nI (k - 1)), .int mf, .long mu, .long ml])), (a1, .inl (k1, 1000, .inl f)), (a2, .inl (k2, 1000, .inl g)), (a3, .inl (k3, 1000, .inl n)), (a4, .inl (k4, 1000, .inr (.inl u))), (a5, .inl (k5, 1000, .inr (.inl w)))] := hD
        refine lv_iload_n hx hb dX1_remove_33 rfl (lv_at hl 0 rfl) ?_
        refine lv_istore_n (lv' := [(3, .int (nI (kb_fst (md_ne f u w g mf mu ml le) k 0))), (2, .int (nI (kb_fst (md_ne f u w g mf mu ml le) k 0))), (0, .ref x), (1, .int le)]) hx hb dX1_remove_34 rfl hl (by decide) rfl (fun ls hl => ?_)
        exact loop (kb_fst (md_ne f u w g mf mu ml le) k 0) hfk rfl c_7 (k + 1) (kb_fst (md_ne f u w g mf mu ml le) k 0) (Nat.le_refl _) (by omega) (by omega) _ _ (by rw [kb_dn_0, kb_dn_0, kb_dn_0, kb_dn_0, kb_dn_0]; exact hP) hS ls (lv_sub hl [2, 3, 1, 0] rfl)
      · exact absurd c_8 (nI_nm1 (by omega))
    · refine tp_i (if_neg hfk) ?_
      refine lv_istore_n (lv' := [(2, .int (-1)), (0, .ref x), (1, .int le)]) hx hb dX1_remove_15 rfl hl (by decide) rfl (fun ls hl => ?_)
      refine lv_iload_n hx hb dX1_remove_16 rfl (lv_at hl 0 rfl) ?_
      refine lv_iconst (v := (-1)) hx hb dX1_remove_17 (by decide) ?_
      refine lv_icmp_ne (tgt := 23) hx hb dX1_remove_18 (by decide) (fun c_10 => ?_) (fun c_10 => ?_)
      · exact absurd c_10 (by decide)
      · refine lv_iconst (v := 0) hx hb dX1_remove_21 (by decide) ?_
        exact mu_iret hx hb hr hlocks hS hP (by simp only [c_7, hfk, if_true, if_false, Bool.false_eq_true, reduceIte]) (by simp only [c_7, hfk, if_true, if_false, Bool.false_eq_true, reduceIte]) dX1_remove_22
  · rw [b2i_0] at c_7
    refine lv_iconst (v := (-1)) hx hb dX1_remove_8 (by decide) ?_
    exact mu_iret hx hb hr hlocks hS hP (by simp only [c_7, if_true, if_false, Bool.false_eq_true, reduceIte]) (by simp only [c_7, if_true, if_false, Bool.false_eq_true, reduceIte]) dX1_remove_9
end
section
set_option maxHeartbeats 4000000 in
set_option maxRecDepth 100000 in
theorem c_X1_number (l : Launch) (dC : Nat → ClassId) (dI : Nat → Nat → Nat) {x a1 a2 a3 a4 a5 : Nat} {k1 k2 k3 k4 k5 : ClassId} {f : Nat → Int32} {u w : Nat → Int64} {g n : Nat → Int32} {k : Nat} {mf : Int32} {mu ml : Int64} (le : Int32) (Hh : Heap) (hk : k ≤ 1000) (hP : va_P (dC, dI) classes (mdw x a1 a2 a3 a4 a5 k1 k2 k3 k4 k5 f u w g n k mf mu ml) Hh) : Met l yX1_number (ww yX1_number cX1_number 3 (some .int)) ({ frames := 2, cells := 0, slots := 0, locals := 49 } : Room) (va_Pc [.ref x, .int le] (fun U => U.heap = Hh ∧ va_K (dC, dI) classes (mdt k1 k2 k3 k4 k5) U)) (va_Qi (fun r (_ : Unit) => r = (if md_pre mf mu ml le = true then (if kb_fst (md_ne f u w g mf mu ml le) k 0 < k then n (kb_fst (md_ne f u w g mf mu ml le) k 0) else (-2147483648)) else (-2147483648))) (fun _ t => t.heap = Hh) (fun _ => False)) 0 0 (fun _ => False) := by
  refine Met.ofW (cc := cX1_number) (maxL := 3) (ret := (some .int)) (by decide) rfl ?_
  intro p e s m args below meth c s₁ B hml hv
  obtain ⟨rfl, hHh, hK⟩ := hv
  subst hHh
  have hx := B.exec
  have hb := B.bytes
  have hr := B.returns
  have hts := atoms_spec (ws := ww yX1_number cX1_number 3 (some .int)) B.pre
  have htl : ∀ w ∈ ltg, w.before [.ref x, .int le].toArray s = true := fun w h => hts w (List.mem_cons_of_mem _ h)
  have hown : s.vm.findClass RX1 = some m.cls := findClass_of_methodNamed B.named
  have hlocks := B.notSynchronized
  have hl := lv_entry ([.ref x, .int le]) (n := 3) (Nat.le_of_ble_eq_true rfl)
  rw [lg_entry_eq]
  generalize (lg_sl ([.ref x, .int le]) ++ List.replicate (3 - (lg_sl ([.ref x, .int le])).length) Slot.unset).toArray = ls at hl ⊢
  have hl : lv_has ls 3 [(0, .ref x), (1, .int le)] := hl
  refine lv_aload_n hx hb dX1_number_0 rfl (lv_at hl 0 rfl) ?_
  refine lv_iload_n hx hb dX1_number_1 rfl (lv_at hl 1 rfl) ?_
  refine ru_calli (va_runV (As := [.int le]) (rest := []) ⟨hx, hb, hml, hown, htl⟩ (c_X1_isPrefix l dC dI le _ hP) (cwV 1 htl gX1_50 rfl rfl rfl hd_X1_isPrefix ⟨Nat.le_of_ble_eq_true rfl, Nat.le_of_ble_eq_true rfl⟩) ⟨fb_ro, va_recv hK hP (ci := 1) (q0 := 0) rfl rfl, fun U hU hW => ⟨rfl, hU, va_K.moved hW.alike hK⟩⟩ rfl rfl hl.1 rfl (lv_room (Nat.le_of_ble_eq_true rfl)) dX1_number_2 ⟨Nat.le_of_ble_eq_true rfl, Nat.le_of_ble_eq_true rfl⟩) ?_
  refine lv_if_eq (tgt := 16) hx hb dX1_number_5 (by decide) (fun c_1 => ?_) (fun c_1 => ?_)
  · rw [b2i_0] at c_1
    refine lv_iconst (v := (-1)) hx hb dX1_number_16 (by decide) ?_
    refine lv_istore_n (lv' := [(2, .int (-1)), (0, .ref x), (1, .int le)]) hx hb dX1_number_17 rfl hl (by decide) rfl (fun ls hl => ?_)
    refine lv_iload_n hx hb dX1_number_18 rfl (lv_at hl 0 rfl) ?_
    refine lv_iconst (v := (-1)) hx hb dX1_number_19 (by decide) ?_
    refine lv_icmp_ne (tgt := 28) hx hb dX1_number_20 (by decide) (fun c_2 => ?_) (fun c_2 => ?_)
    · exact absurd c_2 (by decide)
    · refine lv_ldc (v := (-2147483648)) hx hb hown (htl _ kcX1_57) dX1_number_23 ?_
      refine lv_goto (tgt := 34) hx hb dX1_number_25 (by decide) ?_
      exact ru_iret hx hb hr hlocks (by simp only [c_1, if_true, if_false, Bool.false_eq_true, reduceIte]) dX1_number_34
  · rw [b2i_0, Bool.not_eq_false] at c_1
    refine lv_aload_n hx hb dX1_number_8 rfl (lv_at hl 0 rfl) ?_
    refine lv_iload_n hx hb dX1_number_9 rfl (lv_at hl 1 rfl) ?_
    refine ru_calli (va_runV (As := [.int le]) (rest := []) ⟨hx, hb, hml, hown, htl⟩ (c_X1_find l dC dI le _ hk hP) (cwV 1 htl gX1_53 rfl rfl rfl hd_X1_find ⟨Nat.le_of_ble_eq_true rfl, Nat.le_of_ble_eq_true rfl⟩) ⟨fb_ro, va_recv hK hP (ci := 1) (q0 := 0) rfl rfl, fun U hU hW => ⟨rfl, hU, va_K.moved hW.alike hK⟩⟩ rfl rfl hl.1 rfl (lv_room (Nat.le_of_ble_eq_true rfl)) dX1_number_10 ⟨Nat.le_of_ble_eq_true rfl, Nat.le_of_ble_eq_true rfl⟩) ?_
    by_cases hfk : kb_fst (md_ne f u w g mf mu ml le) k 0 < k
    · refine tp_i (if_pos hfk) ?_
      refine lv_goto (tgt := 17) hx hb dX1_number_13 (by decide) ?_
      refine lv_istore_n (lv' := [(2, .int (nI (kb_fst (md_ne f u w g mf mu ml le) k 0))), (0, .ref x), (1, .int le)]) hx hb dX1_number_17 rfl hl (by decide) rfl (fun ls hl => ?_)
      refine lv_iload_n hx hb dX1_number_18 rfl (lv_at hl 0 rfl) ?_
      refine lv_iconst (v := (-1)) hx hb dX1_number_19 (by decide) ?_
      refine lv_icmp_ne (tgt := 28) hx hb dX1_number_20 (by decide) (fun c_3 => ?_) (fun c_3 => ?_)
      · refine lv_aload_n hx hb dX1_number_28 rfl (lv_at hl 1 rfl) ?_
        refine va_get (D := (dC, dI)) (ci := 1) (v := .ref a3) (C := RX1) (T := TX1) (N := 9) hx hb htl inX1 hown hK hP 0 rfl rfl 2 (by decide) (htl _ flX1_16) (fun _ h9 => h9) rfl dX1_number_29 ?_
        refine lv_iload_n hx hb dX1_number_32 rfl (lv_at hl 0 rfl) ?_
        refine ld_i hx hb hK hP 3 2 rfl rfl (j := (kb_fst (md_ne f u w g mf mu ml le) k 0)) (by omega) (Nat.le_of_ble_eq_true rfl) dX1_number_33 ?_
        exact ru_iret hx hb hr hlocks (by simp only [c_1, hfk, if_true, if_false, Bool.false_eq_true, reduceIte]) dX1_number_34
      · exact absurd c_3 (nI_nm1 (by omega))
    · refine tp_i (if_neg hfk) ?_
      refine lv_goto (tgt := 17) hx hb dX1_number_13 (by decide) ?_
      refine lv_istore_n (lv' := [(2, .int (-1)), (0, .ref x), (1, .int le)]) hx hb dX1_number_17 rfl hl (by decide) rfl (fun ls hl => ?_)
      refine lv_iload_n hx hb dX1_number_18 rfl (lv_at hl 0 rfl) ?_
      refine lv_iconst (v := (-1)) hx hb dX1_number_19 (by decide) ?_
      refine lv_icmp_ne (tgt := 28) hx hb dX1_number_20 (by decide) (fun c_4 => ?_) (fun c_4 => ?_)
      · exact absurd c_4 (by decide)
      · refine lv_ldc (v := (-2147483648)) hx hb hown (htl _ kcX1_57) dX1_number_23 ?_
        refine lv_goto (tgt := 34) hx hb dX1_number_25 (by decide) ?_
        exact ru_iret hx hb hr hlocks (by simp only [c_1, hfk, if_true, if_false, Bool.false_eq_true, reduceIte]) dX1_number_34
set_option maxHeartbeats 4000000 in
set_option maxRecDepth 100000 in
theorem c_X1_ahead (l : Launch) (dC : Nat → ClassId) (dI : Nat → Nat → Nat) {x a1 a2 a3 a4 a5 : Nat} {k1 k2 k3 k4 k5 : ClassId} {f : Nat → Int32} {u w : Nat → Int64} {g n : Nat → Int32} {k : Nat} {mf : Int32} {mu ml : Int64} (le : Int32) (Hh : Heap) (hk : k ≤ 1000) (hP : va_P (dC, dI) classes (mdw x a1 a2 a3 a4 a5 k1 k2 k3 k4 k5 f u w g n k mf mu ml) Hh) : Met l yX1_ahead (ww yX1_ahead cX1_ahead 2 (some .int)) ({ frames := 3, cells := 0, slots := 0, locals := 84 } : Room) (va_Pc [.ref x, .int le] (fun U => U.heap = Hh ∧ va_K (dC, dI) classes (mdt k1 k2 k3 k4 k5) U)) (va_Qi (fun r (_ : Unit) => r = (if kb_len mf le = true then nI (kb_cv (md_ah f u w g mf mu ml le) k) else (-1))) (fun _ t => t.heap = Hh) (fun _ => False)) 0 0 (fun _ => False) := by
  refine Met.ofW (cc := cX1_ahead) (maxL := 2) (ret := (some .int)) (by decide) rfl ?_
  intro p e s m args below meth c s₁ B hml hv
  obtain ⟨rfl, hHh, hK⟩ := hv
  subst hHh
  have hx := B.exec
  have hb := B.bytes
  have hr := B.returns
  have hts := atoms_spec (ws := ww yX1_ahead cX1_ahead 2 (some .int)) B.pre
  have htl : ∀ w ∈ ltg, w.before [.ref x, .int le].toArray s = true := fun w h => hts w (List.mem_cons_of_mem _ h)
  have hown : s.vm.findClass RX1 = some m.cls := findClass_of_methodNamed B.named
  have hlocks := B.notSynchronized
  have hl := lv_entry ([.ref x, .int le]) (n := 2) (Nat.le_of_ble_eq_true rfl)
  rw [lg_entry_eq]
  generalize (lg_sl ([.ref x, .int le]) ++ List.replicate (2 - (lg_sl ([.ref x, .int le])).length) Slot.unset).toArray = ls at hl ⊢
  have hl : lv_has ls 2 [(0, .ref x), (1, .int le)] := hl
  refine lv_aload_n hx hb dX1_ahead_0 rfl (lv_at hl 0 rfl) ?_
  refine lv_iload_n hx hb dX1_ahead_1 rfl (lv_at hl 1 rfl) ?_
  refine ru_calli (va_runV (As := [.int le]) (rest := []) ⟨hx, hb, hml, hown, htl⟩ (c_X1_isLength l dC dI le _ hP) (cwV 1 htl gX1_39 rfl rfl rfl hd_X1_isLength ⟨Nat.le_of_ble_eq_true rfl, Nat.le_of_ble_eq_true rfl⟩) ⟨fb_ro, va_recv hK hP (ci := 1) (q0 := 0) rfl rfl, fun U hU hW => ⟨rfl, hU, va_K.moved hW.alike hK⟩⟩ rfl rfl hl.1 rfl (lv_room (Nat.le_of_ble_eq_true rfl)) dX1_ahead_2 ⟨Nat.le_of_ble_eq_true rfl, Nat.le_of_ble_eq_true rfl⟩) ?_
  refine lv_if_eq (tgt := 28) hx hb dX1_ahead_5 (by decide) (fun c_1 => ?_) (fun c_1 => ?_)
  · rw [b2i_0] at c_1
    refine lv_iconst (v := (-1)) hx hb dX1_ahead_28 (by decide) ?_
    exact ru_iret hx hb hr hlocks (by simp only [c_1, if_true, if_false, Bool.false_eq_true, reduceIte]) dX1_ahead_29
  · rw [b2i_0, Bool.not_eq_false] at c_1
    refine lv_aload_n hx hb dX1_ahead_8 rfl (lv_at hl 0 rfl) ?_
    refine lv_aload_n hx hb dX1_ahead_9 rfl (lv_at hl 0 rfl) ?_
    refine va_get (D := (dC, dI)) (ci := 1) (v := .int mf) (C := RX1) (T := TX1) (N := 9) hx hb htl inX1 hown hK hP 0 rfl rfl 6 (by decide) (htl _ flX1_26) (fun _ h9 => h9) rfl dX1_ahead_10 ?_
    refine lv_aload_n hx hb dX1_ahead_13 rfl (lv_at hl 0 rfl) ?_
    refine va_get (D := (dC, dI)) (ci := 1) (v := .long mu) (C := RX1) (T := TX1) (N := 9) hx hb htl inX1 hown hK hP 0 rfl rfl 7 (by decide) (htl _ flX1_32) (fun _ h9 => h9) rfl dX1_ahead_14 ?_
    refine lv_aload_n hx hb dX1_ahead_17 rfl (lv_at hl 0 rfl) ?_
    refine va_get (D := (dC, dI)) (ci := 1) (v := .long ml) (C := RX1) (T := TX1) (N := 9) hx hb htl inX1 hown hK hP 0 rfl rfl 8 (by decide) (htl _ flX1_36) (fun _ h9 => h9) rfl dX1_ahead_18 ?_
    refine lv_iload_n hx hb dX1_ahead_21 rfl (lv_at hl 1 rfl) ?_
    refine ru_calli (va_runV (As := [.int mf, .long mu, .long ml, .int le]) (rest := []) ⟨hx, hb, hml, hown, htl⟩ (c_X1_countAhead l dC dI mf mu ml le _ hk hP) (cwV 4 htl gX1_71 rfl rfl rfl hd_X1_countAhead ⟨Nat.le_of_ble_eq_true rfl, Nat.le_of_ble_eq_true rfl⟩) ⟨fb_ro, va_recv hK hP (ci := 1) (q0 := 0) rfl rfl, fun U hU hW => ⟨rfl, hU, va_K.moved hW.alike hK⟩⟩ rfl rfl hl.1 rfl (lv_room (Nat.le_of_ble_eq_true rfl)) dX1_ahead_22 ⟨Nat.le_of_ble_eq_true rfl, Nat.le_of_ble_eq_true rfl⟩) ?_
    refine lv_goto (tgt := 29) hx hb dX1_ahead_25 (by decide) ?_
    exact ru_iret hx hb hr hlocks (by simp only [c_1, if_true, if_false, Bool.false_eq_true, reduceIte]) dX1_ahead_29
set_option maxHeartbeats 4000000 in
set_option maxRecDepth 100000 in
theorem c_X1_size (l : Launch) (dC : Nat → ClassId) (dI : Nat → Nat → Nat) {x a1 a2 a3 a4 a5 : Nat} {k1 k2 k3 k4 k5 : ClassId} {f : Nat → Int32} {u w : Nat → Int64} {g n : Nat → Int32} {k : Nat} {mf : Int32} {mu ml : Int64}  (Hh : Heap)  (hP : va_P (dC, dI) classes (mdw x a1 a2 a3 a4 a5 k1 k2 k3 k4 k5 f u w g n k mf mu ml) Hh) : Met l yX1_size (ww yX1_size cX1_size 1 (some .int)) ({ frames := 0, cells := 0, slots := 0, locals := 0 } : Room) (va_Pc [.ref x] (fun U => U.heap = Hh ∧ va_K (dC, dI) classes (mdt k1 k2 k3 k4 k5) U)) (va_Qi (fun r (_ : Unit) => r = (nI k)) (fun _ t => t.heap = Hh) (fun _ => False)) 0 0 (fun _ => False) := by
  refine Met.ofW (cc := cX1_size) (maxL := 1) (ret := (some .int)) (by decide) rfl ?_
  intro p e s m args below meth c s₁ B hml hv
  obtain ⟨rfl, hHh, hK⟩ := hv
  subst hHh
  have hx := B.exec
  have hb := B.bytes
  have hr := B.returns
  have hts := atoms_spec (ws := ww yX1_size cX1_size 1 (some .int)) B.pre
  have htl : ∀ w ∈ ltg, w.before [.ref x].toArray s = true := fun w h => hts w (List.mem_cons_of_mem _ h)
  have hown : s.vm.findClass RX1 = some m.cls := findClass_of_methodNamed B.named
  have hlocks := B.notSynchronized
  have hl := lv_entry ([.ref x]) (n := 1) (Nat.le_of_ble_eq_true rfl)
  rw [lg_entry_eq]
  generalize (lg_sl ([.ref x]) ++ List.replicate (1 - (lg_sl ([.ref x])).length) Slot.unset).toArray = ls at hl ⊢
  have hl : lv_has ls 1 [(0, .ref x)] := hl
  refine lv_aload_n hx hb dX1_size_0 rfl (lv_at hl 0 rfl) ?_
  refine va_get (D := (dC, dI)) (ci := 1) (v := .int (nI k)) (C := RX1) (T := TX1) (N := 9) hx hb htl inX1 hown hK hP 0 rfl rfl 5 (by decide) (htl _ flX1_47) (fun _ h9 => h9) rfl dX1_size_1 ?_
  exact ru_iret hx hb hr hlocks (rfl) dX1_size_4
set_option maxHeartbeats 4000000 in
set_option maxRecDepth 100000 in
theorem c_X1_told (l : Launch) (dC : Nat → ClassId) (dI : Nat → Nat → Nat) {x a1 a2 a3 a4 a5 : Nat} {k1 k2 k3 k4 k5 : ClassId} {f : Nat → Int32} {u w : Nat → Int64} {g n : Nat → Int32} {k : Nat} {mf : Int32} {mu ml : Int64} (wh : Int32) (Hh : Heap)  (hP : va_P (dC, dI) classes (mdw x a1 a2 a3 a4 a5 k1 k2 k3 k4 k5 f u w g n k mf mu ml) Hh) : Met l yX1_told (ww yX1_told cX1_told 2 (some .long)) ({ frames := 0, cells := 0, slots := 0, locals := 0 } : Room) (va_Pc [.ref x, .int wh] (fun U => U.heap = Hh ∧ va_K (dC, dI) classes (mdt k1 k2 k3 k4 k5) U)) (va_Ql (fun r (_ : Unit) => r = (if wh = 0 then mf.toInt64 else if wh = 1 then mu else if wh = 2 then ml else 0)) (fun _ t => t.heap = Hh) (fun _ => False)) 0 0 (fun _ => False) := by
  refine Met.ofW (cc := cX1_told) (maxL := 2) (ret := (some .long)) (by decide) rfl ?_
  intro p e s m args below meth c s₁ B hml hv
  obtain ⟨rfl, hHh, hK⟩ := hv
  subst hHh
  have hx := B.exec
  have hb := B.bytes
  have hr := B.returns
  have hts := atoms_spec (ws := ww yX1_told cX1_told 2 (some .long)) B.pre
  have htl : ∀ w ∈ ltg, w.before [.ref x, .int wh].toArray s = true := fun w h => hts w (List.mem_cons_of_mem _ h)
  have hown : s.vm.findClass RX1 = some m.cls := findClass_of_methodNamed B.named
  have hlocks := B.notSynchronized
  have hl := lv_entry ([.ref x, .int wh]) (n := 2) (Nat.le_of_ble_eq_true rfl)
  rw [lg_entry_eq]
  generalize (lg_sl ([.ref x, .int wh]) ++ List.replicate (2 - (lg_sl ([.ref x, .int wh])).length) Slot.unset).toArray = ls at hl ⊢
  have hl : lv_has ls 2 [(0, .ref x), (1, .int wh)] := hl
  refine lv_iload_n hx hb dX1_told_0 rfl (lv_at hl 1 rfl) ?_
  refine lv_if_ne (tgt := 12) hx hb dX1_told_1 (by decide) (fun c_1 => ?_) (fun c_1 => ?_)
  · refine lv_iload_n hx hb dX1_told_12 rfl (lv_at hl 1 rfl) ?_
    refine lv_iconst (v := 1) hx hb dX1_told_13 (by decide) ?_
    refine lv_icmp_ne (tgt := 24) hx hb dX1_told_14 (by decide) (fun c_2 => ?_) (fun c_2 => ?_)
    · refine lv_iload_n hx hb dX1_told_24 rfl (lv_at hl 1 rfl) ?_
      refine lv_iconst (v := 2) hx hb dX1_told_25 (by decide) ?_
      refine lv_icmp_ne (tgt := 36) hx hb dX1_told_26 (by decide) (fun c_3 => ?_) (fun c_3 => ?_)
      · refine lv_lconst (v := 0) hx hb dX1_told_36 (by decide) ?_
        exact ru_lret hx hb hr hlocks (by simp [c_1, c_2, c_3]) dX1_told_37
      · refine lv_aload_n hx hb dX1_told_29 rfl (lv_at hl 0 rfl) ?_
        refine va_get (D := (dC, dI)) (ci := 1) (v := .long ml) (C := RX1) (T := TX1) (N := 9) hx hb htl inX1 hown hK hP 0 rfl rfl 8 (by decide) (htl _ flX1_36) (fun _ h9 => h9) rfl dX1_told_30 ?_
        refine lv_goto (tgt := 37) hx hb dX1_told_33 (by decide) ?_
        exact ru_lret hx hb hr hlocks (by simp [c_1, c_2, c_3]) dX1_told_37
    · refine lv_aload_n hx hb dX1_told_17 rfl (lv_at hl 0 rfl) ?_
      refine va_get (D := (dC, dI)) (ci := 1) (v := .long mu) (C := RX1) (T := TX1) (N := 9) hx hb htl inX1 hown hK hP 0 rfl rfl 7 (by decide) (htl _ flX1_32) (fun _ h9 => h9) rfl dX1_told_18 ?_
      refine lv_goto (tgt := 37) hx hb dX1_told_21 (by decide) ?_
      exact ru_lret hx hb hr hlocks (by simp [c_1, c_2]) dX1_told_37
  · refine lv_aload_n hx hb dX1_told_4 rfl (lv_at hl 0 rfl) ?_
    refine va_get (D := (dC, dI)) (ci := 1) (v := .int mf) (C := RX1) (T := TX1) (N := 9) hx hb htl inX1 hown hK hP 0 rfl rfl 6 (by decide) (htl _ flX1_26) (fun _ h9 => h9) rfl dX1_told_5 ?_
    refine lv_i2l hx hb dX1_told_8 rfl ?_
    refine lv_goto (tgt := 37) hx hb dX1_told_9 (by decide) ?_
    exact ru_lret hx hb hr hlocks (by simp [c_1]) dX1_told_37
set_option maxHeartbeats 4000000 in
set_option maxRecDepth 100000 in
theorem c_X1_address (l : Launch) (dC : Nat → ClassId) (dI : Nat → Nat → Nat) {x a1 a2 a3 a4 a5 : Nat} {k1 k2 k3 k4 k5 : ClassId} {f : Nat → Int32} {u w : Nat → Int64} {g n : Nat → Int32} {k : Nat} {mf : Int32} {mu ml : Int64} (fa : Int32) (up lo : Int64) (A : Nat → Prop)  (hD : va_D A (mdw x a1 a2 a3 a4 a5 k1 k2 k3 k4 k5 f u w g n k mf mu ml)) : Met l yX1_address (ww yX1_address cX1_address 7 (some .boolean)) ({ frames := 0, cells := 0, slots := 0, locals := 0 } : Room) (va_Pc [.ref x, .int fa, .long up, .long lo] (fun U => va_P (dC, dI) classes (mdw x a1 a2 a3 a4 a5 k1 k2 k3 k4 k5 f u w g n k mf mu ml) U.heap ∧ va_K (dC, dI) classes (mdt k1 k2 k3 k4 k5) U)) (va_Qi (fun r (_ : Unit) => r = (b2i (kb_addr fa up lo))) (fun _ t => va_P (dC, dI) classes (if kb_addr fa up lo = true then (mdw x a1 a2 a3 a4 a5 k1 k2 k3 k4 k5 f u w g n k fa up lo) else (mdw x a1 a2 a3 a4 a5 k1 k2 k3 k4 k5 f u w g n k mf mu ml)) t.heap) A) 0 0 A := by
  refine Met.ofW (cc := cX1_address) (maxL := 7) (ret := (some .boolean)) (by decide) rfl ?_
  intro p e s m args below meth c s₁ B hml hv
  obtain ⟨rfl, hP, hK⟩ := hv
  have hS : va_S A s.heap s.heap [] := va_S.rf
  have hx := B.exec
  have hb := B.bytes
  have hr := B.returns
  have hts := atoms_spec (ws := ww yX1_address cX1_address 7 (some .boolean)) B.pre
  have htl : ∀ w ∈ ltg, w.before [.ref x, .int fa, .long up, .long lo].toArray s = true := fun w h => hts w (List.mem_cons_of_mem _ h)
  have hown : s.vm.findClass RX1 = some m.cls := findClass_of_methodNamed B.named
  have hlocks := B.notSynchronized
  have hl := lv_entry ([.ref x, .int fa, .long up, .long lo]) (n := 7) (Nat.le_of_ble_eq_true rfl)
  rw [lg_entry_eq]
  generalize (lg_sl ([.ref x, .int fa, .long up, .long lo]) ++ List.replicate (7 - (lg_sl ([.ref x, .int fa, .long up, .long lo])).length) Slot.unset).toArray = ls at hl ⊢
  have hl : lv_has ls 7 [(0, .ref x), (1, .int fa), (2, .long up), (4, .long lo)] := hl
  refine lv_iload_n hx hb dX1_address_0 rfl (lv_at hl 1 rfl) ?_
  refine lv_bipush (v := 6) hx hb dX1_address_1 (by decide) ?_
  refine lv_icmp_eq (tgt := 33) hx hb dX1_address_3 (by decide) (fun c_1 => ?_) (fun c_1 => ?_)
  · refine lv_iconst (v := 1) hx hb dX1_address_33 (by decide) ?_
    refine lv_goto (tgt := 38) hx hb dX1_address_34 (by decide) ?_
    refine lv_istore (lv' := [(6, .int 1), (0, .ref x), (1, .int fa), (2, .long up), (4, .long lo)]) hx hb dX1_address_38 hl (by decide) rfl (fun ls hl => ?_)
    refine lv_iload hx hb dX1_address_40 (lv_at hl 0 rfl) ?_
    refine lv_if_eq (tgt := 61) hx hb dX1_address_42 (by decide) (fun c_2 => ?_) (fun c_2 => ?_)
    · exact absurd c_2 (by decide)
    · refine lv_aload_n hx hb dX1_address_45 rfl (lv_at hl 1 rfl) ?_
      refine lv_iload_n hx hb dX1_address_46 rfl (lv_at hl 2 rfl) ?_
      refine va_put (D := (dC, dI)) (ci := 1) (v := .int fa) (ty := .int) (C := RX1) (T := TX1) (N := 9) hx hb htl inX1 tyX1 tyX1_ok nmX1 hown hK hP hD hS 0 rfl rfl 6 (by decide) (htl _ flX1_26) (fun _ h9 => h9) rfl (by decide +kernel) rfl rfl (Nat.le_of_ble_eq_true rfl) dX1_address_47 (fun H_3 locs hP hD hS => ?_)
      have hP : va_P (dC, dI) classes [(x, .inr (1, [.ref a1, .ref a2, .ref a3, .ref a4, .ref a5, .int (nI k), .int fa, .long mu, .long ml])), (a1, .inl (k1, 1000, .inl f)), (a2, .inl (k2, 1000, .inl g)), (a3, .inl (k3, 1000, .inl n)), (a4, .inl (k4, 1000, .inr (.inl u))), (a5, .inl (k5, 1000, .inr (.inl w)))] H_3 := hP
      have hD : va_D A [(x, .inr (1, [.ref a1, .ref a2, .ref a3, .ref a4, .ref a5, .int (nI k), .int fa, .long mu, .long ml])), (a1, .inl (k1, 1000, .inl f)), (a2, .inl (k2, 1000, .inl g)), (a3, .inl (k3, 1000, .inl n)), (a4, .inl (k4, 1000, .inr (.inl u))), (a5, .inl (k5, 1000, .inr (.inl w)))] := hD
      refine lv_aload_n hx hb dX1_address_50 rfl (lv_at hl 1 rfl) ?_
      refine lv_lload_n hx hb dX1_address_51 rfl (lv_at hl 3 rfl) ?_
      refine va_put (D := (dC, dI)) (ci := 1) (v := .long up) (ty := .long) (C := RX1) (T := TX1) (N := 9) hx hb htl inX1 tyX1 tyX1_ok nmX1 hown hK hP hD hS 0 rfl rfl 7 (by decide) (htl _ flX1_32) (fun _ h9 => h9) rfl (by decide +kernel) rfl rfl (Nat.le_of_ble_eq_true rfl) dX1_address_52 (fun H_4 locs hP hD hS => ?_)
      have hP : va_P (dC, dI) classes [(x, .inr (1, [.ref a1, .ref a2, .ref a3, .ref a4, .ref a5, .int (nI k), .int fa, .long up, .long ml])), (a1, .inl (k1, 1000, .inl f)), (a2, .inl (k2, 1000, .inl g)), (a3, .inl (k3, 1000, .inl n)), (a4, .inl (k4, 1000, .inr (.inl u))), (a5, .inl (k5, 1000, .inr (.inl w)))] H_4 := hP
      have hD : va_D A [(x, .inr (1, [.ref a1, .ref a2, .ref a3, .ref a4, .ref a5, .int (nI k), .int fa, .long up, .long ml])), (a1, .inl (k1, 1000, .inl f)), (a2, .inl (k2, 1000, .inl g)), (a3, .inl (k3, 1000, .inl n)), (a4, .inl (k4, 1000, .inr (.inl u))), (a5, .inl (k5, 1000, .inr (.inl w)))] := hD
      refine lv_aload_n hx hb dX1_address_55 rfl (lv_at hl 1 rfl) ?_
      refine lv_lload hx hb dX1_address_56 (lv_at hl 4 rfl) ?_
      refine va_put (D := (dC, dI)) (ci := 1) (v := .long lo) (ty := .long) (C := RX1) (T := TX1) (N := 9) hx hb htl inX1 tyX1 tyX1_ok nmX1 hown hK hP hD hS 0 rfl rfl 8 (by decide) (htl _ flX1_36) (fun _ h9 => h9) rfl (by decide +kernel) rfl rfl (Nat.le_of_ble_eq_true rfl) dX1_address_58 (fun H_5 locs hP hD hS => ?_)
      have hP : va_P (dC, dI) classes [(x, .inr (1, [.ref a1, .ref a2, .ref a3, .ref a4, .ref a5, .int (nI k), .int fa, .long up, .long lo])), (a1, .inl (k1, 1000, .inl f)), (a2, .inl (k2, 1000, .inl g)), (a3, .inl (k3, 1000, .inl n)), (a4, .inl (k4, 1000, .inr (.inl u))), (a5, .inl (k5, 1000, .inr (.inl w)))] H_5 := hP
      have hD : va_D A [(x, .inr (1, [.ref a1, .ref a2, .ref a3, .ref a4, .ref a5, .int (nI k), .int fa, .long up, .long lo])), (a1, .inl (k1, 1000, .inl f)), (a2, .inl (k2, 1000, .inl g)), (a3, .inl (k3, 1000, .inl n)), (a4, .inl (k4, 1000, .inr (.inl u))), (a5, .inl (k5, 1000, .inr (.inl w)))] := hD
      refine lv_iload hx hb dX1_address_61 (lv_at hl 0 rfl) ?_
      exact mu_zret hx hb hr hlocks hS hP (by rw [if_pos (by simp [kb_addr, c_1])]) (by simp [kb_addr, b2i, c_1]) rfl dX1_address_63
  · refine lv_iload_n hx hb dX1_address_6 rfl (lv_at hl 1 rfl) ?_
    refine lv_iconst (v := 4) hx hb dX1_address_7 (by decide) ?_
    refine lv_icmp_ne (tgt := 37) hx hb dX1_address_8 (by decide) (fun c_6 => ?_) (fun c_6 => ?_)
    · refine lv_iconst (v := 0) hx hb dX1_address_37 (by decide) ?_
      refine lv_istore (lv' := [(6, .int 0), (0, .ref x), (1, .int fa), (2, .long up), (4, .long lo)]) hx hb dX1_address_38 hl (by decide) rfl (fun ls hl => ?_)
      refine lv_iload hx hb dX1_address_40 (lv_at hl 0 rfl) ?_
      refine lv_if_eq (tgt := 61) hx hb dX1_address_42 (by decide) (fun c_7 => ?_) (fun c_7 => ?_)
      · refine lv_iload hx hb dX1_address_61 (lv_at hl 0 rfl) ?_
        exact mu_zret hx hb hr hlocks hS hP (by rw [if_neg (by simp [kb_addr, c_1, c_6])]) (by simp [kb_addr, b2i, c_1, c_6]) rfl dX1_address_63
      · exact absurd c_7 (by decide)
    · refine lv_lload_n hx hb dX1_address_11 rfl (lv_at hl 2 rfl) ?_
      refine lv_lconst (v := 0) hx hb dX1_address_12 (by decide) ?_
      refine W.lcmp hx hb dX1_address_13 ?_
      refine lv_if_ne (tgt := 37) hx hb dX1_address_14 (by decide) (fun c_8 => ?_) (fun c_8 => ?_)
      · rw [lg_cmp_eq] at c_8
        refine lv_iconst (v := 0) hx hb dX1_address_37 (by decide) ?_
        refine lv_istore (lv' := [(6, .int 0), (0, .ref x), (1, .int fa), (2, .long up), (4, .long lo)]) hx hb dX1_address_38 hl (by decide) rfl (fun ls hl => ?_)
        refine lv_iload hx hb dX1_address_40 (lv_at hl 0 rfl) ?_
        refine lv_if_eq (tgt := 61) hx hb dX1_address_42 (by decide) (fun c_9 => ?_) (fun c_9 => ?_)
        · refine lv_iload hx hb dX1_address_61 (lv_at hl 0 rfl) ?_
          exact mu_zret hx hb hr hlocks hS hP (by rw [if_neg (by simp [kb_addr, c_1, c_6, c_8])]) (by simp [kb_addr, b2i, c_1, c_6, c_8]) rfl dX1_address_63
        · exact absurd c_9 (by decide)
      · rw [lg_cmp_eq] at c_8
        refine lv_lload hx hb dX1_address_17 (lv_at hl 3 rfl) ?_
        refine lv_lconst (v := 0) hx hb dX1_address_19 (by decide) ?_
        refine W.lcmp hx hb dX1_address_20 ?_
        refine lv_if_lt (tgt := 37) hx hb dX1_address_21 (by decide) (fun c_10 => ?_) (fun c_10 => ?_)
        · rw [lg_cmp_lt] at c_10
          refine lv_iconst (v := 0) hx hb dX1_address_37 (by decide) ?_
          refine lv_istore (lv' := [(6, .int 0), (0, .ref x), (1, .int fa), (2, .long up), (4, .long lo)]) hx hb dX1_address_38 hl (by decide) rfl (fun ls hl => ?_)
          refine lv_iload hx hb dX1_address_40 (lv_at hl 0 rfl) ?_
          refine lv_if_eq (tgt := 61) hx hb dX1_address_42 (by decide) (fun c_11 => ?_) (fun c_11 => ?_)
          · refine lv_iload hx hb dX1_address_61 (lv_at hl 0 rfl) ?_
            exact mu_zret hx hb hr hlocks hS hP (by rw [if_neg (by simp [kb_addr, c_1, c_6, c_8, c_10])]) (by simp [kb_addr, b2i, c_1, c_6, c_8, c_10]) rfl dX1_address_63
          · exact absurd c_11 (by decide)
        · rw [lg_cmp_lt] at c_10
          refine lv_lload hx hb dX1_address_24 (lv_at hl 3 rfl) ?_
          refine lv_ldc2 (v := 4294967296) hx hb hown (htl _ kcX1_30) dX1_address_26 ?_
          refine W.lcmp hx hb dX1_address_29 ?_
          refine lv_if_ge (tgt := 37) hx hb dX1_address_30 (by decide) (fun c_12 => ?_) (fun c_12 => ?_)
          · rw [lg_cmp_ge] at c_12
            refine lv_iconst (v := 0) hx hb dX1_address_37 (by decide) ?_
            refine lv_istore (lv' := [(6, .int 0), (0, .ref x), (1, .int fa), (2, .long up), (4, .long lo)]) hx hb dX1_address_38 hl (by decide) rfl (fun ls hl => ?_)
            refine lv_iload hx hb dX1_address_40 (lv_at hl 0 rfl) ?_
            refine lv_if_eq (tgt := 61) hx hb dX1_address_42 (by decide) (fun c_13 => ?_) (fun c_13 => ?_)
            · refine lv_iload hx hb dX1_address_61 (lv_at hl 0 rfl) ?_
              exact mu_zret hx hb hr hlocks hS hP (by rw [if_neg (by simp [kb_addr, c_1, c_6, c_8, c_10, c_12])]) (by simp [kb_addr, b2i, c_1, c_6, c_8, c_10, c_12]) rfl dX1_address_63
            · exact absurd c_13 (by decide)
          · rw [lg_cmp_ge] at c_12
            refine lv_iconst (v := 1) hx hb dX1_address_33 (by decide) ?_
            refine lv_goto (tgt := 38) hx hb dX1_address_34 (by decide) ?_
            refine lv_istore (lv' := [(6, .int 1), (0, .ref x), (1, .int fa), (2, .long up), (4, .long lo)]) hx hb dX1_address_38 hl (by decide) rfl (fun ls hl => ?_)
            refine lv_iload hx hb dX1_address_40 (lv_at hl 0 rfl) ?_
            refine lv_if_eq (tgt := 61) hx hb dX1_address_42 (by decide) (fun c_14 => ?_) (fun c_14 => ?_)
            · exact absurd c_14 (by decide)
            · refine lv_aload_n hx hb dX1_address_45 rfl (lv_at hl 1 rfl) ?_
              refine lv_iload_n hx hb dX1_address_46 rfl (lv_at hl 2 rfl) ?_
              refine va_put (D := (dC, dI)) (ci := 1) (v := .int fa) (ty := .int) (C := RX1) (T := TX1) (N := 9) hx hb htl inX1 tyX1 tyX1_ok nmX1 hown hK hP hD hS 0 rfl rfl 6 (by decide) (htl _ flX1_26) (fun _ h9 => h9) rfl (by decide +kernel) rfl rfl (Nat.le_of_ble_eq_true rfl) dX1_address_47 (fun H_15 locs hP hD hS => ?_)
              have hP : va_P (dC, dI) classes [(x, .inr (1, [.ref a1, .ref a2, .ref a3, .ref a4, .ref a5, .int (nI k), .int fa, .long mu, .long ml])), (a1, .inl (k1, 1000, .inl f)), (a2, .inl (k2, 1000, .inl g)), (a3, .inl (k3, 1000, .inl n)), (a4, .inl (k4, 1000, .inr (.inl u))), (a5, .inl (k5, 1000, .inr (.inl w)))] H_15 := hP
              have hD : va_D A [(x, .inr (1, [.ref a1, .ref a2, .ref a3, .ref a4, .ref a5, .int (nI k), .int fa, .long mu, .long ml])), (a1, .inl (k1, 1000, .inl f)), (a2, .inl (k2, 1000, .inl g)), (a3, .inl (k3, 1000, .inl n)), (a4, .inl (k4, 1000, .inr (.inl u))), (a5, .inl (k5, 1000, .inr (.inl w)))] := hD
              refine lv_aload_n hx hb dX1_address_50 rfl (lv_at hl 1 rfl) ?_
              refine lv_lload_n hx hb dX1_address_51 rfl (lv_at hl 3 rfl) ?_
              refine va_put (D := (dC, dI)) (ci := 1) (v := .long up) (ty := .long) (C := RX1) (T := TX1) (N := 9) hx hb htl inX1 tyX1 tyX1_ok nmX1 hown hK hP hD hS 0 rfl rfl 7 (by decide) (htl _ flX1_32) (fun _ h9 => h9) rfl (by decide +kernel) rfl rfl (Nat.le_of_ble_eq_true rfl) dX1_address_52 (fun H_16 locs hP hD hS => ?_)
              have hP : va_P (dC, dI) classes [(x, .inr (1, [.ref a1, .ref a2, .ref a3, .ref a4, .ref a5, .int (nI k), .int fa, .long up, .long ml])), (a1, .inl (k1, 1000, .inl f)), (a2, .inl (k2, 1000, .inl g)), (a3, .inl (k3, 1000, .inl n)), (a4, .inl (k4, 1000, .inr (.inl u))), (a5, .inl (k5, 1000, .inr (.inl w)))] H_16 := hP
              have hD : va_D A [(x, .inr (1, [.ref a1, .ref a2, .ref a3, .ref a4, .ref a5, .int (nI k), .int fa, .long up, .long ml])), (a1, .inl (k1, 1000, .inl f)), (a2, .inl (k2, 1000, .inl g)), (a3, .inl (k3, 1000, .inl n)), (a4, .inl (k4, 1000, .inr (.inl u))), (a5, .inl (k5, 1000, .inr (.inl w)))] := hD
              refine lv_aload_n hx hb dX1_address_55 rfl (lv_at hl 1 rfl) ?_
              refine lv_lload hx hb dX1_address_56 (lv_at hl 4 rfl) ?_
              refine va_put (D := (dC, dI)) (ci := 1) (v := .long lo) (ty := .long) (C := RX1) (T := TX1) (N := 9) hx hb htl inX1 tyX1 tyX1_ok nmX1 hown hK hP hD hS 0 rfl rfl 8 (by decide) (htl _ flX1_36) (fun _ h9 => h9) rfl (by decide +kernel) rfl rfl (Nat.le_of_ble_eq_true rfl) dX1_address_58 (fun H_17 locs hP hD hS => ?_)
              have hP : va_P (dC, dI) classes [(x, .inr (1, [.ref a1, .ref a2, .ref a3, .ref a4, .ref a5, .int (nI k), .int fa, .long up, .long lo])), (a1, .inl (k1, 1000, .inl f)), (a2, .inl (k2, 1000, .inl g)), (a3, .inl (k3, 1000, .inl n)), (a4, .inl (k4, 1000, .inr (.inl u))), (a5, .inl (k5, 1000, .inr (.inl w)))] H_17 := hP
              have hD : va_D A [(x, .inr (1, [.ref a1, .ref a2, .ref a3, .ref a4, .ref a5, .int (nI k), .int fa, .long up, .long lo])), (a1, .inl (k1, 1000, .inl f)), (a2, .inl (k2, 1000, .inl g)), (a3, .inl (k3, 1000, .inl n)), (a4, .inl (k4, 1000, .inr (.inl u))), (a5, .inl (k5, 1000, .inr (.inl w)))] := hD
              refine lv_iload hx hb dX1_address_61 (lv_at hl 0 rfl) ?_
              exact mu_zret hx hb hr hlocks hS hP (by rw [if_pos (by simp [kb_addr, c_1, c_6, c_8, c_10, c_12])]) (by simp [kb_addr, b2i, c_1, c_6, c_8, c_10, c_12]) rfl dX1_address_63
set_option maxHeartbeats 4000000 in
set_option maxRecDepth 100000 in
theorem c_X1_atBad (l : Launch) (dC : Nat → ClassId) (dI : Nat → Nat → Nat) {x a1 a2 a3 a4 a5 : Nat} {k1 k2 k3 k4 k5 : ClassId} {f : Nat → Int32} {u w : Nat → Int64} {g n : Nat → Int32} {k : Nat} {mf : Int32} {mu ml : Int64} (ra : Int32) (A : Nat → Prop) (hra : ra < 0 ∨ nI k ≤ ra) (hD : va_D A (mdw x a1 a2 a3 a4 a5 k1 k2 k3 k4 k5 f u w g n k mf mu ml)) : Met l yX1_at (ww yX1_at cX1_at 3 (some .int)) ({ frames := 3, cells := 0, slots := 0, locals := 84 } : Room) (va_Pc [.ref x, .int ra] (fun U => va_P (dC, dI) classes (mdw x a1 a2 a3 a4 a5 k1 k2 k3 k4 k5 f u w g n k mf mu ml) U.heap ∧ va_K (dC, dI) classes (mdt k1 k2 k3 k4 k5) U)) (va_Qi (fun r (_ : Unit) => r = (-1)) (fun _ t => va_P (dC, dI) classes (mdw x a1 a2 a3 a4 a5 k1 k2 k3 k4 k5 f u w g n k mf mu ml) t.heap) A) 0 0 A := by
  refine Met.ofW (cc := cX1_at) (maxL := 3) (ret := (some .int)) (by decide) rfl ?_
  intro p e s m args below meth c s₁ B hml hv
  obtain ⟨rfl, hP, hK⟩ := hv
  have hS : va_S A s.heap s.heap [] := va_S.rf
  have hx := B.exec
  have hb := B.bytes
  have hr := B.returns
  have hts := atoms_spec (ws := ww yX1_at cX1_at 3 (some .int)) B.pre
  have htl : ∀ w ∈ ltg, w.before [.ref x, .int ra].toArray s = true := fun w h => hts w (List.mem_cons_of_mem _ h)
  have hown : s.vm.findClass RX1 = some m.cls := findClass_of_methodNamed B.named
  have hlocks := B.notSynchronized
  have hl := lv_entry ([.ref x, .int ra]) (n := 3) (Nat.le_of_ble_eq_true rfl)
  rw [lg_entry_eq]
  generalize (lg_sl ([.ref x, .int ra]) ++ List.replicate (3 - (lg_sl ([.ref x, .int ra])).length) Slot.unset).toArray = ls at hl ⊢
  have hl : lv_has ls 3 [(0, .ref x), (1, .int ra)] := hl
  refine lv_iload_n hx hb dX1_at_0 rfl (lv_at hl 1 rfl) ?_
  refine lv_if_lt (tgt := 12) hx hb dX1_at_1 (by decide) (fun c_1 => ?_) (fun c_1 => ?_)
  · refine lv_iconst (v := (-1)) hx hb dX1_at_12 (by decide) ?_
    exact mu_iret hx hb hr hlocks hS hP (rfl) (rfl) dX1_at_13
  · refine lv_iload_n hx hb dX1_at_4 rfl (lv_at hl 1 rfl) ?_
    refine lv_aload_n hx hb dX1_at_5 rfl (lv_at hl 0 rfl) ?_
    refine va_get (D := (dC, dI)) (ci := 1) (v := .int (nI k)) (C := RX1) (T := TX1) (N := 9) hx hb htl inX1 hown hK hP 0 rfl rfl 5 (by decide) (htl _ flX1_47) (fun _ h9 => h9) rfl dX1_at_6 ?_
    refine lv_icmp_lt (tgt := 14) hx hb dX1_at_9 (by decide) (fun c_2 => ?_) (fun c_2 => ?_)
    · exact absurd hra (fun q => q.elim c_1 (fun z => Int32.not_le.mpr c_2 z))
    · refine lv_iconst (v := (-1)) hx hb dX1_at_12 (by decide) ?_
      exact mu_iret hx hb hr hlocks hS hP (rfl) (rfl) dX1_at_13
set_option maxHeartbeats 4000000 in
set_option maxRecDepth 100000 in
theorem c_X1_atOk (l : Launch) (dC : Nat → ClassId) (dI : Nat → Nat → Nat) {x a1 a2 a3 a4 a5 : Nat} {k1 k2 k3 k4 k5 : ClassId} {f : Nat → Int32} {u w : Nat → Int64} {g n : Nat → Int32} {k : Nat} {mf : Int32} {mu ml : Int64} (rk : Nat) (A : Nat → Prop) (hj : rk < k) (hk : k ≤ 1000) (hR : kb_fst (fun q => !decide (md_ct f u w g k q = rk)) k 0 < k) (hD : va_D A (mdw x a1 a2 a3 a4 a5 k1 k2 k3 k4 k5 f u w g n k mf mu ml)) : Met l yX1_at (ww yX1_at cX1_at 3 (some .int)) ({ frames := 3, cells := 0, slots := 0, locals := 84 } : Room) (va_Pc [.ref x, .int (nI rk)] (fun U => va_P (dC, dI) classes (mdw x a1 a2 a3 a4 a5 k1 k2 k3 k4 k5 f u w g n k mf mu ml) U.heap ∧ va_K (dC, dI) classes (mdt k1 k2 k3 k4 k5) U)) (va_Qi (fun r (_ : Unit) => r = (g (kb_fst (fun q => !decide (md_ct f u w g k q = rk)) k 0))) (fun _ t => va_P (dC, dI) classes (mdw x a1 a2 a3 a4 a5 k1 k2 k3 k4 k5 f u w g n k (f (kb_fst (fun q => !decide (md_ct f u w g k q = rk)) k 0)) (u (kb_fst (fun q => !decide (md_ct f u w g k q = rk)) k 0)) (w (kb_fst (fun q => !decide (md_ct f u w g k q = rk)) k 0))) t.heap) A) 0 0 A := by
  refine Met.ofW (cc := cX1_at) (maxL := 3) (ret := (some .int)) (by decide) rfl ?_
  intro p e s m args below meth c s₁ B hml hv
  obtain ⟨rfl, hP, hK⟩ := hv
  have hS : va_S A s.heap s.heap [] := va_S.rf
  have hx := B.exec
  have hb := B.bytes
  have hr := B.returns
  have hts := atoms_spec (ws := ww yX1_at cX1_at 3 (some .int)) B.pre
  have htl : ∀ w ∈ ltg, w.before [.ref x, .int (nI rk)].toArray s = true := fun w h => hts w (List.mem_cons_of_mem _ h)
  have hown : s.vm.findClass RX1 = some m.cls := findClass_of_methodNamed B.named
  have hlocks := B.notSynchronized
  have hl := lv_entry ([.ref x, .int (nI rk)]) (n := 3) (Nat.le_of_ble_eq_true rfl)
  rw [lg_entry_eq]
  generalize (lg_sl ([.ref x, .int (nI rk)]) ++ List.replicate (3 - (lg_sl ([.ref x, .int (nI rk)])).length) Slot.unset).toArray = ls at hl ⊢
  have hl : lv_has ls 3 [(0, .ref x), (1, .int (nI rk))] := hl
  have hRP := kb_fst_in (fun q => !decide (md_ct f u w g k q = rk)) k 0
  have hRat := kb_fst_at (fun q => !decide (md_ct f u w g k q = rk)) k 0 (by omega)
  generalize hRA : kb_fst (fun q => !decide (md_ct f u w g k q = rk)) k 0 = R at hRP hRat hR ⊢
  have loop : ∀ (d i : Nat), i ≤ R → R + 1 ≤ i + d → ∀ (ls : Array Slot), lv_has ls 3 [(0, .ref x), (1, .int (nI rk)), (2, .int (nI i))] → W p l e ({ frames := 3, cells := 0, slots := 0, locals := 84 } : Room) s m ([.ref x, .int (nI rk)] : List Value).toArray below meth c s.heap [] 0 0 (MQ below (va_Qi (fun r (_ : Unit) => r = (g R)) (fun _ t => va_P (dC, dI) classes (mdw x a1 a2 a3 a4 a5 k1 k2 k3 k4 k5 f u w g n k (f R) (u R) (w R)) t.heap) A) [.ref x, .int (nI rk)].toArray s 0 0 A) (F0 m 16 ls []) := by
    intro d
    induction d with
    | zero => intro i h1 h2; exact absurd h2 (by omega)
    | succ d ih =>
      intro i hi hd ls hl
      have hcv := kb_cv_le (md_ah f u w g (f i) (u i) (w i) (g i)) k
      refine lv_aload_n hx hb dX1_at_16 rfl (lv_at hl 0 rfl) ?_
      refine lv_aload_n hx hb dX1_at_17 rfl (lv_at hl 0 rfl) ?_
      refine va_get (D := (dC, dI)) (ci := 1) (v := .ref a1) (C := RX1) (T := TX1) (N := 9) hx hb htl inX1 hown hK hP 0 rfl rfl 0 (by decide) (htl _ flX1_7) (fun _ h9 => h9) rfl dX1_at_18 ?_
      refine lv_iload_n hx hb dX1_at_21 rfl (lv_at hl 2 rfl) ?_
      refine ld_i hx hb hK hP 1 0 rfl rfl (j := i) (by omega) (Nat.le_of_ble_eq_true rfl) dX1_at_22 ?_
      refine lv_aload_n hx hb dX1_at_23 rfl (lv_at hl 0 rfl) ?_
      refine va_get (D := (dC, dI)) (ci := 1) (v := .ref a4) (C := RX1) (T := TX1) (N := 9) hx hb htl inX1 hown hK hP 0 rfl rfl 3 (by decide) (htl _ flX1_19) (fun _ h9 => h9) rfl dX1_at_24 ?_
      refine lv_iload_n hx hb dX1_at_27 rfl (lv_at hl 2 rfl) ?_
      refine ld_l hx hb hK hP 4 3 rfl rfl (j := i) (by omega) (Nat.le_of_ble_eq_true rfl) dX1_at_28 ?_
      refine lv_aload_n hx hb dX1_at_29 rfl (lv_at hl 0 rfl) ?_
      refine va_get (D := (dC, dI)) (ci := 1) (v := .ref a5) (C := RX1) (T := TX1) (N := 9) hx hb htl inX1 hown hK hP 0 rfl rfl 4 (by decide) (htl _ flX1_23) (fun _ h9 => h9) rfl dX1_at_30 ?_
      refine lv_iload_n hx hb dX1_at_33 rfl (lv_at hl 2 rfl) ?_
      refine ld_l hx hb hK hP 5 4 rfl rfl (j := i) (by omega) (Nat.le_of_ble_eq_true rfl) dX1_at_34 ?_
      refine lv_aload_n hx hb dX1_at_35 rfl (lv_at hl 0 rfl) ?_
      refine va_get (D := (dC, dI)) (ci := 1) (v := .ref a2) (C := RX1) (T := TX1) (N := 9) hx hb htl inX1 hown hK hP 0 rfl rfl 1 (by decide) (htl _ flX1_13) (fun _ h9 => h9) rfl dX1_at_36 ?_
      refine lv_iload_n hx hb dX1_at_39 rfl (lv_at hl 2 rfl) ?_
      refine ld_i hx hb hK hP 2 1 rfl rfl (j := i) (by omega) (Nat.le_of_ble_eq_true rfl) dX1_at_40 ?_
      refine ru_calli (va_runV (As := [.int (f i), .long (u i), .long (w i), .int (g i)]) (rest := []) ⟨hx, hb, hml, hown, htl⟩ (c_X1_countAhead l dC dI (f i) (u i) (w i) (g i) _ hk hP) (cwV 4 htl gX1_71 rfl rfl rfl hd_X1_countAhead ⟨Nat.le_of_ble_eq_true rfl, Nat.le_of_ble_eq_true rfl⟩) ⟨fb_ro, va_recv hK hP (ci := 1) (q0 := 0) rfl rfl, fun U hU hW => ⟨rfl, hU, va_K.moved hW.alike hK⟩⟩ rfl rfl hl.1 rfl (lv_room (Nat.le_of_ble_eq_true rfl)) dX1_at_41 ⟨Nat.le_of_ble_eq_true rfl, Nat.le_of_ble_eq_true rfl⟩) ?_
      refine lv_iload_n hx hb dX1_at_44 rfl (lv_at hl 1 rfl) ?_
      refine lv_icmp_eq (tgt := 54) hx hb dX1_at_45 (by decide) (fun c_1 => ?_) (fun c_1 => ?_)
      · rw [nI_eq (by omega) (by omega)] at c_1
        obtain rfl : i = R := by
          rcases Nat.lt_or_ge i R with z | z
          · have z1 := hRP i (Nat.zero_le i) z
            rw [show md_ct f u w g k i = rk from c_1] at z1
            simp at z1
          · omega
        refine lv_aload_n hx hb dX1_at_54 rfl (lv_at hl 0 rfl) ?_
        refine lv_aload_n hx hb dX1_at_55 rfl (lv_at hl 0 rfl) ?_
        refine va_get (D := (dC, dI)) (ci := 1) (v := .ref a1) (C := RX1) (T := TX1) (N := 9) hx hb htl inX1 hown hK hP 0 rfl rfl 0 (by decide) (htl _ flX1_7) (fun _ h9 => h9) rfl dX1_at_56 ?_
        refine lv_iload_n hx hb dX1_at_59 rfl (lv_at hl 2 rfl) ?_
        refine ld_i hx hb hK hP 1 0 rfl rfl (j := i) (by omega) (Nat.le_of_ble_eq_true rfl) dX1_at_60 ?_
        refine va_put (D := (dC, dI)) (ci := 1) (v := .int (f i)) (ty := .int) (C := RX1) (T := TX1) (N := 9) hx hb htl inX1 tyX1 tyX1_ok nmX1 hown hK hP hD hS 0 rfl rfl 6 (by decide) (htl _ flX1_26) (fun _ h9 => h9) rfl (by decide +kernel) rfl rfl (Nat.le_of_ble_eq_true rfl) dX1_at_61 (fun H_2 locs hP hD hS => ?_)
        have hP : va_P (dC, dI) classes [(x, .inr (1, [.ref a1, .ref a2, .ref a3, .ref a4, .ref a5, .int (nI k), .int (f i), .long mu, .long ml])), (a1, .inl (k1, 1000, .inl f)), (a2, .inl (k2, 1000, .inl g)), (a3, .inl (k3, 1000, .inl n)), (a4, .inl (k4, 1000, .inr (.inl u))), (a5, .inl (k5, 1000, .inr (.inl w)))] H_2 := hP
        have hD : va_D A [(x, .inr (1, [.ref a1, .ref a2, .ref a3, .ref a4, .ref a5, .int (nI k), .int (f i), .long mu, .long ml])), (a1, .inl (k1, 1000, .inl f)), (a2, .inl (k2, 1000, .inl g)), (a3, .inl (k3, 1000, .inl n)), (a4, .inl (k4, 1000, .inr (.inl u))), (a5, .inl (k5, 1000, .inr (.inl w)))] := hD
        refine lv_aload_n hx hb dX1_at_64 rfl (lv_at hl 0 rfl) ?_
        refine lv_aload_n hx hb dX1_at_65 rfl (lv_at hl 0 rfl) ?_
        refine va_get (D := (dC, dI)) (ci := 1) (v := .ref a4) (C := RX1) (T := TX1) (N := 9) hx hb htl inX1 hown hK hP 0 rfl rfl 3 (by decide) (htl _ flX1_19) (fun _ h9 => h9) rfl dX1_at_66 ?_
        refine lv_iload_n hx hb dX1_at_69 rfl (lv_at hl 2 rfl) ?_
        refine ld_l hx hb hK hP 4 3 rfl rfl (j := i) (by omega) (Nat.le_of_ble_eq_true rfl) dX1_at_70 ?_
        refine va_put (D := (dC, dI)) (ci := 1) (v := .long (u i)) (ty := .long) (C := RX1) (T := TX1) (N := 9) hx hb htl inX1 tyX1 tyX1_ok nmX1 hown hK hP hD hS 0 rfl rfl 7 (by decide) (htl _ flX1_32) (fun _ h9 => h9) rfl (by decide +kernel) rfl rfl (Nat.le_of_ble_eq_true rfl) dX1_at_71 (fun H_3 locs hP hD hS => ?_)
        have hP : va_P (dC, dI) classes [(x, .inr (1, [.ref a1, .ref a2, .ref a3, .ref a4, .ref a5, .int (nI k), .int (f i), .long (u i), .long ml])), (a1, .inl (k1, 1000, .inl f)), (a2, .inl (k2, 1000, .inl g)), (a3, .inl (k3, 1000, .inl n)), (a4, .inl (k4, 1000, .inr (.inl u))), (a5, .inl (k5, 1000, .inr (.inl w)))] H_3 := hP
        have hD : va_D A [(x, .inr (1, [.ref a1, .ref a2, .ref a3, .ref a4, .ref a5, .int (nI k), .int (f i), .long (u i), .long ml])), (a1, .inl (k1, 1000, .inl f)), (a2, .inl (k2, 1000, .inl g)), (a3, .inl (k3, 1000, .inl n)), (a4, .inl (k4, 1000, .inr (.inl u))), (a5, .inl (k5, 1000, .inr (.inl w)))] := hD
        refine lv_aload_n hx hb dX1_at_74 rfl (lv_at hl 0 rfl) ?_
        refine lv_aload_n hx hb dX1_at_75 rfl (lv_at hl 0 rfl) ?_
        refine va_get (D := (dC, dI)) (ci := 1) (v := .ref a5) (C := RX1) (T := TX1) (N := 9) hx hb htl inX1 hown hK hP 0 rfl rfl 4 (by decide) (htl _ flX1_23) (fun _ h9 => h9) rfl dX1_at_76 ?_
        refine lv_iload_n hx hb dX1_at_79 rfl (lv_at hl 2 rfl) ?_
        refine ld_l hx hb hK hP 5 4 rfl rfl (j := i) (by omega) (Nat.le_of_ble_eq_true rfl) dX1_at_80 ?_
        refine va_put (D := (dC, dI)) (ci := 1) (v := .long (w i)) (ty := .long) (C := RX1) (T := TX1) (N := 9) hx hb htl inX1 tyX1 tyX1_ok nmX1 hown hK hP hD hS 0 rfl rfl 8 (by decide) (htl _ flX1_36) (fun _ h9 => h9) rfl (by decide +kernel) rfl rfl (Nat.le_of_ble_eq_true rfl) dX1_at_81 (fun H_4 locs hP hD hS => ?_)
        have hP : va_P (dC, dI) classes [(x, .inr (1, [.ref a1, .ref a2, .ref a3, .ref a4, .ref a5, .int (nI k), .int (f i), .long (u i), .long (w i)])), (a1, .inl (k1, 1000, .inl f)), (a2, .inl (k2, 1000, .inl g)), (a3, .inl (k3, 1000, .inl n)), (a4, .inl (k4, 1000, .inr (.inl u))), (a5, .inl (k5, 1000, .inr (.inl w)))] H_4 := hP
        have hD : va_D A [(x, .inr (1, [.ref a1, .ref a2, .ref a3, .ref a4, .ref a5, .int (nI k), .int (f i), .long (u i), .long (w i)])), (a1, .inl (k1, 1000, .inl f)), (a2, .inl (k2, 1000, .inl g)), (a3, .inl (k3, 1000, .inl n)), (a4, .inl (k4, 1000, .inr (.inl u))), (a5, .inl (k5, 1000, .inr (.inl w)))] := hD
        refine lv_aload_n hx hb dX1_at_84 rfl (lv_at hl 0 rfl) ?_
        refine va_get (D := (dC, dI)) (ci := 1) (v := .ref a2) (C := RX1) (T := TX1) (N := 9) hx hb htl inX1 hown hK hP 0 rfl rfl 1 (by decide) (htl _ flX1_13) (fun _ h9 => h9) rfl dX1_at_85 ?_
        refine lv_iload_n hx hb dX1_at_88 rfl (lv_at hl 2 rfl) ?_
        refine ld_i hx hb hK hP 2 1 rfl rfl (j := i) (by omega) (Nat.le_of_ble_eq_true rfl) dX1_at_89 ?_
        exact mu_iret hx hb hr hlocks hS hP (rfl) (rfl) dX1_at_90
      · rw [nI_eq (by omega) (by omega)] at c_1
        have hne : i ≠ R := fun z => by
          rw [← z] at hRat
          simp [md_ct, c_1] at hRat
        refine lv_iinc (v := nI (i + 1)) (lv' := [(2, .int (nI (i + 1))), (0, .ref x), (1, .int (nI rk))]) hx hb dX1_at_48 hl (k := 2) rfl (by first | rfl | exact nI_1 _) (by decide) rfl (fun ls hl => ?_)
        refine lv_goto (tgt := 16) hx hb dX1_at_51 (by decide) ?_
        exact ih (i + 1) (by omega) (by omega) ls (lv_sub hl [1, 2, 0] rfl)
  refine lv_iload_n hx hb dX1_at_0 rfl (lv_at hl 1 rfl) ?_
  refine lv_if_lt (tgt := 12) hx hb dX1_at_1 (by decide) (fun c_21 => ?_) (fun c_21 => ?_)
  · exact absurd c_21 (nI_pos (by omega))
  · refine lv_iload_n hx hb dX1_at_4 rfl (lv_at hl 1 rfl) ?_
    refine lv_aload_n hx hb dX1_at_5 rfl (lv_at hl 0 rfl) ?_
    refine va_get (D := (dC, dI)) (ci := 1) (v := .int (nI k)) (C := RX1) (T := TX1) (N := 9) hx hb htl inX1 hown hK hP 0 rfl rfl 5 (by decide) (htl _ flX1_47) (fun _ h9 => h9) rfl dX1_at_6 ?_
    refine lv_icmp_lt (tgt := 14) hx hb dX1_at_9 (by decide) (fun c_22 => ?_) (fun c_22 => ?_)
    · refine lv_iconst (v := nI 0) hx hb dX1_at_14 (by decide) ?_
      refine lv_istore_n (lv' := [(2, .int (nI 0)), (0, .ref x), (1, .int (nI rk))]) hx hb dX1_at_15 rfl hl (by decide) rfl (fun ls hl => ?_)
      exact loop (R + 1) 0 (Nat.zero_le R) (by omega) ls (lv_sub hl [1, 2, 0] rfl)
    · exact absurd (nI_lt hj (by omega)) c_22
end
section
set_option maxHeartbeats 4000000 in
set_option maxRecDepth 100000 in
theorem c_X1_init (l : Launch) (dC : Nat → ClassId) (dI : Nat → Nat → Nat) (h0 sz : Nat) : Met l yX1_init (ww yX1_init cX1_init 1 none) ({ frames := 1, cells := 5, slots := 5000, locals := 12 } : Room) (va_Pc [.ref h0] (fun U => U.heap.size = sz ∧ va_P (dC, dI) classes [(h0, .inr (1, [.null, .null, .null, .null, .null, .int 0, .int 0, .long 0, .long 0]))] U.heap ∧ va_K (dC, dI) classes [] U ∧ va_D (fun _ => True) [(h0, .inr (1, [.null, .null, .null, .null, .null, .int 0, .int 0, .long 0, .long 0]))])) (va_Qv (fun (_ : Unit) => True) (fun _ t => ∃ (a1 a2 a3 a4 a5 : Nat) (k1 k2 k3 k4 k5 : ClassId), va_P (dC, dI) classes (mdw h0 a1 a2 a3 a4 a5 k1 k2 k3 k4 k5 (fun _ => 0) (fun _ => 0) (fun _ => 0) (fun _ => 0) (fun _ => 0) 0 4 0 0) t.heap ∧ va_K (dC, dI) classes (mdt k1 k2 k3 k4 k5) t ∧ va_D (va_A [(h0, .inr (1, [.null, .null, .null, .null, .null, .int 0, .int 0, .long 0, .long 0]))] sz) (mdw h0 a1 a2 a3 a4 a5 k1 k2 k3 k4 k5 (fun _ => 0) (fun _ => 0) (fun _ => 0) (fun _ => 0) (fun _ => 0) 0 4 0 0)) (va_A [(h0, .inr (1, [.null, .null, .null, .null, .null, .int 0, .int 0, .long 0, .long 0]))] sz)) 5 5000 (va_A [(h0, .inr (1, [.null, .null, .null, .null, .null, .int 0, .int 0, .long 0, .long 0]))] sz) := by
  refine Met.ofW (cc := cX1_init) (maxL := 1) (ret := none) (by decide) rfl ?_
  intro p e s m args below meth c s₁ B hml hv
  obtain ⟨rfl, hsz, hP, hK, hD0⟩ := hv
  subst hsz
  have hD := hD0.self (sz := s.heap.size)
  generalize hAe : va_A [(h0, .inr (1, [.null, .null, .null, .null, .null, .int 0, .int 0, .long 0, .long 0]))] s.heap.size = A at hD ⊢
  have hA : ∀ q : Nat, s.heap.size ≤ q → A q := fun q h => by rw [← hAe]; exact Or.inr h
  have hS : va_S A s.heap s.heap [] := va_S.rf
  have hx := B.exec
  have hb := B.bytes
  have hr := B.returns
  have hts := atoms_spec (ws := ww yX1_init cX1_init 1 none) B.pre
  have htl : ∀ w ∈ ltg, w.before [.ref h0].toArray s = true := fun w h => hts w (List.mem_cons_of_mem _ h)
  have hown : s.vm.findClass RX1 = some m.cls := findClass_of_methodNamed B.named
  have hlocks := B.notSynchronized
  have hl := lv_entry ([.ref h0]) (n := 1) (Nat.le_of_ble_eq_true rfl)
  rw [lg_entry_eq]
  generalize (lg_sl ([.ref h0]) ++ List.replicate (1 - (lg_sl ([.ref h0])).length) Slot.unset).toArray = ls at hl ⊢
  have hl : lv_has ls 1 [(0, .ref h0)] := hl
  have hin : meth.name = "<init>" := (name_of_methodNamed B.named B.method).1
  refine lv_aload_n hx hb dX1_init_0 rfl (lv_at hl 0 rfl) ?_
  refine W.objInit hx hb hown (htl _ wo_2) (htl _ wo_1) (htl _ wo_c) rfl (by rw [hml]; exact hl.1) rfl dX1_init_1 (Nat.le_of_ble_eq_true rfl) (Nat.le_of_ble_eq_true rfl) ?_
  refine W.eq (g2 := F0 m 4 ls []) rfl ?_
  refine lv_aload_n hx hb dX1_init_4 rfl (lv_at hl 0 rfl) ?_
  refine lv_sipush (v := 1000) hx hb dX1_init_5 (by decide) ?_
  refine va_newa (atype := .int) hx hb (htl _ wa_int) (ty := .int) rfl hK hP hD hS hA (n := 1000) (N' := 1000) (a0 := (1000, .inl (fun _ => 0))) (fun _ => rfl) (by decide) (by decide) (by decide) (Nat.le_of_ble_eq_true rfl) (Nat.le_of_ble_eq_true rfl) dX1_init_8 (fun a1 k1 H_1 hK hP hD hS => ?_)
  have hP : va_P (dC, dI) classes [(h0, .inr (1, [.null, .null, .null, .null, .null, .int 0, .int 0, .long 0, .long 0])), (a1, .inl (k1, 1000, .inl (fun _ => 0)))] H_1 := hP
  have hD : va_D A [(h0, .inr (1, [.null, .null, .null, .null, .null, .int 0, .int 0, .long 0, .long 0])), (a1, .inl (k1, 1000, .inl (fun _ => 0)))] := hD
  have hK : va_K (dC, dI) classes [(k1, .int)] s := hK
  refine va_putF (D := (dC, dI)) (ci := 1) (v := .ref a1) (ty := .array .int) (C := RX1) (T := TX1) (N := 9) hx hb htl inX1 tyX1 tyX1_ok nmX1 hown hK hP hD hS 0 rfl rfl 0 (by decide) (htl _ flX1_7) (fun _ h9 => h9) rfl hin rfl (by decide +kernel) rfl rfl (Nat.le_of_ble_eq_true rfl) dX1_init_10 (fun H_2 locs hP hD hS => ?_)
  have hP : va_P (dC, dI) classes [(h0, .inr (1, [.ref a1, .null, .null, .null, .null, .int 0, .int 0, .long 0, .long 0])), (a1, .inl (k1, 1000, .inl (fun _ => 0)))] H_2 := hP
  have hD : va_D A [(h0, .inr (1, [.ref a1, .null, .null, .null, .null, .int 0, .int 0, .long 0, .long 0])), (a1, .inl (k1, 1000, .inl (fun _ => 0)))] := hD
  refine lv_aload_n hx hb dX1_init_13 rfl (lv_at hl 0 rfl) ?_
  refine lv_sipush (v := 1000) hx hb dX1_init_14 (by decide) ?_
  refine va_newa (atype := .int) hx hb (htl _ wa_int) (ty := .int) rfl hK hP hD hS hA (n := 1000) (N' := 1000) (a0 := (1000, .inl (fun _ => 0))) (fun _ => rfl) (by decide) (by decide) (by decide) (Nat.le_of_ble_eq_true rfl) (Nat.le_of_ble_eq_true rfl) dX1_init_17 (fun a2 k2 H_3 hK hP hD hS => ?_)
  have hP : va_P (dC, dI) classes [(h0, .inr (1, [.ref a1, .null, .null, .null, .null, .int 0, .int 0, .long 0, .long 0])), (a1, .inl (k1, 1000, .inl (fun _ => 0))), (a2, .inl (k2, 1000, .inl (fun _ => 0)))] H_3 := hP
  have hD : va_D A [(h0, .inr (1, [.ref a1, .null, .null, .null, .null, .int 0, .int 0, .long 0, .long 0])), (a1, .inl (k1, 1000, .inl (fun _ => 0))), (a2, .inl (k2, 1000, .inl (fun _ => 0)))] := hD
  have hK : va_K (dC, dI) classes [(k1, .int), (k2, .int)] s := hK
  refine va_putF (D := (dC, dI)) (ci := 1) (v := .ref a2) (ty := .array .int) (C := RX1) (T := TX1) (N := 9) hx hb htl inX1 tyX1 tyX1_ok nmX1 hown hK hP hD hS 0 rfl rfl 1 (by decide) (htl _ flX1_13) (fun _ h9 => h9) rfl hin rfl (by decide +kernel) rfl rfl (Nat.le_of_ble_eq_true rfl) dX1_init_19 (fun H_4 locs hP hD hS => ?_)
  have hP : va_P (dC, dI) classes [(h0, .inr (1, [.ref a1, .ref a2, .null, .null, .null, .int 0, .int 0, .long 0, .long 0])), (a1, .inl (k1, 1000, .inl (fun _ => 0))), (a2, .inl (k2, 1000, .inl (fun _ => 0)))] H_4 := hP
  have hD : va_D A [(h0, .inr (1, [.ref a1, .ref a2, .null, .null, .null, .int 0, .int 0, .long 0, .long 0])), (a1, .inl (k1, 1000, .inl (fun _ => 0))), (a2, .inl (k2, 1000, .inl (fun _ => 0)))] := hD
  refine lv_aload_n hx hb dX1_init_22 rfl (lv_at hl 0 rfl) ?_
  refine lv_sipush (v := 1000) hx hb dX1_init_23 (by decide) ?_
  refine va_newa (atype := .int) hx hb (htl _ wa_int) (ty := .int) rfl hK hP hD hS hA (n := 1000) (N' := 1000) (a0 := (1000, .inl (fun _ => 0))) (fun _ => rfl) (by decide) (by decide) (by decide) (Nat.le_of_ble_eq_true rfl) (Nat.le_of_ble_eq_true rfl) dX1_init_26 (fun a3 k3 H_5 hK hP hD hS => ?_)
  have hP : va_P (dC, dI) classes [(h0, .inr (1, [.ref a1, .ref a2, .null, .null, .null, .int 0, .int 0, .long 0, .long 0])), (a1, .inl (k1, 1000, .inl (fun _ => 0))), (a2, .inl (k2, 1000, .inl (fun _ => 0))), (a3, .inl (k3, 1000, .inl (fun _ => 0)))] H_5 := hP
  have hD : va_D A [(h0, .inr (1, [.ref a1, .ref a2, .null, .null, .null, .int 0, .int 0, .long 0, .long 0])), (a1, .inl (k1, 1000, .inl (fun _ => 0))), (a2, .inl (k2, 1000, .inl (fun _ => 0))), (a3, .inl (k3, 1000, .inl (fun _ => 0)))] := hD
  have hK : va_K (dC, dI) classes [(k1, .int), (k2, .int), (k3, .int)] s := hK
  refine va_putF (D := (dC, dI)) (ci := 1) (v := .ref a3) (ty := .array .int) (C := RX1) (T := TX1) (N := 9) hx hb htl inX1 tyX1 tyX1_ok nmX1 hown hK hP hD hS 0 rfl rfl 2 (by decide) (htl _ flX1_16) (fun _ h9 => h9) rfl hin rfl (by decide +kernel) rfl rfl (Nat.le_of_ble_eq_true rfl) dX1_init_28 (fun H_6 locs hP hD hS => ?_)
  have hP : va_P (dC, dI) classes [(h0, .inr (1, [.ref a1, .ref a2, .ref a3, .null, .null, .int 0, .int 0, .long 0, .long 0])), (a1, .inl (k1, 1000, .inl (fun _ => 0))), (a2, .inl (k2, 1000, .inl (fun _ => 0))), (a3, .inl (k3, 1000, .inl (fun _ => 0)))] H_6 := hP
  have hD : va_D A [(h0, .inr (1, [.ref a1, .ref a2, .ref a3, .null, .null, .int 0, .int 0, .long 0, .long 0])), (a1, .inl (k1, 1000, .inl (fun _ => 0))), (a2, .inl (k2, 1000, .inl (fun _ => 0))), (a3, .inl (k3, 1000, .inl (fun _ => 0)))] := hD
  refine lv_aload_n hx hb dX1_init_31 rfl (lv_at hl 0 rfl) ?_
  refine lv_sipush (v := 1000) hx hb dX1_init_32 (by decide) ?_
  refine va_newa (atype := .long) hx hb (htl _ wa_long) (ty := .long) rfl hK hP hD hS hA (n := 1000) (N' := 1000) (a0 := (1000, .inr (.inl (fun _ => 0)))) (fun _ => rfl) (by decide) (by decide) (by decide) (Nat.le_of_ble_eq_true rfl) (Nat.le_of_ble_eq_true rfl) dX1_init_35 (fun a4 k4 H_7 hK hP hD hS => ?_)
  have hP : va_P (dC, dI) classes [(h0, .inr (1, [.ref a1, .ref a2, .ref a3, .null, .null, .int 0, .int 0, .long 0, .long 0])), (a1, .inl (k1, 1000, .inl (fun _ => 0))), (a2, .inl (k2, 1000, .inl (fun _ => 0))), (a3, .inl (k3, 1000, .inl (fun _ => 0))), (a4, .inl (k4, 1000, .inr (.inl (fun _ => 0))))] H_7 := hP
  have hD : va_D A [(h0, .inr (1, [.ref a1, .ref a2, .ref a3, .null, .null, .int 0, .int 0, .long 0, .long 0])), (a1, .inl (k1, 1000, .inl (fun _ => 0))), (a2, .inl (k2, 1000, .inl (fun _ => 0))), (a3, .inl (k3, 1000, .inl (fun _ => 0))), (a4, .inl (k4, 1000, .inr (.inl (fun _ => 0))))] := hD
  have hK : va_K (dC, dI) classes [(k1, .int), (k2, .int), (k3, .int), (k4, .long)] s := hK
  refine va_putF (D := (dC, dI)) (ci := 1) (v := .ref a4) (ty := .array .long) (C := RX1) (T := TX1) (N := 9) hx hb htl inX1 tyX1 tyX1_ok nmX1 hown hK hP hD hS 0 rfl rfl 3 (by decide) (htl _ flX1_19) (fun _ h9 => h9) rfl hin rfl (by decide +kernel) rfl rfl (Nat.le_of_ble_eq_true rfl) dX1_init_37 (fun H_8 locs hP hD hS => ?_)
  have hP : va_P (dC, dI) classes [(h0, .inr (1, [.ref a1, .ref a2, .ref a3, .ref a4, .null, .int 0, .int 0, .long 0, .long 0])), (a1, .inl (k1, 1000, .inl (fun _ => 0))), (a2, .inl (k2, 1000, .inl (fun _ => 0))), (a3, .inl (k3, 1000, .inl (fun _ => 0))), (a4, .inl (k4, 1000, .inr (.inl (fun _ => 0))))] H_8 := hP
  have hD : va_D A [(h0, .inr (1, [.ref a1, .ref a2, .ref a3, .ref a4, .null, .int 0, .int 0, .long 0, .long 0])), (a1, .inl (k1, 1000, .inl (fun _ => 0))), (a2, .inl (k2, 1000, .inl (fun _ => 0))), (a3, .inl (k3, 1000, .inl (fun _ => 0))), (a4, .inl (k4, 1000, .inr (.inl (fun _ => 0))))] := hD
  refine lv_aload_n hx hb dX1_init_40 rfl (lv_at hl 0 rfl) ?_
  refine lv_sipush (v := 1000) hx hb dX1_init_41 (by decide) ?_
  refine va_newa (atype := .long) hx hb (htl _ wa_long) (ty := .long) rfl hK hP hD hS hA (n := 1000) (N' := 1000) (a0 := (1000, .inr (.inl (fun _ => 0)))) (fun _ => rfl) (by decide) (by decide) (by decide) (Nat.le_of_ble_eq_true rfl) (Nat.le_of_ble_eq_true rfl) dX1_init_44 (fun a5 k5 H_9 hK hP hD hS => ?_)
  have hP : va_P (dC, dI) classes [(h0, .inr (1, [.ref a1, .ref a2, .ref a3, .ref a4, .null, .int 0, .int 0, .long 0, .long 0])), (a1, .inl (k1, 1000, .inl (fun _ => 0))), (a2, .inl (k2, 1000, .inl (fun _ => 0))), (a3, .inl (k3, 1000, .inl (fun _ => 0))), (a4, .inl (k4, 1000, .inr (.inl (fun _ => 0)))), (a5, .inl (k5, 1000, .inr (.inl (fun _ => 0))))] H_9 := hP
  have hD : va_D A [(h0, .inr (1, [.ref a1, .ref a2, .ref a3, .ref a4, .null, .int 0, .int 0, .long 0, .long 0])), (a1, .inl (k1, 1000, .inl (fun _ => 0))), (a2, .inl (k2, 1000, .inl (fun _ => 0))), (a3, .inl (k3, 1000, .inl (fun _ => 0))), (a4, .inl (k4, 1000, .inr (.inl (fun _ => 0)))), (a5, .inl (k5, 1000, .inr (.inl (fun _ => 0))))] := hD
  have hK : va_K (dC, dI) classes [(k1, .int), (k2, .int), (k3, .int), (k4, .long), (k5, .long)] s := hK
  refine va_putF (D := (dC, dI)) (ci := 1) (v := .ref a5) (ty := .array .long) (C := RX1) (T := TX1) (N := 9) hx hb htl inX1 tyX1 tyX1_ok nmX1 hown hK hP hD hS 0 rfl rfl 4 (by decide) (htl _ flX1_23) (fun _ h9 => h9) rfl hin rfl (by decide +kernel) rfl rfl (Nat.le_of_ble_eq_true rfl) dX1_init_46 (fun H_10 locs hP hD hS => ?_)
  have hP : va_P (dC, dI) classes [(h0, .inr (1, [.ref a1, .ref a2, .ref a3, .ref a4, .ref a5, .int 0, .int 0, .long 0, .long 0])), (a1, .inl (k1, 1000, .inl (fun _ => 0))), (a2, .inl (k2, 1000, .inl (fun _ => 0))), (a3, .inl (k3, 1000, .inl (fun _ => 0))), (a4, .inl (k4, 1000, .inr (.inl (fun _ => 0)))), (a5, .inl (k5, 1000, .inr (.inl (fun _ => 0))))] H_10 := hP
  have hD : va_D A [(h0, .inr (1, [.ref a1, .ref a2, .ref a3, .ref a4, .ref a5, .int 0, .int 0, .long 0, .long 0])), (a1, .inl (k1, 1000, .inl (fun _ => 0))), (a2, .inl (k2, 1000, .inl (fun _ => 0))), (a3, .inl (k3, 1000, .inl (fun _ => 0))), (a4, .inl (k4, 1000, .inr (.inl (fun _ => 0)))), (a5, .inl (k5, 1000, .inr (.inl (fun _ => 0))))] := hD
  refine lv_aload_n hx hb dX1_init_49 rfl (lv_at hl 0 rfl) ?_
  refine lv_iconst (v := 4) hx hb dX1_init_50 (by decide) ?_
  refine va_put (D := (dC, dI)) (ci := 1) (v := .int 4) (ty := .int) (C := RX1) (T := TX1) (N := 9) hx hb htl inX1 tyX1 tyX1_ok nmX1 hown hK hP hD hS 0 rfl rfl 6 (by decide) (htl _ flX1_26) (fun _ h9 => h9) rfl (by decide +kernel) rfl rfl (Nat.le_of_ble_eq_true rfl) dX1_init_51 (fun H_11 locs hP hD hS => ?_)
  have hP : va_P (dC, dI) classes [(h0, .inr (1, [.ref a1, .ref a2, .ref a3, .ref a4, .ref a5, .int 0, .int 4, .long 0, .long 0])), (a1, .inl (k1, 1000, .inl (fun _ => 0))), (a2, .inl (k2, 1000, .inl (fun _ => 0))), (a3, .inl (k3, 1000, .inl (fun _ => 0))), (a4, .inl (k4, 1000, .inr (.inl (fun _ => 0)))), (a5, .inl (k5, 1000, .inr (.inl (fun _ => 0))))] H_11 := hP
  have hD : va_D A [(h0, .inr (1, [.ref a1, .ref a2, .ref a3, .ref a4, .ref a5, .int 0, .int 4, .long 0, .long 0])), (a1, .inl (k1, 1000, .inl (fun _ => 0))), (a2, .inl (k2, 1000, .inl (fun _ => 0))), (a3, .inl (k3, 1000, .inl (fun _ => 0))), (a4, .inl (k4, 1000, .inr (.inl (fun _ => 0)))), (a5, .inl (k5, 1000, .inr (.inl (fun _ => 0))))] := hD
  refine W.widen (k := 5) (n := 5000) (Nat.le_of_ble_eq_true rfl) (Nat.le_of_ble_eq_true rfl) ?_
  exact W.vret hx hb hr (fun t ht hW => ⟨⟨(), rfl, trivial, a1, a2, a3, a4, a5, k1, k2, k3, k4, k5, by show va_P _ _ _ t.heap; rw [ht]; exact hP, va_K.moved hW.alike hK, hD⟩, hS.F ht⟩) hS.2.2 dX1_init_54
end
section
/-! PURE: bits. gb x i is the bit i of x -/
def gb (x : Int64) (i : Nat) : Bool := x.toBitVec.getLsbD i
theorem gb_ext {x y : Int64} (h : ∀ i, i < 64 → gb x i = gb y i) : x = y := Int64.toBitVec_inj.mp (BitVec.eq_of_getLsbD_eq (fun i hi => h i hi))
theorem gb_0 (i : Nat) : gb 0 i = false := by unfold gb; rw [Int64.toBitVec_zero]; exact BitVec.getLsbD_zero
theorem gb_and (x y : Int64) (i : Nat) : gb (x &&& y) i = (gb x i && gb y i) := by unfold gb; rw [Int64.toBitVec_and, BitVec.getLsbD_and]
theorem gb_xor (x y : Int64) (i : Nat) : gb (x ^^^ y) i = (gb x i ^^ gb y i) := by unfold gb; rw [Int64.toBitVec_xor, BitVec.getLsbD_xor]
theorem gb_m1 : ∀ i, i < 64 → gb (-1) i = true := by decide +kernel
theorem gb_zero_iff {x : Int64} : x = 0 ↔ ∀ i, i < 64 → gb x i = false :=
  ⟨fun h i _ => by rw [h, gb_0], fun h => gb_ext (fun i hi => by rw [h i hi, gb_0])⟩
set_option maxRecDepth 100000 in
theorem gb_first_mid : ∀ t, t < 64 → 0 < t → ∀ i, i < 64 → gb (kb_first (nI t)) i = decide (64 ≤ i + t) := by decide +kernel
theorem gb_first (b : Int32) (i : Nat) (hi : i < 64) : gb (kb_first b) i = decide ((64 : Int) ≤ i + b.toInt) := by
  by_cases h1 : 0 < b
  · by_cases h2 : b < 64
    · have h3 : ¬ b < 0 := fun q => by
        rw [Int32.lt_iff_toInt_lt] at h1 q
        omega
      obtain ⟨t, ht, rfl⟩ := nI_of h3
      have h4 : nI t < nI 64 := h2
      have h5 : nI 0 < nI t := h1
      rw [nI_ltI ht (by omega)] at h4
      rw [nI_ltI (by omega) ht] at h5
      rw [gb_first_mid t h4 h5 i hi, nI_toInt ht, decide_eq_decide]
      omega
    · have e : kb_first b = -1 := by unfold kb_first; rw [if_pos h1, if_neg h2]
      rw [e, gb_m1 i hi]
      rw [Int32.lt_iff_toInt_lt] at h2
      have h6 : (64 : Int32).toInt = 64 := by decide
      rw [h6] at h2
      exact (decide_eq_true (by omega)).symm
  · have e : kb_first b = 0 := by unfold kb_first; rw [if_neg h1]
    rw [e, gb_0]
    rw [Int32.lt_iff_toInt_lt] at h1
    have h6 : (0 : Int32).toInt = 0 := by decide
    rw [h6] at h1
    exact (decide_eq_false (by omega)).symm
theorem gb_pre (x : Int64) (b : Int32) : (x &&& (kb_first b ^^^ (-1)) = 0) ↔ ∀ i : Nat, i < 64 → (i : Int) + b.toInt < 64 → gb x i = false := by
  rw [gb_zero_iff]
  constructor
  · intro h i hi hb
    have h1 := h i hi
    rw [gb_and, gb_xor, gb_first b i hi, gb_m1 i hi, decide_eq_false (by omega)] at h1
    simpa using h1
  · intro h i hi
    rw [gb_and, gb_xor, gb_first b i hi, gb_m1 i hi]
    by_cases hb : (64 : Int) ≤ i + b.toInt
    · rw [decide_eq_true hb]; simp
    · rw [h i hi (by omega)]; rfl
theorem gb_cov (x y : Int64) (b : Int32) : ((x ^^^ y) &&& kb_first b = 0) ↔ ∀ i : Nat, i < 64 → (64 : Int) ≤ i + b.toInt → gb x i = gb y i := by
  rw [gb_zero_iff]
  constructor
  · intro h i hi hb
    have h1 := h i hi
    rw [gb_and, gb_xor, gb_first b i hi, decide_eq_true hb] at h1
    simpa using h1
  · intro h i hi
    rw [gb_and, gb_xor, gb_first b i hi]
    by_cases hb : (64 : Int) ≤ i + b.toInt
    · rw [h i hi hb]; simp
    · rw [decide_eq_false hb]; simp
/-- a bit by a shift -/
theorem sh_c : ∀ t, t < 64 → (((nI t).toInt64 &&& 63).toBitVec.smod 64).toNat = t := by decide +kernel
theorem and1 (y : Int64) : (y &&& 1).toInt32 = b2i (gb y 0) := by
  have h : (y &&& 1) = if gb y 0 = true then 1 else 0 := by
    apply gb_ext
    intro i hi
    rw [gb_and]
    by_cases h0 : i = 0
    · subst h0
      have e1 : gb 1 0 = true := by decide
      rw [e1, Bool.and_true]
      cases hb : gb y 0
      · rw [if_neg (by decide), gb_0]
      · rw [if_pos rfl, e1]
    · have e2 : gb 1 i = false := by
        have : ∀ i, i < 64 → i ≠ 0 → gb 1 i = false := by decide +kernel
        exact this i hi h0
      rw [e2, Bool.and_false]
      by_cases hb : gb y 0 = true
      · rw [if_pos hb, e2]
      · rw [if_neg hb, gb_0]
  rw [h]
  unfold b2i
  by_cases hb : gb y 0 = true
  · rw [if_pos hb, if_pos hb]; decide
  · rw [if_neg hb, if_neg hb]; decide
theorem sh_1 (x : Int64) (t : Nat) (ht : t < 64) : ((x >>> ((nI t).toInt64 &&& 63)) &&& 1).toInt32 = b2i (gb x t) := by
  rw [and1]
  congr 1
  unfold gb
  rw [Int64.toBitVec_shiftRight, BitVec.sshiftRight_eq', sh_c t ht, BitVec.getLsbD_sshiftRight]
  simp [ht]
theorem sub_nI {a i : Nat} (h : i ≤ a) : nI a - nI i = nI (a - i) := pk_sub h
theorem bit_4 (u l : Int64) (i : Nat) (h : i < 32) : md_bit 4 u l (nI i) = b2i (gb l (31 - i)) := by
  unfold md_bit
  rw [if_pos rfl, show (31 : Int32) = nI 31 from rfl, sub_nI (by omega), sh_1 _ _ (by omega)]
theorem bit_6a {fa : Int32} (hf : ¬ fa = 4) (u l : Int64) (i : Nat) (h : i < 64) : md_bit fa u l (nI i) = b2i (gb u (63 - i)) := by
  unfold md_bit
  have h1 : ¬ (64 : Int32) ≤ nI i := nI_ge (a := i) (b := 64) h (by omega)
  rw [if_neg hf, if_neg h1, show (63 : Int32) = nI 63 from rfl, sub_nI (by omega), sh_1 _ _ (by omega)]
theorem bit_6b {fa : Int32} (hf : ¬ fa = 4) (u l : Int64) (i : Nat) (h : 64 ≤ i) (h2 : i < 128) : md_bit fa u l (nI i) = b2i (gb l (127 - i)) := by
  unfold md_bit
  have h1 : (64 : Int32) ≤ nI i := nI_le (a := 64) (b := i) h (by omega)
  rw [if_neg hf, if_pos h1, show (127 : Int32) = nI 127 from rfl, sub_nI (by omega), sh_1 _ _ (by omega)]
theorem b2i_inj {a b : Bool} : b2i a = b2i b ↔ a = b := by cases a <;> cases b <;> decide
/-- the two tests of a prefix agree -/
theorem pre_eq (mf : Int32) (mu ml : Int64) (le : Int32) : md_pre mf mu ml le = kb_pre mf mu ml le := by
  unfold md_pre kb_pre
  cases hlen : kb_len mf le with
  | false => rfl
  | true =>
    rw [Bool.true_and, Bool.true_and]
    obtain ⟨e, hb⟩ := kb_len_nI hlen
    generalize le.toNatClampNeg = a at e hb
    subst e
    rw [Bool.eq_iff_iff, md_z_iff, Bool.and_eq_true, decide_eq_true_eq, decide_eq_true_eq, gb_pre, gb_pre]
    by_cases hm : mf = 4
    · rw [if_pos hm] at hb ⊢
      subst hm
      have e1 : kb_bits 4 (nI a) = nI (96 + a) := by
        unfold kb_bits; rw [if_pos rfl]; exact nI_add 96 a
      have e2 : nI (96 + a) - 64 = nI (32 + a) := by
        rw [show (64 : Int32) = nI 64 from rfl, sub_nI (by omega)]
        congr 1; omega
      rw [e1, e2, nI_toInt (by omega), nI_toInt (by omega)]
      constructor
      · intro h
        refine ⟨fun i h1 h2 => by omega, fun i h1 h2 => ?_⟩
        have h3 := h (31 - i) (by omega) (by omega)
        rw [decide_eq_true_eq, bit_4 _ _ _ (by omega), b2i_0, show 31 - (31 - i) = i by omega] at h3
        exact h3
      · intro h j h1 h2
        rw [decide_eq_true_eq, bit_4 _ _ _ (by omega), b2i_0]
        exact h.2 (31 - j) (by omega) (by omega)
    · rw [if_neg hm] at hb ⊢
      have e1 : kb_bits mf (nI a) = nI a := by unfold kb_bits; rw [if_neg hm]
      have e2 : (nI a - 64).toInt = (a : Int) - 64 := pk_sub_toInt (a := a) (b := 64) (by omega) (by omega)
      rw [e1, e2, nI_toInt (by omega)]
      constructor
      · intro h
        refine ⟨fun i h1 h2 => ?_, fun i h1 h2 => ?_⟩
        · have h3 := h (63 - i) (by omega) (by omega)
          rw [decide_eq_true_eq, bit_6a hm _ _ _ (by omega), b2i_0, show 63 - (63 - i) = i by omega] at h3
          exact h3
        · have h3 := h (127 - i) (by omega) (by omega)
          rw [decide_eq_true_eq, bit_6b hm _ _ _ (by omega) (by omega), b2i_0, show 127 - (127 - i) = i by omega] at h3
          exact h3
      · intro h j h1 h2
        rw [decide_eq_true_eq]
        by_cases hj : j < 64
        · rw [bit_6a hm _ _ _ hj, b2i_0]
          exact h.1 (63 - j) (by omega) (by omega)
        · rw [bit_6b hm _ _ _ (by omega) (by omega), b2i_0]
          exact h.2 (127 - j) (by omega) (by omega)
theorem addr_4 {up lo : Int64} (h : kb_addr 4 up lo = true) : up = 0 ∧ ∀ i, 32 ≤ i → gb lo i = false := by
  unfold kb_addr at h
  rw [if_pos rfl, Bool.and_eq_true, Bool.and_eq_true, Bool.not_eq_true', Bool.not_eq_true', decide_eq_true_eq, decide_eq_false_iff_not, decide_eq_false_iff_not] at h
  obtain ⟨h1, h2, h3⟩ := h
  refine ⟨h1, fun i hi => ?_⟩
  rw [Int64.lt_iff_toInt_lt] at h2
  rw [Int64.le_iff_toInt_le] at h3
  have e0 : (0 : Int64).toInt = 0 := by decide
  have e1 : (4294967296 : Int64).toInt = 4294967296 := by decide
  rw [e0] at h2
  rw [e1] at h3
  have h4 : lo.toBitVec.toNat < 2 ^ 32 := by
    have h5 := BitVec.toInt_eq_toNat_cond lo.toBitVec
    rw [Int64.toInt_toBitVec] at h5
    have h6 := lo.toBitVec.isLt
    by_cases h7 : 2 * lo.toBitVec.toNat < 2 ^ 64
    · rw [if_pos h7] at h5
      omega
    · rw [if_neg h7] at h5
      omega
  unfold gb
  rw [← BitVec.testBit_toNat]
  exact Nat.testBit_lt_two_pow (Nat.lt_of_lt_of_le h4 (Nat.pow_le_pow_right (by omega) hi))
/-- the two tests of covering agree, where entry and address are as they must be -/
theorem cov_eq (f : Nat → Int32) (u w : Nat → Int64) (g : Nat → Int32) (mf : Int32) (mu ml : Int64) (j : Nat) (hm : kb_addr mf mu ml = true) (ha : kb_addr (f j) (u j) (w j) = true) (hl : kb_len (f j) (g j) = true) : md_cov f u w g mf mu ml j = kb_cov f u w g mf mu ml j := by
  unfold md_cov kb_cov
  by_cases hf : f j = mf
  · rw [hf] at ha hl
    rw [hf, decide_eq_true rfl, Bool.true_and, Bool.true_and]
    obtain ⟨e, hb⟩ := kb_len_nI hl
    generalize (g j).toNatClampNeg = a at e hb
    rw [e, Bool.eq_iff_iff, md_z_iff, Bool.and_eq_true, decide_eq_true_eq, decide_eq_true_eq, gb_cov, gb_cov]
    by_cases h4 : mf = 4
    · rw [if_pos h4] at hb
      subst h4
      obtain ⟨u1, w1⟩ := addr_4 ha
      obtain ⟨u2, w2⟩ := addr_4 hm
      have e1 : kb_bits 4 (nI a) = nI (96 + a) := by
        unfold kb_bits; rw [if_pos rfl]; exact nI_add 96 a
      have e2 : nI (96 + a) - 64 = nI (32 + a) := by
        rw [show (64 : Int32) = nI 64 from rfl, sub_nI (by omega)]
        congr 1; omega
      rw [e1, e2, nI_toInt (by omega), nI_toInt (by omega)]
      constructor
      · intro h
        refine ⟨fun i h1 h2 => by rw [u1, u2], fun i h1 h2 => ?_⟩
        by_cases hi : i < 32
        · have h3 := h (31 - i) (by omega) (by omega)
          rw [decide_eq_true_eq, bit_4 _ _ _ (by omega), bit_4 _ _ _ (by omega), b2i_inj, show 31 - (31 - i) = i by omega] at h3
          exact h3
        · rw [w1 i (by omega), w2 i (by omega)]
      · intro h q h1 h2
        rw [decide_eq_true_eq, bit_4 _ _ _ (by omega), bit_4 _ _ _ (by omega), b2i_inj]
        exact h.2 (31 - q) (by omega) (by omega)
    · rw [if_neg h4] at hb
      have e1 : kb_bits mf (nI a) = nI a := by unfold kb_bits; rw [if_neg h4]
      have e2 : (nI a - 64).toInt = (a : Int) - 64 := pk_sub_toInt (a := a) (b := 64) (by omega) (by omega)
      rw [e1, e2, nI_toInt (by omega)]
      constructor
      · intro h
        refine ⟨fun i h1 h2 => ?_, fun i h1 h2 => ?_⟩
        · have h3 := h (63 - i) (by omega) (by omega)
          rw [decide_eq_true_eq, bit_6a h4 _ _ _ (by omega), bit_6a h4 _ _ _ (by omega), b2i_inj, show 63 - (63 - i) = i by omega] at h3
          exact h3
        · have h3 := h (127 - i) (by omega) (by omega)
          rw [decide_eq_true_eq, bit_6b h4 _ _ _ (by omega) (by omega), bit_6b h4 _ _ _ (by omega) (by omega), b2i_inj, show 127 - (127 - i) = i by omega] at h3
          exact h3
      · intro h q h1 h2
        rw [decide_eq_true_eq]
        by_cases hq : q < 64
        · rw [bit_6a h4 _ _ _ hq, bit_6a h4 _ _ _ hq, b2i_inj]
          exact h.1 (63 - q) (by omega) (by omega)
        · rw [bit_6b h4 _ _ _ (by omega) (by omega), bit_6b h4 _ _ _ (by omega) (by omega), b2i_inj]
          exact h.2 (127 - q) (by omega) (by omega)
  · rw [decide_eq_false hf, Bool.false_and, Bool.false_and]
theorem cmp_lt {y z : Int64} : md_cmp y z < 0 ↔ un y < un z := by
  have h1 := un_flip y
  have h2 := un_flip z
  unfold md_cmp
  simp only [Int64.le_iff_toInt_le, h1, h2]
  by_cases a : (un z : Int) - 9223372036854775808 ≤ (un y : Int) - 9223372036854775808
  · rw [if_pos a]
    by_cases b : (un y : Int) - 9223372036854775808 ≤ (un z : Int) - 9223372036854775808
    · rw [if_pos b]; exact ⟨fun q => absurd q (by decide), fun q => by omega⟩
    · rw [if_neg b]; exact ⟨fun q => absurd q (by decide), fun q => by omega⟩
  · rw [if_neg a]; exact ⟨fun q => by omega, fun q => by decide⟩
theorem cmp_eq {y z : Int64} : md_cmp y z = 0 ↔ y = z := by
  have h1 := un_flip y
  have h2 := un_flip z
  rw [← un_inj]
  unfold md_cmp
  simp only [Int64.le_iff_toInt_le, h1, h2]
  by_cases a : (un z : Int) - 9223372036854775808 ≤ (un y : Int) - 9223372036854775808
  · rw [if_pos a]
    by_cases b : (un y : Int) - 9223372036854775808 ≤ (un z : Int) - 9223372036854775808
    · rw [if_pos b]; exact ⟨fun _ => by omega, fun _ => rfl⟩
    · rw [if_neg b]; exact ⟨fun q => absurd q (by decide), fun q => by omega⟩
  · rw [if_neg a]; exact ⟨fun q => absurd q (by decide), fun q => by omega⟩
theorem ah_eq (f : Nat → Int32) (u w : Nat → Int64) (g : Nat → Int32) (fa : Int32) (up lo : Int64) (le : Int32) (j : Nat) : md_ah f u w g fa up lo le j = kb_ah f u w g fa up lo le j := by
  unfold md_ah kb_ah md_low
  by_cases h1 : f j = fa
  · rw [if_pos h1, if_pos h1]
    by_cases h2 : u j = up
    · rw [if_pos h2, if_pos (cmp_eq.mpr h2)]
      by_cases h3 : w j = lo
      · rw [if_pos h3, if_pos (cmp_eq.mpr h3), cmp_eq.mpr h3, if_neg (by decide)]
      · rw [if_neg h3, if_neg (fun q => h3 (cmp_eq.mp q))]
        by_cases h4 : un (w j) < un lo
        · rw [if_pos (cmp_lt.mpr h4), kb_below_iff.mpr h4]
        · rw [if_neg (fun q => h4 (cmp_lt.mp q))]
          cases hb : kb_below (w j) lo
          · rfl
          · exact absurd (kb_below_iff.mp hb) h4
    · rw [if_neg h2, if_neg (fun q => h2 (cmp_eq.mp q)), if_neg (fun q => h2 (cmp_eq.mp q))]
      by_cases h4 : un (u j) < un up
      · rw [if_pos (cmp_lt.mpr h4), kb_below_iff.mpr h4]
      · rw [if_neg (fun q => h4 (cmp_lt.mp q))]
        cases hb : kb_below (u j) up
        · rfl
        · exact absurd (kb_below_iff.mp hb) h4
  · rw [if_neg h1, if_neg h1]
end
section
/-! PURE: the class's rows and the reference's rows are the same up to order -/
abbrev Ent : Type := Int32 × Int64 × Int64 × Int32 × Int32
def ro5 (f : Nat → Int32) (u w : Nat → Int64) (g n : Nat → Int32) : Nat → Ent := fun j => (f j, u j, w j, g j, n j)
def rows (e : Nat → Ent) (k : Nat) : List Ent := (List.range k).map e
theorem rows_0 (e : Nat → Ent) : rows e 0 = [] := rfl
theorem rows_s (e : Nat → Ent) (k : Nat) : rows e (k + 1) = rows e k ++ [e k] := by
  unfold rows
  rw [List.range_succ, List.map_append]
  rfl
theorem rows_in {e : Nat → Ent} {k : Nat} {x : Ent} : x ∈ rows e k ↔ ∃ j, j < k ∧ e j = x := by
  unfold rows
  rw [List.mem_map]
  constructor
  · rintro ⟨j, h1, h2⟩
    exact ⟨j, List.mem_range.mp h1, h2⟩
  · rintro ⟨j, h1, h2⟩
    exact ⟨j, List.mem_range.mpr h1, h2⟩
theorem rows_c {e e' : Nat → Ent} {k : Nat} (h : ∀ j, j < k → e j = e' j) : rows e k = rows e' k := by
  unfold rows
  exact List.map_congr_left (fun j hj => h j (List.mem_range.mp hj))
/-- a row put in at r -/
theorem rows_ins {e e' : Nat → Ent} {r : Nat} {x : Ent} (h1 : ∀ j, j < r → e' j = e j) (h2 : e' r = x) : ∀ k, r ≤ k → (∀ j, r ≤ j → j < k → e' (j + 1) = e j) → (rows e' (k + 1)).Perm (rows e k ++ [x]) := by
  intro k hk
  induction k with
  | zero =>
    intro h3
    obtain rfl : r = 0 := by omega
    rw [rows_s, rows_0, rows_0, h2]
  | succ k ih =>
    intro h3
    by_cases hr : r = k + 1
    · subst hr
      rw [rows_s e' (k + 1), h2, rows_c h1]
    · have q := ih (by omega) (fun j a b => h3 j a (by omega))
      rw [rows_s e' (k + 1), rows_s e k, h3 k (by omega) (by omega)]
      refine (List.Perm.append_right _ q).trans ?_
      rw [List.append_assoc, List.append_assoc]
      exact List.Perm.append_left _ (List.Perm.swap _ _ [])
theorem rows_del {e e' : Nat → Ent} {r k : Nat} (hr : r < k) (h1 : ∀ j, j < r → e' j = e j) (h3 : ∀ j, r ≤ j → j + 1 < k → e' j = e (j + 1)) : (rows e k).Perm (rows e' (k - 1) ++ [e r]) := by
  obtain ⟨m, rfl⟩ : ∃ m, k = m + 1 := ⟨k - 1, by omega⟩
  exact rows_ins (fun j h => (h1 j h).symm) rfl m (by omega) (fun j a b => (h3 j a (by omega)).symm)
/-- a row taken out of both -/
theorem rows_del2 {e e' d d' : Nat → Ent} {r q k : Nat} (hp : (rows e k).Perm (rows d k)) (hr : r < k) (hq : q < k) (heq : e r = d q) (h1 : ∀ j, j < r → e' j = e j) (h3 : ∀ j, r ≤ j → j + 1 < k → e' j = e (j + 1)) (g1 : ∀ j, j < q → d' j = d j) (g3 : ∀ j, q ≤ j → j + 1 < k → d' j = d (j + 1)) : (rows e' (k - 1)).Perm (rows d' (k - 1)) := by
  have a := rows_del hr h1 h3
  have b := rows_del hq g1 g3
  have c := (a.symm.trans hp).trans b
  rw [heq] at c
  exact (List.perm_append_right_iff _).mp c
/-- a row changed in both -/
theorem rows_set2 {e e' d d' : Nat → Ent} {r q k : Nat} {x : Ent} (hp : (rows e k).Perm (rows d k)) (hr : r < k) (hq : q < k) (heq : e r = d q) (h1 : ∀ j, j ≠ r → e' j = e j) (h2 : e' r = x) (g1 : ∀ j, j ≠ q → d' j = d j) (g2 : d' q = x) : (rows e' k).Perm (rows d' k) := by
  have c := rows_del2 (e' := fun j => if j < r then e j else e (j + 1)) (d' := fun j => if j < q then d j else d (j + 1)) hp hr hq heq (fun j h => if_pos h) (fun j h _ => if_neg (by omega)) (fun j h => if_pos h) (fun j h _ => if_neg (by omega))
  have a := rows_del (e := e') (e' := fun j => if j < r then e j else e (j + 1)) hr (fun j h => by show (if j < r then e j else e (j + 1)) = e' j; rw [if_pos h, h1 j (by omega)]) (fun j h _ => by show (if j < r then e j else e (j + 1)) = e' (j + 1); rw [if_neg (by omega), h1 (j + 1) (by omega)])
  have b := rows_del (e := d') (e' := fun j => if j < q then d j else d (j + 1)) hq (fun j h => by show (if j < q then d j else d (j + 1)) = d' j; rw [if_pos h, g1 j (by omega)]) (fun j h _ => by show (if j < q then d j else d (j + 1)) = d' (j + 1); rw [if_neg (by omega), g1 (j + 1) (by omega)])
  rw [h2] at a
  rw [g2] at b
  exact (a.trans (List.Perm.append_right _ c)).trans b.symm
/-- counts -/
theorem cv_rows (p : Ent → Bool) (e : Nat → Ent) : ∀ k, kb_cv (fun j => p (e j)) k = (rows e k).countP p
  | 0 => rfl
  | k + 1 => by
    rw [rows_s, List.countP_append, ← cv_rows p e k, List.countP_singleton]
    show (if p (e k) = true then kb_cv (fun j => p (e j)) k + 1 else kb_cv (fun j => p (e j)) k) = _
    by_cases h : p (e k) = true
    · rw [if_pos h, if_pos h]
    · rw [if_neg h, if_neg h]; rfl
theorem cv_c {c c' : Nat → Bool} : ∀ k, (∀ j, j < k → c j = c' j) → kb_cv c k = kb_cv c' k
  | 0, _ => rfl
  | k + 1, h => by
    have q := cv_c k (fun j hj => h j (by omega))
    unfold kb_cv
    rw [q, h k (by omega)]
theorem lg_c {c c' : Nat → Bool} {g : Nat → Int32} : ∀ k, (∀ j, j < k → c j = c' j) → kb_lg c g k = kb_lg c' g k
  | 0, _ => rfl
  | k + 1, h => by
    have q := lg_c (g := g) k (fun j hj => h j (by omega))
    unfold kb_lg
    rw [q, h k (by omega)]
theorem cv_cut {c : Nat → Bool} {r : Nat} : ∀ k, r ≤ k → (∀ j, j < r → c j = true) → (∀ j, r ≤ j → j < k → c j = false) → kb_cv c k = r
  | 0, h, _, _ => by
    have : r = 0 := by omega
    rw [this]; rfl
  | k + 1, h, h1, h2 => by
    by_cases hr : r = k + 1
    · have q := cv_cut (c := c) (r := k) k (Nat.le_refl k) (fun j hj => h1 j (by omega)) (fun j a b => by omega)
      unfold kb_cv
      rw [if_pos (h1 k (by omega)), q, hr]
    · have q := cv_cut (c := c) (r := r) k (by omega) h1 (fun j a b => h2 j a (by omega))
      unfold kb_cv
      rw [if_neg (by rw [h2 k (by omega) (by omega)]; decide), q]
theorem lg_char (c : Nat → Bool) (g : Nat → Int32) : ∀ k, (kb_lg c g k = (-1) ∨ ∃ j, j < k ∧ c j = true ∧ g j = kb_lg c g k) ∧ (∀ j, j < k → c j = true → (g j).toInt ≤ (kb_lg c g k).toInt) ∧ (-1 : Int) ≤ (kb_lg c g k).toInt
  | 0 => ⟨Or.inl rfl, fun j h => absurd h (by omega), by show (-1 : Int) ≤ (-1 : Int32).toInt; decide⟩
  | k + 1 => by
    obtain ⟨h1, h2, h3⟩ := lg_char c g k
    unfold kb_lg
    by_cases h : c k = true ∧ ¬ g k ≤ kb_lg c g k
    · rw [if_pos h]
      have h4 := h.2
      rw [Int32.le_iff_toInt_le] at h4
      refine ⟨Or.inr ⟨k, by omega, h.1, rfl⟩, fun j hj hc => ?_, by omega⟩
      by_cases e : j = k
      · rw [e]; exact Int.le_refl _
      · have := h2 j (by omega) hc
        omega
    · rw [if_neg h]
      refine ⟨?_, fun j hj hc => ?_, h3⟩
      · rcases h1 with h1 | ⟨j, a, b⟩
        · exact Or.inl h1
        · exact Or.inr ⟨j, by omega, b⟩
      · by_cases e : j = k
        · subst e
          have h5 : g j ≤ kb_lg c g j := Classical.byContradiction (fun q => h ⟨hc, q⟩)
          rw [Int32.le_iff_toInt_le] at h5
          exact h5
        · exact h2 j (by omega) hc
/-- what an entry must be -/
def ekey (e : Ent) : Int := kb_key e.1 e.2.1 e.2.2.1 e.2.2.2.1
def eok (e : Ent) : Prop := kb_addr e.1 e.2.1 e.2.2.1 = true ∧ kb_pre e.1 e.2.1 e.2.2.1 e.2.2.2.1 = true
def Rel (e d : Nat → Ent) (k : Nat) (mf : Int32) (mu ml : Int64) : Prop := k ≤ 1000 ∧ kb_addr mf mu ml = true ∧ sk (fun j => ekey (e j)) k ∧ (∀ x ∈ rows e k, eok x) ∧ (rows e k).Perm (rows d k)
theorem eok_len {e : Ent} (h : eok e) : kb_len e.1 e.2.2.2.1 = true := by
  have h1 := h.2
  unfold kb_pre at h1
  rw [Bool.and_eq_true] at h1
  exact h1.1
section RL
variable {f : Nat → Int32} {u w : Nat → Int64} {g n : Nat → Int32} {F : Nat → Int32} {U V : Nat → Int64} {G M : Nat → Int32} {k : Nat} {mf : Int32} {mu ml : Int64}
theorem rel_m (h : Rel (ro5 f u w g n) (ro5 F U V G M) k mf mu ml) {q : Nat} (hq : q < k) : ∃ j, j < k ∧ ro5 f u w g n j = ro5 F U V G M q := by
  have h1 : ro5 F U V G M q ∈ rows (ro5 F U V G M) k := rows_in.mpr ⟨q, hq, rfl⟩
  exact rows_in.mp (h.2.2.2.2.mem_iff.mpr h1)
theorem rel_s (h : Rel (ro5 f u w g n) (ro5 F U V G M) k mf mu ml) {j : Nat} (hj : j < k) : ∃ q, q < k ∧ ro5 F U V G M q = ro5 f u w g n j := by
  have h1 : ro5 f u w g n j ∈ rows (ro5 f u w g n) k := rows_in.mpr ⟨j, hj, rfl⟩
  exact rows_in.mp (h.2.2.2.2.mem_iff.mp h1)
theorem rel_okS (h : Rel (ro5 f u w g n) (ro5 F U V G M) k mf mu ml) {j : Nat} (hj : j < k) : eok (ro5 f u w g n j) := h.2.2.2.1 _ (rows_in.mpr ⟨j, hj, rfl⟩)
theorem rel_okM (h : Rel (ro5 f u w g n) (ro5 F U V G M) k mf mu ml) {q : Nat} (hq : q < k) : eok (ro5 F U V G M q) := by
  obtain ⟨j, hj, e⟩ := rel_m h hq
  rw [← e]
  exact rel_okS h hj
theorem p_len (h : Rel (ro5 f u w g n) (ro5 F U V G M) k mf mu ml) : ∀ j, j < k → G j = nI (G j).toNatClampNeg ∧ (G j).toNatClampNeg ≤ 128 := by
  intro j hj
  have h1 := kb_len_nI (eok_len (rel_okM h hj))
  refine ⟨h1.1, Nat.le_trans h1.2 ?_⟩
  by_cases q : (ro5 F U V G M j).1 = 4
  · rw [if_pos q]; omega
  · rw [if_neg q]; exact Nat.le_refl _
theorem p_covM (h : Rel (ro5 f u w g n) (ro5 F U V G M) k mf mu ml) : ∀ j, j < k → md_cov F U V G mf mu ml j = kb_cov F U V G mf mu ml j := by
  intro j hj
  have h1 := rel_okM h hj
  have h3 := eok_len h1
  have h2 := h1.1
  exact cov_eq F U V G mf mu ml j h.2.1 h2 h3
theorem p_cov (h : Rel (ro5 f u w g n) (ro5 F U V G M) k mf mu ml) : kb_cv (kb_cov f u w g mf mu ml) k = kb_cv (md_cov F U V G mf mu ml) k := by
  rw [cv_c k (p_covM h)]
  have a := cv_rows (fun e => kb_cov (fun _ => e.1) (fun _ => e.2.1) (fun _ => e.2.2.1) (fun _ => e.2.2.2.1) mf mu ml 0) (ro5 f u w g n) k
  have b := cv_rows (fun e => kb_cov (fun _ => e.1) (fun _ => e.2.1) (fun _ => e.2.2.1) (fun _ => e.2.2.2.1) mf mu ml 0) (ro5 F U V G M) k
  exact a.trans ((h.2.2.2.2.countP_eq _).trans b.symm)
theorem p_long (h : Rel (ro5 f u w g n) (ro5 F U V G M) k mf mu ml) : kb_lg (kb_cov f u w g mf mu ml) g k = kb_lg (md_cov F U V G mf mu ml) G k := by
  rw [lg_c k (p_covM h)]
  obtain ⟨a1, a2, a3⟩ := lg_char (kb_cov f u w g mf mu ml) g k
  obtain ⟨b1, b2, b3⟩ := lg_char (kb_cov F U V G mf mu ml) G k
  generalize kb_lg (kb_cov f u w g mf mu ml) g k = x at a1 a2 a3 ⊢
  generalize kb_lg (kb_cov F U V G mf mu ml) G k = y at b1 b2 b3 ⊢
  have e1 : (-1 : Int32).toInt = -1 := by decide
  apply Int32.toInt_inj.mp
  have le1 : x.toInt ≤ y.toInt := by
    rcases a1 with rfl | ⟨j, hj, hc, hg⟩
    · rw [e1]; exact b3
    · obtain ⟨q, hq, e⟩ := rel_s h hj
      simp only [ro5, Prod.mk.injEq] at e
      obtain ⟨z1, z2, z3, z4, -⟩ := e
      have := b2 q hq (by unfold kb_cov at hc ⊢; rw [z1, z2, z3, z4]; exact hc)
      rw [z4, hg] at this
      exact this
  have le2 : y.toInt ≤ x.toInt := by
    rcases b1 with rfl | ⟨j, hj, hc, hg⟩
    · rw [e1]; exact a3
    · obtain ⟨q, hq, e⟩ := rel_m h hj
      simp only [ro5, Prod.mk.injEq] at e
      obtain ⟨z1, z2, z3, z4, -⟩ := e
      have := a2 q hq (by unfold kb_cov at hc ⊢; rw [z1, z2, z3, z4]; exact hc)
      rw [z4, hg] at this
      exact this
  omega
/-- the place of a key among the class's rows -/
theorem p_pos (h : Rel (ro5 f u w g n) (ro5 F U V G M) k mf mu ml) (fa : Int32) (up lo : Int64) (le : Int32) : kb_fst (kb_ah f u w g fa up lo le) k 0 ≤ k ∧ (∀ j, j < kb_fst (kb_ah f u w g fa up lo le) k 0 → ekey (ro5 f u w g n j) < kb_key fa up lo le) ∧ (∀ j, kb_fst (kb_ah f u w g fa up lo le) k 0 ≤ j → j < k → kb_key fa up lo le ≤ ekey (ro5 f u w g n j)) := by
  have a1 := kb_fst_le (kb_ah f u w g fa up lo le) k 0
  refine ⟨by omega, fun j hj => kb_ah_iff.mp (kb_fst_in _ k 0 j (Nat.zero_le j) hj), fun j h1 h2 => ?_⟩
  have a2 := kb_fst_at (kb_ah f u w g fa up lo le) k 0 (by omega)
  refine sk_ge h.2.2.1 (r := kb_fst (kb_ah f u w g fa up lo le) k 0) ?_ h1 h2
  have a3 : ¬ kb_key (f (kb_fst (kb_ah f u w g fa up lo le) k 0)) (u (kb_fst (kb_ah f u w g fa up lo le) k 0)) (w (kb_fst (kb_ah f u w g fa up lo le) k 0)) (g (kb_fst (kb_ah f u w g fa up lo le) k 0)) < kb_key fa up lo le := fun q => by
    rw [kb_ah_iff.mpr q] at a2
    cases a2
  exact Int.not_lt.mp a3
theorem p_cntS (h : Rel (ro5 f u w g n) (ro5 F U V G M) k mf mu ml) (fa : Int32) (up lo : Int64) (le : Int32) : kb_cv (kb_ah f u w g fa up lo le) k = kb_fst (kb_ah f u w g fa up lo le) k 0 := by
  obtain ⟨h1, h2, h3⟩ := p_pos h fa up lo le
  refine cv_cut k h1 (fun j hj => kb_ah_iff.mpr (h2 j hj)) (fun j a b => ?_)
  have h4 := h3 j a b
  cases hc : kb_ah f u w g fa up lo le j
  · rfl
  · have h5 : ekey (ro5 f u w g n j) < kb_key fa up lo le := kb_ah_iff.mp hc
    omega
theorem p_cnt (h : Rel (ro5 f u w g n) (ro5 F U V G M) k mf mu ml) (fa : Int32) (up lo : Int64) (le : Int32) : kb_fst (kb_ah f u w g fa up lo le) k 0 = kb_cv (md_ah F U V G fa up lo le) k := by
  rw [← p_cntS h, cv_c k (fun j _ => ah_eq F U V G fa up lo le j)]
  have a := cv_rows (fun e => kb_ah (fun _ => e.1) (fun _ => e.2.1) (fun _ => e.2.2.1) (fun _ => e.2.2.2.1) fa up lo le 0) (ro5 f u w g n) k
  have b := cv_rows (fun e => kb_ah (fun _ => e.1) (fun _ => e.2.1) (fun _ => e.2.2.1) (fun _ => e.2.2.2.1) fa up lo le 0) (ro5 F U V G M) k
  exact a.trans ((h.2.2.2.2.countP_eq _).trans b.symm)
theorem st_iff {le : Int32} {j : Nat} : kb_st f u w g mf mu ml le k j = true ↔ j < k ∧ kb_key (f j) (u j) (w j) (g j) = kb_key mf mu ml le := by
  unfold kb_st
  rw [Bool.and_eq_true, Bool.and_eq_true, Bool.and_eq_true, Bool.and_eq_true, Bool.not_eq_true', decide_eq_false_iff_not, decide_eq_true_eq, decide_eq_true_eq, decide_eq_true_eq, decide_eq_true_eq, kb_key_inj, Nat.not_le]
theorem ne_iff {le : Int32} {j : Nat} : md_ne F U V G mf mu ml le j = false ↔ kb_key (F j) (U j) (V j) (G j) = kb_key mf mu ml le := by
  unfold md_ne
  rw [Bool.not_eq_false', Bool.and_eq_true, Bool.and_eq_true, Bool.and_eq_true, decide_eq_true_eq, decide_eq_true_eq, decide_eq_true_eq, decide_eq_true_eq, kb_key_inj]
theorem fst_lt {P : Nat → Bool} {j : Nat} (hj : j < k) (h : P j = false) : kb_fst P k 0 < k := by
  rcases Nat.lt_or_ge (kb_fst P k 0) k with q | q
  · exact q
  · have := kb_fst_in P k 0 j (Nat.zero_le j) (by omega)
    rw [h] at this
    cases this
/-- both have it, or none; and then it is one entry -/
theorem p_both (h : Rel (ro5 f u w g n) (ro5 F U V G M) k mf mu ml) (le : Int32) (hq : kb_fst (md_ne F U V G mf mu ml le) k 0 < k) : kb_st f u w g mf mu ml le k (kb_fst (kb_ah f u w g mf mu ml le) k 0) = true ∧ ro5 f u w g n (kb_fst (kb_ah f u w g mf mu ml le) k 0) = ro5 F U V G M (kb_fst (md_ne F U V G mf mu ml le) k 0) := by
  have a1 := kb_fst_at (md_ne F U V G mf mu ml le) k 0 (by omega)
  rw [ne_iff] at a1
  obtain ⟨j, hj, e⟩ := rel_m h hq
  have e2 := e
  simp only [ro5, Prod.mk.injEq] at e2
  obtain ⟨z1, z2, z3, z4, -⟩ := e2
  rw [← z1, ← z2, ← z3, ← z4] at a1
  obtain ⟨h1, h2, h3⟩ := p_pos h mf mu ml le
  have hjr : j = kb_fst (kb_ah f u w g mf mu ml le) k 0 := by
    rcases Nat.lt_trichotomy j (kb_fst (kb_ah f u w g mf mu ml le) k 0) with q | q | q
    · have b : ekey (ro5 f u w g n j) < kb_key mf mu ml le := h2 j q
      have c : ekey (ro5 f u w g n j) = kb_key mf mu ml le := a1
      omega
    · exact q
    · have b : kb_key mf mu ml le ≤ ekey (ro5 f u w g n (kb_fst (kb_ah f u w g mf mu ml le) k 0)) := h3 _ (Nat.le_refl _) (by omega)
      have c : ekey (ro5 f u w g n j) = kb_key mf mu ml le := a1
      have d := h.2.2.1 _ j q hj
      simp only at d
      omega
  rw [← hjr]
  exact ⟨st_iff.mpr ⟨hj, a1⟩, e⟩
theorem p_back (h : Rel (ro5 f u w g n) (ro5 F U V G M) k mf mu ml) (le : Int32) (hs : kb_st f u w g mf mu ml le k (kb_fst (kb_ah f u w g mf mu ml le) k 0) = true) : kb_fst (md_ne F U V G mf mu ml le) k 0 < k := by
  obtain ⟨h1, h2⟩ := st_iff.mp hs
  obtain ⟨q, hq, e⟩ := rel_s h h1
  simp only [ro5, Prod.mk.injEq] at e
  obtain ⟨z1, z2, z3, z4, -⟩ := e
  exact fst_lt hq (ne_iff.mpr (by rw [z1, z2, z3, z4]; exact h2))
end RL
end
section
/-! PURE: each call keeps the two sides together -/
theorem up_lt {α : Type} (f : Nat → α) {r k j : Nat} (h : j < r) : kb_up f r k j = f j := by unfold kb_up; rw [if_neg (by omega)]
theorem up_gt {α : Type} (f : Nat → α) {r k j : Nat} (h : r ≤ j) (h2 : j < k) : kb_up f r k (j + 1) = f j := by unfold kb_up; rw [if_pos (by omega), Nat.add_sub_cancel]
theorem dn_lt {α : Type} (f : Nat → α) {r k j : Nat} (h : j < r) : kb_dn f r k j = f j := by unfold kb_dn; rw [if_neg (by omega)]
theorem dn_gt {α : Type} (f : Nat → α) {r k j : Nat} (h : r ≤ j) (h2 : j < k) : kb_dn f r k j = f (j + 1) := by unfold kb_dn; rw [if_pos (by omega)]
section ST
variable {f : Nat → Int32} {u w : Nat → Int64} {g n : Nat → Int32} {F : Nat → Int32} {U V : Nat → Int64} {G M : Nat → Int32} {k r j : Nat} {mf le nu : Int32} {mu ml : Int64}
theorem ins_lt (h : j < r) : ro5 (upd (kb_up f r k) r mf) (vp_updL (kb_up u r k) r mu) (vp_updL (kb_up w r k) r ml) (upd (kb_up g r k) r le) (upd (kb_up n r k) r nu) j = ro5 f u w g n j := by
  have hne : j ≠ r := by omega
  show (upd (kb_up f r k) r mf j, vp_updL (kb_up u r k) r mu j, vp_updL (kb_up w r k) r ml j, upd (kb_up g r k) r le j, upd (kb_up n r k) r nu j) = (f j, u j, w j, g j, n j)
  rw [pk_un hne, pk_uLn hne, pk_uLn hne, pk_un hne, pk_un hne, up_lt f h, up_lt u h, up_lt w h, up_lt g h, up_lt n h]
theorem ins_at : ro5 (upd (kb_up f r k) r mf) (vp_updL (kb_up u r k) r mu) (vp_updL (kb_up w r k) r ml) (upd (kb_up g r k) r le) (upd (kb_up n r k) r nu) r = (mf, mu, ml, le, nu) := by
  show (upd (kb_up f r k) r mf r, vp_updL (kb_up u r k) r mu r, vp_updL (kb_up w r k) r ml r, upd (kb_up g r k) r le r, upd (kb_up n r k) r nu r) = _
  rw [pk_us, pk_uLs, pk_uLs, pk_us, pk_us]
theorem ins_gt (h : r ≤ j) (h2 : j < k) : ro5 (upd (kb_up f r k) r mf) (vp_updL (kb_up u r k) r mu) (vp_updL (kb_up w r k) r ml) (upd (kb_up g r k) r le) (upd (kb_up n r k) r nu) (j + 1) = ro5 f u w g n j := by
  have hne : j + 1 ≠ r := by omega
  show (upd (kb_up f r k) r mf (j + 1), vp_updL (kb_up u r k) r mu (j + 1), vp_updL (kb_up w r k) r ml (j + 1), upd (kb_up g r k) r le (j + 1), upd (kb_up n r k) r nu (j + 1)) = (f j, u j, w j, g j, n j)
  rw [pk_un hne, pk_uLn hne, pk_uLn hne, pk_un hne, pk_un hne, up_gt f h h2, up_gt u h h2, up_gt w h h2, up_gt g h h2, up_gt n h h2]
theorem app_lt (h : j < k) : ro5 (upd F k mf) (vp_updL U k mu) (vp_updL V k ml) (upd G k le) (upd M k nu) j = ro5 F U V G M j := by
  have hne : j ≠ k := by omega
  show (upd F k mf j, vp_updL U k mu j, vp_updL V k ml j, upd G k le j, upd M k nu j) = (F j, U j, V j, G j, M j)
  rw [pk_un hne, pk_uLn hne, pk_uLn hne, pk_un hne, pk_un hne]
theorem app_at : ro5 (upd F k mf) (vp_updL U k mu) (vp_updL V k ml) (upd G k le) (upd M k nu) k = (mf, mu, ml, le, nu) := by
  show (upd F k mf k, vp_updL U k mu k, vp_updL V k ml k, upd G k le k, upd M k nu k) = _
  rw [pk_us, pk_uLs, pk_uLs, pk_us, pk_us]
theorem del_lt (h : j < r) : ro5 (kb_dn f r k) (kb_dn u r k) (kb_dn w r k) (kb_dn g r k) (kb_dn n r k) j = ro5 f u w g n j := by
  show (kb_dn f r k j, kb_dn u r k j, kb_dn w r k j, kb_dn g r k j, kb_dn n r k j) = (f j, u j, w j, g j, n j)
  rw [dn_lt f h, dn_lt u h, dn_lt w h, dn_lt g h, dn_lt n h]
theorem del_gt (h : r ≤ j) (h2 : j < k) : ro5 (kb_dn f r k) (kb_dn u r k) (kb_dn w r k) (kb_dn g r k) (kb_dn n r k) j = ro5 f u w g n (j + 1) := by
  show (kb_dn f r k j, kb_dn u r k j, kb_dn w r k j, kb_dn g r k j, kb_dn n r k j) = (f (j + 1), u (j + 1), w (j + 1), g (j + 1), n (j + 1))
  rw [dn_gt f h h2, dn_gt u h h2, dn_gt w h h2, dn_gt g h h2, dn_gt n h h2]
theorem p_new (h : Rel (ro5 f u w g n) (ro5 F U V G M) k mf mu ml) (hk : k < 1000) (hp : kb_pre mf mu ml le = true) (hr : kb_fst (kb_ah f u w g mf mu ml le) k 0 = r) (hs : ¬ kb_st f u w g mf mu ml le k r = true) :
    Rel (ro5 (upd (kb_up f r k) r mf) (vp_updL (kb_up u r k) r mu) (vp_updL (kb_up w r k) r ml) (upd (kb_up g r k) r le) (upd (kb_up n r k) r nu)) (ro5 (upd F k mf) (vp_updL U k mu) (vp_updL V k ml) (upd G k le) (upd M k nu)) (k + 1) mf mu ml := by
  obtain ⟨h1, h2, h3⟩ := p_pos h mf mu ml le
  rw [hr] at h1 h2 h3
  have hS : (rows (ro5 (upd (kb_up f r k) r mf) (vp_updL (kb_up u r k) r mu) (vp_updL (kb_up w r k) r ml) (upd (kb_up g r k) r le) (upd (kb_up n r k) r nu)) (k + 1)).Perm (rows (ro5 f u w g n) k ++ [(mf, mu, ml, le, nu)]) :=
    rows_ins (fun j hj => ins_lt hj) ins_at k h1 (fun j a b => ins_gt a b)
  have hM : (rows (ro5 (upd F k mf) (vp_updL U k mu) (vp_updL V k ml) (upd G k le) (upd M k nu)) (k + 1)).Perm (rows (ro5 F U V G M) k ++ [(mf, mu, ml, le, nu)]) :=
    rows_ins (fun j hj => app_lt hj) app_at k (Nat.le_refl k) (fun j a b => by omega)
  have h4 : ∀ j, r ≤ j → j < k → kb_key mf mu ml le < ekey (ro5 f u w g n j) := by
    intro j a b
    have c1 := h3 r (Nat.le_refl r) (by omega)
    have c2 : ekey (ro5 f u w g n r) ≠ kb_key mf mu ml le := fun q => hs (st_iff.mpr ⟨by omega, q⟩)
    by_cases e : r = j
    · rw [← e]; omega
    · have c3 := h.2.2.1 r j (by omega) b
      simp only at c3
      omega
  refine ⟨by omega, h.2.1, ?_, ?_, ?_⟩
  · exact sk_ins (K := kb_key mf mu ml le) h.2.2.1 h1 h2 h4 (fun j hj => by show ekey _ = ekey _; rw [ins_lt hj]) (by show ekey _ = _; rw [ins_at]; rfl) (fun j a b => by
      obtain ⟨i, rfl⟩ : ∃ i, j = i + 1 := ⟨j - 1, by omega⟩
      show ekey _ = ekey _
      rw [ins_gt (by omega) (by omega), Nat.add_sub_cancel])
  · intro x hx
    rcases List.mem_append.mp (hS.mem_iff.mp hx) with q | q
    · exact h.2.2.2.1 x q
    · rw [List.mem_singleton.mp q]
      exact ⟨h.2.1, hp⟩
  · exact (hS.trans (List.Perm.append_right _ h.2.2.2.2)).trans hM.symm
theorem p_upd {q : Nat} (h : Rel (ro5 f u w g n) (ro5 F U V G M) k mf mu ml) (hr : r < k) (hq : q < k) (e : ro5 f u w g n r = ro5 F U V G M q) : Rel (ro5 f u w g (upd n r nu)) (ro5 F U V G (upd M q nu)) k mf mu ml := by
  refine ⟨h.1, h.2.1, h.2.2.1, ?_, ?_⟩
  · intro x hx
    obtain ⟨j, hj, rfl⟩ := rows_in.mp hx
    have h1 := rel_okS h hj
    exact ⟨h1.1, h1.2⟩
  · have e2 := e
    simp only [ro5, Prod.mk.injEq] at e2
    obtain ⟨z1, z2, z3, z4, -⟩ := e2
    refine rows_set2 (x := (f r, u r, w r, g r, nu)) h.2.2.2.2 hr hq e (fun j hj => ?_) ?_ (fun j hj => ?_) ?_
    · show (f j, u j, w j, g j, upd n r nu j) = (f j, u j, w j, g j, n j)
      rw [pk_un hj]
    · show (f r, u r, w r, g r, upd n r nu r) = _
      rw [pk_us]
    · show (F j, U j, V j, G j, upd M q nu j) = (F j, U j, V j, G j, M j)
      rw [pk_un hj]
    · show (F q, U q, V q, G q, upd M q nu q) = _
      rw [pk_us, z1, z2, z3, z4]
theorem p_del {q : Nat} (h : Rel (ro5 f u w g n) (ro5 F U V G M) k mf mu ml) (hr : r < k) (hq : q < k) (e : ro5 f u w g n r = ro5 F U V G M q) :
    Rel (ro5 (kb_dn f r (k - 1)) (kb_dn u r (k - 1)) (kb_dn w r (k - 1)) (kb_dn g r (k - 1)) (kb_dn n r (k - 1))) (ro5 (kb_dn F q (k - 1)) (kb_dn U q (k - 1)) (kb_dn V q (k - 1)) (kb_dn G q (k - 1)) (kb_dn M q (k - 1))) (k - 1) mf mu ml := by
  have h0 := h.1
  refine ⟨by omega, h.2.1, ?_, ?_, ?_⟩
  · exact sk_del h.2.2.1 hr (fun j hj => by show ekey _ = ekey _; rw [del_lt hj]) (fun j a b => by show ekey _ = ekey _; rw [del_gt a (by omega)])
  · intro x hx
    have hp := rows_del (e := ro5 f u w g n) (e' := ro5 (kb_dn f r (k - 1)) (kb_dn u r (k - 1)) (kb_dn w r (k - 1)) (kb_dn g r (k - 1)) (kb_dn n r (k - 1))) hr (fun j hj => del_lt hj) (fun j a b => del_gt a (by omega))
    exact h.2.2.2.1 x (hp.mem_iff.mpr (List.mem_append_left _ hx))
  · exact rows_del2 h.2.2.2.2 hr hq e (fun j hj => del_lt hj) (fun j a b => del_gt a (by omega)) (fun j hj => del_lt hj) (fun j a b => del_gt a (by omega))
theorem p_adr (h : Rel (ro5 f u w g n) (ro5 F U V G M) k mf mu ml) {fa : Int32} {up lo : Int64} (ha : kb_addr fa up lo = true) : Rel (ro5 f u w g n) (ro5 F U V G M) k fa up lo := ⟨h.1, ha, h.2.2⟩
theorem p_self (h : Rel (ro5 f u w g n) (ro5 F U V G M) k mf mu ml) (hj : j < k) : kb_fst (kb_ah f u w g (f j) (u j) (w j) (g j)) k 0 = j := by
  refine kb_fst_eq _ k j (by omega) (fun i hi => kb_ah_iff.mpr (h.2.2.1 i j hi hj)) (Or.inr ?_)
  cases hc : kb_ah f u w g (f j) (u j) (w j) (g j) j
  · rfl
  · have := kb_ah_iff.mp hc
    omega
theorem p_ct (h : Rel (ro5 f u w g n) (ro5 F U V G M) k mf mu ml) {q : Nat} (hj : j < k) (e : ro5 f u w g n j = ro5 F U V G M q) : md_ct F U V G k q = j := by
  unfold md_ct
  rw [← p_cnt h]
  simp only [ro5, Prod.mk.injEq] at e
  obtain ⟨z1, z2, z3, z4, -⟩ := e
  rw [← z1, ← z2, ← z3, ← z4]
  exact p_self h hj
theorem p_at (h : Rel (ro5 f u w g n) (ro5 F U V G M) k mf mu ml) (hr : r < k) {R : Nat} (hR : kb_fst (fun q => !decide (md_ct F U V G k q = r)) k 0 = R) : R < k ∧ F R = f r ∧ U R = u r ∧ V R = w r ∧ G R = g r ∧ Rel (ro5 f u w g n) (ro5 F U V G M) k (f r) (u r) (w r) := by
  obtain ⟨q, hq, e⟩ := rel_s h hr
  have h1 : kb_fst (fun q => !decide (md_ct F U V G k q = r)) k 0 < k := fst_lt hq (by
    show (!decide (md_ct F U V G k q = r)) = false
    rw [p_ct h hr e.symm]
    simp)
  have h2 := kb_fst_at (fun q => !decide (md_ct F U V G k q = r)) k 0 (by omega)
  rw [hR] at h1 h2
  obtain ⟨j, hj, e2⟩ := rel_m h h1
  have h3 : md_ct F U V G k R = r := by
    have h4 : (!decide (md_ct F U V G k R = r)) = false := h2
    rw [Bool.not_eq_false', decide_eq_true_eq] at h4
    exact h4
  rw [p_ct h hj e2] at h3
  subst h3
  simp only [ro5, Prod.mk.injEq] at e2
  obtain ⟨z1, z2, z3, z4, -⟩ := e2
  exact ⟨h1, z1.symm, z2.symm, z3.symm, z4.symm, p_adr h (rel_okS h hj).1⟩
theorem p_ahead (h : Rel (ro5 f u w g n) (ro5 F U V G M) k mf mu ml) (le : Int32) : (if kb_len mf le = true then nI (kb_fst (kb_ah f u w g mf mu ml le) k 0) else (-1)) = (if kb_len mf le = true then nI (kb_cv (md_ah F U V G mf mu ml le) k) else (-1)) := by
  rw [p_cnt h]
end ST
theorem p_put {x a1 a2 a3 a4 a5 : Nat} {k1 k2 k3 k4 k5 : ClassId} {y b1 b2 b3 b4 b5 : Nat} {m1 m2 m3 m4 m5 : ClassId} {f : Nat → Int32} {u w : Nat → Int64} {g n : Nat → Int32} {F : Nat → Int32} {U V : Nat → Int64} {G M : Nat → Int32} {k : Nat} {mf : Int32} {mu ml : Int64} (h : Rel (ro5 f u w g n) (ro5 F U V G M) k mf mu ml) (le nu : Int32) : ∃ (f' : Nat → Int32) (u' w' : Nat → Int64) (g' n' : Nat → Int32) (F' : Nat → Int32) (U' V' : Nat → Int64) (G' M' : Nat → Int32) (k' : Nat), (if kb_pre mf mu ml le = true then (if kb_st f u w g mf mu ml le k (kb_fst (kb_ah f u w g mf mu ml le) k 0) = true then (pbw x a1 a2 a3 a4 a5 k1 k2 k3 k4 k5 f u w g (upd n (kb_fst (kb_ah f u w g mf mu ml le) k 0) nu) k mf mu ml) else if k < 1000 then (pbw x a1 a2 a3 a4 a5 k1 k2 k3 k4 k5 (upd (kb_up f (kb_fst (kb_ah f u w g mf mu ml le) k 0) k) (kb_fst (kb_ah f u w g mf mu ml le) k 0) mf) (vp_updL (kb_up u (kb_fst (kb_ah f u w g mf mu ml le) k 0) k) (kb_fst (kb_ah f u w g mf mu ml le) k 0) mu) (vp_updL (kb_up w (kb_fst (kb_ah f u w g mf mu ml le) k 0) k) (kb_fst (kb_ah f u w g mf mu ml le) k 0) ml) (upd (kb_up g (kb_fst (kb_ah f u w g mf mu ml le) k 0) k) (kb_fst (kb_ah f u w g mf mu ml le) k 0) le) (upd (kb_up n (kb_fst (kb_ah f u w g mf mu ml le) k 0) k) (kb_fst (kb_ah f u w g mf mu ml le) k 0) nu) (k + 1) mf mu ml) else (pbw x a1 a2 a3 a4 a5 k1 k2 k3 k4 k5 f u w g n k mf mu ml)) else (pbw x a1 a2 a3 a4 a5 k1 k2 k3 k4 k5 f u w g n k mf mu ml)) = pbw x a1 a2 a3 a4 a5 k1 k2 k3 k4 k5 f' u' w' g' n' k' mf mu ml ∧ (if md_pre mf mu ml le = true then (if kb_fst (md_ne F U V G mf mu ml le) k 0 < k then (mdw y b1 b2 b3 b4 b5 m1 m2 m3 m4 m5 F U V G (upd M (kb_fst (md_ne F U V G mf mu ml le) k 0) nu) k mf mu ml) else if k = 1000 then (mdw y b1 b2 b3 b4 b5 m1 m2 m3 m4 m5 F U V G M k mf mu ml) else (mdw y b1 b2 b3 b4 b5 m1 m2 m3 m4 m5 (upd F k mf) (vp_updL U k mu) (vp_updL V k ml) (upd G k le) (upd M k nu) (k + 1) mf mu ml)) else (mdw y b1 b2 b3 b4 b5 m1 m2 m3 m4 m5 F U V G M k mf mu ml)) = mdw y b1 b2 b3 b4 b5 m1 m2 m3 m4 m5 F' U' V' G' M' k' mf mu ml ∧ (if kb_pre mf mu ml le = true then (if kb_st f u w g mf mu ml le k (kb_fst (kb_ah f u w g mf mu ml le) k 0) = true then (0 : Int32) else if k < 1000 then 1 else (-1)) else (-1)) = (if md_pre mf mu ml le = true then (if kb_fst (md_ne F U V G mf mu ml le) k 0 < k then (0 : Int32) else if k = 1000 then (-1) else 1) else (-1)) ∧ Rel (ro5 f' u' w' g' n') (ro5 F' U' V' G' M') k' mf mu ml := by
  rw [pre_eq]
  have h0 := h.1
  by_cases hp : kb_pre mf mu ml le = true
  · rw [if_pos hp, if_pos hp, if_pos hp, if_pos hp]
    by_cases hs : kb_st f u w g mf mu ml le k (kb_fst (kb_ah f u w g mf mu ml le) k 0) = true
    · have hq := p_back h le hs
      have hb := p_both h le hq
      rw [if_pos hs, if_pos hs, if_pos hq, if_pos hq]
      exact ⟨_, _, _, _, _, _, _, _, _, _, _, rfl, rfl, rfl, p_upd h (kb_st_lt hs) hq hb.2⟩
    · have hq : ¬ kb_fst (md_ne F U V G mf mu ml le) k 0 < k := fun q => hs (p_both h le q).1
      rw [if_neg hs, if_neg hs, if_neg hq, if_neg hq]
      by_cases hk : k < 1000
      · have hk2 : ¬ k = 1000 := by omega
        rw [if_pos hk, if_pos hk, if_neg hk2, if_neg hk2]
        exact ⟨_, _, _, _, _, _, _, _, _, _, _, rfl, rfl, rfl, p_new h hk hp rfl hs⟩
      · have hk2 : k = 1000 := by omega
        rw [if_neg hk, if_neg hk, if_pos hk2, if_pos hk2]
        exact ⟨_, _, _, _, _, _, _, _, _, _, _, rfl, rfl, rfl, h⟩
  · rw [if_neg hp, if_neg hp, if_neg hp, if_neg hp]
    exact ⟨_, _, _, _, _, _, _, _, _, _, _, rfl, rfl, rfl, h⟩
theorem p_remove {x a1 a2 a3 a4 a5 : Nat} {k1 k2 k3 k4 k5 : ClassId} {y b1 b2 b3 b4 b5 : Nat} {m1 m2 m3 m4 m5 : ClassId} {f : Nat → Int32} {u w : Nat → Int64} {g n : Nat → Int32} {F : Nat → Int32} {U V : Nat → Int64} {G M : Nat → Int32} {k : Nat} {mf : Int32} {mu ml : Int64} (h : Rel (ro5 f u w g n) (ro5 F U V G M) k mf mu ml) (le : Int32) : ∃ (f' : Nat → Int32) (u' w' : Nat → Int64) (g' n' : Nat → Int32) (F' : Nat → Int32) (U' V' : Nat → Int64) (G' M' : Nat → Int32) (k' : Nat), (if kb_pre mf mu ml le = true then (if kb_st f u w g mf mu ml le k (kb_fst (kb_ah f u w g mf mu ml le) k 0) = true then (pbw x a1 a2 a3 a4 a5 k1 k2 k3 k4 k5 (kb_dn f (kb_fst (kb_ah f u w g mf mu ml le) k 0) (k - 1)) (kb_dn u (kb_fst (kb_ah f u w g mf mu ml le) k 0) (k - 1)) (kb_dn w (kb_fst (kb_ah f u w g mf mu ml le) k 0) (k - 1)) (kb_dn g (kb_fst (kb_ah f u w g mf mu ml le) k 0) (k - 1)) (kb_dn n (kb_fst (kb_ah f u w g mf mu ml le) k 0) (k - 1)) (k - 1) mf mu ml) else (pbw x a1 a2 a3 a4 a5 k1 k2 k3 k4 k5 f u w g n k mf mu ml)) else (pbw x a1 a2 a3 a4 a5 k1 k2 k3 k4 k5 f u w g n k mf mu ml)) = pbw x a1 a2 a3 a4 a5 k1 k2 k3 k4 k5 f' u' w' g' n' k' mf mu ml ∧ (if md_pre mf mu ml le = true then (if kb_fst (md_ne F U V G mf mu ml le) k 0 < k then (mdw y b1 b2 b3 b4 b5 m1 m2 m3 m4 m5 (kb_dn F (kb_fst (md_ne F U V G mf mu ml le) k 0) (k - 1)) (kb_dn U (kb_fst (md_ne F U V G mf mu ml le) k 0) (k - 1)) (kb_dn V (kb_fst (md_ne F U V G mf mu ml le) k 0) (k - 1)) (kb_dn G (kb_fst (md_ne F U V G mf mu ml le) k 0) (k - 1)) (kb_dn M (kb_fst (md_ne F U V G mf mu ml le) k 0) (k - 1)) (k - 1) mf mu ml) else (mdw y b1 b2 b3 b4 b5 m1 m2 m3 m4 m5 F U V G M k mf mu ml)) else (mdw y b1 b2 b3 b4 b5 m1 m2 m3 m4 m5 F U V G M k mf mu ml)) = mdw y b1 b2 b3 b4 b5 m1 m2 m3 m4 m5 F' U' V' G' M' k' mf mu ml ∧ (if kb_pre mf mu ml le = true then (if kb_st f u w g mf mu ml le k (kb_fst (kb_ah f u w g mf mu ml le) k 0) = true then (1 : Int32) else 0) else (-1)) = (if md_pre mf mu ml le = true then (if kb_fst (md_ne F U V G mf mu ml le) k 0 < k then (1 : Int32) else 0) else (-1)) ∧ Rel (ro5 f' u' w' g' n') (ro5 F' U' V' G' M') k' mf mu ml := by
  rw [pre_eq]
  by_cases hp : kb_pre mf mu ml le = true
  · rw [if_pos hp, if_pos hp, if_pos hp, if_pos hp]
    by_cases hs : kb_st f u w g mf mu ml le k (kb_fst (kb_ah f u w g mf mu ml le) k 0) = true
    · have hq := p_back h le hs
      have hb := p_both h le hq
      rw [if_pos hs, if_pos hs, if_pos hq, if_pos hq]
      exact ⟨_, _, _, _, _, _, _, _, _, _, _, rfl, rfl, rfl, p_del h (kb_st_lt hs) hq hb.2⟩
    · have hq : ¬ kb_fst (md_ne F U V G mf mu ml le) k 0 < k := fun q => hs (p_both h le q).1
      rw [if_neg hs, if_neg hs, if_neg hq, if_neg hq]
      exact ⟨_, _, _, _, _, _, _, _, _, _, _, rfl, rfl, rfl, h⟩
  · rw [if_neg hp, if_neg hp, if_neg hp, if_neg hp]
    exact ⟨_, _, _, _, _, _, _, _, _, _, _, rfl, rfl, rfl, h⟩
theorem p_number {f : Nat → Int32} {u w : Nat → Int64} {g n : Nat → Int32} {F : Nat → Int32} {U V : Nat → Int64} {G M : Nat → Int32} {k : Nat} {mf : Int32} {mu ml : Int64} (h : Rel (ro5 f u w g n) (ro5 F U V G M) k mf mu ml) (le : Int32) : (if kb_st f u w g mf mu ml le k (kb_fst (kb_ah f u w g mf mu ml le) k 0) = true then n (kb_fst (kb_ah f u w g mf mu ml le) k 0) else (-2147483648)) = (if md_pre mf mu ml le = true then (if kb_fst (md_ne F U V G mf mu ml le) k 0 < k then M (kb_fst (md_ne F U V G mf mu ml le) k 0) else (-2147483648)) else (-2147483648)) := by
  rw [pre_eq]
  by_cases hs : kb_st f u w g mf mu ml le k (kb_fst (kb_ah f u w g mf mu ml le) k 0) = true
  · have hq := p_back h le hs
    have hb := (p_both h le hq).2
    have h1 := st_iff.mp hs
    have h9 := (rel_okS h h1.1).2
    have h3 := kb_key_inj.mp h1.2
    have h4 : kb_pre mf mu ml le = true := by
      have h2 : kb_pre (f (kb_fst (kb_ah f u w g mf mu ml le) k 0)) (u (kb_fst (kb_ah f u w g mf mu ml le) k 0)) (w (kb_fst (kb_ah f u w g mf mu ml le) k 0)) (g (kb_fst (kb_ah f u w g mf mu ml le) k 0)) = true := h9
      rw [h3.1, h3.2.1, h3.2.2.1, h3.2.2.2] at h2
      exact h2
    rw [if_pos hs, if_pos h4, if_pos hq]
    simp only [ro5, Prod.mk.injEq] at hb
    exact hb.2.2.2.2
  · have hq : ¬ kb_fst (md_ne F U V G mf mu ml le) k 0 < k := fun q => hs (p_both h le q).1
    rw [if_neg hs, if_neg hq]
    by_cases hp : kb_pre mf mu ml le = true
    · rw [if_pos hp]
    · rw [if_neg hp]
theorem p_address {x a1 a2 a3 a4 a5 : Nat} {k1 k2 k3 k4 k5 : ClassId} {y b1 b2 b3 b4 b5 : Nat} {m1 m2 m3 m4 m5 : ClassId} {f : Nat → Int32} {u w : Nat → Int64} {g n : Nat → Int32} {F : Nat → Int32} {U V : Nat → Int64} {G M : Nat → Int32} {k : Nat} {mf : Int32} {mu ml : Int64} (h : Rel (ro5 f u w g n) (ro5 F U V G M) k mf mu ml) (fa : Int32) (up lo : Int64) : ∃ (mf' : Int32) (mu' ml' : Int64), (if kb_addr fa up lo = true then (pbw x a1 a2 a3 a4 a5 k1 k2 k3 k4 k5 f u w g n k fa up lo) else (pbw x a1 a2 a3 a4 a5 k1 k2 k3 k4 k5 f u w g n k mf mu ml)) = pbw x a1 a2 a3 a4 a5 k1 k2 k3 k4 k5 f u w g n k mf' mu' ml' ∧ (if kb_addr fa up lo = true then (mdw y b1 b2 b3 b4 b5 m1 m2 m3 m4 m5 F U V G M k fa up lo) else (mdw y b1 b2 b3 b4 b5 m1 m2 m3 m4 m5 F U V G M k mf mu ml)) = mdw y b1 b2 b3 b4 b5 m1 m2 m3 m4 m5 F U V G M k mf' mu' ml' ∧ Rel (ro5 f u w g n) (ro5 F U V G M) k mf' mu' ml' := by
  by_cases ha : kb_addr fa up lo = true
  · rw [if_pos ha, if_pos ha]
    exact ⟨_, _, _, rfl, rfl, p_adr h ha⟩
  · rw [if_neg ha, if_neg ha]
    exact ⟨_, _, _, rfl, rfl, h⟩
end
section
/-! RULES OF THE LAW'S WALK -/
section LR
variable {p : Program} {l : Launch} {e : Env} {R : Room} {s : State} {m : MethodId} {args : Array Value} {below : List Frame} {meth : Method} {c : Code} {H : Heap} {locs : List Loc} {cells slots : Nat} {Q : State → Prop}
variable {pc : Nat} {ls : Array Slot} {rest : List Value} {cc : ByteArray} {A : Nat → Prop} {H0 : Heap}
theorem ld_s (hexec : p.tables.exec = Jvm.exec) (hb : c.code = cc) {b L : Nat} {xs : Nat → Int32} (hX : va_X b L xs s H0) (hbl : b < H0.size) (hbA : ¬ A b) (hS : va_S A H0 H locs) {j : Nat} (hj : j < L) (hL : L ≤ 3072) (hdg : decode cc pc = .ok (.iaload, 1))
    (kk : W p l e R s m args below meth c H locs cells slots Q (F0 m (pc + 1) ls (.int (xs j) :: rest))) : W p l e R s m args below meth c H locs cells slots Q (F0 m pc ls (.int (nI j) :: .ref b :: rest)) := by
  refine va_sld hexec hb hX hbl hbA hS (vp_in_nI hj (by omega)) hdg ?_
  rw [nI_clamp (by omega)]
  exact kk
end LR
theorem keep_o {D : va_G} {cl : List vw_C} {ws : va_W} {H H1 : Heap} {A1 : Nat → Prop} (hP : va_P D cl ws H) (hno : ∀ (k : Nat) (q : Nat × va_E), ws[k]? = some q → ¬ A1 q.1) (hk : ∀ q : Nat, q < H.size → ¬ A1 q → H1[q]? = H[q]?) : va_P D cl ws H1 :=
  hP.kept (fun k q h => hk q.1 (hP k q h).lt (hno k q h))
theorem sep_of {A : Nat → Prop} {w1 w2 : va_W} (hD : va_D A (w1 ++ w2)) : ∀ q : Nat, (∃ (k : Nat) (e : va_E), w2[k]? = some (q, e)) → ¬ ∃ (k : Nat) (e : va_E), w1[k]? = some (q, e) := by
  rintro q ⟨k2, e2, h2⟩ ⟨k1, e1, h1⟩
  have l1 : k1 < w1.length := (List.getElem?_eq_some_iff.mp h1).1
  have a1 : (w1 ++ w2)[k1]? = some (q, e1) := by rw [List.getElem?_append_left l1]; exact h1
  have a2 : (w1 ++ w2)[w1.length + k2]? = some (q, e2) := by rw [List.getElem?_append_right (by omega), Nat.add_sub_cancel_left]; exact h2
  have := hD.1 k1 (w1.length + k2) _ _ a1 a2 rfl
  omega
theorem lw_gt {L i : Nat} (hL : L ≤ 3072) (hi : i ≤ L) : (nI L - 6 < nI i) ↔ L < i + 6 := by
  rw [Int32.lt_iff_toInt_lt, show (6 : Int32) = nI 6 from rfl, pk_sub_toInt (by omega) (by omega), nI_toInt (by omega)]
  omega
end
section
/-! THE CLAIM OUT OF ONE WALK OF THE LAW'S BODY. Your part is whole_start (and what it stands on); all else here is the same for every law, but numbers. -/
def R_law : String := "PrefixBookLaw"
def lw_P (b : Addr) (xs : List Int32) (args : Array Value) (s : State) : Prop := args = #[.ref b] ∧ s.IntsAt b xs ∧ xs.length ≤ 3072 ∧ (Jvm.Cond.and given_1 narrow_1).before args s = true
def lw_Q (_ : Array Value) (s : State) (o : Outcome) (t : State) : Prop := o = .returned (some (.int 1)) ∧ Framed s o t [] 12 10018
def lw_Z (below : List Frame) (a : Array Value) (s : State) : State → Prop := fun t => ∃ o, t.status = .running ∧ Ended t below o ∧ lw_Q a s o t
/-- the law's own end, with 1 on the stack, nothing written that was there before, its room as the claim has it -/
theorem lw_ret {p : Program} {l : Launch} {e : Env} {s : State} {m : MethodId} {below : List Frame} {meth : Method} {c : Code} {b : Nat} (hx : p.tables.exec = Jvm.exec) (hb : c.code = code) (hr : meth.sig.returnType = ret) (hlocks : meth.locks = false) {pc : Nat} {H : Heap} {ls : Array Slot} (hdg : decode code pc = .ok (.ireturn, 1)) : W p l e room_1 s m #[Value.ref b] below meth c H [] 12 10018 (lw_Z below #[Value.ref b] s) (F0 m pc ls [.int 1]) := by
  intro T hT X
  obtain ⟨fs, hret, hrun, hended, hW, hframe⟩ := X.leave (v := some (.int 1)) (hlocks := hlocks) (fun h => by rw [hr] at h; cases h)
  have hmeth' : T.vm.method? m = some meth := X.method'
  refine ⟨T.setFrames fs, ?_, .returned (some (.int 1)), hrun, hended, rfl, ⟨_, rfl⟩, hW, hframe⟩
  jvm_step X.here [X.here.top, hx, hb, hdg, hmeth', hr, ret, narrow_b1]
  (try refine ⟨rfl, ?_⟩); (try refine ⟨rfl, ?_⟩)
  first | (intro acts; rw [hret _ acts rfl rfl rfl]) | rw [hret _ _ rfl rfl rfl]
  exact Steps.refl _
/-- what holds at the law's entry: the machine, the code, the tables' words (any of lw_tbl by 'hts w (by decide +kernel)'), the script of L ints xs at the cell b, what the Statement gives of the start (any of its parts by flat_of_before) -/
def lw_At (p : Program) (s : State) (m : MethodId) (meth : Method) (c : Code) (b L : Nat) (xs : Nat → Int32) : Prop :=
  p.tables.exec = Jvm.exec ∧ c.code = code ∧ meth.sig.returnType = ret ∧ c.maxLocals = 4 ∧ s.vm.findClass R_law = some m.cls ∧ (∀ w ∈ lw_tbl, w.before #[Value.ref b] s = true) ∧ va_X b L xs s s.heap ∧ b < s.heap.size ∧ meth.locks = false ∧ (Jvm.Cond.and given_1 narrow_1).before #[Value.ref b] s = true
end
section
set_option maxHeartbeats 4000000 in
set_option maxRecDepth 100000 in
/-- THE LAW'S LOOP -/
theorem law_loop {p : Program} {l : Launch} {e : Env} {s : State} {m : MethodId} {below : List Frame} {meth : Method} {c : Code} {dC : Nat → ClassId} {dI : Nat → Nat → Nat} {b L : Nat} {xs : Nat → Int32} (hL : L ≤ 3072) (C0 : lw_At p s m meth c b L xs) {x a1 a2 a3 a4 a5 : Nat} {k1 k2 k3 k4 k5 : ClassId} {y b1 b2 b3 b4 b5 : Nat} {m1 m2 m3 m4 m5 : ClassId} (Ax Am : Nat → Prop) (hAx : ∀ q, Ax q → s.heap.size ≤ q) (hAm : ∀ q, Am q → s.heap.size ≤ q) (hsep : ∀ q, Am q → ¬ Ax q) (hsep2 : ∀ q, Ax q → ¬ Am q) (hDx0 : va_D Ax (pbw x a1 a2 a3 a4 a5 k1 k2 k3 k4 k5 (fun _ => 0) (fun _ => 0) (fun _ => 0) (fun _ => 0) (fun _ => 0) 0 4 0 0)) (hDm0 : va_D Am (mdw y b1 b2 b3 b4 b5 m1 m2 m3 m4 m5 (fun _ => 0) (fun _ => 0) (fun _ => 0) (fun _ => 0) (fun _ => 0) 0 4 0 0)) (hKx : va_K (dC, dI) classes (pbt k1 k2 k3 k4 k5) s) (hKm : va_K (dC, dI) classes (mdt m1 m2 m3 m4 m5) s) :
    ∀ (d i : Nat) (f : Nat → Int32) (u w : Nat → Int64) (g n : Nat → Int32) (F : Nat → Int32) (U V : Nat → Int64) (G M : Nat → Int32) (k : Nat) (mf : Int32) (mu ml : Int64), Rel (ro5 f u w g n) (ro5 F U V G M) k mf mu ml → i ≤ L → L + 1 ≤ i + d → ∀ (H : Heap) (locs : List Loc), va_P (dC, dI) classes (pbw x a1 a2 a3 a4 a5 k1 k2 k3 k4 k5 f u w g n k mf mu ml) H → va_P (dC, dI) classes (mdw y b1 b2 b3 b4 b5 m1 m2 m3 m4 m5 F U V G M k mf mu ml) H → va_S (fun q : Nat => s.heap.size ≤ q) s.heap H locs → ∀ (ls : Array Slot), lv_has ls 4 [(0, .ref b), (1, .ref x), (2, .ref y), (3, .int (nI i))] → W p l e room_1 s m #[Value.ref b] below meth c H locs 12 10018 (lw_Z below #[Value.ref b] s) (F0 m 18 ls []) := by
  obtain ⟨hx, hb, hr, hml, hown, hts, hX, hbl, hlocks, hgv⟩ := C0
  have hown : s.vm.findClass RL = some m.cls := hown
  have htl : ∀ w ∈ ltg, w.before #[Value.ref b] s = true := fun w h => hts w (List.mem_filter.mp h).1
  have hbA : ¬ (fun q : Nat => s.heap.size ≤ q) b := Nat.not_le.mpr hbl
  intro d
  induction d with
  | zero => intro i f u w g n F U V G M k mf mu ml hRel h1 h2; exact absurd h2 (by omega)
  | succ d ih =>
    intro i f u w g n F U V G M k mf mu ml hRel hi hd H locs hPx hPm hS ls hl
    have hk := hRel.1
    have hDx : va_D Ax (pbw x a1 a2 a3 a4 a5 k1 k2 k3 k4 k5 f u w g n k mf mu ml) := vd_same hDx0 rfl
    have hDm : va_D Am (mdw y b1 b2 b3 b4 b5 m1 m2 m3 m4 m5 F U V G M k mf mu ml) := vd_same hDm0 rfl
    refine lv_iload_n hx hb dL_law_18 rfl (lv_at hl 3 rfl) ?_
    refine lv_aload_n hx hb dL_law_19 rfl (lv_at hl 0 rfl) ?_
    refine va_slen hx hb hX hbl hbA hS dL_law_20 ?_
    refine lv_bipush (v := 6) hx hb dL_law_21 (by decide) ?_
    refine lv_isub hx hb dL_law_23 ?_
    refine lv_icmp_gt (tgt := 385) hx hb dL_law_24 (by decide) (fun c_1 => ?_) (fun c_1 => ?_)
    · refine lv_iconst (v := 1) hx hb dL_law_385 (by decide) ?_
      refine va_forget (fun q hq => hS.2.2 q hq) ?_
      exact lw_ret hx hb hr hlocks dL_law_386
    · change ¬ nI L - 6 < nI i at c_1
      rw [lw_gt hL hi] at c_1
      refine lv_aload_n hx hb dL_law_27 rfl (lv_at hl 0 rfl) ?_
      refine lv_iload_n hx hb dL_law_28 rfl (lv_at hl 3 rfl) ?_
      refine ld_s hx hb hX hbl hbA hS (j := i) (by omega) hL dL_law_29 ?_
      refine lv_bipush (v := 15) hx hb dL_law_30 (by decide) ?_
      refine lv_iand hx hb dL_law_32 ?_
      by_cases t_2 : (xs i) &&& 15 = 0
      · refine lv_tableIn (off := 55) (tgt := 88) hx hb dL_law_33 (by rw [t_2]; decide) (by rw [t_2]; decide) (by rw [t_2]; rfl) (by decide) ?_
        refine lv_aload_n hx hb dL_law_88 rfl (lv_at hl 1 rfl) ?_
        refine lv_aload_n hx hb dL_law_89 rfl (lv_at hl 0 rfl) ?_
        refine lv_iload_n hx hb dL_law_90 rfl (lv_at hl 3 rfl) ?_
        refine lv_iconst (v := nI 1) hx hb dL_law_91 (by decide) ?_
        refine lv_iadd hx hb dL_law_92 ?_
        refine tp_i (nI_add i 1) ?_
        refine ld_s hx hb hX hbl hbA hS (j := (i + 1)) (by omega) hL dL_law_93 ?_
        refine lv_aload_n hx hb dL_law_94 rfl (lv_at hl 0 rfl) ?_
        refine lv_iload_n hx hb dL_law_95 rfl (lv_at hl 3 rfl) ?_
        refine lv_iconst (v := nI 2) hx hb dL_law_96 (by decide) ?_
        refine lv_iadd hx hb dL_law_97 ?_
        refine tp_i (nI_add i 2) ?_
        refine ld_s hx hb hX hbl hbA hS (j := (i + 2)) (by omega) hL dL_law_98 ?_
        refine lv_i2l hx hb dL_law_99 rfl ?_
        refine lv_bipush (v := 32) hx hb dL_law_100 (by decide) ?_
        refine lv_lshl hx hb dL_law_102 rfl ?_
        refine lv_aload_n hx hb dL_law_103 rfl (lv_at hl 0 rfl) ?_
        refine lv_iload_n hx hb dL_law_104 rfl (lv_at hl 3 rfl) ?_
        refine lv_iconst (v := nI 3) hx hb dL_law_105 (by decide) ?_
        refine lv_iadd hx hb dL_law_106 ?_
        refine tp_i (nI_add i 3) ?_
        refine ld_s hx hb hX hbl hbA hS (j := (i + 3)) (by omega) hL dL_law_107 ?_
        refine lv_i2l hx hb dL_law_108 rfl ?_
        refine lv_ldc2 (v := 4294967295) hx hb hown (htl _ kcL_13) dL_law_109 ?_
        refine lv_land hx hb dL_law_112 ?_
        refine lv_lor hx hb dL_law_113 ?_
        refine lv_aload_n hx hb dL_law_114 rfl (lv_at hl 0 rfl) ?_
        refine lv_iload_n hx hb dL_law_115 rfl (lv_at hl 3 rfl) ?_
        refine lv_iconst (v := nI 4) hx hb dL_law_116 (by decide) ?_
        refine lv_iadd hx hb dL_law_117 ?_
        refine tp_i (nI_add i 4) ?_
        refine ld_s hx hb hX hbl hbA hS (j := (i + 4)) (by omega) hL dL_law_118 ?_
        refine lv_i2l hx hb dL_law_119 rfl ?_
        refine lv_bipush (v := 32) hx hb dL_law_120 (by decide) ?_
        refine lv_lshl hx hb dL_law_122 rfl ?_
        refine lv_aload_n hx hb dL_law_123 rfl (lv_at hl 0 rfl) ?_
        refine lv_iload_n hx hb dL_law_124 rfl (lv_at hl 3 rfl) ?_
        refine lv_iconst (v := nI 5) hx hb dL_law_125 (by decide) ?_
        refine lv_iadd hx hb dL_law_126 ?_
        refine tp_i (nI_add i 5) ?_
        refine ld_s hx hb hX hbl hbA hS (j := (i + 5)) (by omega) hL dL_law_127 ?_
        refine lv_i2l hx hb dL_law_128 rfl ?_
        refine lv_ldc2 (v := 4294967295) hx hb hown (htl _ kcL_13) dL_law_129 ?_
        refine lv_land hx hb dL_law_132 ?_
        refine lv_lor hx hb dL_law_133 ?_
        refine mu_calli (va_runV (As := [.int (xs (i + 1)), .long ((((xs (i + 2)).toInt64) <<< ((32 : Int32).toInt64 &&& 63)) ||| (((xs (i + 3)).toInt64) &&& 4294967295)), .long ((((xs (i + 4)).toInt64) <<< ((32 : Int32).toInt64 &&& 63)) ||| (((xs (i + 5)).toInt64) &&& 4294967295))]) (rest := []) ⟨hx, hb, hml, hown, htl⟩ (c_X0_address l dC dI (xs (i + 1)) ((((xs (i + 2)).toInt64) <<< ((32 : Int32).toInt64 &&& 63)) ||| (((xs (i + 3)).toInt64) &&& 4294967295)) ((((xs (i + 4)).toInt64) <<< ((32 : Int32).toInt64 &&& 63)) ||| (((xs (i + 5)).toInt64) &&& 4294967295)) Ax hDx) (cwV 3 htl gL_15 rfl rfl rfl hd_X0_address ⟨Nat.le_of_ble_eq_true rfl, Nat.le_of_ble_eq_true rfl⟩) ⟨fb_mu, va_recv hKx hPx (ci := 0) (q0 := 0) rfl rfl, fun U hU hW => ⟨rfl, by rw [hU]; exact hPx, va_K.moved hW.alike hKx⟩⟩ rfl rfl hl.1 rfl (lv_room (Nat.le_of_ble_eq_true rfl)) dL_law_134 ⟨Nat.le_of_ble_eq_true rfl, Nat.le_of_ble_eq_true rfl⟩) hS hAx (fun H locs hPx hS hk1 => ?_)
        have hPm := keep_o hPm (fun z q hz => hsep q.1 (hDm.2 z q hz)) hk1
        clear hk1
        obtain ⟨mf', mu', ml', eX, eM, hRel'⟩ := p_address (x := x) (a1 := a1) (a2 := a2) (a3 := a3) (a4 := a4) (a5 := a5) (k1 := k1) (k2 := k2) (k3 := k3) (k4 := k4) (k5 := k5) (y := y) (b1 := b1) (b2 := b2) (b3 := b3) (b4 := b4) (b5 := b5) (m1 := m1) (m2 := m2) (m3 := m3) (m4 := m4) (m5 := m5) hRel (xs (i + 1)) ((((xs (i + 2)).toInt64) <<< ((32 : Int32).toInt64 &&& 63)) ||| (((xs (i + 3)).toInt64) &&& 4294967295)) ((((xs (i + 4)).toInt64) <<< ((32 : Int32).toInt64 &&& 63)) ||| (((xs (i + 5)).toInt64) &&& 4294967295))
        rw [eX] at hPx
        refine lv_aload_n hx hb dL_law_137 rfl (lv_at hl 2 rfl) ?_
        refine lv_aload_n hx hb dL_law_138 rfl (lv_at hl 0 rfl) ?_
        refine lv_iload_n hx hb dL_law_139 rfl (lv_at hl 3 rfl) ?_
        refine lv_iconst (v := nI 1) hx hb dL_law_140 (by decide) ?_
        refine lv_iadd hx hb dL_law_141 ?_
        refine tp_i (nI_add i 1) ?_
        refine ld_s hx hb hX hbl hbA hS (j := (i + 1)) (by omega) hL dL_law_142 ?_
        refine lv_aload_n hx hb dL_law_143 rfl (lv_at hl 0 rfl) ?_
        refine lv_iload_n hx hb dL_law_144 rfl (lv_at hl 3 rfl) ?_
        refine lv_iconst (v := nI 2) hx hb dL_law_145 (by decide) ?_
        refine lv_iadd hx hb dL_law_146 ?_
        refine tp_i (nI_add i 2) ?_
        refine ld_s hx hb hX hbl hbA hS (j := (i + 2)) (by omega) hL dL_law_147 ?_
        refine lv_i2l hx hb dL_law_148 rfl ?_
        refine lv_bipush (v := 32) hx hb dL_law_149 (by decide) ?_
        refine lv_lshl hx hb dL_law_151 rfl ?_
        refine lv_aload_n hx hb dL_law_152 rfl (lv_at hl 0 rfl) ?_
        refine lv_iload_n hx hb dL_law_153 rfl (lv_at hl 3 rfl) ?_
        refine lv_iconst (v := nI 3) hx hb dL_law_154 (by decide) ?_
        refine lv_iadd hx hb dL_law_155 ?_
        refine tp_i (nI_add i 3) ?_
        refine ld_s hx hb hX hbl hbA hS (j := (i + 3)) (by omega) hL dL_law_156 ?_
        refine lv_i2l hx hb dL_law_157 rfl ?_
        refine lv_ldc2 (v := 4294967295) hx hb hown (htl _ kcL_13) dL_law_158 ?_
        refine lv_land hx hb dL_law_161 ?_
        refine lv_lor hx hb dL_law_162 ?_
        refine lv_aload_n hx hb dL_law_163 rfl (lv_at hl 0 rfl) ?_
        refine lv_iload_n hx hb dL_law_164 rfl (lv_at hl 3 rfl) ?_
        refine lv_iconst (v := nI 4) hx hb dL_law_165 (by decide) ?_
        refine lv_iadd hx hb dL_law_166 ?_
        refine tp_i (nI_add i 4) ?_
        refine ld_s hx hb hX hbl hbA hS (j := (i + 4)) (by omega) hL dL_law_167 ?_
        refine lv_i2l hx hb dL_law_168 rfl ?_
        refine lv_bipush (v := 32) hx hb dL_law_169 (by decide) ?_
        refine lv_lshl hx hb dL_law_171 rfl ?_
        refine lv_aload_n hx hb dL_law_172 rfl (lv_at hl 0 rfl) ?_
        refine lv_iload_n hx hb dL_law_173 rfl (lv_at hl 3 rfl) ?_
        refine lv_iconst (v := nI 5) hx hb dL_law_174 (by decide) ?_
        refine lv_iadd hx hb dL_law_175 ?_
        refine tp_i (nI_add i 5) ?_
        refine ld_s hx hb hX hbl hbA hS (j := (i + 5)) (by omega) hL dL_law_176 ?_
        refine lv_i2l hx hb dL_law_177 rfl ?_
        refine lv_ldc2 (v := 4294967295) hx hb hown (htl _ kcL_13) dL_law_178 ?_
        refine lv_land hx hb dL_law_181 ?_
        refine lv_lor hx hb dL_law_182 ?_
        refine mu_calli (va_runV (As := [.int (xs (i + 1)), .long ((((xs (i + 2)).toInt64) <<< ((32 : Int32).toInt64 &&& 63)) ||| (((xs (i + 3)).toInt64) &&& 4294967295)), .long ((((xs (i + 4)).toInt64) <<< ((32 : Int32).toInt64 &&& 63)) ||| (((xs (i + 5)).toInt64) &&& 4294967295))]) (rest := [.int (b2i (kb_addr (xs (i + 1)) ((((xs (i + 2)).toInt64) <<< ((32 : Int32).toInt64 &&& 63)) ||| (((xs (i + 3)).toInt64) &&& 4294967295)) ((((xs (i + 4)).toInt64) <<< ((32 : Int32).toInt64 &&& 63)) ||| (((xs (i + 5)).toInt64) &&& 4294967295))))]) ⟨hx, hb, hml, hown, htl⟩ (c_X1_address l dC dI (xs (i + 1)) ((((xs (i + 2)).toInt64) <<< ((32 : Int32).toInt64 &&& 63)) ||| (((xs (i + 3)).toInt64) &&& 4294967295)) ((((xs (i + 4)).toInt64) <<< ((32 : Int32).toInt64 &&& 63)) ||| (((xs (i + 5)).toInt64) &&& 4294967295)) Am hDm) (cwV 3 htl gL_19 rfl rfl rfl hd_X1_address ⟨Nat.le_of_ble_eq_true rfl, Nat.le_of_ble_eq_true rfl⟩) ⟨fb_mu, va_recv hKm hPm (ci := 1) (q0 := 0) rfl rfl, fun U hU hW => ⟨rfl, by rw [hU]; exact hPm, va_K.moved hW.alike hKm⟩⟩ rfl rfl hl.1 rfl (lv_room (Nat.le_of_ble_eq_true rfl)) dL_law_183 ⟨Nat.le_of_ble_eq_true rfl, Nat.le_of_ble_eq_true rfl⟩) hS hAm (fun H locs hPm hS hk1 => ?_)
        have hPx := keep_o hPx (fun z q hz => hsep2 q.1 ((vd_same hDx0 rfl : va_D Ax (pbw x a1 a2 a3 a4 a5 k1 k2 k3 k4 k5 f u w g n k mf' mu' ml')).2 z q hz)) hk1
        clear hk1
        rw [eM] at hPm
        refine lv_icmp_eq (tgt := 379) hx hb dL_law_186 (by decide) (fun c_3 => ?_) (fun c_3 => ?_)
        · refine lv_iinc (v := nI (i + 6)) (lv' := [(3, .int (nI (i + 6))), (0, .ref b), (1, .ref x), (2, .ref y)]) hx hb dL_law_379 hl (k := 3) rfl (by rw [show Int32.ofInt 6 = nI 6 by decide]; exact nI_add i 6) (by decide) rfl (fun ls hl => ?_)
          refine lv_goto (tgt := 18) hx hb dL_law_382 (by decide) ?_
          exact ih (i + 6) f u w g n F U V G M k mf' mu' ml' hRel' (by omega) (by omega) _ _ hPx hPm hS ls (lv_sub hl [1, 2, 3, 0] rfl)
        · exact absurd (rfl) c_3
      by_cases t_4 : (xs i) &&& 15 = 1
      · refine lv_tableIn (off := 158) (tgt := 191) hx hb dL_law_33 (by rw [t_4]; decide) (by rw [t_4]; decide) (by rw [t_4]; rfl) (by decide) ?_
        refine lv_aload_n hx hb dL_law_191 rfl (lv_at hl 1 rfl) ?_
        refine lv_aload_n hx hb dL_law_192 rfl (lv_at hl 0 rfl) ?_
        refine lv_iload_n hx hb dL_law_193 rfl (lv_at hl 3 rfl) ?_
        refine lv_iconst (v := nI 1) hx hb dL_law_194 (by decide) ?_
        refine lv_iadd hx hb dL_law_195 ?_
        refine tp_i (nI_add i 1) ?_
        refine ld_s hx hb hX hbl hbA hS (j := (i + 1)) (by omega) hL dL_law_196 ?_
        refine lv_aload_n hx hb dL_law_197 rfl (lv_at hl 0 rfl) ?_
        refine lv_iload_n hx hb dL_law_198 rfl (lv_at hl 3 rfl) ?_
        refine lv_iconst (v := nI 2) hx hb dL_law_199 (by decide) ?_
        refine lv_iadd hx hb dL_law_200 ?_
        refine tp_i (nI_add i 2) ?_
        refine ld_s hx hb hX hbl hbA hS (j := (i + 2)) (by omega) hL dL_law_201 ?_
        refine mu_calli (va_runV (As := [.int (xs (i + 1)), .int (xs (i + 2))]) (rest := []) ⟨hx, hb, hml, hown, htl⟩ (c_X0_put l dC dI (xs (i + 1)) (xs (i + 2)) Ax hk hDx) (cwV 2 htl gL_20 rfl rfl rfl hd_X0_put ⟨Nat.le_of_ble_eq_true rfl, Nat.le_of_ble_eq_true rfl⟩) ⟨fb_mu, va_recv hKx hPx (ci := 0) (q0 := 0) rfl rfl, fun U hU hW => ⟨rfl, by rw [hU]; exact hPx, va_K.moved hW.alike hKx⟩⟩ rfl rfl hl.1 rfl (lv_room (Nat.le_of_ble_eq_true rfl)) dL_law_202 ⟨Nat.le_of_ble_eq_true rfl, Nat.le_of_ble_eq_true rfl⟩) hS hAx (fun H locs hPx hS hk1 => ?_)
        have hPm := keep_o hPm (fun z q hz => hsep q.1 (hDm.2 z q hz)) hk1
        clear hk1
        obtain ⟨f', u', w', g', n', F', U', V', G', M', k', eX, eM, eR, hRel'⟩ := p_put (x := x) (a1 := a1) (a2 := a2) (a3 := a3) (a4 := a4) (a5 := a5) (k1 := k1) (k2 := k2) (k3 := k3) (k4 := k4) (k5 := k5) (y := y) (b1 := b1) (b2 := b2) (b3 := b3) (b4 := b4) (b5 := b5) (m1 := m1) (m2 := m2) (m3 := m3) (m4 := m4) (m5 := m5) hRel (xs (i + 1)) (xs (i + 2))
        rw [eX] at hPx
        refine lv_aload_n hx hb dL_law_205 rfl (lv_at hl 2 rfl) ?_
        refine lv_aload_n hx hb dL_law_206 rfl (lv_at hl 0 rfl) ?_
        refine lv_iload_n hx hb dL_law_207 rfl (lv_at hl 3 rfl) ?_
        refine lv_iconst (v := nI 1) hx hb dL_law_208 (by decide) ?_
        refine lv_iadd hx hb dL_law_209 ?_
        refine tp_i (nI_add i 1) ?_
        refine ld_s hx hb hX hbl hbA hS (j := (i + 1)) (by omega) hL dL_law_210 ?_
        refine lv_aload_n hx hb dL_law_211 rfl (lv_at hl 0 rfl) ?_
        refine lv_iload_n hx hb dL_law_212 rfl (lv_at hl 3 rfl) ?_
        refine lv_iconst (v := nI 2) hx hb dL_law_213 (by decide) ?_
        refine lv_iadd hx hb dL_law_214 ?_
        refine tp_i (nI_add i 2) ?_
        refine ld_s hx hb hX hbl hbA hS (j := (i + 2)) (by omega) hL dL_law_215 ?_
        refine mu_calli (va_runV (As := [.int (xs (i + 1)), .int (xs (i + 2))]) (rest := [.int (if kb_pre mf mu ml (xs (i + 1)) = true then (if kb_st f u w g mf mu ml (xs (i + 1)) k (kb_fst (kb_ah f u w g mf mu ml (xs (i + 1))) k 0) = true then (0 : Int32) else if k < 1000 then 1 else (-1)) else (-1))]) ⟨hx, hb, hml, hown, htl⟩ (c_X1_put l dC dI (xs (i + 1)) (xs (i + 2)) Am hk hDm) (cwV 2 htl gL_24 rfl rfl rfl hd_X1_put ⟨Nat.le_of_ble_eq_true rfl, Nat.le_of_ble_eq_true rfl⟩) ⟨fb_mu, va_recv hKm hPm (ci := 1) (q0 := 0) rfl rfl, fun U hU hW => ⟨rfl, by rw [hU]; exact hPm, va_K.moved hW.alike hKm⟩⟩ rfl rfl hl.1 rfl (lv_room (Nat.le_of_ble_eq_true rfl)) dL_law_216 ⟨Nat.le_of_ble_eq_true rfl, Nat.le_of_ble_eq_true rfl⟩) hS hAm (fun H locs hPm hS hk1 => ?_)
        have hPx := keep_o hPx (fun z q hz => hsep2 q.1 ((vd_same hDx0 rfl : va_D Ax (pbw x a1 a2 a3 a4 a5 k1 k2 k3 k4 k5 f' u' w' g' n' k' mf mu ml)).2 z q hz)) hk1
        clear hk1
        rw [eM] at hPm
        refine lv_icmp_eq (tgt := 379) hx hb dL_law_219 (by decide) (fun c_5 => ?_) (fun c_5 => ?_)
        · refine lv_iinc (v := nI (i + 6)) (lv' := [(3, .int (nI (i + 6))), (0, .ref b), (1, .ref x), (2, .ref y)]) hx hb dL_law_379 hl (k := 3) rfl (by rw [show Int32.ofInt 6 = nI 6 by decide]; exact nI_add i 6) (by decide) rfl (fun ls hl => ?_)
          refine lv_goto (tgt := 18) hx hb dL_law_382 (by decide) ?_
          exact ih (i + 6) f' u' w' g' n' F' U' V' G' M' k' mf mu ml hRel' (by omega) (by omega) _ _ hPx hPm hS ls (lv_sub hl [1, 2, 3, 0] rfl)
        · exact absurd (eR) c_5
      by_cases t_6 : (xs i) &&& 15 = 2
      · refine lv_tableIn (off := 191) (tgt := 224) hx hb dL_law_33 (by rw [t_6]; decide) (by rw [t_6]; decide) (by rw [t_6]; rfl) (by decide) ?_
        refine lv_aload_n hx hb dL_law_224 rfl (lv_at hl 1 rfl) ?_
        refine lv_aload_n hx hb dL_law_225 rfl (lv_at hl 0 rfl) ?_
        refine lv_iload_n hx hb dL_law_226 rfl (lv_at hl 3 rfl) ?_
        refine lv_iconst (v := nI 1) hx hb dL_law_227 (by decide) ?_
        refine lv_iadd hx hb dL_law_228 ?_
        refine tp_i (nI_add i 1) ?_
        refine ld_s hx hb hX hbl hbA hS (j := (i + 1)) (by omega) hL dL_law_229 ?_
        refine mu_calli (va_runV (As := [.int (xs (i + 1))]) (rest := []) ⟨hx, hb, hml, hown, htl⟩ (c_X0_remove l dC dI (xs (i + 1)) Ax hk hDx) (cwV 1 htl gL_25 rfl rfl rfl hd_X0_remove ⟨Nat.le_of_ble_eq_true rfl, Nat.le_of_ble_eq_true rfl⟩) ⟨fb_mu, va_recv hKx hPx (ci := 0) (q0 := 0) rfl rfl, fun U hU hW => ⟨rfl, by rw [hU]; exact hPx, va_K.moved hW.alike hKx⟩⟩ rfl rfl hl.1 rfl (lv_room (Nat.le_of_ble_eq_true rfl)) dL_law_230 ⟨Nat.le_of_ble_eq_true rfl, Nat.le_of_ble_eq_true rfl⟩) hS hAx (fun H locs hPx hS hk1 => ?_)
        have hPm := keep_o hPm (fun z q hz => hsep q.1 (hDm.2 z q hz)) hk1
        clear hk1
        obtain ⟨f', u', w', g', n', F', U', V', G', M', k', eX, eM, eR, hRel'⟩ := p_remove (x := x) (a1 := a1) (a2 := a2) (a3 := a3) (a4 := a4) (a5 := a5) (k1 := k1) (k2 := k2) (k3 := k3) (k4 := k4) (k5 := k5) (y := y) (b1 := b1) (b2 := b2) (b3 := b3) (b4 := b4) (b5 := b5) (m1 := m1) (m2 := m2) (m3 := m3) (m4 := m4) (m5 := m5) hRel (xs (i + 1))
        rw [eX] at hPx
        refine lv_aload_n hx hb dL_law_233 rfl (lv_at hl 2 rfl) ?_
        refine lv_aload_n hx hb dL_law_234 rfl (lv_at hl 0 rfl) ?_
        refine lv_iload_n hx hb dL_law_235 rfl (lv_at hl 3 rfl) ?_
        refine lv_iconst (v := nI 1) hx hb dL_law_236 (by decide) ?_
        refine lv_iadd hx hb dL_law_237 ?_
        refine tp_i (nI_add i 1) ?_
        refine ld_s hx hb hX hbl hbA hS (j := (i + 1)) (by omega) hL dL_law_238 ?_
        refine mu_calli (va_runV (As := [.int (xs (i + 1))]) (rest := [.int (if kb_pre mf mu ml (xs (i + 1)) = true then (if kb_st f u w g mf mu ml (xs (i + 1)) k (kb_fst (kb_ah f u w g mf mu ml (xs (i + 1))) k 0) = true then (1 : Int32) else 0) else (-1))]) ⟨hx, hb, hml, hown, htl⟩ (c_X1_remove l dC dI (xs (i + 1)) Am hk hDm) (cwV 1 htl gL_29 rfl rfl rfl hd_X1_remove ⟨Nat.le_of_ble_eq_true rfl, Nat.le_of_ble_eq_true rfl⟩) ⟨fb_mu, va_recv hKm hPm (ci := 1) (q0 := 0) rfl rfl, fun U hU hW => ⟨rfl, by rw [hU]; exact hPm, va_K.moved hW.alike hKm⟩⟩ rfl rfl hl.1 rfl (lv_room (Nat.le_of_ble_eq_true rfl)) dL_law_239 ⟨Nat.le_of_ble_eq_true rfl, Nat.le_of_ble_eq_true rfl⟩) hS hAm (fun H locs hPm hS hk1 => ?_)
        have hPx := keep_o hPx (fun z q hz => hsep2 q.1 ((vd_same hDx0 rfl : va_D Ax (pbw x a1 a2 a3 a4 a5 k1 k2 k3 k4 k5 f' u' w' g' n' k' mf mu ml)).2 z q hz)) hk1
        clear hk1
        rw [eM] at hPm
        refine lv_icmp_eq (tgt := 379) hx hb dL_law_242 (by decide) (fun c_7 => ?_) (fun c_7 => ?_)
        · refine lv_iinc (v := nI (i + 6)) (lv' := [(3, .int (nI (i + 6))), (0, .ref b), (1, .ref x), (2, .ref y)]) hx hb dL_law_379 hl (k := 3) rfl (by rw [show Int32.ofInt 6 = nI 6 by decide]; exact nI_add i 6) (by decide) rfl (fun ls hl => ?_)
          refine lv_goto (tgt := 18) hx hb dL_law_382 (by decide) ?_
          exact ih (i + 6) f' u' w' g' n' F' U' V' G' M' k' mf mu ml hRel' (by omega) (by omega) _ _ hPx hPm hS ls (lv_sub hl [1, 2, 3, 0] rfl)
        · exact absurd (eR) c_7
      by_cases t_8 : (xs i) &&& 15 = 3
      · refine lv_tableIn (off := 214) (tgt := 247) hx hb dL_law_33 (by rw [t_8]; decide) (by rw [t_8]; decide) (by rw [t_8]; rfl) (by decide) ?_
        refine lv_aload_n hx hb dL_law_247 rfl (lv_at hl 1 rfl) ?_
        refine lv_aload_n hx hb dL_law_248 rfl (lv_at hl 0 rfl) ?_
        refine lv_iload_n hx hb dL_law_249 rfl (lv_at hl 3 rfl) ?_
        refine lv_iconst (v := nI 1) hx hb dL_law_250 (by decide) ?_
        refine lv_iadd hx hb dL_law_251 ?_
        refine tp_i (nI_add i 1) ?_
        refine ld_s hx hb hX hbl hbA hS (j := (i + 1)) (by omega) hL dL_law_252 ?_
        refine ru_calli (va_runV (As := [.int (xs (i + 1))]) (rest := []) ⟨hx, hb, hml, hown, htl⟩ (c_X0_number l dC dI (xs (i + 1)) _ hk hPx) (cwV 1 htl gL_30 rfl rfl rfl hd_X0_number ⟨Nat.le_of_ble_eq_true rfl, Nat.le_of_ble_eq_true rfl⟩) ⟨fb_ro, va_recv hKx hPx (ci := 0) (q0 := 0) rfl rfl, fun U hU hW => ⟨rfl, hU, va_K.moved hW.alike hKx⟩⟩ rfl rfl hl.1 rfl (lv_room (Nat.le_of_ble_eq_true rfl)) dL_law_253 ⟨Nat.le_of_ble_eq_true rfl, Nat.le_of_ble_eq_true rfl⟩) ?_
        refine lv_aload_n hx hb dL_law_256 rfl (lv_at hl 2 rfl) ?_
        refine lv_aload_n hx hb dL_law_257 rfl (lv_at hl 0 rfl) ?_
        refine lv_iload_n hx hb dL_law_258 rfl (lv_at hl 3 rfl) ?_
        refine lv_iconst (v := nI 1) hx hb dL_law_259 (by decide) ?_
        refine lv_iadd hx hb dL_law_260 ?_
        refine tp_i (nI_add i 1) ?_
        refine ld_s hx hb hX hbl hbA hS (j := (i + 1)) (by omega) hL dL_law_261 ?_
        refine ru_calli (va_runV (As := [.int (xs (i + 1))]) (rest := [.int (if kb_st f u w g mf mu ml (xs (i + 1)) k (kb_fst (kb_ah f u w g mf mu ml (xs (i + 1))) k 0) = true then n (kb_fst (kb_ah f u w g mf mu ml (xs (i + 1))) k 0) else (-2147483648))]) ⟨hx, hb, hml, hown, htl⟩ (c_X1_number l dC dI (xs (i + 1)) _ hk hPm) (cwV 1 htl gL_33 rfl rfl rfl hd_X1_number ⟨Nat.le_of_ble_eq_true rfl, Nat.le_of_ble_eq_true rfl⟩) ⟨fb_ro, va_recv hKm hPm (ci := 1) (q0 := 0) rfl rfl, fun U hU hW => ⟨rfl, hU, va_K.moved hW.alike hKm⟩⟩ rfl rfl hl.1 rfl (lv_room (Nat.le_of_ble_eq_true rfl)) dL_law_262 ⟨Nat.le_of_ble_eq_true rfl, Nat.le_of_ble_eq_true rfl⟩) ?_
        refine lv_icmp_eq (tgt := 379) hx hb dL_law_265 (by decide) (fun c_9 => ?_) (fun c_9 => ?_)
        · refine lv_iinc (v := nI (i + 6)) (lv' := [(3, .int (nI (i + 6))), (0, .ref b), (1, .ref x), (2, .ref y)]) hx hb dL_law_379 hl (k := 3) rfl (by rw [show Int32.ofInt 6 = nI 6 by decide]; exact nI_add i 6) (by decide) rfl (fun ls hl => ?_)
          refine lv_goto (tgt := 18) hx hb dL_law_382 (by decide) ?_
          exact ih (i + 6) f u w g n F U V G M k mf mu ml hRel (by omega) (by omega) _ _ hPx hPm hS ls (lv_sub hl [1, 2, 3, 0] rfl)
        · exact absurd (p_number hRel _) c_9
      by_cases t_10 : (xs i) &&& 15 = 4
      · refine lv_tableIn (off := 237) (tgt := 270) hx hb dL_law_33 (by rw [t_10]; decide) (by rw [t_10]; decide) (by rw [t_10]; rfl) (by decide) ?_
        refine lv_aload_n hx hb dL_law_270 rfl (lv_at hl 1 rfl) ?_
        refine ru_calli (va_runV (As := []) (rest := []) ⟨hx, hb, hml, hown, htl⟩ (c_X0_longest l dC dI _ hk hPx) (cwV 0 htl gL_34 rfl rfl rfl hd_X0_longest ⟨Nat.le_of_ble_eq_true rfl, Nat.le_of_ble_eq_true rfl⟩) ⟨fb_ro, va_recv hKx hPx (ci := 0) (q0 := 0) rfl rfl, fun U hU hW => ⟨rfl, hU, va_K.moved hW.alike hKx⟩⟩ rfl rfl hl.1 rfl (lv_room (Nat.le_of_ble_eq_true rfl)) dL_law_271 ⟨Nat.le_of_ble_eq_true rfl, Nat.le_of_ble_eq_true rfl⟩) ?_
        refine lv_aload_n hx hb dL_law_274 rfl (lv_at hl 2 rfl) ?_
        refine ru_calli (va_runV (As := []) (rest := [.int (kb_lg (kb_cov f u w g mf mu ml) g k)]) ⟨hx, hb, hml, hown, htl⟩ (c_X1_longest l dC dI _ hk (p_len hRel) hPm) (cwV 0 htl gL_38 rfl rfl rfl hd_X1_longest ⟨Nat.le_of_ble_eq_true rfl, Nat.le_of_ble_eq_true rfl⟩) ⟨fb_ro, va_recv hKm hPm (ci := 1) (q0 := 0) rfl rfl, fun U hU hW => ⟨rfl, hU, va_K.moved hW.alike hKm⟩⟩ rfl rfl hl.1 rfl (lv_room (Nat.le_of_ble_eq_true rfl)) dL_law_275 ⟨Nat.le_of_ble_eq_true rfl, Nat.le_of_ble_eq_true rfl⟩) ?_
        refine lv_icmp_eq (tgt := 379) hx hb dL_law_278 (by decide) (fun c_11 => ?_) (fun c_11 => ?_)
        · refine lv_iinc (v := nI (i + 6)) (lv' := [(3, .int (nI (i + 6))), (0, .ref b), (1, .ref x), (2, .ref y)]) hx hb dL_law_379 hl (k := 3) rfl (by rw [show Int32.ofInt 6 = nI 6 by decide]; exact nI_add i 6) (by decide) rfl (fun ls hl => ?_)
          refine lv_goto (tgt := 18) hx hb dL_law_382 (by decide) ?_
          exact ih (i + 6) f u w g n F U V G M k mf mu ml hRel (by omega) (by omega) _ _ hPx hPm hS ls (lv_sub hl [1, 2, 3, 0] rfl)
        · exact absurd (p_long hRel) c_11
      by_cases t_12 : (xs i) &&& 15 = 5
      · refine lv_tableIn (off := 250) (tgt := 283) hx hb dL_law_33 (by rw [t_12]; decide) (by rw [t_12]; decide) (by rw [t_12]; rfl) (by decide) ?_
        refine lv_aload_n hx hb dL_law_283 rfl (lv_at hl 1 rfl) ?_
        refine ru_calli (va_runV (As := []) (rest := []) ⟨hx, hb, hml, hown, htl⟩ (c_X0_covering l dC dI _ hk hPx) (cwV 0 htl gL_39 rfl rfl rfl hd_X0_covering ⟨Nat.le_of_ble_eq_true rfl, Nat.le_of_ble_eq_true rfl⟩) ⟨fb_ro, va_recv hKx hPx (ci := 0) (q0 := 0) rfl rfl, fun U hU hW => ⟨rfl, hU, va_K.moved hW.alike hKx⟩⟩ rfl rfl hl.1 rfl (lv_room (Nat.le_of_ble_eq_true rfl)) dL_law_284 ⟨Nat.le_of_ble_eq_true rfl, Nat.le_of_ble_eq_true rfl⟩) ?_
        refine lv_aload_n hx hb dL_law_287 rfl (lv_at hl 2 rfl) ?_
        refine ru_calli (va_runV (As := []) (rest := [.int (nI (kb_cv (kb_cov f u w g mf mu ml) k))]) ⟨hx, hb, hml, hown, htl⟩ (c_X1_covering l dC dI _ hk (p_len hRel) hPm) (cwV 0 htl gL_42 rfl rfl rfl hd_X1_covering ⟨Nat.le_of_ble_eq_true rfl, Nat.le_of_ble_eq_true rfl⟩) ⟨fb_ro, va_recv hKm hPm (ci := 1) (q0 := 0) rfl rfl, fun U hU hW => ⟨rfl, hU, va_K.moved hW.alike hKm⟩⟩ rfl rfl hl.1 rfl (lv_room (Nat.le_of_ble_eq_true rfl)) dL_law_288 ⟨Nat.le_of_ble_eq_true rfl, Nat.le_of_ble_eq_true rfl⟩) ?_
        refine lv_icmp_eq (tgt := 379) hx hb dL_law_291 (by decide) (fun c_13 => ?_) (fun c_13 => ?_)
        · refine lv_iinc (v := nI (i + 6)) (lv' := [(3, .int (nI (i + 6))), (0, .ref b), (1, .ref x), (2, .ref y)]) hx hb dL_law_379 hl (k := 3) rfl (by rw [show Int32.ofInt 6 = nI 6 by decide]; exact nI_add i 6) (by decide) rfl (fun ls hl => ?_)
          refine lv_goto (tgt := 18) hx hb dL_law_382 (by decide) ?_
          exact ih (i + 6) f u w g n F U V G M k mf mu ml hRel (by omega) (by omega) _ _ hPx hPm hS ls (lv_sub hl [1, 2, 3, 0] rfl)
        · exact absurd (congrArg nI (p_cov hRel)) c_13
      by_cases t_14 : (xs i) &&& 15 = 6
      · refine lv_tableIn (off := 263) (tgt := 296) hx hb dL_law_33 (by rw [t_14]; decide) (by rw [t_14]; decide) (by rw [t_14]; rfl) (by decide) ?_
        refine lv_aload_n hx hb dL_law_296 rfl (lv_at hl 1 rfl) ?_
        refine lv_aload_n hx hb dL_law_297 rfl (lv_at hl 0 rfl) ?_
        refine lv_iload_n hx hb dL_law_298 rfl (lv_at hl 3 rfl) ?_
        refine lv_iconst (v := nI 1) hx hb dL_law_299 (by decide) ?_
        refine lv_iadd hx hb dL_law_300 ?_
        refine tp_i (nI_add i 1) ?_
        refine ld_s hx hb hX hbl hbA hS (j := (i + 1)) (by omega) hL dL_law_301 ?_
        refine ru_calli (va_runV (As := [.int (xs (i + 1))]) (rest := []) ⟨hx, hb, hml, hown, htl⟩ (c_X0_ahead l dC dI (xs (i + 1)) _ hk hPx) (cwV 1 htl gL_43 rfl rfl rfl hd_X0_ahead ⟨Nat.le_of_ble_eq_true rfl, Nat.le_of_ble_eq_true rfl⟩) ⟨fb_ro, va_recv hKx hPx (ci := 0) (q0 := 0) rfl rfl, fun U hU hW => ⟨rfl, hU, va_K.moved hW.alike hKx⟩⟩ rfl rfl hl.1 rfl (lv_room (Nat.le_of_ble_eq_true rfl)) dL_law_302 ⟨Nat.le_of_ble_eq_true rfl, Nat.le_of_ble_eq_true rfl⟩) ?_
        refine lv_aload_n hx hb dL_law_305 rfl (lv_at hl 2 rfl) ?_
        refine lv_aload_n hx hb dL_law_306 rfl (lv_at hl 0 rfl) ?_
        refine lv_iload_n hx hb dL_law_307 rfl (lv_at hl 3 rfl) ?_
        refine lv_iconst (v := nI 1) hx hb dL_law_308 (by decide) ?_
        refine lv_iadd hx hb dL_law_309 ?_
        refine tp_i (nI_add i 1) ?_
        refine ld_s hx hb hX hbl hbA hS (j := (i + 1)) (by omega) hL dL_law_310 ?_
        refine ru_calli (va_runV (As := [.int (xs (i + 1))]) (rest := [.int (if kb_len mf (xs (i + 1)) = true then nI (kb_fst (kb_ah f u w g mf mu ml (xs (i + 1))) k 0) else (-1))]) ⟨hx, hb, hml, hown, htl⟩ (c_X1_ahead l dC dI (xs (i + 1)) _ hk hPm) (cwV 1 htl gL_46 rfl rfl rfl hd_X1_ahead ⟨Nat.le_of_ble_eq_true rfl, Nat.le_of_ble_eq_true rfl⟩) ⟨fb_ro, va_recv hKm hPm (ci := 1) (q0 := 0) rfl rfl, fun U hU hW => ⟨rfl, hU, va_K.moved hW.alike hKm⟩⟩ rfl rfl hl.1 rfl (lv_room (Nat.le_of_ble_eq_true rfl)) dL_law_311 ⟨Nat.le_of_ble_eq_true rfl, Nat.le_of_ble_eq_true rfl⟩) ?_
        refine lv_icmp_eq (tgt := 379) hx hb dL_law_314 (by decide) (fun c_15 => ?_) (fun c_15 => ?_)
        · refine lv_iinc (v := nI (i + 6)) (lv' := [(3, .int (nI (i + 6))), (0, .ref b), (1, .ref x), (2, .ref y)]) hx hb dL_law_379 hl (k := 3) rfl (by rw [show Int32.ofInt 6 = nI 6 by decide]; exact nI_add i 6) (by decide) rfl (fun ls hl => ?_)
          refine lv_goto (tgt := 18) hx hb dL_law_382 (by decide) ?_
          exact ih (i + 6) f u w g n F U V G M k mf mu ml hRel (by omega) (by omega) _ _ hPx hPm hS ls (lv_sub hl [1, 2, 3, 0] rfl)
        · exact absurd (p_ahead hRel _) c_15
      by_cases t_16 : (xs i) &&& 15 = 7
      · refine lv_tableIn (off := 286) (tgt := 319) hx hb dL_law_33 (by rw [t_16]; decide) (by rw [t_16]; decide) (by rw [t_16]; rfl) (by decide) ?_
        by_cases hbad : xs (i + 1) < 0 ∨ nI k ≤ xs (i + 1)
        · refine lv_aload_n hx hb dL_law_319 rfl (lv_at hl 1 rfl) ?_
          refine lv_aload_n hx hb dL_law_320 rfl (lv_at hl 0 rfl) ?_
          refine lv_iload_n hx hb dL_law_321 rfl (lv_at hl 3 rfl) ?_
          refine lv_iconst (v := nI 1) hx hb dL_law_322 (by decide) ?_
          refine lv_iadd hx hb dL_law_323 ?_
          refine tp_i (nI_add i 1) ?_
          refine ld_s hx hb hX hbl hbA hS (j := (i + 1)) (by omega) hL dL_law_324 ?_
          refine mu_calli (va_runV (As := [.int (xs (i + 1))]) (rest := []) ⟨hx, hb, hml, hown, htl⟩ (c_X0_atBad l dC dI (xs (i + 1)) Ax hbad hDx) (cwV 1 htl gL_47 rfl rfl rfl hd_X0_at ⟨Nat.le_of_ble_eq_true rfl, Nat.le_of_ble_eq_true rfl⟩) ⟨fb_mu, va_recv hKx hPx (ci := 0) (q0 := 0) rfl rfl, fun U hU hW => ⟨rfl, by rw [hU]; exact hPx, va_K.moved hW.alike hKx⟩⟩ rfl rfl hl.1 rfl (lv_room (Nat.le_of_ble_eq_true rfl)) dL_law_325 ⟨Nat.le_of_ble_eq_true rfl, Nat.le_of_ble_eq_true rfl⟩) hS hAx (fun H locs hPx hS hk1 => ?_)
          have hPm := keep_o hPm (fun z q hz => hsep q.1 (hDm.2 z q hz)) hk1
          clear hk1
          refine lv_aload_n hx hb dL_law_328 rfl (lv_at hl 2 rfl) ?_
          refine lv_aload_n hx hb dL_law_329 rfl (lv_at hl 0 rfl) ?_
          refine lv_iload_n hx hb dL_law_330 rfl (lv_at hl 3 rfl) ?_
          refine lv_iconst (v := nI 1) hx hb dL_law_331 (by decide) ?_
          refine lv_iadd hx hb dL_law_332 ?_
          refine tp_i (nI_add i 1) ?_
          refine ld_s hx hb hX hbl hbA hS (j := (i + 1)) (by omega) hL dL_law_333 ?_
          refine mu_calli (va_runV (As := [.int (xs (i + 1))]) (rest := [.int (-1)]) ⟨hx, hb, hml, hown, htl⟩ (c_X1_atBad l dC dI (xs (i + 1)) Am hbad hDm) (cwV 1 htl gL_50 rfl rfl rfl hd_X1_at ⟨Nat.le_of_ble_eq_true rfl, Nat.le_of_ble_eq_true rfl⟩) ⟨fb_mu, va_recv hKm hPm (ci := 1) (q0 := 0) rfl rfl, fun U hU hW => ⟨rfl, by rw [hU]; exact hPm, va_K.moved hW.alike hKm⟩⟩ rfl rfl hl.1 rfl (lv_room (Nat.le_of_ble_eq_true rfl)) dL_law_334 ⟨Nat.le_of_ble_eq_true rfl, Nat.le_of_ble_eq_true rfl⟩) hS hAm (fun H locs hPm hS hk1 => ?_)
          have hPx := keep_o hPx (fun z q hz => hsep2 q.1 ((vd_same hDx0 rfl : va_D Ax (pbw x a1 a2 a3 a4 a5 k1 k2 k3 k4 k5 f u w g n k mf mu ml)).2 z q hz)) hk1
          clear hk1
          refine lv_icmp_eq (tgt := 379) hx hb dL_law_337 (by decide) (fun c_17 => ?_) (fun c_17 => ?_)
          · refine lv_iinc (v := nI (i + 6)) (lv' := [(3, .int (nI (i + 6))), (0, .ref b), (1, .ref x), (2, .ref y)]) hx hb dL_law_379 hl (k := 3) rfl (by rw [show Int32.ofInt 6 = nI 6 by decide]; exact nI_add i 6) (by decide) rfl (fun ls hl => ?_)
            refine lv_goto (tgt := 18) hx hb dL_law_382 (by decide) ?_
            exact ih (i + 6) f u w g n F U V G M k mf mu ml hRel (by omega) (by omega) _ _ hPx hPm hS ls (lv_sub hl [1, 2, 3, 0] rfl)
          · exact absurd c_17 (by decide)
        · obtain ⟨jr, hj, ej⟩ : ∃ j, j < k ∧ xs (i + 1) = nI j := by
            rcases pk_ix (xs (i + 1)) (n := k) (by omega) with q | q | q
            · exact absurd (Or.inl q) hbad
            · exact absurd (Or.inr q) hbad
            · exact q
          obtain ⟨hR1, z1, z2, z3, z4, hRel2⟩ := p_at hRel hj rfl
          refine lv_aload_n hx hb dL_law_319 rfl (lv_at hl 1 rfl) ?_
          refine lv_aload_n hx hb dL_law_320 rfl (lv_at hl 0 rfl) ?_
          refine lv_iload_n hx hb dL_law_321 rfl (lv_at hl 3 rfl) ?_
          refine lv_iconst (v := nI 1) hx hb dL_law_322 (by decide) ?_
          refine lv_iadd hx hb dL_law_323 ?_
          refine tp_i (nI_add i 1) ?_
          refine ld_s hx hb hX hbl hbA hS (j := (i + 1)) (by omega) hL dL_law_324 ?_
          refine tp_i (ej) ?_
          refine mu_calli (va_runV (As := [.int (nI jr)]) (rest := []) ⟨hx, hb, hml, hown, htl⟩ (c_X0_atOk l dC dI jr Ax hj hk hDx) (cwV 1 htl gL_47 rfl rfl rfl hd_X0_at ⟨Nat.le_of_ble_eq_true rfl, Nat.le_of_ble_eq_true rfl⟩) ⟨fb_mu, va_recv hKx hPx (ci := 0) (q0 := 0) rfl rfl, fun U hU hW => ⟨rfl, by rw [hU]; exact hPx, va_K.moved hW.alike hKx⟩⟩ rfl rfl hl.1 rfl (lv_room (Nat.le_of_ble_eq_true rfl)) dL_law_325 ⟨Nat.le_of_ble_eq_true rfl, Nat.le_of_ble_eq_true rfl⟩) hS hAx (fun H locs hPx hS hk1 => ?_)
          have hPm := keep_o hPm (fun z q hz => hsep q.1 (hDm.2 z q hz)) hk1
          clear hk1
          refine lv_aload_n hx hb dL_law_328 rfl (lv_at hl 2 rfl) ?_
          refine lv_aload_n hx hb dL_law_329 rfl (lv_at hl 0 rfl) ?_
          refine lv_iload_n hx hb dL_law_330 rfl (lv_at hl 3 rfl) ?_
          refine lv_iconst (v := nI 1) hx hb dL_law_331 (by decide) ?_
          refine lv_iadd hx hb dL_law_332 ?_
          refine tp_i (nI_add i 1) ?_
          refine ld_s hx hb hX hbl hbA hS (j := (i + 1)) (by omega) hL dL_law_333 ?_
          refine tp_i (ej) ?_
          refine mu_calli (va_runV (As := [.int (nI jr)]) (rest := [.int (g jr)]) ⟨hx, hb, hml, hown, htl⟩ (c_X1_atOk l dC dI jr Am hj hk hR1 hDm) (cwV 1 htl gL_50 rfl rfl rfl hd_X1_at ⟨Nat.le_of_ble_eq_true rfl, Nat.le_of_ble_eq_true rfl⟩) ⟨fb_mu, va_recv hKm hPm (ci := 1) (q0 := 0) rfl rfl, fun U hU hW => ⟨rfl, by rw [hU]; exact hPm, va_K.moved hW.alike hKm⟩⟩ rfl rfl hl.1 rfl (lv_room (Nat.le_of_ble_eq_true rfl)) dL_law_334 ⟨Nat.le_of_ble_eq_true rfl, Nat.le_of_ble_eq_true rfl⟩) hS hAm (fun H locs hPm hS hk1 => ?_)
          have hPx := keep_o hPx (fun z q hz => hsep2 q.1 ((vd_same hDx0 rfl : va_D Ax (pbw x a1 a2 a3 a4 a5 k1 k2 k3 k4 k5 f u w g n k (f jr) (u jr) (w jr))).2 z q hz)) hk1
          clear hk1
          rw [z1, z2, z3] at hPm
          refine lv_icmp_eq (tgt := 379) hx hb dL_law_337 (by decide) (fun c_18 => ?_) (fun c_18 => ?_)
          · refine lv_iinc (v := nI (i + 6)) (lv' := [(3, .int (nI (i + 6))), (0, .ref b), (1, .ref x), (2, .ref y)]) hx hb dL_law_379 hl (k := 3) rfl (by rw [show Int32.ofInt 6 = nI 6 by decide]; exact nI_add i 6) (by decide) rfl (fun ls hl => ?_)
            refine lv_goto (tgt := 18) hx hb dL_law_382 (by decide) ?_
            exact ih (i + 6) f u w g n F U V G M k (f jr) (u jr) (w jr) hRel2 (by omega) (by omega) _ _ hPx hPm hS ls (lv_sub hl [1, 2, 3, 0] rfl)
          · exact absurd (z4.symm) c_18
      by_cases t_19 : (xs i) &&& 15 = 8
      · refine lv_tableIn (off := 309) (tgt := 342) hx hb dL_law_33 (by rw [t_19]; decide) (by rw [t_19]; decide) (by rw [t_19]; rfl) (by decide) ?_
        refine lv_aload_n hx hb dL_law_342 rfl (lv_at hl 1 rfl) ?_
        refine ru_calli (va_runV (As := []) (rest := []) ⟨hx, hb, hml, hown, htl⟩ (c_X0_size l dC dI _ hPx) (cwV 0 htl gL_51 rfl rfl rfl hd_X0_size ⟨Nat.le_of_ble_eq_true rfl, Nat.le_of_ble_eq_true rfl⟩) ⟨fb_ro, va_recv hKx hPx (ci := 0) (q0 := 0) rfl rfl, fun U hU hW => ⟨rfl, hU, va_K.moved hW.alike hKx⟩⟩ rfl rfl hl.1 rfl (lv_room (Nat.le_of_ble_eq_true rfl)) dL_law_343 ⟨Nat.le_of_ble_eq_true rfl, Nat.le_of_ble_eq_true rfl⟩) ?_
        refine lv_aload_n hx hb dL_law_346 rfl (lv_at hl 2 rfl) ?_
        refine ru_calli (va_runV (As := []) (rest := [.int (nI k)]) ⟨hx, hb, hml, hown, htl⟩ (c_X1_size l dC dI _ hPm) (cwV 0 htl gL_54 rfl rfl rfl hd_X1_size ⟨Nat.le_of_ble_eq_true rfl, Nat.le_of_ble_eq_true rfl⟩) ⟨fb_ro, va_recv hKm hPm (ci := 1) (q0 := 0) rfl rfl, fun U hU hW => ⟨rfl, hU, va_K.moved hW.alike hKm⟩⟩ rfl rfl hl.1 rfl (lv_room (Nat.le_of_ble_eq_true rfl)) dL_law_347 ⟨Nat.le_of_ble_eq_true rfl, Nat.le_of_ble_eq_true rfl⟩) ?_
        refine lv_icmp_eq (tgt := 379) hx hb dL_law_350 (by decide) (fun c_20 => ?_) (fun c_20 => ?_)
        · refine lv_iinc (v := nI (i + 6)) (lv' := [(3, .int (nI (i + 6))), (0, .ref b), (1, .ref x), (2, .ref y)]) hx hb dL_law_379 hl (k := 3) rfl (by rw [show Int32.ofInt 6 = nI 6 by decide]; exact nI_add i 6) (by decide) rfl (fun ls hl => ?_)
          refine lv_goto (tgt := 18) hx hb dL_law_382 (by decide) ?_
          exact ih (i + 6) f u w g n F U V G M k mf mu ml hRel (by omega) (by omega) _ _ hPx hPm hS ls (lv_sub hl [1, 2, 3, 0] rfl)
        · exact absurd (rfl) c_20
      by_cases t_21 : (xs i) &&& 15 = 9
      · refine lv_tableIn (off := 322) (tgt := 355) hx hb dL_law_33 (by rw [t_21]; decide) (by rw [t_21]; decide) (by rw [t_21]; rfl) (by decide) ?_
        refine lv_aload_n hx hb dL_law_355 rfl (lv_at hl 1 rfl) ?_
        refine lv_aload_n hx hb dL_law_356 rfl (lv_at hl 0 rfl) ?_
        refine lv_iload_n hx hb dL_law_357 rfl (lv_at hl 3 rfl) ?_
        refine lv_iconst (v := nI 1) hx hb dL_law_358 (by decide) ?_
        refine lv_iadd hx hb dL_law_359 ?_
        refine tp_i (nI_add i 1) ?_
        refine ld_s hx hb hX hbl hbA hS (j := (i + 1)) (by omega) hL dL_law_360 ?_
        refine ru_calll (va_runV (As := [.int (xs (i + 1))]) (rest := []) ⟨hx, hb, hml, hown, htl⟩ (c_X0_told l dC dI (xs (i + 1)) _ hPx) (cwV 1 htl gL_55 rfl rfl rfl hd_X0_told ⟨Nat.le_of_ble_eq_true rfl, Nat.le_of_ble_eq_true rfl⟩) ⟨fb_ro, va_recv hKx hPx (ci := 0) (q0 := 0) rfl rfl, fun U hU hW => ⟨rfl, hU, va_K.moved hW.alike hKx⟩⟩ rfl rfl hl.1 rfl (lv_room (Nat.le_of_ble_eq_true rfl)) dL_law_361 ⟨Nat.le_of_ble_eq_true rfl, Nat.le_of_ble_eq_true rfl⟩) ?_
        refine lv_aload_n hx hb dL_law_364 rfl (lv_at hl 2 rfl) ?_
        refine lv_aload_n hx hb dL_law_365 rfl (lv_at hl 0 rfl) ?_
        refine lv_iload_n hx hb dL_law_366 rfl (lv_at hl 3 rfl) ?_
        refine lv_iconst (v := nI 1) hx hb dL_law_367 (by decide) ?_
        refine lv_iadd hx hb dL_law_368 ?_
        refine tp_i (nI_add i 1) ?_
        refine ld_s hx hb hX hbl hbA hS (j := (i + 1)) (by omega) hL dL_law_369 ?_
        refine ru_calll (va_runV (As := [.int (xs (i + 1))]) (rest := [.long (if (xs (i + 1)) = 0 then mf.toInt64 else if (xs (i + 1)) = 1 then mu else if (xs (i + 1)) = 2 then ml else 0)]) ⟨hx, hb, hml, hown, htl⟩ (c_X1_told l dC dI (xs (i + 1)) _ hPm) (cwV 1 htl gL_59 rfl rfl rfl hd_X1_told ⟨Nat.le_of_ble_eq_true rfl, Nat.le_of_ble_eq_true rfl⟩) ⟨fb_ro, va_recv hKm hPm (ci := 1) (q0 := 0) rfl rfl, fun U hU hW => ⟨rfl, hU, va_K.moved hW.alike hKm⟩⟩ rfl rfl hl.1 rfl (lv_room (Nat.le_of_ble_eq_true rfl)) dL_law_370 ⟨Nat.le_of_ble_eq_true rfl, Nat.le_of_ble_eq_true rfl⟩) ?_
        refine W.lcmp hx hb dL_law_373 ?_
        refine lv_if_eq (tgt := 379) hx hb dL_law_374 (by decide) (fun c_22 => ?_) (fun c_22 => ?_)
        · rw [lg_cmp_eq] at c_22
          refine lv_iinc (v := nI (i + 6)) (lv' := [(3, .int (nI (i + 6))), (0, .ref b), (1, .ref x), (2, .ref y)]) hx hb dL_law_379 hl (k := 3) rfl (by rw [show Int32.ofInt 6 = nI 6 by decide]; exact nI_add i 6) (by decide) rfl (fun ls hl => ?_)
          refine lv_goto (tgt := 18) hx hb dL_law_382 (by decide) ?_
          exact ih (i + 6) f u w g n F U V G M k mf mu ml hRel (by omega) (by omega) _ _ hPx hPm hS ls (lv_sub hl [1, 2, 3, 0] rfl)
        · rw [lg_cmp_eq] at c_22
          exact absurd (rfl) c_22
      refine lv_tableOut (tgt := 379) hx hb dL_law_33 (by have zt_2 := lv_neT t_2 (a := 0) rfl; have zt_4 := lv_neT t_4 (a := 1) rfl; have zt_6 := lv_neT t_6 (a := 2) rfl; have zt_8 := lv_neT t_8 (a := 3) rfl; have zt_10 := lv_neT t_10 (a := 4) rfl; have zt_12 := lv_neT t_12 (a := 5) rfl; have zt_14 := lv_neT t_14 (a := 6) rfl; have zt_16 := lv_neT t_16 (a := 7) rfl; have zt_19 := lv_neT t_19 (a := 8) rfl; have zt_21 := lv_neT t_21 (a := 9) rfl; omega) (by decide) ?_
      refine lv_iinc (v := nI (i + 6)) (lv' := [(3, .int (nI (i + 6))), (0, .ref b), (1, .ref x), (2, .ref y)]) hx hb dL_law_379 hl (k := 3) rfl (by rw [show Int32.ofInt 6 = nI 6 by decide]; exact nI_add i 6) (by decide) rfl (fun ls hl => ?_)
      refine lv_goto (tgt := 18) hx hb dL_law_382 (by decide) ?_
      exact ih (i + 6) f u w g n F U V G M k mf mu ml hRel (by omega) (by omega) _ _ hPx hPm hS ls (lv_sub hl [1, 2, 3, 0] rfl)
end
section
set_option maxHeartbeats 4000000 in
set_option maxRecDepth 100000 in
/-- THE LAW, from its entry -/
theorem whole_start {p : Program} {e : Env} {s : State} {m : MethodId} {below : List Frame} {meth : Method} {c : Code} (l : Launch) {b L : Nat} {xs : Nat → Int32} (hL : L ≤ 3072) (C0 : lw_At p s m meth c b L xs) : W p l e room_1 s m #[Value.ref b] below meth c s.heap [] 0 0 (lw_Z below #[Value.ref b] s) (entryFrame m ([Value.ref b] : List Value).toArray 4) := by
  obtain ⟨hx, hb, hr, hml, hown, hts, hX, hbl, hlocks, hgv⟩ := id C0
  have hown : s.vm.findClass RL = some m.cls := hown
  have htl : ∀ w ∈ ltg, w.before #[Value.ref b] s = true := fun w h => hts w (List.mem_filter.mp h).1
  have hA : ∀ q : Nat, s.heap.size ≤ q → (fun q : Nat => s.heap.size ≤ q) q := fun _ h => h
  obtain ⟨c0, iS0, hKn0⟩ := u_known (C := RX0) (T := TX0) (N := 9) (n := 9) htl inX0 (htl (.instantiable RX0 9) (by decide +kernel))
  obtain ⟨c1, iS1, hKn1⟩ := u_known (C := RX1) (T := TX1) (N := 9) (n := 9) htl inX1 (htl (.instantiable RX1 9) (by decide +kernel))
  obtain ⟨dC, dI, hKc⟩ : ∃ (dC : Nat → ClassId) (dI : Nat → Nat → Nat), ∀ (k : Nat) (q : vw_C), classes[k]? = some q → u_Kn s q.1 q.2.1 q.2.2 (dC k) (dI k) := by
    refine ⟨fun k => if k = 0 then c0 else c1, fun k => if k = 0 then iS0 else iS1, ?_⟩
    intro k q hq
    match k, hq with
    | 0, hq => cases hq; exact hKn0
    | 1, hq => cases hq; exact hKn1
    | k + 2, hq => simp [classes] at hq
  have hS : va_S (fun q : Nat => s.heap.size ≤ q) s.heap s.heap [] := va_S.rf
  have hK : va_K (dC, dI) classes [] s := ⟨hKc, fun k q h => by simp at h⟩
  have hP : va_P (dC, dI) classes [] s.heap := fun k q h => by simp at h
  have hD : va_D (fun q : Nat => s.heap.size ≤ q) [] := ⟨fun i j p q h => by simp at h, fun k q h => by simp at h⟩
  have hl := lv_entry ([.ref b]) (n := 4) (Nat.le_of_ble_eq_true rfl)
  rw [lg_entry_eq]
  generalize (lg_sl ([.ref b]) ++ List.replicate (4 - (lg_sl ([.ref b])).length) Slot.unset).toArray = ls at hl ⊢
  have hl : lv_has ls 4 [(0, .ref b)] := hl
  refine va_new (ci := 0) (fs := [.null, .null, .null, .null, .null, .int 0, .int 0, .long 0, .long 0]) (C := RX0) (T := TX0) (N := 9) hx hb htl inX0 tyX0 tyX0_ok hown (htl (.classLink RL 7 RX0) (by decide +kernel)) (htl (.instantiable RX0 9) (by decide +kernel)) (htl (.initialized RX0) (by decide +kernel)) hK hP hD hS hA rfl (fun j hj => by rcases (show j = 0 ∨ j = 1 ∨ j = 2 ∨ j = 3 ∨ j = 4 ∨ j = 5 ∨ j = 6 ∨ j = 7 ∨ j = 8 by omega) with rfl | rfl | rfl | rfl | rfl | rfl | rfl | rfl | rfl <;> rfl) (Nat.le_of_ble_eq_true rfl) (Nat.le_of_ble_eq_true rfl) dL_law_0 (fun q0 H hP hD hS => ?_)
  have hP : va_P (dC, dI) classes [(q0, .inr (0, [.null, .null, .null, .null, .null, .int 0, .int 0, .long 0, .long 0]))] H := hP
  have hD : va_D (fun q : Nat => s.heap.size ≤ q) [(q0, .inr (0, [.null, .null, .null, .null, .null, .int 0, .int 0, .long 0, .long 0]))] := hD
  refine lv_dup hx hb dL_law_3 rfl ?_
  have hPc := hP.sub (ws' := [(q0, .inr (0, [.null, .null, .null, .null, .null, .int 0, .int 0, .long 0, .long 0]))]) [0] rfl
  have hDc := hD.sub (ws' := [(q0, .inr (0, [.null, .null, .null, .null, .null, .int 0, .int 0, .long 0, .long 0]))]) [0] (by decide) rfl
  have hKc := hK.sub (tys' := []) [] rfl
  have hFc := va_free (wc := [(q0, .inr (0, [.null, .null, .null, .null, .null, .int 0, .int 0, .long 0, .long 0]))]) hD hS hA [0] rfl
  refine va_callv (va_runI (As := []) (rest := [.ref q0]) ⟨hx, hb, hml, hown, htl⟩ (c_X0_init l dC dI q0 H.size) (cwI 0 htl (gd_ww gd_i wcX0_init) rfl rfl rfl (htl (.initialized RX0) (by decide +kernel)) (htl (.methodLink RL 9 yX0_init) (by decide +kernel)) (htl (.instanceMethod yX0_init) (by decide +kernel)) rfl (by decide +kernel) ⟨Nat.le_of_ble_eq_true rfl, Nat.le_of_ble_eq_true rfl⟩) ⟨fun a U g mk q => by obtain ⟨q0, q1, qP, qK, qD⟩ := q; exact ⟨q0, q1, qP, va_K.moved (u := U) (U := U.calling g mk a) (Vm.Alike.refl U.vm) qK, qD⟩, fun U hU hW => ⟨rfl, by rw [hU], by rw [hU]; exact hPc, va_K.moved hW.alike hKc, hDc.weaken (fun _ _ _ _ => trivial)⟩⟩ rfl rfl hl.1 rfl (lv_room (Nat.le_of_ble_eq_true rfl)) dL_law_4 ⟨Nat.le_of_ble_eq_true rfl, Nat.le_of_ble_eq_true rfl⟩) hS (fun q _ h => hFc q h) hFc (fun u t H1 locs ht hvm hw hB hz1 hk1 hS => ?_)
  obtain ⟨a1, a2, a3, a4, a5, k1, k2, k3, k4, k5, hP1, hK1, hD1⟩ := hB
  rw [ht] at hP1
  have hK1 := va_K.moved hvm.symm hK1
  obtain ⟨hP, hD⟩ := va_join (wr := []) (w1 := (pbw q0 a1 a2 a3 a4 a5 k1 k2 k3 k4 k5 (fun _ => 0) (fun _ => 0) (fun _ => 0) (fun _ => 0) (fun _ => 0) 0 4 0 0)) hP hD [0] [] rfl rfl (by decide) (by decide) hk1 hFc hP1 hD1
  have hK := hK.app hK1
  generalize H1 = H at hP hS ⊢
  have hP : va_P (dC, dI) classes (pbw q0 a1 a2 a3 a4 a5 k1 k2 k3 k4 k5 (fun _ => 0) (fun _ => 0) (fun _ => 0) (fun _ => 0) (fun _ => 0) 0 4 0 0) H := hP
  have hD : va_D (fun q : Nat => s.heap.size ≤ q) (pbw q0 a1 a2 a3 a4 a5 k1 k2 k3 k4 k5 (fun _ => 0) (fun _ => 0) (fun _ => 0) (fun _ => 0) (fun _ => 0) 0 4 0 0) := hD
  have hK : va_K (dC, dI) classes (pbt k1 k2 k3 k4 k5) s := hK
  have hKx := hK
  refine W.widen (k := 6) (n := 5009) (Nat.le_of_ble_eq_true rfl) (Nat.le_of_ble_eq_true rfl) ?_
  refine lv_astore_n (lv' := [(1, .ref q0), (0, .ref b)]) hx hb dL_law_7 rfl hl (by decide) rfl (fun ls hl => ?_)
  refine va_new (ci := 1) (fs := [.null, .null, .null, .null, .null, .int 0, .int 0, .long 0, .long 0]) (C := RX1) (T := TX1) (N := 9) hx hb htl inX1 tyX1 tyX1_ok hown (htl (.classLink RL 10 RX1) (by decide +kernel)) (htl (.instantiable RX1 9) (by decide +kernel)) (htl (.initialized RX1) (by decide +kernel)) hK hP hD hS hA rfl (fun j hj => by rcases (show j = 0 ∨ j = 1 ∨ j = 2 ∨ j = 3 ∨ j = 4 ∨ j = 5 ∨ j = 6 ∨ j = 7 ∨ j = 8 by omega) with rfl | rfl | rfl | rfl | rfl | rfl | rfl | rfl | rfl <;> rfl) (Nat.le_of_ble_eq_true rfl) (Nat.le_of_ble_eq_true rfl) dL_law_8 (fun q1 H hP hD hS => ?_)
  have hP : va_P (dC, dI) classes ((pbw q0 a1 a2 a3 a4 a5 k1 k2 k3 k4 k5 (fun _ => 0) (fun _ => 0) (fun _ => 0) (fun _ => 0) (fun _ => 0) 0 4 0 0) ++ [(q1, .inr (1, [.null, .null, .null, .null, .null, .int 0, .int 0, .long 0, .long 0]))]) H := hP
  have hD : va_D (fun q : Nat => s.heap.size ≤ q) ((pbw q0 a1 a2 a3 a4 a5 k1 k2 k3 k4 k5 (fun _ => 0) (fun _ => 0) (fun _ => 0) (fun _ => 0) (fun _ => 0) 0 4 0 0) ++ [(q1, .inr (1, [.null, .null, .null, .null, .null, .int 0, .int 0, .long 0, .long 0]))]) := hD
  refine lv_dup hx hb dL_law_11 rfl ?_
  have hPc := hP.sub (ws' := [(q1, .inr (1, [.null, .null, .null, .null, .null, .int 0, .int 0, .long 0, .long 0]))]) [6] rfl
  have hDc := hD.sub (ws' := [(q1, .inr (1, [.null, .null, .null, .null, .null, .int 0, .int 0, .long 0, .long 0]))]) [6] (by decide) rfl
  have hKc := hK.sub (tys' := []) [] rfl
  have hFc := va_free (wc := [(q1, .inr (1, [.null, .null, .null, .null, .null, .int 0, .int 0, .long 0, .long 0]))]) hD hS hA [6] rfl
  refine va_callv (va_runI (As := []) (rest := [.ref q1]) ⟨hx, hb, hml, hown, htl⟩ (c_X1_init l dC dI q1 H.size) (cwI 0 htl (gd_ww gd_i wcX1_init) rfl rfl rfl (htl (.initialized RX1) (by decide +kernel)) (htl (.methodLink RL 12 yX1_init) (by decide +kernel)) (htl (.instanceMethod yX1_init) (by decide +kernel)) rfl (by decide +kernel) ⟨Nat.le_of_ble_eq_true rfl, Nat.le_of_ble_eq_true rfl⟩) ⟨fun a U g mk q => by obtain ⟨q0, q1, qP, qK, qD⟩ := q; exact ⟨q0, q1, qP, va_K.moved (u := U) (U := U.calling g mk a) (Vm.Alike.refl U.vm) qK, qD⟩, fun U hU hW => ⟨rfl, by rw [hU], by rw [hU]; exact hPc, va_K.moved hW.alike hKc, hDc.weaken (fun _ _ _ _ => trivial)⟩⟩ rfl rfl hl.1 rfl (lv_room (Nat.le_of_ble_eq_true rfl)) dL_law_12 ⟨Nat.le_of_ble_eq_true rfl, Nat.le_of_ble_eq_true rfl⟩) hS (fun q _ h => hFc q h) hFc (fun u t H1 locs ht hvm hw hB hz1 hk1 hS => ?_)
  obtain ⟨b1, b2, b3, b4, b5, m1, m2, m3, m4, m5, hP1, hK1, hD1⟩ := hB
  rw [ht] at hP1
  have hK1 := va_K.moved hvm.symm hK1
  obtain ⟨hP, hD⟩ := va_join (wr := (pbw q0 a1 a2 a3 a4 a5 k1 k2 k3 k4 k5 (fun _ => 0) (fun _ => 0) (fun _ => 0) (fun _ => 0) (fun _ => 0) 0 4 0 0)) (w1 := (mdw q1 b1 b2 b3 b4 b5 m1 m2 m3 m4 m5 (fun _ => 0) (fun _ => 0) (fun _ => 0) (fun _ => 0) (fun _ => 0) 0 4 0 0)) hP hD [6] [0, 1, 2, 3, 4, 5] rfl rfl (by decide) (by decide) hk1 hFc hP1 hD1
  have hK := hK.app hK1
  generalize H1 = H at hP hS ⊢
  have hKm := hK1
  refine W.widen (k := 12) (n := 10018) (Nat.le_of_ble_eq_true rfl) (Nat.le_of_ble_eq_true rfl) ?_
  refine lv_astore_n (lv' := [(2, .ref q1), (1, .ref q0), (0, .ref b)]) hx hb dL_law_15 rfl hl (by decide) rfl (fun ls hl => ?_)
  refine lv_iconst (v := nI 0) hx hb dL_law_16 (by decide) ?_
  refine lv_istore_n (lv' := [(3, .int (nI 0)), (2, .ref q1), (1, .ref q0), (0, .ref b)]) hx hb dL_law_17 rfl hl (by decide) rfl (fun ls hl => ?_)
  have hPx : va_P (dC, dI) classes (pbw q0 a1 a2 a3 a4 a5 k1 k2 k3 k4 k5 (fun _ => 0) (fun _ => 0) (fun _ => 0) (fun _ => 0) (fun _ => 0) 0 4 0 0) H := hP.sub [0, 1, 2, 3, 4, 5] rfl
  have hPm : va_P (dC, dI) classes (mdw q1 b1 b2 b3 b4 b5 m1 m2 m3 m4 m5 (fun _ => 0) (fun _ => 0) (fun _ => 0) (fun _ => 0) (fun _ => 0) 0 4 0 0) H := hP.sub [6, 7, 8, 9, 10, 11] rfl
  have hDx := hD.sub (ws' := (pbw q0 a1 a2 a3 a4 a5 k1 k2 k3 k4 k5 (fun _ => 0) (fun _ => 0) (fun _ => 0) (fun _ => 0) (fun _ => 0) 0 4 0 0)) [0, 1, 2, 3, 4, 5] (by decide) rfl
  have hDm := hD.sub (ws' := (mdw q1 b1 b2 b3 b4 b5 m1 m2 m3 m4 m5 (fun _ => 0) (fun _ => 0) (fun _ => 0) (fun _ => 0) (fun _ => 0) 0 4 0 0)) [6, 7, 8, 9, 10, 11] (by decide) rfl
  refine law_loop hL C0 (fun q => ∃ (z : Nat) (y : va_E), (pbw q0 a1 a2 a3 a4 a5 k1 k2 k3 k4 k5 (fun _ => 0) (fun _ => 0) (fun _ => 0) (fun _ => 0) (fun _ => 0) 0 4 0 0)[z]? = some (q, y)) (fun q => ∃ (z : Nat) (y : va_E), (mdw q1 b1 b2 b3 b4 b5 m1 m2 m3 m4 m5 (fun _ => 0) (fun _ => 0) (fun _ => 0) (fun _ => 0) (fun _ => 0) 0 4 0 0)[z]? = some (q, y)) (fun q h => ?_) (fun q h => ?_) (sep_of hD) (fun q h1 h2 => sep_of hD q h2 h1) ⟨hDx.1, fun z q hz => ⟨z, q.2, hz⟩⟩ ⟨hDm.1, fun z q hz => ⟨z, q.2, hz⟩⟩ hKx hKm (L + 1) 0 (fun _ => 0) (fun _ => 0) (fun _ => 0) (fun _ => 0) (fun _ => 0) (fun _ => 0) (fun _ => 0) (fun _ => 0) (fun _ => 0) (fun _ => 0) 0 4 0 0 ?_ (Nat.zero_le L) (by omega) _ _ hPx hPm hS ls (lv_sub hl [3, 2, 1, 0] rfl)
  · obtain ⟨z, y, hz⟩ := h
    exact hDx.2 z (q, y) hz
  · obtain ⟨z, y, hz⟩ := h
    exact hDm.2 z (q, y) hz
  · exact ⟨by omega, by decide, fun i j _ h => by omega, fun x h => (by rw [rows_0] at h; cases h), List.Perm.refl _⟩
end
section
set_option maxHeartbeats 4000000 in
theorem lw_walk (l : Launch) (b : Addr) (xs : List Int32) : MetFree l x (headSpec (Jvm.Cond.code x code maxLocals ret :: tables_1) room_1) (lw_P b xs) (fun _ _ _ _ _ => True) lw_Q := by
  refine MetFree.of_bodyS (code := code) (maxLocals := maxLocals) (ret := ret) (by decide) ?_ ?_
  · intro args s m h hn
    obtain ⟨meth, c, h1, h2, h3, h4, h5, h6, -, -⟩ := Cond.code_spec hn (atoms_spec (ws := Jvm.Cond.code x code maxLocals ret :: tables_1) h _ List.mem_cons_self)
    exact ⟨meth, c, h1, h2, h3, h4, h5, h6⟩
  · intro p e s m args below meth c s₁ B hml0 hP _
    obtain ⟨rfl, hx, hbd, hgv⟩ := hP
    obtain ⟨scr, harrAt, hlist, hof, hsmall⟩ := hx
    obtain ⟨hcb, hkn, -, -⟩ := State.arrayAt?_spec harrAt
    have hown : s.vm.findClass R_law = some m.cls := findClass_of_methodNamed B.named
    have hts0 : ∀ c ∈ (Jvm.Cond.code x code maxLocals ret :: tables_1), c.before #[Value.ref b] s = true := atoms_spec (ws := Jvm.Cond.code x code maxLocals ret :: tables_1) B.pre
    have hts : ∀ w ∈ lw_tbl, w.before #[Value.ref b] s = true := k2_hts_sels lw_privs (fun w hw => hts0 w (List.mem_cons_of_mem _ hw)) lw_privs_ok
    have hml : c.maxLocals = 4 := B.maxLocals_eq (hts0 _ List.mem_cons_self)
    have X₀ : Stand p l e room_1 s m #[Value.ref b] below meth c s₁ [] 0 0 := Stand.of_body B
    have hh0 : s₁.heap = s.heap := by rw [B.state]; rfl
    have hsz : scr.slots.size = xs.length := by rw [← Array.length_toList, hlist, List.length_map]
    have hval : ∀ j : Nat, j < xs.length → scr.slots[j]? = some (.int (xs.getD j 0)) := fun j hj => by
      rw [← Array.getElem?_toList, hlist]
      simp [hj]
    have hbl : b < s.heap.size := (Array.getElem?_eq_some_iff.mp hcb).1
    have hX : va_X b xs.length (fun j => xs.getD j 0) s s.heap := ⟨scr, hcb, hof, hkn, hsz, hval⟩
    have K : W p l e room_1 s m #[Value.ref b] below meth c s₁.heap [] 0 0 (lw_Z below #[Value.ref b] s) (entryFrame m ([Value.ref b] : List Value).toArray 4) := by
      rw [hh0]
      exact whole_start l hbd ⟨B.exec, B.bytes, B.returns, hml, hown, hts, hX, hbl, B.notSynchronized, hgv⟩
    obtain ⟨t, a1, o, b1, b2, b3⟩ := K s₁ rfl X₀
    exact ⟨t, o, a1, b1, b2, b3⟩
theorem lw_pre_spec {args : Array Value} {s : State} (h : (Jvm.Cond.and given_1 narrow_1).before args s = true) (hr : rest_1_c.before args s = true) : ∃ (b : Addr) (xs : List Int32), lw_P b xs args s := by
  have hs := flat_of_before _ h
  have hq := flat_of_before _ hr
  have hc : (Cond.count 1).before args s = true := hs _ (by decide +kernel)
  have harr : (Cond.arrayOf (.arg 0) .int).before args s = true := hs _ (by decide +kernel)
  have hle : (Cond.le (.length (.arg 0)) (.int 3072)).before args s = true := hs _ (by decide +kernel)
  have hlen : (Cond.isInt (.length (.arg 0))).before args s = true := hq _ (by decide +kernel)
  have hall : (Cond.all (.arg 0) (.isInt (.elem (.arg 0) (.index 0)))).before args s = true := hq _ (by decide +kernel)
  obtain ⟨b, xs, hb, hx⟩ := State.ints_of_pre rfl harr hlen hall
  have hsm : xs.length < 2 ^ 31 := hx.choose_spec.2.2.2
  have hev : (Term.length (.arg 0)).eval args s none [] s = some (.int xs.length.toInt32) := hx.length_eval hb
  have hv := Cond.le_ints hev (show (Term.int 3072).eval args s none [] s = some (.int 3072) from rfl)
  have hd : xs.length.toInt32 ≤ 3072 := by
    simpa [Cond.before, Cond.holds, hv] using hle
  have hN : xs.length ≤ 3072 := (Int32.ofNat_le_ofNat hsm (by decide)).mp (show Int32.ofNat xs.length ≤ Int32.ofNat 3072 from hd)
  exact ⟨b, xs, Cond.one_arg hc (show args[0]? = some (.ref b) from hb), hx, hN, h⟩
theorem lw_comes (l : Launch) : Comes l x (Jvm.Cond.code x code maxLocals ret :: tables_1) room_1 (fun tb e args s => Calls_1 tb e args s ∧ rest_1 tb e args s ∧ Pre_1 tb e args s)
    (fun _ _ args s o t => lw_Q args s o t) := by
  intro p e ha hc hk s m args below hf hfit hheap happ hpre
  obtain ⟨b, xs, hP⟩ := lw_pre_spec hpre.2.2 hpre.2.1
  obtain ⟨k, o, h1, h2, h3, hQ⟩ := lw_walk l b xs p e ha hc hk s m args below hf ((Spec.applies_iff_loose hf).mp happ).1 hP trivial
  exact ⟨k, o, h1, h2, h3, hQ⟩
theorem lw_frame {s t : State} {o : Outcome} {args : Array Value} (h : Framed s o t [] 12 10018) :
    Framed s o t (fieldLocs frame_1_writes args s ++ arrayLocs frame_1_arrays args s ++ staticLocs frame_1_statics s) 12 10018 := h
theorem lw_limb (L : Cond) (hL : ∀ (args : Array Value) (s t : State), L.after args s (.returned (some (.int 1))) t = true) :
    ArmFor flags0 classFile x code maxLocals ret World_1 tables_1 room_1 Calls_1 rest_1 Pre_1
      (fun tb e a s o t => postC L tb e a s o t ∧ Framed s o t (fieldLocs frame_1_writes a s ++ arrayLocs frame_1_arrays a s ++ staticLocs frame_1_statics s) 12 10018) := by
  intro l _ _ _ p e ha hc hk s m args below hf hfit hheap happ hpre
  obtain ⟨k, o, h1, h2, h3, rfl, hF⟩ := lw_comes l p e ha hc hk s m args below hf hfit hheap happ hpre
  exact ⟨k, _, h1, h2, h3, hL args s _, lw_frame hF⟩
theorem i_vc : Claimed_1_1 ∧ Claimed_1_2 := ⟨lw_limb limb_1_1 (fun args s t => by simp [limb_1_1, Cond.after, Cond.holds, Cond.value]), lw_limb limb_1_2 (fun args s t => Cond.after_iff.mpr (by
  first | (rw [show limb_1_2 = Cond.eq .result (.int 1) from rfl, Cond.eq_ints (x := 1) (y := 1) rfl rfl]; simp; done) | (simp [limb_1_2, Cond.value, Term.eval]; done)))⟩
end
