-- ===== PART A: goes FIRST, ahead of the names: the tables' words, and 'selects' of the private methods out of them =====
/-- a private method of a class that the tables say can be made, by its rows of tables_1 -/
def lw_okq (q : MethodName × Nat) : Prop := (q.1.cls ≠ "java/lang/invoke/MethodHandle" ∧ q.1.cls ≠ "java/lang/invoke/VarHandle") ∧ Cond.instantiable q.1.cls q.2 ∈ tables_1 ∧ Cond.privateMethod q.1 ∈ tables_1 ∧ Cond.instanceMethod q.1 ∈ tables_1
theorem lw_p0 : lw_okq (⟨"PrefixBook", "mean", "(IJJ)V"⟩, 9) := ⟨⟨by decide +kernel, by decide +kernel⟩, List.mem_of_getElem? (i := 4) (by decide +kernel), List.mem_of_getElem? (i := 50) (by decide +kernel), List.mem_of_getElem? (i := 51) (by decide +kernel)⟩
theorem lw_p1 : lw_okq (⟨"PrefixBook", "isPrefix", "(I)Z"⟩, 9) := ⟨⟨by decide +kernel, by decide +kernel⟩, List.mem_of_getElem? (i := 4) (by decide +kernel), List.mem_of_getElem? (i := 58) (by decide +kernel), List.mem_of_getElem? (i := 59) (by decide +kernel)⟩
theorem lw_p2 : lw_okq (⟨"PrefixBook", "isLength", "(I)Z"⟩, 9) := ⟨⟨by decide +kernel, by decide +kernel⟩, List.mem_of_getElem? (i := 4) (by decide +kernel), List.mem_of_getElem? (i := 62) (by decide +kernel), List.mem_of_getElem? (i := 63) (by decide +kernel)⟩
theorem lw_p3 : lw_okq (⟨"PrefixBook", "countAhead", "(I)I"⟩, 9) := ⟨⟨by decide +kernel, by decide +kernel⟩, List.mem_of_getElem? (i := 4) (by decide +kernel), List.mem_of_getElem? (i := 79) (by decide +kernel), List.mem_of_getElem? (i := 80) (by decide +kernel)⟩
theorem lw_p4 : lw_okq (⟨"PrefixBook", "standsAhead", "(II)Z"⟩, 9) := ⟨⟨by decide +kernel, by decide +kernel⟩, List.mem_of_getElem? (i := 4) (by decide +kernel), List.mem_of_getElem? (i := 83) (by decide +kernel), List.mem_of_getElem? (i := 84) (by decide +kernel)⟩
theorem lw_p5 : lw_okq (⟨"PrefixBook", "standsAt", "(II)Z"⟩, 9) := ⟨⟨by decide +kernel, by decide +kernel⟩, List.mem_of_getElem? (i := 4) (by decide +kernel), List.mem_of_getElem? (i := 91) (by decide +kernel), List.mem_of_getElem? (i := 92) (by decide +kernel)⟩
theorem lw_p6 : lw_okq (⟨"PrefixBook", "openPlace", "(I)V"⟩, 9) := ⟨⟨by decide +kernel, by decide +kernel⟩, List.mem_of_getElem? (i := 4) (by decide +kernel), List.mem_of_getElem? (i := 95) (by decide +kernel), List.mem_of_getElem? (i := 96) (by decide +kernel)⟩
theorem lw_p7 : lw_okq (⟨"PrefixBook", "copyPlace", "(II)V"⟩, 9) := ⟨⟨by decide +kernel, by decide +kernel⟩, List.mem_of_getElem? (i := 4) (by decide +kernel), List.mem_of_getElem? (i := 99) (by decide +kernel), List.mem_of_getElem? (i := 100) (by decide +kernel)⟩
theorem lw_p8 : lw_okq (⟨"PrefixBook", "write", "(III)V"⟩, 9) := ⟨⟨by decide +kernel, by decide +kernel⟩, List.mem_of_getElem? (i := 4) (by decide +kernel), List.mem_of_getElem? (i := 103) (by decide +kernel), List.mem_of_getElem? (i := 104) (by decide +kernel)⟩
theorem lw_p9 : lw_okq (⟨"PrefixBook", "closePlace", "(I)V"⟩, 9) := ⟨⟨by decide +kernel, by decide +kernel⟩, List.mem_of_getElem? (i := 4) (by decide +kernel), List.mem_of_getElem? (i := 111) (by decide +kernel), List.mem_of_getElem? (i := 112) (by decide +kernel)⟩
theorem lw_p10 : lw_okq (⟨"PrefixBook", "coversMeant", "(I)Z"⟩, 9) := ⟨⟨by decide +kernel, by decide +kernel⟩, List.mem_of_getElem? (i := 4) (by decide +kernel), List.mem_of_getElem? (i := 124) (by decide +kernel), List.mem_of_getElem? (i := 125) (by decide +kernel)⟩
theorem lw_p11 : lw_okq (⟨"PrefixBookModel", "isPrefix", "(I)Z"⟩, 9) := ⟨⟨by decide +kernel, by decide +kernel⟩, List.mem_of_getElem? (i := 148) (by decide +kernel), List.mem_of_getElem? (i := 191) (by decide +kernel), List.mem_of_getElem? (i := 192) (by decide +kernel)⟩
theorem lw_p12 : lw_okq (⟨"PrefixBookModel", "isLength", "(I)Z"⟩, 9) := ⟨⟨by decide +kernel, by decide +kernel⟩, List.mem_of_getElem? (i := 148) (by decide +kernel), List.mem_of_getElem? (i := 195) (by decide +kernel), List.mem_of_getElem? (i := 196) (by decide +kernel)⟩
theorem lw_p13 : lw_okq (⟨"PrefixBookModel", "find", "(I)I"⟩, 9) := ⟨⟨by decide +kernel, by decide +kernel⟩, List.mem_of_getElem? (i := 148) (by decide +kernel), List.mem_of_getElem? (i := 202) (by decide +kernel), List.mem_of_getElem? (i := 203) (by decide +kernel)⟩
theorem lw_p14 : lw_okq (⟨"PrefixBookModel", "covers", "(I)Z"⟩, 9) := ⟨⟨by decide +kernel, by decide +kernel⟩, List.mem_of_getElem? (i := 148) (by decide +kernel), List.mem_of_getElem? (i := 219) (by decide +kernel), List.mem_of_getElem? (i := 220) (by decide +kernel)⟩
theorem lw_p15 : lw_okq (⟨"PrefixBookModel", "countAhead", "(IJJI)I"⟩, 9) := ⟨⟨by decide +kernel, by decide +kernel⟩, List.mem_of_getElem? (i := 148) (by decide +kernel), List.mem_of_getElem? (i := 231) (by decide +kernel), List.mem_of_getElem? (i := 232) (by decide +kernel)⟩
def lw_privs_1 : List (MethodName × Nat) := [(⟨"PrefixBook", "mean", "(IJJ)V"⟩, 9), (⟨"PrefixBook", "isPrefix", "(I)Z"⟩, 9), (⟨"PrefixBook", "isLength", "(I)Z"⟩, 9), (⟨"PrefixBook", "countAhead", "(I)I"⟩, 9), (⟨"PrefixBook", "standsAhead", "(II)Z"⟩, 9), (⟨"PrefixBook", "standsAt", "(II)Z"⟩, 9), (⟨"PrefixBook", "openPlace", "(I)V"⟩, 9), (⟨"PrefixBook", "copyPlace", "(II)V"⟩, 9), (⟨"PrefixBook", "write", "(III)V"⟩, 9), (⟨"PrefixBook", "closePlace", "(I)V"⟩, 9), (⟨"PrefixBook", "coversMeant", "(I)Z"⟩, 9), (⟨"PrefixBookModel", "isPrefix", "(I)Z"⟩, 9), (⟨"PrefixBookModel", "isLength", "(I)Z"⟩, 9), (⟨"PrefixBookModel", "find", "(I)I"⟩, 9), (⟨"PrefixBookModel", "covers", "(I)Z"⟩, 9), (⟨"PrefixBookModel", "countAhead", "(IJJI)I"⟩, 9)]
theorem lw_r1 : ∀ q ∈ lw_privs_1, lw_okq q := List.forall_mem_cons.mpr ⟨lw_p0, List.forall_mem_cons.mpr ⟨lw_p1, List.forall_mem_cons.mpr ⟨lw_p2, List.forall_mem_cons.mpr ⟨lw_p3, List.forall_mem_cons.mpr ⟨lw_p4, List.forall_mem_cons.mpr ⟨lw_p5, List.forall_mem_cons.mpr ⟨lw_p6, List.forall_mem_cons.mpr ⟨lw_p7, List.forall_mem_cons.mpr ⟨lw_p8, List.forall_mem_cons.mpr ⟨lw_p9, List.forall_mem_cons.mpr ⟨lw_p10, List.forall_mem_cons.mpr ⟨lw_p11, List.forall_mem_cons.mpr ⟨lw_p12, List.forall_mem_cons.mpr ⟨lw_p13, List.forall_mem_cons.mpr ⟨lw_p14, List.forall_mem_cons.mpr ⟨lw_p15, fun _ h => absurd h List.not_mem_nil⟩⟩⟩⟩⟩⟩⟩⟩⟩⟩⟩⟩⟩⟩⟩⟩
theorem lw_p16 : lw_okq (⟨"PrefixBookModel", "isAhead", "(IIJJI)Z"⟩, 9) := ⟨⟨by decide +kernel, by decide +kernel⟩, List.mem_of_getElem? (i := 148) (by decide +kernel), List.mem_of_getElem? (i := 235) (by decide +kernel), List.mem_of_getElem? (i := 236) (by decide +kernel)⟩
def lw_privs_2 : List (MethodName × Nat) := [(⟨"PrefixBookModel", "isAhead", "(IIJJI)Z"⟩, 9)]
theorem lw_r2 : ∀ q ∈ lw_privs_2, lw_okq q := List.forall_mem_cons.mpr ⟨lw_p16, fun _ h => absurd h List.not_mem_nil⟩
def lw_privs : List (MethodName × Nat) := lw_privs_1 ++ (lw_privs_2)
def lw_tbl : List Cond := k2_sels lw_privs ++ tables_1
theorem lw_privs_ok : ∀ q ∈ lw_privs, lw_okq q := by
  show ∀ q ∈ lw_privs_1 ++ (lw_privs_2), lw_okq q
  exact List.forall_mem_append.mpr ⟨lw_r1, lw_r2⟩

/-- the words that last over calls -/
def ltg : List Cond := lw_tbl.filter (fun w => k2_isCode w || goodWord w)
abbrev RX0 : String := "PrefixBook"
abbrev RX1 : String := "PrefixBookModel"
abbrev RL : String := "PrefixBookLaw"
def TX0 : u_T := fun k => match k with
  | 0 => ("PrefixBook", "families", "[I", true)
  | 1 => ("PrefixBook", "uppers", "[J", true)
  | 2 => ("PrefixBook", "lowers", "[J", true)
  | 3 => ("PrefixBook", "lengths", "[I", true)
  | 4 => ("PrefixBook", "numbers", "[I", true)
  | 5 => ("PrefixBook", "count", "I", false)
  | 6 => ("PrefixBook", "meantFamily", "I", false)
  | 7 => ("PrefixBook", "meantUpper", "J", false)
  | _ => ("PrefixBook", "meantLower", "J", false)
def tyX0 : Nat → FieldType := fun k => match k with
  | 0 => .array .int
  | 1 => .array .long
  | 2 => .array .long
  | 3 => .array .int
  | 4 => .array .int
  | 5 => .int
  | 6 => .int
  | 7 => .long
  | _ => .long
theorem nmX0 : ∀ a, a < 9 → ∀ b, b < 9 → a ≠ b → (TX0 a).2.1 ≠ (TX0 b).2.1 := by decide +kernel
theorem tyX0_ok : ∀ k, k < 9 → parseFieldDescriptor (TX0 k).2.2.1 = some (tyX0 k) := by decide +kernel
theorem inX0 : ∀ w ∈ u_ws RX0 TX0 9, w ∈ ltg := by decide +kernel
def TX1 : u_T := fun k => match k with
  | 0 => ("PrefixBookModel", "families", "[I", true)
  | 1 => ("PrefixBookModel", "lengths", "[I", true)
  | 2 => ("PrefixBookModel", "numbers", "[I", true)
  | 3 => ("PrefixBookModel", "uppers", "[J", true)
  | 4 => ("PrefixBookModel", "lowers", "[J", true)
  | 5 => ("PrefixBookModel", "many", "I", false)
  | 6 => ("PrefixBookModel", "family", "I", false)
  | 7 => ("PrefixBookModel", "upper", "J", false)
  | _ => ("PrefixBookModel", "lower", "J", false)
def tyX1 : Nat → FieldType := fun k => match k with
  | 0 => .array .int
  | 1 => .array .int
  | 2 => .array .int
  | 3 => .array .long
  | 4 => .array .long
  | 5 => .int
  | 6 => .int
  | 7 => .long
  | _ => .long
theorem nmX1 : ∀ a, a < 9 → ∀ b, b < 9 → a ≠ b → (TX1 a).2.1 ≠ (TX1 b).2.1 := by decide +kernel
theorem tyX1_ok : ∀ k, k < 9 → parseFieldDescriptor (TX1 k).2.2.1 = some (tyX1 k) := by decide +kernel
theorem inX1 : ∀ w ∈ u_ws RX1 TX1 9, w ∈ ltg := by decide +kernel
abbrev classes : List vw_C := [(RX0, TX0, 9), (RX1, TX1, 9)]
abbrev cX0_init : ByteArray := prog_1_method_1_code
abbrev yX0_init : MethodName := ⟨RX0, "<init>", "()V"⟩
abbrev cX0_address : ByteArray := prog_1_method_2_code
abbrev yX0_address : MethodName := ⟨RX0, "address", "(IJJ)Z"⟩
abbrev cX0_isAddress : ByteArray := prog_1_method_12_code
abbrev yX0_isAddress : MethodName := ⟨RX0, "isAddress", "(IJJ)Z"⟩
abbrev cX0_mean : ByteArray := prog_1_method_13_code
abbrev yX0_mean : MethodName := ⟨RX0, "mean", "(IJJ)V"⟩
abbrev cX0_put : ByteArray := prog_1_method_3_code
abbrev yX0_put : MethodName := ⟨RX0, "put", "(II)I"⟩
abbrev cX0_isPrefix : ByteArray := prog_1_method_15_code
abbrev yX0_isPrefix : MethodName := ⟨RX0, "isPrefix", "(I)Z"⟩
abbrev cX0_isLength : ByteArray := prog_1_method_14_code
abbrev yX0_isLength : MethodName := ⟨RX0, "isLength", "(I)Z"⟩
abbrev cX0_bitsOfWhole : ByteArray := prog_1_method_16_code
abbrev yX0_bitsOfWhole : MethodName := ⟨RX0, "bitsOfWhole", "(II)I"⟩
abbrev cX0_upperMask : ByteArray := prog_1_method_17_code
abbrev yX0_upperMask : MethodName := ⟨RX0, "upperMask", "(I)J"⟩
abbrev cX0_firstBits : ByteArray := prog_1_method_19_code
abbrev yX0_firstBits : MethodName := ⟨RX0, "firstBits", "(I)J"⟩
abbrev cX0_lowerMask : ByteArray := prog_1_method_18_code
abbrev yX0_lowerMask : MethodName := ⟨RX0, "lowerMask", "(I)J"⟩
abbrev cX0_countAhead : ByteArray := prog_1_method_21_code
abbrev yX0_countAhead : MethodName := ⟨RX0, "countAhead", "(I)I"⟩
abbrev cX0_standsAhead : ByteArray := prog_1_method_22_code
abbrev yX0_standsAhead : MethodName := ⟨RX0, "standsAhead", "(II)Z"⟩
abbrev cX0_isBelow : ByteArray := prog_1_method_23_code
abbrev yX0_isBelow : MethodName := ⟨RX0, "isBelow", "(JJ)Z"⟩
abbrev cX0_standsAt : ByteArray := prog_1_method_24_code
abbrev yX0_standsAt : MethodName := ⟨RX0, "standsAt", "(II)Z"⟩
abbrev cX0_openPlace : ByteArray := prog_1_method_25_code
abbrev yX0_openPlace : MethodName := ⟨RX0, "openPlace", "(I)V"⟩
abbrev cX0_copyPlace : ByteArray := prog_1_method_27_code
abbrev yX0_copyPlace : MethodName := ⟨RX0, "copyPlace", "(II)V"⟩
abbrev cX0_write : ByteArray := prog_1_method_28_code
abbrev yX0_write : MethodName := ⟨RX0, "write", "(III)V"⟩
abbrev cX0_remove : ByteArray := prog_1_method_4_code
abbrev yX0_remove : MethodName := ⟨RX0, "remove", "(I)I"⟩
abbrev cX0_closePlace : ByteArray := prog_1_method_26_code
abbrev yX0_closePlace : MethodName := ⟨RX0, "closePlace", "(I)V"⟩
abbrev cX0_number : ByteArray := prog_1_method_5_code
abbrev yX0_number : MethodName := ⟨RX0, "number", "(I)I"⟩
abbrev cX0_longest : ByteArray := prog_1_method_6_code
abbrev yX0_longest : MethodName := ⟨RX0, "longest", "()I"⟩
abbrev cX0_coversMeant : ByteArray := prog_1_method_20_code
abbrev yX0_coversMeant : MethodName := ⟨RX0, "coversMeant", "(I)Z"⟩
abbrev cX0_covering : ByteArray := prog_1_method_7_code
abbrev yX0_covering : MethodName := ⟨RX0, "covering", "()I"⟩
abbrev cX0_ahead : ByteArray := prog_1_method_8_code
abbrev yX0_ahead : MethodName := ⟨RX0, "ahead", "(I)I"⟩
abbrev cX0_at : ByteArray := prog_1_method_9_code
abbrev yX0_at : MethodName := ⟨RX0, "at", "(I)I"⟩
abbrev cX0_size : ByteArray := prog_1_method_10_code
abbrev yX0_size : MethodName := ⟨RX0, "size", "()I"⟩
abbrev cX0_told : ByteArray := prog_1_method_11_code
abbrev yX0_told : MethodName := ⟨RX0, "told", "(I)J"⟩
abbrev cX1_init : ByteArray := prog_3_method_1_code
abbrev yX1_init : MethodName := ⟨RX1, "<init>", "()V"⟩
abbrev cX1_address : ByteArray := prog_3_method_2_code
abbrev yX1_address : MethodName := ⟨RX1, "address", "(IJJ)Z"⟩
abbrev cX1_put : ByteArray := prog_3_method_7_code
abbrev yX1_put : MethodName := ⟨RX1, "put", "(II)I"⟩
abbrev cX1_isPrefix : ByteArray := prog_3_method_5_code
abbrev yX1_isPrefix : MethodName := ⟨RX1, "isPrefix", "(I)Z"⟩
abbrev cX1_isLength : ByteArray := prog_3_method_3_code
abbrev yX1_isLength : MethodName := ⟨RX1, "isLength", "(I)Z"⟩
abbrev cX1_bit : ByteArray := prog_3_method_4_code
abbrev yX1_bit : MethodName := ⟨RX1, "bit", "(IJJI)I"⟩
abbrev cX1_find : ByteArray := prog_3_method_6_code
abbrev yX1_find : MethodName := ⟨RX1, "find", "(I)I"⟩
abbrev cX1_remove : ByteArray := prog_3_method_8_code
abbrev yX1_remove : MethodName := ⟨RX1, "remove", "(I)I"⟩
abbrev cX1_number : ByteArray := prog_3_method_9_code
abbrev yX1_number : MethodName := ⟨RX1, "number", "(I)I"⟩
abbrev cX1_longest : ByteArray := prog_3_method_11_code
abbrev yX1_longest : MethodName := ⟨RX1, "longest", "()I"⟩
abbrev cX1_covers : ByteArray := prog_3_method_10_code
abbrev yX1_covers : MethodName := ⟨RX1, "covers", "(I)Z"⟩
abbrev cX1_covering : ByteArray := prog_3_method_12_code
abbrev yX1_covering : MethodName := ⟨RX1, "covering", "()I"⟩
abbrev cX1_ahead : ByteArray := prog_3_method_16_code
abbrev yX1_ahead : MethodName := ⟨RX1, "ahead", "(I)I"⟩
abbrev cX1_countAhead : ByteArray := prog_3_method_15_code
abbrev yX1_countAhead : MethodName := ⟨RX1, "countAhead", "(IJJI)I"⟩
abbrev cX1_isAhead : ByteArray := prog_3_method_14_code
abbrev yX1_isAhead : MethodName := ⟨RX1, "isAhead", "(IIJJI)Z"⟩
abbrev cX1_compare : ByteArray := prog_3_method_13_code
abbrev yX1_compare : MethodName := ⟨RX1, "compare", "(JJ)I"⟩
abbrev cX1_at : ByteArray := prog_3_method_17_code
abbrev yX1_at : MethodName := ⟨RX1, "at", "(I)I"⟩
abbrev cX1_size : ByteArray := prog_3_method_18_code
abbrev yX1_size : MethodName := ⟨RX1, "size", "()I"⟩
abbrev cX1_told : ByteArray := prog_3_method_19_code
abbrev yX1_told : MethodName := ⟨RX1, "told", "(I)J"⟩
abbrev cL_law : ByteArray := code
set_option maxRecDepth 20000 in
theorem wcX0_init : Cond.code yX0_init cX0_init 1 none ∈ ltg := List.mem_filter.mpr ⟨List.mem_of_getElem? (i := 24) rfl, rfl⟩
set_option maxRecDepth 20000 in
theorem wcX0_address : Cond.code yX0_address cX0_address 6 (some .boolean) ∈ ltg := List.mem_filter.mpr ⟨List.mem_of_getElem? (i := 61) rfl, rfl⟩
set_option maxRecDepth 20000 in
theorem wcX0_isAddress : Cond.code yX0_isAddress cX0_isAddress 5 (some .boolean) ∈ ltg := List.mem_filter.mpr ⟨List.mem_of_getElem? (i := 64) rfl, rfl⟩
set_option maxRecDepth 20000 in
theorem wcX0_mean : Cond.code yX0_mean cX0_mean 6 none ∈ ltg := List.mem_filter.mpr ⟨List.mem_of_getElem? (i := 69) rfl, rfl⟩
set_option maxRecDepth 20000 in
theorem wcX0_put : Cond.code yX0_put cX0_put 4 (some .int) ∈ ltg := List.mem_filter.mpr ⟨List.mem_of_getElem? (i := 73) rfl, rfl⟩
set_option maxRecDepth 20000 in
theorem wcX0_isPrefix : Cond.code yX0_isPrefix cX0_isPrefix 3 (some .boolean) ∈ ltg := List.mem_filter.mpr ⟨List.mem_of_getElem? (i := 77) rfl, rfl⟩
set_option maxRecDepth 20000 in
theorem wcX0_isLength : Cond.code yX0_isLength cX0_isLength 3 (some .boolean) ∈ ltg := List.mem_filter.mpr ⟨List.mem_of_getElem? (i := 81) rfl, rfl⟩
set_option maxRecDepth 20000 in
theorem wcX0_bitsOfWhole : Cond.code yX0_bitsOfWhole cX0_bitsOfWhole 2 (some .int) ∈ ltg := List.mem_filter.mpr ⟨List.mem_of_getElem? (i := 84) rfl, rfl⟩
set_option maxRecDepth 20000 in
theorem wcX0_upperMask : Cond.code yX0_upperMask cX0_upperMask 1 (some .long) ∈ ltg := List.mem_filter.mpr ⟨List.mem_of_getElem? (i := 87) rfl, rfl⟩
set_option maxRecDepth 20000 in
theorem wcX0_firstBits : Cond.code yX0_firstBits cX0_firstBits 1 (some .long) ∈ ltg := List.mem_filter.mpr ⟨List.mem_of_getElem? (i := 90) rfl, rfl⟩
set_option maxRecDepth 20000 in
theorem wcX0_lowerMask : Cond.code yX0_lowerMask cX0_lowerMask 1 (some .long) ∈ ltg := List.mem_filter.mpr ⟨List.mem_of_getElem? (i := 94) rfl, rfl⟩
set_option maxRecDepth 20000 in
theorem wcX0_countAhead : Cond.code yX0_countAhead cX0_countAhead 3 (some .int) ∈ ltg := List.mem_filter.mpr ⟨List.mem_of_getElem? (i := 98) rfl, rfl⟩
set_option maxRecDepth 20000 in
theorem wcX0_standsAhead : Cond.code yX0_standsAhead cX0_standsAhead 3 (some .boolean) ∈ ltg := List.mem_filter.mpr ⟨List.mem_of_getElem? (i := 102) rfl, rfl⟩
set_option maxRecDepth 20000 in
theorem wcX0_isBelow : Cond.code yX0_isBelow cX0_isBelow 4 (some .boolean) ∈ ltg := List.mem_filter.mpr ⟨List.mem_of_getElem? (i := 105) rfl, rfl⟩
set_option maxRecDepth 20000 in
theorem wcX0_standsAt : Cond.code yX0_standsAt cX0_standsAt 3 (some .boolean) ∈ ltg := List.mem_filter.mpr ⟨List.mem_of_getElem? (i := 110) rfl, rfl⟩
set_option maxRecDepth 20000 in
theorem wcX0_openPlace : Cond.code yX0_openPlace cX0_openPlace 3 none ∈ ltg := List.mem_filter.mpr ⟨List.mem_of_getElem? (i := 114) rfl, rfl⟩
set_option maxRecDepth 20000 in
theorem wcX0_copyPlace : Cond.code yX0_copyPlace cX0_copyPlace 3 none ∈ ltg := List.mem_filter.mpr ⟨List.mem_of_getElem? (i := 118) rfl, rfl⟩
set_option maxRecDepth 20000 in
theorem wcX0_write : Cond.code yX0_write cX0_write 4 none ∈ ltg := List.mem_filter.mpr ⟨List.mem_of_getElem? (i := 122) rfl, rfl⟩
set_option maxRecDepth 20000 in
theorem wcX0_remove : Cond.code yX0_remove cX0_remove 3 (some .int) ∈ ltg := List.mem_filter.mpr ⟨List.mem_of_getElem? (i := 126) rfl, rfl⟩
set_option maxRecDepth 20000 in
theorem wcX0_closePlace : Cond.code yX0_closePlace cX0_closePlace 3 none ∈ ltg := List.mem_filter.mpr ⟨List.mem_of_getElem? (i := 130) rfl, rfl⟩
set_option maxRecDepth 20000 in
theorem wcX0_number : Cond.code yX0_number cX0_number 3 (some .int) ∈ ltg := List.mem_filter.mpr ⟨List.mem_of_getElem? (i := 134) rfl, rfl⟩
set_option maxRecDepth 20000 in
theorem wcX0_longest : Cond.code yX0_longest cX0_longest 3 (some .int) ∈ ltg := List.mem_filter.mpr ⟨List.mem_of_getElem? (i := 139) rfl, rfl⟩
set_option maxRecDepth 20000 in
theorem wcX0_coversMeant : Cond.code yX0_coversMeant cX0_coversMeant 3 (some .boolean) ∈ ltg := List.mem_filter.mpr ⟨List.mem_of_getElem? (i := 143) rfl, rfl⟩
set_option maxRecDepth 20000 in
theorem wcX0_covering : Cond.code yX0_covering cX0_covering 3 (some .int) ∈ ltg := List.mem_filter.mpr ⟨List.mem_of_getElem? (i := 147) rfl, rfl⟩
set_option maxRecDepth 20000 in
theorem wcX0_ahead : Cond.code yX0_ahead cX0_ahead 2 (some .int) ∈ ltg := List.mem_filter.mpr ⟨List.mem_of_getElem? (i := 151) rfl, rfl⟩
set_option maxRecDepth 20000 in
theorem wcX0_at : Cond.code yX0_at cX0_at 2 (some .int) ∈ ltg := List.mem_filter.mpr ⟨List.mem_of_getElem? (i := 155) rfl, rfl⟩
set_option maxRecDepth 20000 in
theorem wcX0_size : Cond.code yX0_size cX0_size 1 (some .int) ∈ ltg := List.mem_filter.mpr ⟨List.mem_of_getElem? (i := 159) rfl, rfl⟩
set_option maxRecDepth 20000 in
theorem wcX0_told : Cond.code yX0_told cX0_told 2 (some .long) ∈ ltg := List.mem_filter.mpr ⟨List.mem_of_getElem? (i := 163) rfl, rfl⟩
set_option maxRecDepth 20000 in
theorem wcX1_init : Cond.code yX1_init cX1_init 1 none ∈ ltg := List.mem_filter.mpr ⟨List.mem_of_getElem? (i := 168) rfl, rfl⟩
set_option maxRecDepth 20000 in
theorem wcX1_address : Cond.code yX1_address cX1_address 7 (some .boolean) ∈ ltg := List.mem_filter.mpr ⟨List.mem_of_getElem? (i := 201) rfl, rfl⟩
set_option maxRecDepth 20000 in
theorem wcX1_put : Cond.code yX1_put cX1_put 4 (some .int) ∈ ltg := List.mem_filter.mpr ⟨List.mem_of_getElem? (i := 206) rfl, rfl⟩
set_option maxRecDepth 20000 in
theorem wcX1_isPrefix : Cond.code yX1_isPrefix cX1_isPrefix 5 (some .boolean) ∈ ltg := List.mem_filter.mpr ⟨List.mem_of_getElem? (i := 210) rfl, rfl⟩
set_option maxRecDepth 20000 in
theorem wcX1_isLength : Cond.code yX1_isLength cX1_isLength 2 (some .boolean) ∈ ltg := List.mem_filter.mpr ⟨List.mem_of_getElem? (i := 214) rfl, rfl⟩
set_option maxRecDepth 20000 in
theorem wcX1_bit : Cond.code yX1_bit cX1_bit 6 (some .int) ∈ ltg := List.mem_filter.mpr ⟨List.mem_of_getElem? (i := 217) rfl, rfl⟩
set_option maxRecDepth 20000 in
theorem wcX1_find : Cond.code yX1_find cX1_find 3 (some .int) ∈ ltg := List.mem_filter.mpr ⟨List.mem_of_getElem? (i := 221) rfl, rfl⟩
set_option maxRecDepth 20000 in
theorem wcX1_remove : Cond.code yX1_remove cX1_remove 4 (some .int) ∈ ltg := List.mem_filter.mpr ⟨List.mem_of_getElem? (i := 225) rfl, rfl⟩
set_option maxRecDepth 20000 in
theorem wcX1_number : Cond.code yX1_number cX1_number 3 (some .int) ∈ ltg := List.mem_filter.mpr ⟨List.mem_of_getElem? (i := 229) rfl, rfl⟩
set_option maxRecDepth 20000 in
theorem wcX1_longest : Cond.code yX1_longest cX1_longest 3 (some .int) ∈ ltg := List.mem_filter.mpr ⟨List.mem_of_getElem? (i := 234) rfl, rfl⟩
set_option maxRecDepth 20000 in
theorem wcX1_covers : Cond.code yX1_covers cX1_covers 4 (some .boolean) ∈ ltg := List.mem_filter.mpr ⟨List.mem_of_getElem? (i := 238) rfl, rfl⟩
set_option maxRecDepth 20000 in
theorem wcX1_covering : Cond.code yX1_covering cX1_covering 3 (some .int) ∈ ltg := List.mem_filter.mpr ⟨List.mem_of_getElem? (i := 242) rfl, rfl⟩
set_option maxRecDepth 20000 in
theorem wcX1_ahead : Cond.code yX1_ahead cX1_ahead 2 (some .int) ∈ ltg := List.mem_filter.mpr ⟨List.mem_of_getElem? (i := 246) rfl, rfl⟩
set_option maxRecDepth 20000 in
theorem wcX1_countAhead : Cond.code yX1_countAhead cX1_countAhead 9 (some .int) ∈ ltg := List.mem_filter.mpr ⟨List.mem_of_getElem? (i := 250) rfl, rfl⟩
set_option maxRecDepth 20000 in
theorem wcX1_isAhead : Cond.code yX1_isAhead cX1_isAhead 10 (some .boolean) ∈ ltg := List.mem_filter.mpr ⟨List.mem_of_getElem? (i := 254) rfl, rfl⟩
set_option maxRecDepth 20000 in
theorem wcX1_compare : Cond.code yX1_compare cX1_compare 8 (some .int) ∈ ltg := List.mem_filter.mpr ⟨List.mem_of_getElem? (i := 257) rfl, rfl⟩
set_option maxRecDepth 20000 in
theorem wcX1_at : Cond.code yX1_at cX1_at 3 (some .int) ∈ ltg := List.mem_filter.mpr ⟨List.mem_of_getElem? (i := 262) rfl, rfl⟩
set_option maxRecDepth 20000 in
theorem wcX1_size : Cond.code yX1_size cX1_size 1 (some .int) ∈ ltg := List.mem_filter.mpr ⟨List.mem_of_getElem? (i := 266) rfl, rfl⟩
set_option maxRecDepth 20000 in
theorem wcX1_told : Cond.code yX1_told cX1_told 2 (some .long) ∈ ltg := List.mem_filter.mpr ⟨List.mem_of_getElem? (i := 270) rfl, rfl⟩
theorem flX0_9 : Cond.fieldLink RX0 9 "PrefixBook" "families" "[I" ∈ ltg := by decide +kernel
theorem flX0_13 : Cond.fieldLink RX0 13 "PrefixBook" "uppers" "[J" ∈ ltg := by decide +kernel
theorem flX0_17 : Cond.fieldLink RX0 17 "PrefixBook" "lowers" "[J" ∈ ltg := by decide +kernel
theorem flX0_20 : Cond.fieldLink RX0 20 "PrefixBook" "lengths" "[I" ∈ ltg := by decide +kernel
theorem flX0_23 : Cond.fieldLink RX0 23 "PrefixBook" "numbers" "[I" ∈ ltg := by decide +kernel
theorem flX0_26 : Cond.fieldLink RX0 26 "PrefixBook" "count" "I" ∈ ltg := by decide +kernel
theorem flX0_30 : Cond.fieldLink RX0 30 "PrefixBook" "meantFamily" "I" ∈ ltg := by decide +kernel
theorem flX0_33 : Cond.fieldLink RX0 33 "PrefixBook" "meantUpper" "J" ∈ ltg := by decide +kernel
theorem flX0_37 : Cond.fieldLink RX0 37 "PrefixBook" "meantLower" "J" ∈ ltg := by decide +kernel
theorem flX1_7 : Cond.fieldLink RX1 7 "PrefixBookModel" "families" "[I" ∈ ltg := by decide +kernel
theorem flX1_13 : Cond.fieldLink RX1 13 "PrefixBookModel" "lengths" "[I" ∈ ltg := by decide +kernel
theorem flX1_16 : Cond.fieldLink RX1 16 "PrefixBookModel" "numbers" "[I" ∈ ltg := by decide +kernel
theorem flX1_19 : Cond.fieldLink RX1 19 "PrefixBookModel" "uppers" "[J" ∈ ltg := by decide +kernel
theorem flX1_23 : Cond.fieldLink RX1 23 "PrefixBookModel" "lowers" "[J" ∈ ltg := by decide +kernel
theorem flX1_26 : Cond.fieldLink RX1 26 "PrefixBookModel" "family" "I" ∈ ltg := by decide +kernel
theorem flX1_32 : Cond.fieldLink RX1 32 "PrefixBookModel" "upper" "J" ∈ ltg := by decide +kernel
theorem flX1_36 : Cond.fieldLink RX1 36 "PrefixBookModel" "lower" "J" ∈ ltg := by decide +kernel
theorem flX1_47 : Cond.fieldLink RX1 47 "PrefixBookModel" "many" "I" ∈ ltg := by decide +kernel
theorem wa_int : Cond.arrayClass (newarray.typeOf .int) ∈ ltg := by decide +kernel
theorem wa_long : Cond.arrayClass (newarray.typeOf .long) ∈ ltg := by decide +kernel
set_option maxRecDepth 20000 in
theorem wo_1 : Cond.instanceMethod objectInit ∈ ltg := by decide +kernel
set_option maxRecDepth 20000 in
theorem wo_0 : Cond.methodLink RX0 3 objectInit ∈ ltg := by decide +kernel
set_option maxRecDepth 20000 in
theorem wo_2 : Cond.methodLink RX1 1 objectInit ∈ ltg := by decide +kernel
set_option maxRecDepth 20000 in
theorem wo_c : Cond.code objectInit ⟨#[0xb1]⟩ 1 none ∈ ltg := List.mem_filter.mpr ⟨List.mem_of_getElem? (i := 27) rfl, rfl⟩
theorem kcX0_71 : Cond.constant RX0 71 (-2147483648) ∈ ltg := by decide +kernel
theorem kcX0_78 : Cond.constantLong RX0 78 (4294967296) ∈ ltg := by decide +kernel
theorem kcX0_88 : Cond.constantLong RX0 88 (-1) ∈ ltg := by decide +kernel
theorem kcX0_103 : Cond.constantLong RX0 103 (-9223372036854775808) ∈ ltg := by decide +kernel
theorem kcX1_30 : Cond.constantLong RX1 30 (4294967296) ∈ ltg := by decide +kernel
theorem kcX1_57 : Cond.constant RX1 57 (-2147483648) ∈ ltg := by decide +kernel
theorem kcX1_61 : Cond.constantLong RX1 61 (-9223372036854775808) ∈ ltg := by decide +kernel
theorem kcL_13 : Cond.constantLong RL 13 (4294967295) ∈ ltg := by decide +kernel
