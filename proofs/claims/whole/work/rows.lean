section
-- ===== PART A: goes FIRST, ahead of the names: the tables' words, and 'selects' of the private methods out of them =====
/-- a private method of a class that the tables say can be made, by its rows of tables_1 -/
def lw_okq (q : MethodName × Nat) : Prop := (q.1.cls ≠ "java/lang/invoke/MethodHandle" ∧ q.1.cls ≠ "java/lang/invoke/VarHandle") ∧ Cond.instantiable q.1.cls q.2 ∈ tables_1 ∧ Cond.privateMethod q.1 ∈ tables_1 ∧ Cond.instanceMethod q.1 ∈ tables_1
theorem lw_p0 : lw_okq (⟨"SpliceBench", "putCard", "(LSpliceBench$Holding;IJ)I"⟩, 8) := ⟨⟨by decide +kernel, by decide +kernel⟩, List.mem_of_getElem? (i := 7) (by decide +kernel), List.mem_of_getElem? (i := 96) (by decide +kernel), List.mem_of_getElem? (i := 97) (by decide +kernel)⟩
theorem lw_p1 : lw_okq (⟨"SpliceBench", "end", "(III)I"⟩, 8) := ⟨⟨by decide +kernel, by decide +kernel⟩, List.mem_of_getElem? (i := 7) (by decide +kernel), List.mem_of_getElem? (i := 143) (by decide +kernel), List.mem_of_getElem? (i := 144) (by decide +kernel)⟩
theorem lw_p2 : lw_okq (⟨"SpliceBench", "cover", "(LSpliceBench$Holding;)V"⟩, 8) := ⟨⟨by decide +kernel, by decide +kernel⟩, List.mem_of_getElem? (i := 7) (by decide +kernel), List.mem_of_getElem? (i := 157) (by decide +kernel), List.mem_of_getElem? (i := 158) (by decide +kernel)⟩
theorem lw_p3 : lw_okq (⟨"SpliceBench", "rowBehind", "(LSpliceBench$Holding;)LSpliceBench$Holding;"⟩, 8) := ⟨⟨by decide +kernel, by decide +kernel⟩, List.mem_of_getElem? (i := 7) (by decide +kernel), List.mem_of_getElem? (i := 161) (by decide +kernel), List.mem_of_getElem? (i := 162) (by decide +kernel)⟩
theorem lw_p4 : lw_okq (⟨"SpliceBench", "shift", "(IIIZ)I"⟩, 8) := ⟨⟨by decide +kernel, by decide +kernel⟩, List.mem_of_getElem? (i := 7) (by decide +kernel), List.mem_of_getElem? (i := 177) (by decide +kernel), List.mem_of_getElem? (i := 178) (by decide +kernel)⟩
theorem lw_p5 : lw_okq (⟨"SpliceBenchModel", "isHeld", "(I)Z"⟩, 14) := ⟨⟨by decide +kernel, by decide +kernel⟩, List.mem_of_getElem? (i := 227) (by decide +kernel), List.mem_of_getElem? (i := 283) (by decide +kernel), List.mem_of_getElem? (i := 284) (by decide +kernel)⟩
theorem lw_p6 : lw_okq (⟨"SpliceBenchModel", "kindOf", "(I)I"⟩, 14) := ⟨⟨by decide +kernel, by decide +kernel⟩, List.mem_of_getElem? (i := 227) (by decide +kernel), List.mem_of_getElem? (i := 291) (by decide +kernel), List.mem_of_getElem? (i := 292) (by decide +kernel)⟩
theorem lw_p7 : lw_okq (⟨"SpliceBenchModel", "isPlace", "(II)Z"⟩, 14) := ⟨⟨by decide +kernel, by decide +kernel⟩, List.mem_of_getElem? (i := 227) (by decide +kernel), List.mem_of_getElem? (i := 299) (by decide +kernel), List.mem_of_getElem? (i := 300) (by decide +kernel)⟩
theorem lw_p8 : lw_okq (⟨"SpliceBenchModel", "sizeOf", "(I)I"⟩, 14) := ⟨⟨by decide +kernel, by decide +kernel⟩, List.mem_of_getElem? (i := 227) (by decide +kernel), List.mem_of_getElem? (i := 303) (by decide +kernel), List.mem_of_getElem? (i := 304) (by decide +kernel)⟩
theorem lw_p9 : lw_okq (⟨"SpliceBenchModel", "hasPlaces", "(I)Z"⟩, 14) := ⟨⟨by decide +kernel, by decide +kernel⟩, List.mem_of_getElem? (i := 227) (by decide +kernel), List.mem_of_getElem? (i := 307) (by decide +kernel), List.mem_of_getElem? (i := 308) (by decide +kernel)⟩
theorem lw_p10 : lw_okq (⟨"SpliceBenchModel", "fails", "(I)I"⟩, 14) := ⟨⟨by decide +kernel, by decide +kernel⟩, List.mem_of_getElem? (i := 227) (by decide +kernel), List.mem_of_getElem? (i := 315) (by decide +kernel), List.mem_of_getElem? (i := 316) (by decide +kernel)⟩
theorem lw_p11 : lw_okq (⟨"SpliceBenchModel", "place", "(II)J"⟩, 14) := ⟨⟨by decide +kernel, by decide +kernel⟩, List.mem_of_getElem? (i := 227) (by decide +kernel), List.mem_of_getElem? (i := 322) (by decide +kernel), List.mem_of_getElem? (i := 323) (by decide +kernel)⟩
theorem lw_p12 : lw_okq (⟨"SpliceBenchModel", "isPlain", "(J)Z"⟩, 14) := ⟨⟨by decide +kernel, by decide +kernel⟩, List.mem_of_getElem? (i := 227) (by decide +kernel), List.mem_of_getElem? (i := 326) (by decide +kernel), List.mem_of_getElem? (i := 327) (by decide +kernel)⟩
theorem lw_p13 : lw_okq (⟨"SpliceBenchModel", "cover", "(I)V"⟩, 14) := ⟨⟨by decide +kernel, by decide +kernel⟩, List.mem_of_getElem? (i := 227) (by decide +kernel), List.mem_of_getElem? (i := 330) (by decide +kernel), List.mem_of_getElem? (i := 331) (by decide +kernel)⟩
theorem lw_p14 : lw_okq (⟨"SpliceBenchModel", "shifts", "(IIIZ)I"⟩, 14) := ⟨⟨by decide +kernel, by decide +kernel⟩, List.mem_of_getElem? (i := 227) (by decide +kernel), List.mem_of_getElem? (i := 338) (by decide +kernel), List.mem_of_getElem? (i := 339) (by decide +kernel)⟩
theorem lw_p15 : lw_okq (⟨"SpliceBenchModel", "hinders", "(III)I"⟩, 14) := ⟨⟨by decide +kernel, by decide +kernel⟩, List.mem_of_getElem? (i := 227) (by decide +kernel), List.mem_of_getElem? (i := 342) (by decide +kernel), List.mem_of_getElem? (i := 343) (by decide +kernel)⟩
def lw_privs_1 : List (MethodName × Nat) := [(⟨"SpliceBench", "putCard", "(LSpliceBench$Holding;IJ)I"⟩, 8), (⟨"SpliceBench", "end", "(III)I"⟩, 8), (⟨"SpliceBench", "cover", "(LSpliceBench$Holding;)V"⟩, 8), (⟨"SpliceBench", "rowBehind", "(LSpliceBench$Holding;)LSpliceBench$Holding;"⟩, 8), (⟨"SpliceBench", "shift", "(IIIZ)I"⟩, 8), (⟨"SpliceBenchModel", "isHeld", "(I)Z"⟩, 14), (⟨"SpliceBenchModel", "kindOf", "(I)I"⟩, 14), (⟨"SpliceBenchModel", "isPlace", "(II)Z"⟩, 14), (⟨"SpliceBenchModel", "sizeOf", "(I)I"⟩, 14), (⟨"SpliceBenchModel", "hasPlaces", "(I)Z"⟩, 14), (⟨"SpliceBenchModel", "fails", "(I)I"⟩, 14), (⟨"SpliceBenchModel", "place", "(II)J"⟩, 14), (⟨"SpliceBenchModel", "isPlain", "(J)Z"⟩, 14), (⟨"SpliceBenchModel", "cover", "(I)V"⟩, 14), (⟨"SpliceBenchModel", "shifts", "(IIIZ)I"⟩, 14), (⟨"SpliceBenchModel", "hinders", "(III)I"⟩, 14)]
theorem lw_r1 : ∀ q ∈ lw_privs_1, lw_okq q := List.forall_mem_cons.mpr ⟨lw_p0, List.forall_mem_cons.mpr ⟨lw_p1, List.forall_mem_cons.mpr ⟨lw_p2, List.forall_mem_cons.mpr ⟨lw_p3, List.forall_mem_cons.mpr ⟨lw_p4, List.forall_mem_cons.mpr ⟨lw_p5, List.forall_mem_cons.mpr ⟨lw_p6, List.forall_mem_cons.mpr ⟨lw_p7, List.forall_mem_cons.mpr ⟨lw_p8, List.forall_mem_cons.mpr ⟨lw_p9, List.forall_mem_cons.mpr ⟨lw_p10, List.forall_mem_cons.mpr ⟨lw_p11, List.forall_mem_cons.mpr ⟨lw_p12, List.forall_mem_cons.mpr ⟨lw_p13, List.forall_mem_cons.mpr ⟨lw_p14, List.forall_mem_cons.mpr ⟨lw_p15, fun _ h => absurd h List.not_mem_nil⟩⟩⟩⟩⟩⟩⟩⟩⟩⟩⟩⟩⟩⟩⟩⟩
theorem lw_p16 : lw_okq (⟨"SpliceBenchModel", "isRack", "(I)Z"⟩, 14) := ⟨⟨by decide +kernel, by decide +kernel⟩, List.mem_of_getElem? (i := 227) (by decide +kernel), List.mem_of_getElem? (i := 366) (by decide +kernel), List.mem_of_getElem? (i := 367) (by decide +kernel)⟩
def lw_privs_2 : List (MethodName × Nat) := [(⟨"SpliceBenchModel", "isRack", "(I)Z"⟩, 14)]
theorem lw_r2 : ∀ q ∈ lw_privs_2, lw_okq q := List.forall_mem_cons.mpr ⟨lw_p16, fun _ h => absurd h List.not_mem_nil⟩
def lw_privs : List (MethodName × Nat) := lw_privs_1 ++ (lw_privs_2)
def lw_tbl : List Cond := k2_sels lw_privs ++ tables_1
theorem lw_privs_ok : ∀ q ∈ lw_privs, lw_okq q := by
  show ∀ q ∈ lw_privs_1 ++ (lw_privs_2), lw_okq q
  exact List.forall_mem_append.mpr ⟨lw_r1, lw_r2⟩
end
section
/-! ===== BEGIN words of one list among another's, by their places ===== -/
theorem goodIn_r {big : List Cond} (ws : List Cond) (ps : List Nat) (hp : ws = ps.filterMap (fun i => big[i]?)) (h : ws.all goodWord = true) : GoodIn big ws := by
  intro w hw
  have h1 := List.all_eq_true.mp h w hw
  rw [hp] at hw
  obtain ⟨i, -, hi⟩ := List.mem_filterMap.mp hw
  have hm : w ∈ big := by first | exact List.mem_of_getElem? hi | exact List.getElem?_mem hi
  exact ⟨hm, good_of_word h1⟩
theorem goodIn_app {big a b : List Cond} (ha : GoodIn big a) (hb : GoodIn big b) : GoodIn big (a ++ b) := fun w h => (List.mem_append.mp h).elim (ha w) (hb w)
theorem goodIn_ca {big a b : List Cond} {c : Cond} (ha : GoodIn big (c :: a)) (hb : GoodIn big b) : GoodIn big (c :: (a ++ b)) := fun w h => (List.mem_cons.mp h).elim (fun e => ha w (List.mem_cons.mpr (Or.inl e))) (fun h => (List.mem_append.mp h).elim (fun h => ha w (List.mem_cons.mpr (Or.inr h))) (hb w))
theorem goodIn_sub {big ws : List Cond} (hm : ∀ w ∈ ws, w ∈ big) (h : ws.all goodWord = true) : GoodIn big ws := fun w hw => ⟨hm w hw, good_of_word (List.all_eq_true.mp h w hw)⟩
/-! ===== END ===== -/

/-! ===== BEGIN printed: names, fields, word lists, decode rows ===== -/
def RX0 : String := "SpliceBench$Card"
def TX0 : u_T := fun k => match k with
  | 0 => ("SpliceBench$Card", "number", "J", true)
  | 1 => ("SpliceBench$Card", "slide", "Z", true)
  | _ => ("SpliceBench$Card", "shown", "I", false)
def tyX0 : Nat → FieldType := fun k => match k with
  | 0 => .long
  | 1 => .boolean
  | _ => .int
abbrev wsX00 : List Cond := u_ws RX0 TX0 3
theorem nmX0 : ∀ a, a < 3 → ∀ b, b < 3 → a ≠ b → (TX0 a).2.1 ≠ (TX0 b).2.1 := by decide +kernel
theorem tyX0_ok : ∀ k, k < 3 → parseFieldDescriptor (TX0 k).2.2.1 = some (tyX0 k) := by decide +kernel
abbrev cX0_init : ByteArray := prog_2_method_1_code
def yX0_init : MethodName := ⟨RX0, "<init>", "(J)V"⟩
def RX1 : String := "SpliceBench$Holding"
def TX1 : u_T := fun k => match k with
  | 0 => ("SpliceBench$Holding", "kind", "I", true)
  | 1 => ("SpliceBench$Holding", "places", "I", true)
  | 2 => ("SpliceBench$Holding", "numbers", "[J", true)
  | 3 => ("SpliceBench$Holding", "cards", "[LSpliceBench$Card;", true)
  | _ => ("SpliceBench$Holding", "label", "I", false)
def tyX1 : Nat → FieldType := fun k => match k with
  | 0 => .int
  | 1 => .int
  | 2 => .array .long
  | 3 => .array (.object "SpliceBench$Card")
  | _ => .int
abbrev wsX10 : List Cond := u_ws RX1 TX1 5
theorem nmX1 : ∀ a, a < 5 → ∀ b, b < 5 → a ≠ b → (TX1 a).2.1 ≠ (TX1 b).2.1 := by decide +kernel
theorem tyX1_ok : ∀ k, k < 5 → parseFieldDescriptor (TX1 k).2.2.1 = some (tyX1 k) := by decide +kernel
abbrev cX1_init : ByteArray := prog_3_method_1_code
def yX1_init : MethodName := ⟨RX1, "<init>", "(III)V"⟩
abbrev cX1_isStrip : ByteArray := prog_3_method_2_code
def yX1_isStrip : MethodName := ⟨RX1, "isStrip", "()Z"⟩
abbrev cX1_isRack : ByteArray := prog_3_method_3_code
def yX1_isRack : MethodName := ⟨RX1, "isRack", "()Z"⟩
abbrev cX1_isLike : ByteArray := prog_3_method_4_code
def yX1_isLike : MethodName := ⟨RX1, "isLike", "(LSpliceBench$Holding;)Z"⟩
abbrev cX1_hasPlace : ByteArray := prog_3_method_5_code
def yX1_hasPlace : MethodName := ⟨RX1, "hasPlace", "(I)Z"⟩
abbrev cX1_hasPlaces : ByteArray := prog_3_method_6_code
def yX1_hasPlaces : MethodName := ⟨RX1, "hasPlaces", "(II)Z"⟩
abbrev cX1_cardAt : ByteArray := prog_3_method_7_code
def yX1_cardAt : MethodName := ⟨RX1, "cardAt", "(I)LSpliceBench$Card;"⟩
abbrev cX1_admits : ByteArray := prog_3_method_8_code
def yX1_admits : MethodName := ⟨RX1, "admits", "(LSpliceBench$Card;)Z"⟩
abbrev cX1_countAdmitted : ByteArray := prog_3_method_9_code
def yX1_countAdmitted : MethodName := ⟨RX1, "countAdmitted", "(LSpliceBench$Holding;II)I"⟩
abbrev cX1_copyFrom : ByteArray := prog_3_method_10_code
def yX1_copyFrom : MethodName := ⟨RX1, "copyFrom", "(LSpliceBench$Holding;III)V"⟩
abbrev cX1_makeBlank : ByteArray := prog_3_method_11_code
def yX1_makeBlank : MethodName := ⟨RX1, "makeBlank", "(II)V"⟩
abbrev cX1_countFilled : ByteArray := prog_3_method_12_code
def yX1_countFilled : MethodName := ⟨RX1, "countFilled", "()I"⟩
def RX2 : String := "SpliceBench"
def TX2 : u_T := fun k => match k with
  | 0 => ("SpliceBench", "spindles", "[LSpliceBench$Holding;", true)
  | 1 => ("SpliceBench", "endings", "[I", true)
  | 2 => ("SpliceBench", "come", "I", false)
  | 3 => ("SpliceBench", "made", "I", false)
  | 4 => ("SpliceBench", "cardsPut", "I", false)
  | 5 => ("SpliceBench", "covered", "LSpliceBench$Holding;", false)
  | 6 => ("SpliceBench", "coveredStrip", "LSpliceBench$Holding;", true)
  | _ => ("SpliceBench", "coveredRack", "LSpliceBench$Holding;", true)
def tyX2 : Nat → FieldType := fun k => match k with
  | 0 => .array (.object "SpliceBench$Holding")
  | 1 => .array .int
  | 2 => .int
  | 3 => .int
  | 4 => .int
  | 5 => .object "SpliceBench$Holding"
  | 6 => .object "SpliceBench$Holding"
  | _ => .object "SpliceBench$Holding"
abbrev wsX20 : List Cond := u_ws RX2 TX2 8
theorem nmX2 : ∀ a, a < 8 → ∀ b, b < 8 → a ≠ b → (TX2 a).2.1 ≠ (TX2 b).2.1 := by decide +kernel
theorem tyX2_ok : ∀ k, k < 8 → parseFieldDescriptor (TX2 k).2.2.1 = some (tyX2 k) := by decide +kernel
abbrev cX2_init : ByteArray := prog_1_method_1_code
def yX2_init : MethodName := ⟨RX2, "<init>", "()V"⟩
abbrev cX2_hold : ByteArray := prog_1_method_2_code
def yX2_hold : MethodName := ⟨RX2, "hold", "(III)I"⟩
abbrev cX2_thread : ByteArray := prog_1_method_3_code
def yX2_thread : MethodName := ⟨RX2, "thread", "(II)I"⟩
abbrev cX2_put : ByteArray := prog_1_method_4_code
def yX2_put : MethodName := ⟨RX2, "put", "(IIJ)I"⟩
abbrev cX2_putCard : ByteArray := prog_1_method_5_code
def yX2_putCard : MethodName := ⟨RX2, "putCard", "(LSpliceBench$Holding;IJ)I"⟩
abbrev cX2_move : ByteArray := prog_1_method_6_code
def yX2_move : MethodName := ⟨RX2, "move", "(IIIII)I"⟩
abbrev cX2_open : ByteArray := prog_1_method_7_code
def yX2_open : MethodName := ⟨RX2, "open", "(III)I"⟩
abbrev cX2_close : ByteArray := prog_1_method_8_code
def yX2_close : MethodName := ⟨RX2, "close", "(III)I"⟩
abbrev cX2_shift : ByteArray := prog_1_method_9_code
def yX2_shift : MethodName := ⟨RX2, "shift", "(IIIZ)I"⟩
abbrev cX2_back : ByteArray := prog_1_method_10_code
def yX2_back : MethodName := ⟨RX2, "back", "()I"⟩
abbrev cX2_count : ByteArray := prog_1_method_11_code
def yX2_count : MethodName := ⟨RX2, "count", "(I)I"⟩
abbrev cX2_held : ByteArray := prog_1_method_12_code
def yX2_held : MethodName := ⟨RX2, "held", "(II)I"⟩
abbrev cX2_sort : ByteArray := prog_1_method_13_code
def yX2_sort : MethodName := ⟨RX2, "sort", "(II)I"⟩
abbrev cX2_number : ByteArray := prog_1_method_14_code
def yX2_number : MethodName := ⟨RX2, "number", "(II)J"⟩
abbrev cX2_show : ByteArray := prog_1_method_15_code
def yX2_show : MethodName := ⟨RX2, "show", "(I)I"⟩
abbrev cX2_shown : ByteArray := prog_1_method_16_code
def yX2_shown : MethodName := ⟨RX2, "shown", "(II)I"⟩
abbrev cX2_same : ByteArray := prog_1_method_17_code
def yX2_same : MethodName := ⟨RX2, "same", "(IIII)I"⟩
abbrev cX2_isSpindle : ByteArray := prog_1_method_18_code
def yX2_isSpindle : MethodName := ⟨RX2, "isSpindle", "(I)Z"⟩
abbrev cX2_motionFailure : ByteArray := prog_1_method_19_code
def yX2_motionFailure : MethodName := ⟨RX2, "motionFailure", "(LSpliceBench$Holding;ILSpliceBench$Holding;II)I"⟩
abbrev cX2_end : ByteArray := prog_1_method_20_code
def yX2_end : MethodName := ⟨RX2, "end", "(III)I"⟩
abbrev cX2_cover : ByteArray := prog_1_method_21_code
def yX2_cover : MethodName := ⟨RX2, "cover", "(LSpliceBench$Holding;)V"⟩
abbrev cX2_rowBehind : ByteArray := prog_1_method_22_code
def yX2_rowBehind : MethodName := ⟨RX2, "rowBehind", "(LSpliceBench$Holding;)LSpliceBench$Holding;"⟩
def RX3 : String := "SpliceBenchModel"
def TX3 : u_T := fun k => match k with
  | 0 => ("SpliceBenchModel", "holds", "[I", true)
  | 1 => ("SpliceBenchModel", "labels", "[I", true)
  | 2 => ("SpliceBenchModel", "kind", "[I", true)
  | 3 => ("SpliceBenchModel", "size", "[I", true)
  | 4 => ("SpliceBenchModel", "places", "[J", true)
  | 5 => ("SpliceBenchModel", "was", "[J", true)
  | 6 => ("SpliceBenchModel", "cardNumber", "[J", true)
  | 7 => ("SpliceBenchModel", "cardShown", "[I", true)
  | 8 => ("SpliceBenchModel", "failed", "[I", true)
  | 9 => ("SpliceBenchModel", "covered", "I", false)
  | 10 => ("SpliceBenchModel", "came", "I", false)
  | 11 => ("SpliceBenchModel", "good", "I", false)
  | 12 => ("SpliceBenchModel", "rows", "I", false)
  | _ => ("SpliceBenchModel", "cards", "I", false)
def tyX3 : Nat → FieldType := fun k => match k with
  | 0 => .array .int
  | 1 => .array .int
  | 2 => .array .int
  | 3 => .array .int
  | 4 => .array .long
  | 5 => .array .long
  | 6 => .array .long
  | 7 => .array .int
  | 8 => .array .int
  | 9 => .int
  | 10 => .int
  | 11 => .int
  | 12 => .int
  | _ => .int
abbrev wsX30 : List Cond := u_ws RX3 TX3 14
theorem nmX3 : ∀ a, a < 14 → ∀ b, b < 14 → a ≠ b → (TX3 a).2.1 ≠ (TX3 b).2.1 := by decide +kernel
theorem tyX3_ok : ∀ k, k < 14 → parseFieldDescriptor (TX3 k).2.2.1 = some (tyX3 k) := by decide +kernel
abbrev cX3_init : ByteArray := prog_5_method_1_code
def yX3_init : MethodName := ⟨RX3, "<init>", "()V"⟩
abbrev cX3_isSpindle : ByteArray := prog_5_method_2_code
def yX3_isSpindle : MethodName := ⟨RX3, "isSpindle", "(I)Z"⟩
abbrev cX3_kindOf : ByteArray := prog_5_method_3_code
def yX3_kindOf : MethodName := ⟨RX3, "kindOf", "(I)I"⟩
abbrev cX3_hasPlaces : ByteArray := prog_5_method_4_code
def yX3_hasPlaces : MethodName := ⟨RX3, "hasPlaces", "(I)Z"⟩
abbrev cX3_sizeOf : ByteArray := prog_5_method_5_code
def yX3_sizeOf : MethodName := ⟨RX3, "sizeOf", "(I)I"⟩
abbrev cX3_isRack : ByteArray := prog_5_method_6_code
def yX3_isRack : MethodName := ⟨RX3, "isRack", "(I)Z"⟩
abbrev cX3_isPlace : ByteArray := prog_5_method_7_code
def yX3_isPlace : MethodName := ⟨RX3, "isPlace", "(II)Z"⟩
abbrev cX3_place : ByteArray := prog_5_method_8_code
def yX3_place : MethodName := ⟨RX3, "place", "(II)J"⟩
abbrev cX3_isPlain : ByteArray := prog_5_method_9_code
def yX3_isPlain : MethodName := ⟨RX3, "isPlain", "(J)Z"⟩
abbrev cX3_isHeld : ByteArray := prog_5_method_10_code
def yX3_isHeld : MethodName := ⟨RX3, "isHeld", "(I)Z"⟩
abbrev cX3_hold : ByteArray := prog_5_method_11_code
def yX3_hold : MethodName := ⟨RX3, "hold", "(III)I"⟩
abbrev cX3_thread : ByteArray := prog_5_method_12_code
def yX3_thread : MethodName := ⟨RX3, "thread", "(II)I"⟩
abbrev cX3_put : ByteArray := prog_5_method_13_code
def yX3_put : MethodName := ⟨RX3, "put", "(IIJ)I"⟩
abbrev cX3_fails : ByteArray := prog_5_method_14_code
def yX3_fails : MethodName := ⟨RX3, "fails", "(I)I"⟩
abbrev cX3_cover : ByteArray := prog_5_method_15_code
def yX3_cover : MethodName := ⟨RX3, "cover", "(I)V"⟩
abbrev cX3_isBeyond : ByteArray := prog_5_method_16_code
def yX3_isBeyond : MethodName := ⟨RX3, "isBeyond", "(III)Z"⟩
abbrev cX3_move : ByteArray := prog_5_method_17_code
def yX3_move : MethodName := ⟨RX3, "move", "(IIIII)I"⟩
abbrev cX3_hinders : ByteArray := prog_5_method_18_code
def yX3_hinders : MethodName := ⟨RX3, "hinders", "(III)I"⟩
abbrev cX3_shifts : ByteArray := prog_5_method_19_code
def yX3_shifts : MethodName := ⟨RX3, "shifts", "(IIIZ)I"⟩
abbrev cX3_open : ByteArray := prog_5_method_20_code
def yX3_open : MethodName := ⟨RX3, "open", "(III)I"⟩
abbrev cX3_close : ByteArray := prog_5_method_21_code
def yX3_close : MethodName := ⟨RX3, "close", "(III)I"⟩
abbrev cX3_back : ByteArray := prog_5_method_22_code
def yX3_back : MethodName := ⟨RX3, "back", "()I"⟩
abbrev cX3_count : ByteArray := prog_5_method_23_code
def yX3_count : MethodName := ⟨RX3, "count", "(I)I"⟩
abbrev cX3_held : ByteArray := prog_5_method_24_code
def yX3_held : MethodName := ⟨RX3, "held", "(II)I"⟩
abbrev cX3_sort : ByteArray := prog_5_method_25_code
def yX3_sort : MethodName := ⟨RX3, "sort", "(II)I"⟩
abbrev cX3_number : ByteArray := prog_5_method_26_code
def yX3_number : MethodName := ⟨RX3, "number", "(II)J"⟩
abbrev cX3_show : ByteArray := prog_5_method_27_code
def yX3_show : MethodName := ⟨RX3, "show", "(I)I"⟩
abbrev cX3_shown : ByteArray := prog_5_method_28_code
def yX3_shown : MethodName := ⟨RX3, "shown", "(II)I"⟩
abbrev cX3_same : ByteArray := prog_5_method_29_code
def yX3_same : MethodName := ⟨RX3, "same", "(IIII)I"⟩
def RJ10 : String := "java/lang/System"
def TJ10 : u_T := fun k => match k with
  | _ => ("", "", "", false)
def tyJ10 : Nat → FieldType := fun k => match k with
  | _ => .int
abbrev wsJ100 : List Cond := u_ws RJ10 TJ10 0
theorem nmJ10 : ∀ a, a < 0 → ∀ b, b < 0 → a ≠ b → (TJ10 a).2.1 ≠ (TJ10 b).2.1 := by decide +kernel
theorem tyJ10_ok : ∀ k, k < 0 → parseFieldDescriptor (TJ10 k).2.2.1 = some (tyJ10 k) := by decide +kernel
def RL : String := "SpliceBenchLaw"
abbrev cL_law : ByteArray := code
def yL_law : MethodName := ⟨RL, "law", "([I)Z"⟩
def wsX0_init : List Cond := .code yX0_init cX0_init 3 none :: ([.methodLink RX0 1 objectInit, .instanceMethod objectInit, .code objectInit ⟨#[0xb1]⟩ 1 none, .fieldLink RX0 7 "SpliceBench$Card" "shown" "I", .fieldLink RX0 13 "SpliceBench$Card" "number" "J", .fieldLink RX0 17 "SpliceBench$Card" "slide" "Z"] ++ wsX00)
def wsX1_isStrip : List Cond := .code yX1_isStrip cX1_isStrip 1 (some .boolean) :: ([.fieldLink RX1 9 "SpliceBench$Holding" "kind" "I"] ++ wsX10)
def wsX1_isRack : List Cond := .code yX1_isRack cX1_isRack 1 (some .boolean) :: ([.fieldLink RX1 9 "SpliceBench$Holding" "kind" "I"] ++ wsX10)
def wsX1_init : List Cond := .code yX1_init cX1_init 4 none :: ([.methodLink RX1 3 objectInit, .instanceMethod objectInit, .code objectInit ⟨#[0xb1]⟩ 1 none, .fieldLink RX1 9 "SpliceBench$Holding" "kind" "I", .fieldLink RX1 15 "SpliceBench$Holding" "places" "I", .fieldLink RX1 18 "SpliceBench$Holding" "label" "I", .arrayClass .long, .fieldLink RX1 25 "SpliceBench$Holding" "numbers" "[J", .classLink RX1 32 RX0, .fieldLink RX1 34 "SpliceBench$Holding" "cards" "[LSpliceBench$Card;", .methodLink RX1 21 yX1_isStrip, .instanceMethod yX1_isStrip, .selects RX1 yX1_isStrip yX1_isStrip, .initialized RX1, .code yX1_isStrip cX1_isStrip 1 (some .boolean), .methodLink RX1 29 yX1_isRack, .instanceMethod yX1_isRack, .selects RX1 yX1_isRack yX1_isRack, .code yX1_isRack cX1_isRack 1 (some .boolean)] ++ wsX10)
def wsX1_isLike : List Cond := .code yX1_isLike cX1_isLike 2 (some .boolean) :: ([.fieldLink RX1 9 "SpliceBench$Holding" "kind" "I", .methodLink RX1 29 yX1_isRack, .instanceMethod yX1_isRack, .selects RX1 yX1_isRack yX1_isRack, .initialized RX1, .code yX1_isRack cX1_isRack 1 (some .boolean), .methodLink RX1 21 yX1_isStrip, .instanceMethod yX1_isStrip, .selects RX1 yX1_isStrip yX1_isStrip, .code yX1_isStrip cX1_isStrip 1 (some .boolean)] ++ wsX10)
def wsX1_hasPlace : List Cond := .code yX1_hasPlace cX1_hasPlace 2 (some .boolean) :: ([.fieldLink RX1 15 "SpliceBench$Holding" "places" "I"] ++ wsX10)
def wsX1_hasPlaces : List Cond := .code yX1_hasPlaces cX1_hasPlaces 3 (some .boolean) :: ([.fieldLink RX1 15 "SpliceBench$Holding" "places" "I"] ++ wsX10)
def wsX1_cardAt : List Cond := .code yX1_cardAt cX1_cardAt 2 (some (.object "SpliceBench$Card")) :: ([.fieldLink RX1 34 "SpliceBench$Holding" "cards" "[LSpliceBench$Card;", .methodLink RX1 29 yX1_isRack, .instanceMethod yX1_isRack, .selects RX1 yX1_isRack yX1_isRack, .initialized RX1, .code yX1_isRack cX1_isRack 1 (some .boolean), .fieldLink RX1 9 "SpliceBench$Holding" "kind" "I", .methodLink RX1 38 yX1_hasPlace, .instanceMethod yX1_hasPlace, .selects RX1 yX1_hasPlace yX1_hasPlace, .code yX1_hasPlace cX1_hasPlace 2 (some .boolean), .fieldLink RX1 15 "SpliceBench$Holding" "places" "I"] ++ wsX10)
def wsX1_admits : List Cond := .code yX1_admits cX1_admits 2 (some .boolean) :: ([.fieldLink RX1 9 "SpliceBench$Holding" "kind" "I", .fieldLink RX1 42 "SpliceBench$Card" "slide" "Z"] ++ wsX10 ++ wsX00)
def wsX1_countAdmitted : List Cond := .code yX1_countAdmitted cX1_countAdmitted 5 (some .int) :: ([.methodLink RX1 46 yX1_cardAt, .instanceMethod yX1_cardAt, .selects RX1 yX1_cardAt yX1_cardAt, .initialized RX1, .code yX1_cardAt cX1_cardAt 2 (some (.object "SpliceBench$Card")), .fieldLink RX1 34 "SpliceBench$Holding" "cards" "[LSpliceBench$Card;", .methodLink RX1 29 yX1_isRack, .instanceMethod yX1_isRack, .selects RX1 yX1_isRack yX1_isRack, .code yX1_isRack cX1_isRack 1 (some .boolean), .fieldLink RX1 9 "SpliceBench$Holding" "kind" "I", .methodLink RX1 38 yX1_hasPlace, .instanceMethod yX1_hasPlace, .selects RX1 yX1_hasPlace yX1_hasPlace, .code yX1_hasPlace cX1_hasPlace 2 (some .boolean), .fieldLink RX1 15 "SpliceBench$Holding" "places" "I", .methodLink RX1 50 yX1_admits, .instanceMethod yX1_admits, .selects RX1 yX1_admits yX1_admits, .code yX1_admits cX1_admits 2 (some .boolean), .fieldLink RX1 42 "SpliceBench$Card" "slide" "Z"] ++ wsX10 ++ wsX00)
def wsX1_copyFrom : List Cond := .code yX1_copyFrom cX1_copyFrom 5 none :: ([.fieldLink RX1 34 "SpliceBench$Holding" "cards" "[LSpliceBench$Card;", .methodLink RX1 58 arraycopyName, .native arraycopyName, .static arraycopyName, .initialized "java/lang/System", .fieldLink RX1 25 "SpliceBench$Holding" "numbers" "[J", .methodLink RX1 54 yX1_hasPlaces, .instanceMethod yX1_hasPlaces, .selects RX1 yX1_hasPlaces yX1_hasPlaces, .initialized RX1, .code yX1_hasPlaces cX1_hasPlaces 3 (some .boolean), .fieldLink RX1 15 "SpliceBench$Holding" "places" "I", .methodLink RX1 29 yX1_isRack, .instanceMethod yX1_isRack, .selects RX1 yX1_isRack yX1_isRack, .code yX1_isRack cX1_isRack 1 (some .boolean), .fieldLink RX1 9 "SpliceBench$Holding" "kind" "I", .methodLink RX1 21 yX1_isStrip, .instanceMethod yX1_isStrip, .selects RX1 yX1_isStrip yX1_isStrip, .code yX1_isStrip cX1_isStrip 1 (some .boolean)] ++ wsX10)
def wsX1_makeBlank : List Cond := .code yX1_makeBlank cX1_makeBlank 4 none :: ([.fieldLink RX1 34 "SpliceBench$Holding" "cards" "[LSpliceBench$Card;", .fieldLink RX1 25 "SpliceBench$Holding" "numbers" "[J", .methodLink RX1 54 yX1_hasPlaces, .instanceMethod yX1_hasPlaces, .selects RX1 yX1_hasPlaces yX1_hasPlaces, .initialized RX1, .code yX1_hasPlaces cX1_hasPlaces 3 (some .boolean), .fieldLink RX1 15 "SpliceBench$Holding" "places" "I", .methodLink RX1 29 yX1_isRack, .instanceMethod yX1_isRack, .selects RX1 yX1_isRack yX1_isRack, .code yX1_isRack cX1_isRack 1 (some .boolean), .fieldLink RX1 9 "SpliceBench$Holding" "kind" "I", .methodLink RX1 21 yX1_isStrip, .instanceMethod yX1_isStrip, .selects RX1 yX1_isStrip yX1_isStrip, .code yX1_isStrip cX1_isStrip 1 (some .boolean)] ++ wsX10)
def wsX1_countFilled : List Cond := .code yX1_countFilled cX1_countFilled 3 (some .int) :: ([.fieldLink RX1 15 "SpliceBench$Holding" "places" "I", .fieldLink RX1 25 "SpliceBench$Holding" "numbers" "[J", .methodLink RX1 21 yX1_isStrip, .instanceMethod yX1_isStrip, .selects RX1 yX1_isStrip yX1_isStrip, .initialized RX1, .code yX1_isStrip cX1_isStrip 1 (some .boolean), .fieldLink RX1 9 "SpliceBench$Holding" "kind" "I", .methodLink RX1 46 yX1_cardAt, .instanceMethod yX1_cardAt, .selects RX1 yX1_cardAt yX1_cardAt, .code yX1_cardAt cX1_cardAt 2 (some (.object "SpliceBench$Card")), .fieldLink RX1 34 "SpliceBench$Holding" "cards" "[LSpliceBench$Card;", .methodLink RX1 29 yX1_isRack, .instanceMethod yX1_isRack, .selects RX1 yX1_isRack yX1_isRack, .code yX1_isRack cX1_isRack 1 (some .boolean), .methodLink RX1 38 yX1_hasPlace, .instanceMethod yX1_hasPlace, .selects RX1 yX1_hasPlace yX1_hasPlace, .code yX1_hasPlace cX1_hasPlace 2 (some .boolean)] ++ wsX10)
def wsX2_init_r1 : List Cond := [Cond.methodLink RX2 1 objectInit, Cond.instanceMethod objectInit, Cond.code objectInit ⟨#[0xb1]⟩ 1 none, Cond.classLink RX2 9 RX1, Cond.fieldLink RX2 11 "SpliceBench" "spindles" "[LSpliceBench$Holding;", Cond.arrayClass .int, Cond.fieldLink RX2 15 "SpliceBench" "endings" "[I", Cond.fieldLink RX2 19 "SpliceBench" "come" "I", Cond.fieldLink RX2 23 "SpliceBench" "made" "I", Cond.fieldLink RX2 26 "SpliceBench" "cardsPut" "I", Cond.fieldLink RX2 29 "SpliceBench" "covered" "LSpliceBench$Holding;", Cond.instantiable RX1 5, Cond.initialized RX1, Cond.fieldLink RX2 36 "SpliceBench" "coveredStrip" "LSpliceBench$Holding;", Cond.fieldLink RX2 39 "SpliceBench" "coveredRack" "LSpliceBench$Holding;", Cond.methodLink RX2 33 yX1_init, Cond.instanceMethod yX1_init, Cond.code yX1_init cX1_init 4 none, Cond.methodLink RX1 3 objectInit, Cond.fieldLink RX1 9 "SpliceBench$Holding" "kind" "I", Cond.fieldLink RX1 15 "SpliceBench$Holding" "places" "I", Cond.fieldLink RX1 18 "SpliceBench$Holding" "label" "I", Cond.arrayClass .long, Cond.fieldLink RX1 25 "SpliceBench$Holding" "numbers" "[J"]
def wsX2_init_r2 : List Cond := [Cond.classLink RX1 32 RX0, Cond.fieldLink RX1 34 "SpliceBench$Holding" "cards" "[LSpliceBench$Card;", Cond.methodLink RX1 21 yX1_isStrip, Cond.instanceMethod yX1_isStrip, Cond.selects RX1 yX1_isStrip yX1_isStrip, Cond.code yX1_isStrip cX1_isStrip 1 (some .boolean), Cond.methodLink RX1 29 yX1_isRack, Cond.instanceMethod yX1_isRack, Cond.selects RX1 yX1_isRack yX1_isRack, Cond.code yX1_isRack cX1_isRack 1 (some .boolean)]
def wsX2_init : List Cond := .code yX2_init cX2_init 3 none :: ((wsX2_init_r1 ++ wsX2_init_r2) ++ wsX20 ++ wsX10)
def wsX2_isSpindle : List Cond := .code yX2_isSpindle cX2_isSpindle 1 (some .boolean) :: ([])
def wsX2_hold_r1 : List Cond := [Cond.fieldLink RX2 23 "SpliceBench" "made" "I", Cond.fieldLink RX2 11 "SpliceBench" "spindles" "[LSpliceBench$Holding;", Cond.classLink RX2 9 RX1, Cond.instantiable RX1 5, Cond.initialized RX1, Cond.methodLink RX2 42 yX2_isSpindle, Cond.static yX2_isSpindle, Cond.initialized RX2, Cond.code yX2_isSpindle cX2_isSpindle 1 (some .boolean), Cond.methodLink RX2 33 yX1_init, Cond.instanceMethod yX1_init, Cond.code yX1_init cX1_init 4 none, Cond.methodLink RX1 3 objectInit, Cond.instanceMethod objectInit, Cond.code objectInit ⟨#[0xb1]⟩ 1 none, Cond.fieldLink RX1 9 "SpliceBench$Holding" "kind" "I", Cond.fieldLink RX1 15 "SpliceBench$Holding" "places" "I", Cond.fieldLink RX1 18 "SpliceBench$Holding" "label" "I", Cond.arrayClass .long, Cond.fieldLink RX1 25 "SpliceBench$Holding" "numbers" "[J", Cond.classLink RX1 32 RX0, Cond.fieldLink RX1 34 "SpliceBench$Holding" "cards" "[LSpliceBench$Card;", Cond.methodLink RX1 21 yX1_isStrip, Cond.instanceMethod yX1_isStrip]
def wsX2_hold_r2 : List Cond := [Cond.selects RX1 yX1_isStrip yX1_isStrip, Cond.code yX1_isStrip cX1_isStrip 1 (some .boolean), Cond.methodLink RX1 29 yX1_isRack, Cond.instanceMethod yX1_isRack, Cond.selects RX1 yX1_isRack yX1_isRack, Cond.code yX1_isRack cX1_isRack 1 (some .boolean)]
def wsX2_hold : List Cond := .code yX2_hold cX2_hold 4 (some .int) :: ((wsX2_hold_r1 ++ wsX2_hold_r2) ++ wsX20 ++ wsX10)
def wsX2_thread : List Cond := .code yX2_thread cX2_thread 3 (some .int) :: ([.fieldLink RX2 11 "SpliceBench" "spindles" "[LSpliceBench$Holding;", .fieldLink RX2 46 "SpliceBench$Holding" "kind" "I", .methodLink RX2 42 yX2_isSpindle, .static yX2_isSpindle, .initialized RX2, .code yX2_isSpindle cX2_isSpindle 1 (some .boolean)] ++ wsX20 ++ wsX10)
def wsX2_putCard_r1 : List Cond := [Cond.fieldLink RX2 26 "SpliceBench" "cardsPut" "I", Cond.fieldLink RX2 67 "SpliceBench$Holding" "cards" "[LSpliceBench$Card;", Cond.classLink RX2 71 RX0, Cond.instantiable RX0 3, Cond.initialized RX0, Cond.methodLink RX2 60 yX1_hasPlace, Cond.instanceMethod yX1_hasPlace, Cond.selects RX1 yX1_hasPlace yX1_hasPlace, Cond.initialized RX1, Cond.code yX1_hasPlace cX1_hasPlace 2 (some .boolean), Cond.fieldLink RX1 15 "SpliceBench$Holding" "places" "I", Cond.methodLink RX2 73 yX0_init, Cond.instanceMethod yX0_init, Cond.code yX0_init cX0_init 3 none, Cond.methodLink RX0 1 objectInit, Cond.instanceMethod objectInit, Cond.code objectInit ⟨#[0xb1]⟩ 1 none, Cond.fieldLink RX0 7 "SpliceBench$Card" "shown" "I", Cond.fieldLink RX0 13 "SpliceBench$Card" "number" "J", Cond.fieldLink RX0 17 "SpliceBench$Card" "slide" "Z", Cond.methodLink RX2 76 yX1_admits, Cond.instanceMethod yX1_admits, Cond.selects RX1 yX1_admits yX1_admits, Cond.code yX1_admits cX1_admits 2 (some .boolean)]
def wsX2_putCard_r2 : List Cond := [Cond.fieldLink RX1 9 "SpliceBench$Holding" "kind" "I", Cond.fieldLink RX1 42 "SpliceBench$Card" "slide" "Z"]
def wsX2_putCard : List Cond := .code yX2_putCard cX2_putCard 6 (some .int) :: ((wsX2_putCard_r1 ++ wsX2_putCard_r2) ++ wsX20 ++ wsX10 ++ wsX00)
def wsX2_put_r1 : List Cond := [Cond.fieldLink RX2 11 "SpliceBench" "spindles" "[LSpliceBench$Holding;", Cond.fieldLink RX2 46 "SpliceBench$Holding" "kind" "I", Cond.fieldLink RX2 49 "SpliceBench$Holding" "label" "I", Cond.fieldLink RX2 63 "SpliceBench$Holding" "numbers" "[J", Cond.methodLink RX2 42 yX2_isSpindle, Cond.static yX2_isSpindle, Cond.initialized RX2, Cond.code yX2_isSpindle cX2_isSpindle 1 (some .boolean), Cond.methodLink RX2 52 yX1_isRack, Cond.instanceMethod yX1_isRack, Cond.selects RX1 yX1_isRack yX1_isRack, Cond.initialized RX1, Cond.code yX1_isRack cX1_isRack 1 (some .boolean), Cond.fieldLink RX1 9 "SpliceBench$Holding" "kind" "I", Cond.methodLink RX2 56 yX2_putCard, Cond.instanceMethod yX2_putCard, Cond.selects RX2 yX2_putCard yX2_putCard, Cond.code yX2_putCard cX2_putCard 6 (some .int), Cond.fieldLink RX2 26 "SpliceBench" "cardsPut" "I", Cond.fieldLink RX2 67 "SpliceBench$Holding" "cards" "[LSpliceBench$Card;", Cond.classLink RX2 71 RX0, Cond.instantiable RX0 3, Cond.initialized RX0, Cond.methodLink RX2 60 yX1_hasPlace]
def wsX2_put_r2 : List Cond := [Cond.instanceMethod yX1_hasPlace, Cond.selects RX1 yX1_hasPlace yX1_hasPlace, Cond.code yX1_hasPlace cX1_hasPlace 2 (some .boolean), Cond.fieldLink RX1 15 "SpliceBench$Holding" "places" "I", Cond.methodLink RX2 73 yX0_init, Cond.instanceMethod yX0_init, Cond.code yX0_init cX0_init 3 none, Cond.methodLink RX0 1 objectInit, Cond.instanceMethod objectInit, Cond.code objectInit ⟨#[0xb1]⟩ 1 none, Cond.fieldLink RX0 7 "SpliceBench$Card" "shown" "I", Cond.fieldLink RX0 13 "SpliceBench$Card" "number" "J", Cond.fieldLink RX0 17 "SpliceBench$Card" "slide" "Z", Cond.methodLink RX2 76 yX1_admits, Cond.instanceMethod yX1_admits, Cond.selects RX1 yX1_admits yX1_admits, Cond.code yX1_admits cX1_admits 2 (some .boolean), Cond.fieldLink RX1 42 "SpliceBench$Card" "slide" "Z"]
def wsX2_put : List Cond := .code yX2_put cX2_put 6 (some .int) :: ((wsX2_put_r1 ++ wsX2_put_r2) ++ wsX20 ++ wsX10 ++ wsX00)
def wsX2_motionFailure : List Cond := .code yX2_motionFailure cX2_motionFailure 5 (some .int) :: ([.fieldLink RX2 46 "SpliceBench$Holding" "kind" "I", .methodLink RX2 137 yX1_isLike, .instanceMethod yX1_isLike, .selects RX1 yX1_isLike yX1_isLike, .initialized RX1, .code yX1_isLike cX1_isLike 2 (some .boolean), .fieldLink RX1 9 "SpliceBench$Holding" "kind" "I", .methodLink RX1 29 yX1_isRack, .instanceMethod yX1_isRack, .selects RX1 yX1_isRack yX1_isRack, .code yX1_isRack cX1_isRack 1 (some .boolean), .methodLink RX1 21 yX1_isStrip, .instanceMethod yX1_isStrip, .selects RX1 yX1_isStrip yX1_isStrip, .code yX1_isStrip cX1_isStrip 1 (some .boolean), .methodLink RX2 141 yX1_hasPlaces, .instanceMethod yX1_hasPlaces, .selects RX1 yX1_hasPlaces yX1_hasPlaces, .code yX1_hasPlaces cX1_hasPlaces 3 (some .boolean), .fieldLink RX1 15 "SpliceBench$Holding" "places" "I"] ++ wsX10)
def wsX2_end : List Cond := .code yX2_end cX2_end 4 (some .int) :: ([.fieldLink RX2 15 "SpliceBench" "endings" "[I", .fieldLink RX2 19 "SpliceBench" "come" "I"] ++ wsX20)
def wsX2_rowBehind : List Cond := .code yX2_rowBehind cX2_rowBehind 2 (some (.object "SpliceBench$Holding")) :: ([.fieldLink RX2 39 "SpliceBench" "coveredRack" "LSpliceBench$Holding;", .fieldLink RX2 36 "SpliceBench" "coveredStrip" "LSpliceBench$Holding;", .methodLink RX2 52 yX1_isRack, .instanceMethod yX1_isRack, .selects RX1 yX1_isRack yX1_isRack, .initialized RX1, .code yX1_isRack cX1_isRack 1 (some .boolean), .fieldLink RX1 9 "SpliceBench$Holding" "kind" "I"] ++ wsX20 ++ wsX10)
def wsX2_cover_r1 : List Cond := [Cond.fieldLink RX2 104 "SpliceBench$Holding" "places" "I", Cond.fieldLink RX2 29 "SpliceBench" "covered" "LSpliceBench$Holding;", Cond.methodLink RX2 111 yX2_rowBehind, Cond.instanceMethod yX2_rowBehind, Cond.selects RX2 yX2_rowBehind yX2_rowBehind, Cond.initialized RX2, Cond.code yX2_rowBehind cX2_rowBehind 2 (some (.object "SpliceBench$Holding")), Cond.fieldLink RX2 39 "SpliceBench" "coveredRack" "LSpliceBench$Holding;", Cond.fieldLink RX2 36 "SpliceBench" "coveredStrip" "LSpliceBench$Holding;", Cond.methodLink RX2 52 yX1_isRack, Cond.instanceMethod yX1_isRack, Cond.selects RX1 yX1_isRack yX1_isRack, Cond.initialized RX1, Cond.code yX1_isRack cX1_isRack 1 (some .boolean), Cond.fieldLink RX1 9 "SpliceBench$Holding" "kind" "I", Cond.methodLink RX2 96 yX1_copyFrom, Cond.instanceMethod yX1_copyFrom, Cond.selects RX1 yX1_copyFrom yX1_copyFrom, Cond.code yX1_copyFrom cX1_copyFrom 5 none, Cond.fieldLink RX1 34 "SpliceBench$Holding" "cards" "[LSpliceBench$Card;", Cond.methodLink RX1 58 arraycopyName, Cond.native arraycopyName, Cond.static arraycopyName, Cond.initialized "java/lang/System"]
def wsX2_cover_r2 : List Cond := [Cond.fieldLink RX1 25 "SpliceBench$Holding" "numbers" "[J", Cond.methodLink RX1 54 yX1_hasPlaces, Cond.instanceMethod yX1_hasPlaces, Cond.selects RX1 yX1_hasPlaces yX1_hasPlaces, Cond.code yX1_hasPlaces cX1_hasPlaces 3 (some .boolean), Cond.fieldLink RX1 15 "SpliceBench$Holding" "places" "I", Cond.methodLink RX1 29 yX1_isRack, Cond.methodLink RX1 21 yX1_isStrip, Cond.instanceMethod yX1_isStrip, Cond.selects RX1 yX1_isStrip yX1_isStrip, Cond.code yX1_isStrip cX1_isStrip 1 (some .boolean)]
def wsX2_cover : List Cond := .code yX2_cover cX2_cover 2 none :: ((wsX2_cover_r1 ++ wsX2_cover_r2) ++ wsX10 ++ wsX20)
def wsX2_move_r1 : List Cond := [Cond.fieldLink RX2 11 "SpliceBench" "spindles" "[LSpliceBench$Holding;", Cond.methodLink RX2 42 yX2_isSpindle, Cond.static yX2_isSpindle, Cond.initialized RX2, Cond.code yX2_isSpindle cX2_isSpindle 1 (some .boolean), Cond.methodLink RX2 80 yX2_motionFailure, Cond.static yX2_motionFailure, Cond.code yX2_motionFailure cX2_motionFailure 5 (some .int), Cond.fieldLink RX2 46 "SpliceBench$Holding" "kind" "I", Cond.methodLink RX2 137 yX1_isLike, Cond.instanceMethod yX1_isLike, Cond.selects RX1 yX1_isLike yX1_isLike, Cond.initialized RX1, Cond.code yX1_isLike cX1_isLike 2 (some .boolean), Cond.fieldLink RX1 9 "SpliceBench$Holding" "kind" "I", Cond.methodLink RX1 29 yX1_isRack, Cond.instanceMethod yX1_isRack, Cond.selects RX1 yX1_isRack yX1_isRack, Cond.code yX1_isRack cX1_isRack 1 (some .boolean), Cond.methodLink RX1 21 yX1_isStrip, Cond.instanceMethod yX1_isStrip, Cond.selects RX1 yX1_isStrip yX1_isStrip, Cond.code yX1_isStrip cX1_isStrip 1 (some .boolean), Cond.methodLink RX2 141 yX1_hasPlaces]
def wsX2_move_r2 : List Cond := [Cond.instanceMethod yX1_hasPlaces, Cond.selects RX1 yX1_hasPlaces yX1_hasPlaces, Cond.code yX1_hasPlaces cX1_hasPlaces 3 (some .boolean), Cond.fieldLink RX1 15 "SpliceBench$Holding" "places" "I", Cond.methodLink RX2 84 yX2_end, Cond.instanceMethod yX2_end, Cond.selects RX2 yX2_end yX2_end, Cond.code yX2_end cX2_end 4 (some .int), Cond.fieldLink RX2 15 "SpliceBench" "endings" "[I", Cond.fieldLink RX2 19 "SpliceBench" "come" "I", Cond.methodLink RX2 88 yX1_countAdmitted, Cond.instanceMethod yX1_countAdmitted, Cond.selects RX1 yX1_countAdmitted yX1_countAdmitted, Cond.code yX1_countAdmitted cX1_countAdmitted 5 (some .int), Cond.methodLink RX1 46 yX1_cardAt, Cond.instanceMethod yX1_cardAt, Cond.selects RX1 yX1_cardAt yX1_cardAt, Cond.code yX1_cardAt cX1_cardAt 2 (some (.object "SpliceBench$Card")), Cond.fieldLink RX1 34 "SpliceBench$Holding" "cards" "[LSpliceBench$Card;", Cond.methodLink RX1 38 yX1_hasPlace, Cond.instanceMethod yX1_hasPlace, Cond.selects RX1 yX1_hasPlace yX1_hasPlace, Cond.code yX1_hasPlace cX1_hasPlace 2 (some .boolean), Cond.methodLink RX1 50 yX1_admits]
def wsX2_move_r3 : List Cond := [Cond.instanceMethod yX1_admits, Cond.selects RX1 yX1_admits yX1_admits, Cond.code yX1_admits cX1_admits 2 (some .boolean), Cond.fieldLink RX1 42 "SpliceBench$Card" "slide" "Z", Cond.methodLink RX2 92 yX2_cover, Cond.instanceMethod yX2_cover, Cond.selects RX2 yX2_cover yX2_cover, Cond.code yX2_cover cX2_cover 2 none, Cond.fieldLink RX2 104 "SpliceBench$Holding" "places" "I", Cond.fieldLink RX2 29 "SpliceBench" "covered" "LSpliceBench$Holding;", Cond.methodLink RX2 111 yX2_rowBehind, Cond.instanceMethod yX2_rowBehind, Cond.selects RX2 yX2_rowBehind yX2_rowBehind, Cond.code yX2_rowBehind cX2_rowBehind 2 (some (.object "SpliceBench$Holding")), Cond.fieldLink RX2 39 "SpliceBench" "coveredRack" "LSpliceBench$Holding;", Cond.fieldLink RX2 36 "SpliceBench" "coveredStrip" "LSpliceBench$Holding;", Cond.methodLink RX2 52 yX1_isRack, Cond.methodLink RX2 96 yX1_copyFrom, Cond.instanceMethod yX1_copyFrom, Cond.selects RX1 yX1_copyFrom yX1_copyFrom, Cond.code yX1_copyFrom cX1_copyFrom 5 none, Cond.methodLink RX1 58 arraycopyName, Cond.native arraycopyName, Cond.static arraycopyName]
def wsX2_move_r4 : List Cond := [Cond.initialized "java/lang/System", Cond.fieldLink RX1 25 "SpliceBench$Holding" "numbers" "[J", Cond.methodLink RX1 54 yX1_hasPlaces]
def wsX2_move : List Cond := .code yX2_move cX2_move 10 (some .int) :: ((wsX2_move_r1 ++ (wsX2_move_r2 ++ (wsX2_move_r3 ++ wsX2_move_r4))) ++ wsX20 ++ wsX10 ++ wsX00)
def wsX2_shift_r1 : List Cond := [Cond.fieldLink RX2 11 "SpliceBench" "spindles" "[LSpliceBench$Holding;", Cond.fieldLink RX2 104 "SpliceBench$Holding" "places" "I", Cond.methodLink RX2 42 yX2_isSpindle, Cond.static yX2_isSpindle, Cond.initialized RX2, Cond.code yX2_isSpindle cX2_isSpindle 1 (some .boolean), Cond.methodLink RX2 80 yX2_motionFailure, Cond.static yX2_motionFailure, Cond.code yX2_motionFailure cX2_motionFailure 5 (some .int), Cond.fieldLink RX2 46 "SpliceBench$Holding" "kind" "I", Cond.methodLink RX2 137 yX1_isLike, Cond.instanceMethod yX1_isLike, Cond.selects RX1 yX1_isLike yX1_isLike, Cond.initialized RX1, Cond.code yX1_isLike cX1_isLike 2 (some .boolean), Cond.fieldLink RX1 9 "SpliceBench$Holding" "kind" "I", Cond.methodLink RX1 29 yX1_isRack, Cond.instanceMethod yX1_isRack, Cond.selects RX1 yX1_isRack yX1_isRack, Cond.code yX1_isRack cX1_isRack 1 (some .boolean), Cond.methodLink RX1 21 yX1_isStrip, Cond.instanceMethod yX1_isStrip, Cond.selects RX1 yX1_isStrip yX1_isStrip, Cond.code yX1_isStrip cX1_isStrip 1 (some .boolean)]
def wsX2_shift_r2 : List Cond := [Cond.methodLink RX2 141 yX1_hasPlaces, Cond.instanceMethod yX1_hasPlaces, Cond.selects RX1 yX1_hasPlaces yX1_hasPlaces, Cond.code yX1_hasPlaces cX1_hasPlaces 3 (some .boolean), Cond.fieldLink RX1 15 "SpliceBench$Holding" "places" "I", Cond.methodLink RX2 84 yX2_end, Cond.instanceMethod yX2_end, Cond.selects RX2 yX2_end yX2_end, Cond.code yX2_end cX2_end 4 (some .int), Cond.fieldLink RX2 15 "SpliceBench" "endings" "[I", Cond.fieldLink RX2 19 "SpliceBench" "come" "I", Cond.methodLink RX2 92 yX2_cover, Cond.instanceMethod yX2_cover, Cond.selects RX2 yX2_cover yX2_cover, Cond.code yX2_cover cX2_cover 2 none, Cond.fieldLink RX2 29 "SpliceBench" "covered" "LSpliceBench$Holding;", Cond.methodLink RX2 111 yX2_rowBehind, Cond.instanceMethod yX2_rowBehind, Cond.selects RX2 yX2_rowBehind yX2_rowBehind, Cond.code yX2_rowBehind cX2_rowBehind 2 (some (.object "SpliceBench$Holding")), Cond.fieldLink RX2 39 "SpliceBench" "coveredRack" "LSpliceBench$Holding;", Cond.fieldLink RX2 36 "SpliceBench" "coveredStrip" "LSpliceBench$Holding;", Cond.methodLink RX2 52 yX1_isRack, Cond.methodLink RX2 96 yX1_copyFrom]
def wsX2_shift_r3 : List Cond := [Cond.instanceMethod yX1_copyFrom, Cond.selects RX1 yX1_copyFrom yX1_copyFrom, Cond.code yX1_copyFrom cX1_copyFrom 5 none, Cond.fieldLink RX1 34 "SpliceBench$Holding" "cards" "[LSpliceBench$Card;", Cond.methodLink RX1 58 arraycopyName, Cond.native arraycopyName, Cond.static arraycopyName, Cond.initialized "java/lang/System", Cond.fieldLink RX1 25 "SpliceBench$Holding" "numbers" "[J", Cond.methodLink RX1 54 yX1_hasPlaces, Cond.methodLink RX2 107 yX1_makeBlank, Cond.instanceMethod yX1_makeBlank, Cond.selects RX1 yX1_makeBlank yX1_makeBlank, Cond.code yX1_makeBlank cX1_makeBlank 4 none]
def wsX2_shift : List Cond := .code yX2_shift cX2_shift 8 (some .int) :: ((wsX2_shift_r1 ++ (wsX2_shift_r2 ++ wsX2_shift_r3)) ++ wsX20 ++ wsX10)
def wsX2_open_r1 : List Cond := [Cond.methodLink RX2 100 yX2_shift, Cond.instanceMethod yX2_shift, Cond.selects RX2 yX2_shift yX2_shift, Cond.initialized RX2, Cond.code yX2_shift cX2_shift 8 (some .int), Cond.fieldLink RX2 11 "SpliceBench" "spindles" "[LSpliceBench$Holding;", Cond.fieldLink RX2 104 "SpliceBench$Holding" "places" "I", Cond.methodLink RX2 42 yX2_isSpindle, Cond.static yX2_isSpindle, Cond.code yX2_isSpindle cX2_isSpindle 1 (some .boolean), Cond.methodLink RX2 80 yX2_motionFailure, Cond.static yX2_motionFailure, Cond.code yX2_motionFailure cX2_motionFailure 5 (some .int), Cond.fieldLink RX2 46 "SpliceBench$Holding" "kind" "I", Cond.methodLink RX2 137 yX1_isLike, Cond.instanceMethod yX1_isLike, Cond.selects RX1 yX1_isLike yX1_isLike, Cond.initialized RX1, Cond.code yX1_isLike cX1_isLike 2 (some .boolean), Cond.fieldLink RX1 9 "SpliceBench$Holding" "kind" "I", Cond.methodLink RX1 29 yX1_isRack, Cond.instanceMethod yX1_isRack, Cond.selects RX1 yX1_isRack yX1_isRack, Cond.code yX1_isRack cX1_isRack 1 (some .boolean)]
def wsX2_open_r2 : List Cond := [Cond.methodLink RX1 21 yX1_isStrip, Cond.instanceMethod yX1_isStrip, Cond.selects RX1 yX1_isStrip yX1_isStrip, Cond.code yX1_isStrip cX1_isStrip 1 (some .boolean), Cond.methodLink RX2 141 yX1_hasPlaces, Cond.instanceMethod yX1_hasPlaces, Cond.selects RX1 yX1_hasPlaces yX1_hasPlaces, Cond.code yX1_hasPlaces cX1_hasPlaces 3 (some .boolean), Cond.fieldLink RX1 15 "SpliceBench$Holding" "places" "I", Cond.methodLink RX2 84 yX2_end, Cond.instanceMethod yX2_end, Cond.selects RX2 yX2_end yX2_end, Cond.code yX2_end cX2_end 4 (some .int), Cond.fieldLink RX2 15 "SpliceBench" "endings" "[I", Cond.fieldLink RX2 19 "SpliceBench" "come" "I", Cond.methodLink RX2 92 yX2_cover, Cond.instanceMethod yX2_cover, Cond.selects RX2 yX2_cover yX2_cover, Cond.code yX2_cover cX2_cover 2 none, Cond.fieldLink RX2 29 "SpliceBench" "covered" "LSpliceBench$Holding;", Cond.methodLink RX2 111 yX2_rowBehind, Cond.instanceMethod yX2_rowBehind, Cond.selects RX2 yX2_rowBehind yX2_rowBehind, Cond.code yX2_rowBehind cX2_rowBehind 2 (some (.object "SpliceBench$Holding"))]
def wsX2_open_r3 : List Cond := [Cond.fieldLink RX2 39 "SpliceBench" "coveredRack" "LSpliceBench$Holding;", Cond.fieldLink RX2 36 "SpliceBench" "coveredStrip" "LSpliceBench$Holding;", Cond.methodLink RX2 52 yX1_isRack, Cond.methodLink RX2 96 yX1_copyFrom, Cond.instanceMethod yX1_copyFrom, Cond.selects RX1 yX1_copyFrom yX1_copyFrom, Cond.code yX1_copyFrom cX1_copyFrom 5 none, Cond.fieldLink RX1 34 "SpliceBench$Holding" "cards" "[LSpliceBench$Card;", Cond.methodLink RX1 58 arraycopyName, Cond.native arraycopyName, Cond.static arraycopyName, Cond.initialized "java/lang/System", Cond.fieldLink RX1 25 "SpliceBench$Holding" "numbers" "[J", Cond.methodLink RX1 54 yX1_hasPlaces, Cond.methodLink RX2 107 yX1_makeBlank, Cond.instanceMethod yX1_makeBlank, Cond.selects RX1 yX1_makeBlank yX1_makeBlank, Cond.code yX1_makeBlank cX1_makeBlank 4 none]
def wsX2_open : List Cond := .code yX2_open cX2_open 4 (some .int) :: ((wsX2_open_r1 ++ (wsX2_open_r2 ++ wsX2_open_r3)) ++ wsX20 ++ wsX10)
def wsX2_close_r1 : List Cond := [Cond.methodLink RX2 100 yX2_shift, Cond.instanceMethod yX2_shift, Cond.selects RX2 yX2_shift yX2_shift, Cond.initialized RX2, Cond.code yX2_shift cX2_shift 8 (some .int), Cond.fieldLink RX2 11 "SpliceBench" "spindles" "[LSpliceBench$Holding;", Cond.fieldLink RX2 104 "SpliceBench$Holding" "places" "I", Cond.methodLink RX2 42 yX2_isSpindle, Cond.static yX2_isSpindle, Cond.code yX2_isSpindle cX2_isSpindle 1 (some .boolean), Cond.methodLink RX2 80 yX2_motionFailure, Cond.static yX2_motionFailure, Cond.code yX2_motionFailure cX2_motionFailure 5 (some .int), Cond.fieldLink RX2 46 "SpliceBench$Holding" "kind" "I", Cond.methodLink RX2 137 yX1_isLike, Cond.instanceMethod yX1_isLike, Cond.selects RX1 yX1_isLike yX1_isLike, Cond.initialized RX1, Cond.code yX1_isLike cX1_isLike 2 (some .boolean), Cond.fieldLink RX1 9 "SpliceBench$Holding" "kind" "I", Cond.methodLink RX1 29 yX1_isRack, Cond.instanceMethod yX1_isRack, Cond.selects RX1 yX1_isRack yX1_isRack, Cond.code yX1_isRack cX1_isRack 1 (some .boolean)]
def wsX2_close_r2 : List Cond := [Cond.methodLink RX1 21 yX1_isStrip, Cond.instanceMethod yX1_isStrip, Cond.selects RX1 yX1_isStrip yX1_isStrip, Cond.code yX1_isStrip cX1_isStrip 1 (some .boolean), Cond.methodLink RX2 141 yX1_hasPlaces, Cond.instanceMethod yX1_hasPlaces, Cond.selects RX1 yX1_hasPlaces yX1_hasPlaces, Cond.code yX1_hasPlaces cX1_hasPlaces 3 (some .boolean), Cond.fieldLink RX1 15 "SpliceBench$Holding" "places" "I", Cond.methodLink RX2 84 yX2_end, Cond.instanceMethod yX2_end, Cond.selects RX2 yX2_end yX2_end, Cond.code yX2_end cX2_end 4 (some .int), Cond.fieldLink RX2 15 "SpliceBench" "endings" "[I", Cond.fieldLink RX2 19 "SpliceBench" "come" "I", Cond.methodLink RX2 92 yX2_cover, Cond.instanceMethod yX2_cover, Cond.selects RX2 yX2_cover yX2_cover, Cond.code yX2_cover cX2_cover 2 none, Cond.fieldLink RX2 29 "SpliceBench" "covered" "LSpliceBench$Holding;", Cond.methodLink RX2 111 yX2_rowBehind, Cond.instanceMethod yX2_rowBehind, Cond.selects RX2 yX2_rowBehind yX2_rowBehind, Cond.code yX2_rowBehind cX2_rowBehind 2 (some (.object "SpliceBench$Holding"))]
def wsX2_close_r3 : List Cond := [Cond.fieldLink RX2 39 "SpliceBench" "coveredRack" "LSpliceBench$Holding;", Cond.fieldLink RX2 36 "SpliceBench" "coveredStrip" "LSpliceBench$Holding;", Cond.methodLink RX2 52 yX1_isRack, Cond.methodLink RX2 96 yX1_copyFrom, Cond.instanceMethod yX1_copyFrom, Cond.selects RX1 yX1_copyFrom yX1_copyFrom, Cond.code yX1_copyFrom cX1_copyFrom 5 none, Cond.fieldLink RX1 34 "SpliceBench$Holding" "cards" "[LSpliceBench$Card;", Cond.methodLink RX1 58 arraycopyName, Cond.native arraycopyName, Cond.static arraycopyName, Cond.initialized "java/lang/System", Cond.fieldLink RX1 25 "SpliceBench$Holding" "numbers" "[J", Cond.methodLink RX1 54 yX1_hasPlaces, Cond.methodLink RX2 107 yX1_makeBlank, Cond.instanceMethod yX1_makeBlank, Cond.selects RX1 yX1_makeBlank yX1_makeBlank, Cond.code yX1_makeBlank cX1_makeBlank 4 none]
def wsX2_close : List Cond := .code yX2_close cX2_close 4 (some .int) :: ((wsX2_close_r1 ++ (wsX2_close_r2 ++ wsX2_close_r3)) ++ wsX20 ++ wsX10)
def wsX2_back_r1 : List Cond := [Cond.fieldLink RX2 29 "SpliceBench" "covered" "LSpliceBench$Holding;", Cond.fieldLink RX2 104 "SpliceBench$Holding" "places" "I", Cond.methodLink RX2 111 yX2_rowBehind, Cond.instanceMethod yX2_rowBehind, Cond.selects RX2 yX2_rowBehind yX2_rowBehind, Cond.initialized RX2, Cond.code yX2_rowBehind cX2_rowBehind 2 (some (.object "SpliceBench$Holding")), Cond.fieldLink RX2 39 "SpliceBench" "coveredRack" "LSpliceBench$Holding;", Cond.fieldLink RX2 36 "SpliceBench" "coveredStrip" "LSpliceBench$Holding;", Cond.methodLink RX2 52 yX1_isRack, Cond.instanceMethod yX1_isRack, Cond.selects RX1 yX1_isRack yX1_isRack, Cond.initialized RX1, Cond.code yX1_isRack cX1_isRack 1 (some .boolean), Cond.fieldLink RX1 9 "SpliceBench$Holding" "kind" "I", Cond.methodLink RX2 96 yX1_copyFrom, Cond.instanceMethod yX1_copyFrom, Cond.selects RX1 yX1_copyFrom yX1_copyFrom, Cond.code yX1_copyFrom cX1_copyFrom 5 none, Cond.fieldLink RX1 34 "SpliceBench$Holding" "cards" "[LSpliceBench$Card;", Cond.methodLink RX1 58 arraycopyName, Cond.native arraycopyName, Cond.static arraycopyName, Cond.initialized "java/lang/System"]
def wsX2_back_r2 : List Cond := [Cond.fieldLink RX1 25 "SpliceBench$Holding" "numbers" "[J", Cond.methodLink RX1 54 yX1_hasPlaces, Cond.instanceMethod yX1_hasPlaces, Cond.selects RX1 yX1_hasPlaces yX1_hasPlaces, Cond.code yX1_hasPlaces cX1_hasPlaces 3 (some .boolean), Cond.fieldLink RX1 15 "SpliceBench$Holding" "places" "I", Cond.methodLink RX1 29 yX1_isRack, Cond.methodLink RX1 21 yX1_isStrip, Cond.instanceMethod yX1_isStrip, Cond.selects RX1 yX1_isStrip yX1_isStrip, Cond.code yX1_isStrip cX1_isStrip 1 (some .boolean)]
def wsX2_back : List Cond := .code yX2_back cX2_back 1 (some .int) :: ((wsX2_back_r1 ++ wsX2_back_r2) ++ wsX20 ++ wsX10)
def wsX2_count : List Cond := .code yX2_count cX2_count 2 (some .int) :: ([.fieldLink RX2 19 "SpliceBench" "come" "I", .fieldLink RX2 15 "SpliceBench" "endings" "[I", .fieldLink RX2 23 "SpliceBench" "made" "I", .fieldLink RX2 26 "SpliceBench" "cardsPut" "I", .fieldLink RX2 29 "SpliceBench" "covered" "LSpliceBench$Holding;"] ++ wsX20)
def wsX2_held_r1 : List Cond := [Cond.fieldLink RX2 11 "SpliceBench" "spindles" "[LSpliceBench$Holding;", Cond.fieldLink RX2 46 "SpliceBench$Holding" "kind" "I", Cond.fieldLink RX2 104 "SpliceBench$Holding" "places" "I", Cond.methodLink RX2 42 yX2_isSpindle, Cond.static yX2_isSpindle, Cond.initialized RX2, Cond.code yX2_isSpindle cX2_isSpindle 1 (some .boolean), Cond.methodLink RX2 115 yX1_countFilled, Cond.instanceMethod yX1_countFilled, Cond.selects RX1 yX1_countFilled yX1_countFilled, Cond.initialized RX1, Cond.code yX1_countFilled cX1_countFilled 3 (some .int), Cond.fieldLink RX1 15 "SpliceBench$Holding" "places" "I", Cond.fieldLink RX1 25 "SpliceBench$Holding" "numbers" "[J", Cond.methodLink RX1 21 yX1_isStrip, Cond.instanceMethod yX1_isStrip, Cond.selects RX1 yX1_isStrip yX1_isStrip, Cond.code yX1_isStrip cX1_isStrip 1 (some .boolean), Cond.fieldLink RX1 9 "SpliceBench$Holding" "kind" "I", Cond.methodLink RX1 46 yX1_cardAt, Cond.instanceMethod yX1_cardAt, Cond.selects RX1 yX1_cardAt yX1_cardAt, Cond.code yX1_cardAt cX1_cardAt 2 (some (.object "SpliceBench$Card")), Cond.fieldLink RX1 34 "SpliceBench$Holding" "cards" "[LSpliceBench$Card;"]
def wsX2_held_r2 : List Cond := [Cond.methodLink RX1 29 yX1_isRack, Cond.instanceMethod yX1_isRack, Cond.selects RX1 yX1_isRack yX1_isRack, Cond.code yX1_isRack cX1_isRack 1 (some .boolean), Cond.methodLink RX1 38 yX1_hasPlace, Cond.instanceMethod yX1_hasPlace, Cond.selects RX1 yX1_hasPlace yX1_hasPlace, Cond.code yX1_hasPlace cX1_hasPlace 2 (some .boolean)]
def wsX2_held : List Cond := .code yX2_held cX2_held 4 (some .int) :: ((wsX2_held_r1 ++ wsX2_held_r2) ++ wsX20 ++ wsX10)
def wsX2_sort_r1 : List Cond := [Cond.fieldLink RX2 11 "SpliceBench" "spindles" "[LSpliceBench$Holding;", Cond.fieldLink RX2 126 "SpliceBench$Card" "slide" "Z", Cond.methodLink RX2 42 yX2_isSpindle, Cond.static yX2_isSpindle, Cond.initialized RX2, Cond.code yX2_isSpindle cX2_isSpindle 1 (some .boolean), Cond.methodLink RX2 60 yX1_hasPlace, Cond.instanceMethod yX1_hasPlace, Cond.selects RX1 yX1_hasPlace yX1_hasPlace, Cond.initialized RX1, Cond.code yX1_hasPlace cX1_hasPlace 2 (some .boolean), Cond.fieldLink RX1 15 "SpliceBench$Holding" "places" "I", Cond.methodLink RX2 119 yX1_isStrip, Cond.instanceMethod yX1_isStrip, Cond.selects RX1 yX1_isStrip yX1_isStrip, Cond.code yX1_isStrip cX1_isStrip 1 (some .boolean), Cond.fieldLink RX1 9 "SpliceBench$Holding" "kind" "I", Cond.methodLink RX2 122 yX1_cardAt, Cond.instanceMethod yX1_cardAt, Cond.selects RX1 yX1_cardAt yX1_cardAt, Cond.code yX1_cardAt cX1_cardAt 2 (some (.object "SpliceBench$Card")), Cond.fieldLink RX1 34 "SpliceBench$Holding" "cards" "[LSpliceBench$Card;", Cond.methodLink RX1 29 yX1_isRack, Cond.instanceMethod yX1_isRack]
def wsX2_sort_r2 : List Cond := [Cond.selects RX1 yX1_isRack yX1_isRack, Cond.code yX1_isRack cX1_isRack 1 (some .boolean), Cond.methodLink RX1 38 yX1_hasPlace]
def wsX2_sort : List Cond := .code yX2_sort cX2_sort 5 (some .int) :: ((wsX2_sort_r1 ++ wsX2_sort_r2) ++ wsX20 ++ wsX00 ++ wsX10)
def wsX2_number_r1 : List Cond := [Cond.fieldLink RX2 11 "SpliceBench" "spindles" "[LSpliceBench$Holding;", Cond.fieldLink RX2 46 "SpliceBench$Holding" "kind" "I", Cond.fieldLink RX2 49 "SpliceBench$Holding" "label" "I", Cond.fieldLink RX2 63 "SpliceBench$Holding" "numbers" "[J", Cond.fieldLink RX2 130 "SpliceBench$Card" "number" "J", Cond.methodLink RX2 42 yX2_isSpindle, Cond.static yX2_isSpindle, Cond.initialized RX2, Cond.code yX2_isSpindle cX2_isSpindle 1 (some .boolean), Cond.methodLink RX2 119 yX1_isStrip, Cond.instanceMethod yX1_isStrip, Cond.selects RX1 yX1_isStrip yX1_isStrip, Cond.initialized RX1, Cond.code yX1_isStrip cX1_isStrip 1 (some .boolean), Cond.fieldLink RX1 9 "SpliceBench$Holding" "kind" "I", Cond.methodLink RX2 60 yX1_hasPlace, Cond.instanceMethod yX1_hasPlace, Cond.selects RX1 yX1_hasPlace yX1_hasPlace, Cond.code yX1_hasPlace cX1_hasPlace 2 (some .boolean), Cond.fieldLink RX1 15 "SpliceBench$Holding" "places" "I", Cond.methodLink RX2 122 yX1_cardAt, Cond.instanceMethod yX1_cardAt, Cond.selects RX1 yX1_cardAt yX1_cardAt, Cond.code yX1_cardAt cX1_cardAt 2 (some (.object "SpliceBench$Card"))]
def wsX2_number_r2 : List Cond := [Cond.fieldLink RX1 34 "SpliceBench$Holding" "cards" "[LSpliceBench$Card;", Cond.methodLink RX1 29 yX1_isRack, Cond.instanceMethod yX1_isRack, Cond.selects RX1 yX1_isRack yX1_isRack, Cond.code yX1_isRack cX1_isRack 1 (some .boolean), Cond.methodLink RX1 38 yX1_hasPlace]
def wsX2_number : List Cond := .code yX2_number cX2_number 5 (some .long) :: ((wsX2_number_r1 ++ wsX2_number_r2) ++ wsX20 ++ wsX10 ++ wsX00)
def wsX2_show : List Cond := .code yX2_show cX2_show 6 (some .int) :: ([.fieldLink RX2 11 "SpliceBench" "spindles" "[LSpliceBench$Holding;", .fieldLink RX2 104 "SpliceBench$Holding" "places" "I", .fieldLink RX2 134 "SpliceBench$Card" "shown" "I", .methodLink RX2 42 yX2_isSpindle, .static yX2_isSpindle, .initialized RX2, .code yX2_isSpindle cX2_isSpindle 1 (some .boolean), .methodLink RX2 52 yX1_isRack, .instanceMethod yX1_isRack, .selects RX1 yX1_isRack yX1_isRack, .initialized RX1, .code yX1_isRack cX1_isRack 1 (some .boolean), .fieldLink RX1 9 "SpliceBench$Holding" "kind" "I", .methodLink RX2 122 yX1_cardAt, .instanceMethod yX1_cardAt, .selects RX1 yX1_cardAt yX1_cardAt, .code yX1_cardAt cX1_cardAt 2 (some (.object "SpliceBench$Card")), .fieldLink RX1 34 "SpliceBench$Holding" "cards" "[LSpliceBench$Card;", .methodLink RX1 29 yX1_isRack, .methodLink RX1 38 yX1_hasPlace, .instanceMethod yX1_hasPlace, .selects RX1 yX1_hasPlace yX1_hasPlace, .code yX1_hasPlace cX1_hasPlace 2 (some .boolean), .fieldLink RX1 15 "SpliceBench$Holding" "places" "I"] ++ wsX20 ++ wsX10 ++ wsX00)
def wsX2_shown : List Cond := .code yX2_shown cX2_shown 4 (some .int) :: ([.fieldLink RX2 11 "SpliceBench" "spindles" "[LSpliceBench$Holding;", .fieldLink RX2 134 "SpliceBench$Card" "shown" "I", .methodLink RX2 42 yX2_isSpindle, .static yX2_isSpindle, .initialized RX2, .code yX2_isSpindle cX2_isSpindle 1 (some .boolean), .methodLink RX2 122 yX1_cardAt, .instanceMethod yX1_cardAt, .selects RX1 yX1_cardAt yX1_cardAt, .initialized RX1, .code yX1_cardAt cX1_cardAt 2 (some (.object "SpliceBench$Card")), .fieldLink RX1 34 "SpliceBench$Holding" "cards" "[LSpliceBench$Card;", .methodLink RX1 29 yX1_isRack, .instanceMethod yX1_isRack, .selects RX1 yX1_isRack yX1_isRack, .code yX1_isRack cX1_isRack 1 (some .boolean), .fieldLink RX1 9 "SpliceBench$Holding" "kind" "I", .methodLink RX1 38 yX1_hasPlace, .instanceMethod yX1_hasPlace, .selects RX1 yX1_hasPlace yX1_hasPlace, .code yX1_hasPlace cX1_hasPlace 2 (some .boolean), .fieldLink RX1 15 "SpliceBench$Holding" "places" "I"] ++ wsX20 ++ wsX00 ++ wsX10)
def wsX2_same : List Cond := .code yX2_same cX2_same 8 (some .int) :: ([.fieldLink RX2 11 "SpliceBench" "spindles" "[LSpliceBench$Holding;", .fieldLink RX2 46 "SpliceBench$Holding" "kind" "I", .methodLink RX2 42 yX2_isSpindle, .static yX2_isSpindle, .initialized RX2, .code yX2_isSpindle cX2_isSpindle 1 (some .boolean), .methodLink RX2 122 yX1_cardAt, .instanceMethod yX1_cardAt, .selects RX1 yX1_cardAt yX1_cardAt, .initialized RX1, .code yX1_cardAt cX1_cardAt 2 (some (.object "SpliceBench$Card")), .fieldLink RX1 34 "SpliceBench$Holding" "cards" "[LSpliceBench$Card;", .methodLink RX1 29 yX1_isRack, .instanceMethod yX1_isRack, .selects RX1 yX1_isRack yX1_isRack, .code yX1_isRack cX1_isRack 1 (some .boolean), .fieldLink RX1 9 "SpliceBench$Holding" "kind" "I", .methodLink RX1 38 yX1_hasPlace, .instanceMethod yX1_hasPlace, .selects RX1 yX1_hasPlace yX1_hasPlace, .code yX1_hasPlace cX1_hasPlace 2 (some .boolean), .fieldLink RX1 15 "SpliceBench$Holding" "places" "I"] ++ wsX20 ++ wsX10)
def wsX3_init : List Cond := .code yX3_init cX3_init 1 none :: ([.methodLink RX3 1 objectInit, .instanceMethod objectInit, .code objectInit ⟨#[0xb1]⟩ 1 none, .arrayClass .int, .fieldLink RX3 7 "SpliceBenchModel" "holds" "[I", .fieldLink RX3 13 "SpliceBenchModel" "labels" "[I", .fieldLink RX3 16 "SpliceBenchModel" "kind" "[I", .fieldLink RX3 19 "SpliceBenchModel" "size" "[I", .arrayClass .long, .fieldLink RX3 22 "SpliceBenchModel" "places" "[J", .fieldLink RX3 26 "SpliceBenchModel" "was" "[J", .fieldLink RX3 29 "SpliceBenchModel" "cardNumber" "[J", .fieldLink RX3 32 "SpliceBenchModel" "cardShown" "[I", .fieldLink RX3 35 "SpliceBenchModel" "failed" "[I", .fieldLink RX3 38 "SpliceBenchModel" "covered" "I"] ++ wsX30)
def wsX3_isSpindle : List Cond := .code yX3_isSpindle cX3_isSpindle 1 (some .boolean) :: ([])
def wsX3_kindOf : List Cond := .code yX3_kindOf cX3_kindOf 2 (some .int) :: ([.fieldLink RX3 7 "SpliceBenchModel" "holds" "[I", .fieldLink RX3 16 "SpliceBenchModel" "kind" "[I"] ++ wsX30)
def wsX3_hasPlaces : List Cond := .code yX3_hasPlaces cX3_hasPlaces 2 (some .boolean) :: ([.fieldLink RX3 7 "SpliceBenchModel" "holds" "[I"] ++ wsX30)
def wsX3_sizeOf : List Cond := .code yX3_sizeOf cX3_sizeOf 2 (some .int) :: ([.fieldLink RX3 19 "SpliceBenchModel" "size" "[I", .fieldLink RX3 7 "SpliceBenchModel" "holds" "[I", .methodLink RX3 42 yX3_hasPlaces, .instanceMethod yX3_hasPlaces, .selects RX3 yX3_hasPlaces yX3_hasPlaces, .initialized RX3, .code yX3_hasPlaces cX3_hasPlaces 2 (some .boolean)] ++ wsX30)
def wsX3_isRack : List Cond := .code yX3_isRack cX3_isRack 2 (some .boolean) :: ([.methodLink RX3 46 yX3_kindOf, .instanceMethod yX3_kindOf, .selects RX3 yX3_kindOf yX3_kindOf, .initialized RX3, .code yX3_kindOf cX3_kindOf 2 (some .int), .fieldLink RX3 7 "SpliceBenchModel" "holds" "[I", .fieldLink RX3 16 "SpliceBenchModel" "kind" "[I"] ++ wsX30)
def wsX3_isPlace : List Cond := .code yX3_isPlace cX3_isPlace 3 (some .boolean) :: ([.methodLink RX3 50 yX3_sizeOf, .instanceMethod yX3_sizeOf, .selects RX3 yX3_sizeOf yX3_sizeOf, .initialized RX3, .code yX3_sizeOf cX3_sizeOf 2 (some .int), .fieldLink RX3 19 "SpliceBenchModel" "size" "[I", .fieldLink RX3 7 "SpliceBenchModel" "holds" "[I", .methodLink RX3 42 yX3_hasPlaces, .instanceMethod yX3_hasPlaces, .selects RX3 yX3_hasPlaces yX3_hasPlaces, .code yX3_hasPlaces cX3_hasPlaces 2 (some .boolean)] ++ wsX30)
def wsX3_place : List Cond := .code yX3_place cX3_place 3 (some .long) :: ([.fieldLink RX3 22 "SpliceBenchModel" "places" "[J", .fieldLink RX3 7 "SpliceBenchModel" "holds" "[I"] ++ wsX30)
def wsX3_isPlain : List Cond := .code yX3_isPlain cX3_isPlain 3 (some .boolean) :: ([.fieldLink RX3 29 "SpliceBenchModel" "cardNumber" "[J"] ++ wsX30)
def wsX3_isHeld : List Cond := .code yX3_isHeld cX3_isHeld 4 (some .boolean) :: ([.fieldLink RX3 7 "SpliceBenchModel" "holds" "[I"] ++ wsX30)
def wsX3_hold : List Cond := .code yX3_hold cX3_hold 7 (some .int) :: ([.fieldLink RX3 56 "SpliceBenchModel" "rows" "I", .fieldLink RX3 7 "SpliceBenchModel" "holds" "[I", .fieldLink RX3 13 "SpliceBenchModel" "labels" "[I", .fieldLink RX3 38 "SpliceBenchModel" "covered" "I", .fieldLink RX3 16 "SpliceBenchModel" "kind" "[I", .fieldLink RX3 19 "SpliceBenchModel" "size" "[I", .fieldLink RX3 22 "SpliceBenchModel" "places" "[J", .methodLink RX3 53 yX3_isSpindle, .static yX3_isSpindle, .initialized RX3, .code yX3_isSpindle cX3_isSpindle 1 (some .boolean), .methodLink RX3 59 yX3_isHeld, .instanceMethod yX3_isHeld, .selects RX3 yX3_isHeld yX3_isHeld, .code yX3_isHeld cX3_isHeld 4 (some .boolean)] ++ wsX30)
def wsX3_thread : List Cond := .code yX3_thread cX3_thread 3 (some .int) :: ([.fieldLink RX3 7 "SpliceBenchModel" "holds" "[I", .methodLink RX3 53 yX3_isSpindle, .static yX3_isSpindle, .initialized RX3, .code yX3_isSpindle cX3_isSpindle 1 (some .boolean), .methodLink RX3 46 yX3_kindOf, .instanceMethod yX3_kindOf, .selects RX3 yX3_kindOf yX3_kindOf, .code yX3_kindOf cX3_kindOf 2 (some .int), .fieldLink RX3 16 "SpliceBenchModel" "kind" "[I"] ++ wsX30)
def wsX3_put_r1 : List Cond := [Cond.fieldLink RX3 13 "SpliceBenchModel" "labels" "[I", Cond.fieldLink RX3 7 "SpliceBenchModel" "holds" "[I", Cond.fieldLink RX3 62 "SpliceBenchModel" "cards" "I", Cond.fieldLink RX3 29 "SpliceBenchModel" "cardNumber" "[J", Cond.fieldLink RX3 32 "SpliceBenchModel" "cardShown" "[I", Cond.fieldLink RX3 22 "SpliceBenchModel" "places" "[J", Cond.methodLink RX3 53 yX3_isSpindle, Cond.static yX3_isSpindle, Cond.initialized RX3, Cond.code yX3_isSpindle cX3_isSpindle 1 (some .boolean), Cond.methodLink RX3 46 yX3_kindOf, Cond.instanceMethod yX3_kindOf, Cond.selects RX3 yX3_kindOf yX3_kindOf, Cond.code yX3_kindOf cX3_kindOf 2 (some .int), Cond.fieldLink RX3 16 "SpliceBenchModel" "kind" "[I", Cond.methodLink RX3 65 yX3_isPlace, Cond.instanceMethod yX3_isPlace, Cond.selects RX3 yX3_isPlace yX3_isPlace, Cond.code yX3_isPlace cX3_isPlace 3 (some .boolean), Cond.methodLink RX3 50 yX3_sizeOf, Cond.instanceMethod yX3_sizeOf, Cond.selects RX3 yX3_sizeOf yX3_sizeOf, Cond.code yX3_sizeOf cX3_sizeOf 2 (some .int), Cond.fieldLink RX3 19 "SpliceBenchModel" "size" "[I"]
def wsX3_put_r2 : List Cond := [Cond.methodLink RX3 42 yX3_hasPlaces, Cond.instanceMethod yX3_hasPlaces, Cond.selects RX3 yX3_hasPlaces yX3_hasPlaces, Cond.code yX3_hasPlaces cX3_hasPlaces 2 (some .boolean)]
def wsX3_put : List Cond := .code yX3_put cX3_put 9 (some .int) :: ((wsX3_put_r1 ++ wsX3_put_r2) ++ wsX30)
def wsX3_fails : List Cond := .code yX3_fails cX3_fails 2 (some .int) :: ([.fieldLink RX3 35 "SpliceBenchModel" "failed" "[I", .fieldLink RX3 69 "SpliceBenchModel" "came" "I"] ++ wsX30)
def wsX3_cover : List Cond := .code yX3_cover cX3_cover 3 none :: ([.fieldLink RX3 38 "SpliceBenchModel" "covered" "I", .fieldLink RX3 19 "SpliceBenchModel" "size" "[I", .fieldLink RX3 26 "SpliceBenchModel" "was" "[J", .fieldLink RX3 22 "SpliceBenchModel" "places" "[J"] ++ wsX30)
def wsX3_isBeyond : List Cond := .code yX3_isBeyond cX3_isBeyond 3 (some .boolean) :: ([])
def wsX3_move_r1 : List Cond := [Cond.fieldLink RX3 7 "SpliceBenchModel" "holds" "[I", Cond.fieldLink RX3 22 "SpliceBenchModel" "places" "[J", Cond.fieldLink RX3 69 "SpliceBenchModel" "came" "I", Cond.fieldLink RX3 91 "SpliceBenchModel" "good" "I", Cond.methodLink RX3 53 yX3_isSpindle, Cond.static yX3_isSpindle, Cond.initialized RX3, Cond.code yX3_isSpindle cX3_isSpindle 1 (some .boolean), Cond.methodLink RX3 46 yX3_kindOf, Cond.instanceMethod yX3_kindOf, Cond.selects RX3 yX3_kindOf yX3_kindOf, Cond.code yX3_kindOf cX3_kindOf 2 (some .int), Cond.fieldLink RX3 16 "SpliceBenchModel" "kind" "[I", Cond.methodLink RX3 72 yX3_fails, Cond.instanceMethod yX3_fails, Cond.selects RX3 yX3_fails yX3_fails, Cond.code yX3_fails cX3_fails 2 (some .int), Cond.fieldLink RX3 35 "SpliceBenchModel" "failed" "[I", Cond.methodLink RX3 50 yX3_sizeOf, Cond.instanceMethod yX3_sizeOf, Cond.selects RX3 yX3_sizeOf yX3_sizeOf, Cond.code yX3_sizeOf cX3_sizeOf 2 (some .int), Cond.fieldLink RX3 19 "SpliceBenchModel" "size" "[I", Cond.methodLink RX3 42 yX3_hasPlaces]
def wsX3_move_r2 : List Cond := [Cond.instanceMethod yX3_hasPlaces, Cond.selects RX3 yX3_hasPlaces yX3_hasPlaces, Cond.code yX3_hasPlaces cX3_hasPlaces 2 (some .boolean), Cond.methodLink RX3 75 yX3_isBeyond, Cond.static yX3_isBeyond, Cond.code yX3_isBeyond cX3_isBeyond 3 (some .boolean), Cond.methodLink RX3 79 yX3_place, Cond.instanceMethod yX3_place, Cond.selects RX3 yX3_place yX3_place, Cond.code yX3_place cX3_place 3 (some .long), Cond.methodLink RX3 83 yX3_isPlain, Cond.instanceMethod yX3_isPlain, Cond.selects RX3 yX3_isPlain yX3_isPlain, Cond.code yX3_isPlain cX3_isPlain 3 (some .boolean), Cond.fieldLink RX3 29 "SpliceBenchModel" "cardNumber" "[J", Cond.methodLink RX3 87 yX3_cover, Cond.instanceMethod yX3_cover, Cond.selects RX3 yX3_cover yX3_cover, Cond.code yX3_cover cX3_cover 3 none, Cond.fieldLink RX3 38 "SpliceBenchModel" "covered" "I", Cond.fieldLink RX3 26 "SpliceBenchModel" "was" "[J"]
def wsX3_move : List Cond := .code yX3_move cX3_move 12 (some .int) :: ((wsX3_move_r1 ++ wsX3_move_r2) ++ wsX30)
def wsX3_hinders : List Cond := .code yX3_hinders cX3_hinders 4 (some .int) :: ([.fieldLink RX3 7 "SpliceBenchModel" "holds" "[I", .methodLink RX3 42 yX3_hasPlaces, .instanceMethod yX3_hasPlaces, .selects RX3 yX3_hasPlaces yX3_hasPlaces, .initialized RX3, .code yX3_hasPlaces cX3_hasPlaces 2 (some .boolean), .methodLink RX3 50 yX3_sizeOf, .instanceMethod yX3_sizeOf, .selects RX3 yX3_sizeOf yX3_sizeOf, .code yX3_sizeOf cX3_sizeOf 2 (some .int), .fieldLink RX3 19 "SpliceBenchModel" "size" "[I", .methodLink RX3 75 yX3_isBeyond, .static yX3_isBeyond, .code yX3_isBeyond cX3_isBeyond 3 (some .boolean)] ++ wsX30)
def wsX3_shifts_r1 : List Cond := [Cond.fieldLink RX3 7 "SpliceBenchModel" "holds" "[I", Cond.fieldLink RX3 19 "SpliceBenchModel" "size" "[I", Cond.fieldLink RX3 22 "SpliceBenchModel" "places" "[J", Cond.fieldLink RX3 26 "SpliceBenchModel" "was" "[J", Cond.fieldLink RX3 69 "SpliceBenchModel" "came" "I", Cond.fieldLink RX3 91 "SpliceBenchModel" "good" "I", Cond.methodLink RX3 53 yX3_isSpindle, Cond.static yX3_isSpindle, Cond.initialized RX3, Cond.code yX3_isSpindle cX3_isSpindle 1 (some .boolean), Cond.methodLink RX3 94 yX3_hinders, Cond.instanceMethod yX3_hinders, Cond.selects RX3 yX3_hinders yX3_hinders, Cond.code yX3_hinders cX3_hinders 4 (some .int), Cond.methodLink RX3 42 yX3_hasPlaces, Cond.instanceMethod yX3_hasPlaces, Cond.selects RX3 yX3_hasPlaces yX3_hasPlaces, Cond.code yX3_hasPlaces cX3_hasPlaces 2 (some .boolean), Cond.methodLink RX3 50 yX3_sizeOf, Cond.instanceMethod yX3_sizeOf, Cond.selects RX3 yX3_sizeOf yX3_sizeOf, Cond.code yX3_sizeOf cX3_sizeOf 2 (some .int), Cond.methodLink RX3 75 yX3_isBeyond, Cond.static yX3_isBeyond]
def wsX3_shifts_r2 : List Cond := [Cond.code yX3_isBeyond cX3_isBeyond 3 (some .boolean), Cond.methodLink RX3 72 yX3_fails, Cond.instanceMethod yX3_fails, Cond.selects RX3 yX3_fails yX3_fails, Cond.code yX3_fails cX3_fails 2 (some .int), Cond.fieldLink RX3 35 "SpliceBenchModel" "failed" "[I", Cond.methodLink RX3 87 yX3_cover, Cond.instanceMethod yX3_cover, Cond.selects RX3 yX3_cover yX3_cover, Cond.code yX3_cover cX3_cover 3 none, Cond.fieldLink RX3 38 "SpliceBenchModel" "covered" "I"]
def wsX3_shifts : List Cond := .code yX3_shifts cX3_shifts 11 (some .int) :: ((wsX3_shifts_r1 ++ wsX3_shifts_r2) ++ wsX30)
def wsX3_open_r1 : List Cond := [Cond.methodLink RX3 98 yX3_shifts, Cond.instanceMethod yX3_shifts, Cond.selects RX3 yX3_shifts yX3_shifts, Cond.initialized RX3, Cond.code yX3_shifts cX3_shifts 11 (some .int), Cond.fieldLink RX3 7 "SpliceBenchModel" "holds" "[I", Cond.fieldLink RX3 19 "SpliceBenchModel" "size" "[I", Cond.fieldLink RX3 22 "SpliceBenchModel" "places" "[J", Cond.fieldLink RX3 26 "SpliceBenchModel" "was" "[J", Cond.fieldLink RX3 69 "SpliceBenchModel" "came" "I", Cond.fieldLink RX3 91 "SpliceBenchModel" "good" "I", Cond.methodLink RX3 53 yX3_isSpindle, Cond.static yX3_isSpindle, Cond.code yX3_isSpindle cX3_isSpindle 1 (some .boolean), Cond.methodLink RX3 94 yX3_hinders, Cond.instanceMethod yX3_hinders, Cond.selects RX3 yX3_hinders yX3_hinders, Cond.code yX3_hinders cX3_hinders 4 (some .int), Cond.methodLink RX3 42 yX3_hasPlaces, Cond.instanceMethod yX3_hasPlaces, Cond.selects RX3 yX3_hasPlaces yX3_hasPlaces, Cond.code yX3_hasPlaces cX3_hasPlaces 2 (some .boolean), Cond.methodLink RX3 50 yX3_sizeOf, Cond.instanceMethod yX3_sizeOf]
def wsX3_open_r2 : List Cond := [Cond.selects RX3 yX3_sizeOf yX3_sizeOf, Cond.code yX3_sizeOf cX3_sizeOf 2 (some .int), Cond.methodLink RX3 75 yX3_isBeyond, Cond.static yX3_isBeyond, Cond.code yX3_isBeyond cX3_isBeyond 3 (some .boolean), Cond.methodLink RX3 72 yX3_fails, Cond.instanceMethod yX3_fails, Cond.selects RX3 yX3_fails yX3_fails, Cond.code yX3_fails cX3_fails 2 (some .int), Cond.fieldLink RX3 35 "SpliceBenchModel" "failed" "[I", Cond.methodLink RX3 87 yX3_cover, Cond.instanceMethod yX3_cover, Cond.selects RX3 yX3_cover yX3_cover, Cond.code yX3_cover cX3_cover 3 none, Cond.fieldLink RX3 38 "SpliceBenchModel" "covered" "I"]
def wsX3_open : List Cond := .code yX3_open cX3_open 4 (some .int) :: ((wsX3_open_r1 ++ wsX3_open_r2) ++ wsX30)
def wsX3_close_r1 : List Cond := [Cond.methodLink RX3 98 yX3_shifts, Cond.instanceMethod yX3_shifts, Cond.selects RX3 yX3_shifts yX3_shifts, Cond.initialized RX3, Cond.code yX3_shifts cX3_shifts 11 (some .int), Cond.fieldLink RX3 7 "SpliceBenchModel" "holds" "[I", Cond.fieldLink RX3 19 "SpliceBenchModel" "size" "[I", Cond.fieldLink RX3 22 "SpliceBenchModel" "places" "[J", Cond.fieldLink RX3 26 "SpliceBenchModel" "was" "[J", Cond.fieldLink RX3 69 "SpliceBenchModel" "came" "I", Cond.fieldLink RX3 91 "SpliceBenchModel" "good" "I", Cond.methodLink RX3 53 yX3_isSpindle, Cond.static yX3_isSpindle, Cond.code yX3_isSpindle cX3_isSpindle 1 (some .boolean), Cond.methodLink RX3 94 yX3_hinders, Cond.instanceMethod yX3_hinders, Cond.selects RX3 yX3_hinders yX3_hinders, Cond.code yX3_hinders cX3_hinders 4 (some .int), Cond.methodLink RX3 42 yX3_hasPlaces, Cond.instanceMethod yX3_hasPlaces, Cond.selects RX3 yX3_hasPlaces yX3_hasPlaces, Cond.code yX3_hasPlaces cX3_hasPlaces 2 (some .boolean), Cond.methodLink RX3 50 yX3_sizeOf, Cond.instanceMethod yX3_sizeOf]
def wsX3_close_r2 : List Cond := [Cond.selects RX3 yX3_sizeOf yX3_sizeOf, Cond.code yX3_sizeOf cX3_sizeOf 2 (some .int), Cond.methodLink RX3 75 yX3_isBeyond, Cond.static yX3_isBeyond, Cond.code yX3_isBeyond cX3_isBeyond 3 (some .boolean), Cond.methodLink RX3 72 yX3_fails, Cond.instanceMethod yX3_fails, Cond.selects RX3 yX3_fails yX3_fails, Cond.code yX3_fails cX3_fails 2 (some .int), Cond.fieldLink RX3 35 "SpliceBenchModel" "failed" "[I", Cond.methodLink RX3 87 yX3_cover, Cond.instanceMethod yX3_cover, Cond.selects RX3 yX3_cover yX3_cover, Cond.code yX3_cover cX3_cover 3 none, Cond.fieldLink RX3 38 "SpliceBenchModel" "covered" "I"]
def wsX3_close : List Cond := .code yX3_close cX3_close 4 (some .int) :: ((wsX3_close_r1 ++ wsX3_close_r2) ++ wsX30)
def wsX3_back : List Cond := .code yX3_back cX3_back 2 (some .int) :: ([.fieldLink RX3 38 "SpliceBenchModel" "covered" "I", .fieldLink RX3 19 "SpliceBenchModel" "size" "[I", .fieldLink RX3 22 "SpliceBenchModel" "places" "[J", .fieldLink RX3 26 "SpliceBenchModel" "was" "[J"] ++ wsX30)
def wsX3_count : List Cond := .code yX3_count cX3_count 2 (some .int) :: ([.fieldLink RX3 69 "SpliceBenchModel" "came" "I", .fieldLink RX3 35 "SpliceBenchModel" "failed" "[I", .fieldLink RX3 91 "SpliceBenchModel" "good" "I", .fieldLink RX3 56 "SpliceBenchModel" "rows" "I", .fieldLink RX3 62 "SpliceBenchModel" "cards" "I", .fieldLink RX3 38 "SpliceBenchModel" "covered" "I"] ++ wsX30)
def wsX3_held : List Cond := .code yX3_held cX3_held 5 (some .int) :: ([.methodLink RX3 53 yX3_isSpindle, .static yX3_isSpindle, .initialized RX3, .code yX3_isSpindle cX3_isSpindle 1 (some .boolean), .methodLink RX3 46 yX3_kindOf, .instanceMethod yX3_kindOf, .selects RX3 yX3_kindOf yX3_kindOf, .code yX3_kindOf cX3_kindOf 2 (some .int), .fieldLink RX3 7 "SpliceBenchModel" "holds" "[I", .fieldLink RX3 16 "SpliceBenchModel" "kind" "[I", .methodLink RX3 50 yX3_sizeOf, .instanceMethod yX3_sizeOf, .selects RX3 yX3_sizeOf yX3_sizeOf, .code yX3_sizeOf cX3_sizeOf 2 (some .int), .fieldLink RX3 19 "SpliceBenchModel" "size" "[I", .methodLink RX3 42 yX3_hasPlaces, .instanceMethod yX3_hasPlaces, .selects RX3 yX3_hasPlaces yX3_hasPlaces, .code yX3_hasPlaces cX3_hasPlaces 2 (some .boolean), .methodLink RX3 79 yX3_place, .instanceMethod yX3_place, .selects RX3 yX3_place yX3_place, .code yX3_place cX3_place 3 (some .long), .fieldLink RX3 22 "SpliceBenchModel" "places" "[J"] ++ wsX30)
def wsX3_sort_r1 : List Cond := [Cond.methodLink RX3 53 yX3_isSpindle, Cond.static yX3_isSpindle, Cond.initialized RX3, Cond.code yX3_isSpindle cX3_isSpindle 1 (some .boolean), Cond.methodLink RX3 65 yX3_isPlace, Cond.instanceMethod yX3_isPlace, Cond.selects RX3 yX3_isPlace yX3_isPlace, Cond.code yX3_isPlace cX3_isPlace 3 (some .boolean), Cond.methodLink RX3 50 yX3_sizeOf, Cond.instanceMethod yX3_sizeOf, Cond.selects RX3 yX3_sizeOf yX3_sizeOf, Cond.code yX3_sizeOf cX3_sizeOf 2 (some .int), Cond.fieldLink RX3 19 "SpliceBenchModel" "size" "[I", Cond.fieldLink RX3 7 "SpliceBenchModel" "holds" "[I", Cond.methodLink RX3 42 yX3_hasPlaces, Cond.instanceMethod yX3_hasPlaces, Cond.selects RX3 yX3_hasPlaces yX3_hasPlaces, Cond.code yX3_hasPlaces cX3_hasPlaces 2 (some .boolean), Cond.methodLink RX3 102 yX3_isRack, Cond.instanceMethod yX3_isRack, Cond.selects RX3 yX3_isRack yX3_isRack, Cond.code yX3_isRack cX3_isRack 2 (some .boolean), Cond.methodLink RX3 46 yX3_kindOf, Cond.instanceMethod yX3_kindOf]
def wsX3_sort_r2 : List Cond := [Cond.selects RX3 yX3_kindOf yX3_kindOf, Cond.code yX3_kindOf cX3_kindOf 2 (some .int), Cond.fieldLink RX3 16 "SpliceBenchModel" "kind" "[I", Cond.methodLink RX3 79 yX3_place, Cond.instanceMethod yX3_place, Cond.selects RX3 yX3_place yX3_place, Cond.code yX3_place cX3_place 3 (some .long), Cond.fieldLink RX3 22 "SpliceBenchModel" "places" "[J", Cond.methodLink RX3 83 yX3_isPlain, Cond.instanceMethod yX3_isPlain, Cond.selects RX3 yX3_isPlain yX3_isPlain, Cond.code yX3_isPlain cX3_isPlain 3 (some .boolean), Cond.fieldLink RX3 29 "SpliceBenchModel" "cardNumber" "[J"]
def wsX3_sort : List Cond := .code yX3_sort cX3_sort 3 (some .int) :: ((wsX3_sort_r1 ++ wsX3_sort_r2) ++ wsX30)
def wsX3_number_r1 : List Cond := [Cond.fieldLink RX3 13 "SpliceBenchModel" "labels" "[I", Cond.fieldLink RX3 7 "SpliceBenchModel" "holds" "[I", Cond.fieldLink RX3 29 "SpliceBenchModel" "cardNumber" "[J", Cond.methodLink RX3 53 yX3_isSpindle, Cond.static yX3_isSpindle, Cond.initialized RX3, Cond.code yX3_isSpindle cX3_isSpindle 1 (some .boolean), Cond.methodLink RX3 46 yX3_kindOf, Cond.instanceMethod yX3_kindOf, Cond.selects RX3 yX3_kindOf yX3_kindOf, Cond.code yX3_kindOf cX3_kindOf 2 (some .int), Cond.fieldLink RX3 16 "SpliceBenchModel" "kind" "[I", Cond.methodLink RX3 65 yX3_isPlace, Cond.instanceMethod yX3_isPlace, Cond.selects RX3 yX3_isPlace yX3_isPlace, Cond.code yX3_isPlace cX3_isPlace 3 (some .boolean), Cond.methodLink RX3 50 yX3_sizeOf, Cond.instanceMethod yX3_sizeOf, Cond.selects RX3 yX3_sizeOf yX3_sizeOf, Cond.code yX3_sizeOf cX3_sizeOf 2 (some .int), Cond.fieldLink RX3 19 "SpliceBenchModel" "size" "[I", Cond.methodLink RX3 42 yX3_hasPlaces, Cond.instanceMethod yX3_hasPlaces, Cond.selects RX3 yX3_hasPlaces yX3_hasPlaces]
def wsX3_number_r2 : List Cond := [Cond.code yX3_hasPlaces cX3_hasPlaces 2 (some .boolean), Cond.methodLink RX3 79 yX3_place, Cond.instanceMethod yX3_place, Cond.selects RX3 yX3_place yX3_place, Cond.code yX3_place cX3_place 3 (some .long), Cond.fieldLink RX3 22 "SpliceBenchModel" "places" "[J", Cond.methodLink RX3 102 yX3_isRack, Cond.instanceMethod yX3_isRack, Cond.selects RX3 yX3_isRack yX3_isRack, Cond.code yX3_isRack cX3_isRack 2 (some .boolean)]
def wsX3_number : List Cond := .code yX3_number cX3_number 5 (some .long) :: ((wsX3_number_r1 ++ wsX3_number_r2) ++ wsX30)
def wsX3_show_r1 : List Cond := [Cond.fieldLink RX3 32 "SpliceBenchModel" "cardShown" "[I", Cond.methodLink RX3 53 yX3_isSpindle, Cond.static yX3_isSpindle, Cond.initialized RX3, Cond.code yX3_isSpindle cX3_isSpindle 1 (some .boolean), Cond.methodLink RX3 102 yX3_isRack, Cond.instanceMethod yX3_isRack, Cond.selects RX3 yX3_isRack yX3_isRack, Cond.code yX3_isRack cX3_isRack 2 (some .boolean), Cond.methodLink RX3 46 yX3_kindOf, Cond.instanceMethod yX3_kindOf, Cond.selects RX3 yX3_kindOf yX3_kindOf, Cond.code yX3_kindOf cX3_kindOf 2 (some .int), Cond.fieldLink RX3 7 "SpliceBenchModel" "holds" "[I", Cond.fieldLink RX3 16 "SpliceBenchModel" "kind" "[I", Cond.methodLink RX3 50 yX3_sizeOf, Cond.instanceMethod yX3_sizeOf, Cond.selects RX3 yX3_sizeOf yX3_sizeOf, Cond.code yX3_sizeOf cX3_sizeOf 2 (some .int), Cond.fieldLink RX3 19 "SpliceBenchModel" "size" "[I", Cond.methodLink RX3 42 yX3_hasPlaces, Cond.instanceMethod yX3_hasPlaces, Cond.selects RX3 yX3_hasPlaces yX3_hasPlaces, Cond.code yX3_hasPlaces cX3_hasPlaces 2 (some .boolean)]
def wsX3_show_r2 : List Cond := [Cond.methodLink RX3 79 yX3_place, Cond.instanceMethod yX3_place, Cond.selects RX3 yX3_place yX3_place, Cond.code yX3_place cX3_place 3 (some .long), Cond.fieldLink RX3 22 "SpliceBenchModel" "places" "[J"]
def wsX3_show : List Cond := .code yX3_show cX3_show 4 (some .int) :: ((wsX3_show_r1 ++ wsX3_show_r2) ++ wsX30)
def wsX3_shown_r1 : List Cond := [Cond.fieldLink RX3 32 "SpliceBenchModel" "cardShown" "[I", Cond.methodLink RX3 53 yX3_isSpindle, Cond.static yX3_isSpindle, Cond.initialized RX3, Cond.code yX3_isSpindle cX3_isSpindle 1 (some .boolean), Cond.methodLink RX3 102 yX3_isRack, Cond.instanceMethod yX3_isRack, Cond.selects RX3 yX3_isRack yX3_isRack, Cond.code yX3_isRack cX3_isRack 2 (some .boolean), Cond.methodLink RX3 46 yX3_kindOf, Cond.instanceMethod yX3_kindOf, Cond.selects RX3 yX3_kindOf yX3_kindOf, Cond.code yX3_kindOf cX3_kindOf 2 (some .int), Cond.fieldLink RX3 7 "SpliceBenchModel" "holds" "[I", Cond.fieldLink RX3 16 "SpliceBenchModel" "kind" "[I", Cond.methodLink RX3 65 yX3_isPlace, Cond.instanceMethod yX3_isPlace, Cond.selects RX3 yX3_isPlace yX3_isPlace, Cond.code yX3_isPlace cX3_isPlace 3 (some .boolean), Cond.methodLink RX3 50 yX3_sizeOf, Cond.instanceMethod yX3_sizeOf, Cond.selects RX3 yX3_sizeOf yX3_sizeOf, Cond.code yX3_sizeOf cX3_sizeOf 2 (some .int), Cond.fieldLink RX3 19 "SpliceBenchModel" "size" "[I"]
def wsX3_shown_r2 : List Cond := [Cond.methodLink RX3 42 yX3_hasPlaces, Cond.instanceMethod yX3_hasPlaces, Cond.selects RX3 yX3_hasPlaces yX3_hasPlaces, Cond.code yX3_hasPlaces cX3_hasPlaces 2 (some .boolean), Cond.methodLink RX3 79 yX3_place, Cond.instanceMethod yX3_place, Cond.selects RX3 yX3_place yX3_place, Cond.code yX3_place cX3_place 3 (some .long), Cond.fieldLink RX3 22 "SpliceBenchModel" "places" "[J"]
def wsX3_shown : List Cond := .code yX3_shown cX3_shown 3 (some .int) :: ((wsX3_shown_r1 ++ wsX3_shown_r2) ++ wsX30)
def wsX3_same_r1 : List Cond := [Cond.fieldLink RX3 7 "SpliceBenchModel" "holds" "[I", Cond.methodLink RX3 53 yX3_isSpindle, Cond.static yX3_isSpindle, Cond.initialized RX3, Cond.code yX3_isSpindle cX3_isSpindle 1 (some .boolean), Cond.methodLink RX3 102 yX3_isRack, Cond.instanceMethod yX3_isRack, Cond.selects RX3 yX3_isRack yX3_isRack, Cond.code yX3_isRack cX3_isRack 2 (some .boolean), Cond.methodLink RX3 46 yX3_kindOf, Cond.instanceMethod yX3_kindOf, Cond.selects RX3 yX3_kindOf yX3_kindOf, Cond.code yX3_kindOf cX3_kindOf 2 (some .int), Cond.fieldLink RX3 16 "SpliceBenchModel" "kind" "[I", Cond.methodLink RX3 65 yX3_isPlace, Cond.instanceMethod yX3_isPlace, Cond.selects RX3 yX3_isPlace yX3_isPlace, Cond.code yX3_isPlace cX3_isPlace 3 (some .boolean), Cond.methodLink RX3 50 yX3_sizeOf, Cond.instanceMethod yX3_sizeOf, Cond.selects RX3 yX3_sizeOf yX3_sizeOf, Cond.code yX3_sizeOf cX3_sizeOf 2 (some .int), Cond.fieldLink RX3 19 "SpliceBenchModel" "size" "[I", Cond.methodLink RX3 42 yX3_hasPlaces]
def wsX3_same_r2 : List Cond := [Cond.instanceMethod yX3_hasPlaces, Cond.selects RX3 yX3_hasPlaces yX3_hasPlaces, Cond.code yX3_hasPlaces cX3_hasPlaces 2 (some .boolean), Cond.methodLink RX3 79 yX3_place, Cond.instanceMethod yX3_place, Cond.selects RX3 yX3_place yX3_place, Cond.code yX3_place cX3_place 3 (some .long), Cond.fieldLink RX3 22 "SpliceBenchModel" "places" "[J"]
def wsX3_same : List Cond := .code yX3_same cX3_same 5 (some .int) :: ((wsX3_same_r1 ++ wsX3_same_r2) ++ wsX30)
def wsL_law_r1 : List Cond := [Cond.classLink RL 7 RX2, Cond.instantiable RX2 8, Cond.initialized RX2, Cond.classLink RL 10 RX3, Cond.instantiable RX3 14, Cond.initialized RX3, Cond.constantLong RL 23 (4294967295), Cond.methodLink RL 9 yX2_init, Cond.instanceMethod yX2_init, Cond.code yX2_init cX2_init 3 none, Cond.methodLink RX2 1 objectInit, Cond.instanceMethod objectInit, Cond.code objectInit ⟨#[0xb1]⟩ 1 none, Cond.classLink RX2 9 RX1, Cond.fieldLink RX2 11 "SpliceBench" "spindles" "[LSpliceBench$Holding;", Cond.arrayClass .int, Cond.fieldLink RX2 15 "SpliceBench" "endings" "[I", Cond.fieldLink RX2 19 "SpliceBench" "come" "I", Cond.fieldLink RX2 23 "SpliceBench" "made" "I", Cond.fieldLink RX2 26 "SpliceBench" "cardsPut" "I", Cond.fieldLink RX2 29 "SpliceBench" "covered" "LSpliceBench$Holding;", Cond.instantiable RX1 5, Cond.initialized RX1, Cond.fieldLink RX2 36 "SpliceBench" "coveredStrip" "LSpliceBench$Holding;"]
def wsL_law_r2 : List Cond := [Cond.fieldLink RX2 39 "SpliceBench" "coveredRack" "LSpliceBench$Holding;", Cond.methodLink RX2 33 yX1_init, Cond.instanceMethod yX1_init, Cond.code yX1_init cX1_init 4 none, Cond.methodLink RX1 3 objectInit, Cond.fieldLink RX1 9 "SpliceBench$Holding" "kind" "I", Cond.fieldLink RX1 15 "SpliceBench$Holding" "places" "I", Cond.fieldLink RX1 18 "SpliceBench$Holding" "label" "I", Cond.arrayClass .long, Cond.fieldLink RX1 25 "SpliceBench$Holding" "numbers" "[J", Cond.classLink RX1 32 RX0, Cond.fieldLink RX1 34 "SpliceBench$Holding" "cards" "[LSpliceBench$Card;", Cond.methodLink RX1 21 yX1_isStrip, Cond.instanceMethod yX1_isStrip, Cond.selects RX1 yX1_isStrip yX1_isStrip, Cond.code yX1_isStrip cX1_isStrip 1 (some .boolean), Cond.methodLink RX1 29 yX1_isRack, Cond.instanceMethod yX1_isRack, Cond.selects RX1 yX1_isRack yX1_isRack, Cond.code yX1_isRack cX1_isRack 1 (some .boolean), Cond.methodLink RL 12 yX3_init, Cond.instanceMethod yX3_init, Cond.code yX3_init cX3_init 1 none, Cond.methodLink RX3 1 objectInit]
def wsL_law_r3 : List Cond := [Cond.fieldLink RX3 7 "SpliceBenchModel" "holds" "[I", Cond.fieldLink RX3 13 "SpliceBenchModel" "labels" "[I", Cond.fieldLink RX3 16 "SpliceBenchModel" "kind" "[I", Cond.fieldLink RX3 19 "SpliceBenchModel" "size" "[I", Cond.fieldLink RX3 22 "SpliceBenchModel" "places" "[J", Cond.fieldLink RX3 26 "SpliceBenchModel" "was" "[J", Cond.fieldLink RX3 29 "SpliceBenchModel" "cardNumber" "[J", Cond.fieldLink RX3 32 "SpliceBenchModel" "cardShown" "[I", Cond.fieldLink RX3 35 "SpliceBenchModel" "failed" "[I", Cond.fieldLink RX3 38 "SpliceBenchModel" "covered" "I", Cond.methodLink RL 13 yX2_hold, Cond.instanceMethod yX2_hold, Cond.selects RX2 yX2_hold yX2_hold, Cond.code yX2_hold cX2_hold 4 (some .int), Cond.methodLink RX2 42 yX2_isSpindle, Cond.static yX2_isSpindle, Cond.code yX2_isSpindle cX2_isSpindle 1 (some .boolean), Cond.methodLink RL 17 yX3_hold, Cond.instanceMethod yX3_hold, Cond.selects RX3 yX3_hold yX3_hold, Cond.code yX3_hold cX3_hold 7 (some .int), Cond.fieldLink RX3 56 "SpliceBenchModel" "rows" "I", Cond.methodLink RX3 53 yX3_isSpindle, Cond.static yX3_isSpindle]
def wsL_law_r4 : List Cond := [Cond.code yX3_isSpindle cX3_isSpindle 1 (some .boolean), Cond.methodLink RX3 59 yX3_isHeld, Cond.instanceMethod yX3_isHeld, Cond.selects RX3 yX3_isHeld yX3_isHeld, Cond.code yX3_isHeld cX3_isHeld 4 (some .boolean), Cond.methodLink RL 18 yX2_thread, Cond.instanceMethod yX2_thread, Cond.selects RX2 yX2_thread yX2_thread, Cond.code yX2_thread cX2_thread 3 (some .int), Cond.fieldLink RX2 46 "SpliceBench$Holding" "kind" "I", Cond.methodLink RL 22 yX3_thread, Cond.instanceMethod yX3_thread, Cond.selects RX3 yX3_thread yX3_thread, Cond.code yX3_thread cX3_thread 3 (some .int), Cond.methodLink RX3 46 yX3_kindOf, Cond.instanceMethod yX3_kindOf, Cond.selects RX3 yX3_kindOf yX3_kindOf, Cond.code yX3_kindOf cX3_kindOf 2 (some .int), Cond.methodLink RL 25 yX2_put, Cond.instanceMethod yX2_put, Cond.selects RX2 yX2_put yX2_put, Cond.code yX2_put cX2_put 6 (some .int), Cond.fieldLink RX2 49 "SpliceBench$Holding" "label" "I", Cond.fieldLink RX2 63 "SpliceBench$Holding" "numbers" "[J"]
def wsL_law_r5 : List Cond := [Cond.methodLink RX2 52 yX1_isRack, Cond.methodLink RX2 56 yX2_putCard, Cond.instanceMethod yX2_putCard, Cond.selects RX2 yX2_putCard yX2_putCard, Cond.code yX2_putCard cX2_putCard 6 (some .int), Cond.fieldLink RX2 67 "SpliceBench$Holding" "cards" "[LSpliceBench$Card;", Cond.classLink RX2 71 RX0, Cond.instantiable RX0 3, Cond.initialized RX0, Cond.methodLink RX2 60 yX1_hasPlace, Cond.instanceMethod yX1_hasPlace, Cond.selects RX1 yX1_hasPlace yX1_hasPlace, Cond.code yX1_hasPlace cX1_hasPlace 2 (some .boolean), Cond.methodLink RX2 73 yX0_init, Cond.instanceMethod yX0_init, Cond.code yX0_init cX0_init 3 none, Cond.methodLink RX0 1 objectInit, Cond.fieldLink RX0 7 "SpliceBench$Card" "shown" "I", Cond.fieldLink RX0 13 "SpliceBench$Card" "number" "J", Cond.fieldLink RX0 17 "SpliceBench$Card" "slide" "Z", Cond.methodLink RX2 76 yX1_admits, Cond.instanceMethod yX1_admits, Cond.selects RX1 yX1_admits yX1_admits, Cond.code yX1_admits cX1_admits 2 (some .boolean)]
def wsL_law_r6 : List Cond := [Cond.fieldLink RX1 42 "SpliceBench$Card" "slide" "Z", Cond.methodLink RL 29 yX3_put, Cond.instanceMethod yX3_put, Cond.selects RX3 yX3_put yX3_put, Cond.code yX3_put cX3_put 9 (some .int), Cond.fieldLink RX3 62 "SpliceBenchModel" "cards" "I", Cond.methodLink RX3 65 yX3_isPlace, Cond.instanceMethod yX3_isPlace, Cond.selects RX3 yX3_isPlace yX3_isPlace, Cond.code yX3_isPlace cX3_isPlace 3 (some .boolean), Cond.methodLink RX3 50 yX3_sizeOf, Cond.instanceMethod yX3_sizeOf, Cond.selects RX3 yX3_sizeOf yX3_sizeOf, Cond.code yX3_sizeOf cX3_sizeOf 2 (some .int), Cond.methodLink RX3 42 yX3_hasPlaces, Cond.instanceMethod yX3_hasPlaces, Cond.selects RX3 yX3_hasPlaces yX3_hasPlaces, Cond.code yX3_hasPlaces cX3_hasPlaces 2 (some .boolean), Cond.methodLink RL 30 yX2_move, Cond.instanceMethod yX2_move, Cond.selects RX2 yX2_move yX2_move, Cond.code yX2_move cX2_move 10 (some .int), Cond.methodLink RX2 80 yX2_motionFailure, Cond.static yX2_motionFailure]
def wsL_law_r7 : List Cond := [Cond.code yX2_motionFailure cX2_motionFailure 5 (some .int), Cond.methodLink RX2 137 yX1_isLike, Cond.instanceMethod yX1_isLike, Cond.selects RX1 yX1_isLike yX1_isLike, Cond.code yX1_isLike cX1_isLike 2 (some .boolean), Cond.methodLink RX2 141 yX1_hasPlaces, Cond.instanceMethod yX1_hasPlaces, Cond.selects RX1 yX1_hasPlaces yX1_hasPlaces, Cond.code yX1_hasPlaces cX1_hasPlaces 3 (some .boolean), Cond.methodLink RX2 84 yX2_end, Cond.instanceMethod yX2_end, Cond.selects RX2 yX2_end yX2_end, Cond.code yX2_end cX2_end 4 (some .int), Cond.methodLink RX2 88 yX1_countAdmitted, Cond.instanceMethod yX1_countAdmitted, Cond.selects RX1 yX1_countAdmitted yX1_countAdmitted, Cond.code yX1_countAdmitted cX1_countAdmitted 5 (some .int), Cond.methodLink RX1 46 yX1_cardAt, Cond.instanceMethod yX1_cardAt, Cond.selects RX1 yX1_cardAt yX1_cardAt, Cond.code yX1_cardAt cX1_cardAt 2 (some (.object "SpliceBench$Card")), Cond.methodLink RX1 38 yX1_hasPlace, Cond.methodLink RX1 50 yX1_admits, Cond.methodLink RX2 92 yX2_cover]
def wsL_law_r8 : List Cond := [Cond.instanceMethod yX2_cover, Cond.selects RX2 yX2_cover yX2_cover, Cond.code yX2_cover cX2_cover 2 none, Cond.fieldLink RX2 104 "SpliceBench$Holding" "places" "I", Cond.methodLink RX2 111 yX2_rowBehind, Cond.instanceMethod yX2_rowBehind, Cond.selects RX2 yX2_rowBehind yX2_rowBehind, Cond.code yX2_rowBehind cX2_rowBehind 2 (some (.object "SpliceBench$Holding")), Cond.methodLink RX2 96 yX1_copyFrom, Cond.instanceMethod yX1_copyFrom, Cond.selects RX1 yX1_copyFrom yX1_copyFrom, Cond.code yX1_copyFrom cX1_copyFrom 5 none, Cond.methodLink RX1 58 arraycopyName, Cond.native arraycopyName, Cond.static arraycopyName, Cond.initialized "java/lang/System", Cond.methodLink RX1 54 yX1_hasPlaces, Cond.methodLink RL 34 yX3_move, Cond.instanceMethod yX3_move, Cond.selects RX3 yX3_move yX3_move, Cond.code yX3_move cX3_move 12 (some .int), Cond.fieldLink RX3 69 "SpliceBenchModel" "came" "I", Cond.fieldLink RX3 91 "SpliceBenchModel" "good" "I", Cond.methodLink RX3 72 yX3_fails]
def wsL_law_r9 : List Cond := [Cond.instanceMethod yX3_fails, Cond.selects RX3 yX3_fails yX3_fails, Cond.code yX3_fails cX3_fails 2 (some .int), Cond.methodLink RX3 75 yX3_isBeyond, Cond.static yX3_isBeyond, Cond.code yX3_isBeyond cX3_isBeyond 3 (some .boolean), Cond.methodLink RX3 79 yX3_place, Cond.instanceMethod yX3_place, Cond.selects RX3 yX3_place yX3_place, Cond.code yX3_place cX3_place 3 (some .long), Cond.methodLink RX3 83 yX3_isPlain, Cond.instanceMethod yX3_isPlain, Cond.selects RX3 yX3_isPlain yX3_isPlain, Cond.code yX3_isPlain cX3_isPlain 3 (some .boolean), Cond.methodLink RX3 87 yX3_cover, Cond.instanceMethod yX3_cover, Cond.selects RX3 yX3_cover yX3_cover, Cond.code yX3_cover cX3_cover 3 none, Cond.methodLink RL 35 yX2_open, Cond.instanceMethod yX2_open, Cond.selects RX2 yX2_open yX2_open, Cond.code yX2_open cX2_open 4 (some .int), Cond.methodLink RX2 100 yX2_shift, Cond.instanceMethod yX2_shift]
def wsL_law_r10 : List Cond := [Cond.selects RX2 yX2_shift yX2_shift, Cond.code yX2_shift cX2_shift 8 (some .int), Cond.methodLink RX2 107 yX1_makeBlank, Cond.instanceMethod yX1_makeBlank, Cond.selects RX1 yX1_makeBlank yX1_makeBlank, Cond.code yX1_makeBlank cX1_makeBlank 4 none, Cond.methodLink RL 38 yX3_open, Cond.instanceMethod yX3_open, Cond.selects RX3 yX3_open yX3_open, Cond.code yX3_open cX3_open 4 (some .int), Cond.methodLink RX3 98 yX3_shifts, Cond.instanceMethod yX3_shifts, Cond.selects RX3 yX3_shifts yX3_shifts, Cond.code yX3_shifts cX3_shifts 11 (some .int), Cond.methodLink RX3 94 yX3_hinders, Cond.instanceMethod yX3_hinders, Cond.selects RX3 yX3_hinders yX3_hinders, Cond.code yX3_hinders cX3_hinders 4 (some .int), Cond.methodLink RL 39 yX2_close, Cond.instanceMethod yX2_close, Cond.selects RX2 yX2_close yX2_close, Cond.code yX2_close cX2_close 4 (some .int), Cond.methodLink RL 42 yX3_close, Cond.instanceMethod yX3_close]
def wsL_law_r11 : List Cond := [Cond.selects RX3 yX3_close yX3_close, Cond.code yX3_close cX3_close 4 (some .int), Cond.methodLink RL 43 yX2_back, Cond.instanceMethod yX2_back, Cond.selects RX2 yX2_back yX2_back, Cond.code yX2_back cX2_back 1 (some .int), Cond.methodLink RL 47 yX3_back, Cond.instanceMethod yX3_back, Cond.selects RX3 yX3_back yX3_back, Cond.code yX3_back cX3_back 2 (some .int), Cond.methodLink RL 48 yX2_count, Cond.instanceMethod yX2_count, Cond.selects RX2 yX2_count yX2_count, Cond.code yX2_count cX2_count 2 (some .int), Cond.methodLink RL 52 yX3_count, Cond.instanceMethod yX3_count, Cond.selects RX3 yX3_count yX3_count, Cond.code yX3_count cX3_count 2 (some .int), Cond.methodLink RL 53 yX2_held, Cond.instanceMethod yX2_held, Cond.selects RX2 yX2_held yX2_held, Cond.code yX2_held cX2_held 4 (some .int), Cond.methodLink RX2 115 yX1_countFilled, Cond.instanceMethod yX1_countFilled]
def wsL_law_r12 : List Cond := [Cond.selects RX1 yX1_countFilled yX1_countFilled, Cond.code yX1_countFilled cX1_countFilled 3 (some .int), Cond.methodLink RL 56 yX3_held, Cond.instanceMethod yX3_held, Cond.selects RX3 yX3_held yX3_held, Cond.code yX3_held cX3_held 5 (some .int), Cond.methodLink RL 57 yX2_sort, Cond.instanceMethod yX2_sort, Cond.selects RX2 yX2_sort yX2_sort, Cond.code yX2_sort cX2_sort 5 (some .int), Cond.fieldLink RX2 126 "SpliceBench$Card" "slide" "Z", Cond.methodLink RX2 119 yX1_isStrip, Cond.methodLink RX2 122 yX1_cardAt, Cond.methodLink RL 60 yX3_sort, Cond.instanceMethod yX3_sort, Cond.selects RX3 yX3_sort yX3_sort, Cond.code yX3_sort cX3_sort 3 (some .int), Cond.methodLink RX3 102 yX3_isRack, Cond.instanceMethod yX3_isRack, Cond.selects RX3 yX3_isRack yX3_isRack, Cond.code yX3_isRack cX3_isRack 2 (some .boolean), Cond.methodLink RL 61 yX2_number, Cond.instanceMethod yX2_number, Cond.selects RX2 yX2_number yX2_number]
def wsL_law_r13 : List Cond := [Cond.code yX2_number cX2_number 5 (some .long), Cond.fieldLink RX2 130 "SpliceBench$Card" "number" "J", Cond.methodLink RL 65 yX3_number, Cond.instanceMethod yX3_number, Cond.selects RX3 yX3_number yX3_number, Cond.code yX3_number cX3_number 5 (some .long), Cond.methodLink RL 66 yX2_show, Cond.instanceMethod yX2_show, Cond.selects RX2 yX2_show yX2_show, Cond.code yX2_show cX2_show 6 (some .int), Cond.fieldLink RX2 134 "SpliceBench$Card" "shown" "I", Cond.methodLink RL 69 yX3_show, Cond.instanceMethod yX3_show, Cond.selects RX3 yX3_show yX3_show, Cond.code yX3_show cX3_show 4 (some .int), Cond.methodLink RL 70 yX2_shown, Cond.instanceMethod yX2_shown, Cond.selects RX2 yX2_shown yX2_shown, Cond.code yX2_shown cX2_shown 4 (some .int), Cond.methodLink RL 73 yX3_shown, Cond.instanceMethod yX3_shown, Cond.selects RX3 yX3_shown yX3_shown, Cond.code yX3_shown cX3_shown 3 (some .int), Cond.methodLink RL 74 yX2_same]
def wsL_law_r14 : List Cond := [Cond.instanceMethod yX2_same, Cond.selects RX2 yX2_same yX2_same, Cond.code yX2_same cX2_same 8 (some .int), Cond.methodLink RL 78 yX3_same, Cond.instanceMethod yX3_same, Cond.selects RX3 yX3_same yX3_same, Cond.code yX3_same cX3_same 5 (some .int)]
def wsL_law : List Cond := (wsL_law_r1 ++ (wsL_law_r2 ++ (wsL_law_r3 ++ (wsL_law_r4 ++ (wsL_law_r5 ++ (wsL_law_r6 ++ (wsL_law_r7 ++ (wsL_law_r8 ++ (wsL_law_r9 ++ (wsL_law_r10 ++ (wsL_law_r11 ++ (wsL_law_r12 ++ (wsL_law_r13 ++ wsL_law_r14))))))))))))) ++ wsX20 ++ wsX30 ++ wsX10 ++ wsX00 ++ ([] : List Cond)
theorem pl_in {big ws : List Cond} (ps : List Nat) (hp : ws = ps.filterMap (fun i => big[i]?)) : ∀ w ∈ ws, w ∈ big := by
  intro w hw
  rw [hp] at hw
  obtain ⟨i, -, hi⟩ := List.mem_filterMap.mp hw
  exact List.mem_of_getElem? hi
set_option maxRecDepth 100000 in
theorem wsL_law_r1_in : ∀ w ∈ wsL_law_r1, w ∈ lw_tbl := pl_in [23, 24, 18, 243, 244, 20, 402, 25, 26, 27, 28, 29, 30, 31, 71, 69, 72, 73, 74, 75, 76, 33, 19, 77] (by decide +kernel)
set_option maxRecDepth 100000 in
theorem wsL_law_r2_in : ∀ w ∈ wsL_law_r2, w ∈ lw_tbl := pl_in [78, 34, 35, 36, 37, 48, 50, 56, 70, 52, 46, 54, 38, 39, 40, 41, 42, 43, 44, 45, 245, 246, 247, 248] (by decide +kernel)
set_option maxRecDepth 100000 in
theorem wsL_law_r3_in : ∀ w ∈ wsL_law_r3, w ∈ lw_tbl := pl_in [249, 250, 251, 252, 253, 254, 255, 256, 257, 258, 96, 97, 98, 99, 100, 101, 102, 292, 293, 294, 295, 261, 296, 297] (by decide +kernel)
set_option maxRecDepth 100000 in
theorem wsL_law_r4_in : ∀ w ∈ wsL_law_r4, w ∈ lw_tbl := pl_in [298, 299, 301, 5, 302, 103, 104, 105, 106, 49, 303, 304, 305, 306, 307, 309, 6, 310, 107, 108, 109, 110, 57, 53] (by decide +kernel)
set_option maxRecDepth 100000 in
theorem wsL_law_r5_in : ∀ w ∈ wsL_law_r5, w ∈ lw_tbl := pl_in [111, 112, 114, 0, 115, 55, 120, 121, 21, 116, 117, 118, 119, 122, 123, 124, 125, 131, 126, 128, 140, 141, 142, 143] (by decide +kernel)
set_option maxRecDepth 100000 in
theorem wsL_law_r6_in : ∀ w ∈ wsL_law_r6, w ∈ lw_tbl := pl_in [129, 311, 312, 313, 314, 262, 315, 317, 7, 318, 319, 321, 8, 322, 323, 325, 9, 326, 144, 145, 146, 147, 148, 149] (by decide +kernel)
set_option maxRecDepth 100000 in
theorem wsL_law_r7_in : ∀ w ∈ wsL_law_r7, w ∈ lw_tbl := pl_in [150, 151, 152, 153, 154, 155, 156, 157, 158, 159, 161, 1, 162, 163, 164, 165, 166, 167, 168, 169, 170, 171, 172, 173] (by decide +kernel)
set_option maxRecDepth 100000 in
theorem wsL_law_r8_in : ∀ w ∈ wsL_law_r8, w ∈ lw_tbl := pl_in [175, 2, 176, 51, 177, 179, 3, 180, 181, 182, 183, 184, 186, 188, 187, 22, 185, 327, 328, 329, 330, 259, 260, 331] (by decide +kernel)
set_option maxRecDepth 100000 in
theorem wsL_law_r9_in : ∀ w ∈ wsL_law_r9, w ∈ lw_tbl := pl_in [333, 10, 334, 335, 336, 337, 338, 340, 11, 341, 342, 344, 12, 345, 346, 348, 13, 349, 189, 190, 191, 192, 193, 195] (by decide +kernel)
set_option maxRecDepth 100000 in
theorem wsL_law_r10_in : ∀ w ∈ wsL_law_r10, w ∈ lw_tbl := pl_in [4, 196, 197, 198, 199, 200, 350, 351, 352, 353, 354, 356, 14, 357, 358, 360, 15, 361, 201, 202, 203, 204, 362, 363] (by decide +kernel)
set_option maxRecDepth 100000 in
theorem wsL_law_r11_in : ∀ w ∈ wsL_law_r11, w ∈ lw_tbl := pl_in [364, 365, 205, 206, 207, 208, 366, 367, 368, 369, 209, 210, 211, 212, 370, 371, 372, 373, 213, 214, 215, 216, 217, 218] (by decide +kernel)
set_option maxRecDepth 100000 in
theorem wsL_law_r12_in : ∀ w ∈ wsL_law_r12, w ∈ lw_tbl := pl_in [219, 220, 374, 375, 376, 377, 221, 222, 223, 224, 130, 225, 226, 378, 379, 380, 381, 382, 384, 16, 385, 227, 228, 229] (by decide +kernel)
set_option maxRecDepth 100000 in
theorem wsL_law_r13_in : ∀ w ∈ wsL_law_r13, w ∈ lw_tbl := pl_in [230, 127, 386, 387, 388, 389, 231, 232, 233, 234, 132, 390, 391, 392, 393, 235, 236, 237, 238, 394, 395, 396, 397, 239] (by decide +kernel)
set_option maxRecDepth 100000 in
theorem wsL_law_r14_in : ∀ w ∈ wsL_law_r14, w ∈ lw_tbl := pl_in [240, 241, 242, 398, 399, 400, 401] (by decide +kernel)
set_option maxRecDepth 100000 in
theorem wsX00_in : ∀ w ∈ wsX00, w ∈ lw_tbl := pl_in [133, 135, 137] (by decide +kernel)
set_option maxRecDepth 100000 in
theorem wsX10_in : ∀ w ∈ wsX10, w ∈ lw_tbl := pl_in [58, 60, 62, 64, 66] (by decide +kernel)
set_option maxRecDepth 100000 in
theorem wsX20_in : ∀ w ∈ wsX20, w ∈ lw_tbl := pl_in [79, 81, 83, 85, 87, 89, 91, 93] (by decide +kernel)
set_option maxRecDepth 100000 in
theorem wsX30_in : ∀ w ∈ wsX30, w ∈ lw_tbl := pl_in [263, 265, 267, 269, 271, 273, 275, 277, 279, 281, 283, 285, 287, 289] (by decide +kernel)
theorem wsL_law_in : ∀ w ∈ wsL_law, w ∈ lw_tbl := by
  intro w h
  unfold wsL_law at h
  rcases List.mem_append.mp h with h | h
  · rcases List.mem_append.mp h with h | h
    · rcases List.mem_append.mp h with h | h
      · rcases List.mem_append.mp h with h | h
        · rcases List.mem_append.mp h with h | h
          · rcases List.mem_append.mp h with h | h
            · exact wsL_law_r1_in w h
            · rcases List.mem_append.mp h with h | h
              · exact wsL_law_r2_in w h
              · rcases List.mem_append.mp h with h | h
                · exact wsL_law_r3_in w h
                · rcases List.mem_append.mp h with h | h
                  · exact wsL_law_r4_in w h
                  · rcases List.mem_append.mp h with h | h
                    · exact wsL_law_r5_in w h
                    · rcases List.mem_append.mp h with h | h
                      · exact wsL_law_r6_in w h
                      · rcases List.mem_append.mp h with h | h
                        · exact wsL_law_r7_in w h
                        · rcases List.mem_append.mp h with h | h
                          · exact wsL_law_r8_in w h
                          · rcases List.mem_append.mp h with h | h
                            · exact wsL_law_r9_in w h
                            · rcases List.mem_append.mp h with h | h
                              · exact wsL_law_r10_in w h
                              · rcases List.mem_append.mp h with h | h
                                · exact wsL_law_r11_in w h
                                · rcases List.mem_append.mp h with h | h
                                  · exact wsL_law_r12_in w h
                                  · rcases List.mem_append.mp h with h | h
                                    · exact wsL_law_r13_in w h
                                    · exact wsL_law_r14_in w h
          · exact wsX20_in w h
        · exact wsX30_in w h
      · exact wsX10_in w h
    · exact wsX00_in w h
  · exact absurd h List.not_mem_nil
theorem inlX0 : ∀ w ∈ wsX00, w ∈ wsL_law := fun _ h => List.mem_append_left _ (List.mem_append_right _ h)
theorem inX0 : ∀ w ∈ wsX00, w ∈ lw_tbl := fun w h => wsL_law_in w (inlX0 w h)
theorem inlX1 : ∀ w ∈ wsX10, w ∈ wsL_law := fun _ h => List.mem_append_left _ (List.mem_append_left _ (List.mem_append_right _ h))
theorem inX1 : ∀ w ∈ wsX10, w ∈ lw_tbl := fun w h => wsL_law_in w (inlX1 w h)
theorem inlX2 : ∀ w ∈ wsX20, w ∈ wsL_law := fun _ h => List.mem_append_left _ (List.mem_append_left _ (List.mem_append_left _ (List.mem_append_left _ (List.mem_append_right _ h))))
theorem inX2 : ∀ w ∈ wsX20, w ∈ lw_tbl := fun w h => wsL_law_in w (inlX2 w h)
theorem inlX3 : ∀ w ∈ wsX30, w ∈ wsL_law := fun _ h => List.mem_append_left _ (List.mem_append_left _ (List.mem_append_left _ (List.mem_append_right _ h)))
theorem inX3 : ∀ w ∈ wsX30, w ∈ lw_tbl := fun w h => wsL_law_in w (inlX3 w h)
abbrev vwCl : List vw_C := [(RX0, TX0, 3), (RX1, TX1, 5), (RX2, TX2, 8), (RX3, TX3, 14)]
end
section
/-! ===== the world as a map: what lies at an address ===== -/
def mw (D : va_G) (A : Nat → Prop) (M : Nat → Option va_E) (H : Heap) : Prop :=
  ∃ (L : List Nat) (f : Nat → va_E), (∀ a, M a = if a ∈ L then some (f a) else none) ∧ va_P D vwCl (va_pl L f) H ∧ va_D A (va_pl L f)
theorem mw_mem {L : List Nat} {f : Nat → va_E} {M : Nat → Option va_E} (hM : ∀ a, M a = if a ∈ L then some (f a) else none) {a : Nat} {x : va_E} (he : M a = some x) : a ∈ L ∧ f a = x := by
  rw [hM a] at he
  by_cases h : a ∈ L
  · rw [if_pos h] at he
    exact ⟨h, Option.some.inj he⟩
  · rw [if_neg h] at he
    cases he
theorem mw_get_ix {L : List Nat} {f : Nat → va_E} {a : Nat} (h : a ∈ L) : ∃ k : Nat, (va_pl L f)[k]? = some (a, f a) := by
  obtain ⟨k, hk⟩ := va_pl_get (X := []) (f := f) h
  exact ⟨k, hk⟩
theorem mw_set_ix {A : Nat → Prop} {L : List Nat} {f : Nat → va_E} {a k : Nat} {e : va_E} (hD : va_D A (va_pl L f)) (h : a ∈ L) (hk : (va_pl L f)[k]? = some (a, f a)) : (va_pl L f).set k (a, e) = va_pl L (va_up f a e) :=
  va_pl_set (X := []) hD h hk
theorem mw.at {D : va_G} {A : Nat → Prop} {M : Nat → Option va_E} {H : Heap} {a : Nat} {x : va_E} (h : mw D A M H) (he : M a = some x) : va_at D vwCl (a, x) H ∧ A a := by
  obtain ⟨L, f, hM, hP, hD⟩ := h
  obtain ⟨h1, h2⟩ := mw_mem hM he
  obtain ⟨k, hk⟩ := mw_get_ix (f := f) h1
  subst h2
  exact ⟨hP k _ hk, hD.2 k _ hk⟩
theorem mw.one {D : va_G} {A : Nat → Prop} {M : Nat → Option va_E} {H : Heap} {a : Nat} {x : va_E} (h : mw D A M H) (he : M a = some x) : va_P D vwCl [(a, x)] H := by
  intro k q hq
  have hz : k < 1 := (List.getElem?_eq_some_iff.mp hq).1
  rw [show k = 0 by omega] at hq
  cases hq
  exact (h.at he).1
theorem mw.lt {D : va_G} {A : Nat → Prop} {M : Nat → Option va_E} {H : Heap} {a : Nat} {x : va_E} (h : mw D A M H) (he : M a = some x) : a < H.size := (h.at he).1.lt
theorem mw.new {D : va_G} {A : Nat → Prop} {M : Nat → Option va_E} {H : Heap} (h : mw D A M H) : M H.size = none := by
  cases hx : M H.size with
  | none => rfl
  | some x => exact absurd (h.lt hx) (Nat.lt_irrefl _)
theorem mw.weaken {D : va_G} {A B : Nat → Prop} {M : Nat → Option va_E} {H : Heap} (h : mw D A M H) (hAB : ∀ q, M q ≠ none → A q → B q) : mw D B M H := by
  obtain ⟨L, f, hM, hP, hD⟩ := h
  refine ⟨L, f, hM, hP, hD.weaken (fun k q hk => hAB q.1 ?_)⟩
  obtain ⟨b, hb, rfl⟩ := List.mem_map.mp (List.mem_of_getElem? hk)
  rw [hM b, if_pos hb]
  exact fun z => by cases z
theorem mw.kept {D : va_G} {A : Nat → Prop} {M : Nat → Option va_E} {H H1 : Heap} (h : mw D A M H) (hq : ∀ q, M q ≠ none → H1[q]? = H[q]?) : mw D A M H1 := by
  obtain ⟨L, f, hM, hP, hD⟩ := h
  refine ⟨L, f, hM, hP.kept (fun k q hk => hq q.1 ?_), hD⟩
  obtain ⟨b, hb, rfl⟩ := List.mem_map.mp (List.mem_of_getElem? hk)
  rw [hM b, if_pos hb]
  exact fun z => by cases z
theorem mw.eqv {D : va_G} {A : Nat → Prop} {M M' : Nat → Option va_E} {H : Heap} (h : mw D A M H) (e : ∀ a, M a = M' a) : mw D A M' H := by
  have := funext e
  subst this
  exact h
/-- where a method may write -/
def mwA (M : Nat → Option va_E) (sz : Nat) : Nat → Prop := fun q => M q ≠ none ∨ sz ≤ q
theorem mw.self {D : va_G} {A : Nat → Prop} {M : Nat → Option va_E} {H : Heap} {sz : Nat} (h : mw D A M H) : mw D (mwA M sz) M H := h.weaken (fun _ h1 _ => Or.inl h1)
def mwPre (D : va_G) (tys : List (ClassId × FieldType)) (M : Nat → Option va_E) (sz : Nat) : State → Prop := fun U => U.heap.size = sz ∧ mw D (fun _ => True) M U.heap ∧ va_K D vwCl tys U
def mwB (D : va_G) (tys : List (ClassId × FieldType)) (M : Nat → Option va_E) (sz : Nat) : (Nat → Option va_E) → State → Prop := fun M' t => mw D (mwA M sz) M' t.heap ∧ va_K D vwCl tys t
theorem mw_blind {D : va_G} {tys : List (ClassId × FieldType)} {M : Nat → Option va_E} {sz : Nat} {av : List Value} : FrameBlind (va_Pc av (mwPre D tys M sz)) := fun a U g mk q => by
  obtain ⟨q0, q1, q2, q3⟩ := q
  exact ⟨q0, q1, q2, va_K.moved (u := U) (U := U.calling g mk a) (Vm.Alike.refl U.vm) q3⟩
theorem mw_prS {D : va_G} {tys : List (ClassId × FieldType)} {M : Nat → Option va_E} {A : Nat → Prop} {s : State} {H : Heap} {As : List Value} (hK : va_K D vwCl tys s) (hW : mw D A M H) : PreS s H (va_Pc As (mwPre D tys M H.size)) As :=
  ⟨mw_blind, fun U hU hw => ⟨rfl, by rw [hU], by rw [hU]; exact hW.weaken (fun _ _ _ => trivial), va_K.moved hw.alike hK⟩⟩
theorem mw_recv {D : va_G} {tys : List (ClassId × FieldType)} {M : Nat → Option va_E} {A : Nat → Prop} {s : State} {H : Heap} {b ci : Nat} {q : vw_C} {fs : List Value} (hK : va_K D vwCl tys s) (hW : mw D A M H) (hc : vwCl[ci]? = some q) (he : M b = some (.inr (ci, fs))) : ∃ cell : Cell, H[b]? = some cell ∧ cell.vm.isStatics = false ∧ s.vm.findClass q.1 = some cell.cls :=
  va_recv hK (hW.one he) hc (q0 := 0) rfl
theorem mw_prV {D : va_G} {tys : List (ClassId × FieldType)} {M : Nat → Option va_E} {A : Nat → Prop} {s : State} {H : Heap} {As : List Value} {b ci : Nat} {q : vw_C} {fs : List Value} (hK : va_K D vwCl tys s) (hW : mw D A M H) (hc : vwCl[ci]? = some q) (he : M b = some (.inr (ci, fs))) : PreV s H q.1 b (va_Pc (.ref b :: As) (mwPre D tys M H.size)) As :=
  ⟨mw_blind, mw_recv hK hW hc he, (mw_prS hK hW).2⟩
section MWR
variable {p : Program} {l : Launch} {e : Env} {R : Room} {s : State} {m : MethodId} {args : Array Value} {below : List Frame} {meth : Method} {c : Code} {H : Heap} {locs : List Loc} {cells slots : Nat} {Q : State → Prop}
variable {cc : ByteArray} {nL : Nat} {Ts : List Cond} {own : String} {pc : Nat} {ls : Array Slot} {rest : List Value} {D : va_G} {A : Nat → Prop} {a : Nat} {tys : List (ClassId × FieldType)} {M : Nat → Option va_E} {H0 : Heap}
theorem mw_get (F : CallFix p m c cc nL s args Ts own) (hK : va_K D vwCl tys s) (hW : mw D A M H) {C : String} {T : u_T} {N ci index : Nat} (hin : ∀ w ∈ u_ws C T N, w ∈ Ts) {fs : List Value} (he : M a = some (.inr (ci, fs))) (hc : vwCl[ci]? = some (C, T, N)) (k : Nat) (hk : k < N) (hlink : (Cond.fieldLink own index (T k).1 (T k).2.1 (T k).2.2.1).before args s = true) {v : Value} (hv : fs[k]? = some v) (hdg : decode cc pc = .ok (.getfield index, 3))
    (kk : W p l e R s m args below meth c H locs cells slots Q (F0 m (pc + 3) ls (v :: rest))) : W p l e R s m args below meth c H locs cells slots Q (F0 m pc ls (.ref a :: rest)) :=
  va_get F.1 F.2.1 F.2.2.2.2 hin F.2.2.2.1 hK (hW.one he) 0 rfl hc k hk hlink (fun _ h => h) hv hdg kk
theorem mw_put (F : CallFix p m c cc nL s args Ts own) (hK : va_K D vwCl tys s) (hW : mw D A M H) (hS : va_S A H0 H locs) {C : String} {T : u_T} {N ci index : Nat} (hin : ∀ w ∈ u_ws C T N, w ∈ Ts) (ty0 : Nat → FieldType) (hty : ∀ k, k < N → parseFieldDescriptor (T k).2.2.1 = some (ty0 k)) (hnm : ∀ a, a < N → ∀ b, b < N → a ≠ b → (T a).2.1 ≠ (T b).2.1) {fs : List Value} (he : M a = some (.inr (ci, fs))) (hc : vwCl[ci]? = some (C, T, N)) (k : Nat) (hk : k < N) (hlink : (Cond.fieldLink own index (T k).1 (T k).2.1 (T k).2.2.1).before args s = true) (hfin : (T k).2.2.2 = false) {v : Value} (hn : narrow (ty0 k) v = v) (hfit : fits (ty0 k) v = true) (hl : k < fs.length) (hdg : decode cc pc = .ok (.putfield index, 3))
    (kk : ∀ (H1 : Heap) (locs1 : List Loc), mw D A (va_up M a (some (.inr (ci, fs.set k v)))) H1 → va_S A H0 H1 locs1 → W p l e R s m args below meth c H1 locs1 cells slots Q (F0 m (pc + 3) ls rest)) : W p l e R s m args below meth c H locs cells slots Q (F0 m pc ls (v :: .ref a :: rest)) := by
  obtain ⟨L, f, hM, hP, hD⟩ := hW
  obtain ⟨h1, h2⟩ := mw_mem hM he
  obtain ⟨q, hq⟩ := mw_get_ix (f := f) h1
  refine va_put F.1 F.2.1 F.2.2.2.2 hin ty0 hty hnm F.2.2.2.1 hK hP hD hS q (by rw [← h2]; exact hq) hc k hk hlink (fun _ h => h) hfin (hty k hk) hn hfit hl hdg (fun H1 locs1 hP1 hD1 hS1 => kk H1 locs1 ⟨L, _, fun b => ?_, by rw [mw_set_ix hD h1 hq] at hP1; exact hP1, by rw [mw_set_ix hD h1 hq] at hD1; exact hD1⟩ hS1)
  by_cases hb : b = a
  · subst hb
    rw [va_up_self, va_up_self, if_pos h1]
  · rw [va_up_ne _ _ hb, va_up_ne _ _ hb]
    exact hM b
theorem mw_putF (F : CallFix p m c cc nL s args Ts own) (hK : va_K D vwCl tys s) (hW : mw D A M H) (hS : va_S A H0 H locs) {C : String} {T : u_T} {N ci index : Nat} (hin : ∀ w ∈ u_ws C T N, w ∈ Ts) (ty0 : Nat → FieldType) (hty : ∀ k, k < N → parseFieldDescriptor (T k).2.2.1 = some (ty0 k)) (hnm : ∀ a, a < N → ∀ b, b < N → a ≠ b → (T a).2.1 ≠ (T b).2.1) {fs : List Value} (he : M a = some (.inr (ci, fs))) (hc : vwCl[ci]? = some (C, T, N)) (k : Nat) (hk : k < N) (hlink : (Cond.fieldLink own index (T k).1 (T k).2.1 (T k).2.2.1).before args s = true) (hfin : (T k).2.2.2 = true) (hin2 : meth.name = "<init>") (hdecl : (T k).1 = own) {v : Value} (hn : narrow (ty0 k) v = v) (hfit : fits (ty0 k) v = true) (hl : k < fs.length) (hdg : decode cc pc = .ok (.putfield index, 3))
    (kk : ∀ (H1 : Heap) (locs1 : List Loc), mw D A (va_up M a (some (.inr (ci, fs.set k v)))) H1 → va_S A H0 H1 locs1 → W p l e R s m args below meth c H1 locs1 cells slots Q (F0 m (pc + 3) ls rest)) : W p l e R s m args below meth c H locs cells slots Q (F0 m pc ls (v :: .ref a :: rest)) := by
  obtain ⟨L, f, hM, hP, hD⟩ := hW
  obtain ⟨h1, h2⟩ := mw_mem hM he
  obtain ⟨q, hq⟩ := mw_get_ix (f := f) h1
  refine va_putF F.1 F.2.1 F.2.2.2.2 hin ty0 hty hnm F.2.2.2.1 hK hP hD hS q (by rw [← h2]; exact hq) hc k hk hlink (fun _ h => h) hfin hin2 hdecl (hty k hk) hn hfit hl hdg (fun H1 locs1 hP1 hD1 hS1 => kk H1 locs1 ⟨L, _, fun b => ?_, by rw [mw_set_ix hD h1 hq] at hP1; exact hP1, by rw [mw_set_ix hD h1 hq] at hD1; exact hD1⟩ hS1)
  by_cases hb : b = a
  · subst hb
    rw [va_up_self, va_up_self, if_pos h1]
  · rw [va_up_ne _ _ hb, va_up_ne _ _ hb]
    exact hM b
theorem mw_iald (F : CallFix p m c cc nL s args Ts own) (hK : va_K D vwCl tys s) (hW : mw D A M H) (t0 : Nat) {cA : ClassId} {n : Nat} {f : Nat → Int32} (he : M a = some (.inl (cA, n, .inl f))) (ht : tys[t0]? = some (cA, .int)) {i : Int32} (hin : vp_in i n) (hdg : decode cc pc = .ok (.iaload, 1))
    (kk : W p l e R s m args below meth c H locs cells slots Q (F0 m (pc + 1) ls (.int (f i.toNatClampNeg) :: rest))) : W p l e R s m args below meth c H locs cells slots Q (F0 m pc ls (.int i :: .ref a :: rest)) :=
  va_iald F.1 F.2.1 hK (hW.one he) 0 t0 rfl ht hin hdg kk
theorem mw_lald (F : CallFix p m c cc nL s args Ts own) (hK : va_K D vwCl tys s) (hW : mw D A M H) (t0 : Nat) {cA : ClassId} {n : Nat} {f : Nat → Int64} (he : M a = some (.inl (cA, n, .inr (.inl f)))) (ht : tys[t0]? = some (cA, .long)) {i : Int32} (hin : vp_in i n) (hdg : decode cc pc = .ok (.laload, 1))
    (kk : W p l e R s m args below meth c H locs cells slots Q (F0 m (pc + 1) ls (.long (f i.toNatClampNeg) :: rest))) : W p l e R s m args below meth c H locs cells slots Q (F0 m pc ls (.int i :: .ref a :: rest)) :=
  va_lald F.1 F.2.1 hK (hW.one he) 0 t0 rfl ht hin hdg kk
theorem mw_aald (F : CallFix p m c cc nL s args Ts own) (hK : va_K D vwCl tys s) (hW : mw D A M H) (t0 : Nat) {cA : ClassId} {C : String} {n : Nat} {f : Nat → Option Nat} (he : M a = some (.inl (cA, n, .inr (.inr (.inr (.inr f)))))) (ht : tys[t0]? = some (cA, .object C)) {i : Int32} (hin : vp_in i n) (hdg : decode cc pc = .ok (.aaload, 1))
    (kk : W p l e R s m args below meth c H locs cells slots Q (F0 m (pc + 1) ls (va_rf (f i.toNatClampNeg) :: rest))) : W p l e R s m args below meth c H locs cells slots Q (F0 m pc ls (.int i :: .ref a :: rest)) :=
  va_aldq F.1 F.2.1 hK (hW.one he) 0 t0 rfl ht hin hdg kk
theorem mw_iast (F : CallFix p m c cc nL s args Ts own) (hK : va_K D vwCl tys s) (hW : mw D A M H) (hS : va_S A H0 H locs) (t0 : Nat) {cA : ClassId} {n : Nat} {f : Nat → Int32} (he : M a = some (.inl (cA, n, .inl f))) (ht : tys[t0]? = some (cA, .int)) {i x : Int32} (hin : vp_in i n) (hdg : decode cc pc = .ok (.iastore, 1))
    (kk : ∀ (H1 : Heap) (locs1 : List Loc), mw D A (va_up M a (some (.inl (cA, n, .inl (upd f i.toNatClampNeg x))))) H1 → va_S A H0 H1 locs1 → W p l e R s m args below meth c H1 locs1 cells slots Q (F0 m (pc + 1) ls rest)) : W p l e R s m args below meth c H locs cells slots Q (F0 m pc ls (.int x :: .int i :: .ref a :: rest)) := by
  obtain ⟨L, g, hM, hP, hD⟩ := hW
  obtain ⟨h1, h2⟩ := mw_mem hM he
  obtain ⟨q, hq⟩ := mw_get_ix (f := g) h1
  refine va_iast F.1 F.2.1 hK hP hD hS q t0 (by rw [← h2]; exact hq) ht hin hdg (fun H1 locs1 hP1 hD1 hS1 => kk H1 locs1 ⟨L, _, fun b => ?_, by rw [mw_set_ix hD h1 hq] at hP1; exact hP1, by rw [mw_set_ix hD h1 hq] at hD1; exact hD1⟩ hS1)
  by_cases hb : b = a
  · subst hb
    rw [va_up_self, va_up_self, if_pos h1]
  · rw [va_up_ne _ _ hb, va_up_ne _ _ hb]
    exact hM b
theorem mw_last (F : CallFix p m c cc nL s args Ts own) (hK : va_K D vwCl tys s) (hW : mw D A M H) (hS : va_S A H0 H locs) (t0 : Nat) {cA : ClassId} {n : Nat} {f : Nat → Int64} (he : M a = some (.inl (cA, n, .inr (.inl f)))) (ht : tys[t0]? = some (cA, .long)) {i : Int32} {x : Int64} (hin : vp_in i n) (hdg : decode cc pc = .ok (.lastore, 1))
    (kk : ∀ (H1 : Heap) (locs1 : List Loc), mw D A (va_up M a (some (.inl (cA, n, .inr (.inl (vp_updL f i.toNatClampNeg x)))))) H1 → va_S A H0 H1 locs1 → W p l e R s m args below meth c H1 locs1 cells slots Q (F0 m (pc + 1) ls rest)) : W p l e R s m args below meth c H locs cells slots Q (F0 m pc ls (.long x :: .int i :: .ref a :: rest)) := by
  obtain ⟨L, g, hM, hP, hD⟩ := hW
  obtain ⟨h1, h2⟩ := mw_mem hM he
  obtain ⟨q, hq⟩ := mw_get_ix (f := g) h1
  refine va_last F.1 F.2.1 hK hP hD hS q t0 (by rw [← h2]; exact hq) ht hin hdg (fun H1 locs1 hP1 hD1 hS1 => kk H1 locs1 ⟨L, _, fun b => ?_, by rw [mw_set_ix hD h1 hq] at hP1; exact hP1, by rw [mw_set_ix hD h1 hq] at hD1; exact hD1⟩ hS1)
  by_cases hb : b = a
  · subst hb
    rw [va_up_self, va_up_self, if_pos h1]
  · rw [va_up_ne _ _ hb, va_up_ne _ _ hb]
    exact hM b
theorem mw_aast (F : CallFix p m c cc nL s args Ts own) (hK : va_K D vwCl tys s) (hW : mw D A M H) (hS : va_S A H0 H locs) (t0 ci : Nat) {cA : ClassId} {r : vw_C} {n v : Nat} {vs : List Value} {f : Nat → Option Nat} (he : M a = some (.inl (cA, n, .inr (.inr (.inr (.inr f)))))) (ht : tys[t0]? = some (cA, .object r.1)) (hv : M v = some (.inr (ci, vs))) (hc : vwCl[ci]? = some r) {i : Int32} (hin : vp_in i n) (hdg : decode cc pc = .ok (.aastore, 1))
    (kk : ∀ (H1 : Heap) (locs1 : List Loc), mw D A (va_up M a (some (.inl (cA, n, .inr (.inr (.inr (.inr (va_up f i.toNatClampNeg (some v))))))))) H1 → va_S A H0 H1 locs1 → W p l e R s m args below meth c H1 locs1 cells slots Q (F0 m (pc + 1) ls rest)) : W p l e R s m args below meth c H locs cells slots Q (F0 m pc ls (.ref v :: .int i :: .ref a :: rest)) := by
  obtain ⟨L, g, hM, hP, hD⟩ := hW
  obtain ⟨h1, h2⟩ := mw_mem hM he
  obtain ⟨q, hq⟩ := mw_get_ix (f := g) h1
  obtain ⟨h3, h4⟩ := mw_mem hM hv
  obtain ⟨qv, hqv⟩ := mw_get_ix (f := g) h3
  refine va_astq F.1 F.2.1 hK hP hD hS q t0 qv ci (by rw [← h2]; exact hq) ht (by rw [← h4]; exact hqv) hc hin hdg (fun H1 locs1 hP1 hD1 hS1 => kk H1 locs1 ⟨L, _, fun b => ?_, by rw [mw_set_ix hD h1 hq] at hP1; exact hP1, by rw [mw_set_ix hD h1 hq] at hD1; exact hD1⟩ hS1)
  by_cases hb : b = a
  · subst hb
    rw [va_up_self, va_up_self, if_pos h1]
  · rw [va_up_ne _ _ hb, va_up_ne _ _ hb]
    exact hM b
theorem mw_aastN (F : CallFix p m c cc nL s args Ts own) (hK : va_K D vwCl tys s) (hW : mw D A M H) (hS : va_S A H0 H locs) (t0 : Nat) {cA : ClassId} {C : String} {n : Nat} {f : Nat → Option Nat} (he : M a = some (.inl (cA, n, .inr (.inr (.inr (.inr f)))))) (ht : tys[t0]? = some (cA, .object C)) {i : Int32} (hin : vp_in i n) (hdg : decode cc pc = .ok (.aastore, 1))
    (kk : ∀ (H1 : Heap) (locs1 : List Loc), mw D A (va_up M a (some (.inl (cA, n, .inr (.inr (.inr (.inr (va_up f i.toNatClampNeg none)))))))) H1 → va_S A H0 H1 locs1 → W p l e R s m args below meth c H1 locs1 cells slots Q (F0 m (pc + 1) ls rest)) : W p l e R s m args below meth c H locs cells slots Q (F0 m pc ls (.null :: .int i :: .ref a :: rest)) := by
  obtain ⟨L, g, hM, hP, hD⟩ := hW
  obtain ⟨h1, h2⟩ := mw_mem hM he
  obtain ⟨q, hq⟩ := mw_get_ix (f := g) h1
  refine va_astqN F.1 F.2.1 hK hP hD hS q t0 (by rw [← h2]; exact hq) ht hin hdg (fun H1 locs1 hP1 hD1 hS1 => kk H1 locs1 ⟨L, _, fun b => ?_, by rw [mw_set_ix hD h1 hq] at hP1; exact hP1, by rw [mw_set_ix hD h1 hq] at hD1; exact hD1⟩ hS1)
  by_cases hb : b = a
  · subst hb
    rw [va_up_self, va_up_self, if_pos h1]
  · rw [va_up_ne _ _ hb, va_up_ne _ _ hb]
    exact hM b
theorem mw_push {D : va_G} {A : Nat → Prop} {M : Nat → Option va_E} {H1 : Heap} {L : List Nat} {f : Nat → va_E} {q : Nat} {x : va_E} (hM : ∀ a, M a = if a ∈ L then some (f a) else none) (hq : q ∉ L) (hP : va_P D vwCl (va_pl L f ++ [(q, x)]) H1) (hD : va_D A (va_pl L f ++ [(q, x)])) : mw D A (va_up M q (some x)) H1 := by
  rw [va_pl_push hq] at hP hD
  refine ⟨L ++ [q], _, fun b => ?_, hP, hD⟩
  by_cases hb : b = q
  · subst hb
    rw [va_up_self, va_up_self, if_pos (List.mem_append_right _ (List.mem_singleton.mpr rfl))]
  · rw [va_up_ne _ _ hb, va_up_ne _ _ hb, hM b]
    simp [hb]
theorem mw_new (F : CallFix p m c cc nL s args Ts own) (hK : va_K D vwCl tys s) (hW : mw D A M H) (hS : va_S A H0 H locs) (hA : ∀ q, H0.size ≤ q → A q) {C : String} {T : u_T} {N ci index : Nat} (hin : ∀ w ∈ u_ws C T N, w ∈ Ts) (ty : Nat → FieldType) (hty : ∀ k, k < N → parseFieldDescriptor (T k).2.2.1 = some (ty k)) (hcl : (Cond.classLink own index C).before args s = true) (hinst : (Cond.instantiable C N).before args s = true) (hini : (Cond.initialized C).before args s = true) (hc : vwCl[ci]? = some (C, T, N)) {fs : List Value} (hfs : ∀ j, j < N → defaultValue (ty j) = vp_V fs j) (hcells : cells + 1 ≤ R.cells) (hslots : slots + N ≤ R.slots) (hdg : decode cc pc = .ok (.new index, 3))
    (kk : ∀ (q : Nat) (H1 : Heap), M q = none → mw D A (va_up M q (some (.inr (ci, fs)))) H1 → va_S A H0 H1 locs → W p l e R s m args below meth c H1 locs (cells + 1) (slots + N) Q (F0 m (pc + 3) ls (.ref q :: rest))) : W p l e R s m args below meth c H locs cells slots Q (F0 m pc ls rest) := by
  obtain ⟨L, g, hM, hP, hD⟩ := hW
  refine va_new F.1 F.2.1 F.2.2.2.2 hin ty hty F.2.2.2.1 hcl hinst hini hK hP hD hS hA hc hfs hcells hslots hdg (fun q H1 hP1 hD1 hS1 => ?_)
  have hq : q ∉ L := va_pl_fresh2 (X := []) hD1
  exact kk q H1 (by rw [hM q, if_neg hq]) (mw_push hM hq hP1 hD1) hS1
theorem mw_newa (F : CallFix p m c cc nL s args Ts own) (hK : va_K D vwCl tys s) (hW : mw D A M H) (hS : va_S A H0 H locs) (hA : ∀ q, H0.size ≤ q → A q) (t0 : Nat) {cA : ClassId} {atype : ArrayType} (harr : (Cond.arrayClass (newarray.typeOf atype)).before args s = true) {ty : FieldType} (hty : newarray.typeOf atype = ty) (ht : tys[t0]? = some (cA, ty)) (hprim : ∀ C, ty ≠ .object C)
    {n : Int32} {N' : Nat} {a0 : vp_A} (ha : ∀ cA : ClassId, vp_cell cA a0 = arrV cA N' (fun _ => defaultValue ty)) (hn : ¬ n < 0) (hN : n.toNatClampNeg = N') (hbytes : N' * componentBytes ty ≤ 536870912) (hcells : cells + 1 ≤ R.cells) (hslots : slots + N' ≤ R.slots) (hdg : decode cc pc = .ok (.newarray atype, 2))
    (kk : ∀ (q : Nat) (H1 : Heap), M q = none → mw D A (va_up M q (some (.inl (cA, a0)))) H1 → va_S A H0 H1 locs → W p l e R s m args below meth c H1 locs (cells + 1) (slots + N') Q (F0 m (pc + 2) ls (.ref q :: rest))) : W p l e R s m args below meth c H locs cells slots Q (F0 m pc ls (.int n :: rest)) := by
  obtain ⟨L, g, hM, hP, hD⟩ := hW
  refine va_newa F.1 F.2.1 harr hty hK hP hD hS hA ha hn hN hbytes hcells hslots hdg (fun q cA1 H1 hK1 hP1 hD1 hS1 => ?_)
  have hq : q ∉ L := va_pl_fresh2 (X := []) hD1
  have e1 : cA1 = cA := by
    have h1 := (hK1.2 tys.length (cA1, ty) (by simp)).2
    have h2 := (hK.2 t0 _ ht).2
    cases ty <;> first | exact absurd rfl (hprim _) | exact Option.some.inj (h1.symm.trans h2)
  subst e1
  exact kk q H1 (by rw [hM q, if_neg hq]) (mw_push hM hq hP1 hD1) hS1
theorem mw_newq (F : CallFix p m c cc nL s args Ts own) (hK : va_K D vwCl tys s) (hW : mw D A M H) (hS : va_S A H0 H locs) (hA : ∀ q, H0.size ≤ q → A q) (t0 : Nat) {cA : ClassId} {C : String} {index : Nat} (hclink : (Cond.classLink own index C).before args s = true) (hover : va_AO C s) (ht : tys[t0]? = some (cA, .object C))
    {n : Int32} {N' : Nat} (hn : ¬ n < 0) (hN : n.toNatClampNeg = N') (hbytes : N' * 4 ≤ 536870912) (hcells : cells + 1 ≤ R.cells) (hslots : slots + N' ≤ R.slots) (hdg : decode cc pc = .ok (.anewarray index, 3))
    (kk : ∀ (q : Nat) (H1 : Heap), M q = none → mw D A (va_up M q (some (.inl (cA, N', .inr (.inr (.inr (.inr (fun _ => none)))))))) H1 → va_S A H0 H1 locs → W p l e R s m args below meth c H1 locs (cells + 1) (slots + N') Q (F0 m (pc + 3) ls (.ref q :: rest))) : W p l e R s m args below meth c H locs cells slots Q (F0 m pc ls (.int n :: rest)) := by
  obtain ⟨L, g, hM, hP, hD⟩ := hW
  refine va_newq F.1 F.2.1 F.2.2.2.1 hclink hover hK hP hD hS hA hn hN hbytes hcells hslots hdg (fun q cA1 H1 hK1 hP1 hD1 hS1 => ?_)
  have hq : q ∉ L := va_pl_fresh2 (X := []) hD1
  have e1 : cA1 = cA := by
    obtain ⟨-, -, -, -, -, h1⟩ := (hK1.2 tys.length (cA1, .object C) (by simp)).2
    obtain ⟨-, -, -, -, -, h2⟩ := (hK.2 t0 _ ht).2
    exact Option.some.inj (h1.symm.trans h2)
  subst e1
  exact kk q H1 (by rw [hM q, if_neg hq]) (mw_push hM hq hP1 hD1) hS1
theorem mw_copyl (F : CallFix p m c cc nL s args Ts own) (hsz : ls.size = nL) (hK : va_K D vwCl tys s) (hW : mw D A M H) (hS : va_S A H0 H locs) (t0 : Nat) {index : Nat} (hlink : (Cond.methodLink own index arraycopyName).before args s = true) (hnat : (Cond.native arraycopyName).before args s = true) (hstat : (Cond.static arraycopyName).before args s = true) (hini : (Cond.initialized "java/lang/System").before args s = true) {a0 : Nat} {cA : ClassId} {n0 n1 : Nat} {f g : Nat → Int64} (he0 : M a0 = some (.inl (cA, n0, .inr (.inl f)))) (he1 : M a = some (.inl (cA, n1, .inr (.inl g)))) (ht : tys[t0]? = some (cA, .long))
    {sp dp n : Int32} (h1 : ¬ sp < 0) (h2 : ¬ dp < 0) (h3 : ¬ n < 0) (h4 : sp.toNatClampNeg + n.toNatClampNeg ≤ n0) (h5 : dp.toNatClampNeg + n.toNatClampNeg ≤ n1) (hframes : 1 ≤ R.frames) (hlocals : (rest.map fun v => v.category).sum + (nativeFrameWords "java/lang/System" "arraycopy" 5 + 11) ≤ R.locals) (hdg : decode cc pc = .ok (.invokestatic index, 3))
    (kk : ∀ (H1 : Heap) (locs1 : List Loc), mw D A (va_up M a (some (.inl (cA, n1, .inr (.inl (va_cpy f g sp.toNatClampNeg dp.toNatClampNeg n.toNatClampNeg)))))) H1 → va_S A H0 H1 locs1 → W p l e R s m args below meth c H1 locs1 cells slots Q (F0 m (pc + 3) ls rest)) : W p l e R s m args below meth c H locs cells slots Q (F0 m pc ls (.int n :: .int dp :: .ref a :: .int sp :: .ref a0 :: rest)) := by
  obtain ⟨L, gg, hM, hP, hD⟩ := hW
  obtain ⟨i1, i2⟩ := mw_mem hM he0
  obtain ⟨q0, hq0⟩ := mw_get_ix (f := gg) i1
  obtain ⟨j1, j2⟩ := mw_mem hM he1
  obtain ⟨q1, hq1⟩ := mw_get_ix (f := gg) j1
  refine va_copyl F.1 F.2.1 (F.2.2.1.trans hsz.symm) F.2.2.2.1 hlink hnat hstat hini hK hP hD hS q0 q1 t0 t0 (by rw [← i2]; exact hq0) (by rw [← j2]; exact hq1) ht ht rfl h1 h2 h3 h4 h5 (fun i _ => rfl) hframes hlocals hdg (fun H1 locs1 hP1 hD1 hS1 => kk H1 locs1 ⟨L, _, fun b => ?_, by rw [mw_set_ix hD j1 hq1] at hP1; exact hP1, by rw [mw_set_ix hD j1 hq1] at hD1; exact hD1⟩ hS1)
  by_cases hb : b = a
  · subst hb
    rw [va_up_self, va_up_self, if_pos j1]
  · rw [va_up_ne _ _ hb, va_up_ne _ _ hb]
    exact hM b
theorem mw_copyq (F : CallFix p m c cc nL s args Ts own) (hsz : ls.size = nL) (hK : va_K D vwCl tys s) (hW : mw D A M H) (hS : va_S A H0 H locs) (t0 ci : Nat) {r : vw_C} (hc : vwCl[ci]? = some r) {index : Nat} (hlink : (Cond.methodLink own index arraycopyName).before args s = true) (hnat : (Cond.native arraycopyName).before args s = true) (hstat : (Cond.static arraycopyName).before args s = true) (hini : (Cond.initialized "java/lang/System").before args s = true) {a0 : Nat} {cA : ClassId} {n0 n1 : Nat} {f g : Nat → Option Nat} (he0 : M a0 = some (.inl (cA, n0, .inr (.inr (.inr (.inr f)))))) (he1 : M a = some (.inl (cA, n1, .inr (.inr (.inr (.inr g)))))) (ht : tys[t0]? = some (cA, .object r.1))
    {sp dp n : Int32} (h1 : ¬ sp < 0) (h2 : ¬ dp < 0) (h3 : ¬ n < 0) (h4 : sp.toNatClampNeg + n.toNatClampNeg ≤ n0) (h5 : dp.toNatClampNeg + n.toNatClampNeg ≤ n1) (hel : ∀ i : Nat, i < n.toNatClampNeg → ∀ y : Nat, f (sp.toNatClampNeg + i) = some y → ∃ fs, M y = some (.inr (ci, fs))) (hframes : 1 ≤ R.frames) (hlocals : (rest.map fun v => v.category).sum + (nativeFrameWords "java/lang/System" "arraycopy" 5 + 11) ≤ R.locals) (hdg : decode cc pc = .ok (.invokestatic index, 3))
    (kk : ∀ (H1 : Heap) (locs1 : List Loc), mw D A (va_up M a (some (.inl (cA, n1, .inr (.inr (.inr (.inr (va_cpy f g sp.toNatClampNeg dp.toNatClampNeg n.toNatClampNeg)))))))) H1 → va_S A H0 H1 locs1 → W p l e R s m args below meth c H1 locs1 cells slots Q (F0 m (pc + 3) ls rest)) : W p l e R s m args below meth c H locs cells slots Q (F0 m pc ls (.int n :: .int dp :: .ref a :: .int sp :: .ref a0 :: rest)) := by
  have hW0 := hW
  obtain ⟨L, gg, hM, hP, hD⟩ := hW
  obtain ⟨i1, i2⟩ := mw_mem hM he0
  obtain ⟨q0, hq0⟩ := mw_get_ix (f := gg) i1
  obtain ⟨j1, j2⟩ := mw_mem hM he1
  obtain ⟨q1, hq1⟩ := mw_get_ix (f := gg) j1
  refine va_copyq (C := r.1) F.1 F.2.1 (F.2.2.1.trans hsz.symm) F.2.2.2.1 hlink hnat hstat hini hK hP hD hS q0 q1 t0 t0 (by rw [← i2]; exact hq0) (by rw [← j2]; exact hq1) ht ht h1 h2 h3 h4 h5 (fun i hi y hy => ?_) (fun comp c0 k1 k2 => ?_) hframes hlocals hdg (fun H1 locs1 hP1 hD1 hS1 => kk H1 locs1 ⟨L, _, fun b => ?_, by rw [mw_set_ix hD j1 hq1] at hP1; exact hP1, by rw [mw_set_ix hD j1 hq1] at hD1; exact hD1⟩ hS1)
  · obtain ⟨fs, hfs⟩ := hel i hi y hy
    exact mw_recv hK hW0 hc hfs
  · cases k1.symm.trans k2
    have h9 := (hK.1 ci r hc).2
    cases h9.1.symm.trans k1
    exact va_assign h9
  · by_cases hb : b = a
    · subst hb
      rw [va_up_self, va_up_self, if_pos j1]
    · rw [va_up_ne _ _ hb, va_up_ne _ _ hb]
      exact hM b
end MWR
end
