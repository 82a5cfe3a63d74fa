section
-- ===== PART A: goes FIRST, ahead of the names: the tables' words, and 'selects' of the private methods out of them =====
/-- a private method of a class that the tables say can be made, by its rows of tables_1 -/
def lw_okq (q : MethodName × Nat) : Prop := (q.1.cls ≠ "java/lang/invoke/MethodHandle" ∧ q.1.cls ≠ "java/lang/invoke/VarHandle") ∧ Cond.instantiable q.1.cls q.2 ∈ tables_1 ∧ Cond.privateMethod q.1 ∈ tables_1 ∧ Cond.instanceMethod q.1 ∈ tables_1
theorem lw_p0 : lw_okq (⟨"SpliceBench", "putCard", "(LSpliceBench$Holding;IJ)I"⟩, 8) := ⟨⟨by decide +kernel, by decide +kernel⟩, List.mem_of_getElem? (i := 7) (by decide +kernel), List.mem_of_getElem? (i := 96) (by decide +kernel), List.mem_of_getElem? (i := 97) (by decide +kernel)⟩
theorem lw_p1 : lw_okq (⟨"SpliceBench", "end", "(III)I"⟩, 8) := ⟨⟨by decide +kernel, by decide +kernel⟩, List.mem_of_getElem? (i := 7) (by decide +kernel), List.mem_of_getElem? (i := 143) (by decide +kernel), List.mem_of_getElem? (i := 144) (by decide +kernel)⟩
theorem lw_p2 : lw_okq (⟨"SpliceBench", "cover", "(LSpliceBench$Holding;)V"⟩, 8) := ⟨⟨by decide +kernel, by decide +kernel⟩, List.mem_of_getElem? (i := 7) (by decide +kernel), List.mem_of_getElem? (i := 157) (by decide +kernel), List.mem_of_getElem? (i := 158) (by decide +kernel)⟩
theorem lw_p3 : lw_okq (⟨"SpliceBench", "rowBehind", "(LSpliceBench$Holding;)LSpliceBench$Holding;"⟩, 8) := ⟨⟨by decide +kernel, by decide +kernel⟩, List.mem_of_getElem? (i := 7) (by decide +kernel), List.mem_of_getElem? (i := 161) (by decide +kernel), List.mem_of_getElem? (i := 162) (by decide +kernel)⟩
theorem lw_p4 : lw_okq (⟨"SpliceBench", "shift", "(IIIZ)I"⟩, 8) := ⟨⟨by decide +kernel, by decide +kernel⟩, List.mem_of_getElem? (i := 7) (by decide +kernel), List.mem_of_getElem? (i := 177) (by decide +kernel), List.mem_of_getElem? (i := 178) (by decide +kernel)⟩
theorem lw_p5 : lw_okq (⟨"SpliceBenchModel", "isHeld", "(I)Z"⟩, 14) := ⟨⟨by decide +kernel, by decide +kernel⟩, List.mem_of_getElem? (i := 227) (by decide +kernel), List.mem_of_getElem? (i := 283) (by decide +kernel), List.mem_of_getElem? (i := 284) (by decide +kernel)⟩
theorem lw_p6 : lw_okq (⟨"SpliceBenchModel", "kindOf", "(I)I"⟩, 14) := ⟨⟨by decide +kernel, by decide +kernel⟩, List.mem_of_getElem? (i := 227) (by decide +kernel), List.mem_of_getElem? (i := 291) (by decide +kernel), List.mem_of_getElem? (i := 292) (by decide +kernel)⟩
theorem lw_p7 : lw_okq (⟨"SpliceBenchModel", "isPlace", "(II)Z"⟩, 14) := ⟨⟨by decide +kernel, by decide +kernel⟩, List.mem_of_getElem? (i := 227) (by decide +kernel), List.mem_of_getElem? (i := 299) (by decide +kernel), List.mem_of_getElem? (i := 300) (by decide +kernel)⟩
theorem lw_p8 : lw_okq (⟨"SpliceBenchModel", "sizeOf", "(I)I"⟩, 14) := ⟨⟨by decide +kernel, by decide +kernel⟩, List.mem_of_getElem? (i := 227) (by decide +kernel), List.mem_of_getElem? (i := 303) (by decide +kernel), List.mem_of_getElem? (i := 304) (by decide +kernel)⟩
theorem lw_p9 : lw_okq (⟨"SpliceBenchModel", "hasPlaces", "(I)Z"⟩, 14) := ⟨⟨by decide +kernel, by decide +kernel⟩, List.mem_of_getElem? (i := 227) (by decide +kernel), List.mem_of_getElem? (i := 307) (by decide +kernel), List.mem_of_getElem? (i := 308) (by decide +kernel)⟩
theorem lw_p10 : lw_okq (⟨"SpliceBenchModel", "fails", "(I)I"⟩, 14) := ⟨⟨by decide +kernel, by decide +kernel⟩, List.mem_of_getElem? (i := 227) (by decide +kernel), List.mem_of_getElem? (i := 315) (by decide +kernel), List.mem_of_getElem? (i := 316) (by decide +kernel)⟩
theorem lw_p11 : lw_okq (⟨"SpliceBenchModel", "place", "(II)J"⟩, 14) := ⟨⟨by decide +kernel, by decide +kernel⟩, List.mem_of_getElem? (i := 227) (by decide +kernel), List.mem_of_getElem? (i := 322) (by decide +kernel), List.mem_of_getElem? (i := 323) (by decide +kernel)⟩
theorem lw_p12 : lw_okq (⟨"SpliceBenchModel", "isPlain", "(J)Z"⟩, 14) := ⟨⟨by decide +kernel, by decide +kernel⟩, List.mem_of_getElem? (i := 227) (by decide +kernel), List.mem_of_getElem? (i := 326) (by decide +kernel), List.mem_of_getElem? (i := 327) (by decide +kernel)⟩
theorem lw_p13 : lw_okq (⟨"SpliceBenchModel", "cover", "(I)V"⟩, 14) := ⟨⟨by decide +kernel, by decide +kernel⟩, List.mem_of_getElem? (i := 227) (by decide +kernel), List.mem_of_getElem? (i := 330) (by decide +kernel), List.mem_of_getElem? (i := 331) (by decide +kernel)⟩
theorem lw_p14 : lw_okq (⟨"SpliceBenchModel", "shifts", "(IIIZ)I"⟩, 14) := ⟨⟨by decide +kernel, by decide +kernel⟩, List.mem_of_getElem? (i := 227) (by decide +kernel), List.mem_of_getElem? (i := 338) (by decide +kernel), List.mem_of_getElem? (i := 339) (by decide +kernel)⟩
theorem lw_p15 : lw_okq (⟨"SpliceBenchModel", "hinders", "(III)I"⟩, 14) := ⟨⟨by decide +kernel, by decide +kernel⟩, List.mem_of_getElem? (i := 227) (by decide +kernel), List.mem_of_getElem? (i := 342) (by decide +kernel), List.mem_of_getElem? (i := 343) (by decide +kernel)⟩
def lw_privs_1 : List (MethodName × Nat) := [(⟨"SpliceBench", "putCard", "(LSpliceBench$Holding;IJ)I"⟩, 8), (⟨"SpliceBench", "end", "(III)I"⟩, 8), (⟨"SpliceBench", "cover", "(LSpliceBench$Holding;)V"⟩, 8), (⟨"SpliceBench", "rowBehind", "(LSpliceBench$Holding;)LSpliceBench$Holding;"⟩, 8), (⟨"SpliceBench", "shift", "(IIIZ)I"⟩, 8), (⟨"SpliceBenchModel", "isHeld", "(I)Z"⟩, 14), (⟨"SpliceBenchModel", "kindOf", "(I)I"⟩, 14), (⟨"SpliceBenchModel", "isPlace", "(II)Z"⟩, 14), (⟨"SpliceBenchModel", "sizeOf", "(I)I"⟩, 14), (⟨"SpliceBenchModel", "hasPlaces", "(I)Z"⟩, 14), (⟨"SpliceBenchModel", "fails", "(I)I"⟩, 14), (⟨"SpliceBenchModel", "place", "(II)J"⟩, 14), (⟨"SpliceBenchModel", "isPlain", "(J)Z"⟩, 14), (⟨"SpliceBenchModel", "cover", "(I)V"⟩, 14), (⟨"SpliceBenchModel", "shifts", "(IIIZ)I"⟩, 14), (⟨"SpliceBenchModel", "hinders", "(III)I"⟩, 14)]
theorem lw_r1 : ∀ q ∈ lw_privs_1, lw_okq q := List.forall_mem_cons.mpr ⟨lw_p0, List.forall_mem_cons.mpr ⟨lw_p1, List.forall_mem_cons.mpr ⟨lw_p2, List.forall_mem_cons.mpr ⟨lw_p3, List.forall_mem_cons.mpr ⟨lw_p4, List.forall_mem_cons.mpr ⟨lw_p5, List.forall_mem_cons.mpr ⟨lw_p6, List.forall_mem_cons.mpr ⟨lw_p7, List.forall_mem_cons.mpr ⟨lw_p8, List.forall_mem_cons.mpr ⟨lw_p9, List.forall_mem_cons.mpr ⟨lw_p10, List.forall_mem_cons.mpr ⟨lw_p11, List.forall_mem_cons.mpr ⟨lw_p12, List.forall_mem_cons.mpr ⟨lw_p13, List.forall_mem_cons.mpr ⟨lw_p14, List.forall_mem_cons.mpr ⟨lw_p15, fun _ h => absurd h List.not_mem_nil⟩⟩⟩⟩⟩⟩⟩⟩⟩⟩⟩⟩⟩⟩⟩⟩
theorem lw_p16 : lw_okq (⟨"SpliceBenchModel", "isRack", "(I)Z"⟩, 14) := ⟨⟨by decide +kernel, by decide +kernel⟩, List.mem_of_getElem? (i := 227) (by decide +kernel), List.mem_of_getElem? (i := 366) (by decide +kernel), List.mem_of_getElem? (i := 367) (by decide +kernel)⟩
def lw_privs_2 : List (MethodName × Nat) := [(⟨"SpliceBenchModel", "isRack", "(I)Z"⟩, 14)]
theorem lw_r2 : ∀ q ∈ lw_privs_2, lw_okq q := List.forall_mem_cons.mpr ⟨lw_p16, fun _ h => absurd h List.not_mem_nil⟩
def lw_privs : List (MethodName × Nat) := lw_privs_1 ++ (lw_privs_2)
def lw_tbl : List Cond := k2_sels lw_privs ++ tables_1
theorem lw_privs_ok : ∀ q ∈ lw_privs, lw_okq q := by
  show ∀ q ∈ lw_privs_1 ++ (lw_privs_2), lw_okq q
  exact List.forall_mem_append.mpr ⟨lw_r1, lw_r2⟩
end
section
/-! ===== BEGIN words of one list among another's, by their places ===== -/
theorem goodIn_r {big : List Cond} (ws : List Cond) (ps : List Nat) (hp : ws = ps.filterMap (fun i => big[i]?)) (h : ws.all goodWord = true) : GoodIn big ws := by
  intro w hw
  have h1 := List.all_eq_true.mp h w hw
  rw [hp] at hw
  obtain ⟨i, -, hi⟩ := List.mem_filterMap.mp hw
  have hm : w ∈ big := by first | exact List.mem_of_getElem? hi | exact List.getElem?_mem hi
  exact ⟨hm, good_of_word h1⟩
theorem goodIn_app {big a b : List Cond} (ha : GoodIn big a) (hb : GoodIn big b) : GoodIn big (a ++ b) := fun w h => (List.mem_append.mp h).elim (ha w) (hb w)
theorem goodIn_ca {big a b : List Cond} {c : Cond} (ha : GoodIn big (c :: a)) (hb : GoodIn big b) : GoodIn big (c :: (a ++ b)) := fun w h => (List.mem_cons.mp h).elim (fun e => ha w (List.mem_cons.mpr (Or.inl e))) (fun h => (List.mem_append.mp h).elim (fun h => ha w (List.mem_cons.mpr (Or.inr h))) (hb w))
theorem goodIn_sub {big ws : List Cond} (hm : ∀ w ∈ ws, w ∈ big) (h : ws.all goodWord = true) : GoodIn big ws := fun w hw => ⟨hm w hw, good_of_word (List.all_eq_true.mp h w hw)⟩
/-! ===== END ===== -/

/-! ===== BEGIN printed: names, fields, word lists, decode rows ===== -/
def RX0 : String := "SpliceBench$Card"
def TX0 : u_T := fun k => match k with
  | 0 => ("SpliceBench$Card", "number", "J", true)
  | 1 => ("SpliceBench$Card", "slide", "Z", true)
  | _ => ("SpliceBench$Card", "shown", "I", false)
def tyX0 : Nat → FieldType := fun k => match k with
  | 0 => .long
  | 1 => .boolean
  | _ => .int
abbrev wsX00 : List Cond := u_ws RX0 TX0 3
theorem nmX0 : ∀ a, a < 3 → ∀ b, b < 3 → a ≠ b → (TX0 a).2.1 ≠ (TX0 b).2.1 := by decide +kernel
theorem tyX0_ok : ∀ k, k < 3 → parseFieldDescriptor (TX0 k).2.2.1 = some (tyX0 k) := by decide +kernel
abbrev cX0_init : ByteArray := prog_2_method_1_code
def yX0_init : MethodName := ⟨RX0, "<init>", "(J)V"⟩
def RX1 : String := "SpliceBench$Holding"
def TX1 : u_T := fun k => match k with
  | 0 => ("SpliceBench$Holding", "kind", "I", true)
  | 1 => ("SpliceBench$Holding", "places", "I", true)
  | 2 => ("SpliceBench$Holding", "numbers", "[J", true)
  | 3 => ("SpliceBench$Holding", "cards", "[LSpliceBench$Card;", true)
  | _ => ("SpliceBench$Holding", "label", "I", false)
def tyX1 : Nat → FieldType := fun k => match k with
  | 0 => .int
  | 1 => .int
  | 2 => .array .long
  | 3 => .array (.object "SpliceBench$Card")
  | _ => .int
abbrev wsX10 : List Cond := u_ws RX1 TX1 5
theorem nmX1 : ∀ a, a < 5 → ∀ b, b < 5 → a ≠ b → (TX1 a).2.1 ≠ (TX1 b).2.1 := by decide +kernel
theorem tyX1_ok : ∀ k, k < 5 → parseFieldDescriptor (TX1 k).2.2.1 = some (tyX1 k) := by decide +kernel
abbrev cX1_init : ByteArray := prog_3_method_1_code
def yX1_init : MethodName := ⟨RX1, "<init>", "(III)V"⟩
abbrev cX1_isStrip : ByteArray := prog_3_method_2_code
def yX1_isStrip : MethodName := ⟨RX1, "isStrip", "()Z"⟩
abbrev cX1_isRack : ByteArray := prog_3_method_3_code
def yX1_isRack : MethodName := ⟨RX1, "isRack", "()Z"⟩
abbrev cX1_isLike : ByteArray := prog_3_method_4_code
def yX1_isLike : MethodName := ⟨RX1, "isLike", "(LSpliceBench$Holding;)Z"⟩
abbrev cX1_hasPlace : ByteArray := prog_3_method_5_code
def yX1_hasPlace : MethodName := ⟨RX1, "hasPlace", "(I)Z"⟩
abbrev cX1_hasPlaces : ByteArray := prog_3_method_6_code
def yX1_hasPlaces : MethodName := ⟨RX1, "hasPlaces", "(II)Z"⟩
abbrev cX1_cardAt : ByteArray := prog_3_method_7_code
def yX1_cardAt : MethodName := ⟨RX1, "cardAt", "(I)LSpliceBench$Card;"⟩
abbrev cX1_admits : ByteArray := prog_3_method_8_code
def yX1_admits : MethodName := ⟨RX1, "admits", "(LSpliceBench$Card;)Z"⟩
abbrev cX1_countAdmitted : ByteArray := prog_3_method_9_code
def yX1_countAdmitted : MethodName := ⟨RX1, "countAdmitted", "(LSpliceBench$Holding;II)I"⟩
abbrev cX1_copyFrom : ByteArray := prog_3_method_10_code
def yX1_copyFrom : MethodName := ⟨RX1, "copyFrom", "(LSpliceBench$Holding;III)V"⟩
abbrev cX1_makeBlank : ByteArray := prog_3_method_11_code
def yX1_makeBlank : MethodName := ⟨RX1, "makeBlank", "(II)V"⟩
abbrev cX1_countFilled : ByteArray := prog_3_method_12_code
def yX1_countFilled : MethodName := ⟨RX1, "countFilled", "()I"⟩
def RX2 : String := "SpliceBench"
def TX2 : u_T := fun k => match k with
  | 0 => ("SpliceBench", "spindles", "[LSpliceBench$Holding;", true)
  | 1 => ("SpliceBench", "endings", "[I", true)
  | 2 => ("SpliceBench", "come", "I", false)
  | 3 => ("SpliceBench", "made", "I", false)
  | 4 => ("SpliceBench", "cardsPut", "I", false)
  | 5 => ("SpliceBench", "covered", "LSpliceBench$Holding;", false)
  | 6 => ("SpliceBench", "coveredStrip", "LSpliceBench$Holding;", true)
  | _ => ("SpliceBench", "coveredRack", "LSpliceBench$Holding;", true)
def tyX2 : Nat → FieldType := fun k => match k with
  | 0 => .array (.object "SpliceBench$Holding")
  | 1 => .array .int
  | 2 => .int
  | 3 => .int
  | 4 => .int
  | 5 => .object "SpliceBench$Holding"
  | 6 => .object "SpliceBench$Holding"
  | _ => .object "SpliceBench$Holding"
abbrev wsX20 : List Cond := u_ws RX2 TX2 8
theorem nmX2 : ∀ a, a < 8 → ∀ b, b < 8 → a ≠ b → (TX2 a).2.1 ≠ (TX2 b).2.1 := by decide +kernel
theorem tyX2_ok : ∀ k, k < 8 → parseFieldDescriptor (TX2 k).2.2.1 = some (tyX2 k) := by decide +kernel
abbrev cX2_init : ByteArray := prog_1_method_1_code
def yX2_init : MethodName := ⟨RX2, "<init>", "()V"⟩
abbrev cX2_hold : ByteArray := prog_1_method_2_code
def yX2_hold : MethodName := ⟨RX2, "hold", "(III)I"⟩
abbrev cX2_thread : ByteArray := prog_1_method_3_code
def yX2_thread : MethodName := ⟨RX2, "thread", "(II)I"⟩
abbrev cX2_put : ByteArray := prog_1_method_4_code
def yX2_put : MethodName := ⟨RX2, "put", "(IIJ)I"⟩
abbrev cX2_putCard : ByteArray := prog_1_method_5_code
def yX2_putCard : MethodName := ⟨RX2, "putCard", "(LSpliceBench$Holding;IJ)I"⟩
abbrev cX2_move : ByteArray := prog_1_method_6_code
def yX2_move : MethodName := ⟨RX2, "move", "(IIIII)I"⟩
abbrev cX2_open : ByteArray := prog_1_method_7_code
def yX2_open : MethodName := ⟨RX2, "open", "(III)I"⟩
abbrev cX2_close : ByteArray := prog_1_method_8_code
def yX2_close : MethodName := ⟨RX2, "close", "(III)I"⟩
abbrev cX2_shift : ByteArray := prog_1_method_9_code
def yX2_shift : MethodName := ⟨RX2, "shift", "(IIIZ)I"⟩
abbrev cX2_back : ByteArray := prog_1_method_10_code
def yX2_back : MethodName := ⟨RX2, "back", "()I"⟩
abbrev cX2_count : ByteArray := prog_1_method_11_code
def yX2_count : MethodName := ⟨RX2, "count", "(I)I"⟩
abbrev cX2_held : ByteArray := prog_1_method_12_code
def yX2_held : MethodName := ⟨RX2, "held", "(II)I"⟩
abbrev cX2_sort : ByteArray := prog_1_method_13_code
def yX2_sort : MethodName := ⟨RX2, "sort", "(II)I"⟩
abbrev cX2_number : ByteArray := prog_1_method_14_code
def yX2_number : MethodName := ⟨RX2, "number", "(II)J"⟩
abbrev cX2_show : ByteArray := prog_1_method_15_code
def yX2_show : MethodName := ⟨RX2, "show", "(I)I"⟩
abbrev cX2_shown : ByteArray := prog_1_method_16_code
def yX2_shown : MethodName := ⟨RX2, "shown", "(II)I"⟩
abbrev cX2_same : ByteArray := prog_1_method_17_code
def yX2_same : MethodName := ⟨RX2, "same", "(IIII)I"⟩
abbrev cX2_isSpindle : ByteArray := prog_1_method_18_code
def yX2_isSpindle : MethodName := ⟨RX2, "isSpindle", "(I)Z"⟩
abbrev cX2_motionFailure : ByteArray := prog_1_method_19_code
def yX2_motionFailure : MethodName := ⟨RX2, "motionFailure", "(LSpliceBench$Holding;ILSpliceBench$Holding;II)I"⟩
abbrev cX2_end : ByteArray := prog_1_method_20_code
def yX2_end : MethodName := ⟨RX2, "end", "(III)I"⟩
abbrev cX2_cover : ByteArray := prog_1_method_21_code
def yX2_cover : MethodName := ⟨RX2, "cover", "(LSpliceBench$Holding;)V"⟩
abbrev cX2_rowBehind : ByteArray := prog_1_method_22_code
def yX2_rowBehind : MethodName := ⟨RX2, "rowBehind", "(LSpliceBench$Holding;)LSpliceBench$Holding;"⟩
def RX3 : String := "SpliceBenchModel"
def TX3 : u_T := fun k => match k with
  | 0 => ("SpliceBenchModel", "holds", "[I", true)
  | 1 => ("SpliceBenchModel", "labels", "[I", true)
  | 2 => ("SpliceBenchModel", "kind", "[I", true)
  | 3 => ("SpliceBenchModel", "size", "[I", true)
  | 4 => ("SpliceBenchModel", "places", "[J", true)
  | 5 => ("SpliceBenchModel", "was", "[J", true)
  | 6 => ("SpliceBenchModel", "cardNumber", "[J", true)
  | 7 => ("SpliceBenchModel", "cardShown", "[I", true)
  | 8 => ("SpliceBenchModel", "failed", "[I", true)
  | 9 => ("SpliceBenchModel", "covered", "I", false)
  | 10 => ("SpliceBenchModel", "came", "I", false)
  | 11 => ("SpliceBenchModel", "good", "I", false)
  | 12 => ("SpliceBenchModel", "rows", "I", false)
  | _ => ("SpliceBenchModel", "cards", "I", false)
def tyX3 : Nat → FieldType := fun k => match k with
  | 0 => .array .int
  | 1 => .array .int
  | 2 => .array .int
  | 3 => .array .int
  | 4 => .array .long
  | 5 => .array .long
  | 6 => .array .long
  | 7 => .array .int
  | 8 => .array .int
  | 9 => .int
  | 10 => .int
  | 11 => .int
  | 12 => .int
  | _ => .int
abbrev wsX30 : List Cond := u_ws RX3 TX3 14
theorem nmX3 : ∀ a, a < 14 → ∀ b, b < 14 → a ≠ b → (TX3 a).2.1 ≠ (TX3 b).2.1 := by decide +kernel
theorem tyX3_ok : ∀ k, k < 14 → parseFieldDescriptor (TX3 k).2.2.1 = some (tyX3 k) := by decide +kernel
abbrev cX3_init : ByteArray := prog_5_method_1_code
def yX3_init : MethodName := ⟨RX3, "<init>", "()V"⟩
abbrev cX3_isSpindle : ByteArray := prog_5_method_2_code
def yX3_isSpindle : MethodName := ⟨RX3, "isSpindle", "(I)Z"⟩
abbrev cX3_kindOf : ByteArray := prog_5_method_3_code
def yX3_kindOf : MethodName := ⟨RX3, "kindOf", "(I)I"⟩
abbrev cX3_hasPlaces : ByteArray := prog_5_method_4_code
def yX3_hasPlaces : MethodName := ⟨RX3, "hasPlaces", "(I)Z"⟩
abbrev cX3_sizeOf : ByteArray := prog_5_method_5_code
def yX3_sizeOf : MethodName := ⟨RX3, "sizeOf", "(I)I"⟩
abbrev cX3_isRack : ByteArray := prog_5_method_6_code
def yX3_isRack : MethodName := ⟨RX3, "isRack", "(I)Z"⟩
abbrev cX3_isPlace : ByteArray := prog_5_method_7_code
def yX3_isPlace : MethodName := ⟨RX3, "isPlace", "(II)Z"⟩
abbrev cX3_place : ByteArray := prog_5_method_8_code
def yX3_place : MethodName := ⟨RX3, "place", "(II)J"⟩
abbrev cX3_isPlain : ByteArray := prog_5_method_9_code
def yX3_isPlain : MethodName := ⟨RX3, "isPlain", "(J)Z"⟩
abbrev cX3_isHeld : ByteArray := prog_5_method_10_code
def yX3_isHeld : MethodName := ⟨RX3, "isHeld", "(I)Z"⟩
abbrev cX3_hold : ByteArray := prog_5_method_11_code
def yX3_hold : MethodName := ⟨RX3, "hold", "(III)I"⟩
abbrev cX3_thread : ByteArray := prog_5_method_12_code
def yX3_thread : MethodName := ⟨RX3, "thread", "(II)I"⟩
abbrev cX3_put : ByteArray := prog_5_method_13_code
def yX3_put : MethodName := ⟨RX3, "put", "(IIJ)I"⟩
abbrev cX3_fails : ByteArray := prog_5_method_14_code
def yX3_fails : MethodName := ⟨RX3, "fails", "(I)I"⟩
abbrev cX3_cover : ByteArray := prog_5_method_15_code
def yX3_cover : MethodName := ⟨RX3, "cover", "(I)V"⟩
abbrev cX3_isBeyond : ByteArray := prog_5_method_16_code
def yX3_isBeyond : MethodName := ⟨RX3, "isBeyond", "(III)Z"⟩
abbrev cX3_move : ByteArray := prog_5_method_17_code
def yX3_move : MethodName := ⟨RX3, "move", "(IIIII)I"⟩
abbrev cX3_hinders : ByteArray := prog_5_method_18_code
def yX3_hinders : MethodName := ⟨RX3, "hinders", "(III)I"⟩
abbrev cX3_shifts : ByteArray := prog_5_method_19_code
def yX3_shifts : MethodName := ⟨RX3, "shifts", "(IIIZ)I"⟩
abbrev cX3_open : ByteArray := prog_5_method_20_code
def yX3_open : MethodName := ⟨RX3, "open", "(III)I"⟩
abbrev cX3_close : ByteArray := prog_5_method_21_code
def yX3_close : MethodName := ⟨RX3, "close", "(III)I"⟩
abbrev cX3_back : ByteArray := prog_5_method_22_code
def yX3_back : MethodName := ⟨RX3, "back", "()I"⟩
abbrev cX3_count : ByteArray := prog_5_method_23_code
def yX3_count : MethodName := ⟨RX3, "count", "(I)I"⟩
abbrev cX3_held : ByteArray := prog_5_method_24_code
def yX3_held : MethodName := ⟨RX3, "held", "(II)I"⟩
abbrev cX3_sort : ByteArray := prog_5_method_25_code
def yX3_sort : MethodName := ⟨RX3, "sort", "(II)I"⟩
abbrev cX3_number : ByteArray := prog_5_method_26_code
def yX3_number : MethodName := ⟨RX3, "number", "(II)J"⟩
abbrev cX3_show : ByteArray := prog_5_method_27_code
def yX3_show : MethodName := ⟨RX3, "show", "(I)I"⟩
abbrev cX3_shown : ByteArray := prog_5_method_28_code
def yX3_shown : MethodName := ⟨RX3, "shown", "(II)I"⟩
abbrev cX3_same : ByteArray := prog_5_method_29_code
def yX3_same : MethodName := ⟨RX3, "same", "(IIII)I"⟩
def RJ10 : String := "java/lang/System"
def TJ10 : u_T := fun k => match k with
  | _ => ("", "", "", false)
def tyJ10 : Nat → FieldType := fun k => match k with
  | _ => .int
abbrev wsJ100 : List Cond := u_ws RJ10 TJ10 0
theorem nmJ10 : ∀ a, a < 0 → ∀ b, b < 0 → a ≠ b → (TJ10 a).2.1 ≠ (TJ10 b).2.1 := by decide +kernel
theorem tyJ10_ok : ∀ k, k < 0 → parseFieldDescriptor (TJ10 k).2.2.1 = some (tyJ10 k) := by decide +kernel
def RL : String := "SpliceBenchLaw"
abbrev cL_law : ByteArray := code
def yL_law : MethodName := ⟨RL, "law", "([I)Z"⟩
def wsX0_init : List Cond := .code yX0_init cX0_init 3 none :: ([.methodLink RX0 1 objectInit, .instanceMethod objectInit, .code objectInit ⟨#[0xb1]⟩ 1 none, .fieldLink RX0 7 "SpliceBench$Card" "shown" "I", .fieldLink RX0 13 "SpliceBench$Card" "number" "J", .fieldLink RX0 17 "SpliceBench$Card" "slide" "Z"] ++ wsX00)
def wsX1_isStrip : List Cond := .code yX1_isStrip cX1_isStrip 1 (some .boolean) :: ([.fieldLink RX1 9 "SpliceBench$Holding" "kind" "I"] ++ wsX10)
def wsX1_isRack : List Cond := .code yX1_isRack cX1_isRack 1 (some .boolean) :: ([.fieldLink RX1 9 "SpliceBench$Holding" "kind" "I"] ++ wsX10)
def wsX1_init : List Cond := .code yX1_init cX1_init 4 none :: ([.methodLink RX1 3 objectInit, .instanceMethod objectInit, .code objectInit ⟨#[0xb1]⟩ 1 none, .fieldLink RX1 9 "SpliceBench$Holding" "kind" "I", .fieldLink RX1 15 "SpliceBench$Holding" "places" "I", .fieldLink RX1 18 "SpliceBench$Holding" "label" "I", .arrayClass .long, .fieldLink RX1 25 "SpliceBench$Holding" "numbers" "[J", .classLink RX1 32 RX0, .fieldLink RX1 34 "SpliceBench$Holding" "cards" "[LSpliceBench$Card;", .methodLink RX1 21 yX1_isStrip, .instanceMethod yX1_isStrip, .selects RX1 yX1_isStrip yX1_isStrip, .initialized RX1, .code yX1_isStrip cX1_isStrip 1 (some .boolean), .methodLink RX1 29 yX1_isRack, .instanceMethod yX1_isRack, .selects RX1 yX1_isRack yX1_isRack, .code yX1_isRack cX1_isRack 1 (some .boolean)] ++ wsX10)
def wsX1_isLike : List Cond := .code yX1_isLike cX1_isLike 2 (some .boolean) :: ([.fieldLink RX1 9 "SpliceBench$Holding" "kind" "I", .methodLink RX1 29 yX1_isRack, .instanceMethod yX1_isRack, .selects RX1 yX1_isRack yX1_isRack, .initialized RX1, .code yX1_isRack cX1_isRack 1 (some .boolean), .methodLink RX1 21 yX1_isStrip, .instanceMethod yX1_isStrip, .selects RX1 yX1_isStrip yX1_isStrip, .code yX1_isStrip cX1_isStrip 1 (some .boolean)] ++ wsX10)
def wsX1_hasPlace : List Cond := .code yX1_hasPlace cX1_hasPlace 2 (some .boolean) :: ([.fieldLink RX1 15 "SpliceBench$Holding" "places" "I"] ++ wsX10)
def wsX1_hasPlaces : List Cond := .code yX1_hasPlaces cX1_hasPlaces 3 (some .boolean) :: ([.fieldLink RX1 15 "SpliceBench$Holding" "places" "I"] ++ wsX10)
def wsX1_cardAt : List Cond := .code yX1_cardAt cX1_cardAt 2 (some (.object "SpliceBench$Card")) :: ([.fieldLink RX1 34 "SpliceBench$Holding" "cards" "[LSpliceBench$Card;", .methodLink RX1 29 yX1_isRack, .instanceMethod yX1_isRack, .selects RX1 yX1_isRack yX1_isRack, .initialized RX1, .code yX1_isRack cX1_isRack 1 (some .boolean), .fieldLink RX1 9 "SpliceBench$Holding" "kind" "I", .methodLink RX1 38 yX1_hasPlace, .instanceMethod yX1_hasPlace, .selects RX1 yX1_hasPlace yX1_hasPlace, .code yX1_hasPlace cX1_hasPlace 2 (some .boolean), .fieldLink RX1 15 "SpliceBench$Holding" "places" "I"] ++ wsX10)
def wsX1_admits : List Cond := .code yX1_admits cX1_admits 2 (some .boolean) :: ([.fieldLink RX1 9 "SpliceBench$Holding" "kind" "I", .fieldLink RX1 42 "SpliceBench$Card" "slide" "Z"] ++ wsX10 ++ wsX00)
def wsX1_countAdmitted : List Cond := .code yX1_countAdmitted cX1_countAdmitted 5 (some .int) :: ([.methodLink RX1 46 yX1_cardAt, .instanceMethod yX1_cardAt, .selects RX1 yX1_cardAt yX1_cardAt, .initialized RX1, .code yX1_cardAt cX1_cardAt 2 (some (.object "SpliceBench$Card")), .fieldLink RX1 34 "SpliceBench$Holding" "cards" "[LSpliceBench$Card;", .methodLink RX1 29 yX1_isRack, .instanceMethod yX1_isRack, .selects RX1 yX1_isRack yX1_isRack, .code yX1_isRack cX1_isRack 1 (some .boolean), .fieldLink RX1 9 "SpliceBench$Holding" "kind" "I", .methodLink RX1 38 yX1_hasPlace, .instanceMethod yX1_hasPlace, .selects RX1 yX1_hasPlace yX1_hasPlace, .code yX1_hasPlace cX1_hasPlace 2 (some .boolean), .fieldLink RX1 15 "SpliceBench$Holding" "places" "I", .methodLink RX1 50 yX1_admits, .instanceMethod yX1_admits, .selects RX1 yX1_admits yX1_admits, .code yX1_admits cX1_admits 2 (some .boolean), .fieldLink RX1 42 "SpliceBench$Card" "slide" "Z"] ++ wsX10 ++ wsX00)
def wsX1_copyFrom : List Cond := .code yX1_copyFrom cX1_copyFrom 5 none :: ([.fieldLink RX1 34 "SpliceBench$Holding" "cards" "[LSpliceBench$Card;", .methodLink RX1 58 arraycopyName, .native arraycopyName, .static arraycopyName, .initialized "java/lang/System", .fieldLink RX1 25 "SpliceBench$Holding" "numbers" "[J", .methodLink RX1 54 yX1_hasPlaces, .instanceMethod yX1_hasPlaces, .selects RX1 yX1_hasPlaces yX1_hasPlaces, .initialized RX1, .code yX1_hasPlaces cX1_hasPlaces 3 (some .boolean), .fieldLink RX1 15 "SpliceBench$Holding" "places" "I", .methodLink RX1 29 yX1_isRack, .instanceMethod yX1_isRack, .selects RX1 yX1_isRack yX1_isRack, .code yX1_isRack cX1_isRack 1 (some .boolean), .fieldLink RX1 9 "SpliceBench$Holding" "kind" "I", .methodLink RX1 21 yX1_isStrip, .instanceMethod yX1_isStrip, .selects RX1 yX1_isStrip yX1_isStrip, .code yX1_isStrip cX1_isStrip 1 (some .boolean)] ++ wsX10)
def wsX1_makeBlank : List Cond := .code yX1_makeBlank cX1_makeBlank 4 none :: ([.fieldLink RX1 34 "SpliceBench$Holding" "cards" "[LSpliceBench$Card;", .fieldLink RX1 25 "SpliceBench$Holding" "numbers" "[J", .methodLink RX1 54 yX1_hasPlaces, .instanceMethod yX1_hasPlaces, .selects RX1 yX1_hasPlaces yX1_hasPlaces, .initialized RX1, .code yX1_hasPlaces cX1_hasPlaces 3 (some .boolean), .fieldLink RX1 15 "SpliceBench$Holding" "places" "I", .methodLink RX1 29 yX1_isRack, .instanceMethod yX1_isRack, .selects RX1 yX1_isRack yX1_isRack, .code yX1_isRack cX1_isRack 1 (some .boolean), .fieldLink RX1 9 "SpliceBench$Holding" "kind" "I", .methodLink RX1 21 yX1_isStrip, .instanceMethod yX1_isStrip, .selects RX1 yX1_isStrip yX1_isStrip, .code yX1_isStrip cX1_isStrip 1 (some .boolean)] ++ wsX10)
def wsX1_countFilled : List Cond := .code yX1_countFilled cX1_countFilled 3 (some .int) :: ([.fieldLink RX1 15 "SpliceBench$Holding" "places" "I", .fieldLink RX1 25 "SpliceBench$Holding" "numbers" "[J", .methodLink RX1 21 yX1_isStrip, .instanceMethod yX1_isStrip, .selects RX1 yX1_isStrip yX1_isStrip, .initialized RX1, .code yX1_isStrip cX1_isStrip 1 (some .boolean), .fieldLink RX1 9 "SpliceBench$Holding" "kind" "I", .methodLink RX1 46 yX1_cardAt, .instanceMethod yX1_cardAt, .selects RX1 yX1_cardAt yX1_cardAt, .code yX1_cardAt cX1_cardAt 2 (some (.object "SpliceBench$Card")), .fieldLink RX1 34 "SpliceBench$Holding" "cards" "[LSpliceBench$Card;", .methodLink RX1 29 yX1_isRack, .instanceMethod yX1_isRack, .selects RX1 yX1_isRack yX1_isRack, .code yX1_isRack cX1_isRack 1 (some .boolean), .methodLink RX1 38 yX1_hasPlace, .instanceMethod yX1_hasPlace, .selects RX1 yX1_hasPlace yX1_hasPlace, .code yX1_hasPlace cX1_hasPlace 2 (some .boolean)] ++ wsX10)
def wsX2_init_r1 : List Cond := [Cond.methodLink RX2 1 objectInit, Cond.instanceMethod objectInit, Cond.code objectInit ⟨#[0xb1]⟩ 1 none, Cond.classLink RX2 9 RX1, Cond.fieldLink RX2 11 "SpliceBench" "spindles" "[LSpliceBench$Holding;", Cond.arrayClass .int, Cond.fieldLink RX2 15 "SpliceBench" "endings" "[I", Cond.fieldLink RX2 19 "SpliceBench" "come" "I", Cond.fieldLink RX2 23 "SpliceBench" "made" "I", Cond.fieldLink RX2 26 "SpliceBench" "cardsPut" "I", Cond.fieldLink RX2 29 "SpliceBench" "covered" "LSpliceBench$Holding;", Cond.instantiable RX1 5, Cond.initialized RX1, Cond.fieldLink RX2 36 "SpliceBench" "coveredStrip" "LSpliceBench$Holding;", Cond.fieldLink RX2 39 "SpliceBench" "coveredRack" "LSpliceBench$Holding;", Cond.methodLink RX2 33 yX1_init, Cond.instanceMethod yX1_init, Cond.code yX1_init cX1_init 4 none, Cond.methodLink RX1 3 objectInit, Cond.fieldLink RX1 9 "SpliceBench$Holding" "kind" "I", Cond.fieldLink RX1 15 "SpliceBench$Holding" "places" "I", Cond.fieldLink RX1 18 "SpliceBench$Holding" "label" "I", Cond.arrayClass .long, Cond.fieldLink RX1 25 "SpliceBench$Holding" "numbers" "[J"]
def wsX2_init_r2 : List Cond := [Cond.classLink RX1 32 RX0, Cond.fieldLink RX1 34 "SpliceBench$Holding" "cards" "[LSpliceBench$Card;", Cond.methodLink RX1 21 yX1_isStrip, Cond.instanceMethod yX1_isStrip, Cond.selects RX1 yX1_isStrip yX1_isStrip, Cond.code yX1_isStrip cX1_isStrip 1 (some .boolean), Cond.methodLink RX1 29 yX1_isRack, Cond.instanceMethod yX1_isRack, Cond.selects RX1 yX1_isRack yX1_isRack, Cond.code yX1_isRack cX1_isRack 1 (some .boolean)]
def wsX2_init : List Cond := .code yX2_init cX2_init 3 none :: ((wsX2_init_r1 ++ wsX2_init_r2) ++ wsX20 ++ wsX10)
def wsX2_isSpindle : List Cond := .code yX2_isSpindle cX2_isSpindle 1 (some .boolean) :: ([])
def wsX2_hold_r1 : List Cond := [Cond.fieldLink RX2 23 "SpliceBench" "made" "I", Cond.fieldLink RX2 11 "SpliceBench" "spindles" "[LSpliceBench$Holding;", Cond.classLink RX2 9 RX1, Cond.instantiable RX1 5, Cond.initialized RX1, Cond.methodLink RX2 42 yX2_isSpindle, Cond.static yX2_isSpindle, Cond.initialized RX2, Cond.code yX2_isSpindle cX2_isSpindle 1 (some .boolean), Cond.methodLink RX2 33 yX1_init, Cond.instanceMethod yX1_init, Cond.code yX1_init cX1_init 4 none, Cond.methodLink RX1 3 objectInit, Cond.instanceMethod objectInit, Cond.code objectInit ⟨#[0xb1]⟩ 1 none, Cond.fieldLink RX1 9 "SpliceBench$Holding" "kind" "I", Cond.fieldLink RX1 15 "SpliceBench$Holding" "places" "I", Cond.fieldLink RX1 18 "SpliceBench$Holding" "label" "I", Cond.arrayClass .long, Cond.fieldLink RX1 25 "SpliceBench$Holding" "numbers" "[J", Cond.classLink RX1 32 RX0, Cond.fieldLink RX1 34 "SpliceBench$Holding" "cards" "[LSpliceBench$Card;", Cond.methodLink RX1 21 yX1_isStrip, Cond.instanceMethod yX1_isStrip]
def wsX2_hold_r2 : List Cond := [Cond.selects RX1 yX1_isStrip yX1_isStrip, Cond.code yX1_isStrip cX1_isStrip 1 (some .boolean), Cond.methodLink RX1 29 yX1_isRack, Cond.instanceMethod yX1_isRack, Cond.selects RX1 yX1_isRack yX1_isRack, Cond.code yX1_isRack cX1_isRack 1 (some .boolean)]
def wsX2_hold : List Cond := .code yX2_hold cX2_hold 4 (some .int) :: ((wsX2_hold_r1 ++ wsX2_hold_r2) ++ wsX20 ++ wsX10)
def wsX2_thread : List Cond := .code yX2_thread cX2_thread 3 (some .int) :: ([.fieldLink RX2 11 "SpliceBench" "spindles" "[LSpliceBench$Holding;", .fieldLink RX2 46 "SpliceBench$Holding" "kind" "I", .methodLink RX2 42 yX2_isSpindle, .static yX2_isSpindle, .initialized RX2, .code yX2_isSpindle cX2_isSpindle 1 (some .boolean)] ++ wsX20 ++ wsX10)
def wsX2_putCard_r1 : List Cond := [Cond.fieldLink RX2 26 "SpliceBench" "cardsPut" "I", Cond.fieldLink RX2 67 "SpliceBench$Holding" "cards" "[LSpliceBench$Card;", Cond.classLink RX2 71 RX0, Cond.instantiable RX0 3, Cond.initialized RX0, Cond.methodLink RX2 60 yX1_hasPlace, Cond.instanceMethod yX1_hasPlace, Cond.selects RX1 yX1_hasPlace yX1_hasPlace, Cond.initialized RX1, Cond.code yX1_hasPlace cX1_hasPlace 2 (some .boolean), Cond.fieldLink RX1 15 "SpliceBench$Holding" "places" "I", Cond.methodLink RX2 73 yX0_init, Cond.instanceMethod yX0_init, Cond.code yX0_init cX0_init 3 none, Cond.methodLink RX0 1 objectInit, Cond.instanceMethod objectInit, Cond.code objectInit ⟨#[0xb1]⟩ 1 none, Cond.fieldLink RX0 7 "SpliceBench$Card" "shown" "I", Cond.fieldLink RX0 13 "SpliceBench$Card" "number" "J", Cond.fieldLink RX0 17 "SpliceBench$Card" "slide" "Z", Cond.methodLink RX2 76 yX1_admits, Cond.instanceMethod yX1_admits, Cond.selects RX1 yX1_admits yX1_admits, Cond.code yX1_admits cX1_admits 2 (some .boolean)]
def wsX2_putCard_r2 : List Cond := [Cond.fieldLink RX1 9 "SpliceBench$Holding" "kind" "I", Cond.fieldLink RX1 42 "SpliceBench$Card" "slide" "Z"]
def wsX2_putCard : List Cond := .code yX2_putCard cX2_putCard 6 (some .int) :: ((wsX2_putCard_r1 ++ wsX2_putCard_r2) ++ wsX20 ++ wsX10 ++ wsX00)
def wsX2_put_r1 : List Cond := [Cond.fieldLink RX2 11 "SpliceBench" "spindles" "[LSpliceBench$Holding;", Cond.fieldLink RX2 46 "SpliceBench$Holding" "kind" "I", Cond.fieldLink RX2 49 "SpliceBench$Holding" "label" "I", Cond.fieldLink RX2 63 "SpliceBench$Holding" "numbers" "[J", Cond.methodLink RX2 42 yX2_isSpindle, Cond.static yX2_isSpindle, Cond.initialized RX2, Cond.code yX2_isSpindle cX2_isSpindle 1 (some .boolean), Cond.methodLink RX2 52 yX1_isRack, Cond.instanceMethod yX1_isRack, Cond.selects RX1 yX1_isRack yX1_isRack, Cond.initialized RX1, Cond.code yX1_isRack cX1_isRack 1 (some .boolean), Cond.fieldLink RX1 9 "SpliceBench$Holding" "kind" "I", Cond.methodLink RX2 56 yX2_putCard, Cond.instanceMethod yX2_putCard, Cond.selects RX2 yX2_putCard yX2_putCard, Cond.code yX2_putCard cX2_putCard 6 (some .int), Cond.fieldLink RX2 26 "SpliceBench" "cardsPut" "I", Cond.fieldLink RX2 67 "SpliceBench$Holding" "cards" "[LSpliceBench$Card;", Cond.classLink RX2 71 RX0, Cond.instantiable RX0 3, Cond.initialized RX0, Cond.methodLink RX2 60 yX1_hasPlace]
def wsX2_put_r2 : List Cond := [Cond.instanceMethod yX1_hasPlace, Cond.selects RX1 yX1_hasPlace yX1_hasPlace, Cond.code yX1_hasPlace cX1_hasPlace 2 (some .boolean), Cond.fieldLink RX1 15 "SpliceBench$Holding" "places" "I", Cond.methodLink RX2 73 yX0_init, Cond.instanceMethod yX0_init, Cond.code yX0_init cX0_init 3 none, Cond.methodLink RX0 1 objectInit, Cond.instanceMethod objectInit, Cond.code objectInit ⟨#[0xb1]⟩ 1 none, Cond.fieldLink RX0 7 "SpliceBench$Card" "shown" "I", Cond.fieldLink RX0 13 "SpliceBench$Card" "number" "J", Cond.fieldLink RX0 17 "SpliceBench$Card" "slide" "Z", Cond.methodLink RX2 76 yX1_admits, Cond.instanceMethod yX1_admits, Cond.selects RX1 yX1_admits yX1_admits, Cond.code yX1_admits cX1_admits 2 (some .boolean), Cond.fieldLink RX1 42 "SpliceBench$Card" "slide" "Z"]
def wsX2_put : List Cond := .code yX2_put cX2_put 6 (some .int) :: ((wsX2_put_r1 ++ wsX2_put_r2) ++ wsX20 ++ wsX10 ++ wsX00)
def wsX2_motionFailure : List Cond := .code yX2_motionFailure cX2_motionFailure 5 (some .int) :: ([.fieldLink RX2 46 "SpliceBench$Holding" "kind" "I", .methodLink RX2 137 yX1_isLike, .instanceMethod yX1_isLike, .selects RX1 yX1_isLike yX1_isLike, .initialized RX1, .code yX1_isLike cX1_isLike 2 (some .boolean), .fieldLink RX1 9 "SpliceBench$Holding" "kind" "I", .methodLink RX1 29 yX1_isRack, .instanceMethod yX1_isRack, .selects RX1 yX1_isRack yX1_isRack, .code yX1_isRack cX1_isRack 1 (some .boolean), .methodLink RX1 21 yX1_isStrip, .instanceMethod yX1_isStrip, .selects RX1 yX1_isStrip yX1_isStrip, .code yX1_isStrip cX1_isStrip 1 (some .boolean), .methodLink RX2 141 yX1_hasPlaces, .instanceMethod yX1_hasPlaces, .selects RX1 yX1_hasPlaces yX1_hasPlaces, .code yX1_hasPlaces cX1_hasPlaces 3 (some .boolean), .fieldLink RX1 15 "SpliceBench$Holding" "places" "I"] ++ wsX10)
def wsX2_end : List Cond := .code yX2_end cX2_end 4 (some .int) :: ([.fieldLink RX2 15 "SpliceBench" "endings" "[I", .fieldLink RX2 19 "SpliceBench" "come" "I"] ++ wsX20)
def wsX2_rowBehind : List Cond := .code yX2_rowBehind cX2_rowBehind 2 (some (.object "SpliceBench$Holding")) :: ([.fieldLink RX2 39 "SpliceBench" "coveredRack" "LSpliceBench$Holding;", .fieldLink RX2 36 "SpliceBench" "coveredStrip" "LSpliceBench$Holding;", .methodLink RX2 52 yX1_isRack, .instanceMethod yX1_isRack, .selects RX1 yX1_isRack yX1_isRack, .initialized RX1, .code yX1_isRack cX1_isRack 1 (some .boolean), .fieldLink RX1 9 "SpliceBench$Holding" "kind" "I"] ++ wsX20 ++ wsX10)
def wsX2_cover_r1 : List Cond := [Cond.fieldLink RX2 104 "SpliceBench$Holding" "places" "I", Cond.fieldLink RX2 29 "SpliceBench" "covered" "LSpliceBench$Holding;", Cond.methodLink RX2 111 yX2_rowBehind, Cond.instanceMethod yX2_rowBehind, Cond.selects RX2 yX2_rowBehind yX2_rowBehind, Cond.initialized RX2, Cond.code yX2_rowBehind cX2_rowBehind 2 (some (.object "SpliceBench$Holding")), Cond.fieldLink RX2 39 "SpliceBench" "coveredRack" "LSpliceBench$Holding;", Cond.fieldLink RX2 36 "SpliceBench" "coveredStrip" "LSpliceBench$Holding;", Cond.methodLink RX2 52 yX1_isRack, Cond.instanceMethod yX1_isRack, Cond.selects RX1 yX1_isRack yX1_isRack, Cond.initialized RX1, Cond.code yX1_isRack cX1_isRack 1 (some .boolean), Cond.fieldLink RX1 9 "SpliceBench$Holding" "kind" "I", Cond.methodLink RX2 96 yX1_copyFrom, Cond.instanceMethod yX1_copyFrom, Cond.selects RX1 yX1_copyFrom yX1_copyFrom, Cond.code yX1_copyFrom cX1_copyFrom 5 none, Cond.fieldLink RX1 34 "SpliceBench$Holding" "cards" "[LSpliceBench$Card;", Cond.methodLink RX1 58 arraycopyName, Cond.native arraycopyName, Cond.static arraycopyName, Cond.initialized "java/lang/System"]
def wsX2_cover_r2 : List Cond := [Cond.fieldLink RX1 25 "SpliceBench$Holding" "numbers" "[J", Cond.methodLink RX1 54 yX1_hasPlaces, Cond.instanceMethod yX1_hasPlaces, Cond.selects RX1 yX1_hasPlaces yX1_hasPlaces, Cond.code yX1_hasPlaces cX1_hasPlaces 3 (some .boolean), Cond.fieldLink RX1 15 "SpliceBench$Holding" "places" "I", Cond.methodLink RX1 29 yX1_isRack, Cond.methodLink RX1 21 yX1_isStrip, Cond.instanceMethod yX1_isStrip, Cond.selects RX1 yX1_isStrip yX1_isStrip, Cond.code yX1_isStrip cX1_isStrip 1 (some .boolean)]
def wsX2_cover : List Cond := .code yX2_cover cX2_cover 2 none :: ((wsX2_cover_r1 ++ wsX2_cover_r2) ++ wsX10 ++ wsX20)
def wsX2_move_r1 : List Cond := [Cond.fieldLink RX2 11 "SpliceBench" "spindles" "[LSpliceBench$Holding;", Cond.methodLink RX2 42 yX2_isSpindle, Cond.static yX2_isSpindle, Cond.initialized RX2, Cond.code yX2_isSpindle cX2_isSpindle 1 (some .boolean), Cond.methodLink RX2 80 yX2_motionFailure, Cond.static yX2_motionFailure, Cond.code yX2_motionFailure cX2_motionFailure 5 (some .int), Cond.fieldLink RX2 46 "SpliceBench$Holding" "kind" "I", Cond.methodLink RX2 137 yX1_isLike, Cond.instanceMethod yX1_isLike, Cond.selects RX1 yX1_isLike yX1_isLike, Cond.initialized RX1, Cond.code yX1_isLike cX1_isLike 2 (some .boolean), Cond.fieldLink RX1 9 "SpliceBench$Holding" "kind" "I", Cond.methodLink RX1 29 yX1_isRack, Cond.instanceMethod yX1_isRack, Cond.selects RX1 yX1_isRack yX1_isRack, Cond.code yX1_isRack cX1_isRack 1 (some .boolean), Cond.methodLink RX1 21 yX1_isStrip, Cond.instanceMethod yX1_isStrip, Cond.selects RX1 yX1_isStrip yX1_isStrip, Cond.code yX1_isStrip cX1_isStrip 1 (some .boolean), Cond.methodLink RX2 141 yX1_hasPlaces]
def wsX2_move_r2 : List Cond := [Cond.instanceMethod yX1_hasPlaces, Cond.selects RX1 yX1_hasPlaces yX1_hasPlaces, Cond.code yX1_hasPlaces cX1_hasPlaces 3 (some .boolean), Cond.fieldLink RX1 15 "SpliceBench$Holding" "places" "I", Cond.methodLink RX2 84 yX2_end, Cond.instanceMethod yX2_end, Cond.selects RX2 yX2_end yX2_end, Cond.code yX2_end cX2_end 4 (some .int), Cond.fieldLink RX2 15 "SpliceBench" "endings" "[I", Cond.fieldLink RX2 19 "SpliceBench" "come" "I", Cond.methodLink RX2 88 yX1_countAdmitted, Cond.instanceMethod yX1_countAdmitted, Cond.selects RX1 yX1_countAdmitted yX1_countAdmitted, Cond.code yX1_countAdmitted cX1_countAdmitted 5 (some .int), Cond.methodLink RX1 46 yX1_cardAt, Cond.instanceMethod yX1_cardAt, Cond.selects RX1 yX1_cardAt yX1_cardAt, Cond.code yX1_cardAt cX1_cardAt 2 (some (.object "SpliceBench$Card")), Cond.fieldLink RX1 34 "SpliceBench$Holding" "cards" "[LSpliceBench$Card;", Cond.methodLink RX1 38 yX1_hasPlace, Cond.instanceMethod yX1_hasPlace, Cond.selects RX1 yX1_hasPlace yX1_hasPlace, Cond.code yX1_hasPlace cX1_hasPlace 2 (some .boolean), Cond.methodLink RX1 50 yX1_admits]
def wsX2_move_r3 : List Cond := [Cond.instanceMethod yX1_admits, Cond.selects RX1 yX1_admits yX1_admits, Cond.code yX1_admits cX1_admits 2 (some .boolean), Cond.fieldLink RX1 42 "SpliceBench$Card" "slide" "Z", Cond.methodLink RX2 92 yX2_cover, Cond.instanceMethod yX2_cover, Cond.selects RX2 yX2_cover yX2_cover, Cond.code yX2_cover cX2_cover 2 none, Cond.fieldLink RX2 104 "SpliceBench$Holding" "places" "I", Cond.fieldLink RX2 29 "SpliceBench" "covered" "LSpliceBench$Holding;", Cond.methodLink RX2 111 yX2_rowBehind, Cond.instanceMethod yX2_rowBehind, Cond.selects RX2 yX2_rowBehind yX2_rowBehind, Cond.code yX2_rowBehind cX2_rowBehind 2 (some (.object "SpliceBench$Holding")), Cond.fieldLink RX2 39 "SpliceBench" "coveredRack" "LSpliceBench$Holding;", Cond.fieldLink RX2 36 "SpliceBench" "coveredStrip" "LSpliceBench$Holding;", Cond.methodLink RX2 52 yX1_isRack, Cond.methodLink RX2 96 yX1_copyFrom, Cond.instanceMethod yX1_copyFrom, Cond.selects RX1 yX1_copyFrom yX1_copyFrom, Cond.code yX1_copyFrom cX1_copyFrom 5 none, Cond.methodLink RX1 58 arraycopyName, Cond.native arraycopyName, Cond.static arraycopyName]
def wsX2_move_r4 : List Cond := [Cond.initialized "java/lang/System", Cond.fieldLink RX1 25 "SpliceBench$Holding" "numbers" "[J", Cond.methodLink RX1 54 yX1_hasPlaces]
def wsX2_move : List Cond := .code yX2_move cX2_move 10 (some .int) :: ((wsX2_move_r1 ++ (wsX2_move_r2 ++ (wsX2_move_r3 ++ wsX2_move_r4))) ++ wsX20 ++ wsX10 ++ wsX00)
def wsX2_shift_r1 : List Cond := [Cond.fieldLink RX2 11 "SpliceBench" "spindles" "[LSpliceBench$Holding;", Cond.fieldLink RX2 104 "SpliceBench$Holding" "places" "I", Cond.methodLink RX2 42 yX2_isSpindle, Cond.static yX2_isSpindle, Cond.initialized RX2, Cond.code yX2_isSpindle cX2_isSpindle 1 (some .boolean), Cond.methodLink RX2 80 yX2_motionFailure, Cond.static yX2_motionFailure, Cond.code yX2_motionFailure cX2_motionFailure 5 (some .int), Cond.fieldLink RX2 46 "SpliceBench$Holding" "kind" "I", Cond.methodLink RX2 137 yX1_isLike, Cond.instanceMethod yX1_isLike, Cond.selects RX1 yX1_isLike yX1_isLike, Cond.initialized RX1, Cond.code yX1_isLike cX1_isLike 2 (some .boolean), Cond.fieldLink RX1 9 "SpliceBench$Holding" "kind" "I", Cond.methodLink RX1 29 yX1_isRack, Cond.instanceMethod yX1_isRack, Cond.selects RX1 yX1_isRack yX1_isRack, Cond.code yX1_isRack cX1_isRack 1 (some .boolean), Cond.methodLink RX1 21 yX1_isStrip, Cond.instanceMethod yX1_isStrip, Cond.selects RX1 yX1_isStrip yX1_isStrip, Cond.code yX1_isStrip cX1_isStrip 1 (some .boolean)]
def wsX2_shift_r2 : List Cond := [Cond.methodLink RX2 141 yX1_hasPlaces, Cond.instanceMethod yX1_hasPlaces, Cond.selects RX1 yX1_hasPlaces yX1_hasPlaces, Cond.code yX1_hasPlaces cX1_hasPlaces 3 (some .boolean), Cond.fieldLink RX1 15 "SpliceBench$Holding" "places" "I", Cond.methodLink RX2 84 yX2_end, Cond.instanceMethod yX2_end, Cond.selects RX2 yX2_end yX2_end, Cond.code yX2_end cX2_end 4 (some .int), Cond.fieldLink RX2 15 "SpliceBench" "endings" "[I", Cond.fieldLink RX2 19 "SpliceBench" "come" "I", Cond.methodLink RX2 92 yX2_cover, Cond.instanceMethod yX2_cover, Cond.selects RX2 yX2_cover yX2_cover, Cond.code yX2_cover cX2_cover 2 none, Cond.fieldLink RX2 29 "SpliceBench" "covered" "LSpliceBench$Holding;", Cond.methodLink RX2 111 yX2_rowBehind, Cond.instanceMethod yX2_rowBehind, Cond.selects RX2 yX2_rowBehind yX2_rowBehind, Cond.code yX2_rowBehind cX2_rowBehind 2 (some (.object "SpliceBench$Holding")), Cond.fieldLink RX2 39 "SpliceBench" "coveredRack" "LSpliceBench$Holding;", Cond.fieldLink RX2 36 "SpliceBench" "coveredStrip" "LSpliceBench$Holding;", Cond.methodLink RX2 52 yX1_isRack, Cond.methodLink RX2 96 yX1_copyFrom]
def wsX2_shift_r3 : List Cond := [Cond.instanceMethod yX1_copyFrom, Cond.selects RX1 yX1_copyFrom yX1_copyFrom, Cond.code yX1_copyFrom cX1_copyFrom 5 none, Cond.fieldLink RX1 34 "SpliceBench$Holding" "cards" "[LSpliceBench$Card;", Cond.methodLink RX1 58 arraycopyName, Cond.native arraycopyName, Cond.static arraycopyName, Cond.initialized "java/lang/System", Cond.fieldLink RX1 25 "SpliceBench$Holding" "numbers" "[J", Cond.methodLink RX1 54 yX1_hasPlaces, Cond.methodLink RX2 107 yX1_makeBlank, Cond.instanceMethod yX1_makeBlank, Cond.selects RX1 yX1_makeBlank yX1_makeBlank, Cond.code yX1_makeBlank cX1_makeBlank 4 none]
def wsX2_shift : List Cond := .code yX2_shift cX2_shift 8 (some .int) :: ((wsX2_shift_r1 ++ (wsX2_shift_r2 ++ wsX2_shift_r3)) ++ wsX20 ++ wsX10)
def wsX2_open_r1 : List Cond := [Cond.methodLink RX2 100 yX2_shift, Cond.instanceMethod yX2_shift, Cond.selects RX2 yX2_shift yX2_shift, Cond.initialized RX2, Cond.code yX2_shift cX2_shift 8 (some .int), Cond.fieldLink RX2 11 "SpliceBench" "spindles" "[LSpliceBench$Holding;", Cond.fieldLink RX2 104 "SpliceBench$Holding" "places" "I", Cond.methodLink RX2 42 yX2_isSpindle, Cond.static yX2_isSpindle, Cond.code yX2_isSpindle cX2_isSpindle 1 (some .boolean), Cond.methodLink RX2 80 yX2_motionFailure, Cond.static yX2_motionFailure, Cond.code yX2_motionFailure cX2_motionFailure 5 (some .int), Cond.fieldLink RX2 46 "SpliceBench$Holding" "kind" "I", Cond.methodLink RX2 137 yX1_isLike, Cond.instanceMethod yX1_isLike, Cond.selects RX1 yX1_isLike yX1_isLike, Cond.initialized RX1, Cond.code yX1_isLike cX1_isLike 2 (some .boolean), Cond.fieldLink RX1 9 "SpliceBench$Holding" "kind" "I", Cond.methodLink RX1 29 yX1_isRack, Cond.instanceMethod yX1_isRack, Cond.selects RX1 yX1_isRack yX1_isRack, Cond.code yX1_isRack cX1_isRack 1 (some .boolean)]
def wsX2_open_r2 : List Cond := [Cond.methodLink RX1 21 yX1_isStrip, Cond.instanceMethod yX1_isStrip, Cond.selects RX1 yX1_isStrip yX1_isStrip, Cond.code yX1_isStrip cX1_isStrip 1 (some .boolean), Cond.methodLink RX2 141 yX1_hasPlaces, Cond.instanceMethod yX1_hasPlaces, Cond.selects RX1 yX1_hasPlaces yX1_hasPlaces, Cond.code yX1_hasPlaces cX1_hasPlaces 3 (some .boolean), Cond.fieldLink RX1 15 "SpliceBench$Holding" "places" "I", Cond.methodLink RX2 84 yX2_end, Cond.instanceMethod yX2_end, Cond.selects RX2 yX2_end yX2_end, Cond.code yX2_end cX2_end 4 (some .int), Cond.fieldLink RX2 15 "SpliceBench" "endings" "[I", Cond.fieldLink RX2 19 "SpliceBench" "come" "I", Cond.methodLink RX2 92 yX2_cover, Cond.instanceMethod yX2_cover, Cond.selects RX2 yX2_cover yX2_cover, Cond.code yX2_cover cX2_cover 2 none, Cond.fieldLink RX2 29 "SpliceBench" "covered" "LSpliceBench$Holding;", Cond.methodLink RX2 111 yX2_rowBehind, Cond.instanceMethod yX2_rowBehind, Cond.selects RX2 yX2_rowBehind yX2_rowBehind, Cond.code yX2_rowBehind cX2_rowBehind 2 (some (.object "SpliceBench$Holding"))]
def wsX2_open_r3 : List Cond := [Cond.fieldLink RX2 39 "SpliceBench" "coveredRack" "LSpliceBench$Holding;", Cond.fieldLink RX2 36 "SpliceBench" "coveredStrip" "LSpliceBench$Holding;", Cond.methodLink RX2 52 yX1_isRack, Cond.methodLink RX2 96 yX1_copyFrom, Cond.instanceMethod yX1_copyFrom, Cond.selects RX1 yX1_copyFrom yX1_copyFrom, Cond.code yX1_copyFrom cX1_copyFrom 5 none, Cond.fieldLink RX1 34 "SpliceBench$Holding" "cards" "[LSpliceBench$Card;", Cond.methodLink RX1 58 arraycopyName, Cond.native arraycopyName, Cond.static arraycopyName, Cond.initialized "java/lang/System", Cond.fieldLink RX1 25 "SpliceBench$Holding" "numbers" "[J", Cond.methodLink RX1 54 yX1_hasPlaces, Cond.methodLink RX2 107 yX1_makeBlank, Cond.instanceMethod yX1_makeBlank, Cond.selects RX1 yX1_makeBlank yX1_makeBlank, Cond.code yX1_makeBlank cX1_makeBlank 4 none]
def wsX2_open : List Cond := .code yX2_open cX2_open 4 (some .int) :: ((wsX2_open_r1 ++ (wsX2_open_r2 ++ wsX2_open_r3)) ++ wsX20 ++ wsX10)
def wsX2_close_r1 : List Cond := [Cond.methodLink RX2 100 yX2_shift, Cond.instanceMethod yX2_shift, Cond.selects RX2 yX2_shift yX2_shift, Cond.initialized RX2, Cond.code yX2_shift cX2_shift 8 (some .int), Cond.fieldLink RX2 11 "SpliceBench" "spindles" "[LSpliceBench$Holding;", Cond.fieldLink RX2 104 "SpliceBench$Holding" "places" "I", Cond.methodLink RX2 42 yX2_isSpindle, Cond.static yX2_isSpindle, Cond.code yX2_isSpindle cX2_isSpindle 1 (some .boolean), Cond.methodLink RX2 80 yX2_motionFailure, Cond.static yX2_motionFailure, Cond.code yX2_motionFailure cX2_motionFailure 5 (some .int), Cond.fieldLink RX2 46 "SpliceBench$Holding" "kind" "I", Cond.methodLink RX2 137 yX1_isLike, Cond.instanceMethod yX1_isLike, Cond.selects RX1 yX1_isLike yX1_isLike, Cond.initialized RX1, Cond.code yX1_isLike cX1_isLike 2 (some .boolean), Cond.fieldLink RX1 9 "SpliceBench$Holding" "kind" "I", Cond.methodLink RX1 29 yX1_isRack, Cond.instanceMethod yX1_isRack, Cond.selects RX1 yX1_isRack yX1_isRack, Cond.code yX1_isRack cX1_isRack 1 (some .boolean)]
def wsX2_close_r2 : List Cond := [Cond.methodLink RX1 21 yX1_isStrip, Cond.instanceMethod yX1_isStrip, Cond.selects RX1 yX1_isStrip yX1_isStrip, Cond.code yX1_isStrip cX1_isStrip 1 (some .boolean), Cond.methodLink RX2 141 yX1_hasPlaces, Cond.instanceMethod yX1_hasPlaces, Cond.selects RX1 yX1_hasPlaces yX1_hasPlaces, Cond.code yX1_hasPlaces cX1_hasPlaces 3 (some .boolean), Cond.fieldLink RX1 15 "SpliceBench$Holding" "places" "I", Cond.methodLink RX2 84 yX2_end, Cond.instanceMethod yX2_end, Cond.selects RX2 yX2_end yX2_end, Cond.code yX2_end cX2_end 4 (some .int), Cond.fieldLink RX2 15 "SpliceBench" "endings" "[I", Cond.fieldLink RX2 19 "SpliceBench" "come" "I", Cond.methodLink RX2 92 yX2_cover, Cond.instanceMethod yX2_cover, Cond.selects RX2 yX2_cover yX2_cover, Cond.code yX2_cover cX2_cover 2 none, Cond.fieldLink RX2 29 "SpliceBench" "covered" "LSpliceBench$Holding;", Cond.methodLink RX2 111 yX2_rowBehind, Cond.instanceMethod yX2_rowBehind, Cond.selects RX2 yX2_rowBehind yX2_rowBehind, Cond.code yX2_rowBehind cX2_rowBehind 2 (some (.object "SpliceBench$Holding"))]
def wsX2_close_r3 : List Cond := [Cond.fieldLink RX2 39 "SpliceBench" "coveredRack" "LSpliceBench$Holding;", Cond.fieldLink RX2 36 "SpliceBench" "coveredStrip" "LSpliceBench$Holding;", Cond.methodLink RX2 52 yX1_isRack, Cond.methodLink RX2 96 yX1_copyFrom, Cond.instanceMethod yX1_copyFrom, Cond.selects RX1 yX1_copyFrom yX1_copyFrom, Cond.code yX1_copyFrom cX1_copyFrom 5 none, Cond.fieldLink RX1 34 "SpliceBench$Holding" "cards" "[LSpliceBench$Card;", Cond.methodLink RX1 58 arraycopyName, Cond.native arraycopyName, Cond.static arraycopyName, Cond.initialized "java/lang/System", Cond.fieldLink RX1 25 "SpliceBench$Holding" "numbers" "[J", Cond.methodLink RX1 54 yX1_hasPlaces, Cond.methodLink RX2 107 yX1_makeBlank, Cond.instanceMethod yX1_makeBlank, Cond.selects RX1 yX1_makeBlank yX1_makeBlank, Cond.code yX1_makeBlank cX1_makeBlank 4 none]
def wsX2_close : List Cond := .code yX2_close cX2_close 4 (some .int) :: ((wsX2_close_r1 ++ (wsX2_close_r2 ++ wsX2_close_r3)) ++ wsX20 ++ wsX10)
def wsX2_back_r1 : List Cond := [Cond.fieldLink RX2 29 "SpliceBench" "covered" "LSpliceBench$Holding;", Cond.fieldLink RX2 104 "SpliceBench$Holding" "places" "I", Cond.methodLink RX2 111 yX2_rowBehind, Cond.instanceMethod yX2_rowBehind, Cond.selects RX2 yX2_rowBehind yX2_rowBehind, Cond.initialized RX2, Cond.code yX2_rowBehind cX2_rowBehind 2 (some (.object "SpliceBench$Holding")), Cond.fieldLink RX2 39 "SpliceBench" "coveredRack" "LSpliceBench$Holding;", Cond.fieldLink RX2 36 "SpliceBench" "coveredStrip" "LSpliceBench$Holding;", Cond.methodLink RX2 52 yX1_isRack, Cond.instanceMethod yX1_isRack, Cond.selects RX1 yX1_isRack yX1_isRack, Cond.initialized RX1, Cond.code yX1_isRack cX1_isRack 1 (some .boolean), Cond.fieldLink RX1 9 "SpliceBench$Holding" "kind" "I", Cond.methodLink RX2 96 yX1_copyFrom, Cond.instanceMethod yX1_copyFrom, Cond.selects RX1 yX1_copyFrom yX1_copyFrom, Cond.code yX1_copyFrom cX1_copyFrom 5 none, Cond.fieldLink RX1 34 "SpliceBench$Holding" "cards" "[LSpliceBench$Card;", Cond.methodLink RX1 58 arraycopyName, Cond.native arraycopyName, Cond.static arraycopyName, Cond.initialized "java/lang/System"]
def wsX2_back_r2 : List Cond := [Cond.fieldLink RX1 25 "SpliceBench$Holding" "numbers" "[J", Cond.methodLink RX1 54 yX1_hasPlaces, Cond.instanceMethod yX1_hasPlaces, Cond.selects RX1 yX1_hasPlaces yX1_hasPlaces, Cond.code yX1_hasPlaces cX1_hasPlaces 3 (some .boolean), Cond.fieldLink RX1 15 "SpliceBench$Holding" "places" "I", Cond.methodLink RX1 29 yX1_isRack, Cond.methodLink RX1 21 yX1_isStrip, Cond.instanceMethod yX1_isStrip, Cond.selects RX1 yX1_isStrip yX1_isStrip, Cond.code yX1_isStrip cX1_isStrip 1 (some .boolean)]
def wsX2_back : List Cond := .code yX2_back cX2_back 1 (some .int) :: ((wsX2_back_r1 ++ wsX2_back_r2) ++ wsX20 ++ wsX10)
def wsX2_count : List Cond := .code yX2_count cX2_count 2 (some .int) :: ([.fieldLink RX2 19 "SpliceBench" "come" "I", .fieldLink RX2 15 "SpliceBench" "endings" "[I", .fieldLink RX2 23 "SpliceBench" "made" "I", .fieldLink RX2 26 "SpliceBench" "cardsPut" "I", .fieldLink RX2 29 "SpliceBench" "covered" "LSpliceBench$Holding;"] ++ wsX20)
def wsX2_held_r1 : List Cond := [Cond.fieldLink RX2 11 "SpliceBench" "spindles" "[LSpliceBench$Holding;", Cond.fieldLink RX2 46 "SpliceBench$Holding" "kind" "I", Cond.fieldLink RX2 104 "SpliceBench$Holding" "places" "I", Cond.methodLink RX2 42 yX2_isSpindle, Cond.static yX2_isSpindle, Cond.initialized RX2, Cond.code yX2_isSpindle cX2_isSpindle 1 (some .boolean), Cond.methodLink RX2 115 yX1_countFilled, Cond.instanceMethod yX1_countFilled, Cond.selects RX1 yX1_countFilled yX1_countFilled, Cond.initialized RX1, Cond.code yX1_countFilled cX1_countFilled 3 (some .int), Cond.fieldLink RX1 15 "SpliceBench$Holding" "places" "I", Cond.fieldLink RX1 25 "SpliceBench$Holding" "numbers" "[J", Cond.methodLink RX1 21 yX1_isStrip, Cond.instanceMethod yX1_isStrip, Cond.selects RX1 yX1_isStrip yX1_isStrip, Cond.code yX1_isStrip cX1_isStrip 1 (some .boolean), Cond.fieldLink RX1 9 "SpliceBench$Holding" "kind" "I", Cond.methodLink RX1 46 yX1_cardAt, Cond.instanceMethod yX1_cardAt, Cond.selects RX1 yX1_cardAt yX1_cardAt, Cond.code yX1_cardAt cX1_cardAt 2 (some (.object "SpliceBench$Card")), Cond.fieldLink RX1 34 "SpliceBench$Holding" "cards" "[LSpliceBench$Card;"]
def wsX2_held_r2 : List Cond := [Cond.methodLink RX1 29 yX1_isRack, Cond.instanceMethod yX1_isRack, Cond.selects RX1 yX1_isRack yX1_isRack, Cond.code yX1_isRack cX1_isRack 1 (some .boolean), Cond.methodLink RX1 38 yX1_hasPlace, Cond.instanceMethod yX1_hasPlace, Cond.selects RX1 yX1_hasPlace yX1_hasPlace, Cond.code yX1_hasPlace cX1_hasPlace 2 (some .boolean)]
def wsX2_held : List Cond := .code yX2_held cX2_held 4 (some .int) :: ((wsX2_held_r1 ++ wsX2_held_r2) ++ wsX20 ++ wsX10)
def wsX2_sort_r1 : List Cond := [Cond.fieldLink RX2 11 "SpliceBench" "spindles" "[LSpliceBench$Holding;", Cond.fieldLink RX2 126 "SpliceBench$Card" "slide" "Z", Cond.methodLink RX2 42 yX2_isSpindle, Cond.static yX2_isSpindle, Cond.initialized RX2, Cond.code yX2_isSpindle cX2_isSpindle 1 (some .boolean), Cond.methodLink RX2 60 yX1_hasPlace, Cond.instanceMethod yX1_hasPlace, Cond.selects RX1 yX1_hasPlace yX1_hasPlace, Cond.initialized RX1, Cond.code yX1_hasPlace cX1_hasPlace 2 (some .boolean), Cond.fieldLink RX1 15 "SpliceBench$Holding" "places" "I", Cond.methodLink RX2 119 yX1_isStrip, Cond.instanceMethod yX1_isStrip, Cond.selects RX1 yX1_isStrip yX1_isStrip, Cond.code yX1_isStrip cX1_isStrip 1 (some .boolean), Cond.fieldLink RX1 9 "SpliceBench$Holding" "kind" "I", Cond.methodLink RX2 122 yX1_cardAt, Cond.instanceMethod yX1_cardAt, Cond.selects RX1 yX1_cardAt yX1_cardAt, Cond.code yX1_cardAt cX1_cardAt 2 (some (.object "SpliceBench$Card")), Cond.fieldLink RX1 34 "SpliceBench$Holding" "cards" "[LSpliceBench$Card;", Cond.methodLink RX1 29 yX1_isRack, Cond.instanceMethod yX1_isRack]
def wsX2_sort_r2 : List Cond := [Cond.selects RX1 yX1_isRack yX1_isRack, Cond.code yX1_isRack cX1_isRack 1 (some .boolean), Cond.methodLink RX1 38 yX1_hasPlace]
def wsX2_sort : List Cond := .code yX2_sort cX2_sort 5 (some .int) :: ((wsX2_sort_r1 ++ wsX2_sort_r2) ++ wsX20 ++ wsX00 ++ wsX10)
def wsX2_number_r1 : List Cond := [Cond.fieldLink RX2 11 "SpliceBench" "spindles" "[LSpliceBench$Holding;", Cond.fieldLink RX2 46 "SpliceBench$Holding" "kind" "I", Cond.fieldLink RX2 49 "SpliceBench$Holding" "label" "I", Cond.fieldLink RX2 63 "SpliceBench$Holding" "numbers" "[J", Cond.fieldLink RX2 130 "SpliceBench$Card" "number" "J", Cond.methodLink RX2 42 yX2_isSpindle, Cond.static yX2_isSpindle, Cond.initialized RX2, Cond.code yX2_isSpindle cX2_isSpindle 1 (some .boolean), Cond.methodLink RX2 119 yX1_isStrip, Cond.instanceMethod yX1_isStrip, Cond.selects RX1 yX1_isStrip yX1_isStrip, Cond.initialized RX1, Cond.code yX1_isStrip cX1_isStrip 1 (some .boolean), Cond.fieldLink RX1 9 "SpliceBench$Holding" "kind" "I", Cond.methodLink RX2 60 yX1_hasPlace, Cond.instanceMethod yX1_hasPlace, Cond.selects RX1 yX1_hasPlace yX1_hasPlace, Cond.code yX1_hasPlace cX1_hasPlace 2 (some .boolean), Cond.fieldLink RX1 15 "SpliceBench$Holding" "places" "I", Cond.methodLink RX2 122 yX1_cardAt, Cond.instanceMethod yX1_cardAt, Cond.selects RX1 yX1_cardAt yX1_cardAt, Cond.code yX1_cardAt cX1_cardAt 2 (some (.object "SpliceBench$Card"))]
def wsX2_number_r2 : List Cond := [Cond.fieldLink RX1 34 "SpliceBench$Holding" "cards" "[LSpliceBench$Card;", Cond.methodLink RX1 29 yX1_isRack, Cond.instanceMethod yX1_isRack, Cond.selects RX1 yX1_isRack yX1_isRack, Cond.code yX1_isRack cX1_isRack 1 (some .boolean), Cond.methodLink RX1 38 yX1_hasPlace]
def wsX2_number : List Cond := .code yX2_number cX2_number 5 (some .long) :: ((wsX2_number_r1 ++ wsX2_number_r2) ++ wsX20 ++ wsX10 ++ wsX00)
def wsX2_show : List Cond := .code yX2_show cX2_show 6 (some .int) :: ([.fieldLink RX2 11 "SpliceBench" "spindles" "[LSpliceBench$Holding;", .fieldLink RX2 104 "SpliceBench$Holding" "places" "I", .fieldLink RX2 134 "SpliceBench$Card" "shown" "I", .methodLink RX2 42 yX2_isSpindle, .static yX2_isSpindle, .initialized RX2, .code yX2_isSpindle cX2_isSpindle 1 (some .boolean), .methodLink RX2 52 yX1_isRack, .instanceMethod yX1_isRack, .selects RX1 yX1_isRack yX1_isRack, .initialized RX1, .code yX1_isRack cX1_isRack 1 (some .boolean), .fieldLink RX1 9 "SpliceBench$Holding" "kind" "I", .methodLink RX2 122 yX1_cardAt, .instanceMethod yX1_cardAt, .selects RX1 yX1_cardAt yX1_cardAt, .code yX1_cardAt cX1_cardAt 2 (some (.object "SpliceBench$Card")), .fieldLink RX1 34 "SpliceBench$Holding" "cards" "[LSpliceBench$Card;", .methodLink RX1 29 yX1_isRack, .methodLink RX1 38 yX1_hasPlace, .instanceMethod yX1_hasPlace, .selects RX1 yX1_hasPlace yX1_hasPlace, .code yX1_hasPlace cX1_hasPlace 2 (some .boolean), .fieldLink RX1 15 "SpliceBench$Holding" "places" "I"] ++ wsX20 ++ wsX10 ++ wsX00)
def wsX2_shown : List Cond := .code yX2_shown cX2_shown 4 (some .int) :: ([.fieldLink RX2 11 "SpliceBench" "spindles" "[LSpliceBench$Holding;", .fieldLink RX2 134 "SpliceBench$Card" "shown" "I", .methodLink RX2 42 yX2_isSpindle, .static yX2_isSpindle, .initialized RX2, .code yX2_isSpindle cX2_isSpindle 1 (some .boolean), .methodLink RX2 122 yX1_cardAt, .instanceMethod yX1_cardAt, .selects RX1 yX1_cardAt yX1_cardAt, .initialized RX1, .code yX1_cardAt cX1_cardAt 2 (some (.object "SpliceBench$Card")), .fieldLink RX1 34 "SpliceBench$Holding" "cards" "[LSpliceBench$Card;", .methodLink RX1 29 yX1_isRack, .instanceMethod yX1_isRack, .selects RX1 yX1_isRack yX1_isRack, .code yX1_isRack cX1_isRack 1 (some .boolean), .fieldLink RX1 9 "SpliceBench$Holding" "kind" "I", .methodLink RX1 38 yX1_hasPlace, .instanceMethod yX1_hasPlace, .selects RX1 yX1_hasPlace yX1_hasPlace, .code yX1_hasPlace cX1_hasPlace 2 (some .boolean), .fieldLink RX1 15 "SpliceBench$Holding" "places" "I"] ++ wsX20 ++ wsX00 ++ wsX10)
def wsX2_same : List Cond := .code yX2_same cX2_same 8 (some .int) :: ([.fieldLink RX2 11 "SpliceBench" "spindles" "[LSpliceBench$Holding;", .fieldLink RX2 46 "SpliceBench$Holding" "kind" "I", .methodLink RX2 42 yX2_isSpindle, .static yX2_isSpindle, .initialized RX2, .code yX2_isSpindle cX2_isSpindle 1 (some .boolean), .methodLink RX2 122 yX1_cardAt, .instanceMethod yX1_cardAt, .selects RX1 yX1_cardAt yX1_cardAt, .initialized RX1, .code yX1_cardAt cX1_cardAt 2 (some (.object "SpliceBench$Card")), .fieldLink RX1 34 "SpliceBench$Holding" "cards" "[LSpliceBench$Card;", .methodLink RX1 29 yX1_isRack, .instanceMethod yX1_isRack, .selects RX1 yX1_isRack yX1_isRack, .code yX1_isRack cX1_isRack 1 (some .boolean), .fieldLink RX1 9 "SpliceBench$Holding" "kind" "I", .methodLink RX1 38 yX1_hasPlace, .instanceMethod yX1_hasPlace, .selects RX1 yX1_hasPlace yX1_hasPlace, .code yX1_hasPlace cX1_hasPlace 2 (some .boolean), .fieldLink RX1 15 "SpliceBench$Holding" "places" "I"] ++ wsX20 ++ wsX10)
def wsX3_init : List Cond := .code yX3_init cX3_init 1 none :: ([.methodLink RX3 1 objectInit, .instanceMethod objectInit, .code objectInit ⟨#[0xb1]⟩ 1 none, .arrayClass .int, .fieldLink RX3 7 "SpliceBenchModel" "holds" "[I", .fieldLink RX3 13 "SpliceBenchModel" "labels" "[I", .fieldLink RX3 16 "SpliceBenchModel" "kind" "[I", .fieldLink RX3 19 "SpliceBenchModel" "size" "[I", .arrayClass .long, .fieldLink RX3 22 "SpliceBenchModel" "places" "[J", .fieldLink RX3 26 "SpliceBenchModel" "was" "[J", .fieldLink RX3 29 "SpliceBenchModel" "cardNumber" "[J", .fieldLink RX3 32 "SpliceBenchModel" "cardShown" "[I", .fieldLink RX3 35 "SpliceBenchModel" "failed" "[I", .fieldLink RX3 38 "SpliceBenchModel" "covered" "I"] ++ wsX30)
def wsX3_isSpindle : List Cond := .code yX3_isSpindle cX3_isSpindle 1 (some .boolean) :: ([])
def wsX3_kindOf : List Cond := .code yX3_kindOf cX3_kindOf 2 (some .int) :: ([.fieldLink RX3 7 "SpliceBenchModel" "holds" "[I", .fieldLink RX3 16 "SpliceBenchModel" "kind" "[I"] ++ wsX30)
def wsX3_hasPlaces : List Cond := .code yX3_hasPlaces cX3_hasPlaces 2 (some .boolean) :: ([.fieldLink RX3 7 "SpliceBenchModel" "holds" "[I"] ++ wsX30)
def wsX3_sizeOf : List Cond := .code yX3_sizeOf cX3_sizeOf 2 (some .int) :: ([.fieldLink RX3 19 "SpliceBenchModel" "size" "[I", .fieldLink RX3 7 "SpliceBenchModel" "holds" "[I", .methodLink RX3 42 yX3_hasPlaces, .instanceMethod yX3_hasPlaces, .selects RX3 yX3_hasPlaces yX3_hasPlaces, .initialized RX3, .code yX3_hasPlaces cX3_hasPlaces 2 (some .boolean)] ++ wsX30)
def wsX3_isRack : List Cond := .code yX3_isRack cX3_isRack 2 (some .boolean) :: ([.methodLink RX3 46 yX3_kindOf, .instanceMethod yX3_kindOf, .selects RX3 yX3_kindOf yX3_kindOf, .initialized RX3, .code yX3_kindOf cX3_kindOf 2 (some .int), .fieldLink RX3 7 "SpliceBenchModel" "holds" "[I", .fieldLink RX3 16 "SpliceBenchModel" "kind" "[I"] ++ wsX30)
def wsX3_isPlace : List Cond := .code yX3_isPlace cX3_isPlace 3 (some .boolean) :: ([.methodLink RX3 50 yX3_sizeOf, .instanceMethod yX3_sizeOf, .selects RX3 yX3_sizeOf yX3_sizeOf, .initialized RX3, .code yX3_sizeOf cX3_sizeOf 2 (some .int), .fieldLink RX3 19 "SpliceBenchModel" "size" "[I", .fieldLink RX3 7 "SpliceBenchModel" "holds" "[I", .methodLink RX3 42 yX3_hasPlaces, .instanceMethod yX3_hasPlaces, .selects RX3 yX3_hasPlaces yX3_hasPlaces, .code yX3_hasPlaces cX3_hasPlaces 2 (some .boolean)] ++ wsX30)
def wsX3_place : List Cond := .code yX3_place cX3_place 3 (some .long) :: ([.fieldLink RX3 22 "SpliceBenchModel" "places" "[J", .fieldLink RX3 7 "SpliceBenchModel" "holds" "[I"] ++ wsX30)
def wsX3_isPlain : List Cond := .code yX3_isPlain cX3_isPlain 3 (some .boolean) :: ([.fieldLink RX3 29 "SpliceBenchModel" "cardNumber" "[J"] ++ wsX30)
def wsX3_isHeld : List Cond := .code yX3_isHeld cX3_isHeld 4 (some .boolean) :: ([.fieldLink RX3 7 "SpliceBenchModel" "holds" "[I"] ++ wsX30)
def wsX3_hold : List Cond := .code yX3_hold cX3_hold 7 (some .int) :: ([.fieldLink RX3 56 "SpliceBenchModel" "rows" "I", .fieldLink RX3 7 "SpliceBenchModel" "holds" "[I", .fieldLink RX3 13 "SpliceBenchModel" "labels" "[I", .fieldLink RX3 38 "SpliceBenchModel" "covered" "I", .fieldLink RX3 16 "SpliceBenchModel" "kind" "[I", .fieldLink RX3 19 "SpliceBenchModel" "size" "[I", .fieldLink RX3 22 "SpliceBenchModel" "places" "[J", .methodLink RX3 53 yX3_isSpindle, .static yX3_isSpindle, .initialized RX3, .code yX3_isSpindle cX3_isSpindle 1 (some .boolean), .methodLink RX3 59 yX3_isHeld, .instanceMethod yX3_isHeld, .selects RX3 yX3_isHeld yX3_isHeld, .code yX3_isHeld cX3_isHeld 4 (some .boolean)] ++ wsX30)
def wsX3_thread : List Cond := .code yX3_thread cX3_thread 3 (some .int) :: ([.fieldLink RX3 7 "SpliceBenchModel" "holds" "[I", .methodLink RX3 53 yX3_isSpindle, .static yX3_isSpindle, .initialized RX3, .code yX3_isSpindle cX3_isSpindle 1 (some .boolean), .methodLink RX3 46 yX3_kindOf, .instanceMethod yX3_kindOf, .selects RX3 yX3_kindOf yX3_kindOf, .code yX3_kindOf cX3_kindOf 2 (some .int), .fieldLink RX3 16 "SpliceBenchModel" "kind" "[I"] ++ wsX30)
def wsX3_put_r1 : List Cond := [Cond.fieldLink RX3 13 "SpliceBenchModel" "labels" "[I", Cond.fieldLink RX3 7 "SpliceBenchModel" "holds" "[I", Cond.fieldLink RX3 62 "SpliceBenchModel" "cards" "I", Cond.fieldLink RX3 29 "SpliceBenchModel" "cardNumber" "[J", Cond.fieldLink RX3 32 "SpliceBenchModel" "cardShown" "[I", Cond.fieldLink RX3 22 "SpliceBenchModel" "places" "[J", Cond.methodLink RX3 53 yX3_isSpindle, Cond.static yX3_isSpindle, Cond.initialized RX3, Cond.code yX3_isSpindle cX3_isSpindle 1 (some .boolean), Cond.methodLink RX3 46 yX3_kindOf, Cond.instanceMethod yX3_kindOf, Cond.selects RX3 yX3_kindOf yX3_kindOf, Cond.code yX3_kindOf cX3_kindOf 2 (some .int), Cond.fieldLink RX3 16 "SpliceBenchModel" "kind" "[I", Cond.methodLink RX3 65 yX3_isPlace, Cond.instanceMethod yX3_isPlace, Cond.selects RX3 yX3_isPlace yX3_isPlace, Cond.code yX3_isPlace cX3_isPlace 3 (some .boolean), Cond.methodLink RX3 50 yX3_sizeOf, Cond.instanceMethod yX3_sizeOf, Cond.selects RX3 yX3_sizeOf yX3_sizeOf, Cond.code yX3_sizeOf cX3_sizeOf 2 (some .int), Cond.fieldLink RX3 19 "SpliceBenchModel" "size" "[I"]
def wsX3_put_r2 : List Cond := [Cond.methodLink RX3 42 yX3_hasPlaces, Cond.instanceMethod yX3_hasPlaces, Cond.selects RX3 yX3_hasPlaces yX3_hasPlaces, Cond.code yX3_hasPlaces cX3_hasPlaces 2 (some .boolean)]
def wsX3_put : List Cond := .code yX3_put cX3_put 9 (some .int) :: ((wsX3_put_r1 ++ wsX3_put_r2) ++ wsX30)
def wsX3_fails : List Cond := .code yX3_fails cX3_fails 2 (some .int) :: ([.fieldLink RX3 35 "SpliceBenchModel" "failed" "[I", .fieldLink RX3 69 "SpliceBenchModel" "came" "I"] ++ wsX30)
def wsX3_cover : List Cond := .code yX3_cover cX3_cover 3 none :: ([.fieldLink RX3 38 "SpliceBenchModel" "covered" "I", .fieldLink RX3 19 "SpliceBenchModel" "size" "[I", .fieldLink RX3 26 "SpliceBenchModel" "was" "[J", .fieldLink RX3 22 "SpliceBenchModel" "places" "[J"] ++ wsX30)
def wsX3_isBeyond : List Cond := .code yX3_isBeyond cX3_isBeyond 3 (some .boolean) :: ([])
def wsX3_move_r1 : List Cond := [Cond.fieldLink RX3 7 "SpliceBenchModel" "holds" "[I", Cond.fieldLink RX3 22 "SpliceBenchModel" "places" "[J", Cond.fieldLink RX3 69 "SpliceBenchModel" "came" "I", Cond.fieldLink RX3 91 "SpliceBenchModel" "good" "I", Cond.methodLink RX3 53 yX3_isSpindle, Cond.static yX3_isSpindle, Cond.initialized RX3, Cond.code yX3_isSpindle cX3_isSpindle 1 (some .boolean), Cond.methodLink RX3 46 yX3_kindOf, Cond.instanceMethod yX3_kindOf, Cond.selects RX3 yX3_kindOf yX3_kindOf, Cond.code yX3_kindOf cX3_kindOf 2 (some .int), Cond.fieldLink RX3 16 "SpliceBenchModel" "kind" "[I", Cond.methodLink RX3 72 yX3_fails, Cond.instanceMethod yX3_fails, Cond.selects RX3 yX3_fails yX3_fails, Cond.code yX3_fails cX3_fails 2 (some .int), Cond.fieldLink RX3 35 "SpliceBenchModel" "failed" "[I", Cond.methodLink RX3 50 yX3_sizeOf, Cond.instanceMethod yX3_sizeOf, Cond.selects RX3 yX3_sizeOf yX3_sizeOf, Cond.code yX3_sizeOf cX3_sizeOf 2 (some .int), Cond.fieldLink RX3 19 "SpliceBenchModel" "size" "[I", Cond.methodLink RX3 42 yX3_hasPlaces]
def wsX3_move_r2 : List Cond := [Cond.instanceMethod yX3_hasPlaces, Cond.selects RX3 yX3_hasPlaces yX3_hasPlaces, Cond.code yX3_hasPlaces cX3_hasPlaces 2 (some .boolean), Cond.methodLink RX3 75 yX3_isBeyond, Cond.static yX3_isBeyond, Cond.code yX3_isBeyond cX3_isBeyond 3 (some .boolean), Cond.methodLink RX3 79 yX3_place, Cond.instanceMethod yX3_place, Cond.selects RX3 yX3_place yX3_place, Cond.code yX3_place cX3_place 3 (some .long), Cond.methodLink RX3 83 yX3_isPlain, Cond.instanceMethod yX3_isPlain, Cond.selects RX3 yX3_isPlain yX3_isPlain, Cond.code yX3_isPlain cX3_isPlain 3 (some .boolean), Cond.fieldLink RX3 29 "SpliceBenchModel" "cardNumber" "[J", Cond.methodLink RX3 87 yX3_cover, Cond.instanceMethod yX3_cover, Cond.selects RX3 yX3_cover yX3_cover, Cond.code yX3_cover cX3_cover 3 none, Cond.fieldLink RX3 38 "SpliceBenchModel" "covered" "I", Cond.fieldLink RX3 26 "SpliceBenchModel" "was" "[J"]
def wsX3_move : List Cond := .code yX3_move cX3_move 12 (some .int) :: ((wsX3_move_r1 ++ wsX3_move_r2) ++ wsX30)
def wsX3_hinders : List Cond := .code yX3_hinders cX3_hinders 4 (some .int) :: ([.fieldLink RX3 7 "SpliceBenchModel" "holds" "[I", .methodLink RX3 42 yX3_hasPlaces, .instanceMethod yX3_hasPlaces, .selects RX3 yX3_hasPlaces yX3_hasPlaces, .initialized RX3, .code yX3_hasPlaces cX3_hasPlaces 2 (some .boolean), .methodLink RX3 50 yX3_sizeOf, .instanceMethod yX3_sizeOf, .selects RX3 yX3_sizeOf yX3_sizeOf, .code yX3_sizeOf cX3_sizeOf 2 (some .int), .fieldLink RX3 19 "SpliceBenchModel" "size" "[I", .methodLink RX3 75 yX3_isBeyond, .static yX3_isBeyond, .code yX3_isBeyond cX3_isBeyond 3 (some .boolean)] ++ wsX30)
def wsX3_shifts_r1 : List Cond := [Cond.fieldLink RX3 7 "SpliceBenchModel" "holds" "[I", Cond.fieldLink RX3 19 "SpliceBenchModel" "size" "[I", Cond.fieldLink RX3 22 "SpliceBenchModel" "places" "[J", Cond.fieldLink RX3 26 "SpliceBenchModel" "was" "[J", Cond.fieldLink RX3 69 "SpliceBenchModel" "came" "I", Cond.fieldLink RX3 91 "SpliceBenchModel" "good" "I", Cond.methodLink RX3 53 yX3_isSpindle, Cond.static yX3_isSpindle, Cond.initialized RX3, Cond.code yX3_isSpindle cX3_isSpindle 1 (some .boolean), Cond.methodLink RX3 94 yX3_hinders, Cond.instanceMethod yX3_hinders, Cond.selects RX3 yX3_hinders yX3_hinders, Cond.code yX3_hinders cX3_hinders 4 (some .int), Cond.methodLink RX3 42 yX3_hasPlaces, Cond.instanceMethod yX3_hasPlaces, Cond.selects RX3 yX3_hasPlaces yX3_hasPlaces, Cond.code yX3_hasPlaces cX3_hasPlaces 2 (some .boolean), Cond.methodLink RX3 50 yX3_sizeOf, Cond.instanceMethod yX3_sizeOf, Cond.selects RX3 yX3_sizeOf yX3_sizeOf, Cond.code yX3_sizeOf cX3_sizeOf 2 (some .int), Cond.methodLink RX3 75 yX3_isBeyond, Cond.static yX3_isBeyond]
def wsX3_shifts_r2 : List Cond := [Cond.code yX3_isBeyond cX3_isBeyond 3 (some .boolean), Cond.methodLink RX3 72 yX3_fails, Cond.instanceMethod yX3_fails, Cond.selects RX3 yX3_fails yX3_fails, Cond.code yX3_fails cX3_fails 2 (some .int), Cond.fieldLink RX3 35 "SpliceBenchModel" "failed" "[I", Cond.methodLink RX3 87 yX3_cover, Cond.instanceMethod yX3_cover, Cond.selects RX3 yX3_cover yX3_cover, Cond.code yX3_cover cX3_cover 3 none, Cond.fieldLink RX3 38 "SpliceBenchModel" "covered" "I"]
def wsX3_shifts : List Cond := .code yX3_shifts cX3_shifts 11 (some .int) :: ((wsX3_shifts_r1 ++ wsX3_shifts_r2) ++ wsX30)
def wsX3_open_r1 : List Cond := [Cond.methodLink RX3 98 yX3_shifts, Cond.instanceMethod yX3_shifts, Cond.selects RX3 yX3_shifts yX3_shifts, Cond.initialized RX3, Cond.code yX3_shifts cX3_shifts 11 (some .int), Cond.fieldLink RX3 7 "SpliceBenchModel" "holds" "[I", Cond.fieldLink RX3 19 "SpliceBenchModel" "size" "[I", Cond.fieldLink RX3 22 "SpliceBenchModel" "places" "[J", Cond.fieldLink RX3 26 "SpliceBenchModel" "was" "[J", Cond.fieldLink RX3 69 "SpliceBenchModel" "came" "I", Cond.fieldLink RX3 91 "SpliceBenchModel" "good" "I", Cond.methodLink RX3 53 yX3_isSpindle, Cond.static yX3_isSpindle, Cond.code yX3_isSpindle cX3_isSpindle 1 (some .boolean), Cond.methodLink RX3 94 yX3_hinders, Cond.instanceMethod yX3_hinders, Cond.selects RX3 yX3_hinders yX3_hinders, Cond.code yX3_hinders cX3_hinders 4 (some .int), Cond.methodLink RX3 42 yX3_hasPlaces, Cond.instanceMethod yX3_hasPlaces, Cond.selects RX3 yX3_hasPlaces yX3_hasPlaces, Cond.code yX3_hasPlaces cX3_hasPlaces 2 (some .boolean), Cond.methodLink RX3 50 yX3_sizeOf, Cond.instanceMethod yX3_sizeOf]
def wsX3_open_r2 : List Cond := [Cond.selects RX3 yX3_sizeOf yX3_sizeOf, Cond.code yX3_sizeOf cX3_sizeOf 2 (some .int), Cond.methodLink RX3 75 yX3_isBeyond, Cond.static yX3_isBeyond, Cond.code yX3_isBeyond cX3_isBeyond 3 (some .boolean), Cond.methodLink RX3 72 yX3_fails, Cond.instanceMethod yX3_fails, Cond.selects RX3 yX3_fails yX3_fails, Cond.code yX3_fails cX3_fails 2 (some .int), Cond.fieldLink RX3 35 "SpliceBenchModel" "failed" "[I", Cond.methodLink RX3 87 yX3_cover, Cond.instanceMethod yX3_cover, Cond.selects RX3 yX3_cover yX3_cover, Cond.code yX3_cover cX3_cover 3 none, Cond.fieldLink RX3 38 "SpliceBenchModel" "covered" "I"]
def wsX3_open : List Cond := .code yX3_open cX3_open 4 (some .int) :: ((wsX3_open_r1 ++ wsX3_open_r2) ++ wsX30)
def wsX3_close_r1 : List Cond := [Cond.methodLink RX3 98 yX3_shifts, Cond.instanceMethod yX3_shifts, Cond.selects RX3 yX3_shifts yX3_shifts, Cond.initialized RX3, Cond.code yX3_shifts cX3_shifts 11 (some .int), Cond.fieldLink RX3 7 "SpliceBenchModel" "holds" "[I", Cond.fieldLink RX3 19 "SpliceBenchModel" "size" "[I", Cond.fieldLink RX3 22 "SpliceBenchModel" "places" "[J", Cond.fieldLink RX3 26 "SpliceBenchModel" "was" "[J", Cond.fieldLink RX3 69 "SpliceBenchModel" "came" "I", Cond.fieldLink RX3 91 "SpliceBenchModel" "good" "I", Cond.methodLink RX3 53 yX3_isSpindle, Cond.static yX3_isSpindle, Cond.code yX3_isSpindle cX3_isSpindle 1 (some .boolean), Cond.methodLink RX3 94 yX3_hinders, Cond.instanceMethod yX3_hinders, Cond.selects RX3 yX3_hinders yX3_hinders, Cond.code yX3_hinders cX3_hinders 4 (some .int), Cond.methodLink RX3 42 yX3_hasPlaces, Cond.instanceMethod yX3_hasPlaces, Cond.selects RX3 yX3_hasPlaces yX3_hasPlaces, Cond.code yX3_hasPlaces cX3_hasPlaces 2 (some .boolean), Cond.methodLink RX3 50 yX3_sizeOf, Cond.instanceMethod yX3_sizeOf]
def wsX3_close_r2 : List Cond := [Cond.selects RX3 yX3_sizeOf yX3_sizeOf, Cond.code yX3_sizeOf cX3_sizeOf 2 (some .int), Cond.methodLink RX3 75 yX3_isBeyond, Cond.static yX3_isBeyond, Cond.code yX3_isBeyond cX3_isBeyond 3 (some .boolean), Cond.methodLink RX3 72 yX3_fails, Cond.instanceMethod yX3_fails, Cond.selects RX3 yX3_fails yX3_fails, Cond.code yX3_fails cX3_fails 2 (some .int), Cond.fieldLink RX3 35 "SpliceBenchModel" "failed" "[I", Cond.methodLink RX3 87 yX3_cover, Cond.instanceMethod yX3_cover, Cond.selects RX3 yX3_cover yX3_cover, Cond.code yX3_cover cX3_cover 3 none, Cond.fieldLink RX3 38 "SpliceBenchModel" "covered" "I"]
def wsX3_close : List Cond := .code yX3_close cX3_close 4 (some .int) :: ((wsX3_close_r1 ++ wsX3_close_r2) ++ wsX30)
def wsX3_back : List Cond := .code yX3_back cX3_back 2 (some .int) :: ([.fieldLink RX3 38 "SpliceBenchModel" "covered" "I", .fieldLink RX3 19 "SpliceBenchModel" "size" "[I", .fieldLink RX3 22 "SpliceBenchModel" "places" "[J", .fieldLink RX3 26 "SpliceBenchModel" "was" "[J"] ++ wsX30)
def wsX3_count : List Cond := .code yX3_count cX3_count 2 (some .int) :: ([.fieldLink RX3 69 "SpliceBenchModel" "came" "I", .fieldLink RX3 35 "SpliceBenchModel" "failed" "[I", .fieldLink RX3 91 "SpliceBenchModel" "good" "I", .fieldLink RX3 56 "SpliceBenchModel" "rows" "I", .fieldLink RX3 62 "SpliceBenchModel" "cards" "I", .fieldLink RX3 38 "SpliceBenchModel" "covered" "I"] ++ wsX30)
def wsX3_held : List Cond := .code yX3_held cX3_held 5 (some .int) :: ([.methodLink RX3 53 yX3_isSpindle, .static yX3_isSpindle, .initialized RX3, .code yX3_isSpindle cX3_isSpindle 1 (some .boolean), .methodLink RX3 46 yX3_kindOf, .instanceMethod yX3_kindOf, .selects RX3 yX3_kindOf yX3_kindOf, .code yX3_kindOf cX3_kindOf 2 (some .int), .fieldLink RX3 7 "SpliceBenchModel" "holds" "[I", .fieldLink RX3 16 "SpliceBenchModel" "kind" "[I", .methodLink RX3 50 yX3_sizeOf, .instanceMethod yX3_sizeOf, .selects RX3 yX3_sizeOf yX3_sizeOf, .code yX3_sizeOf cX3_sizeOf 2 (some .int), .fieldLink RX3 19 "SpliceBenchModel" "size" "[I", .methodLink RX3 42 yX3_hasPlaces, .instanceMethod yX3_hasPlaces, .selects RX3 yX3_hasPlaces yX3_hasPlaces, .code yX3_hasPlaces cX3_hasPlaces 2 (some .boolean), .methodLink RX3 79 yX3_place, .instanceMethod yX3_place, .selects RX3 yX3_place yX3_place, .code yX3_place cX3_place 3 (some .long), .fieldLink RX3 22 "SpliceBenchModel" "places" "[J"] ++ wsX30)
def wsX3_sort_r1 : List Cond := [Cond.methodLink RX3 53 yX3_isSpindle, Cond.static yX3_isSpindle, Cond.initialized RX3, Cond.code yX3_isSpindle cX3_isSpindle 1 (some .boolean), Cond.methodLink RX3 65 yX3_isPlace, Cond.instanceMethod yX3_isPlace, Cond.selects RX3 yX3_isPlace yX3_isPlace, Cond.code yX3_isPlace cX3_isPlace 3 (some .boolean), Cond.methodLink RX3 50 yX3_sizeOf, Cond.instanceMethod yX3_sizeOf, Cond.selects RX3 yX3_sizeOf yX3_sizeOf, Cond.code yX3_sizeOf cX3_sizeOf 2 (some .int), Cond.fieldLink RX3 19 "SpliceBenchModel" "size" "[I", Cond.fieldLink RX3 7 "SpliceBenchModel" "holds" "[I", Cond.methodLink RX3 42 yX3_hasPlaces, Cond.instanceMethod yX3_hasPlaces, Cond.selects RX3 yX3_hasPlaces yX3_hasPlaces, Cond.code yX3_hasPlaces cX3_hasPlaces 2 (some .boolean), Cond.methodLink RX3 102 yX3_isRack, Cond.instanceMethod yX3_isRack, Cond.selects RX3 yX3_isRack yX3_isRack, Cond.code yX3_isRack cX3_isRack 2 (some .boolean), Cond.methodLink RX3 46 yX3_kindOf, Cond.instanceMethod yX3_kindOf]
def wsX3_sort_r2 : List Cond := [Cond.selects RX3 yX3_kindOf yX3_kindOf, Cond.code yX3_kindOf cX3_kindOf 2 (some .int), Cond.fieldLink RX3 16 "SpliceBenchModel" "kind" "[I", Cond.methodLink RX3 79 yX3_place, Cond.instanceMethod yX3_place, Cond.selects RX3 yX3_place yX3_place, Cond.code yX3_place cX3_place 3 (some .long), Cond.fieldLink RX3 22 "SpliceBenchModel" "places" "[J", Cond.methodLink RX3 83 yX3_isPlain, Cond.instanceMethod yX3_isPlain, Cond.selects RX3 yX3_isPlain yX3_isPlain, Cond.code yX3_isPlain cX3_isPlain 3 (some .boolean), Cond.fieldLink RX3 29 "SpliceBenchModel" "cardNumber" "[J"]
def wsX3_sort : List Cond := .code yX3_sort cX3_sort 3 (some .int) :: ((wsX3_sort_r1 ++ wsX3_sort_r2) ++ wsX30)
def wsX3_number_r1 : List Cond := [Cond.fieldLink RX3 13 "SpliceBenchModel" "labels" "[I", Cond.fieldLink RX3 7 "SpliceBenchModel" "holds" "[I", Cond.fieldLink RX3 29 "SpliceBenchModel" "cardNumber" "[J", Cond.methodLink RX3 53 yX3_isSpindle, Cond.static yX3_isSpindle, Cond.initialized RX3, Cond.code yX3_isSpindle cX3_isSpindle 1 (some .boolean), Cond.methodLink RX3 46 yX3_kindOf, Cond.instanceMethod yX3_kindOf, Cond.selects RX3 yX3_kindOf yX3_kindOf, Cond.code yX3_kindOf cX3_kindOf 2 (some .int), Cond.fieldLink RX3 16 "SpliceBenchModel" "kind" "[I", Cond.methodLink RX3 65 yX3_isPlace, Cond.instanceMethod yX3_isPlace, Cond.selects RX3 yX3_isPlace yX3_isPlace, Cond.code yX3_isPlace cX3_isPlace 3 (some .boolean), Cond.methodLink RX3 50 yX3_sizeOf, Cond.instanceMethod yX3_sizeOf, Cond.selects RX3 yX3_sizeOf yX3_sizeOf, Cond.code yX3_sizeOf cX3_sizeOf 2 (some .int), Cond.fieldLink RX3 19 "SpliceBenchModel" "size" "[I", Cond.methodLink RX3 42 yX3_hasPlaces, Cond.instanceMethod yX3_hasPlaces, Cond.selects RX3 yX3_hasPlaces yX3_hasPlaces]
def wsX3_number_r2 : List Cond := [Cond.code yX3_hasPlaces cX3_hasPlaces 2 (some .boolean), Cond.methodLink RX3 79 yX3_place, Cond.instanceMethod yX3_place, Cond.selects RX3 yX3_place yX3_place, Cond.code yX3_place cX3_place 3 (some .long), Cond.fieldLink RX3 22 "SpliceBenchModel" "places" "[J", Cond.methodLink RX3 102 yX3_isRack, Cond.instanceMethod yX3_isRack, Cond.selects RX3 yX3_isRack yX3_isRack, Cond.code yX3_isRack cX3_isRack 2 (some .boolean)]
def wsX3_number : List Cond := .code yX3_number cX3_number 5 (some .long) :: ((wsX3_number_r1 ++ wsX3_number_r2) ++ wsX30)
def wsX3_show_r1 : List Cond := [Cond.fieldLink RX3 32 "SpliceBenchModel" "cardShown" "[I", Cond.methodLink RX3 53 yX3_isSpindle, Cond.static yX3_isSpindle, Cond.initialized RX3, Cond.code yX3_isSpindle cX3_isSpindle 1 (some .boolean), Cond.methodLink RX3 102 yX3_isRack, Cond.instanceMethod yX3_isRack, Cond.selects RX3 yX3_isRack yX3_isRack, Cond.code yX3_isRack cX3_isRack 2 (some .boolean), Cond.methodLink RX3 46 yX3_kindOf, Cond.instanceMethod yX3_kindOf, Cond.selects RX3 yX3_kindOf yX3_kindOf, Cond.code yX3_kindOf cX3_kindOf 2 (some .int), Cond.fieldLink RX3 7 "SpliceBenchModel" "holds" "[I", Cond.fieldLink RX3 16 "SpliceBenchModel" "kind" "[I", Cond.methodLink RX3 50 yX3_sizeOf, Cond.instanceMethod yX3_sizeOf, Cond.selects RX3 yX3_sizeOf yX3_sizeOf, Cond.code yX3_sizeOf cX3_sizeOf 2 (some .int), Cond.fieldLink RX3 19 "SpliceBenchModel" "size" "[I", Cond.methodLink RX3 42 yX3_hasPlaces, Cond.instanceMethod yX3_hasPlaces, Cond.selects RX3 yX3_hasPlaces yX3_hasPlaces, Cond.code yX3_hasPlaces cX3_hasPlaces 2 (some .boolean)]
def wsX3_show_r2 : List Cond := [Cond.methodLink RX3 79 yX3_place, Cond.instanceMethod yX3_place, Cond.selects RX3 yX3_place yX3_place, Cond.code yX3_place cX3_place 3 (some .long), Cond.fieldLink RX3 22 "SpliceBenchModel" "places" "[J"]
def wsX3_show : List Cond := .code yX3_show cX3_show 4 (some .int) :: ((wsX3_show_r1 ++ wsX3_show_r2) ++ wsX30)
def wsX3_shown_r1 : List Cond := [Cond.fieldLink RX3 32 "SpliceBenchModel" "cardShown" "[I", Cond.methodLink RX3 53 yX3_isSpindle, Cond.static yX3_isSpindle, Cond.initialized RX3, Cond.code yX3_isSpindle cX3_isSpindle 1 (some .boolean), Cond.methodLink RX3 102 yX3_isRack, Cond.instanceMethod yX3_isRack, Cond.selects RX3 yX3_isRack yX3_isRack, Cond.code yX3_isRack cX3_isRack 2 (some .boolean), Cond.methodLink RX3 46 yX3_kindOf, Cond.instanceMethod yX3_kindOf, Cond.selects RX3 yX3_kindOf yX3_kindOf, Cond.code yX3_kindOf cX3_kindOf 2 (some .int), Cond.fieldLink RX3 7 "SpliceBenchModel" "holds" "[I", Cond.fieldLink RX3 16 "SpliceBenchModel" "kind" "[I", Cond.methodLink RX3 65 yX3_isPlace, Cond.instanceMethod yX3_isPlace, Cond.selects RX3 yX3_isPlace yX3_isPlace, Cond.code yX3_isPlace cX3_isPlace 3 (some .boolean), Cond.methodLink RX3 50 yX3_sizeOf, Cond.instanceMethod yX3_sizeOf, Cond.selects RX3 yX3_sizeOf yX3_sizeOf, Cond.code yX3_sizeOf cX3_sizeOf 2 (some .int), Cond.fieldLink RX3 19 "SpliceBenchModel" "size" "[I"]
def wsX3_shown_r2 : List Cond := [Cond.methodLink RX3 42 yX3_hasPlaces, Cond.instanceMethod yX3_hasPlaces, Cond.selects RX3 yX3_hasPlaces yX3_hasPlaces, Cond.code yX3_hasPlaces cX3_hasPlaces 2 (some .boolean), Cond.methodLink RX3 79 yX3_place, Cond.instanceMethod yX3_place, Cond.selects RX3 yX3_place yX3_place, Cond.code yX3_place cX3_place 3 (some .long), Cond.fieldLink RX3 22 "SpliceBenchModel" "places" "[J"]
def wsX3_shown : List Cond := .code yX3_shown cX3_shown 3 (some .int) :: ((wsX3_shown_r1 ++ wsX3_shown_r2) ++ wsX30)
def wsX3_same_r1 : List Cond := [Cond.fieldLink RX3 7 "SpliceBenchModel" "holds" "[I", Cond.methodLink RX3 53 yX3_isSpindle, Cond.static yX3_isSpindle, Cond.initialized RX3, Cond.code yX3_isSpindle cX3_isSpindle 1 (some .boolean), Cond.methodLink RX3 102 yX3_isRack, Cond.instanceMethod yX3_isRack, Cond.selects RX3 yX3_isRack yX3_isRack, Cond.code yX3_isRack cX3_isRack 2 (some .boolean), Cond.methodLink RX3 46 yX3_kindOf, Cond.instanceMethod yX3_kindOf, Cond.selects RX3 yX3_kindOf yX3_kindOf, Cond.code yX3_kindOf cX3_kindOf 2 (some .int), Cond.fieldLink RX3 16 "SpliceBenchModel" "kind" "[I", Cond.methodLink RX3 65 yX3_isPlace, Cond.instanceMethod yX3_isPlace, Cond.selects RX3 yX3_isPlace yX3_isPlace, Cond.code yX3_isPlace cX3_isPlace 3 (some .boolean), Cond.methodLink RX3 50 yX3_sizeOf, Cond.instanceMethod yX3_sizeOf, Cond.selects RX3 yX3_sizeOf yX3_sizeOf, Cond.code yX3_sizeOf cX3_sizeOf 2 (some .int), Cond.fieldLink RX3 19 "SpliceBenchModel" "size" "[I", Cond.methodLink RX3 42 yX3_hasPlaces]
def wsX3_same_r2 : List Cond := [Cond.instanceMethod yX3_hasPlaces, Cond.selects RX3 yX3_hasPlaces yX3_hasPlaces, Cond.code yX3_hasPlaces cX3_hasPlaces 2 (some .boolean), Cond.methodLink RX3 79 yX3_place, Cond.instanceMethod yX3_place, Cond.selects RX3 yX3_place yX3_place, Cond.code yX3_place cX3_place 3 (some .long), Cond.fieldLink RX3 22 "SpliceBenchModel" "places" "[J"]
def wsX3_same : List Cond := .code yX3_same cX3_same 5 (some .int) :: ((wsX3_same_r1 ++ wsX3_same_r2) ++ wsX30)
def wsL_law_r1 : List Cond := [Cond.classLink RL 7 RX2, Cond.instantiable RX2 8, Cond.initialized RX2, Cond.classLink RL 10 RX3, Cond.instantiable RX3 14, Cond.initialized RX3, Cond.constantLong RL 23 (4294967295), Cond.methodLink RL 9 yX2_init, Cond.instanceMethod yX2_init, Cond.code yX2_init cX2_init 3 none, Cond.methodLink RX2 1 objectInit, Cond.instanceMethod objectInit, Cond.code objectInit ⟨#[0xb1]⟩ 1 none, Cond.classLink RX2 9 RX1, Cond.fieldLink RX2 11 "SpliceBench" "spindles" "[LSpliceBench$Holding;", Cond.arrayClass .int, Cond.fieldLink RX2 15 "SpliceBench" "endings" "[I", Cond.fieldLink RX2 19 "SpliceBench" "come" "I", Cond.fieldLink RX2 23 "SpliceBench" "made" "I", Cond.fieldLink RX2 26 "SpliceBench" "cardsPut" "I", Cond.fieldLink RX2 29 "SpliceBench" "covered" "LSpliceBench$Holding;", Cond.instantiable RX1 5, Cond.initialized RX1, Cond.fieldLink RX2 36 "SpliceBench" "coveredStrip" "LSpliceBench$Holding;"]
def wsL_law_r2 : List Cond := [Cond.fieldLink RX2 39 "SpliceBench" "coveredRack" "LSpliceBench$Holding;", Cond.methodLink RX2 33 yX1_init, Cond.instanceMethod yX1_init, Cond.code yX1_init cX1_init 4 none, Cond.methodLink RX1 3 objectInit, Cond.fieldLink RX1 9 "SpliceBench$Holding" "kind" "I", Cond.fieldLink RX1 15 "SpliceBench$Holding" "places" "I", Cond.fieldLink RX1 18 "SpliceBench$Holding" "label" "I", Cond.arrayClass .long, Cond.fieldLink RX1 25 "SpliceBench$Holding" "numbers" "[J", Cond.classLink RX1 32 RX0, Cond.fieldLink RX1 34 "SpliceBench$Holding" "cards" "[LSpliceBench$Card;", Cond.methodLink RX1 21 yX1_isStrip, Cond.instanceMethod yX1_isStrip, Cond.selects RX1 yX1_isStrip yX1_isStrip, Cond.code yX1_isStrip cX1_isStrip 1 (some .boolean), Cond.methodLink RX1 29 yX1_isRack, Cond.instanceMethod yX1_isRack, Cond.selects RX1 yX1_isRack yX1_isRack, Cond.code yX1_isRack cX1_isRack 1 (some .boolean), Cond.methodLink RL 12 yX3_init, Cond.instanceMethod yX3_init, Cond.code yX3_init cX3_init 1 none, Cond.methodLink RX3 1 objectInit]
def wsL_law_r3 : List Cond := [Cond.fieldLink RX3 7 "SpliceBenchModel" "holds" "[I", Cond.fieldLink RX3 13 "SpliceBenchModel" "labels" "[I", Cond.fieldLink RX3 16 "SpliceBenchModel" "kind" "[I", Cond.fieldLink RX3 19 "SpliceBenchModel" "size" "[I", Cond.fieldLink RX3 22 "SpliceBenchModel" "places" "[J", Cond.fieldLink RX3 26 "SpliceBenchModel" "was" "[J", Cond.fieldLink RX3 29 "SpliceBenchModel" "cardNumber" "[J", Cond.fieldLink RX3 32 "SpliceBenchModel" "cardShown" "[I", Cond.fieldLink RX3 35 "SpliceBenchModel" "failed" "[I", Cond.fieldLink RX3 38 "SpliceBenchModel" "covered" "I", Cond.methodLink RL 13 yX2_hold, Cond.instanceMethod yX2_hold, Cond.selects RX2 yX2_hold yX2_hold, Cond.code yX2_hold cX2_hold 4 (some .int), Cond.methodLink RX2 42 yX2_isSpindle, Cond.static yX2_isSpindle, Cond.code yX2_isSpindle cX2_isSpindle 1 (some .boolean), Cond.methodLink RL 17 yX3_hold, Cond.instanceMethod yX3_hold, Cond.selects RX3 yX3_hold yX3_hold, Cond.code yX3_hold cX3_hold 7 (some .int), Cond.fieldLink RX3 56 "SpliceBenchModel" "rows" "I", Cond.methodLink RX3 53 yX3_isSpindle, Cond.static yX3_isSpindle]
def wsL_law_r4 : List Cond := [Cond.code yX3_isSpindle cX3_isSpindle 1 (some .boolean), Cond.methodLink RX3 59 yX3_isHeld, Cond.instanceMethod yX3_isHeld, Cond.selects RX3 yX3_isHeld yX3_isHeld, Cond.code yX3_isHeld cX3_isHeld 4 (some .boolean), Cond.methodLink RL 18 yX2_thread, Cond.instanceMethod yX2_thread, Cond.selects RX2 yX2_thread yX2_thread, Cond.code yX2_thread cX2_thread 3 (some .int), Cond.fieldLink RX2 46 "SpliceBench$Holding" "kind" "I", Cond.methodLink RL 22 yX3_thread, Cond.instanceMethod yX3_thread, Cond.selects RX3 yX3_thread yX3_thread, Cond.code yX3_thread cX3_thread 3 (some .int), Cond.methodLink RX3 46 yX3_kindOf, Cond.instanceMethod yX3_kindOf, Cond.selects RX3 yX3_kindOf yX3_kindOf, Cond.code yX3_kindOf cX3_kindOf 2 (some .int), Cond.methodLink RL 25 yX2_put, Cond.instanceMethod yX2_put, Cond.selects RX2 yX2_put yX2_put, Cond.code yX2_put cX2_put 6 (some .int), Cond.fieldLink RX2 49 "SpliceBench$Holding" "label" "I", Cond.fieldLink RX2 63 "SpliceBench$Holding" "numbers" "[J"]
def wsL_law_r5 : List Cond := [Cond.methodLink RX2 52 yX1_isRack, Cond.methodLink RX2 56 yX2_putCard, Cond.instanceMethod yX2_putCard, Cond.selects RX2 yX2_putCard yX2_putCard, Cond.code yX2_putCard cX2_putCard 6 (some .int), Cond.fieldLink RX2 67 "SpliceBench$Holding" "cards" "[LSpliceBench$Card;", Cond.classLink RX2 71 RX0, Cond.instantiable RX0 3, Cond.initialized RX0, Cond.methodLink RX2 60 yX1_hasPlace, Cond.instanceMethod yX1_hasPlace, Cond.selects RX1 yX1_hasPlace yX1_hasPlace, Cond.code yX1_hasPlace cX1_hasPlace 2 (some .boolean), Cond.methodLink RX2 73 yX0_init, Cond.instanceMethod yX0_init, Cond.code yX0_init cX0_init 3 none, Cond.methodLink RX0 1 objectInit, Cond.fieldLink RX0 7 "SpliceBench$Card" "shown" "I", Cond.fieldLink RX0 13 "SpliceBench$Card" "number" "J", Cond.fieldLink RX0 17 "SpliceBench$Card" "slide" "Z", Cond.methodLink RX2 76 yX1_admits, Cond.instanceMethod yX1_admits, Cond.selects RX1 yX1_admits yX1_admits, Cond.code yX1_admits cX1_admits 2 (some .boolean)]
def wsL_law_r6 : List Cond := [Cond.fieldLink RX1 42 "SpliceBench$Card" "slide" "Z", Cond.methodLink RL 29 yX3_put, Cond.instanceMethod yX3_put, Cond.selects RX3 yX3_put yX3_put, Cond.code yX3_put cX3_put 9 (some .int), Cond.fieldLink RX3 62 "SpliceBenchModel" "cards" "I", Cond.methodLink RX3 65 yX3_isPlace, Cond.instanceMethod yX3_isPlace, Cond.selects RX3 yX3_isPlace yX3_isPlace, Cond.code yX3_isPlace cX3_isPlace 3 (some .boolean), Cond.methodLink RX3 50 yX3_sizeOf, Cond.instanceMethod yX3_sizeOf, Cond.selects RX3 yX3_sizeOf yX3_sizeOf, Cond.code yX3_sizeOf cX3_sizeOf 2 (some .int), Cond.methodLink RX3 42 yX3_hasPlaces, Cond.instanceMethod yX3_hasPlaces, Cond.selects RX3 yX3_hasPlaces yX3_hasPlaces, Cond.code yX3_hasPlaces cX3_hasPlaces 2 (some .boolean), Cond.methodLink RL 30 yX2_move, Cond.instanceMethod yX2_move, Cond.selects RX2 yX2_move yX2_move, Cond.code yX2_move cX2_move 10 (some .int), Cond.methodLink RX2 80 yX2_motionFailure, Cond.static yX2_motionFailure]
def wsL_law_r7 : List Cond := [Cond.code yX2_motionFailure cX2_motionFailure 5 (some .int), Cond.methodLink RX2 137 yX1_isLike, Cond.instanceMethod yX1_isLike, Cond.selects RX1 yX1_isLike yX1_isLike, Cond.code yX1_isLike cX1_isLike 2 (some .boolean), Cond.methodLink RX2 141 yX1_hasPlaces, Cond.instanceMethod yX1_hasPlaces, Cond.selects RX1 yX1_hasPlaces yX1_hasPlaces, Cond.code yX1_hasPlaces cX1_hasPlaces 3 (some .boolean), Cond.methodLink RX2 84 yX2_end, Cond.instanceMethod yX2_end, Cond.selects RX2 yX2_end yX2_end, Cond.code yX2_end cX2_end 4 (some .int), Cond.methodLink RX2 88 yX1_countAdmitted, Cond.instanceMethod yX1_countAdmitted, Cond.selects RX1 yX1_countAdmitted yX1_countAdmitted, Cond.code yX1_countAdmitted cX1_countAdmitted 5 (some .int), Cond.methodLink RX1 46 yX1_cardAt, Cond.instanceMethod yX1_cardAt, Cond.selects RX1 yX1_cardAt yX1_cardAt, Cond.code yX1_cardAt cX1_cardAt 2 (some (.object "SpliceBench$Card")), Cond.methodLink RX1 38 yX1_hasPlace, Cond.methodLink RX1 50 yX1_admits, Cond.methodLink RX2 92 yX2_cover]
def wsL_law_r8 : List Cond := [Cond.instanceMethod yX2_cover, Cond.selects RX2 yX2_cover yX2_cover, Cond.code yX2_cover cX2_cover 2 none, Cond.fieldLink RX2 104 "SpliceBench$Holding" "places" "I", Cond.methodLink RX2 111 yX2_rowBehind, Cond.instanceMethod yX2_rowBehind, Cond.selects RX2 yX2_rowBehind yX2_rowBehind, Cond.code yX2_rowBehind cX2_rowBehind 2 (some (.object "SpliceBench$Holding")), Cond.methodLink RX2 96 yX1_copyFrom, Cond.instanceMethod yX1_copyFrom, Cond.selects RX1 yX1_copyFrom yX1_copyFrom, Cond.code yX1_copyFrom cX1_copyFrom 5 none, Cond.methodLink RX1 58 arraycopyName, Cond.native arraycopyName, Cond.static arraycopyName, Cond.initialized "java/lang/System", Cond.methodLink RX1 54 yX1_hasPlaces, Cond.methodLink RL 34 yX3_move, Cond.instanceMethod yX3_move, Cond.selects RX3 yX3_move yX3_move, Cond.code yX3_move cX3_move 12 (some .int), Cond.fieldLink RX3 69 "SpliceBenchModel" "came" "I", Cond.fieldLink RX3 91 "SpliceBenchModel" "good" "I", Cond.methodLink RX3 72 yX3_fails]
def wsL_law_r9 : List Cond := [Cond.instanceMethod yX3_fails, Cond.selects RX3 yX3_fails yX3_fails, Cond.code yX3_fails cX3_fails 2 (some .int), Cond.methodLink RX3 75 yX3_isBeyond, Cond.static yX3_isBeyond, Cond.code yX3_isBeyond cX3_isBeyond 3 (some .boolean), Cond.methodLink RX3 79 yX3_place, Cond.instanceMethod yX3_place, Cond.selects RX3 yX3_place yX3_place, Cond.code yX3_place cX3_place 3 (some .long), Cond.methodLink RX3 83 yX3_isPlain, Cond.instanceMethod yX3_isPlain, Cond.selects RX3 yX3_isPlain yX3_isPlain, Cond.code yX3_isPlain cX3_isPlain 3 (some .boolean), Cond.methodLink RX3 87 yX3_cover, Cond.instanceMethod yX3_cover, Cond.selects RX3 yX3_cover yX3_cover, Cond.code yX3_cover cX3_cover 3 none, Cond.methodLink RL 35 yX2_open, Cond.instanceMethod yX2_open, Cond.selects RX2 yX2_open yX2_open, Cond.code yX2_open cX2_open 4 (some .int), Cond.methodLink RX2 100 yX2_shift, Cond.instanceMethod yX2_shift]
def wsL_law_r10 : List Cond := [Cond.selects RX2 yX2_shift yX2_shift, Cond.code yX2_shift cX2_shift 8 (some .int), Cond.methodLink RX2 107 yX1_makeBlank, Cond.instanceMethod yX1_makeBlank, Cond.selects RX1 yX1_makeBlank yX1_makeBlank, Cond.code yX1_makeBlank cX1_makeBlank 4 none, Cond.methodLink RL 38 yX3_open, Cond.instanceMethod yX3_open, Cond.selects RX3 yX3_open yX3_open, Cond.code yX3_open cX3_open 4 (some .int), Cond.methodLink RX3 98 yX3_shifts, Cond.instanceMethod yX3_shifts, Cond.selects RX3 yX3_shifts yX3_shifts, Cond.code yX3_shifts cX3_shifts 11 (some .int), Cond.methodLink RX3 94 yX3_hinders, Cond.instanceMethod yX3_hinders, Cond.selects RX3 yX3_hinders yX3_hinders, Cond.code yX3_hinders cX3_hinders 4 (some .int), Cond.methodLink RL 39 yX2_close, Cond.instanceMethod yX2_close, Cond.selects RX2 yX2_close yX2_close, Cond.code yX2_close cX2_close 4 (some .int), Cond.methodLink RL 42 yX3_close, Cond.instanceMethod yX3_close]
def wsL_law_r11 : List Cond := [Cond.selects RX3 yX3_close yX3_close, Cond.code yX3_close cX3_close 4 (some .int), Cond.methodLink RL 43 yX2_back, Cond.instanceMethod yX2_back, Cond.selects RX2 yX2_back yX2_back, Cond.code yX2_back cX2_back 1 (some .int), Cond.methodLink RL 47 yX3_back, Cond.instanceMethod yX3_back, Cond.selects RX3 yX3_back yX3_back, Cond.code yX3_back cX3_back 2 (some .int), Cond.methodLink RL 48 yX2_count, Cond.instanceMethod yX2_count, Cond.selects RX2 yX2_count yX2_count, Cond.code yX2_count cX2_count 2 (some .int), Cond.methodLink RL 52 yX3_count, Cond.instanceMethod yX3_count, Cond.selects RX3 yX3_count yX3_count, Cond.code yX3_count cX3_count 2 (some .int), Cond.methodLink RL 53 yX2_held, Cond.instanceMethod yX2_held, Cond.selects RX2 yX2_held yX2_held, Cond.code yX2_held cX2_held 4 (some .int), Cond.methodLink RX2 115 yX1_countFilled, Cond.instanceMethod yX1_countFilled]
def wsL_law_r12 : List Cond := [Cond.selects RX1 yX1_countFilled yX1_countFilled, Cond.code yX1_countFilled cX1_countFilled 3 (some .int), Cond.methodLink RL 56 yX3_held, Cond.instanceMethod yX3_held, Cond.selects RX3 yX3_held yX3_held, Cond.code yX3_held cX3_held 5 (some .int), Cond.methodLink RL 57 yX2_sort, Cond.instanceMethod yX2_sort, Cond.selects RX2 yX2_sort yX2_sort, Cond.code yX2_sort cX2_sort 5 (some .int), Cond.fieldLink RX2 126 "SpliceBench$Card" "slide" "Z", Cond.methodLink RX2 119 yX1_isStrip, Cond.methodLink RX2 122 yX1_cardAt, Cond.methodLink RL 60 yX3_sort, Cond.instanceMethod yX3_sort, Cond.selects RX3 yX3_sort yX3_sort, Cond.code yX3_sort cX3_sort 3 (some .int), Cond.methodLink RX3 102 yX3_isRack, Cond.instanceMethod yX3_isRack, Cond.selects RX3 yX3_isRack yX3_isRack, Cond.code yX3_isRack cX3_isRack 2 (some .boolean), Cond.methodLink RL 61 yX2_number, Cond.instanceMethod yX2_number, Cond.selects RX2 yX2_number yX2_number]
def wsL_law_r13 : List Cond := [Cond.code yX2_number cX2_number 5 (some .long), Cond.fieldLink RX2 130 "SpliceBench$Card" "number" "J", Cond.methodLink RL 65 yX3_number, Cond.instanceMethod yX3_number, Cond.selects RX3 yX3_number yX3_number, Cond.code yX3_number cX3_number 5 (some .long), Cond.methodLink RL 66 yX2_show, Cond.instanceMethod yX2_show, Cond.selects RX2 yX2_show yX2_show, Cond.code yX2_show cX2_show 6 (some .int), Cond.fieldLink RX2 134 "SpliceBench$Card" "shown" "I", Cond.methodLink RL 69 yX3_show, Cond.instanceMethod yX3_show, Cond.selects RX3 yX3_show yX3_show, Cond.code yX3_show cX3_show 4 (some .int), Cond.methodLink RL 70 yX2_shown, Cond.instanceMethod yX2_shown, Cond.selects RX2 yX2_shown yX2_shown, Cond.code yX2_shown cX2_shown 4 (some .int), Cond.methodLink RL 73 yX3_shown, Cond.instanceMethod yX3_shown, Cond.selects RX3 yX3_shown yX3_shown, Cond.code yX3_shown cX3_shown 3 (some .int), Cond.methodLink RL 74 yX2_same]
def wsL_law_r14 : List Cond := [Cond.instanceMethod yX2_same, Cond.selects RX2 yX2_same yX2_same, Cond.code yX2_same cX2_same 8 (some .int), Cond.methodLink RL 78 yX3_same, Cond.instanceMethod yX3_same, Cond.selects RX3 yX3_same yX3_same, Cond.code yX3_same cX3_same 5 (some .int)]
def wsL_law : List Cond := (wsL_law_r1 ++ (wsL_law_r2 ++ (wsL_law_r3 ++ (wsL_law_r4 ++ (wsL_law_r5 ++ (wsL_law_r6 ++ (wsL_law_r7 ++ (wsL_law_r8 ++ (wsL_law_r9 ++ (wsL_law_r10 ++ (wsL_law_r11 ++ (wsL_law_r12 ++ (wsL_law_r13 ++ wsL_law_r14))))))))))))) ++ wsX20 ++ wsX30 ++ wsX10 ++ wsX00 ++ ([] : List Cond)
theorem pl_in {big ws : List Cond} (ps : List Nat) (hp : ws = ps.filterMap (fun i => big[i]?)) : ∀ w ∈ ws, w ∈ big := by
  intro w hw
  rw [hp] at hw
  obtain ⟨i, -, hi⟩ := List.mem_filterMap.mp hw
  exact List.mem_of_getElem? hi
set_option maxRecDepth 100000 in
theorem wsL_law_r1_in : ∀ w ∈ wsL_law_r1, w ∈ lw_tbl := pl_in [23, 24, 18, 243, 244, 20, 402, 25, 26, 27, 28, 29, 30, 31, 71, 69, 72, 73, 74, 75, 76, 33, 19, 77] (by decide +kernel)
set_option maxRecDepth 100000 in
theorem wsL_law_r2_in : ∀ w ∈ wsL_law_r2, w ∈ lw_tbl := pl_in [78, 34, 35, 36, 37, 48, 50, 56, 70, 52, 46, 54, 38, 39, 40, 41, 42, 43, 44, 45, 245, 246, 247, 248] (by decide +kernel)
set_option maxRecDepth 100000 in
theorem wsL_law_r3_in : ∀ w ∈ wsL_law_r3, w ∈ lw_tbl := pl_in [249, 250, 251, 252, 253, 254, 255, 256, 257, 258, 96, 97, 98, 99, 100, 101, 102, 292, 293, 294, 295, 261, 296, 297] (by decide +kernel)
set_option maxRecDepth 100000 in
theorem wsL_law_r4_in : ∀ w ∈ wsL_law_r4, w ∈ lw_tbl := pl_in [298, 299, 301, 5, 302, 103, 104, 105, 106, 49, 303, 304, 305, 306, 307, 309, 6, 310, 107, 108, 109, 110, 57, 53] (by decide +kernel)
set_option maxRecDepth 100000 in
theorem wsL_law_r5_in : ∀ w ∈ wsL_law_r5, w ∈ lw_tbl := pl_in [111, 112, 114, 0, 115, 55, 120, 121, 21, 116, 117, 118, 119, 122, 123, 124, 125, 131, 126, 128, 140, 141, 142, 143] (by decide +kernel)
set_option maxRecDepth 100000 in
theorem wsL_law_r6_in : ∀ w ∈ wsL_law_r6, w ∈ lw_tbl := pl_in [129, 311, 312, 313, 314, 262, 315, 317, 7, 318, 319, 321, 8, 322, 323, 325, 9, 326, 144, 145, 146, 147, 148, 149] (by decide +kernel)
set_option maxRecDepth 100000 in
theorem wsL_law_r7_in : ∀ w ∈ wsL_law_r7, w ∈ lw_tbl := pl_in [150, 151, 152, 153, 154, 155, 156, 157, 158, 159, 161, 1, 162, 163, 164, 165, 166, 167, 168, 169, 170, 171, 172, 173] (by decide +kernel)
set_option maxRecDepth 100000 in
theorem wsL_law_r8_in : ∀ w ∈ wsL_law_r8, w ∈ lw_tbl := pl_in [175, 2, 176, 51, 177, 179, 3, 180, 181, 182, 183, 184, 186, 188, 187, 22, 185, 327, 328, 329, 330, 259, 260, 331] (by decide +kernel)
set_option maxRecDepth 100000 in
theorem wsL_law_r9_in : ∀ w ∈ wsL_law_r9, w ∈ lw_tbl := pl_in [333, 10, 334, 335, 336, 337, 338, 340, 11, 341, 342, 344, 12, 345, 346, 348, 13, 349, 189, 190, 191, 192, 193, 195] (by decide +kernel)
set_option maxRecDepth 100000 in
theorem wsL_law_r10_in : ∀ w ∈ wsL_law_r10, w ∈ lw_tbl := pl_in [4, 196, 197, 198, 199, 200, 350, 351, 352, 353, 354, 356, 14, 357, 358, 360, 15, 361, 201, 202, 203, 204, 362, 363] (by decide +kernel)
set_option maxRecDepth 100000 in
theorem wsL_law_r11_in : ∀ w ∈ wsL_law_r11, w ∈ lw_tbl := pl_in [364, 365, 205, 206, 207, 208, 366, 367, 368, 369, 209, 210, 211, 212, 370, 371, 372, 373, 213, 214, 215, 216, 217, 218] (by decide +kernel)
set_option maxRecDepth 100000 in
theorem wsL_law_r12_in : ∀ w ∈ wsL_law_r12, w ∈ lw_tbl := pl_in [219, 220, 374, 375, 376, 377, 221, 222, 223, 224, 130, 225, 226, 378, 379, 380, 381, 382, 384, 16, 385, 227, 228, 229] (by decide +kernel)
set_option maxRecDepth 100000 in
theorem wsL_law_r13_in : ∀ w ∈ wsL_law_r13, w ∈ lw_tbl := pl_in [230, 127, 386, 387, 388, 389, 231, 232, 233, 234, 132, 390, 391, 392, 393, 235, 236, 237, 238, 394, 395, 396, 397, 239] (by decide +kernel)
set_option maxRecDepth 100000 in
theorem wsL_law_r14_in : ∀ w ∈ wsL_law_r14, w ∈ lw_tbl := pl_in [240, 241, 242, 398, 399, 400, 401] (by decide +kernel)
set_option maxRecDepth 100000 in
theorem wsX00_in : ∀ w ∈ wsX00, w ∈ lw_tbl := pl_in [133, 135, 137] (by decide +kernel)
set_option maxRecDepth 100000 in
theorem wsX10_in : ∀ w ∈ wsX10, w ∈ lw_tbl := pl_in [58, 60, 62, 64, 66] (by decide +kernel)
set_option maxRecDepth 100000 in
theorem wsX20_in : ∀ w ∈ wsX20, w ∈ lw_tbl := pl_in [79, 81, 83, 85, 87, 89, 91, 93] (by decide +kernel)
set_option maxRecDepth 100000 in
theorem wsX30_in : ∀ w ∈ wsX30, w ∈ lw_tbl := pl_in [263, 265, 267, 269, 271, 273, 275, 277, 279, 281, 283, 285, 287, 289] (by decide +kernel)
theorem wsL_law_in : ∀ w ∈ wsL_law, w ∈ lw_tbl := by
  intro w h
  unfold wsL_law at h
  rcases List.mem_append.mp h with h | h
  · rcases List.mem_append.mp h with h | h
    · rcases List.mem_append.mp h with h | h
      · rcases List.mem_append.mp h with h | h
        · rcases List.mem_append.mp h with h | h
          · rcases List.mem_append.mp h with h | h
            · exact wsL_law_r1_in w h
            · rcases List.mem_append.mp h with h | h
              · exact wsL_law_r2_in w h
              · rcases List.mem_append.mp h with h | h
                · exact wsL_law_r3_in w h
                · rcases List.mem_append.mp h with h | h
                  · exact wsL_law_r4_in w h
                  · rcases List.mem_append.mp h with h | h
                    · exact wsL_law_r5_in w h
                    · rcases List.mem_append.mp h with h | h
                      · exact wsL_law_r6_in w h
                      · rcases List.mem_append.mp h with h | h
                        · exact wsL_law_r7_in w h
                        · rcases List.mem_append.mp h with h | h
                          · exact wsL_law_r8_in w h
                          · rcases List.mem_append.mp h with h | h
                            · exact wsL_law_r9_in w h
                            · rcases List.mem_append.mp h with h | h
                              · exact wsL_law_r10_in w h
                              · rcases List.mem_append.mp h with h | h
                                · exact wsL_law_r11_in w h
                                · rcases List.mem_append.mp h with h | h
                                  · exact wsL_law_r12_in w h
                                  · rcases List.mem_append.mp h with h | h
                                    · exact wsL_law_r13_in w h
                                    · exact wsL_law_r14_in w h
          · exact wsX20_in w h
        · exact wsX30_in w h
      · exact wsX10_in w h
    · exact wsX00_in w h
  · exact absurd h List.not_mem_nil
theorem inlX0 : ∀ w ∈ wsX00, w ∈ wsL_law := fun _ h => List.mem_append_left _ (List.mem_append_right _ h)
theorem inX0 : ∀ w ∈ wsX00, w ∈ lw_tbl := fun w h => wsL_law_in w (inlX0 w h)
theorem inlX1 : ∀ w ∈ wsX10, w ∈ wsL_law := fun _ h => List.mem_append_left _ (List.mem_append_left _ (List.mem_append_right _ h))
theorem inX1 : ∀ w ∈ wsX10, w ∈ lw_tbl := fun w h => wsL_law_in w (inlX1 w h)
theorem inlX2 : ∀ w ∈ wsX20, w ∈ wsL_law := fun _ h => List.mem_append_left _ (List.mem_append_left _ (List.mem_append_left _ (List.mem_append_left _ (List.mem_append_right _ h))))
theorem inX2 : ∀ w ∈ wsX20, w ∈ lw_tbl := fun w h => wsL_law_in w (inlX2 w h)
theorem inlX3 : ∀ w ∈ wsX30, w ∈ wsL_law := fun _ h => List.mem_append_left _ (List.mem_append_left _ (List.mem_append_left _ (List.mem_append_right _ h)))
theorem inX3 : ∀ w ∈ wsX30, w ∈ lw_tbl := fun w h => wsL_law_in w (inlX3 w h)
abbrev vwCl : List vw_C := [(RX0, TX0, 3), (RX1, TX1, 5), (RX2, TX2, 8), (RX3, TX3, 14)]
end
section
theorem dX0_init_0 : decode cX0_init 0 = .ok (.aload_n 0, 1) := by decide +kernel
theorem dX0_init_1 : decode cX0_init 1 = .ok (.invokespecial 1, 3) := by decide +kernel
theorem dX0_init_4 : decode cX0_init 4 = .ok (.aload_n 0, 1) := by decide +kernel
theorem dX0_init_5 : decode cX0_init 5 = .ok (.iconst 0, 1) := by decide +kernel
theorem dX0_init_6 : decode cX0_init 6 = .ok (.putfield 7, 3) := by decide +kernel
theorem dX0_init_9 : decode cX0_init 9 = .ok (.aload_n 0, 1) := by decide +kernel
theorem dX0_init_10 : decode cX0_init 10 = .ok (.lload_n 1, 1) := by decide +kernel
theorem dX0_init_11 : decode cX0_init 11 = .ok (.putfield 13, 3) := by decide +kernel
theorem dX0_init_14 : decode cX0_init 14 = .ok (.aload_n 0, 1) := by decide +kernel
theorem dX0_init_15 : decode cX0_init 15 = .ok (.lload_n 1, 1) := by decide +kernel
theorem dX0_init_16 : decode cX0_init 16 = .ok (.lconst 1, 1) := by decide +kernel
theorem dX0_init_17 : decode cX0_init 17 = .ok (.land, 1) := by decide +kernel
theorem dX0_init_18 : decode cX0_init 18 = .ok (.lconst 0, 1) := by decide +kernel
theorem dX0_init_19 : decode cX0_init 19 = .ok (.lcmp, 1) := by decide +kernel
theorem dX0_init_20 : decode cX0_init 20 = .ok (.ifCond .ne 7, 3) := by decide +kernel
theorem dX0_init_23 : decode cX0_init 23 = .ok (.iconst 1, 1) := by decide +kernel
theorem dX0_init_24 : decode cX0_init 24 = .ok (.goto 4, 3) := by decide +kernel
theorem dX0_init_27 : decode cX0_init 27 = .ok (.iconst 0, 1) := by decide +kernel
theorem dX0_init_28 : decode cX0_init 28 = .ok (.putfield 17, 3) := by decide +kernel
theorem dX0_init_31 : decode cX0_init 31 = .ok (.return_, 1) := by decide +kernel
set_option maxRecDepth 20000 in
theorem ggX1_init_X1_isStrip : GoodIn wsX1_init wsX1_isStrip := goodIn_r _ [15, 4, 20, 21, 22, 23, 24] (by decide +kernel) (by decide +kernel)
set_option maxRecDepth 20000 in
theorem gX1_init_X1_isStrip : GoodIn wsX1_init (wsV RX1 21 RX1 yX1_isStrip wsX1_isStrip) := goodIn_app (goodIn_of _ (by decide +kernel)) ggX1_init_X1_isStrip
set_option maxRecDepth 20000 in
theorem ggX1_init_X1_isRack : GoodIn wsX1_init wsX1_isRack := goodIn_r _ [19, 4, 20, 21, 22, 23, 24] (by decide +kernel) (by decide +kernel)
set_option maxRecDepth 20000 in
theorem gX1_init_X1_isRack : GoodIn wsX1_init (wsV RX1 29 RX1 yX1_isRack wsX1_isRack) := goodIn_app (goodIn_of _ (by decide +kernel)) ggX1_init_X1_isRack
theorem dX1_init_0 : decode cX1_init 0 = .ok (.aload_n 0, 1) := by decide +kernel
theorem dX1_init_1 : decode cX1_init 1 = .ok (.invokespecial 3, 3) := by decide +kernel
theorem dX1_init_4 : decode cX1_init 4 = .ok (.aload_n 0, 1) := by decide +kernel
theorem dX1_init_5 : decode cX1_init 5 = .ok (.iload_n 1, 1) := by decide +kernel
theorem dX1_init_6 : decode cX1_init 6 = .ok (.putfield 9, 3) := by decide +kernel
theorem dX1_init_9 : decode cX1_init 9 = .ok (.aload_n 0, 1) := by decide +kernel
theorem dX1_init_10 : decode cX1_init 10 = .ok (.iload_n 2, 1) := by decide +kernel
theorem dX1_init_11 : decode cX1_init 11 = .ok (.putfield 15, 3) := by decide +kernel
theorem dX1_init_14 : decode cX1_init 14 = .ok (.aload_n 0, 1) := by decide +kernel
theorem dX1_init_15 : decode cX1_init 15 = .ok (.iload_n 3, 1) := by decide +kernel
theorem dX1_init_16 : decode cX1_init 16 = .ok (.putfield 18, 3) := by decide +kernel
theorem dX1_init_19 : decode cX1_init 19 = .ok (.aload_n 0, 1) := by decide +kernel
theorem dX1_init_20 : decode cX1_init 20 = .ok (.aload_n 0, 1) := by decide +kernel
theorem dX1_init_21 : decode cX1_init 21 = .ok (.invokevirtual 21, 3) := by decide +kernel
theorem dX1_init_24 : decode cX1_init 24 = .ok (.ifCond .eq 7, 3) := by decide +kernel
theorem dX1_init_27 : decode cX1_init 27 = .ok (.iload_n 2, 1) := by decide +kernel
theorem dX1_init_28 : decode cX1_init 28 = .ok (.goto 4, 3) := by decide +kernel
theorem dX1_init_31 : decode cX1_init 31 = .ok (.iconst 0, 1) := by decide +kernel
theorem dX1_init_32 : decode cX1_init 32 = .ok (.newarray .long, 2) := by decide +kernel
theorem dX1_init_34 : decode cX1_init 34 = .ok (.putfield 25, 3) := by decide +kernel
theorem dX1_init_37 : decode cX1_init 37 = .ok (.aload_n 0, 1) := by decide +kernel
theorem dX1_init_38 : decode cX1_init 38 = .ok (.aload_n 0, 1) := by decide +kernel
theorem dX1_init_39 : decode cX1_init 39 = .ok (.invokevirtual 29, 3) := by decide +kernel
theorem dX1_init_42 : decode cX1_init 42 = .ok (.ifCond .eq 7, 3) := by decide +kernel
theorem dX1_init_45 : decode cX1_init 45 = .ok (.iload_n 2, 1) := by decide +kernel
theorem dX1_init_46 : decode cX1_init 46 = .ok (.goto 4, 3) := by decide +kernel
theorem dX1_init_49 : decode cX1_init 49 = .ok (.iconst 0, 1) := by decide +kernel
theorem dX1_init_50 : decode cX1_init 50 = .ok (.anewarray 32, 3) := by decide +kernel
theorem dX1_init_53 : decode cX1_init 53 = .ok (.putfield 34, 3) := by decide +kernel
theorem dX1_init_56 : decode cX1_init 56 = .ok (.return_, 1) := by decide +kernel
theorem dX1_isStrip_0 : decode cX1_isStrip 0 = .ok (.aload_n 0, 1) := by decide +kernel
theorem dX1_isStrip_1 : decode cX1_isStrip 1 = .ok (.getfield 9, 3) := by decide +kernel
theorem dX1_isStrip_4 : decode cX1_isStrip 4 = .ok (.iconst 2, 1) := by decide +kernel
theorem dX1_isStrip_5 : decode cX1_isStrip 5 = .ok (.if_icmp .eq 11, 3) := by decide +kernel
theorem dX1_isStrip_8 : decode cX1_isStrip 8 = .ok (.aload_n 0, 1) := by decide +kernel
theorem dX1_isStrip_9 : decode cX1_isStrip 9 = .ok (.getfield 9, 3) := by decide +kernel
theorem dX1_isStrip_12 : decode cX1_isStrip 12 = .ok (.iconst 3, 1) := by decide +kernel
theorem dX1_isStrip_13 : decode cX1_isStrip 13 = .ok (.if_icmp .ne 7, 3) := by decide +kernel
theorem dX1_isStrip_16 : decode cX1_isStrip 16 = .ok (.iconst 1, 1) := by decide +kernel
theorem dX1_isStrip_17 : decode cX1_isStrip 17 = .ok (.goto 4, 3) := by decide +kernel
theorem dX1_isStrip_20 : decode cX1_isStrip 20 = .ok (.iconst 0, 1) := by decide +kernel
theorem dX1_isStrip_21 : decode cX1_isStrip 21 = .ok (.ireturn, 1) := by decide +kernel
theorem dX1_isRack_0 : decode cX1_isRack 0 = .ok (.aload_n 0, 1) := by decide +kernel
theorem dX1_isRack_1 : decode cX1_isRack 1 = .ok (.getfield 9, 3) := by decide +kernel
theorem dX1_isRack_4 : decode cX1_isRack 4 = .ok (.iconst 4, 1) := by decide +kernel
theorem dX1_isRack_5 : decode cX1_isRack 5 = .ok (.if_icmp .eq 11, 3) := by decide +kernel
theorem dX1_isRack_8 : decode cX1_isRack 8 = .ok (.aload_n 0, 1) := by decide +kernel
theorem dX1_isRack_9 : decode cX1_isRack 9 = .ok (.getfield 9, 3) := by decide +kernel
theorem dX1_isRack_12 : decode cX1_isRack 12 = .ok (.iconst 5, 1) := by decide +kernel
theorem dX1_isRack_13 : decode cX1_isRack 13 = .ok (.if_icmp .ne 7, 3) := by decide +kernel
theorem dX1_isRack_16 : decode cX1_isRack 16 = .ok (.iconst 1, 1) := by decide +kernel
theorem dX1_isRack_17 : decode cX1_isRack 17 = .ok (.goto 4, 3) := by decide +kernel
theorem dX1_isRack_20 : decode cX1_isRack 20 = .ok (.iconst 0, 1) := by decide +kernel
theorem dX1_isRack_21 : decode cX1_isRack 21 = .ok (.ireturn, 1) := by decide +kernel
set_option maxRecDepth 20000 in
theorem ggX1_isLike_X1_isRack : GoodIn wsX1_isLike wsX1_isRack := goodIn_r _ [6, 1, 11, 12, 13, 14, 15] (by decide +kernel) (by decide +kernel)
set_option maxRecDepth 20000 in
theorem gX1_isLike_X1_isRack : GoodIn wsX1_isLike (wsV RX1 29 RX1 yX1_isRack wsX1_isRack) := goodIn_app (goodIn_of _ (by decide +kernel)) ggX1_isLike_X1_isRack
set_option maxRecDepth 20000 in
theorem ggX1_isLike_X1_isStrip : GoodIn wsX1_isLike wsX1_isStrip := goodIn_r _ [10, 1, 11, 12, 13, 14, 15] (by decide +kernel) (by decide +kernel)
set_option maxRecDepth 20000 in
theorem gX1_isLike_X1_isStrip : GoodIn wsX1_isLike (wsV RX1 21 RX1 yX1_isStrip wsX1_isStrip) := goodIn_app (goodIn_of _ (by decide +kernel)) ggX1_isLike_X1_isStrip
theorem dX1_isLike_0 : decode cX1_isLike 0 = .ok (.aload_n 0, 1) := by decide +kernel
theorem dX1_isLike_1 : decode cX1_isLike 1 = .ok (.invokevirtual 29, 3) := by decide +kernel
theorem dX1_isLike_4 : decode cX1_isLike 4 = .ok (.ifCond .eq 10, 3) := by decide +kernel
theorem dX1_isLike_7 : decode cX1_isLike 7 = .ok (.aload_n 1, 1) := by decide +kernel
theorem dX1_isLike_8 : decode cX1_isLike 8 = .ok (.invokevirtual 29, 3) := by decide +kernel
theorem dX1_isLike_11 : decode cX1_isLike 11 = .ok (.goto 26, 3) := by decide +kernel
theorem dX1_isLike_14 : decode cX1_isLike 14 = .ok (.aload_n 0, 1) := by decide +kernel
theorem dX1_isLike_15 : decode cX1_isLike 15 = .ok (.invokevirtual 21, 3) := by decide +kernel
theorem dX1_isLike_18 : decode cX1_isLike 18 = .ok (.ifCond .eq 18, 3) := by decide +kernel
theorem dX1_isLike_21 : decode cX1_isLike 21 = .ok (.aload_n 0, 1) := by decide +kernel
theorem dX1_isLike_22 : decode cX1_isLike 22 = .ok (.getfield 9, 3) := by decide +kernel
theorem dX1_isLike_25 : decode cX1_isLike 25 = .ok (.aload_n 1, 1) := by decide +kernel
theorem dX1_isLike_26 : decode cX1_isLike 26 = .ok (.getfield 9, 3) := by decide +kernel
theorem dX1_isLike_29 : decode cX1_isLike 29 = .ok (.if_icmp .ne 7, 3) := by decide +kernel
theorem dX1_isLike_32 : decode cX1_isLike 32 = .ok (.iconst 1, 1) := by decide +kernel
theorem dX1_isLike_33 : decode cX1_isLike 33 = .ok (.goto 4, 3) := by decide +kernel
theorem dX1_isLike_36 : decode cX1_isLike 36 = .ok (.iconst 0, 1) := by decide +kernel
theorem dX1_isLike_37 : decode cX1_isLike 37 = .ok (.ireturn, 1) := by decide +kernel
theorem dX1_hasPlace_0 : decode cX1_hasPlace 0 = .ok (.iload_n 1, 1) := by decide +kernel
theorem dX1_hasPlace_1 : decode cX1_hasPlace 1 = .ok (.ifCond .lt 15, 3) := by decide +kernel
theorem dX1_hasPlace_4 : decode cX1_hasPlace 4 = .ok (.iload_n 1, 1) := by decide +kernel
theorem dX1_hasPlace_5 : decode cX1_hasPlace 5 = .ok (.aload_n 0, 1) := by decide +kernel
theorem dX1_hasPlace_6 : decode cX1_hasPlace 6 = .ok (.getfield 15, 3) := by decide +kernel
theorem dX1_hasPlace_9 : decode cX1_hasPlace 9 = .ok (.if_icmp .ge 7, 3) := by decide +kernel
theorem dX1_hasPlace_12 : decode cX1_hasPlace 12 = .ok (.iconst 1, 1) := by decide +kernel
theorem dX1_hasPlace_13 : decode cX1_hasPlace 13 = .ok (.goto 4, 3) := by decide +kernel
theorem dX1_hasPlace_16 : decode cX1_hasPlace 16 = .ok (.iconst 0, 1) := by decide +kernel
theorem dX1_hasPlace_17 : decode cX1_hasPlace 17 = .ok (.ireturn, 1) := by decide +kernel
theorem dX1_hasPlaces_0 : decode cX1_hasPlaces 0 = .ok (.iload_n 1, 1) := by decide +kernel
theorem dX1_hasPlaces_1 : decode cX1_hasPlaces 1 = .ok (.ifCond .lt 21, 3) := by decide +kernel
theorem dX1_hasPlaces_4 : decode cX1_hasPlaces 4 = .ok (.iload_n 2, 1) := by decide +kernel
theorem dX1_hasPlaces_5 : decode cX1_hasPlaces 5 = .ok (.ifCond .lt 17, 3) := by decide +kernel
theorem dX1_hasPlaces_8 : decode cX1_hasPlaces 8 = .ok (.iload_n 2, 1) := by decide +kernel
theorem dX1_hasPlaces_9 : decode cX1_hasPlaces 9 = .ok (.aload_n 0, 1) := by decide +kernel
theorem dX1_hasPlaces_10 : decode cX1_hasPlaces 10 = .ok (.getfield 15, 3) := by decide +kernel
theorem dX1_hasPlaces_13 : decode cX1_hasPlaces 13 = .ok (.iload_n 1, 1) := by decide +kernel
theorem dX1_hasPlaces_14 : decode cX1_hasPlaces 14 = .ok (.isub, 1) := by decide +kernel
theorem dX1_hasPlaces_15 : decode cX1_hasPlaces 15 = .ok (.if_icmp .gt 7, 3) := by decide +kernel
theorem dX1_hasPlaces_18 : decode cX1_hasPlaces 18 = .ok (.iconst 1, 1) := by decide +kernel
theorem dX1_hasPlaces_19 : decode cX1_hasPlaces 19 = .ok (.goto 4, 3) := by decide +kernel
theorem dX1_hasPlaces_22 : decode cX1_hasPlaces 22 = .ok (.iconst 0, 1) := by decide +kernel
theorem dX1_hasPlaces_23 : decode cX1_hasPlaces 23 = .ok (.ireturn, 1) := by decide +kernel
set_option maxRecDepth 20000 in
theorem ggX1_cardAt_X1_isRack : GoodIn wsX1_cardAt wsX1_isRack := goodIn_r _ [6, 7, 13, 14, 15, 16, 17] (by decide +kernel) (by decide +kernel)
set_option maxRecDepth 20000 in
theorem gX1_cardAt_X1_isRack : GoodIn wsX1_cardAt (wsV RX1 29 RX1 yX1_isRack wsX1_isRack) := goodIn_app (goodIn_of _ (by decide +kernel)) ggX1_cardAt_X1_isRack
set_option maxRecDepth 20000 in
theorem ggX1_cardAt_X1_hasPlace : GoodIn wsX1_cardAt wsX1_hasPlace := goodIn_r _ [11, 12, 13, 14, 15, 16, 17] (by decide +kernel) (by decide +kernel)
set_option maxRecDepth 20000 in
theorem gX1_cardAt_X1_hasPlace : GoodIn wsX1_cardAt (wsV RX1 38 RX1 yX1_hasPlace wsX1_hasPlace) := goodIn_app (goodIn_of _ (by decide +kernel)) ggX1_cardAt_X1_hasPlace
theorem dX1_cardAt_0 : decode cX1_cardAt 0 = .ok (.aload_n 0, 1) := by decide +kernel
theorem dX1_cardAt_1 : decode cX1_cardAt 1 = .ok (.invokevirtual 29, 3) := by decide +kernel
theorem dX1_cardAt_4 : decode cX1_cardAt 4 = .ok (.ifCond .eq 20, 3) := by decide +kernel
theorem dX1_cardAt_7 : decode cX1_cardAt 7 = .ok (.aload_n 0, 1) := by decide +kernel
theorem dX1_cardAt_8 : decode cX1_cardAt 8 = .ok (.iload_n 1, 1) := by decide +kernel
theorem dX1_cardAt_9 : decode cX1_cardAt 9 = .ok (.invokevirtual 38, 3) := by decide +kernel
theorem dX1_cardAt_12 : decode cX1_cardAt 12 = .ok (.ifCond .eq 12, 3) := by decide +kernel
theorem dX1_cardAt_15 : decode cX1_cardAt 15 = .ok (.aload_n 0, 1) := by decide +kernel
theorem dX1_cardAt_16 : decode cX1_cardAt 16 = .ok (.getfield 34, 3) := by decide +kernel
theorem dX1_cardAt_19 : decode cX1_cardAt 19 = .ok (.iload_n 1, 1) := by decide +kernel
theorem dX1_cardAt_20 : decode cX1_cardAt 20 = .ok (.aaload, 1) := by decide +kernel
theorem dX1_cardAt_21 : decode cX1_cardAt 21 = .ok (.goto 4, 3) := by decide +kernel
theorem dX1_cardAt_24 : decode cX1_cardAt 24 = .ok (.aconst_null, 1) := by decide +kernel
theorem dX1_cardAt_25 : decode cX1_cardAt 25 = .ok (.areturn, 1) := by decide +kernel
theorem dX1_admits_0 : decode cX1_admits 0 = .ok (.aload_n 0, 1) := by decide +kernel
theorem dX1_admits_1 : decode cX1_admits 1 = .ok (.getfield 9, 3) := by decide +kernel
theorem dX1_admits_4 : decode cX1_admits 4 = .ok (.iconst 5, 1) := by decide +kernel
theorem dX1_admits_5 : decode cX1_admits 5 = .ok (.if_icmp .ne 14, 3) := by decide +kernel
theorem dX1_admits_8 : decode cX1_admits 8 = .ok (.aload_n 1, 1) := by decide +kernel
theorem dX1_admits_9 : decode cX1_admits 9 = .ok (.ifnull 10, 3) := by decide +kernel
theorem dX1_admits_12 : decode cX1_admits 12 = .ok (.aload_n 1, 1) := by decide +kernel
theorem dX1_admits_13 : decode cX1_admits 13 = .ok (.getfield 42, 3) := by decide +kernel
theorem dX1_admits_16 : decode cX1_admits 16 = .ok (.ifCond .eq 7, 3) := by decide +kernel
theorem dX1_admits_19 : decode cX1_admits 19 = .ok (.iconst 1, 1) := by decide +kernel
theorem dX1_admits_20 : decode cX1_admits 20 = .ok (.goto 4, 3) := by decide +kernel
theorem dX1_admits_23 : decode cX1_admits 23 = .ok (.iconst 0, 1) := by decide +kernel
theorem dX1_admits_24 : decode cX1_admits 24 = .ok (.ireturn, 1) := by decide +kernel
set_option maxRecDepth 20000 in
theorem ggX1_countAdmitted_X1_cardAt : GoodIn wsX1_countAdmitted wsX1_cardAt := goodIn_r _ [5, 6, 7, 8, 9, 4, 10, 11, 12, 13, 14, 15, 16, 22, 23, 24, 25, 26] (by decide +kernel) (by decide +kernel)
set_option maxRecDepth 20000 in
theorem gX1_countAdmitted_X1_cardAt : GoodIn wsX1_countAdmitted (wsV RX1 46 RX1 yX1_cardAt wsX1_cardAt) := goodIn_app (goodIn_of _ (by decide +kernel)) ggX1_countAdmitted_X1_cardAt
set_option maxRecDepth 20000 in
theorem ggX1_countAdmitted_X1_admits : GoodIn wsX1_countAdmitted wsX1_admits := goodIn_r _ [20, 11, 21, 22, 23, 24, 25, 26, 27, 28, 29] (by decide +kernel) (by decide +kernel)
set_option maxRecDepth 20000 in
theorem gX1_countAdmitted_X1_admits : GoodIn wsX1_countAdmitted (wsV RX1 50 RX1 yX1_admits wsX1_admits) := goodIn_app (goodIn_of _ (by decide +kernel)) ggX1_countAdmitted_X1_admits
theorem dX1_countAdmitted_0 : decode cX1_countAdmitted 0 = .ok (.iconst 0, 1) := by decide +kernel
theorem dX1_countAdmitted_1 : decode cX1_countAdmitted 1 = .ok (.istore 4, 2) := by decide +kernel
theorem dX1_countAdmitted_3 : decode cX1_countAdmitted 3 = .ok (.iload 4, 2) := by decide +kernel
theorem dX1_countAdmitted_5 : decode cX1_countAdmitted 5 = .ok (.iload_n 3, 1) := by decide +kernel
theorem dX1_countAdmitted_6 : decode cX1_countAdmitted 6 = .ok (.if_icmp .ge 27, 3) := by decide +kernel
theorem dX1_countAdmitted_9 : decode cX1_countAdmitted 9 = .ok (.aload_n 0, 1) := by decide +kernel
theorem dX1_countAdmitted_10 : decode cX1_countAdmitted 10 = .ok (.aload_n 1, 1) := by decide +kernel
theorem dX1_countAdmitted_11 : decode cX1_countAdmitted 11 = .ok (.iload_n 2, 1) := by decide +kernel
theorem dX1_countAdmitted_12 : decode cX1_countAdmitted 12 = .ok (.iload 4, 2) := by decide +kernel
theorem dX1_countAdmitted_14 : decode cX1_countAdmitted 14 = .ok (.iadd, 1) := by decide +kernel
theorem dX1_countAdmitted_15 : decode cX1_countAdmitted 15 = .ok (.invokevirtual 46, 3) := by decide +kernel
theorem dX1_countAdmitted_18 : decode cX1_countAdmitted 18 = .ok (.invokevirtual 50, 3) := by decide +kernel
theorem dX1_countAdmitted_21 : decode cX1_countAdmitted 21 = .ok (.ifCond .ne 6, 3) := by decide +kernel
theorem dX1_countAdmitted_24 : decode cX1_countAdmitted 24 = .ok (.iload 4, 2) := by decide +kernel
theorem dX1_countAdmitted_26 : decode cX1_countAdmitted 26 = .ok (.ireturn, 1) := by decide +kernel
theorem dX1_countAdmitted_27 : decode cX1_countAdmitted 27 = .ok (.iinc 4 1, 3) := by decide +kernel
theorem dX1_countAdmitted_30 : decode cX1_countAdmitted 30 = .ok (.goto (-27), 3) := by decide +kernel
theorem dX1_countAdmitted_33 : decode cX1_countAdmitted 33 = .ok (.iload_n 3, 1) := by decide +kernel
theorem dX1_countAdmitted_34 : decode cX1_countAdmitted 34 = .ok (.ireturn, 1) := by decide +kernel
set_option maxRecDepth 20000 in
theorem ggX1_copyFrom_X1_hasPlaces : GoodIn wsX1_copyFrom wsX1_hasPlaces := goodIn_r _ [11, 12, 22, 23, 24, 25, 26] (by decide +kernel) (by decide +kernel)
set_option maxRecDepth 20000 in
theorem gX1_copyFrom_X1_hasPlaces : GoodIn wsX1_copyFrom (wsV RX1 54 RX1 yX1_hasPlaces wsX1_hasPlaces) := goodIn_app (goodIn_of _ (by decide +kernel)) ggX1_copyFrom_X1_hasPlaces
set_option maxRecDepth 20000 in
theorem ggX1_copyFrom_X1_isRack : GoodIn wsX1_copyFrom wsX1_isRack := goodIn_r _ [16, 17, 22, 23, 24, 25, 26] (by decide +kernel) (by decide +kernel)
set_option maxRecDepth 20000 in
theorem gX1_copyFrom_X1_isRack : GoodIn wsX1_copyFrom (wsV RX1 29 RX1 yX1_isRack wsX1_isRack) := goodIn_app (goodIn_of _ (by decide +kernel)) ggX1_copyFrom_X1_isRack
set_option maxRecDepth 20000 in
theorem ggX1_copyFrom_X1_isStrip : GoodIn wsX1_copyFrom wsX1_isStrip := goodIn_r _ [21, 17, 22, 23, 24, 25, 26] (by decide +kernel) (by decide +kernel)
set_option maxRecDepth 20000 in
theorem gX1_copyFrom_X1_isStrip : GoodIn wsX1_copyFrom (wsV RX1 21 RX1 yX1_isStrip wsX1_isStrip) := goodIn_app (goodIn_of _ (by decide +kernel)) ggX1_copyFrom_X1_isStrip
theorem dX1_copyFrom_0 : decode cX1_copyFrom 0 = .ok (.aload_n 1, 1) := by decide +kernel
theorem dX1_copyFrom_1 : decode cX1_copyFrom 1 = .ok (.iload_n 2, 1) := by decide +kernel
theorem dX1_copyFrom_2 : decode cX1_copyFrom 2 = .ok (.iload 4, 2) := by decide +kernel
theorem dX1_copyFrom_4 : decode cX1_copyFrom 4 = .ok (.invokevirtual 54, 3) := by decide +kernel
theorem dX1_copyFrom_7 : decode cX1_copyFrom 7 = .ok (.ifCond .eq 13, 3) := by decide +kernel
theorem dX1_copyFrom_10 : decode cX1_copyFrom 10 = .ok (.aload_n 0, 1) := by decide +kernel
theorem dX1_copyFrom_11 : decode cX1_copyFrom 11 = .ok (.iload_n 3, 1) := by decide +kernel
theorem dX1_copyFrom_12 : decode cX1_copyFrom 12 = .ok (.iload 4, 2) := by decide +kernel
theorem dX1_copyFrom_14 : decode cX1_copyFrom 14 = .ok (.invokevirtual 54, 3) := by decide +kernel
theorem dX1_copyFrom_17 : decode cX1_copyFrom 17 = .ok (.ifCond .ne 4, 3) := by decide +kernel
theorem dX1_copyFrom_20 : decode cX1_copyFrom 20 = .ok (.return_, 1) := by decide +kernel
theorem dX1_copyFrom_21 : decode cX1_copyFrom 21 = .ok (.aload_n 0, 1) := by decide +kernel
theorem dX1_copyFrom_22 : decode cX1_copyFrom 22 = .ok (.invokevirtual 29, 3) := by decide +kernel
theorem dX1_copyFrom_25 : decode cX1_copyFrom 25 = .ok (.ifCond .eq 28, 3) := by decide +kernel
theorem dX1_copyFrom_28 : decode cX1_copyFrom 28 = .ok (.aload_n 1, 1) := by decide +kernel
theorem dX1_copyFrom_29 : decode cX1_copyFrom 29 = .ok (.invokevirtual 29, 3) := by decide +kernel
theorem dX1_copyFrom_32 : decode cX1_copyFrom 32 = .ok (.ifCond .eq 21, 3) := by decide +kernel
theorem dX1_copyFrom_35 : decode cX1_copyFrom 35 = .ok (.aload_n 1, 1) := by decide +kernel
theorem dX1_copyFrom_36 : decode cX1_copyFrom 36 = .ok (.getfield 34, 3) := by decide +kernel
theorem dX1_copyFrom_39 : decode cX1_copyFrom 39 = .ok (.iload_n 2, 1) := by decide +kernel
theorem dX1_copyFrom_40 : decode cX1_copyFrom 40 = .ok (.aload_n 0, 1) := by decide +kernel
theorem dX1_copyFrom_41 : decode cX1_copyFrom 41 = .ok (.getfield 34, 3) := by decide +kernel
theorem dX1_copyFrom_44 : decode cX1_copyFrom 44 = .ok (.iload_n 3, 1) := by decide +kernel
theorem dX1_copyFrom_45 : decode cX1_copyFrom 45 = .ok (.iload 4, 2) := by decide +kernel
theorem dX1_copyFrom_47 : decode cX1_copyFrom 47 = .ok (.invokestatic 58, 3) := by decide +kernel
theorem dX1_copyFrom_50 : decode cX1_copyFrom 50 = .ok (.goto 32, 3) := by decide +kernel
theorem dX1_copyFrom_53 : decode cX1_copyFrom 53 = .ok (.aload_n 0, 1) := by decide +kernel
theorem dX1_copyFrom_54 : decode cX1_copyFrom 54 = .ok (.invokevirtual 21, 3) := by decide +kernel
theorem dX1_copyFrom_57 : decode cX1_copyFrom 57 = .ok (.ifCond .eq 25, 3) := by decide +kernel
theorem dX1_copyFrom_60 : decode cX1_copyFrom 60 = .ok (.aload_n 1, 1) := by decide +kernel
theorem dX1_copyFrom_61 : decode cX1_copyFrom 61 = .ok (.invokevirtual 21, 3) := by decide +kernel
theorem dX1_copyFrom_64 : decode cX1_copyFrom 64 = .ok (.ifCond .eq 18, 3) := by decide +kernel
theorem dX1_copyFrom_67 : decode cX1_copyFrom 67 = .ok (.aload_n 1, 1) := by decide +kernel
theorem dX1_copyFrom_68 : decode cX1_copyFrom 68 = .ok (.getfield 25, 3) := by decide +kernel
theorem dX1_copyFrom_71 : decode cX1_copyFrom 71 = .ok (.iload_n 2, 1) := by decide +kernel
theorem dX1_copyFrom_72 : decode cX1_copyFrom 72 = .ok (.aload_n 0, 1) := by decide +kernel
theorem dX1_copyFrom_73 : decode cX1_copyFrom 73 = .ok (.getfield 25, 3) := by decide +kernel
theorem dX1_copyFrom_76 : decode cX1_copyFrom 76 = .ok (.iload_n 3, 1) := by decide +kernel
theorem dX1_copyFrom_77 : decode cX1_copyFrom 77 = .ok (.iload 4, 2) := by decide +kernel
theorem dX1_copyFrom_79 : decode cX1_copyFrom 79 = .ok (.invokestatic 58, 3) := by decide +kernel
theorem dX1_copyFrom_82 : decode cX1_copyFrom 82 = .ok (.return_, 1) := by decide +kernel
set_option maxRecDepth 20000 in
theorem ggX1_makeBlank_X1_hasPlaces : GoodIn wsX1_makeBlank wsX1_hasPlaces := goodIn_r _ [7, 8, 18, 19, 20, 21, 22] (by decide +kernel) (by decide +kernel)
set_option maxRecDepth 20000 in
theorem gX1_makeBlank_X1_hasPlaces : GoodIn wsX1_makeBlank (wsV RX1 54 RX1 yX1_hasPlaces wsX1_hasPlaces) := goodIn_app (goodIn_of _ (by decide +kernel)) ggX1_makeBlank_X1_hasPlaces
set_option maxRecDepth 20000 in
theorem ggX1_makeBlank_X1_isRack : GoodIn wsX1_makeBlank wsX1_isRack := goodIn_r _ [12, 13, 18, 19, 20, 21, 22] (by decide +kernel) (by decide +kernel)
set_option maxRecDepth 20000 in
theorem gX1_makeBlank_X1_isRack : GoodIn wsX1_makeBlank (wsV RX1 29 RX1 yX1_isRack wsX1_isRack) := goodIn_app (goodIn_of _ (by decide +kernel)) ggX1_makeBlank_X1_isRack
set_option maxRecDepth 20000 in
theorem ggX1_makeBlank_X1_isStrip : GoodIn wsX1_makeBlank wsX1_isStrip := goodIn_r _ [17, 13, 18, 19, 20, 21, 22] (by decide +kernel) (by decide +kernel)
set_option maxRecDepth 20000 in
theorem gX1_makeBlank_X1_isStrip : GoodIn wsX1_makeBlank (wsV RX1 21 RX1 yX1_isStrip wsX1_isStrip) := goodIn_app (goodIn_of _ (by decide +kernel)) ggX1_makeBlank_X1_isStrip
theorem dX1_makeBlank_0 : decode cX1_makeBlank 0 = .ok (.aload_n 0, 1) := by decide +kernel
theorem dX1_makeBlank_1 : decode cX1_makeBlank 1 = .ok (.iload_n 1, 1) := by decide +kernel
theorem dX1_makeBlank_2 : decode cX1_makeBlank 2 = .ok (.iload_n 2, 1) := by decide +kernel
theorem dX1_makeBlank_3 : decode cX1_makeBlank 3 = .ok (.invokevirtual 54, 3) := by decide +kernel
theorem dX1_makeBlank_6 : decode cX1_makeBlank 6 = .ok (.ifCond .ne 4, 3) := by decide +kernel
theorem dX1_makeBlank_9 : decode cX1_makeBlank 9 = .ok (.return_, 1) := by decide +kernel
theorem dX1_makeBlank_10 : decode cX1_makeBlank 10 = .ok (.iload_n 1, 1) := by decide +kernel
theorem dX1_makeBlank_11 : decode cX1_makeBlank 11 = .ok (.istore_n 3, 1) := by decide +kernel
theorem dX1_makeBlank_12 : decode cX1_makeBlank 12 = .ok (.iload_n 3, 1) := by decide +kernel
theorem dX1_makeBlank_13 : decode cX1_makeBlank 13 = .ok (.iload_n 1, 1) := by decide +kernel
theorem dX1_makeBlank_14 : decode cX1_makeBlank 14 = .ok (.iload_n 2, 1) := by decide +kernel
theorem dX1_makeBlank_15 : decode cX1_makeBlank 15 = .ok (.iadd, 1) := by decide +kernel
theorem dX1_makeBlank_16 : decode cX1_makeBlank 16 = .ok (.if_icmp .ge 40, 3) := by decide +kernel
theorem dX1_makeBlank_19 : decode cX1_makeBlank 19 = .ok (.aload_n 0, 1) := by decide +kernel
theorem dX1_makeBlank_20 : decode cX1_makeBlank 20 = .ok (.invokevirtual 29, 3) := by decide +kernel
theorem dX1_makeBlank_23 : decode cX1_makeBlank 23 = .ok (.ifCond .eq 13, 3) := by decide +kernel
theorem dX1_makeBlank_26 : decode cX1_makeBlank 26 = .ok (.aload_n 0, 1) := by decide +kernel
theorem dX1_makeBlank_27 : decode cX1_makeBlank 27 = .ok (.getfield 34, 3) := by decide +kernel
theorem dX1_makeBlank_30 : decode cX1_makeBlank 30 = .ok (.iload_n 3, 1) := by decide +kernel
theorem dX1_makeBlank_31 : decode cX1_makeBlank 31 = .ok (.aconst_null, 1) := by decide +kernel
theorem dX1_makeBlank_32 : decode cX1_makeBlank 32 = .ok (.aastore, 1) := by decide +kernel
theorem dX1_makeBlank_33 : decode cX1_makeBlank 33 = .ok (.goto 17, 3) := by decide +kernel
theorem dX1_makeBlank_36 : decode cX1_makeBlank 36 = .ok (.aload_n 0, 1) := by decide +kernel
theorem dX1_makeBlank_37 : decode cX1_makeBlank 37 = .ok (.invokevirtual 21, 3) := by decide +kernel
theorem dX1_makeBlank_40 : decode cX1_makeBlank 40 = .ok (.ifCond .eq 10, 3) := by decide +kernel
theorem dX1_makeBlank_43 : decode cX1_makeBlank 43 = .ok (.aload_n 0, 1) := by decide +kernel
theorem dX1_makeBlank_44 : decode cX1_makeBlank 44 = .ok (.getfield 25, 3) := by decide +kernel
theorem dX1_makeBlank_47 : decode cX1_makeBlank 47 = .ok (.iload_n 3, 1) := by decide +kernel
theorem dX1_makeBlank_48 : decode cX1_makeBlank 48 = .ok (.lconst 0, 1) := by decide +kernel
theorem dX1_makeBlank_49 : decode cX1_makeBlank 49 = .ok (.lastore, 1) := by decide +kernel
theorem dX1_makeBlank_50 : decode cX1_makeBlank 50 = .ok (.iinc 3 1, 3) := by decide +kernel
theorem dX1_makeBlank_53 : decode cX1_makeBlank 53 = .ok (.goto (-41), 3) := by decide +kernel
theorem dX1_makeBlank_56 : decode cX1_makeBlank 56 = .ok (.return_, 1) := by decide +kernel
set_option maxRecDepth 20000 in
theorem ggX1_countFilled_X1_isStrip : GoodIn wsX1_countFilled wsX1_isStrip := goodIn_r _ [7, 8, 22, 23, 24, 25, 26] (by decide +kernel) (by decide +kernel)
set_option maxRecDepth 20000 in
theorem gX1_countFilled_X1_isStrip : GoodIn wsX1_countFilled (wsV RX1 21 RX1 yX1_isStrip wsX1_isStrip) := goodIn_app (goodIn_of _ (by decide +kernel)) ggX1_countFilled_X1_isStrip
set_option maxRecDepth 20000 in
theorem ggX1_countFilled_X1_cardAt : GoodIn wsX1_countFilled wsX1_cardAt := goodIn_r _ [12, 13, 14, 15, 16, 6, 17, 8, 18, 19, 20, 21, 1, 22, 23, 24, 25, 26] (by decide +kernel) (by decide +kernel)
set_option maxRecDepth 20000 in
theorem gX1_countFilled_X1_cardAt : GoodIn wsX1_countFilled (wsV RX1 46 RX1 yX1_cardAt wsX1_cardAt) := goodIn_app (goodIn_of _ (by decide +kernel)) ggX1_countFilled_X1_cardAt
theorem dX1_countFilled_0 : decode cX1_countFilled 0 = .ok (.iconst 0, 1) := by decide +kernel
theorem dX1_countFilled_1 : decode cX1_countFilled 1 = .ok (.istore_n 1, 1) := by decide +kernel
theorem dX1_countFilled_2 : decode cX1_countFilled 2 = .ok (.iconst 0, 1) := by decide +kernel
theorem dX1_countFilled_3 : decode cX1_countFilled 3 = .ok (.istore_n 2, 1) := by decide +kernel
theorem dX1_countFilled_4 : decode cX1_countFilled 4 = .ok (.iload_n 2, 1) := by decide +kernel
theorem dX1_countFilled_5 : decode cX1_countFilled 5 = .ok (.aload_n 0, 1) := by decide +kernel
theorem dX1_countFilled_6 : decode cX1_countFilled 6 = .ok (.getfield 15, 3) := by decide +kernel
theorem dX1_countFilled_9 : decode cX1_countFilled 9 = .ok (.if_icmp .ge 41, 3) := by decide +kernel
theorem dX1_countFilled_12 : decode cX1_countFilled 12 = .ok (.aload_n 0, 1) := by decide +kernel
theorem dX1_countFilled_13 : decode cX1_countFilled 13 = .ok (.invokevirtual 21, 3) := by decide +kernel
theorem dX1_countFilled_16 : decode cX1_countFilled 16 = .ok (.ifCond .eq 17, 3) := by decide +kernel
theorem dX1_countFilled_19 : decode cX1_countFilled 19 = .ok (.aload_n 0, 1) := by decide +kernel
theorem dX1_countFilled_20 : decode cX1_countFilled 20 = .ok (.getfield 25, 3) := by decide +kernel
theorem dX1_countFilled_23 : decode cX1_countFilled 23 = .ok (.iload_n 2, 1) := by decide +kernel
theorem dX1_countFilled_24 : decode cX1_countFilled 24 = .ok (.laload, 1) := by decide +kernel
theorem dX1_countFilled_25 : decode cX1_countFilled 25 = .ok (.lconst 0, 1) := by decide +kernel
theorem dX1_countFilled_26 : decode cX1_countFilled 26 = .ok (.lcmp, 1) := by decide +kernel
theorem dX1_countFilled_27 : decode cX1_countFilled 27 = .ok (.ifCond .eq 17, 3) := by decide +kernel
theorem dX1_countFilled_30 : decode cX1_countFilled 30 = .ok (.goto 11, 3) := by decide +kernel
theorem dX1_countFilled_33 : decode cX1_countFilled 33 = .ok (.aload_n 0, 1) := by decide +kernel
theorem dX1_countFilled_34 : decode cX1_countFilled 34 = .ok (.iload_n 2, 1) := by decide +kernel
theorem dX1_countFilled_35 : decode cX1_countFilled 35 = .ok (.invokevirtual 46, 3) := by decide +kernel
theorem dX1_countFilled_38 : decode cX1_countFilled 38 = .ok (.ifnull 6, 3) := by decide +kernel
theorem dX1_countFilled_41 : decode cX1_countFilled 41 = .ok (.iinc 1 1, 3) := by decide +kernel
theorem dX1_countFilled_44 : decode cX1_countFilled 44 = .ok (.iinc 2 1, 3) := by decide +kernel
theorem dX1_countFilled_47 : decode cX1_countFilled 47 = .ok (.goto (-43), 3) := by decide +kernel
theorem dX1_countFilled_50 : decode cX1_countFilled 50 = .ok (.iload_n 1, 1) := by decide +kernel
theorem dX1_countFilled_51 : decode cX1_countFilled 51 = .ok (.ireturn, 1) := by decide +kernel
end
section
set_option maxRecDepth 20000 in
theorem ggX2_init_X1_init : GoodIn wsX2_init wsX1_init := goodIn_r _ [18, 19, 2, 3, 20, 21, 22, 23, 24, 25, 26, 27, 28, 29, 13, 30, 31, 32, 33, 34, 43, 44, 45, 46, 47] (by decide +kernel) (by decide +kernel)
set_option maxRecDepth 20000 in
theorem gX2_init_X1_init : GoodIn wsX2_init (wsX1_init) := ggX2_init_X1_init
theorem dX2_init_0 : decode cX2_init 0 = .ok (.aload_n 0, 1) := by decide +kernel
theorem dX2_init_1 : decode cX2_init 1 = .ok (.invokespecial 1, 3) := by decide +kernel
theorem dX2_init_4 : decode cX2_init 4 = .ok (.aload_n 0, 1) := by decide +kernel
theorem dX2_init_5 : decode cX2_init 5 = .ok (.bipush 10, 2) := by decide +kernel
theorem dX2_init_7 : decode cX2_init 7 = .ok (.anewarray 9, 3) := by decide +kernel
theorem dX2_init_10 : decode cX2_init 10 = .ok (.putfield 11, 3) := by decide +kernel
theorem dX2_init_13 : decode cX2_init 13 = .ok (.aload_n 0, 1) := by decide +kernel
theorem dX2_init_14 : decode cX2_init 14 = .ok (.iconst 5, 1) := by decide +kernel
theorem dX2_init_15 : decode cX2_init 15 = .ok (.newarray .int, 2) := by decide +kernel
theorem dX2_init_17 : decode cX2_init 17 = .ok (.putfield 15, 3) := by decide +kernel
theorem dX2_init_20 : decode cX2_init 20 = .ok (.aload_n 0, 1) := by decide +kernel
theorem dX2_init_21 : decode cX2_init 21 = .ok (.iconst 0, 1) := by decide +kernel
theorem dX2_init_22 : decode cX2_init 22 = .ok (.putfield 19, 3) := by decide +kernel
theorem dX2_init_25 : decode cX2_init 25 = .ok (.aload_n 0, 1) := by decide +kernel
theorem dX2_init_26 : decode cX2_init 26 = .ok (.iconst 0, 1) := by decide +kernel
theorem dX2_init_27 : decode cX2_init 27 = .ok (.putfield 23, 3) := by decide +kernel
theorem dX2_init_30 : decode cX2_init 30 = .ok (.aload_n 0, 1) := by decide +kernel
theorem dX2_init_31 : decode cX2_init 31 = .ok (.iconst 0, 1) := by decide +kernel
theorem dX2_init_32 : decode cX2_init 32 = .ok (.putfield 26, 3) := by decide +kernel
theorem dX2_init_35 : decode cX2_init 35 = .ok (.aload_n 0, 1) := by decide +kernel
theorem dX2_init_36 : decode cX2_init 36 = .ok (.aconst_null, 1) := by decide +kernel
theorem dX2_init_37 : decode cX2_init 37 = .ok (.putfield 29, 3) := by decide +kernel
theorem dX2_init_40 : decode cX2_init 40 = .ok (.aload_n 0, 1) := by decide +kernel
theorem dX2_init_41 : decode cX2_init 41 = .ok (.new 9, 3) := by decide +kernel
theorem dX2_init_44 : decode cX2_init 44 = .ok (.dup, 1) := by decide +kernel
theorem dX2_init_45 : decode cX2_init 45 = .ok (.iconst 3, 1) := by decide +kernel
theorem dX2_init_46 : decode cX2_init 46 = .ok (.bipush 80, 2) := by decide +kernel
theorem dX2_init_48 : decode cX2_init 48 = .ok (.iconst 0, 1) := by decide +kernel
theorem dX2_init_49 : decode cX2_init 49 = .ok (.invokespecial 33, 3) := by decide +kernel
theorem dX2_init_52 : decode cX2_init 52 = .ok (.putfield 36, 3) := by decide +kernel
theorem dX2_init_55 : decode cX2_init 55 = .ok (.aload_n 0, 1) := by decide +kernel
theorem dX2_init_56 : decode cX2_init 56 = .ok (.new 9, 3) := by decide +kernel
theorem dX2_init_59 : decode cX2_init 59 = .ok (.dup, 1) := by decide +kernel
theorem dX2_init_60 : decode cX2_init 60 = .ok (.iconst 4, 1) := by decide +kernel
theorem dX2_init_61 : decode cX2_init 61 = .ok (.bipush 80, 2) := by decide +kernel
theorem dX2_init_63 : decode cX2_init 63 = .ok (.iconst 0, 1) := by decide +kernel
theorem dX2_init_64 : decode cX2_init 64 = .ok (.invokespecial 33, 3) := by decide +kernel
theorem dX2_init_67 : decode cX2_init 67 = .ok (.putfield 39, 3) := by decide +kernel
theorem dX2_init_70 : decode cX2_init 70 = .ok (.new 9, 3) := by decide +kernel
theorem dX2_init_73 : decode cX2_init 73 = .ok (.dup, 1) := by decide +kernel
theorem dX2_init_74 : decode cX2_init 74 = .ok (.iconst 0, 1) := by decide +kernel
theorem dX2_init_75 : decode cX2_init 75 = .ok (.iconst 0, 1) := by decide +kernel
theorem dX2_init_76 : decode cX2_init 76 = .ok (.iconst 0, 1) := by decide +kernel
theorem dX2_init_77 : decode cX2_init 77 = .ok (.invokespecial 33, 3) := by decide +kernel
theorem dX2_init_80 : decode cX2_init 80 = .ok (.astore_n 1, 1) := by decide +kernel
theorem dX2_init_81 : decode cX2_init 81 = .ok (.iconst 0, 1) := by decide +kernel
theorem dX2_init_82 : decode cX2_init 82 = .ok (.istore_n 2, 1) := by decide +kernel
theorem dX2_init_83 : decode cX2_init 83 = .ok (.iload_n 2, 1) := by decide +kernel
theorem dX2_init_84 : decode cX2_init 84 = .ok (.bipush 10, 2) := by decide +kernel
theorem dX2_init_86 : decode cX2_init 86 = .ok (.if_icmp .ge 16, 3) := by decide +kernel
theorem dX2_init_89 : decode cX2_init 89 = .ok (.aload_n 0, 1) := by decide +kernel
theorem dX2_init_90 : decode cX2_init 90 = .ok (.getfield 11, 3) := by decide +kernel
theorem dX2_init_93 : decode cX2_init 93 = .ok (.iload_n 2, 1) := by decide +kernel
theorem dX2_init_94 : decode cX2_init 94 = .ok (.aload_n 1, 1) := by decide +kernel
theorem dX2_init_95 : decode cX2_init 95 = .ok (.aastore, 1) := by decide +kernel
theorem dX2_init_96 : decode cX2_init 96 = .ok (.iinc 2 1, 3) := by decide +kernel
theorem dX2_init_99 : decode cX2_init 99 = .ok (.goto (-16), 3) := by decide +kernel
theorem dX2_init_102 : decode cX2_init 102 = .ok (.return_, 1) := by decide +kernel
set_option maxRecDepth 20000 in
theorem ggX2_hold_X2_isSpindle : GoodIn wsX2_hold wsX2_isSpindle := goodIn_r _ [9] (by decide +kernel) (by decide +kernel)
set_option maxRecDepth 20000 in
theorem gX2_hold_X2_isSpindle : GoodIn wsX2_hold (va_wsS RX2 42 yX2_isSpindle wsX2_isSpindle) := goodIn_app (goodIn_of _ (by decide +kernel)) ggX2_hold_X2_isSpindle
set_option maxRecDepth 20000 in
theorem ggX2_hold_X1_init : GoodIn wsX2_hold wsX1_init := goodIn_r _ [12, 13, 14, 15, 16, 17, 18, 19, 20, 21, 22, 23, 24, 25, 5, 26, 27, 28, 29, 30, 39, 40, 41, 42, 43] (by decide +kernel) (by decide +kernel)
set_option maxRecDepth 20000 in
theorem gX2_hold_X1_init : GoodIn wsX2_hold (wsX1_init) := ggX2_hold_X1_init
theorem dX2_hold_0 : decode cX2_hold 0 = .ok (.iload_n 1, 1) := by decide +kernel
theorem dX2_hold_1 : decode cX2_hold 1 = .ok (.invokestatic 42, 3) := by decide +kernel
theorem dX2_hold_4 : decode cX2_hold 4 = .ok (.ifCond .ne 6, 3) := by decide +kernel
theorem dX2_hold_7 : decode cX2_hold 7 = .ok (.bipush (-9), 2) := by decide +kernel
theorem dX2_hold_9 : decode cX2_hold 9 = .ok (.ireturn, 1) := by decide +kernel
theorem dX2_hold_10 : decode cX2_hold 10 = .ok (.iload_n 2, 1) := by decide +kernel
theorem dX2_hold_11 : decode cX2_hold 11 = .ok (.ifCond .lt 18, 3) := by decide +kernel
theorem dX2_hold_14 : decode cX2_hold 14 = .ok (.iload_n 2, 1) := by decide +kernel
theorem dX2_hold_15 : decode cX2_hold 15 = .ok (.iconst 5, 1) := by decide +kernel
theorem dX2_hold_16 : decode cX2_hold 16 = .ok (.if_icmp .gt 13, 3) := by decide +kernel
theorem dX2_hold_19 : decode cX2_hold 19 = .ok (.aload_n 0, 1) := by decide +kernel
theorem dX2_hold_20 : decode cX2_hold 20 = .ok (.getfield 23, 3) := by decide +kernel
theorem dX2_hold_23 : decode cX2_hold 23 = .ok (.sipush 600, 3) := by decide +kernel
theorem dX2_hold_26 : decode cX2_hold 26 = .ok (.if_icmp .lt 5, 3) := by decide +kernel
theorem dX2_hold_29 : decode cX2_hold 29 = .ok (.iconst 0, 1) := by decide +kernel
theorem dX2_hold_30 : decode cX2_hold 30 = .ok (.ireturn, 1) := by decide +kernel
theorem dX2_hold_31 : decode cX2_hold 31 = .ok (.iload_n 2, 1) := by decide +kernel
theorem dX2_hold_32 : decode cX2_hold 32 = .ok (.ifCond .eq 8, 3) := by decide +kernel
theorem dX2_hold_35 : decode cX2_hold 35 = .ok (.iload_n 2, 1) := by decide +kernel
theorem dX2_hold_36 : decode cX2_hold 36 = .ok (.iconst 1, 1) := by decide +kernel
theorem dX2_hold_37 : decode cX2_hold 37 = .ok (.if_icmp .ne 21, 3) := by decide +kernel
theorem dX2_hold_40 : decode cX2_hold 40 = .ok (.aload_n 0, 1) := by decide +kernel
theorem dX2_hold_41 : decode cX2_hold 41 = .ok (.getfield 11, 3) := by decide +kernel
theorem dX2_hold_44 : decode cX2_hold 44 = .ok (.iload_n 1, 1) := by decide +kernel
theorem dX2_hold_45 : decode cX2_hold 45 = .ok (.new 9, 3) := by decide +kernel
theorem dX2_hold_48 : decode cX2_hold 48 = .ok (.dup, 1) := by decide +kernel
theorem dX2_hold_49 : decode cX2_hold 49 = .ok (.iload_n 2, 1) := by decide +kernel
theorem dX2_hold_50 : decode cX2_hold 50 = .ok (.iconst 0, 1) := by decide +kernel
theorem dX2_hold_51 : decode cX2_hold 51 = .ok (.iload_n 3, 1) := by decide +kernel
theorem dX2_hold_52 : decode cX2_hold 52 = .ok (.invokespecial 33, 3) := by decide +kernel
theorem dX2_hold_55 : decode cX2_hold 55 = .ok (.aastore, 1) := by decide +kernel
theorem dX2_hold_56 : decode cX2_hold 56 = .ok (.iconst 1, 1) := by decide +kernel
theorem dX2_hold_57 : decode cX2_hold 57 = .ok (.ireturn, 1) := by decide +kernel
theorem dX2_hold_58 : decode cX2_hold 58 = .ok (.iload_n 3, 1) := by decide +kernel
theorem dX2_hold_59 : decode cX2_hold 59 = .ok (.ifCond .lt 9, 3) := by decide +kernel
theorem dX2_hold_62 : decode cX2_hold 62 = .ok (.iload_n 3, 1) := by decide +kernel
theorem dX2_hold_63 : decode cX2_hold 63 = .ok (.bipush 80, 2) := by decide +kernel
theorem dX2_hold_65 : decode cX2_hold 65 = .ok (.if_icmp .le 5, 3) := by decide +kernel
theorem dX2_hold_68 : decode cX2_hold 68 = .ok (.iconst 0, 1) := by decide +kernel
theorem dX2_hold_69 : decode cX2_hold 69 = .ok (.ireturn, 1) := by decide +kernel
theorem dX2_hold_70 : decode cX2_hold 70 = .ok (.aload_n 0, 1) := by decide +kernel
theorem dX2_hold_71 : decode cX2_hold 71 = .ok (.getfield 11, 3) := by decide +kernel
theorem dX2_hold_74 : decode cX2_hold 74 = .ok (.iload_n 1, 1) := by decide +kernel
theorem dX2_hold_75 : decode cX2_hold 75 = .ok (.new 9, 3) := by decide +kernel
theorem dX2_hold_78 : decode cX2_hold 78 = .ok (.dup, 1) := by decide +kernel
theorem dX2_hold_79 : decode cX2_hold 79 = .ok (.iload_n 2, 1) := by decide +kernel
theorem dX2_hold_80 : decode cX2_hold 80 = .ok (.iload_n 3, 1) := by decide +kernel
theorem dX2_hold_81 : decode cX2_hold 81 = .ok (.iconst 0, 1) := by decide +kernel
theorem dX2_hold_82 : decode cX2_hold 82 = .ok (.invokespecial 33, 3) := by decide +kernel
theorem dX2_hold_85 : decode cX2_hold 85 = .ok (.aastore, 1) := by decide +kernel
theorem dX2_hold_86 : decode cX2_hold 86 = .ok (.aload_n 0, 1) := by decide +kernel
theorem dX2_hold_87 : decode cX2_hold 87 = .ok (.dup, 1) := by decide +kernel
theorem dX2_hold_88 : decode cX2_hold 88 = .ok (.getfield 23, 3) := by decide +kernel
theorem dX2_hold_91 : decode cX2_hold 91 = .ok (.iconst 1, 1) := by decide +kernel
theorem dX2_hold_92 : decode cX2_hold 92 = .ok (.iadd, 1) := by decide +kernel
theorem dX2_hold_93 : decode cX2_hold 93 = .ok (.putfield 23, 3) := by decide +kernel
theorem dX2_hold_96 : decode cX2_hold 96 = .ok (.iconst 1, 1) := by decide +kernel
theorem dX2_hold_97 : decode cX2_hold 97 = .ok (.ireturn, 1) := by decide +kernel
set_option maxRecDepth 20000 in
theorem ggX2_thread_X2_isSpindle : GoodIn wsX2_thread wsX2_isSpindle := goodIn_r _ [6] (by decide +kernel) (by decide +kernel)
set_option maxRecDepth 20000 in
theorem gX2_thread_X2_isSpindle : GoodIn wsX2_thread (va_wsS RX2 42 yX2_isSpindle wsX2_isSpindle) := goodIn_app (goodIn_of _ (by decide +kernel)) ggX2_thread_X2_isSpindle
theorem dX2_thread_0 : decode cX2_thread 0 = .ok (.iload_n 1, 1) := by decide +kernel
theorem dX2_thread_1 : decode cX2_thread 1 = .ok (.invokestatic 42, 3) := by decide +kernel
theorem dX2_thread_4 : decode cX2_thread 4 = .ok (.ifCond .eq 10, 3) := by decide +kernel
theorem dX2_thread_7 : decode cX2_thread 7 = .ok (.iload_n 2, 1) := by decide +kernel
theorem dX2_thread_8 : decode cX2_thread 8 = .ok (.invokestatic 42, 3) := by decide +kernel
theorem dX2_thread_11 : decode cX2_thread 11 = .ok (.ifCond .ne 6, 3) := by decide +kernel
theorem dX2_thread_14 : decode cX2_thread 14 = .ok (.bipush (-9), 2) := by decide +kernel
theorem dX2_thread_16 : decode cX2_thread 16 = .ok (.ireturn, 1) := by decide +kernel
theorem dX2_thread_17 : decode cX2_thread 17 = .ok (.aload_n 0, 1) := by decide +kernel
theorem dX2_thread_18 : decode cX2_thread 18 = .ok (.getfield 11, 3) := by decide +kernel
theorem dX2_thread_21 : decode cX2_thread 21 = .ok (.iload_n 1, 1) := by decide +kernel
theorem dX2_thread_22 : decode cX2_thread 22 = .ok (.aload_n 0, 1) := by decide +kernel
theorem dX2_thread_23 : decode cX2_thread 23 = .ok (.getfield 11, 3) := by decide +kernel
theorem dX2_thread_26 : decode cX2_thread 26 = .ok (.iload_n 2, 1) := by decide +kernel
theorem dX2_thread_27 : decode cX2_thread 27 = .ok (.aaload, 1) := by decide +kernel
theorem dX2_thread_28 : decode cX2_thread 28 = .ok (.aastore, 1) := by decide +kernel
theorem dX2_thread_29 : decode cX2_thread 29 = .ok (.aload_n 0, 1) := by decide +kernel
theorem dX2_thread_30 : decode cX2_thread 30 = .ok (.getfield 11, 3) := by decide +kernel
theorem dX2_thread_33 : decode cX2_thread 33 = .ok (.iload_n 1, 1) := by decide +kernel
theorem dX2_thread_34 : decode cX2_thread 34 = .ok (.aaload, 1) := by decide +kernel
theorem dX2_thread_35 : decode cX2_thread 35 = .ok (.getfield 46, 3) := by decide +kernel
theorem dX2_thread_38 : decode cX2_thread 38 = .ok (.ireturn, 1) := by decide +kernel
set_option maxRecDepth 20000 in
theorem ggX2_put_X2_isSpindle : GoodIn wsX2_put wsX2_isSpindle := goodIn_r _ [8] (by decide +kernel) (by decide +kernel)
set_option maxRecDepth 20000 in
theorem gX2_put_X2_isSpindle : GoodIn wsX2_put (va_wsS RX2 42 yX2_isSpindle wsX2_isSpindle) := goodIn_app (goodIn_of _ (by decide +kernel)) ggX2_put_X2_isSpindle
set_option maxRecDepth 20000 in
theorem ggX2_put_X1_isRack : GoodIn wsX2_put wsX1_isRack := goodIn_r _ [13, 14, 51, 52, 53, 54, 55] (by decide +kernel) (by decide +kernel)
set_option maxRecDepth 20000 in
theorem gX2_put_X1_isRack : GoodIn wsX2_put (wsV RX2 52 RX1 yX1_isRack wsX1_isRack) := goodIn_app (goodIn_of _ (by decide +kernel)) ggX2_put_X1_isRack
set_option maxRecDepth 20000 in
theorem ggX2_put_X2_putCard : GoodIn wsX2_put wsX2_putCard := goodIn_r _ [18, 19, 20, 21, 22, 23, 24, 25, 26, 12, 27, 28, 29, 30, 31, 32, 33, 34, 35, 36, 37, 38, 39, 40, 41, 14, 42, 43, 44, 45, 46, 47, 48, 49, 50, 51, 52, 53, 54, 55, 56, 57, 58] (by decide +kernel) (by decide +kernel)
set_option maxRecDepth 20000 in
theorem gX2_put_X2_putCard : GoodIn wsX2_put (wsV RX2 56 RX2 yX2_putCard wsX2_putCard) := goodIn_app (goodIn_of _ (by decide +kernel)) ggX2_put_X2_putCard
set_option maxRecDepth 20000 in
theorem ggX2_put_X1_hasPlace : GoodIn wsX2_put wsX1_hasPlace := goodIn_r _ [27, 28, 51, 52, 53, 54, 55] (by decide +kernel) (by decide +kernel)
set_option maxRecDepth 20000 in
theorem gX2_put_X1_hasPlace : GoodIn wsX2_put (wsV RX2 60 RX1 yX1_hasPlace wsX1_hasPlace) := goodIn_app (goodIn_of _ (by decide +kernel)) ggX2_put_X1_hasPlace
theorem dX2_put_0 : decode cX2_put 0 = .ok (.iload_n 1, 1) := by decide +kernel
theorem dX2_put_1 : decode cX2_put 1 = .ok (.invokestatic 42, 3) := by decide +kernel
theorem dX2_put_4 : decode cX2_put 4 = .ok (.ifCond .ne 6, 3) := by decide +kernel
theorem dX2_put_7 : decode cX2_put 7 = .ok (.bipush (-9), 2) := by decide +kernel
theorem dX2_put_9 : decode cX2_put 9 = .ok (.ireturn, 1) := by decide +kernel
theorem dX2_put_10 : decode cX2_put 10 = .ok (.aload_n 0, 1) := by decide +kernel
theorem dX2_put_11 : decode cX2_put 11 = .ok (.getfield 11, 3) := by decide +kernel
theorem dX2_put_14 : decode cX2_put 14 = .ok (.iload_n 1, 1) := by decide +kernel
theorem dX2_put_15 : decode cX2_put 15 = .ok (.aaload, 1) := by decide +kernel
theorem dX2_put_16 : decode cX2_put 16 = .ok (.astore 5, 2) := by decide +kernel
theorem dX2_put_18 : decode cX2_put 18 = .ok (.aload 5, 2) := by decide +kernel
theorem dX2_put_20 : decode cX2_put 20 = .ok (.getfield 46, 3) := by decide +kernel
theorem dX2_put_23 : decode cX2_put 23 = .ok (.ifCond .ne 5, 3) := by decide +kernel
theorem dX2_put_26 : decode cX2_put 26 = .ok (.iconst (-1), 1) := by decide +kernel
theorem dX2_put_27 : decode cX2_put 27 = .ok (.ireturn, 1) := by decide +kernel
theorem dX2_put_28 : decode cX2_put 28 = .ok (.aload 5, 2) := by decide +kernel
theorem dX2_put_30 : decode cX2_put 30 = .ok (.getfield 46, 3) := by decide +kernel
theorem dX2_put_33 : decode cX2_put 33 = .ok (.iconst 1, 1) := by decide +kernel
theorem dX2_put_34 : decode cX2_put 34 = .ok (.if_icmp .ne 12, 3) := by decide +kernel
theorem dX2_put_37 : decode cX2_put 37 = .ok (.aload 5, 2) := by decide +kernel
theorem dX2_put_39 : decode cX2_put 39 = .ok (.lload_n 3, 1) := by decide +kernel
theorem dX2_put_40 : decode cX2_put 40 = .ok (.l2i, 1) := by decide +kernel
theorem dX2_put_41 : decode cX2_put 41 = .ok (.putfield 49, 3) := by decide +kernel
theorem dX2_put_44 : decode cX2_put 44 = .ok (.iconst 1, 1) := by decide +kernel
theorem dX2_put_45 : decode cX2_put 45 = .ok (.ireturn, 1) := by decide +kernel
theorem dX2_put_46 : decode cX2_put 46 = .ok (.aload 5, 2) := by decide +kernel
theorem dX2_put_48 : decode cX2_put 48 = .ok (.invokevirtual 52, 3) := by decide +kernel
theorem dX2_put_51 : decode cX2_put 51 = .ok (.ifCond .eq 12, 3) := by decide +kernel
theorem dX2_put_54 : decode cX2_put 54 = .ok (.aload_n 0, 1) := by decide +kernel
theorem dX2_put_55 : decode cX2_put 55 = .ok (.aload 5, 2) := by decide +kernel
theorem dX2_put_57 : decode cX2_put 57 = .ok (.iload_n 2, 1) := by decide +kernel
theorem dX2_put_58 : decode cX2_put 58 = .ok (.lload_n 3, 1) := by decide +kernel
theorem dX2_put_59 : decode cX2_put 59 = .ok (.invokevirtual 56, 3) := by decide +kernel
theorem dX2_put_62 : decode cX2_put 62 = .ok (.ireturn, 1) := by decide +kernel
theorem dX2_put_63 : decode cX2_put 63 = .ok (.aload 5, 2) := by decide +kernel
theorem dX2_put_65 : decode cX2_put 65 = .ok (.iload_n 2, 1) := by decide +kernel
theorem dX2_put_66 : decode cX2_put 66 = .ok (.invokevirtual 60, 3) := by decide +kernel
theorem dX2_put_69 : decode cX2_put 69 = .ok (.ifCond .ne 6, 3) := by decide +kernel
theorem dX2_put_72 : decode cX2_put 72 = .ok (.bipush (-3), 2) := by decide +kernel
theorem dX2_put_74 : decode cX2_put 74 = .ok (.ireturn, 1) := by decide +kernel
theorem dX2_put_75 : decode cX2_put 75 = .ok (.aload 5, 2) := by decide +kernel
theorem dX2_put_77 : decode cX2_put 77 = .ok (.getfield 63, 3) := by decide +kernel
theorem dX2_put_80 : decode cX2_put 80 = .ok (.iload_n 2, 1) := by decide +kernel
theorem dX2_put_81 : decode cX2_put 81 = .ok (.aload 5, 2) := by decide +kernel
theorem dX2_put_83 : decode cX2_put 83 = .ok (.getfield 46, 3) := by decide +kernel
theorem dX2_put_86 : decode cX2_put 86 = .ok (.iconst 2, 1) := by decide +kernel
theorem dX2_put_87 : decode cX2_put 87 = .ok (.if_icmp .ne 9, 3) := by decide +kernel
theorem dX2_put_90 : decode cX2_put 90 = .ok (.lload_n 3, 1) := by decide +kernel
theorem dX2_put_91 : decode cX2_put 91 = .ok (.l2i, 1) := by decide +kernel
theorem dX2_put_92 : decode cX2_put 92 = .ok (.i2l, 1) := by decide +kernel
theorem dX2_put_93 : decode cX2_put 93 = .ok (.goto 4, 3) := by decide +kernel
theorem dX2_put_96 : decode cX2_put 96 = .ok (.lload_n 3, 1) := by decide +kernel
theorem dX2_put_97 : decode cX2_put 97 = .ok (.lastore, 1) := by decide +kernel
theorem dX2_put_98 : decode cX2_put 98 = .ok (.iconst 1, 1) := by decide +kernel
theorem dX2_put_99 : decode cX2_put 99 = .ok (.ireturn, 1) := by decide +kernel
set_option maxRecDepth 20000 in
theorem ggX2_putCard_X1_hasPlace : GoodIn wsX2_putCard wsX1_hasPlace := goodIn_r _ [10, 11, 35, 36, 37, 38, 39] (by decide +kernel) (by decide +kernel)
set_option maxRecDepth 20000 in
theorem gX2_putCard_X1_hasPlace : GoodIn wsX2_putCard (wsV RX2 60 RX1 yX1_hasPlace wsX1_hasPlace) := goodIn_app (goodIn_of _ (by decide +kernel)) ggX2_putCard_X1_hasPlace
set_option maxRecDepth 20000 in
theorem ggX2_putCard_X0_init : GoodIn wsX2_putCard wsX0_init := goodIn_r _ [14, 15, 16, 17, 18, 19, 20, 40, 41, 42] (by decide +kernel) (by decide +kernel)
set_option maxRecDepth 20000 in
theorem gX2_putCard_X0_init : GoodIn wsX2_putCard (wsX0_init) := ggX2_putCard_X0_init
set_option maxRecDepth 20000 in
theorem ggX2_putCard_X1_admits : GoodIn wsX2_putCard wsX1_admits := goodIn_r _ [24, 25, 26, 35, 36, 37, 38, 39, 40, 41, 42] (by decide +kernel) (by decide +kernel)
set_option maxRecDepth 20000 in
theorem gX2_putCard_X1_admits : GoodIn wsX2_putCard (wsV RX2 76 RX1 yX1_admits wsX1_admits) := goodIn_app (goodIn_of _ (by decide +kernel)) ggX2_putCard_X1_admits
theorem dX2_putCard_0 : decode cX2_putCard 0 = .ok (.lload_n 3, 1) := by decide +kernel
theorem dX2_putCard_1 : decode cX2_putCard 1 = .ok (.lconst 0, 1) := by decide +kernel
theorem dX2_putCard_2 : decode cX2_putCard 2 = .ok (.lcmp, 1) := by decide +kernel
theorem dX2_putCard_3 : decode cX2_putCard 3 = .ok (.ifCond .eq 15, 3) := by decide +kernel
theorem dX2_putCard_6 : decode cX2_putCard 6 = .ok (.aload_n 0, 1) := by decide +kernel
theorem dX2_putCard_7 : decode cX2_putCard 7 = .ok (.getfield 26, 3) := by decide +kernel
theorem dX2_putCard_10 : decode cX2_putCard 10 = .ok (.sipush 2000, 3) := by decide +kernel
theorem dX2_putCard_13 : decode cX2_putCard 13 = .ok (.if_icmp .lt 5, 3) := by decide +kernel
theorem dX2_putCard_16 : decode cX2_putCard 16 = .ok (.iconst 0, 1) := by decide +kernel
theorem dX2_putCard_17 : decode cX2_putCard 17 = .ok (.ireturn, 1) := by decide +kernel
theorem dX2_putCard_18 : decode cX2_putCard 18 = .ok (.aload_n 1, 1) := by decide +kernel
theorem dX2_putCard_19 : decode cX2_putCard 19 = .ok (.iload_n 2, 1) := by decide +kernel
theorem dX2_putCard_20 : decode cX2_putCard 20 = .ok (.invokevirtual 60, 3) := by decide +kernel
theorem dX2_putCard_23 : decode cX2_putCard 23 = .ok (.ifCond .ne 6, 3) := by decide +kernel
theorem dX2_putCard_26 : decode cX2_putCard 26 = .ok (.bipush (-3), 2) := by decide +kernel
theorem dX2_putCard_28 : decode cX2_putCard 28 = .ok (.ireturn, 1) := by decide +kernel
theorem dX2_putCard_29 : decode cX2_putCard 29 = .ok (.lload_n 3, 1) := by decide +kernel
theorem dX2_putCard_30 : decode cX2_putCard 30 = .ok (.lconst 0, 1) := by decide +kernel
theorem dX2_putCard_31 : decode cX2_putCard 31 = .ok (.lcmp, 1) := by decide +kernel
theorem dX2_putCard_32 : decode cX2_putCard 32 = .ok (.ifCond .ne 12, 3) := by decide +kernel
theorem dX2_putCard_35 : decode cX2_putCard 35 = .ok (.aload_n 1, 1) := by decide +kernel
theorem dX2_putCard_36 : decode cX2_putCard 36 = .ok (.getfield 67, 3) := by decide +kernel
theorem dX2_putCard_39 : decode cX2_putCard 39 = .ok (.iload_n 2, 1) := by decide +kernel
theorem dX2_putCard_40 : decode cX2_putCard 40 = .ok (.aconst_null, 1) := by decide +kernel
theorem dX2_putCard_41 : decode cX2_putCard 41 = .ok (.aastore, 1) := by decide +kernel
theorem dX2_putCard_42 : decode cX2_putCard 42 = .ok (.iconst 1, 1) := by decide +kernel
theorem dX2_putCard_43 : decode cX2_putCard 43 = .ok (.ireturn, 1) := by decide +kernel
theorem dX2_putCard_44 : decode cX2_putCard 44 = .ok (.new 71, 3) := by decide +kernel
theorem dX2_putCard_47 : decode cX2_putCard 47 = .ok (.dup, 1) := by decide +kernel
theorem dX2_putCard_48 : decode cX2_putCard 48 = .ok (.lload_n 3, 1) := by decide +kernel
theorem dX2_putCard_49 : decode cX2_putCard 49 = .ok (.invokespecial 73, 3) := by decide +kernel
theorem dX2_putCard_52 : decode cX2_putCard 52 = .ok (.astore 5, 2) := by decide +kernel
theorem dX2_putCard_54 : decode cX2_putCard 54 = .ok (.aload_n 1, 1) := by decide +kernel
theorem dX2_putCard_55 : decode cX2_putCard 55 = .ok (.aload 5, 2) := by decide +kernel
theorem dX2_putCard_57 : decode cX2_putCard 57 = .ok (.invokevirtual 76, 3) := by decide +kernel
theorem dX2_putCard_60 : decode cX2_putCard 60 = .ok (.ifCond .ne 6, 3) := by decide +kernel
theorem dX2_putCard_63 : decode cX2_putCard 63 = .ok (.bipush (-4), 2) := by decide +kernel
theorem dX2_putCard_65 : decode cX2_putCard 65 = .ok (.ireturn, 1) := by decide +kernel
theorem dX2_putCard_66 : decode cX2_putCard 66 = .ok (.aload_n 1, 1) := by decide +kernel
theorem dX2_putCard_67 : decode cX2_putCard 67 = .ok (.getfield 67, 3) := by decide +kernel
theorem dX2_putCard_70 : decode cX2_putCard 70 = .ok (.iload_n 2, 1) := by decide +kernel
theorem dX2_putCard_71 : decode cX2_putCard 71 = .ok (.aload 5, 2) := by decide +kernel
theorem dX2_putCard_73 : decode cX2_putCard 73 = .ok (.aastore, 1) := by decide +kernel
theorem dX2_putCard_74 : decode cX2_putCard 74 = .ok (.aload_n 0, 1) := by decide +kernel
theorem dX2_putCard_75 : decode cX2_putCard 75 = .ok (.dup, 1) := by decide +kernel
theorem dX2_putCard_76 : decode cX2_putCard 76 = .ok (.getfield 26, 3) := by decide +kernel
theorem dX2_putCard_79 : decode cX2_putCard 79 = .ok (.iconst 1, 1) := by decide +kernel
theorem dX2_putCard_80 : decode cX2_putCard 80 = .ok (.iadd, 1) := by decide +kernel
theorem dX2_putCard_81 : decode cX2_putCard 81 = .ok (.putfield 26, 3) := by decide +kernel
theorem dX2_putCard_84 : decode cX2_putCard 84 = .ok (.iconst 1, 1) := by decide +kernel
theorem dX2_putCard_85 : decode cX2_putCard 85 = .ok (.ireturn, 1) := by decide +kernel
set_option maxRecDepth 20000 in
theorem ggX2_move_X2_isSpindle : GoodIn wsX2_move wsX2_isSpindle := goodIn_r _ [5] (by decide +kernel) (by decide +kernel)
set_option maxRecDepth 20000 in
theorem gX2_move_X2_isSpindle : GoodIn wsX2_move (va_wsS RX2 42 yX2_isSpindle wsX2_isSpindle) := goodIn_app (goodIn_of _ (by decide +kernel)) ggX2_move_X2_isSpindle
set_option maxRecDepth 20000 in
theorem ggX2_move_X2_motionFailure : GoodIn wsX2_move wsX2_motionFailure := goodIn_r _ [8, 9, 10, 11, 12, 13, 14, 15, 16, 17, 18, 19, 20, 21, 22, 23, 24, 25, 26, 27, 28, 84, 85, 86, 87, 88] (by decide +kernel) (by decide +kernel)
set_option maxRecDepth 20000 in
theorem gX2_move_X2_motionFailure : GoodIn wsX2_move (va_wsS RX2 80 yX2_motionFailure wsX2_motionFailure) := goodIn_app (goodIn_of _ (by decide +kernel)) ggX2_move_X2_motionFailure
set_option maxRecDepth 20000 in
theorem ggX2_move_X2_end : GoodIn wsX2_move wsX2_end := goodIn_r _ [32, 33, 34, 76, 77, 78, 79, 80, 81, 82, 83] (by decide +kernel) (by decide +kernel)
set_option maxRecDepth 20000 in
theorem gX2_move_X2_end : GoodIn wsX2_move (wsV RX2 84 RX2 yX2_end wsX2_end) := goodIn_app (goodIn_of _ (by decide +kernel)) ggX2_move_X2_end
set_option maxRecDepth 20000 in
theorem ggX2_move_X1_countAdmitted : GoodIn wsX2_move wsX1_countAdmitted := goodIn_r _ [38, 39, 40, 41, 13, 42, 43, 16, 17, 18, 19, 15, 44, 45, 46, 47, 28, 48, 49, 50, 51, 52, 84, 85, 86, 87, 88, 89, 90, 91] (by decide +kernel) (by decide +kernel)
set_option maxRecDepth 20000 in
theorem gX2_move_X1_countAdmitted : GoodIn wsX2_move (wsV RX2 88 RX1 yX1_countAdmitted wsX1_countAdmitted) := goodIn_app (goodIn_of _ (by decide +kernel)) ggX2_move_X1_countAdmitted
set_option maxRecDepth 20000 in
theorem ggX2_move_X2_cover : GoodIn wsX2_move wsX2_cover := goodIn_r _ [56, 57, 58, 59, 60, 61, 4, 62, 63, 64, 65, 17, 18, 13, 19, 15, 66, 67, 68, 69, 43, 70, 71, 72, 73, 74, 75, 25, 26, 27, 28, 16, 20, 21, 22, 23, 84, 85, 86, 87, 88, 76, 77, 78, 79, 80, 81, 82, 83] (by decide +kernel) (by decide +kernel)
set_option maxRecDepth 20000 in
theorem gX2_move_X2_cover : GoodIn wsX2_move (wsV RX2 92 RX2 yX2_cover wsX2_cover) := goodIn_app (goodIn_of _ (by decide +kernel)) ggX2_move_X2_cover
set_option maxRecDepth 20000 in
theorem ggX2_move_X1_copyFrom : GoodIn wsX2_move wsX1_copyFrom := goodIn_r _ [69, 43, 70, 71, 72, 73, 74, 75, 25, 26, 13, 27, 28, 16, 17, 18, 19, 15, 20, 21, 22, 23, 84, 85, 86, 87, 88] (by decide +kernel) (by decide +kernel)
set_option maxRecDepth 20000 in
theorem gX2_move_X1_copyFrom : GoodIn wsX2_move (wsV RX2 96 RX1 yX1_copyFrom wsX1_copyFrom) := goodIn_app (goodIn_of _ (by decide +kernel)) ggX2_move_X1_copyFrom
theorem dX2_move_0 : decode cX2_move 0 = .ok (.iload_n 1, 1) := by decide +kernel
theorem dX2_move_1 : decode cX2_move 1 = .ok (.invokestatic 42, 3) := by decide +kernel
theorem dX2_move_4 : decode cX2_move 4 = .ok (.ifCond .eq 10, 3) := by decide +kernel
theorem dX2_move_7 : decode cX2_move 7 = .ok (.iload_n 3, 1) := by decide +kernel
theorem dX2_move_8 : decode cX2_move 8 = .ok (.invokestatic 42, 3) := by decide +kernel
theorem dX2_move_11 : decode cX2_move 11 = .ok (.ifCond .ne 6, 3) := by decide +kernel
theorem dX2_move_14 : decode cX2_move 14 = .ok (.bipush (-9), 2) := by decide +kernel
theorem dX2_move_16 : decode cX2_move 16 = .ok (.ireturn, 1) := by decide +kernel
theorem dX2_move_17 : decode cX2_move 17 = .ok (.aload_n 0, 1) := by decide +kernel
theorem dX2_move_18 : decode cX2_move 18 = .ok (.getfield 11, 3) := by decide +kernel
theorem dX2_move_21 : decode cX2_move 21 = .ok (.iload_n 1, 1) := by decide +kernel
theorem dX2_move_22 : decode cX2_move 22 = .ok (.aaload, 1) := by decide +kernel
theorem dX2_move_23 : decode cX2_move 23 = .ok (.astore 6, 2) := by decide +kernel
theorem dX2_move_25 : decode cX2_move 25 = .ok (.aload_n 0, 1) := by decide +kernel
theorem dX2_move_26 : decode cX2_move 26 = .ok (.getfield 11, 3) := by decide +kernel
theorem dX2_move_29 : decode cX2_move 29 = .ok (.iload_n 3, 1) := by decide +kernel
theorem dX2_move_30 : decode cX2_move 30 = .ok (.aaload, 1) := by decide +kernel
theorem dX2_move_31 : decode cX2_move 31 = .ok (.astore 7, 2) := by decide +kernel
theorem dX2_move_33 : decode cX2_move 33 = .ok (.aload 6, 2) := by decide +kernel
theorem dX2_move_35 : decode cX2_move 35 = .ok (.iload_n 2, 1) := by decide +kernel
theorem dX2_move_36 : decode cX2_move 36 = .ok (.aload 7, 2) := by decide +kernel
theorem dX2_move_38 : decode cX2_move 38 = .ok (.iload 4, 2) := by decide +kernel
theorem dX2_move_40 : decode cX2_move 40 = .ok (.iload 5, 2) := by decide +kernel
theorem dX2_move_42 : decode cX2_move 42 = .ok (.invokestatic 80, 3) := by decide +kernel
theorem dX2_move_45 : decode cX2_move 45 = .ok (.istore 8, 2) := by decide +kernel
theorem dX2_move_47 : decode cX2_move 47 = .ok (.iload 8, 2) := by decide +kernel
theorem dX2_move_49 : decode cX2_move 49 = .ok (.ifCond .eq 14, 3) := by decide +kernel
theorem dX2_move_52 : decode cX2_move 52 = .ok (.aload_n 0, 1) := by decide +kernel
theorem dX2_move_53 : decode cX2_move 53 = .ok (.iload 8, 2) := by decide +kernel
theorem dX2_move_55 : decode cX2_move 55 = .ok (.iconst 0, 1) := by decide +kernel
theorem dX2_move_56 : decode cX2_move 56 = .ok (.iload 8, 2) := by decide +kernel
theorem dX2_move_58 : decode cX2_move 58 = .ok (.ineg, 1) := by decide +kernel
theorem dX2_move_59 : decode cX2_move 59 = .ok (.invokevirtual 84, 3) := by decide +kernel
theorem dX2_move_62 : decode cX2_move 62 = .ok (.ireturn, 1) := by decide +kernel
theorem dX2_move_63 : decode cX2_move 63 = .ok (.aload 7, 2) := by decide +kernel
theorem dX2_move_65 : decode cX2_move 65 = .ok (.aload 6, 2) := by decide +kernel
theorem dX2_move_67 : decode cX2_move 67 = .ok (.iload_n 2, 1) := by decide +kernel
theorem dX2_move_68 : decode cX2_move 68 = .ok (.iload 5, 2) := by decide +kernel
theorem dX2_move_70 : decode cX2_move 70 = .ok (.invokevirtual 88, 3) := by decide +kernel
theorem dX2_move_73 : decode cX2_move 73 = .ok (.istore 9, 2) := by decide +kernel
theorem dX2_move_75 : decode cX2_move 75 = .ok (.iload 9, 2) := by decide +kernel
theorem dX2_move_77 : decode cX2_move 77 = .ok (.ifCond .le 21, 3) := by decide +kernel
theorem dX2_move_80 : decode cX2_move 80 = .ok (.aload_n 0, 1) := by decide +kernel
theorem dX2_move_81 : decode cX2_move 81 = .ok (.aload 7, 2) := by decide +kernel
theorem dX2_move_83 : decode cX2_move 83 = .ok (.invokevirtual 92, 3) := by decide +kernel
theorem dX2_move_86 : decode cX2_move 86 = .ok (.aload 7, 2) := by decide +kernel
theorem dX2_move_88 : decode cX2_move 88 = .ok (.aload 6, 2) := by decide +kernel
theorem dX2_move_90 : decode cX2_move 90 = .ok (.iload_n 2, 1) := by decide +kernel
theorem dX2_move_91 : decode cX2_move 91 = .ok (.iload 4, 2) := by decide +kernel
theorem dX2_move_93 : decode cX2_move 93 = .ok (.iload 9, 2) := by decide +kernel
theorem dX2_move_95 : decode cX2_move 95 = .ok (.invokevirtual 96, 3) := by decide +kernel
theorem dX2_move_98 : decode cX2_move 98 = .ok (.iload 9, 2) := by decide +kernel
theorem dX2_move_100 : decode cX2_move 100 = .ok (.iload 5, 2) := by decide +kernel
theorem dX2_move_102 : decode cX2_move 102 = .ok (.if_icmp .ge 13, 3) := by decide +kernel
theorem dX2_move_105 : decode cX2_move 105 = .ok (.aload_n 0, 1) := by decide +kernel
theorem dX2_move_106 : decode cX2_move 106 = .ok (.iconst 4, 1) := by decide +kernel
theorem dX2_move_107 : decode cX2_move 107 = .ok (.iload 9, 2) := by decide +kernel
theorem dX2_move_109 : decode cX2_move 109 = .ok (.bipush (-4), 2) := by decide +kernel
theorem dX2_move_111 : decode cX2_move 111 = .ok (.invokevirtual 84, 3) := by decide +kernel
theorem dX2_move_114 : decode cX2_move 114 = .ok (.ireturn, 1) := by decide +kernel
theorem dX2_move_115 : decode cX2_move 115 = .ok (.aload_n 0, 1) := by decide +kernel
theorem dX2_move_116 : decode cX2_move 116 = .ok (.iconst 0, 1) := by decide +kernel
theorem dX2_move_117 : decode cX2_move 117 = .ok (.iload 5, 2) := by decide +kernel
theorem dX2_move_119 : decode cX2_move 119 = .ok (.iload 5, 2) := by decide +kernel
theorem dX2_move_121 : decode cX2_move 121 = .ok (.invokevirtual 84, 3) := by decide +kernel
theorem dX2_move_124 : decode cX2_move 124 = .ok (.ireturn, 1) := by decide +kernel
set_option maxRecDepth 20000 in
theorem ggX2_open_X2_shift : GoodIn wsX2_open wsX2_shift := goodIn_r _ [5, 6, 7, 8, 9, 4, 10, 11, 12, 13, 14, 15, 16, 17, 18, 19, 20, 21, 22, 23, 24, 25, 26, 27, 28, 29, 30, 31, 32, 33, 34, 35, 36, 37, 38, 39, 40, 41, 42, 43, 44, 45, 46, 47, 48, 49, 50, 51, 52, 53, 54, 55, 56, 57, 58, 59, 60, 61, 62, 63, 64, 65, 66, 67, 68, 69, 70, 71, 72, 73, 74, 75, 76, 77, 78, 79] (by decide +kernel) (by decide +kernel)
set_option maxRecDepth 20000 in
theorem gX2_open_X2_shift : GoodIn wsX2_open (wsV RX2 100 RX2 yX2_shift wsX2_shift) := goodIn_app (goodIn_of _ (by decide +kernel)) ggX2_open_X2_shift
theorem dX2_open_0 : decode cX2_open 0 = .ok (.aload_n 0, 1) := by decide +kernel
theorem dX2_open_1 : decode cX2_open 1 = .ok (.iload_n 1, 1) := by decide +kernel
theorem dX2_open_2 : decode cX2_open 2 = .ok (.iload_n 2, 1) := by decide +kernel
theorem dX2_open_3 : decode cX2_open 3 = .ok (.iload_n 3, 1) := by decide +kernel
theorem dX2_open_4 : decode cX2_open 4 = .ok (.iconst 1, 1) := by decide +kernel
theorem dX2_open_5 : decode cX2_open 5 = .ok (.invokevirtual 100, 3) := by decide +kernel
theorem dX2_open_8 : decode cX2_open 8 = .ok (.ireturn, 1) := by decide +kernel
set_option maxRecDepth 20000 in
theorem ggX2_close_X2_shift : GoodIn wsX2_close wsX2_shift := goodIn_r _ [5, 6, 7, 8, 9, 4, 10, 11, 12, 13, 14, 15, 16, 17, 18, 19, 20, 21, 22, 23, 24, 25, 26, 27, 28, 29, 30, 31, 32, 33, 34, 35, 36, 37, 38, 39, 40, 41, 42, 43, 44, 45, 46, 47, 48, 49, 50, 51, 52, 53, 54, 55, 56, 57, 58, 59, 60, 61, 62, 63, 64, 65, 66, 67, 68, 69, 70, 71, 72, 73, 74, 75, 76, 77, 78, 79] (by decide +kernel) (by decide +kernel)
set_option maxRecDepth 20000 in
theorem gX2_close_X2_shift : GoodIn wsX2_close (wsV RX2 100 RX2 yX2_shift wsX2_shift) := goodIn_app (goodIn_of _ (by decide +kernel)) ggX2_close_X2_shift
theorem dX2_close_0 : decode cX2_close 0 = .ok (.aload_n 0, 1) := by decide +kernel
theorem dX2_close_1 : decode cX2_close 1 = .ok (.iload_n 1, 1) := by decide +kernel
theorem dX2_close_2 : decode cX2_close 2 = .ok (.iload_n 2, 1) := by decide +kernel
theorem dX2_close_3 : decode cX2_close 3 = .ok (.iload_n 3, 1) := by decide +kernel
theorem dX2_close_4 : decode cX2_close 4 = .ok (.iconst 0, 1) := by decide +kernel
theorem dX2_close_5 : decode cX2_close 5 = .ok (.invokevirtual 100, 3) := by decide +kernel
theorem dX2_close_8 : decode cX2_close 8 = .ok (.ireturn, 1) := by decide +kernel
set_option maxRecDepth 20000 in
theorem ggX2_shift_X2_isSpindle : GoodIn wsX2_shift wsX2_isSpindle := goodIn_r _ [6] (by decide +kernel) (by decide +kernel)
set_option maxRecDepth 20000 in
theorem gX2_shift_X2_isSpindle : GoodIn wsX2_shift (va_wsS RX2 42 yX2_isSpindle wsX2_isSpindle) := goodIn_app (goodIn_of _ (by decide +kernel)) ggX2_shift_X2_isSpindle
set_option maxRecDepth 20000 in
theorem ggX2_shift_X2_motionFailure : GoodIn wsX2_shift wsX2_motionFailure := goodIn_r _ [9, 10, 11, 12, 13, 14, 15, 16, 17, 18, 19, 20, 21, 22, 23, 24, 25, 26, 27, 28, 29, 71, 72, 73, 74, 75] (by decide +kernel) (by decide +kernel)
set_option maxRecDepth 20000 in
theorem gX2_shift_X2_motionFailure : GoodIn wsX2_shift (va_wsS RX2 80 yX2_motionFailure wsX2_motionFailure) := goodIn_app (goodIn_of _ (by decide +kernel)) ggX2_shift_X2_motionFailure
set_option maxRecDepth 20000 in
theorem ggX2_shift_X2_end : GoodIn wsX2_shift wsX2_end := goodIn_r _ [33, 34, 35, 63, 64, 65, 66, 67, 68, 69, 70] (by decide +kernel) (by decide +kernel)
set_option maxRecDepth 20000 in
theorem gX2_shift_X2_end : GoodIn wsX2_shift (wsV RX2 84 RX2 yX2_end wsX2_end) := goodIn_app (goodIn_of _ (by decide +kernel)) ggX2_shift_X2_end
set_option maxRecDepth 20000 in
theorem ggX2_shift_X2_cover : GoodIn wsX2_shift wsX2_cover := goodIn_r _ [39, 2, 40, 41, 42, 43, 5, 44, 45, 46, 47, 18, 19, 14, 20, 16, 48, 49, 50, 51, 52, 53, 54, 55, 56, 57, 58, 26, 27, 28, 29, 17, 21, 22, 23, 24, 71, 72, 73, 74, 75, 63, 64, 65, 66, 67, 68, 69, 70] (by decide +kernel) (by decide +kernel)
set_option maxRecDepth 20000 in
theorem gX2_shift_X2_cover : GoodIn wsX2_shift (wsV RX2 92 RX2 yX2_cover wsX2_cover) := goodIn_app (goodIn_of _ (by decide +kernel)) ggX2_shift_X2_cover
set_option maxRecDepth 20000 in
theorem ggX2_shift_X1_copyFrom : GoodIn wsX2_shift wsX1_copyFrom := goodIn_r _ [51, 52, 53, 54, 55, 56, 57, 58, 26, 27, 14, 28, 29, 17, 18, 19, 20, 16, 21, 22, 23, 24, 71, 72, 73, 74, 75] (by decide +kernel) (by decide +kernel)
set_option maxRecDepth 20000 in
theorem gX2_shift_X1_copyFrom : GoodIn wsX2_shift (wsV RX2 96 RX1 yX1_copyFrom wsX1_copyFrom) := goodIn_app (goodIn_of _ (by decide +kernel)) ggX2_shift_X1_copyFrom
set_option maxRecDepth 20000 in
theorem ggX2_shift_X1_makeBlank : GoodIn wsX2_shift wsX1_makeBlank := goodIn_r _ [62, 52, 57, 58, 26, 27, 14, 28, 29, 17, 18, 19, 20, 16, 21, 22, 23, 24, 71, 72, 73, 74, 75] (by decide +kernel) (by decide +kernel)
set_option maxRecDepth 20000 in
theorem gX2_shift_X1_makeBlank : GoodIn wsX2_shift (wsV RX2 107 RX1 yX1_makeBlank wsX1_makeBlank) := goodIn_app (goodIn_of _ (by decide +kernel)) ggX2_shift_X1_makeBlank
theorem dX2_shift_0 : decode cX2_shift 0 = .ok (.iload_n 1, 1) := by decide +kernel
theorem dX2_shift_1 : decode cX2_shift 1 = .ok (.invokestatic 42, 3) := by decide +kernel
theorem dX2_shift_4 : decode cX2_shift 4 = .ok (.ifCond .ne 6, 3) := by decide +kernel
theorem dX2_shift_7 : decode cX2_shift 7 = .ok (.bipush (-9), 2) := by decide +kernel
theorem dX2_shift_9 : decode cX2_shift 9 = .ok (.ireturn, 1) := by decide +kernel
theorem dX2_shift_10 : decode cX2_shift 10 = .ok (.aload_n 0, 1) := by decide +kernel
theorem dX2_shift_11 : decode cX2_shift 11 = .ok (.getfield 11, 3) := by decide +kernel
theorem dX2_shift_14 : decode cX2_shift 14 = .ok (.iload_n 1, 1) := by decide +kernel
theorem dX2_shift_15 : decode cX2_shift 15 = .ok (.aaload, 1) := by decide +kernel
theorem dX2_shift_16 : decode cX2_shift 16 = .ok (.astore 5, 2) := by decide +kernel
theorem dX2_shift_18 : decode cX2_shift 18 = .ok (.aload 5, 2) := by decide +kernel
theorem dX2_shift_20 : decode cX2_shift 20 = .ok (.iload_n 2, 1) := by decide +kernel
theorem dX2_shift_21 : decode cX2_shift 21 = .ok (.aload 5, 2) := by decide +kernel
theorem dX2_shift_23 : decode cX2_shift 23 = .ok (.iload_n 2, 1) := by decide +kernel
theorem dX2_shift_24 : decode cX2_shift 24 = .ok (.iload_n 3, 1) := by decide +kernel
theorem dX2_shift_25 : decode cX2_shift 25 = .ok (.invokestatic 80, 3) := by decide +kernel
theorem dX2_shift_28 : decode cX2_shift 28 = .ok (.istore 6, 2) := by decide +kernel
theorem dX2_shift_30 : decode cX2_shift 30 = .ok (.iload 6, 2) := by decide +kernel
theorem dX2_shift_32 : decode cX2_shift 32 = .ok (.ifCond .eq 14, 3) := by decide +kernel
theorem dX2_shift_35 : decode cX2_shift 35 = .ok (.aload_n 0, 1) := by decide +kernel
theorem dX2_shift_36 : decode cX2_shift 36 = .ok (.iload 6, 2) := by decide +kernel
theorem dX2_shift_38 : decode cX2_shift 38 = .ok (.iconst 0, 1) := by decide +kernel
theorem dX2_shift_39 : decode cX2_shift 39 = .ok (.iload 6, 2) := by decide +kernel
theorem dX2_shift_41 : decode cX2_shift 41 = .ok (.ineg, 1) := by decide +kernel
theorem dX2_shift_42 : decode cX2_shift 42 = .ok (.invokevirtual 84, 3) := by decide +kernel
theorem dX2_shift_45 : decode cX2_shift 45 = .ok (.ireturn, 1) := by decide +kernel
theorem dX2_shift_46 : decode cX2_shift 46 = .ok (.aload 5, 2) := by decide +kernel
theorem dX2_shift_48 : decode cX2_shift 48 = .ok (.getfield 104, 3) := by decide +kernel
theorem dX2_shift_51 : decode cX2_shift 51 = .ok (.iload_n 2, 1) := by decide +kernel
theorem dX2_shift_52 : decode cX2_shift 52 = .ok (.isub, 1) := by decide +kernel
theorem dX2_shift_53 : decode cX2_shift 53 = .ok (.iload_n 3, 1) := by decide +kernel
theorem dX2_shift_54 : decode cX2_shift 54 = .ok (.isub, 1) := by decide +kernel
theorem dX2_shift_55 : decode cX2_shift 55 = .ok (.istore 7, 2) := by decide +kernel
theorem dX2_shift_57 : decode cX2_shift 57 = .ok (.aload_n 0, 1) := by decide +kernel
theorem dX2_shift_58 : decode cX2_shift 58 = .ok (.aload 5, 2) := by decide +kernel
theorem dX2_shift_60 : decode cX2_shift 60 = .ok (.invokevirtual 92, 3) := by decide +kernel
theorem dX2_shift_63 : decode cX2_shift 63 = .ok (.iload 4, 2) := by decide +kernel
theorem dX2_shift_65 : decode cX2_shift 65 = .ok (.ifCond .eq 26, 3) := by decide +kernel
theorem dX2_shift_68 : decode cX2_shift 68 = .ok (.aload 5, 2) := by decide +kernel
theorem dX2_shift_70 : decode cX2_shift 70 = .ok (.aload 5, 2) := by decide +kernel
theorem dX2_shift_72 : decode cX2_shift 72 = .ok (.iload_n 2, 1) := by decide +kernel
theorem dX2_shift_73 : decode cX2_shift 73 = .ok (.iload_n 2, 1) := by decide +kernel
theorem dX2_shift_74 : decode cX2_shift 74 = .ok (.iload_n 3, 1) := by decide +kernel
theorem dX2_shift_75 : decode cX2_shift 75 = .ok (.iadd, 1) := by decide +kernel
theorem dX2_shift_76 : decode cX2_shift 76 = .ok (.iload 7, 2) := by decide +kernel
theorem dX2_shift_78 : decode cX2_shift 78 = .ok (.invokevirtual 96, 3) := by decide +kernel
end
section
theorem dX2_shift_81 : decode cX2_shift 81 = .ok (.aload 5, 2) := by decide +kernel
theorem dX2_shift_83 : decode cX2_shift 83 = .ok (.iload_n 2, 1) := by decide +kernel
theorem dX2_shift_84 : decode cX2_shift 84 = .ok (.iload_n 3, 1) := by decide +kernel
theorem dX2_shift_85 : decode cX2_shift 85 = .ok (.invokevirtual 107, 3) := by decide +kernel
theorem dX2_shift_88 : decode cX2_shift 88 = .ok (.goto 26, 3) := by decide +kernel
theorem dX2_shift_91 : decode cX2_shift 91 = .ok (.aload 5, 2) := by decide +kernel
theorem dX2_shift_93 : decode cX2_shift 93 = .ok (.aload 5, 2) := by decide +kernel
theorem dX2_shift_95 : decode cX2_shift 95 = .ok (.iload_n 2, 1) := by decide +kernel
theorem dX2_shift_96 : decode cX2_shift 96 = .ok (.iload_n 3, 1) := by decide +kernel
theorem dX2_shift_97 : decode cX2_shift 97 = .ok (.iadd, 1) := by decide +kernel
theorem dX2_shift_98 : decode cX2_shift 98 = .ok (.iload_n 2, 1) := by decide +kernel
theorem dX2_shift_99 : decode cX2_shift 99 = .ok (.iload 7, 2) := by decide +kernel
theorem dX2_shift_101 : decode cX2_shift 101 = .ok (.invokevirtual 96, 3) := by decide +kernel
theorem dX2_shift_104 : decode cX2_shift 104 = .ok (.aload 5, 2) := by decide +kernel
theorem dX2_shift_106 : decode cX2_shift 106 = .ok (.iload_n 2, 1) := by decide +kernel
theorem dX2_shift_107 : decode cX2_shift 107 = .ok (.iload 7, 2) := by decide +kernel
theorem dX2_shift_109 : decode cX2_shift 109 = .ok (.iadd, 1) := by decide +kernel
theorem dX2_shift_110 : decode cX2_shift 110 = .ok (.iload_n 3, 1) := by decide +kernel
theorem dX2_shift_111 : decode cX2_shift 111 = .ok (.invokevirtual 107, 3) := by decide +kernel
theorem dX2_shift_114 : decode cX2_shift 114 = .ok (.aload_n 0, 1) := by decide +kernel
theorem dX2_shift_115 : decode cX2_shift 115 = .ok (.iconst 0, 1) := by decide +kernel
theorem dX2_shift_116 : decode cX2_shift 116 = .ok (.iload 7, 2) := by decide +kernel
theorem dX2_shift_118 : decode cX2_shift 118 = .ok (.iconst 1, 1) := by decide +kernel
theorem dX2_shift_119 : decode cX2_shift 119 = .ok (.invokevirtual 84, 3) := by decide +kernel
theorem dX2_shift_122 : decode cX2_shift 122 = .ok (.ireturn, 1) := by decide +kernel
set_option maxRecDepth 20000 in
theorem ggX2_back_X2_rowBehind : GoodIn wsX2_back wsX2_rowBehind := goodIn_r _ [7, 8, 9, 10, 11, 12, 13, 14, 15, 36, 37, 38, 39, 40, 41, 42, 43, 44, 45, 46, 47, 48] (by decide +kernel) (by decide +kernel)
set_option maxRecDepth 20000 in
theorem gX2_back_X2_rowBehind : GoodIn wsX2_back (wsV RX2 111 RX2 yX2_rowBehind wsX2_rowBehind) := goodIn_app (goodIn_of _ (by decide +kernel)) ggX2_back_X2_rowBehind
set_option maxRecDepth 20000 in
theorem ggX2_back_X1_copyFrom : GoodIn wsX2_back wsX1_copyFrom := goodIn_r _ [19, 20, 21, 22, 23, 24, 25, 26, 27, 28, 13, 29, 30, 31, 11, 12, 14, 15, 32, 33, 34, 35, 44, 45, 46, 47, 48] (by decide +kernel) (by decide +kernel)
set_option maxRecDepth 20000 in
theorem gX2_back_X1_copyFrom : GoodIn wsX2_back (wsV RX2 96 RX1 yX1_copyFrom wsX1_copyFrom) := goodIn_app (goodIn_of _ (by decide +kernel)) ggX2_back_X1_copyFrom
theorem dX2_back_0 : decode cX2_back 0 = .ok (.aload_n 0, 1) := by decide +kernel
theorem dX2_back_1 : decode cX2_back 1 = .ok (.getfield 29, 3) := by decide +kernel
theorem dX2_back_4 : decode cX2_back 4 = .ok (.ifnonnull 5, 3) := by decide +kernel
theorem dX2_back_7 : decode cX2_back 7 = .ok (.iconst 0, 1) := by decide +kernel
theorem dX2_back_8 : decode cX2_back 8 = .ok (.ireturn, 1) := by decide +kernel
theorem dX2_back_9 : decode cX2_back 9 = .ok (.aload_n 0, 1) := by decide +kernel
theorem dX2_back_10 : decode cX2_back 10 = .ok (.getfield 29, 3) := by decide +kernel
theorem dX2_back_13 : decode cX2_back 13 = .ok (.aload_n 0, 1) := by decide +kernel
theorem dX2_back_14 : decode cX2_back 14 = .ok (.aload_n 0, 1) := by decide +kernel
theorem dX2_back_15 : decode cX2_back 15 = .ok (.getfield 29, 3) := by decide +kernel
theorem dX2_back_18 : decode cX2_back 18 = .ok (.invokevirtual 111, 3) := by decide +kernel
theorem dX2_back_21 : decode cX2_back 21 = .ok (.iconst 0, 1) := by decide +kernel
theorem dX2_back_22 : decode cX2_back 22 = .ok (.iconst 0, 1) := by decide +kernel
theorem dX2_back_23 : decode cX2_back 23 = .ok (.aload_n 0, 1) := by decide +kernel
theorem dX2_back_24 : decode cX2_back 24 = .ok (.getfield 29, 3) := by decide +kernel
theorem dX2_back_27 : decode cX2_back 27 = .ok (.getfield 104, 3) := by decide +kernel
theorem dX2_back_30 : decode cX2_back 30 = .ok (.invokevirtual 96, 3) := by decide +kernel
theorem dX2_back_33 : decode cX2_back 33 = .ok (.aload_n 0, 1) := by decide +kernel
theorem dX2_back_34 : decode cX2_back 34 = .ok (.aconst_null, 1) := by decide +kernel
theorem dX2_back_35 : decode cX2_back 35 = .ok (.putfield 29, 3) := by decide +kernel
theorem dX2_back_38 : decode cX2_back 38 = .ok (.iconst 1, 1) := by decide +kernel
theorem dX2_back_39 : decode cX2_back 39 = .ok (.ireturn, 1) := by decide +kernel
theorem dX2_count_0 : decode cX2_count 0 = .ok (.iload_n 1, 1) := by decide +kernel
theorem dX2_count_1 : decode cX2_count 1 = .ok (.tableswitch 114 0 8 #[51, 56, 63, 70, 77, 84, 91, 96, 101], 51) := by decide +kernel
theorem dX2_count_52 : decode cX2_count 52 = .ok (.aload_n 0, 1) := by decide +kernel
theorem dX2_count_53 : decode cX2_count 53 = .ok (.getfield 19, 3) := by decide +kernel
theorem dX2_count_56 : decode cX2_count 56 = .ok (.ireturn, 1) := by decide +kernel
theorem dX2_count_57 : decode cX2_count 57 = .ok (.aload_n 0, 1) := by decide +kernel
theorem dX2_count_58 : decode cX2_count 58 = .ok (.getfield 15, 3) := by decide +kernel
theorem dX2_count_61 : decode cX2_count 61 = .ok (.iconst 1, 1) := by decide +kernel
theorem dX2_count_62 : decode cX2_count 62 = .ok (.iaload, 1) := by decide +kernel
theorem dX2_count_63 : decode cX2_count 63 = .ok (.ireturn, 1) := by decide +kernel
theorem dX2_count_64 : decode cX2_count 64 = .ok (.aload_n 0, 1) := by decide +kernel
theorem dX2_count_65 : decode cX2_count 65 = .ok (.getfield 15, 3) := by decide +kernel
theorem dX2_count_68 : decode cX2_count 68 = .ok (.iconst 2, 1) := by decide +kernel
theorem dX2_count_69 : decode cX2_count 69 = .ok (.iaload, 1) := by decide +kernel
theorem dX2_count_70 : decode cX2_count 70 = .ok (.ireturn, 1) := by decide +kernel
theorem dX2_count_71 : decode cX2_count 71 = .ok (.aload_n 0, 1) := by decide +kernel
theorem dX2_count_72 : decode cX2_count 72 = .ok (.getfield 15, 3) := by decide +kernel
theorem dX2_count_75 : decode cX2_count 75 = .ok (.iconst 3, 1) := by decide +kernel
theorem dX2_count_76 : decode cX2_count 76 = .ok (.iaload, 1) := by decide +kernel
theorem dX2_count_77 : decode cX2_count 77 = .ok (.ireturn, 1) := by decide +kernel
theorem dX2_count_78 : decode cX2_count 78 = .ok (.aload_n 0, 1) := by decide +kernel
theorem dX2_count_79 : decode cX2_count 79 = .ok (.getfield 15, 3) := by decide +kernel
theorem dX2_count_82 : decode cX2_count 82 = .ok (.iconst 4, 1) := by decide +kernel
theorem dX2_count_83 : decode cX2_count 83 = .ok (.iaload, 1) := by decide +kernel
theorem dX2_count_84 : decode cX2_count 84 = .ok (.ireturn, 1) := by decide +kernel
theorem dX2_count_85 : decode cX2_count 85 = .ok (.aload_n 0, 1) := by decide +kernel
theorem dX2_count_86 : decode cX2_count 86 = .ok (.getfield 15, 3) := by decide +kernel
theorem dX2_count_89 : decode cX2_count 89 = .ok (.iconst 0, 1) := by decide +kernel
theorem dX2_count_90 : decode cX2_count 90 = .ok (.iaload, 1) := by decide +kernel
theorem dX2_count_91 : decode cX2_count 91 = .ok (.ireturn, 1) := by decide +kernel
theorem dX2_count_92 : decode cX2_count 92 = .ok (.aload_n 0, 1) := by decide +kernel
theorem dX2_count_93 : decode cX2_count 93 = .ok (.getfield 23, 3) := by decide +kernel
theorem dX2_count_96 : decode cX2_count 96 = .ok (.ireturn, 1) := by decide +kernel
theorem dX2_count_97 : decode cX2_count 97 = .ok (.aload_n 0, 1) := by decide +kernel
theorem dX2_count_98 : decode cX2_count 98 = .ok (.getfield 26, 3) := by decide +kernel
theorem dX2_count_101 : decode cX2_count 101 = .ok (.ireturn, 1) := by decide +kernel
theorem dX2_count_102 : decode cX2_count 102 = .ok (.aload_n 0, 1) := by decide +kernel
theorem dX2_count_103 : decode cX2_count 103 = .ok (.getfield 29, 3) := by decide +kernel
theorem dX2_count_106 : decode cX2_count 106 = .ok (.ifnull 7, 3) := by decide +kernel
theorem dX2_count_109 : decode cX2_count 109 = .ok (.iconst 1, 1) := by decide +kernel
theorem dX2_count_110 : decode cX2_count 110 = .ok (.goto 4, 3) := by decide +kernel
theorem dX2_count_113 : decode cX2_count 113 = .ok (.iconst 0, 1) := by decide +kernel
theorem dX2_count_114 : decode cX2_count 114 = .ok (.ireturn, 1) := by decide +kernel
theorem dX2_count_115 : decode cX2_count 115 = .ok (.iconst (-1), 1) := by decide +kernel
theorem dX2_count_116 : decode cX2_count 116 = .ok (.ireturn, 1) := by decide +kernel
set_option maxRecDepth 20000 in
theorem ggX2_held_X2_isSpindle : GoodIn wsX2_held wsX2_isSpindle := goodIn_r _ [7] (by decide +kernel) (by decide +kernel)
set_option maxRecDepth 20000 in
theorem gX2_held_X2_isSpindle : GoodIn wsX2_held (va_wsS RX2 42 yX2_isSpindle wsX2_isSpindle) := goodIn_app (goodIn_of _ (by decide +kernel)) ggX2_held_X2_isSpindle
set_option maxRecDepth 20000 in
theorem ggX2_held_X1_countFilled : GoodIn wsX2_held wsX1_countFilled := goodIn_r _ [12, 13, 14, 15, 16, 17, 11, 18, 19, 20, 21, 22, 23, 24, 25, 26, 27, 28, 29, 30, 31, 32, 41, 42, 43, 44, 45] (by decide +kernel) (by decide +kernel)
set_option maxRecDepth 20000 in
theorem gX2_held_X1_countFilled : GoodIn wsX2_held (wsV RX2 115 RX1 yX1_countFilled wsX1_countFilled) := goodIn_app (goodIn_of _ (by decide +kernel)) ggX2_held_X1_countFilled
theorem dX2_held_0 : decode cX2_held 0 = .ok (.iload_n 1, 1) := by decide +kernel
theorem dX2_held_1 : decode cX2_held 1 = .ok (.invokestatic 42, 3) := by decide +kernel
theorem dX2_held_4 : decode cX2_held 4 = .ok (.ifCond .ne 6, 3) := by decide +kernel
theorem dX2_held_7 : decode cX2_held 7 = .ok (.bipush (-9), 2) := by decide +kernel
theorem dX2_held_9 : decode cX2_held 9 = .ok (.ireturn, 1) := by decide +kernel
theorem dX2_held_10 : decode cX2_held 10 = .ok (.aload_n 0, 1) := by decide +kernel
theorem dX2_held_11 : decode cX2_held 11 = .ok (.getfield 11, 3) := by decide +kernel
theorem dX2_held_14 : decode cX2_held 14 = .ok (.iload_n 1, 1) := by decide +kernel
theorem dX2_held_15 : decode cX2_held 15 = .ok (.aaload, 1) := by decide +kernel
theorem dX2_held_16 : decode cX2_held 16 = .ok (.astore_n 3, 1) := by decide +kernel
theorem dX2_held_17 : decode cX2_held 17 = .ok (.iload_n 2, 1) := by decide +kernel
theorem dX2_held_18 : decode cX2_held 18 = .ok (.tableswitch 41 0 2 #[26, 31, 36], 26) := by decide +kernel
theorem dX2_held_44 : decode cX2_held 44 = .ok (.aload_n 3, 1) := by decide +kernel
theorem dX2_held_45 : decode cX2_held 45 = .ok (.getfield 46, 3) := by decide +kernel
theorem dX2_held_48 : decode cX2_held 48 = .ok (.ireturn, 1) := by decide +kernel
theorem dX2_held_49 : decode cX2_held 49 = .ok (.aload_n 3, 1) := by decide +kernel
theorem dX2_held_50 : decode cX2_held 50 = .ok (.getfield 104, 3) := by decide +kernel
theorem dX2_held_53 : decode cX2_held 53 = .ok (.ireturn, 1) := by decide +kernel
theorem dX2_held_54 : decode cX2_held 54 = .ok (.aload_n 3, 1) := by decide +kernel
theorem dX2_held_55 : decode cX2_held 55 = .ok (.invokevirtual 115, 3) := by decide +kernel
theorem dX2_held_58 : decode cX2_held 58 = .ok (.ireturn, 1) := by decide +kernel
theorem dX2_held_59 : decode cX2_held 59 = .ok (.iconst (-1), 1) := by decide +kernel
theorem dX2_held_60 : decode cX2_held 60 = .ok (.ireturn, 1) := by decide +kernel
set_option maxRecDepth 20000 in
theorem ggX2_sort_X2_isSpindle : GoodIn wsX2_sort wsX2_isSpindle := goodIn_r _ [6] (by decide +kernel) (by decide +kernel)
set_option maxRecDepth 20000 in
theorem gX2_sort_X2_isSpindle : GoodIn wsX2_sort (va_wsS RX2 42 yX2_isSpindle wsX2_isSpindle) := goodIn_app (goodIn_of _ (by decide +kernel)) ggX2_sort_X2_isSpindle
set_option maxRecDepth 20000 in
theorem ggX2_sort_X1_hasPlace : GoodIn wsX2_sort wsX1_hasPlace := goodIn_r _ [11, 12, 39, 40, 41, 42, 43] (by decide +kernel) (by decide +kernel)
set_option maxRecDepth 20000 in
theorem gX2_sort_X1_hasPlace : GoodIn wsX2_sort (wsV RX2 60 RX1 yX1_hasPlace wsX1_hasPlace) := goodIn_app (goodIn_of _ (by decide +kernel)) ggX2_sort_X1_hasPlace
set_option maxRecDepth 20000 in
theorem ggX2_sort_X1_isStrip : GoodIn wsX2_sort wsX1_isStrip := goodIn_r _ [16, 17, 39, 40, 41, 42, 43] (by decide +kernel) (by decide +kernel)
set_option maxRecDepth 20000 in
theorem gX2_sort_X1_isStrip : GoodIn wsX2_sort (wsV RX2 119 RX1 yX1_isStrip wsX1_isStrip) := goodIn_app (goodIn_of _ (by decide +kernel)) ggX2_sort_X1_isStrip
set_option maxRecDepth 20000 in
theorem ggX2_sort_X1_cardAt : GoodIn wsX2_sort wsX1_cardAt := goodIn_r _ [21, 22, 23, 24, 25, 10, 26, 17, 27, 8, 9, 11, 12, 39, 40, 41, 42, 43] (by decide +kernel) (by decide +kernel)
set_option maxRecDepth 20000 in
theorem gX2_sort_X1_cardAt : GoodIn wsX2_sort (wsV RX2 122 RX1 yX1_cardAt wsX1_cardAt) := goodIn_app (goodIn_of _ (by decide +kernel)) ggX2_sort_X1_cardAt
theorem dX2_sort_0 : decode cX2_sort 0 = .ok (.iload_n 1, 1) := by decide +kernel
theorem dX2_sort_1 : decode cX2_sort 1 = .ok (.invokestatic 42, 3) := by decide +kernel
theorem dX2_sort_4 : decode cX2_sort 4 = .ok (.ifCond .ne 6, 3) := by decide +kernel
theorem dX2_sort_7 : decode cX2_sort 7 = .ok (.bipush (-9), 2) := by decide +kernel
theorem dX2_sort_9 : decode cX2_sort 9 = .ok (.ireturn, 1) := by decide +kernel
theorem dX2_sort_10 : decode cX2_sort 10 = .ok (.aload_n 0, 1) := by decide +kernel
theorem dX2_sort_11 : decode cX2_sort 11 = .ok (.getfield 11, 3) := by decide +kernel
theorem dX2_sort_14 : decode cX2_sort 14 = .ok (.iload_n 1, 1) := by decide +kernel
theorem dX2_sort_15 : decode cX2_sort 15 = .ok (.aaload, 1) := by decide +kernel
theorem dX2_sort_16 : decode cX2_sort 16 = .ok (.astore_n 3, 1) := by decide +kernel
theorem dX2_sort_17 : decode cX2_sort 17 = .ok (.aload_n 3, 1) := by decide +kernel
theorem dX2_sort_18 : decode cX2_sort 18 = .ok (.iload_n 2, 1) := by decide +kernel
theorem dX2_sort_19 : decode cX2_sort 19 = .ok (.invokevirtual 60, 3) := by decide +kernel
theorem dX2_sort_22 : decode cX2_sort 22 = .ok (.ifCond .ne 5, 3) := by decide +kernel
theorem dX2_sort_25 : decode cX2_sort 25 = .ok (.iconst (-1), 1) := by decide +kernel
theorem dX2_sort_26 : decode cX2_sort 26 = .ok (.ireturn, 1) := by decide +kernel
theorem dX2_sort_27 : decode cX2_sort 27 = .ok (.aload_n 3, 1) := by decide +kernel
theorem dX2_sort_28 : decode cX2_sort 28 = .ok (.invokevirtual 119, 3) := by decide +kernel
theorem dX2_sort_31 : decode cX2_sort 31 = .ok (.ifCond .eq 5, 3) := by decide +kernel
theorem dX2_sort_34 : decode cX2_sort 34 = .ok (.iconst 1, 1) := by decide +kernel
theorem dX2_sort_35 : decode cX2_sort 35 = .ok (.ireturn, 1) := by decide +kernel
theorem dX2_sort_36 : decode cX2_sort 36 = .ok (.aload_n 3, 1) := by decide +kernel
theorem dX2_sort_37 : decode cX2_sort 37 = .ok (.iload_n 2, 1) := by decide +kernel
theorem dX2_sort_38 : decode cX2_sort 38 = .ok (.invokevirtual 122, 3) := by decide +kernel
theorem dX2_sort_41 : decode cX2_sort 41 = .ok (.astore 4, 2) := by decide +kernel
theorem dX2_sort_43 : decode cX2_sort 43 = .ok (.aload 4, 2) := by decide +kernel
theorem dX2_sort_45 : decode cX2_sort 45 = .ok (.ifnonnull 5, 3) := by decide +kernel
theorem dX2_sort_48 : decode cX2_sort 48 = .ok (.iconst 0, 1) := by decide +kernel
theorem dX2_sort_49 : decode cX2_sort 49 = .ok (.ireturn, 1) := by decide +kernel
theorem dX2_sort_50 : decode cX2_sort 50 = .ok (.aload 4, 2) := by decide +kernel
theorem dX2_sort_52 : decode cX2_sort 52 = .ok (.getfield 126, 3) := by decide +kernel
theorem dX2_sort_55 : decode cX2_sort 55 = .ok (.ifCond .eq 7, 3) := by decide +kernel
theorem dX2_sort_58 : decode cX2_sort 58 = .ok (.iconst 3, 1) := by decide +kernel
theorem dX2_sort_59 : decode cX2_sort 59 = .ok (.goto 4, 3) := by decide +kernel
theorem dX2_sort_62 : decode cX2_sort 62 = .ok (.iconst 2, 1) := by decide +kernel
theorem dX2_sort_63 : decode cX2_sort 63 = .ok (.ireturn, 1) := by decide +kernel
set_option maxRecDepth 20000 in
theorem ggX2_number_X2_isSpindle : GoodIn wsX2_number wsX2_isSpindle := goodIn_r _ [9] (by decide +kernel) (by decide +kernel)
set_option maxRecDepth 20000 in
theorem gX2_number_X2_isSpindle : GoodIn wsX2_number (va_wsS RX2 42 yX2_isSpindle wsX2_isSpindle) := goodIn_app (goodIn_of _ (by decide +kernel)) ggX2_number_X2_isSpindle
set_option maxRecDepth 20000 in
theorem ggX2_number_X1_isStrip : GoodIn wsX2_number wsX1_isStrip := goodIn_r _ [14, 15, 39, 40, 41, 42, 43] (by decide +kernel) (by decide +kernel)
set_option maxRecDepth 20000 in
theorem gX2_number_X1_isStrip : GoodIn wsX2_number (wsV RX2 119 RX1 yX1_isStrip wsX1_isStrip) := goodIn_app (goodIn_of _ (by decide +kernel)) ggX2_number_X1_isStrip
set_option maxRecDepth 20000 in
theorem ggX2_number_X1_hasPlace : GoodIn wsX2_number wsX1_hasPlace := goodIn_r _ [19, 20, 39, 40, 41, 42, 43] (by decide +kernel) (by decide +kernel)
set_option maxRecDepth 20000 in
theorem gX2_number_X1_hasPlace : GoodIn wsX2_number (wsV RX2 60 RX1 yX1_hasPlace wsX1_hasPlace) := goodIn_app (goodIn_of _ (by decide +kernel)) ggX2_number_X1_hasPlace
set_option maxRecDepth 20000 in
theorem ggX2_number_X1_cardAt : GoodIn wsX2_number wsX1_cardAt := goodIn_r _ [24, 25, 26, 27, 28, 13, 29, 15, 30, 17, 18, 19, 20, 39, 40, 41, 42, 43] (by decide +kernel) (by decide +kernel)
set_option maxRecDepth 20000 in
theorem gX2_number_X1_cardAt : GoodIn wsX2_number (wsV RX2 122 RX1 yX1_cardAt wsX1_cardAt) := goodIn_app (goodIn_of _ (by decide +kernel)) ggX2_number_X1_cardAt
theorem dX2_number_0 : decode cX2_number 0 = .ok (.iload_n 1, 1) := by decide +kernel
theorem dX2_number_1 : decode cX2_number 1 = .ok (.invokestatic 42, 3) := by decide +kernel
theorem dX2_number_4 : decode cX2_number 4 = .ok (.ifCond .ne 5, 3) := by decide +kernel
theorem dX2_number_7 : decode cX2_number 7 = .ok (.lconst 0, 1) := by decide +kernel
theorem dX2_number_8 : decode cX2_number 8 = .ok (.lreturn, 1) := by decide +kernel
theorem dX2_number_9 : decode cX2_number 9 = .ok (.aload_n 0, 1) := by decide +kernel
theorem dX2_number_10 : decode cX2_number 10 = .ok (.getfield 11, 3) := by decide +kernel
theorem dX2_number_13 : decode cX2_number 13 = .ok (.iload_n 1, 1) := by decide +kernel
theorem dX2_number_14 : decode cX2_number 14 = .ok (.aaload, 1) := by decide +kernel
theorem dX2_number_15 : decode cX2_number 15 = .ok (.astore_n 3, 1) := by decide +kernel
theorem dX2_number_16 : decode cX2_number 16 = .ok (.aload_n 3, 1) := by decide +kernel
theorem dX2_number_17 : decode cX2_number 17 = .ok (.getfield 46, 3) := by decide +kernel
theorem dX2_number_20 : decode cX2_number 20 = .ok (.iconst 1, 1) := by decide +kernel
theorem dX2_number_21 : decode cX2_number 21 = .ok (.if_icmp .ne 9, 3) := by decide +kernel
theorem dX2_number_24 : decode cX2_number 24 = .ok (.aload_n 3, 1) := by decide +kernel
theorem dX2_number_25 : decode cX2_number 25 = .ok (.getfield 49, 3) := by decide +kernel
theorem dX2_number_28 : decode cX2_number 28 = .ok (.i2l, 1) := by decide +kernel
theorem dX2_number_29 : decode cX2_number 29 = .ok (.lreturn, 1) := by decide +kernel
theorem dX2_number_30 : decode cX2_number 30 = .ok (.aload_n 3, 1) := by decide +kernel
theorem dX2_number_31 : decode cX2_number 31 = .ok (.invokevirtual 119, 3) := by decide +kernel
theorem dX2_number_34 : decode cX2_number 34 = .ok (.ifCond .eq 22, 3) := by decide +kernel
theorem dX2_number_37 : decode cX2_number 37 = .ok (.aload_n 3, 1) := by decide +kernel
theorem dX2_number_38 : decode cX2_number 38 = .ok (.iload_n 2, 1) := by decide +kernel
theorem dX2_number_39 : decode cX2_number 39 = .ok (.invokevirtual 60, 3) := by decide +kernel
theorem dX2_number_42 : decode cX2_number 42 = .ok (.ifCond .eq 12, 3) := by decide +kernel
theorem dX2_number_45 : decode cX2_number 45 = .ok (.aload_n 3, 1) := by decide +kernel
theorem dX2_number_46 : decode cX2_number 46 = .ok (.getfield 63, 3) := by decide +kernel
theorem dX2_number_49 : decode cX2_number 49 = .ok (.iload_n 2, 1) := by decide +kernel
theorem dX2_number_50 : decode cX2_number 50 = .ok (.laload, 1) := by decide +kernel
theorem dX2_number_51 : decode cX2_number 51 = .ok (.goto 4, 3) := by decide +kernel
theorem dX2_number_54 : decode cX2_number 54 = .ok (.lconst 0, 1) := by decide +kernel
theorem dX2_number_55 : decode cX2_number 55 = .ok (.lreturn, 1) := by decide +kernel
theorem dX2_number_56 : decode cX2_number 56 = .ok (.aload_n 3, 1) := by decide +kernel
theorem dX2_number_57 : decode cX2_number 57 = .ok (.iload_n 2, 1) := by decide +kernel
theorem dX2_number_58 : decode cX2_number 58 = .ok (.invokevirtual 122, 3) := by decide +kernel
theorem dX2_number_61 : decode cX2_number 61 = .ok (.astore 4, 2) := by decide +kernel
theorem dX2_number_63 : decode cX2_number 63 = .ok (.aload 4, 2) := by decide +kernel
theorem dX2_number_65 : decode cX2_number 65 = .ok (.ifnonnull 7, 3) := by decide +kernel
theorem dX2_number_68 : decode cX2_number 68 = .ok (.lconst 0, 1) := by decide +kernel
theorem dX2_number_69 : decode cX2_number 69 = .ok (.goto 8, 3) := by decide +kernel
theorem dX2_number_72 : decode cX2_number 72 = .ok (.aload 4, 2) := by decide +kernel
theorem dX2_number_74 : decode cX2_number 74 = .ok (.getfield 130, 3) := by decide +kernel
theorem dX2_number_77 : decode cX2_number 77 = .ok (.lreturn, 1) := by decide +kernel
set_option maxRecDepth 20000 in
theorem ggX2_show_X2_isSpindle : GoodIn wsX2_show wsX2_isSpindle := goodIn_r _ [7] (by decide +kernel) (by decide +kernel)
set_option maxRecDepth 20000 in
theorem gX2_show_X2_isSpindle : GoodIn wsX2_show (va_wsS RX2 42 yX2_isSpindle wsX2_isSpindle) := goodIn_app (goodIn_of _ (by decide +kernel)) ggX2_show_X2_isSpindle
set_option maxRecDepth 20000 in
theorem ggX2_show_X1_isRack : GoodIn wsX2_show wsX1_isRack := goodIn_r _ [12, 13, 33, 34, 35, 36, 37] (by decide +kernel) (by decide +kernel)
set_option maxRecDepth 20000 in
theorem gX2_show_X1_isRack : GoodIn wsX2_show (wsV RX2 52 RX1 yX1_isRack wsX1_isRack) := goodIn_app (goodIn_of _ (by decide +kernel)) ggX2_show_X1_isRack
set_option maxRecDepth 20000 in
theorem ggX2_show_X1_cardAt : GoodIn wsX2_show wsX1_cardAt := goodIn_r _ [17, 18, 19, 9, 10, 11, 12, 13, 20, 21, 22, 23, 24, 33, 34, 35, 36, 37] (by decide +kernel) (by decide +kernel)
set_option maxRecDepth 20000 in
theorem gX2_show_X1_cardAt : GoodIn wsX2_show (wsV RX2 122 RX1 yX1_cardAt wsX1_cardAt) := goodIn_app (goodIn_of _ (by decide +kernel)) ggX2_show_X1_cardAt
theorem dX2_show_0 : decode cX2_show 0 = .ok (.iload_n 1, 1) := by decide +kernel
theorem dX2_show_1 : decode cX2_show 1 = .ok (.invokestatic 42, 3) := by decide +kernel
theorem dX2_show_4 : decode cX2_show 4 = .ok (.ifCond .ne 6, 3) := by decide +kernel
theorem dX2_show_7 : decode cX2_show 7 = .ok (.bipush (-9), 2) := by decide +kernel
theorem dX2_show_9 : decode cX2_show 9 = .ok (.ireturn, 1) := by decide +kernel
theorem dX2_show_10 : decode cX2_show 10 = .ok (.aload_n 0, 1) := by decide +kernel
theorem dX2_show_11 : decode cX2_show 11 = .ok (.getfield 11, 3) := by decide +kernel
theorem dX2_show_14 : decode cX2_show 14 = .ok (.iload_n 1, 1) := by decide +kernel
theorem dX2_show_15 : decode cX2_show 15 = .ok (.aaload, 1) := by decide +kernel
theorem dX2_show_16 : decode cX2_show 16 = .ok (.astore_n 2, 1) := by decide +kernel
theorem dX2_show_17 : decode cX2_show 17 = .ok (.aload_n 2, 1) := by decide +kernel
theorem dX2_show_18 : decode cX2_show 18 = .ok (.invokevirtual 52, 3) := by decide +kernel
theorem dX2_show_21 : decode cX2_show 21 = .ok (.ifCond .ne 5, 3) := by decide +kernel
theorem dX2_show_24 : decode cX2_show 24 = .ok (.iconst (-1), 1) := by decide +kernel
theorem dX2_show_25 : decode cX2_show 25 = .ok (.ireturn, 1) := by decide +kernel
theorem dX2_show_26 : decode cX2_show 26 = .ok (.iconst 0, 1) := by decide +kernel
theorem dX2_show_27 : decode cX2_show 27 = .ok (.istore_n 3, 1) := by decide +kernel
theorem dX2_show_28 : decode cX2_show 28 = .ok (.iconst 0, 1) := by decide +kernel
theorem dX2_show_29 : decode cX2_show 29 = .ok (.istore 4, 2) := by decide +kernel
theorem dX2_show_31 : decode cX2_show 31 = .ok (.iload 4, 2) := by decide +kernel
theorem dX2_show_33 : decode cX2_show 33 = .ok (.aload_n 2, 1) := by decide +kernel
theorem dX2_show_34 : decode cX2_show 34 = .ok (.getfield 104, 3) := by decide +kernel
theorem dX2_show_37 : decode cX2_show 37 = .ok (.if_icmp .ge 36, 3) := by decide +kernel
theorem dX2_show_40 : decode cX2_show 40 = .ok (.aload_n 2, 1) := by decide +kernel
theorem dX2_show_41 : decode cX2_show 41 = .ok (.iload 4, 2) := by decide +kernel
theorem dX2_show_43 : decode cX2_show 43 = .ok (.invokevirtual 122, 3) := by decide +kernel
theorem dX2_show_46 : decode cX2_show 46 = .ok (.astore 5, 2) := by decide +kernel
theorem dX2_show_48 : decode cX2_show 48 = .ok (.aload 5, 2) := by decide +kernel
theorem dX2_show_50 : decode cX2_show 50 = .ok (.ifnull 17, 3) := by decide +kernel
theorem dX2_show_53 : decode cX2_show 53 = .ok (.aload 5, 2) := by decide +kernel
theorem dX2_show_55 : decode cX2_show 55 = .ok (.dup, 1) := by decide +kernel
theorem dX2_show_56 : decode cX2_show 56 = .ok (.getfield 134, 3) := by decide +kernel
theorem dX2_show_59 : decode cX2_show 59 = .ok (.iconst 1, 1) := by decide +kernel
theorem dX2_show_60 : decode cX2_show 60 = .ok (.iadd, 1) := by decide +kernel
theorem dX2_show_61 : decode cX2_show 61 = .ok (.putfield 134, 3) := by decide +kernel
theorem dX2_show_64 : decode cX2_show 64 = .ok (.iinc 3 1, 3) := by decide +kernel
theorem dX2_show_67 : decode cX2_show 67 = .ok (.iinc 4 1, 3) := by decide +kernel
theorem dX2_show_70 : decode cX2_show 70 = .ok (.goto (-39), 3) := by decide +kernel
theorem dX2_show_73 : decode cX2_show 73 = .ok (.iload_n 3, 1) := by decide +kernel
theorem dX2_show_74 : decode cX2_show 74 = .ok (.ireturn, 1) := by decide +kernel
set_option maxRecDepth 20000 in
theorem ggX2_shown_X2_isSpindle : GoodIn wsX2_shown wsX2_isSpindle := goodIn_r _ [6] (by decide +kernel) (by decide +kernel)
set_option maxRecDepth 20000 in
theorem gX2_shown_X2_isSpindle : GoodIn wsX2_shown (va_wsS RX2 42 yX2_isSpindle wsX2_isSpindle) := goodIn_app (goodIn_of _ (by decide +kernel)) ggX2_shown_X2_isSpindle
set_option maxRecDepth 20000 in
theorem ggX2_shown_X1_cardAt : GoodIn wsX2_shown wsX1_cardAt := goodIn_r _ [11, 12, 13, 14, 15, 10, 16, 17, 18, 19, 20, 21, 22, 34, 35, 36, 37, 38] (by decide +kernel) (by decide +kernel)
set_option maxRecDepth 20000 in
theorem gX2_shown_X1_cardAt : GoodIn wsX2_shown (wsV RX2 122 RX1 yX1_cardAt wsX1_cardAt) := goodIn_app (goodIn_of _ (by decide +kernel)) ggX2_shown_X1_cardAt
theorem dX2_shown_0 : decode cX2_shown 0 = .ok (.iload_n 1, 1) := by decide +kernel
theorem dX2_shown_1 : decode cX2_shown 1 = .ok (.invokestatic 42, 3) := by decide +kernel
theorem dX2_shown_4 : decode cX2_shown 4 = .ok (.ifCond .ne 6, 3) := by decide +kernel
theorem dX2_shown_7 : decode cX2_shown 7 = .ok (.bipush (-9), 2) := by decide +kernel
theorem dX2_shown_9 : decode cX2_shown 9 = .ok (.ireturn, 1) := by decide +kernel
theorem dX2_shown_10 : decode cX2_shown 10 = .ok (.aload_n 0, 1) := by decide +kernel
theorem dX2_shown_11 : decode cX2_shown 11 = .ok (.getfield 11, 3) := by decide +kernel
theorem dX2_shown_14 : decode cX2_shown 14 = .ok (.iload_n 1, 1) := by decide +kernel
theorem dX2_shown_15 : decode cX2_shown 15 = .ok (.aaload, 1) := by decide +kernel
theorem dX2_shown_16 : decode cX2_shown 16 = .ok (.iload_n 2, 1) := by decide +kernel
theorem dX2_shown_17 : decode cX2_shown 17 = .ok (.invokevirtual 122, 3) := by decide +kernel
theorem dX2_shown_20 : decode cX2_shown 20 = .ok (.astore_n 3, 1) := by decide +kernel
theorem dX2_shown_21 : decode cX2_shown 21 = .ok (.aload_n 3, 1) := by decide +kernel
theorem dX2_shown_22 : decode cX2_shown 22 = .ok (.ifnonnull 7, 3) := by decide +kernel
theorem dX2_shown_25 : decode cX2_shown 25 = .ok (.iconst (-1), 1) := by decide +kernel
theorem dX2_shown_26 : decode cX2_shown 26 = .ok (.goto 7, 3) := by decide +kernel
theorem dX2_shown_29 : decode cX2_shown 29 = .ok (.aload_n 3, 1) := by decide +kernel
theorem dX2_shown_30 : decode cX2_shown 30 = .ok (.getfield 134, 3) := by decide +kernel
theorem dX2_shown_33 : decode cX2_shown 33 = .ok (.ireturn, 1) := by decide +kernel
set_option maxRecDepth 20000 in
theorem ggX2_same_X2_isSpindle : GoodIn wsX2_same wsX2_isSpindle := goodIn_r _ [6] (by decide +kernel) (by decide +kernel)
set_option maxRecDepth 20000 in
theorem gX2_same_X2_isSpindle : GoodIn wsX2_same (va_wsS RX2 42 yX2_isSpindle wsX2_isSpindle) := goodIn_app (goodIn_of _ (by decide +kernel)) ggX2_same_X2_isSpindle
set_option maxRecDepth 20000 in
theorem ggX2_same_X1_cardAt : GoodIn wsX2_same wsX1_cardAt := goodIn_r _ [11, 12, 13, 14, 15, 10, 16, 17, 18, 19, 20, 21, 22, 31, 32, 33, 34, 35] (by decide +kernel) (by decide +kernel)
set_option maxRecDepth 20000 in
theorem gX2_same_X1_cardAt : GoodIn wsX2_same (wsV RX2 122 RX1 yX1_cardAt wsX1_cardAt) := goodIn_app (goodIn_of _ (by decide +kernel)) ggX2_same_X1_cardAt
theorem dX2_same_0 : decode cX2_same 0 = .ok (.iload_n 1, 1) := by decide +kernel
theorem dX2_same_1 : decode cX2_same 1 = .ok (.invokestatic 42, 3) := by decide +kernel
theorem dX2_same_4 : decode cX2_same 4 = .ok (.ifCond .eq 10, 3) := by decide +kernel
theorem dX2_same_7 : decode cX2_same 7 = .ok (.iload_n 3, 1) := by decide +kernel
theorem dX2_same_8 : decode cX2_same 8 = .ok (.invokestatic 42, 3) := by decide +kernel
theorem dX2_same_11 : decode cX2_same 11 = .ok (.ifCond .ne 6, 3) := by decide +kernel
theorem dX2_same_14 : decode cX2_same 14 = .ok (.bipush (-9), 2) := by decide +kernel
theorem dX2_same_16 : decode cX2_same 16 = .ok (.ireturn, 1) := by decide +kernel
theorem dX2_same_17 : decode cX2_same 17 = .ok (.aload_n 0, 1) := by decide +kernel
theorem dX2_same_18 : decode cX2_same 18 = .ok (.getfield 11, 3) := by decide +kernel
theorem dX2_same_21 : decode cX2_same 21 = .ok (.iload_n 1, 1) := by decide +kernel
theorem dX2_same_22 : decode cX2_same 22 = .ok (.aaload, 1) := by decide +kernel
theorem dX2_same_23 : decode cX2_same 23 = .ok (.astore 5, 2) := by decide +kernel
theorem dX2_same_25 : decode cX2_same 25 = .ok (.aload_n 0, 1) := by decide +kernel
theorem dX2_same_26 : decode cX2_same 26 = .ok (.getfield 11, 3) := by decide +kernel
theorem dX2_same_29 : decode cX2_same 29 = .ok (.iload_n 3, 1) := by decide +kernel
theorem dX2_same_30 : decode cX2_same 30 = .ok (.aaload, 1) := by decide +kernel
theorem dX2_same_31 : decode cX2_same 31 = .ok (.astore 6, 2) := by decide +kernel
theorem dX2_same_33 : decode cX2_same 33 = .ok (.iload_n 2, 1) := by decide +kernel
theorem dX2_same_34 : decode cX2_same 34 = .ok (.ifCond .ge 29, 3) := by decide +kernel
theorem dX2_same_37 : decode cX2_same 37 = .ok (.iload 4, 2) := by decide +kernel
theorem dX2_same_39 : decode cX2_same 39 = .ok (.ifCond .ge 24, 3) := by decide +kernel
theorem dX2_same_42 : decode cX2_same 42 = .ok (.aload 5, 2) := by decide +kernel
theorem dX2_same_44 : decode cX2_same 44 = .ok (.aload 6, 2) := by decide +kernel
theorem dX2_same_46 : decode cX2_same 46 = .ok (.if_acmp .ne 15, 3) := by decide +kernel
theorem dX2_same_49 : decode cX2_same 49 = .ok (.aload 5, 2) := by decide +kernel
theorem dX2_same_51 : decode cX2_same 51 = .ok (.getfield 46, 3) := by decide +kernel
theorem dX2_same_54 : decode cX2_same 54 = .ok (.ifCond .eq 7, 3) := by decide +kernel
theorem dX2_same_57 : decode cX2_same 57 = .ok (.iconst 1, 1) := by decide +kernel
theorem dX2_same_58 : decode cX2_same 58 = .ok (.goto 4, 3) := by decide +kernel
theorem dX2_same_61 : decode cX2_same 61 = .ok (.iconst 0, 1) := by decide +kernel
theorem dX2_same_62 : decode cX2_same 62 = .ok (.ireturn, 1) := by decide +kernel
theorem dX2_same_63 : decode cX2_same 63 = .ok (.aload 5, 2) := by decide +kernel
theorem dX2_same_65 : decode cX2_same 65 = .ok (.iload_n 2, 1) := by decide +kernel
theorem dX2_same_66 : decode cX2_same 66 = .ok (.invokevirtual 122, 3) := by decide +kernel
theorem dX2_same_69 : decode cX2_same 69 = .ok (.astore 7, 2) := by decide +kernel
theorem dX2_same_71 : decode cX2_same 71 = .ok (.aload 7, 2) := by decide +kernel
theorem dX2_same_73 : decode cX2_same 73 = .ok (.ifnull 19, 3) := by decide +kernel
theorem dX2_same_76 : decode cX2_same 76 = .ok (.aload 7, 2) := by decide +kernel
theorem dX2_same_78 : decode cX2_same 78 = .ok (.aload 6, 2) := by decide +kernel
theorem dX2_same_80 : decode cX2_same 80 = .ok (.iload 4, 2) := by decide +kernel
theorem dX2_same_82 : decode cX2_same 82 = .ok (.invokevirtual 122, 3) := by decide +kernel
theorem dX2_same_85 : decode cX2_same 85 = .ok (.if_acmp .ne 7, 3) := by decide +kernel
theorem dX2_same_88 : decode cX2_same 88 = .ok (.iconst 1, 1) := by decide +kernel
theorem dX2_same_89 : decode cX2_same 89 = .ok (.goto 4, 3) := by decide +kernel
theorem dX2_same_92 : decode cX2_same 92 = .ok (.iconst 0, 1) := by decide +kernel
theorem dX2_same_93 : decode cX2_same 93 = .ok (.ireturn, 1) := by decide +kernel
theorem dX2_isSpindle_0 : decode cX2_isSpindle 0 = .ok (.iload_n 0, 1) := by decide +kernel
theorem dX2_isSpindle_1 : decode cX2_isSpindle 1 = .ok (.ifCond .lt 13, 3) := by decide +kernel
theorem dX2_isSpindle_4 : decode cX2_isSpindle 4 = .ok (.iload_n 0, 1) := by decide +kernel
theorem dX2_isSpindle_5 : decode cX2_isSpindle 5 = .ok (.bipush 10, 2) := by decide +kernel
theorem dX2_isSpindle_7 : decode cX2_isSpindle 7 = .ok (.if_icmp .ge 7, 3) := by decide +kernel
theorem dX2_isSpindle_10 : decode cX2_isSpindle 10 = .ok (.iconst 1, 1) := by decide +kernel
theorem dX2_isSpindle_11 : decode cX2_isSpindle 11 = .ok (.goto 4, 3) := by decide +kernel
theorem dX2_isSpindle_14 : decode cX2_isSpindle 14 = .ok (.iconst 0, 1) := by decide +kernel
theorem dX2_isSpindle_15 : decode cX2_isSpindle 15 = .ok (.ireturn, 1) := by decide +kernel
set_option maxRecDepth 20000 in
theorem ggX2_motionFailure_X1_isLike : GoodIn wsX2_motionFailure wsX1_isLike := goodIn_r _ [6, 7, 8, 9, 10, 5, 11, 12, 13, 14, 15, 21, 22, 23, 24, 25] (by decide +kernel) (by decide +kernel)
set_option maxRecDepth 20000 in
theorem gX2_motionFailure_X1_isLike : GoodIn wsX2_motionFailure (wsV RX2 137 RX1 yX1_isLike wsX1_isLike) := goodIn_app (goodIn_of _ (by decide +kernel)) ggX2_motionFailure_X1_isLike
set_option maxRecDepth 20000 in
theorem ggX2_motionFailure_X1_hasPlaces : GoodIn wsX2_motionFailure wsX1_hasPlaces := goodIn_r _ [19, 20, 21, 22, 23, 24, 25] (by decide +kernel) (by decide +kernel)
set_option maxRecDepth 20000 in
theorem gX2_motionFailure_X1_hasPlaces : GoodIn wsX2_motionFailure (wsV RX2 141 RX1 yX1_hasPlaces wsX1_hasPlaces) := goodIn_app (goodIn_of _ (by decide +kernel)) ggX2_motionFailure_X1_hasPlaces
theorem dX2_motionFailure_0 : decode cX2_motionFailure 0 = .ok (.aload_n 0, 1) := by decide +kernel
theorem dX2_motionFailure_1 : decode cX2_motionFailure 1 = .ok (.getfield 46, 3) := by decide +kernel
theorem dX2_motionFailure_4 : decode cX2_motionFailure 4 = .ok (.ifCond .eq 10, 3) := by decide +kernel
theorem dX2_motionFailure_7 : decode cX2_motionFailure 7 = .ok (.aload_n 2, 1) := by decide +kernel
theorem dX2_motionFailure_8 : decode cX2_motionFailure 8 = .ok (.getfield 46, 3) := by decide +kernel
theorem dX2_motionFailure_11 : decode cX2_motionFailure 11 = .ok (.ifCond .ne 5, 3) := by decide +kernel
theorem dX2_motionFailure_14 : decode cX2_motionFailure 14 = .ok (.iconst 1, 1) := by decide +kernel
theorem dX2_motionFailure_15 : decode cX2_motionFailure 15 = .ok (.ireturn, 1) := by decide +kernel
theorem dX2_motionFailure_16 : decode cX2_motionFailure 16 = .ok (.aload_n 0, 1) := by decide +kernel
theorem dX2_motionFailure_17 : decode cX2_motionFailure 17 = .ok (.aload_n 2, 1) := by decide +kernel
theorem dX2_motionFailure_18 : decode cX2_motionFailure 18 = .ok (.invokevirtual 137, 3) := by decide +kernel
theorem dX2_motionFailure_21 : decode cX2_motionFailure 21 = .ok (.ifCond .ne 5, 3) := by decide +kernel
theorem dX2_motionFailure_24 : decode cX2_motionFailure 24 = .ok (.iconst 2, 1) := by decide +kernel
theorem dX2_motionFailure_25 : decode cX2_motionFailure 25 = .ok (.ireturn, 1) := by decide +kernel
theorem dX2_motionFailure_26 : decode cX2_motionFailure 26 = .ok (.aload_n 0, 1) := by decide +kernel
theorem dX2_motionFailure_27 : decode cX2_motionFailure 27 = .ok (.iload_n 1, 1) := by decide +kernel
theorem dX2_motionFailure_28 : decode cX2_motionFailure 28 = .ok (.iload 4, 2) := by decide +kernel
theorem dX2_motionFailure_30 : decode cX2_motionFailure 30 = .ok (.invokevirtual 141, 3) := by decide +kernel
theorem dX2_motionFailure_33 : decode cX2_motionFailure 33 = .ok (.ifCond .eq 17, 3) := by decide +kernel
theorem dX2_motionFailure_36 : decode cX2_motionFailure 36 = .ok (.aload_n 2, 1) := by decide +kernel
theorem dX2_motionFailure_37 : decode cX2_motionFailure 37 = .ok (.iload_n 3, 1) := by decide +kernel
theorem dX2_motionFailure_38 : decode cX2_motionFailure 38 = .ok (.iload 4, 2) := by decide +kernel
theorem dX2_motionFailure_40 : decode cX2_motionFailure 40 = .ok (.invokevirtual 141, 3) := by decide +kernel
theorem dX2_motionFailure_43 : decode cX2_motionFailure 43 = .ok (.ifCond .eq 7, 3) := by decide +kernel
theorem dX2_motionFailure_46 : decode cX2_motionFailure 46 = .ok (.iconst 0, 1) := by decide +kernel
theorem dX2_motionFailure_47 : decode cX2_motionFailure 47 = .ok (.goto 4, 3) := by decide +kernel
theorem dX2_motionFailure_50 : decode cX2_motionFailure 50 = .ok (.iconst 3, 1) := by decide +kernel
theorem dX2_motionFailure_51 : decode cX2_motionFailure 51 = .ok (.ireturn, 1) := by decide +kernel
theorem dX2_end_0 : decode cX2_end 0 = .ok (.aload_n 0, 1) := by decide +kernel
theorem dX2_end_1 : decode cX2_end 1 = .ok (.getfield 15, 3) := by decide +kernel
theorem dX2_end_4 : decode cX2_end 4 = .ok (.iload_n 1, 1) := by decide +kernel
theorem dX2_end_5 : decode cX2_end 5 = .ok (.dup2, 1) := by decide +kernel
theorem dX2_end_6 : decode cX2_end 6 = .ok (.iaload, 1) := by decide +kernel
theorem dX2_end_7 : decode cX2_end 7 = .ok (.iconst 1, 1) := by decide +kernel
theorem dX2_end_8 : decode cX2_end 8 = .ok (.iadd, 1) := by decide +kernel
theorem dX2_end_9 : decode cX2_end 9 = .ok (.iastore, 1) := by decide +kernel
theorem dX2_end_10 : decode cX2_end 10 = .ok (.aload_n 0, 1) := by decide +kernel
theorem dX2_end_11 : decode cX2_end 11 = .ok (.iload_n 2, 1) := by decide +kernel
theorem dX2_end_12 : decode cX2_end 12 = .ok (.putfield 19, 3) := by decide +kernel
theorem dX2_end_15 : decode cX2_end 15 = .ok (.iload_n 3, 1) := by decide +kernel
theorem dX2_end_16 : decode cX2_end 16 = .ok (.ireturn, 1) := by decide +kernel
set_option maxRecDepth 20000 in
theorem ggX2_cover_X2_rowBehind : GoodIn wsX2_cover wsX2_rowBehind := goodIn_r _ [7, 8, 9, 10, 11, 12, 13, 14, 15, 41, 42, 43, 44, 45, 46, 47, 48, 36, 37, 38, 39, 40] (by decide +kernel) (by decide +kernel)
set_option maxRecDepth 20000 in
theorem gX2_cover_X2_rowBehind : GoodIn wsX2_cover (wsV RX2 111 RX2 yX2_rowBehind wsX2_rowBehind) := goodIn_app (goodIn_of _ (by decide +kernel)) ggX2_cover_X2_rowBehind
set_option maxRecDepth 20000 in
theorem ggX2_cover_X1_copyFrom : GoodIn wsX2_cover wsX1_copyFrom := goodIn_r _ [19, 20, 21, 22, 23, 24, 25, 26, 27, 28, 13, 29, 30, 31, 11, 12, 14, 15, 32, 33, 34, 35, 36, 37, 38, 39, 40] (by decide +kernel) (by decide +kernel)
set_option maxRecDepth 20000 in
theorem gX2_cover_X1_copyFrom : GoodIn wsX2_cover (wsV RX2 96 RX1 yX1_copyFrom wsX1_copyFrom) := goodIn_app (goodIn_of _ (by decide +kernel)) ggX2_cover_X1_copyFrom
theorem dX2_cover_0 : decode cX2_cover 0 = .ok (.aload_n 0, 1) := by decide +kernel
theorem dX2_cover_1 : decode cX2_cover 1 = .ok (.aload_n 1, 1) := by decide +kernel
theorem dX2_cover_2 : decode cX2_cover 2 = .ok (.invokevirtual 111, 3) := by decide +kernel
theorem dX2_cover_5 : decode cX2_cover 5 = .ok (.aload_n 1, 1) := by decide +kernel
theorem dX2_cover_6 : decode cX2_cover 6 = .ok (.iconst 0, 1) := by decide +kernel
theorem dX2_cover_7 : decode cX2_cover 7 = .ok (.iconst 0, 1) := by decide +kernel
theorem dX2_cover_8 : decode cX2_cover 8 = .ok (.aload_n 1, 1) := by decide +kernel
theorem dX2_cover_9 : decode cX2_cover 9 = .ok (.getfield 104, 3) := by decide +kernel
theorem dX2_cover_12 : decode cX2_cover 12 = .ok (.invokevirtual 96, 3) := by decide +kernel
theorem dX2_cover_15 : decode cX2_cover 15 = .ok (.aload_n 0, 1) := by decide +kernel
theorem dX2_cover_16 : decode cX2_cover 16 = .ok (.aload_n 1, 1) := by decide +kernel
theorem dX2_cover_17 : decode cX2_cover 17 = .ok (.putfield 29, 3) := by decide +kernel
theorem dX2_cover_20 : decode cX2_cover 20 = .ok (.return_, 1) := by decide +kernel
set_option maxRecDepth 20000 in
theorem ggX2_rowBehind_X1_isRack : GoodIn wsX2_rowBehind wsX1_isRack := goodIn_r _ [7, 8, 17, 18, 19, 20, 21] (by decide +kernel) (by decide +kernel)
set_option maxRecDepth 20000 in
theorem gX2_rowBehind_X1_isRack : GoodIn wsX2_rowBehind (wsV RX2 52 RX1 yX1_isRack wsX1_isRack) := goodIn_app (goodIn_of _ (by decide +kernel)) ggX2_rowBehind_X1_isRack
theorem dX2_rowBehind_0 : decode cX2_rowBehind 0 = .ok (.aload_n 1, 1) := by decide +kernel
theorem dX2_rowBehind_1 : decode cX2_rowBehind 1 = .ok (.invokevirtual 52, 3) := by decide +kernel
theorem dX2_rowBehind_4 : decode cX2_rowBehind 4 = .ok (.ifCond .eq 10, 3) := by decide +kernel
theorem dX2_rowBehind_7 : decode cX2_rowBehind 7 = .ok (.aload_n 0, 1) := by decide +kernel
theorem dX2_rowBehind_8 : decode cX2_rowBehind 8 = .ok (.getfield 39, 3) := by decide +kernel
theorem dX2_rowBehind_11 : decode cX2_rowBehind 11 = .ok (.goto 7, 3) := by decide +kernel
theorem dX2_rowBehind_14 : decode cX2_rowBehind 14 = .ok (.aload_n 0, 1) := by decide +kernel
theorem dX2_rowBehind_15 : decode cX2_rowBehind 15 = .ok (.getfield 36, 3) := by decide +kernel
theorem dX2_rowBehind_18 : decode cX2_rowBehind 18 = .ok (.areturn, 1) := by decide +kernel
end
section
theorem dX3_init_0 : decode cX3_init 0 = .ok (.aload_n 0, 1) := by decide +kernel
theorem dX3_init_1 : decode cX3_init 1 = .ok (.invokespecial 1, 3) := by decide +kernel
theorem dX3_init_4 : decode cX3_init 4 = .ok (.aload_n 0, 1) := by decide +kernel
theorem dX3_init_5 : decode cX3_init 5 = .ok (.bipush 10, 2) := by decide +kernel
theorem dX3_init_7 : decode cX3_init 7 = .ok (.newarray .int, 2) := by decide +kernel
theorem dX3_init_9 : decode cX3_init 9 = .ok (.putfield 7, 3) := by decide +kernel
theorem dX3_init_12 : decode cX3_init 12 = .ok (.aload_n 0, 1) := by decide +kernel
theorem dX3_init_13 : decode cX3_init 13 = .ok (.bipush 10, 2) := by decide +kernel
theorem dX3_init_15 : decode cX3_init 15 = .ok (.newarray .int, 2) := by decide +kernel
theorem dX3_init_17 : decode cX3_init 17 = .ok (.putfield 13, 3) := by decide +kernel
theorem dX3_init_20 : decode cX3_init 20 = .ok (.aload_n 0, 1) := by decide +kernel
theorem dX3_init_21 : decode cX3_init 21 = .ok (.bipush 12, 2) := by decide +kernel
theorem dX3_init_23 : decode cX3_init 23 = .ok (.newarray .int, 2) := by decide +kernel
theorem dX3_init_25 : decode cX3_init 25 = .ok (.putfield 16, 3) := by decide +kernel
theorem dX3_init_28 : decode cX3_init 28 = .ok (.aload_n 0, 1) := by decide +kernel
theorem dX3_init_29 : decode cX3_init 29 = .ok (.bipush 12, 2) := by decide +kernel
theorem dX3_init_31 : decode cX3_init 31 = .ok (.newarray .int, 2) := by decide +kernel
theorem dX3_init_33 : decode cX3_init 33 = .ok (.putfield 19, 3) := by decide +kernel
theorem dX3_init_36 : decode cX3_init 36 = .ok (.aload_n 0, 1) := by decide +kernel
theorem dX3_init_37 : decode cX3_init 37 = .ok (.sipush 960, 3) := by decide +kernel
theorem dX3_init_40 : decode cX3_init 40 = .ok (.newarray .long, 2) := by decide +kernel
theorem dX3_init_42 : decode cX3_init 42 = .ok (.putfield 22, 3) := by decide +kernel
theorem dX3_init_45 : decode cX3_init 45 = .ok (.aload_n 0, 1) := by decide +kernel
theorem dX3_init_46 : decode cX3_init 46 = .ok (.bipush 80, 2) := by decide +kernel
theorem dX3_init_48 : decode cX3_init 48 = .ok (.newarray .long, 2) := by decide +kernel
theorem dX3_init_50 : decode cX3_init 50 = .ok (.putfield 26, 3) := by decide +kernel
theorem dX3_init_53 : decode cX3_init 53 = .ok (.aload_n 0, 1) := by decide +kernel
theorem dX3_init_54 : decode cX3_init 54 = .ok (.sipush 2000, 3) := by decide +kernel
theorem dX3_init_57 : decode cX3_init 57 = .ok (.newarray .long, 2) := by decide +kernel
theorem dX3_init_59 : decode cX3_init 59 = .ok (.putfield 29, 3) := by decide +kernel
theorem dX3_init_62 : decode cX3_init 62 = .ok (.aload_n 0, 1) := by decide +kernel
theorem dX3_init_63 : decode cX3_init 63 = .ok (.sipush 2000, 3) := by decide +kernel
theorem dX3_init_66 : decode cX3_init 66 = .ok (.newarray .int, 2) := by decide +kernel
theorem dX3_init_68 : decode cX3_init 68 = .ok (.putfield 32, 3) := by decide +kernel
theorem dX3_init_71 : decode cX3_init 71 = .ok (.aload_n 0, 1) := by decide +kernel
theorem dX3_init_72 : decode cX3_init 72 = .ok (.iconst 5, 1) := by decide +kernel
theorem dX3_init_73 : decode cX3_init 73 = .ok (.newarray .int, 2) := by decide +kernel
theorem dX3_init_75 : decode cX3_init 75 = .ok (.putfield 35, 3) := by decide +kernel
theorem dX3_init_78 : decode cX3_init 78 = .ok (.aload_n 0, 1) := by decide +kernel
theorem dX3_init_79 : decode cX3_init 79 = .ok (.iconst (-1), 1) := by decide +kernel
theorem dX3_init_80 : decode cX3_init 80 = .ok (.putfield 38, 3) := by decide +kernel
theorem dX3_init_83 : decode cX3_init 83 = .ok (.return_, 1) := by decide +kernel
theorem dX3_isSpindle_0 : decode cX3_isSpindle 0 = .ok (.iload_n 0, 1) := by decide +kernel
theorem dX3_isSpindle_1 : decode cX3_isSpindle 1 = .ok (.ifCond .lt 13, 3) := by decide +kernel
theorem dX3_isSpindle_4 : decode cX3_isSpindle 4 = .ok (.iload_n 0, 1) := by decide +kernel
theorem dX3_isSpindle_5 : decode cX3_isSpindle 5 = .ok (.bipush 10, 2) := by decide +kernel
theorem dX3_isSpindle_7 : decode cX3_isSpindle 7 = .ok (.if_icmp .ge 7, 3) := by decide +kernel
theorem dX3_isSpindle_10 : decode cX3_isSpindle 10 = .ok (.iconst 1, 1) := by decide +kernel
theorem dX3_isSpindle_11 : decode cX3_isSpindle 11 = .ok (.goto 4, 3) := by decide +kernel
theorem dX3_isSpindle_14 : decode cX3_isSpindle 14 = .ok (.iconst 0, 1) := by decide +kernel
theorem dX3_isSpindle_15 : decode cX3_isSpindle 15 = .ok (.ireturn, 1) := by decide +kernel
theorem dX3_kindOf_0 : decode cX3_kindOf 0 = .ok (.aload_n 0, 1) := by decide +kernel
theorem dX3_kindOf_1 : decode cX3_kindOf 1 = .ok (.getfield 7, 3) := by decide +kernel
theorem dX3_kindOf_4 : decode cX3_kindOf 4 = .ok (.iload_n 1, 1) := by decide +kernel
theorem dX3_kindOf_5 : decode cX3_kindOf 5 = .ok (.iaload, 1) := by decide +kernel
theorem dX3_kindOf_6 : decode cX3_kindOf 6 = .ok (.ifCond .ne 7, 3) := by decide +kernel
theorem dX3_kindOf_9 : decode cX3_kindOf 9 = .ok (.iconst 0, 1) := by decide +kernel
theorem dX3_kindOf_10 : decode cX3_kindOf 10 = .ok (.goto 29, 3) := by decide +kernel
theorem dX3_kindOf_13 : decode cX3_kindOf 13 = .ok (.aload_n 0, 1) := by decide +kernel
theorem dX3_kindOf_14 : decode cX3_kindOf 14 = .ok (.getfield 7, 3) := by decide +kernel
theorem dX3_kindOf_17 : decode cX3_kindOf 17 = .ok (.iload_n 1, 1) := by decide +kernel
theorem dX3_kindOf_18 : decode cX3_kindOf 18 = .ok (.iaload, 1) := by decide +kernel
theorem dX3_kindOf_19 : decode cX3_kindOf 19 = .ok (.ifCond .ge 7, 3) := by decide +kernel
theorem dX3_kindOf_22 : decode cX3_kindOf 22 = .ok (.iconst 1, 1) := by decide +kernel
theorem dX3_kindOf_23 : decode cX3_kindOf 23 = .ok (.goto 16, 3) := by decide +kernel
theorem dX3_kindOf_26 : decode cX3_kindOf 26 = .ok (.aload_n 0, 1) := by decide +kernel
theorem dX3_kindOf_27 : decode cX3_kindOf 27 = .ok (.getfield 16, 3) := by decide +kernel
theorem dX3_kindOf_30 : decode cX3_kindOf 30 = .ok (.aload_n 0, 1) := by decide +kernel
theorem dX3_kindOf_31 : decode cX3_kindOf 31 = .ok (.getfield 7, 3) := by decide +kernel
theorem dX3_kindOf_34 : decode cX3_kindOf 34 = .ok (.iload_n 1, 1) := by decide +kernel
theorem dX3_kindOf_35 : decode cX3_kindOf 35 = .ok (.iaload, 1) := by decide +kernel
theorem dX3_kindOf_36 : decode cX3_kindOf 36 = .ok (.iconst 1, 1) := by decide +kernel
theorem dX3_kindOf_37 : decode cX3_kindOf 37 = .ok (.isub, 1) := by decide +kernel
theorem dX3_kindOf_38 : decode cX3_kindOf 38 = .ok (.iaload, 1) := by decide +kernel
theorem dX3_kindOf_39 : decode cX3_kindOf 39 = .ok (.ireturn, 1) := by decide +kernel
theorem dX3_hasPlaces_0 : decode cX3_hasPlaces 0 = .ok (.aload_n 0, 1) := by decide +kernel
theorem dX3_hasPlaces_1 : decode cX3_hasPlaces 1 = .ok (.getfield 7, 3) := by decide +kernel
theorem dX3_hasPlaces_4 : decode cX3_hasPlaces 4 = .ok (.iload_n 1, 1) := by decide +kernel
theorem dX3_hasPlaces_5 : decode cX3_hasPlaces 5 = .ok (.iaload, 1) := by decide +kernel
theorem dX3_hasPlaces_6 : decode cX3_hasPlaces 6 = .ok (.ifCond .le 7, 3) := by decide +kernel
theorem dX3_hasPlaces_9 : decode cX3_hasPlaces 9 = .ok (.iconst 1, 1) := by decide +kernel
theorem dX3_hasPlaces_10 : decode cX3_hasPlaces 10 = .ok (.goto 4, 3) := by decide +kernel
theorem dX3_hasPlaces_13 : decode cX3_hasPlaces 13 = .ok (.iconst 0, 1) := by decide +kernel
theorem dX3_hasPlaces_14 : decode cX3_hasPlaces 14 = .ok (.ireturn, 1) := by decide +kernel
set_option maxRecDepth 20000 in
theorem ggX3_sizeOf_X3_hasPlaces : GoodIn wsX3_sizeOf wsX3_hasPlaces := goodIn_r _ [7, 2, 8, 9, 10, 11, 12, 13, 14, 15, 16, 17, 18, 19, 20, 21] (by decide +kernel) (by decide +kernel)
set_option maxRecDepth 20000 in
theorem gX3_sizeOf_X3_hasPlaces : GoodIn wsX3_sizeOf (wsV RX3 42 RX3 yX3_hasPlaces wsX3_hasPlaces) := goodIn_app (goodIn_of _ (by decide +kernel)) ggX3_sizeOf_X3_hasPlaces
theorem dX3_sizeOf_0 : decode cX3_sizeOf 0 = .ok (.aload_n 0, 1) := by decide +kernel
theorem dX3_sizeOf_1 : decode cX3_sizeOf 1 = .ok (.iload_n 1, 1) := by decide +kernel
theorem dX3_sizeOf_2 : decode cX3_sizeOf 2 = .ok (.invokevirtual 42, 3) := by decide +kernel
theorem dX3_sizeOf_5 : decode cX3_sizeOf 5 = .ok (.ifCond .eq 19, 3) := by decide +kernel
theorem dX3_sizeOf_8 : decode cX3_sizeOf 8 = .ok (.aload_n 0, 1) := by decide +kernel
theorem dX3_sizeOf_9 : decode cX3_sizeOf 9 = .ok (.getfield 19, 3) := by decide +kernel
theorem dX3_sizeOf_12 : decode cX3_sizeOf 12 = .ok (.aload_n 0, 1) := by decide +kernel
theorem dX3_sizeOf_13 : decode cX3_sizeOf 13 = .ok (.getfield 7, 3) := by decide +kernel
theorem dX3_sizeOf_16 : decode cX3_sizeOf 16 = .ok (.iload_n 1, 1) := by decide +kernel
theorem dX3_sizeOf_17 : decode cX3_sizeOf 17 = .ok (.iaload, 1) := by decide +kernel
theorem dX3_sizeOf_18 : decode cX3_sizeOf 18 = .ok (.iconst 1, 1) := by decide +kernel
theorem dX3_sizeOf_19 : decode cX3_sizeOf 19 = .ok (.isub, 1) := by decide +kernel
theorem dX3_sizeOf_20 : decode cX3_sizeOf 20 = .ok (.iaload, 1) := by decide +kernel
theorem dX3_sizeOf_21 : decode cX3_sizeOf 21 = .ok (.goto 4, 3) := by decide +kernel
theorem dX3_sizeOf_24 : decode cX3_sizeOf 24 = .ok (.iconst 0, 1) := by decide +kernel
theorem dX3_sizeOf_25 : decode cX3_sizeOf 25 = .ok (.ireturn, 1) := by decide +kernel
set_option maxRecDepth 20000 in
theorem ggX3_isRack_X3_kindOf : GoodIn wsX3_isRack wsX3_kindOf := goodIn_r _ [5, 6, 7, 8, 9, 10, 11, 12, 13, 14, 15, 16, 17, 18, 19, 20, 21] (by decide +kernel) (by decide +kernel)
set_option maxRecDepth 20000 in
theorem gX3_isRack_X3_kindOf : GoodIn wsX3_isRack (wsV RX3 46 RX3 yX3_kindOf wsX3_kindOf) := goodIn_app (goodIn_of _ (by decide +kernel)) ggX3_isRack_X3_kindOf
theorem dX3_isRack_0 : decode cX3_isRack 0 = .ok (.aload_n 0, 1) := by decide +kernel
theorem dX3_isRack_1 : decode cX3_isRack 1 = .ok (.iload_n 1, 1) := by decide +kernel
theorem dX3_isRack_2 : decode cX3_isRack 2 = .ok (.invokevirtual 46, 3) := by decide +kernel
theorem dX3_isRack_5 : decode cX3_isRack 5 = .ok (.iconst 4, 1) := by decide +kernel
theorem dX3_isRack_6 : decode cX3_isRack 6 = .ok (.if_icmp .lt 7, 3) := by decide +kernel
theorem dX3_isRack_9 : decode cX3_isRack 9 = .ok (.iconst 1, 1) := by decide +kernel
theorem dX3_isRack_10 : decode cX3_isRack 10 = .ok (.goto 4, 3) := by decide +kernel
theorem dX3_isRack_13 : decode cX3_isRack 13 = .ok (.iconst 0, 1) := by decide +kernel
theorem dX3_isRack_14 : decode cX3_isRack 14 = .ok (.ireturn, 1) := by decide +kernel
set_option maxRecDepth 20000 in
theorem ggX3_isPlace_X3_sizeOf : GoodIn wsX3_isPlace wsX3_sizeOf := goodIn_r _ [5, 6, 7, 8, 9, 10, 4, 11, 12, 13, 14, 15, 16, 17, 18, 19, 20, 21, 22, 23, 24, 25] (by decide +kernel) (by decide +kernel)
set_option maxRecDepth 20000 in
theorem gX3_isPlace_X3_sizeOf : GoodIn wsX3_isPlace (wsV RX3 50 RX3 yX3_sizeOf wsX3_sizeOf) := goodIn_app (goodIn_of _ (by decide +kernel)) ggX3_isPlace_X3_sizeOf
theorem dX3_isPlace_0 : decode cX3_isPlace 0 = .ok (.iload_n 2, 1) := by decide +kernel
theorem dX3_isPlace_1 : decode cX3_isPlace 1 = .ok (.ifCond .lt 16, 3) := by decide +kernel
theorem dX3_isPlace_4 : decode cX3_isPlace 4 = .ok (.iload_n 2, 1) := by decide +kernel
theorem dX3_isPlace_5 : decode cX3_isPlace 5 = .ok (.aload_n 0, 1) := by decide +kernel
theorem dX3_isPlace_6 : decode cX3_isPlace 6 = .ok (.iload_n 1, 1) := by decide +kernel
theorem dX3_isPlace_7 : decode cX3_isPlace 7 = .ok (.invokevirtual 50, 3) := by decide +kernel
theorem dX3_isPlace_10 : decode cX3_isPlace 10 = .ok (.if_icmp .ge 7, 3) := by decide +kernel
theorem dX3_isPlace_13 : decode cX3_isPlace 13 = .ok (.iconst 1, 1) := by decide +kernel
theorem dX3_isPlace_14 : decode cX3_isPlace 14 = .ok (.goto 4, 3) := by decide +kernel
theorem dX3_isPlace_17 : decode cX3_isPlace 17 = .ok (.iconst 0, 1) := by decide +kernel
theorem dX3_isPlace_18 : decode cX3_isPlace 18 = .ok (.ireturn, 1) := by decide +kernel
theorem dX3_place_0 : decode cX3_place 0 = .ok (.aload_n 0, 1) := by decide +kernel
theorem dX3_place_1 : decode cX3_place 1 = .ok (.getfield 22, 3) := by decide +kernel
theorem dX3_place_4 : decode cX3_place 4 = .ok (.bipush 80, 2) := by decide +kernel
theorem dX3_place_6 : decode cX3_place 6 = .ok (.aload_n 0, 1) := by decide +kernel
theorem dX3_place_7 : decode cX3_place 7 = .ok (.getfield 7, 3) := by decide +kernel
theorem dX3_place_10 : decode cX3_place 10 = .ok (.iload_n 1, 1) := by decide +kernel
theorem dX3_place_11 : decode cX3_place 11 = .ok (.iaload, 1) := by decide +kernel
theorem dX3_place_12 : decode cX3_place 12 = .ok (.iconst 1, 1) := by decide +kernel
theorem dX3_place_13 : decode cX3_place 13 = .ok (.isub, 1) := by decide +kernel
theorem dX3_place_14 : decode cX3_place 14 = .ok (.imul, 1) := by decide +kernel
theorem dX3_place_15 : decode cX3_place 15 = .ok (.iload_n 2, 1) := by decide +kernel
theorem dX3_place_16 : decode cX3_place 16 = .ok (.iadd, 1) := by decide +kernel
theorem dX3_place_17 : decode cX3_place 17 = .ok (.laload, 1) := by decide +kernel
theorem dX3_place_18 : decode cX3_place 18 = .ok (.lreturn, 1) := by decide +kernel
theorem dX3_isPlain_0 : decode cX3_isPlain 0 = .ok (.lload_n 1, 1) := by decide +kernel
theorem dX3_isPlain_1 : decode cX3_isPlain 1 = .ok (.lconst 0, 1) := by decide +kernel
theorem dX3_isPlain_2 : decode cX3_isPlain 2 = .ok (.lcmp, 1) := by decide +kernel
theorem dX3_isPlain_3 : decode cX3_isPlain 3 = .ok (.ifCond .eq 23, 3) := by decide +kernel
theorem dX3_isPlain_6 : decode cX3_isPlain 6 = .ok (.aload_n 0, 1) := by decide +kernel
theorem dX3_isPlain_7 : decode cX3_isPlain 7 = .ok (.getfield 29, 3) := by decide +kernel
theorem dX3_isPlain_10 : decode cX3_isPlain 10 = .ok (.lload_n 1, 1) := by decide +kernel
theorem dX3_isPlain_11 : decode cX3_isPlain 11 = .ok (.l2i, 1) := by decide +kernel
theorem dX3_isPlain_12 : decode cX3_isPlain 12 = .ok (.iconst 1, 1) := by decide +kernel
theorem dX3_isPlain_13 : decode cX3_isPlain 13 = .ok (.isub, 1) := by decide +kernel
theorem dX3_isPlain_14 : decode cX3_isPlain 14 = .ok (.laload, 1) := by decide +kernel
theorem dX3_isPlain_15 : decode cX3_isPlain 15 = .ok (.lconst 1, 1) := by decide +kernel
theorem dX3_isPlain_16 : decode cX3_isPlain 16 = .ok (.land, 1) := by decide +kernel
theorem dX3_isPlain_17 : decode cX3_isPlain 17 = .ok (.lconst 1, 1) := by decide +kernel
theorem dX3_isPlain_18 : decode cX3_isPlain 18 = .ok (.lcmp, 1) := by decide +kernel
theorem dX3_isPlain_19 : decode cX3_isPlain 19 = .ok (.ifCond .ne 7, 3) := by decide +kernel
theorem dX3_isPlain_22 : decode cX3_isPlain 22 = .ok (.iconst 1, 1) := by decide +kernel
theorem dX3_isPlain_23 : decode cX3_isPlain 23 = .ok (.goto 4, 3) := by decide +kernel
theorem dX3_isPlain_26 : decode cX3_isPlain 26 = .ok (.iconst 0, 1) := by decide +kernel
theorem dX3_isPlain_27 : decode cX3_isPlain 27 = .ok (.ireturn, 1) := by decide +kernel
theorem dX3_isHeld_0 : decode cX3_isHeld 0 = .ok (.iconst 0, 1) := by decide +kernel
theorem dX3_isHeld_1 : decode cX3_isHeld 1 = .ok (.istore_n 2, 1) := by decide +kernel
theorem dX3_isHeld_2 : decode cX3_isHeld 2 = .ok (.iconst 0, 1) := by decide +kernel
theorem dX3_isHeld_3 : decode cX3_isHeld 3 = .ok (.istore_n 3, 1) := by decide +kernel
theorem dX3_isHeld_4 : decode cX3_isHeld 4 = .ok (.iload_n 3, 1) := by decide +kernel
theorem dX3_isHeld_5 : decode cX3_isHeld 5 = .ok (.bipush 10, 2) := by decide +kernel
theorem dX3_isHeld_7 : decode cX3_isHeld 7 = .ok (.if_icmp .ge 29, 3) := by decide +kernel
theorem dX3_isHeld_10 : decode cX3_isHeld 10 = .ok (.iload_n 2, 1) := by decide +kernel
theorem dX3_isHeld_11 : decode cX3_isHeld 11 = .ok (.ifCond .ne 13, 3) := by decide +kernel
theorem dX3_isHeld_14 : decode cX3_isHeld 14 = .ok (.aload_n 0, 1) := by decide +kernel
theorem dX3_isHeld_15 : decode cX3_isHeld 15 = .ok (.getfield 7, 3) := by decide +kernel
theorem dX3_isHeld_18 : decode cX3_isHeld 18 = .ok (.iload_n 3, 1) := by decide +kernel
theorem dX3_isHeld_19 : decode cX3_isHeld 19 = .ok (.iaload, 1) := by decide +kernel
theorem dX3_isHeld_20 : decode cX3_isHeld 20 = .ok (.iload_n 1, 1) := by decide +kernel
theorem dX3_isHeld_21 : decode cX3_isHeld 21 = .ok (.if_icmp .ne 7, 3) := by decide +kernel
theorem dX3_isHeld_24 : decode cX3_isHeld 24 = .ok (.iconst 1, 1) := by decide +kernel
theorem dX3_isHeld_25 : decode cX3_isHeld 25 = .ok (.goto 4, 3) := by decide +kernel
theorem dX3_isHeld_28 : decode cX3_isHeld 28 = .ok (.iconst 0, 1) := by decide +kernel
theorem dX3_isHeld_29 : decode cX3_isHeld 29 = .ok (.istore_n 2, 1) := by decide +kernel
theorem dX3_isHeld_30 : decode cX3_isHeld 30 = .ok (.iinc 3 1, 3) := by decide +kernel
theorem dX3_isHeld_33 : decode cX3_isHeld 33 = .ok (.goto (-29), 3) := by decide +kernel
theorem dX3_isHeld_36 : decode cX3_isHeld 36 = .ok (.iload_n 2, 1) := by decide +kernel
theorem dX3_isHeld_37 : decode cX3_isHeld 37 = .ok (.ireturn, 1) := by decide +kernel
set_option maxRecDepth 20000 in
theorem ggX3_hold_X3_isSpindle : GoodIn wsX3_hold wsX3_isSpindle := goodIn_r _ [11] (by decide +kernel) (by decide +kernel)
set_option maxRecDepth 20000 in
theorem gX3_hold_X3_isSpindle : GoodIn wsX3_hold (va_wsS RX3 53 yX3_isSpindle wsX3_isSpindle) := goodIn_app (goodIn_of _ (by decide +kernel)) ggX3_hold_X3_isSpindle
set_option maxRecDepth 20000 in
theorem ggX3_hold_X3_isHeld : GoodIn wsX3_hold wsX3_isHeld := goodIn_r _ [15, 2, 16, 17, 18, 19, 20, 21, 22, 23, 24, 25, 26, 27, 28, 29] (by decide +kernel) (by decide +kernel)
set_option maxRecDepth 20000 in
theorem gX3_hold_X3_isHeld : GoodIn wsX3_hold (wsV RX3 59 RX3 yX3_isHeld wsX3_isHeld) := goodIn_app (goodIn_of _ (by decide +kernel)) ggX3_hold_X3_isHeld
theorem dX3_hold_0 : decode cX3_hold 0 = .ok (.iload_n 1, 1) := by decide +kernel
theorem dX3_hold_1 : decode cX3_hold 1 = .ok (.invokestatic 53, 3) := by decide +kernel
theorem dX3_hold_4 : decode cX3_hold 4 = .ok (.ifCond .ne 6, 3) := by decide +kernel
theorem dX3_hold_7 : decode cX3_hold 7 = .ok (.bipush (-9), 2) := by decide +kernel
theorem dX3_hold_9 : decode cX3_hold 9 = .ok (.ireturn, 1) := by decide +kernel
theorem dX3_hold_10 : decode cX3_hold 10 = .ok (.iload_n 2, 1) := by decide +kernel
theorem dX3_hold_11 : decode cX3_hold 11 = .ok (.ifCond .lt 8, 3) := by decide +kernel
theorem dX3_hold_14 : decode cX3_hold 14 = .ok (.iload_n 2, 1) := by decide +kernel
theorem dX3_hold_15 : decode cX3_hold 15 = .ok (.iconst 5, 1) := by decide +kernel
theorem dX3_hold_16 : decode cX3_hold 16 = .ok (.if_icmp .le 5, 3) := by decide +kernel
theorem dX3_hold_19 : decode cX3_hold 19 = .ok (.iconst 0, 1) := by decide +kernel
theorem dX3_hold_20 : decode cX3_hold 20 = .ok (.ireturn, 1) := by decide +kernel
theorem dX3_hold_21 : decode cX3_hold 21 = .ok (.iload_n 2, 1) := by decide +kernel
theorem dX3_hold_22 : decode cX3_hold 22 = .ok (.iconst 2, 1) := by decide +kernel
theorem dX3_hold_23 : decode cX3_hold 23 = .ok (.if_icmp .lt 7, 3) := by decide +kernel
theorem dX3_hold_26 : decode cX3_hold 26 = .ok (.iconst 1, 1) := by decide +kernel
theorem dX3_hold_27 : decode cX3_hold 27 = .ok (.goto 4, 3) := by decide +kernel
theorem dX3_hold_30 : decode cX3_hold 30 = .ok (.iconst 0, 1) := by decide +kernel
theorem dX3_hold_31 : decode cX3_hold 31 = .ok (.istore 4, 2) := by decide +kernel
theorem dX3_hold_33 : decode cX3_hold 33 = .ok (.iload 4, 2) := by decide +kernel
theorem dX3_hold_35 : decode cX3_hold 35 = .ok (.ifCond .eq 25, 3) := by decide +kernel
theorem dX3_hold_38 : decode cX3_hold 38 = .ok (.iload_n 3, 1) := by decide +kernel
theorem dX3_hold_39 : decode cX3_hold 39 = .ok (.ifCond .lt 19, 3) := by decide +kernel
theorem dX3_hold_42 : decode cX3_hold 42 = .ok (.iload_n 3, 1) := by decide +kernel
theorem dX3_hold_43 : decode cX3_hold 43 = .ok (.bipush 80, 2) := by decide +kernel
theorem dX3_hold_45 : decode cX3_hold 45 = .ok (.if_icmp .gt 13, 3) := by decide +kernel
theorem dX3_hold_48 : decode cX3_hold 48 = .ok (.aload_n 0, 1) := by decide +kernel
theorem dX3_hold_49 : decode cX3_hold 49 = .ok (.getfield 56, 3) := by decide +kernel
theorem dX3_hold_52 : decode cX3_hold 52 = .ok (.sipush 600, 3) := by decide +kernel
theorem dX3_hold_55 : decode cX3_hold 55 = .ok (.if_icmp .ne 5, 3) := by decide +kernel
theorem dX3_hold_58 : decode cX3_hold 58 = .ok (.iconst 0, 1) := by decide +kernel
theorem dX3_hold_59 : decode cX3_hold 59 = .ok (.ireturn, 1) := by decide +kernel
theorem dX3_hold_60 : decode cX3_hold 60 = .ok (.aload_n 0, 1) := by decide +kernel
theorem dX3_hold_61 : decode cX3_hold 61 = .ok (.getfield 7, 3) := by decide +kernel
theorem dX3_hold_64 : decode cX3_hold 64 = .ok (.iload_n 1, 1) := by decide +kernel
theorem dX3_hold_65 : decode cX3_hold 65 = .ok (.iconst 0, 1) := by decide +kernel
theorem dX3_hold_66 : decode cX3_hold 66 = .ok (.iastore, 1) := by decide +kernel
theorem dX3_hold_67 : decode cX3_hold 67 = .ok (.iload_n 2, 1) := by decide +kernel
theorem dX3_hold_68 : decode cX3_hold 68 = .ok (.ifCond .ne 5, 3) := by decide +kernel
theorem dX3_hold_71 : decode cX3_hold 71 = .ok (.iconst 1, 1) := by decide +kernel
theorem dX3_hold_72 : decode cX3_hold 72 = .ok (.ireturn, 1) := by decide +kernel
theorem dX3_hold_73 : decode cX3_hold 73 = .ok (.iconst 0, 1) := by decide +kernel
theorem dX3_hold_74 : decode cX3_hold 74 = .ok (.istore 5, 2) := by decide +kernel
theorem dX3_hold_76 : decode cX3_hold 76 = .ok (.iload 4, 2) := by decide +kernel
theorem dX3_hold_78 : decode cX3_hold 78 = .ok (.ifCond .ne 40, 3) := by decide +kernel
theorem dX3_hold_81 : decode cX3_hold 81 = .ok (.aload_n 0, 1) := by decide +kernel
theorem dX3_hold_82 : decode cX3_hold 82 = .ok (.iconst (-1), 1) := by decide +kernel
theorem dX3_hold_83 : decode cX3_hold 83 = .ok (.iload 5, 2) := by decide +kernel
theorem dX3_hold_85 : decode cX3_hold 85 = .ok (.isub, 1) := by decide +kernel
theorem dX3_hold_86 : decode cX3_hold 86 = .ok (.invokevirtual 59, 3) := by decide +kernel
theorem dX3_hold_89 : decode cX3_hold 89 = .ok (.ifCond .eq 9, 3) := by decide +kernel
theorem dX3_hold_92 : decode cX3_hold 92 = .ok (.iinc 5 1, 3) := by decide +kernel
theorem dX3_hold_95 : decode cX3_hold 95 = .ok (.goto (-14), 3) := by decide +kernel
theorem dX3_hold_98 : decode cX3_hold 98 = .ok (.aload_n 0, 1) := by decide +kernel
theorem dX3_hold_99 : decode cX3_hold 99 = .ok (.getfield 13, 3) := by decide +kernel
theorem dX3_hold_102 : decode cX3_hold 102 = .ok (.iload 5, 2) := by decide +kernel
theorem dX3_hold_104 : decode cX3_hold 104 = .ok (.iload_n 3, 1) := by decide +kernel
theorem dX3_hold_105 : decode cX3_hold 105 = .ok (.iastore, 1) := by decide +kernel
theorem dX3_hold_106 : decode cX3_hold 106 = .ok (.aload_n 0, 1) := by decide +kernel
theorem dX3_hold_107 : decode cX3_hold 107 = .ok (.getfield 7, 3) := by decide +kernel
theorem dX3_hold_110 : decode cX3_hold 110 = .ok (.iload_n 1, 1) := by decide +kernel
theorem dX3_hold_111 : decode cX3_hold 111 = .ok (.iconst (-1), 1) := by decide +kernel
theorem dX3_hold_112 : decode cX3_hold 112 = .ok (.iload 5, 2) := by decide +kernel
theorem dX3_hold_114 : decode cX3_hold 114 = .ok (.isub, 1) := by decide +kernel
theorem dX3_hold_115 : decode cX3_hold 115 = .ok (.iastore, 1) := by decide +kernel
theorem dX3_hold_116 : decode cX3_hold 116 = .ok (.iconst 1, 1) := by decide +kernel
theorem dX3_hold_117 : decode cX3_hold 117 = .ok (.ireturn, 1) := by decide +kernel
theorem dX3_hold_118 : decode cX3_hold 118 = .ok (.iload 5, 2) := by decide +kernel
theorem dX3_hold_120 : decode cX3_hold 120 = .ok (.aload_n 0, 1) := by decide +kernel
theorem dX3_hold_121 : decode cX3_hold 121 = .ok (.getfield 38, 3) := by decide +kernel
theorem dX3_hold_124 : decode cX3_hold 124 = .ok (.if_icmp .eq 14, 3) := by decide +kernel
theorem dX3_hold_127 : decode cX3_hold 127 = .ok (.aload_n 0, 1) := by decide +kernel
theorem dX3_hold_128 : decode cX3_hold 128 = .ok (.iload 5, 2) := by decide +kernel
theorem dX3_hold_130 : decode cX3_hold 130 = .ok (.iconst 1, 1) := by decide +kernel
theorem dX3_hold_131 : decode cX3_hold 131 = .ok (.iadd, 1) := by decide +kernel
theorem dX3_hold_132 : decode cX3_hold 132 = .ok (.invokevirtual 59, 3) := by decide +kernel
theorem dX3_hold_135 : decode cX3_hold 135 = .ok (.ifCond .eq 9, 3) := by decide +kernel
theorem dX3_hold_138 : decode cX3_hold 138 = .ok (.iinc 5 1, 3) := by decide +kernel
theorem dX3_hold_141 : decode cX3_hold 141 = .ok (.goto (-23), 3) := by decide +kernel
theorem dX3_hold_144 : decode cX3_hold 144 = .ok (.aload_n 0, 1) := by decide +kernel
theorem dX3_hold_145 : decode cX3_hold 145 = .ok (.getfield 16, 3) := by decide +kernel
theorem dX3_hold_148 : decode cX3_hold 148 = .ok (.iload 5, 2) := by decide +kernel
theorem dX3_hold_150 : decode cX3_hold 150 = .ok (.iload_n 2, 1) := by decide +kernel
theorem dX3_hold_151 : decode cX3_hold 151 = .ok (.iastore, 1) := by decide +kernel
theorem dX3_hold_152 : decode cX3_hold 152 = .ok (.aload_n 0, 1) := by decide +kernel
theorem dX3_hold_153 : decode cX3_hold 153 = .ok (.getfield 19, 3) := by decide +kernel
theorem dX3_hold_156 : decode cX3_hold 156 = .ok (.iload 5, 2) := by decide +kernel
theorem dX3_hold_158 : decode cX3_hold 158 = .ok (.iload_n 3, 1) := by decide +kernel
theorem dX3_hold_159 : decode cX3_hold 159 = .ok (.iastore, 1) := by decide +kernel
theorem dX3_hold_160 : decode cX3_hold 160 = .ok (.iconst 0, 1) := by decide +kernel
theorem dX3_hold_161 : decode cX3_hold 161 = .ok (.istore 6, 2) := by decide +kernel
theorem dX3_hold_163 : decode cX3_hold 163 = .ok (.iload 6, 2) := by decide +kernel
theorem dX3_hold_165 : decode cX3_hold 165 = .ok (.iload_n 3, 1) := by decide +kernel
theorem dX3_hold_166 : decode cX3_hold 166 = .ok (.if_icmp .ge 23, 3) := by decide +kernel
theorem dX3_hold_169 : decode cX3_hold 169 = .ok (.aload_n 0, 1) := by decide +kernel
theorem dX3_hold_170 : decode cX3_hold 170 = .ok (.getfield 22, 3) := by decide +kernel
theorem dX3_hold_173 : decode cX3_hold 173 = .ok (.bipush 80, 2) := by decide +kernel
theorem dX3_hold_175 : decode cX3_hold 175 = .ok (.iload 5, 2) := by decide +kernel
theorem dX3_hold_177 : decode cX3_hold 177 = .ok (.imul, 1) := by decide +kernel
theorem dX3_hold_178 : decode cX3_hold 178 = .ok (.iload 6, 2) := by decide +kernel
theorem dX3_hold_180 : decode cX3_hold 180 = .ok (.iadd, 1) := by decide +kernel
theorem dX3_hold_181 : decode cX3_hold 181 = .ok (.lconst 0, 1) := by decide +kernel
theorem dX3_hold_182 : decode cX3_hold 182 = .ok (.lastore, 1) := by decide +kernel
theorem dX3_hold_183 : decode cX3_hold 183 = .ok (.iinc 6 1, 3) := by decide +kernel
theorem dX3_hold_186 : decode cX3_hold 186 = .ok (.goto (-23), 3) := by decide +kernel
theorem dX3_hold_189 : decode cX3_hold 189 = .ok (.aload_n 0, 1) := by decide +kernel
theorem dX3_hold_190 : decode cX3_hold 190 = .ok (.dup, 1) := by decide +kernel
theorem dX3_hold_191 : decode cX3_hold 191 = .ok (.getfield 56, 3) := by decide +kernel
theorem dX3_hold_194 : decode cX3_hold 194 = .ok (.iconst 1, 1) := by decide +kernel
theorem dX3_hold_195 : decode cX3_hold 195 = .ok (.iadd, 1) := by decide +kernel
theorem dX3_hold_196 : decode cX3_hold 196 = .ok (.putfield 56, 3) := by decide +kernel
theorem dX3_hold_199 : decode cX3_hold 199 = .ok (.aload_n 0, 1) := by decide +kernel
theorem dX3_hold_200 : decode cX3_hold 200 = .ok (.getfield 7, 3) := by decide +kernel
theorem dX3_hold_203 : decode cX3_hold 203 = .ok (.iload_n 1, 1) := by decide +kernel
theorem dX3_hold_204 : decode cX3_hold 204 = .ok (.iload 5, 2) := by decide +kernel
theorem dX3_hold_206 : decode cX3_hold 206 = .ok (.iconst 1, 1) := by decide +kernel
theorem dX3_hold_207 : decode cX3_hold 207 = .ok (.iadd, 1) := by decide +kernel
theorem dX3_hold_208 : decode cX3_hold 208 = .ok (.iastore, 1) := by decide +kernel
theorem dX3_hold_209 : decode cX3_hold 209 = .ok (.iconst 1, 1) := by decide +kernel
theorem dX3_hold_210 : decode cX3_hold 210 = .ok (.ireturn, 1) := by decide +kernel
set_option maxRecDepth 20000 in
theorem ggX3_thread_X3_isSpindle : GoodIn wsX3_thread wsX3_isSpindle := goodIn_r _ [5] (by decide +kernel) (by decide +kernel)
set_option maxRecDepth 20000 in
theorem gX3_thread_X3_isSpindle : GoodIn wsX3_thread (va_wsS RX3 53 yX3_isSpindle wsX3_isSpindle) := goodIn_app (goodIn_of _ (by decide +kernel)) ggX3_thread_X3_isSpindle
set_option maxRecDepth 20000 in
theorem ggX3_thread_X3_kindOf : GoodIn wsX3_thread wsX3_kindOf := goodIn_r _ [9, 1, 10, 11, 12, 13, 14, 15, 16, 17, 18, 19, 20, 21, 22, 23, 24] (by decide +kernel) (by decide +kernel)
set_option maxRecDepth 20000 in
theorem gX3_thread_X3_kindOf : GoodIn wsX3_thread (wsV RX3 46 RX3 yX3_kindOf wsX3_kindOf) := goodIn_app (goodIn_of _ (by decide +kernel)) ggX3_thread_X3_kindOf
theorem dX3_thread_0 : decode cX3_thread 0 = .ok (.iload_n 1, 1) := by decide +kernel
theorem dX3_thread_1 : decode cX3_thread 1 = .ok (.invokestatic 53, 3) := by decide +kernel
theorem dX3_thread_4 : decode cX3_thread 4 = .ok (.ifCond .eq 10, 3) := by decide +kernel
theorem dX3_thread_7 : decode cX3_thread 7 = .ok (.iload_n 2, 1) := by decide +kernel
theorem dX3_thread_8 : decode cX3_thread 8 = .ok (.invokestatic 53, 3) := by decide +kernel
theorem dX3_thread_11 : decode cX3_thread 11 = .ok (.ifCond .ne 6, 3) := by decide +kernel
theorem dX3_thread_14 : decode cX3_thread 14 = .ok (.bipush (-9), 2) := by decide +kernel
theorem dX3_thread_16 : decode cX3_thread 16 = .ok (.ireturn, 1) := by decide +kernel
theorem dX3_thread_17 : decode cX3_thread 17 = .ok (.aload_n 0, 1) := by decide +kernel
theorem dX3_thread_18 : decode cX3_thread 18 = .ok (.getfield 7, 3) := by decide +kernel
theorem dX3_thread_21 : decode cX3_thread 21 = .ok (.iload_n 1, 1) := by decide +kernel
theorem dX3_thread_22 : decode cX3_thread 22 = .ok (.aload_n 0, 1) := by decide +kernel
theorem dX3_thread_23 : decode cX3_thread 23 = .ok (.getfield 7, 3) := by decide +kernel
theorem dX3_thread_26 : decode cX3_thread 26 = .ok (.iload_n 2, 1) := by decide +kernel
theorem dX3_thread_27 : decode cX3_thread 27 = .ok (.iaload, 1) := by decide +kernel
theorem dX3_thread_28 : decode cX3_thread 28 = .ok (.iastore, 1) := by decide +kernel
theorem dX3_thread_29 : decode cX3_thread 29 = .ok (.aload_n 0, 1) := by decide +kernel
theorem dX3_thread_30 : decode cX3_thread 30 = .ok (.iload_n 1, 1) := by decide +kernel
theorem dX3_thread_31 : decode cX3_thread 31 = .ok (.invokevirtual 46, 3) := by decide +kernel
theorem dX3_thread_34 : decode cX3_thread 34 = .ok (.ireturn, 1) := by decide +kernel
set_option maxRecDepth 20000 in
theorem ggX3_put_X3_isSpindle : GoodIn wsX3_put wsX3_isSpindle := goodIn_r _ [10] (by decide +kernel) (by decide +kernel)
set_option maxRecDepth 20000 in
theorem gX3_put_X3_isSpindle : GoodIn wsX3_put (va_wsS RX3 53 yX3_isSpindle wsX3_isSpindle) := goodIn_app (goodIn_of _ (by decide +kernel)) ggX3_put_X3_isSpindle
set_option maxRecDepth 20000 in
theorem ggX3_put_X3_kindOf : GoodIn wsX3_put wsX3_kindOf := goodIn_r _ [14, 2, 15, 29, 30, 31, 32, 33, 34, 35, 36, 37, 38, 39, 40, 41, 42] (by decide +kernel) (by decide +kernel)
set_option maxRecDepth 20000 in
theorem gX3_put_X3_kindOf : GoodIn wsX3_put (wsV RX3 46 RX3 yX3_kindOf wsX3_kindOf) := goodIn_app (goodIn_of _ (by decide +kernel)) ggX3_put_X3_kindOf
set_option maxRecDepth 20000 in
theorem ggX3_put_X3_isPlace : GoodIn wsX3_put wsX3_isPlace := goodIn_r _ [19, 20, 21, 22, 9, 23, 24, 2, 25, 26, 27, 28, 29, 30, 31, 32, 33, 34, 35, 36, 37, 38, 39, 40, 41, 42] (by decide +kernel) (by decide +kernel)
set_option maxRecDepth 20000 in
theorem gX3_put_X3_isPlace : GoodIn wsX3_put (wsV RX3 65 RX3 yX3_isPlace wsX3_isPlace) := goodIn_app (goodIn_of _ (by decide +kernel)) ggX3_put_X3_isPlace
theorem dX3_put_0 : decode cX3_put 0 = .ok (.iload_n 1, 1) := by decide +kernel
theorem dX3_put_1 : decode cX3_put 1 = .ok (.invokestatic 53, 3) := by decide +kernel
theorem dX3_put_4 : decode cX3_put 4 = .ok (.ifCond .ne 6, 3) := by decide +kernel
theorem dX3_put_7 : decode cX3_put 7 = .ok (.bipush (-9), 2) := by decide +kernel
theorem dX3_put_9 : decode cX3_put 9 = .ok (.ireturn, 1) := by decide +kernel
theorem dX3_put_10 : decode cX3_put 10 = .ok (.aload_n 0, 1) := by decide +kernel
theorem dX3_put_11 : decode cX3_put 11 = .ok (.iload_n 1, 1) := by decide +kernel
theorem dX3_put_12 : decode cX3_put 12 = .ok (.invokevirtual 46, 3) := by decide +kernel
theorem dX3_put_15 : decode cX3_put 15 = .ok (.istore 5, 2) := by decide +kernel
theorem dX3_put_17 : decode cX3_put 17 = .ok (.iload 5, 2) := by decide +kernel
theorem dX3_put_19 : decode cX3_put 19 = .ok (.ifCond .ne 5, 3) := by decide +kernel
theorem dX3_put_22 : decode cX3_put 22 = .ok (.iconst (-1), 1) := by decide +kernel
theorem dX3_put_23 : decode cX3_put 23 = .ok (.ireturn, 1) := by decide +kernel
theorem dX3_put_24 : decode cX3_put 24 = .ok (.iload 5, 2) := by decide +kernel
theorem dX3_put_26 : decode cX3_put 26 = .ok (.iconst 1, 1) := by decide +kernel
theorem dX3_put_27 : decode cX3_put 27 = .ok (.if_icmp .ne 20, 3) := by decide +kernel
theorem dX3_put_30 : decode cX3_put 30 = .ok (.aload_n 0, 1) := by decide +kernel
theorem dX3_put_31 : decode cX3_put 31 = .ok (.getfield 13, 3) := by decide +kernel
theorem dX3_put_34 : decode cX3_put 34 = .ok (.iconst (-1), 1) := by decide +kernel
theorem dX3_put_35 : decode cX3_put 35 = .ok (.aload_n 0, 1) := by decide +kernel
theorem dX3_put_36 : decode cX3_put 36 = .ok (.getfield 7, 3) := by decide +kernel
theorem dX3_put_39 : decode cX3_put 39 = .ok (.iload_n 1, 1) := by decide +kernel
theorem dX3_put_40 : decode cX3_put 40 = .ok (.iaload, 1) := by decide +kernel
theorem dX3_put_41 : decode cX3_put 41 = .ok (.isub, 1) := by decide +kernel
theorem dX3_put_42 : decode cX3_put 42 = .ok (.lload_n 3, 1) := by decide +kernel
theorem dX3_put_43 : decode cX3_put 43 = .ok (.l2i, 1) := by decide +kernel
theorem dX3_put_44 : decode cX3_put 44 = .ok (.iastore, 1) := by decide +kernel
theorem dX3_put_45 : decode cX3_put 45 = .ok (.iconst 1, 1) := by decide +kernel
theorem dX3_put_46 : decode cX3_put 46 = .ok (.ireturn, 1) := by decide +kernel
theorem dX3_put_47 : decode cX3_put 47 = .ok (.iload 5, 2) := by decide +kernel
theorem dX3_put_49 : decode cX3_put 49 = .ok (.iconst 4, 1) := by decide +kernel
theorem dX3_put_50 : decode cX3_put 50 = .ok (.if_icmp .lt 13, 3) := by decide +kernel
theorem dX3_put_53 : decode cX3_put 53 = .ok (.lload_n 3, 1) := by decide +kernel
theorem dX3_put_54 : decode cX3_put 54 = .ok (.lconst 0, 1) := by decide +kernel
theorem dX3_put_55 : decode cX3_put 55 = .ok (.lcmp, 1) := by decide +kernel
theorem dX3_put_56 : decode cX3_put 56 = .ok (.ifCond .eq 7, 3) := by decide +kernel
theorem dX3_put_59 : decode cX3_put 59 = .ok (.iconst 1, 1) := by decide +kernel
theorem dX3_put_60 : decode cX3_put 60 = .ok (.goto 4, 3) := by decide +kernel
theorem dX3_put_63 : decode cX3_put 63 = .ok (.iconst 0, 1) := by decide +kernel
theorem dX3_put_64 : decode cX3_put 64 = .ok (.istore 6, 2) := by decide +kernel
theorem dX3_put_66 : decode cX3_put 66 = .ok (.iload 6, 2) := by decide +kernel
theorem dX3_put_68 : decode cX3_put 68 = .ok (.ifCond .eq 15, 3) := by decide +kernel
theorem dX3_put_71 : decode cX3_put 71 = .ok (.aload_n 0, 1) := by decide +kernel
theorem dX3_put_72 : decode cX3_put 72 = .ok (.getfield 62, 3) := by decide +kernel
theorem dX3_put_75 : decode cX3_put 75 = .ok (.sipush 2000, 3) := by decide +kernel
theorem dX3_put_78 : decode cX3_put 78 = .ok (.if_icmp .ne 5, 3) := by decide +kernel
theorem dX3_put_81 : decode cX3_put 81 = .ok (.iconst 0, 1) := by decide +kernel
theorem dX3_put_82 : decode cX3_put 82 = .ok (.ireturn, 1) := by decide +kernel
theorem dX3_put_83 : decode cX3_put 83 = .ok (.aload_n 0, 1) := by decide +kernel
theorem dX3_put_84 : decode cX3_put 84 = .ok (.iload_n 1, 1) := by decide +kernel
theorem dX3_put_85 : decode cX3_put 85 = .ok (.iload_n 2, 1) := by decide +kernel
theorem dX3_put_86 : decode cX3_put 86 = .ok (.invokevirtual 65, 3) := by decide +kernel
theorem dX3_put_89 : decode cX3_put 89 = .ok (.ifCond .ne 6, 3) := by decide +kernel
theorem dX3_put_92 : decode cX3_put 92 = .ok (.bipush (-3), 2) := by decide +kernel
theorem dX3_put_94 : decode cX3_put 94 = .ok (.ireturn, 1) := by decide +kernel
theorem dX3_put_95 : decode cX3_put 95 = .ok (.iload 5, 2) := by decide +kernel
theorem dX3_put_97 : decode cX3_put 97 = .ok (.iconst 5, 1) := by decide +kernel
theorem dX3_put_98 : decode cX3_put 98 = .ok (.if_icmp .ne 14, 3) := by decide +kernel
theorem dX3_put_101 : decode cX3_put 101 = .ok (.lload_n 3, 1) := by decide +kernel
theorem dX3_put_102 : decode cX3_put 102 = .ok (.lconst 1, 1) := by decide +kernel
theorem dX3_put_103 : decode cX3_put 103 = .ok (.land, 1) := by decide +kernel
theorem dX3_put_104 : decode cX3_put 104 = .ok (.lconst 1, 1) := by decide +kernel
theorem dX3_put_105 : decode cX3_put 105 = .ok (.lcmp, 1) := by decide +kernel
theorem dX3_put_106 : decode cX3_put 106 = .ok (.ifCond .ne 6, 3) := by decide +kernel
theorem dX3_put_109 : decode cX3_put 109 = .ok (.bipush (-4), 2) := by decide +kernel
theorem dX3_put_111 : decode cX3_put 111 = .ok (.ireturn, 1) := by decide +kernel
theorem dX3_put_112 : decode cX3_put 112 = .ok (.iload 5, 2) := by decide +kernel
theorem dX3_put_114 : decode cX3_put 114 = .ok (.iconst 2, 1) := by decide +kernel
theorem dX3_put_115 : decode cX3_put 115 = .ok (.if_icmp .ne 9, 3) := by decide +kernel
theorem dX3_put_118 : decode cX3_put 118 = .ok (.lload_n 3, 1) := by decide +kernel
theorem dX3_put_119 : decode cX3_put 119 = .ok (.l2i, 1) := by decide +kernel
theorem dX3_put_120 : decode cX3_put 120 = .ok (.i2l, 1) := by decide +kernel
theorem dX3_put_121 : decode cX3_put 121 = .ok (.goto 4, 3) := by decide +kernel
theorem dX3_put_124 : decode cX3_put 124 = .ok (.lload_n 3, 1) := by decide +kernel
theorem dX3_put_125 : decode cX3_put 125 = .ok (.lstore 7, 2) := by decide +kernel
theorem dX3_put_127 : decode cX3_put 127 = .ok (.iload 6, 2) := by decide +kernel
theorem dX3_put_129 : decode cX3_put 129 = .ok (.ifCond .eq 40, 3) := by decide +kernel
theorem dX3_put_132 : decode cX3_put 132 = .ok (.aload_n 0, 1) := by decide +kernel
theorem dX3_put_133 : decode cX3_put 133 = .ok (.getfield 29, 3) := by decide +kernel
theorem dX3_put_136 : decode cX3_put 136 = .ok (.aload_n 0, 1) := by decide +kernel
end
section
theorem dX3_put_137 : decode cX3_put 137 = .ok (.getfield 62, 3) := by decide +kernel
theorem dX3_put_140 : decode cX3_put 140 = .ok (.lload_n 3, 1) := by decide +kernel
theorem dX3_put_141 : decode cX3_put 141 = .ok (.lastore, 1) := by decide +kernel
theorem dX3_put_142 : decode cX3_put 142 = .ok (.aload_n 0, 1) := by decide +kernel
theorem dX3_put_143 : decode cX3_put 143 = .ok (.getfield 32, 3) := by decide +kernel
theorem dX3_put_146 : decode cX3_put 146 = .ok (.aload_n 0, 1) := by decide +kernel
theorem dX3_put_147 : decode cX3_put 147 = .ok (.getfield 62, 3) := by decide +kernel
theorem dX3_put_150 : decode cX3_put 150 = .ok (.iconst 0, 1) := by decide +kernel
theorem dX3_put_151 : decode cX3_put 151 = .ok (.iastore, 1) := by decide +kernel
theorem dX3_put_152 : decode cX3_put 152 = .ok (.aload_n 0, 1) := by decide +kernel
theorem dX3_put_153 : decode cX3_put 153 = .ok (.dup, 1) := by decide +kernel
theorem dX3_put_154 : decode cX3_put 154 = .ok (.getfield 62, 3) := by decide +kernel
theorem dX3_put_157 : decode cX3_put 157 = .ok (.iconst 1, 1) := by decide +kernel
theorem dX3_put_158 : decode cX3_put 158 = .ok (.iadd, 1) := by decide +kernel
theorem dX3_put_159 : decode cX3_put 159 = .ok (.putfield 62, 3) := by decide +kernel
theorem dX3_put_162 : decode cX3_put 162 = .ok (.aload_n 0, 1) := by decide +kernel
theorem dX3_put_163 : decode cX3_put 163 = .ok (.getfield 62, 3) := by decide +kernel
theorem dX3_put_166 : decode cX3_put 166 = .ok (.i2l, 1) := by decide +kernel
theorem dX3_put_167 : decode cX3_put 167 = .ok (.lstore 7, 2) := by decide +kernel
theorem dX3_put_169 : decode cX3_put 169 = .ok (.aload_n 0, 1) := by decide +kernel
theorem dX3_put_170 : decode cX3_put 170 = .ok (.getfield 22, 3) := by decide +kernel
theorem dX3_put_173 : decode cX3_put 173 = .ok (.bipush 80, 2) := by decide +kernel
theorem dX3_put_175 : decode cX3_put 175 = .ok (.aload_n 0, 1) := by decide +kernel
theorem dX3_put_176 : decode cX3_put 176 = .ok (.getfield 7, 3) := by decide +kernel
theorem dX3_put_179 : decode cX3_put 179 = .ok (.iload_n 1, 1) := by decide +kernel
theorem dX3_put_180 : decode cX3_put 180 = .ok (.iaload, 1) := by decide +kernel
theorem dX3_put_181 : decode cX3_put 181 = .ok (.iconst 1, 1) := by decide +kernel
theorem dX3_put_182 : decode cX3_put 182 = .ok (.isub, 1) := by decide +kernel
theorem dX3_put_183 : decode cX3_put 183 = .ok (.imul, 1) := by decide +kernel
theorem dX3_put_184 : decode cX3_put 184 = .ok (.iload_n 2, 1) := by decide +kernel
theorem dX3_put_185 : decode cX3_put 185 = .ok (.iadd, 1) := by decide +kernel
theorem dX3_put_186 : decode cX3_put 186 = .ok (.lload 7, 2) := by decide +kernel
theorem dX3_put_188 : decode cX3_put 188 = .ok (.lastore, 1) := by decide +kernel
theorem dX3_put_189 : decode cX3_put 189 = .ok (.iconst 1, 1) := by decide +kernel
theorem dX3_put_190 : decode cX3_put 190 = .ok (.ireturn, 1) := by decide +kernel
theorem dX3_fails_0 : decode cX3_fails 0 = .ok (.aload_n 0, 1) := by decide +kernel
theorem dX3_fails_1 : decode cX3_fails 1 = .ok (.getfield 35, 3) := by decide +kernel
theorem dX3_fails_4 : decode cX3_fails 4 = .ok (.iload_n 1, 1) := by decide +kernel
theorem dX3_fails_5 : decode cX3_fails 5 = .ok (.dup2, 1) := by decide +kernel
theorem dX3_fails_6 : decode cX3_fails 6 = .ok (.iaload, 1) := by decide +kernel
theorem dX3_fails_7 : decode cX3_fails 7 = .ok (.iconst 1, 1) := by decide +kernel
theorem dX3_fails_8 : decode cX3_fails 8 = .ok (.iadd, 1) := by decide +kernel
theorem dX3_fails_9 : decode cX3_fails 9 = .ok (.iastore, 1) := by decide +kernel
theorem dX3_fails_10 : decode cX3_fails 10 = .ok (.aload_n 0, 1) := by decide +kernel
theorem dX3_fails_11 : decode cX3_fails 11 = .ok (.iconst 0, 1) := by decide +kernel
theorem dX3_fails_12 : decode cX3_fails 12 = .ok (.putfield 69, 3) := by decide +kernel
theorem dX3_fails_15 : decode cX3_fails 15 = .ok (.iload_n 1, 1) := by decide +kernel
theorem dX3_fails_16 : decode cX3_fails 16 = .ok (.ineg, 1) := by decide +kernel
theorem dX3_fails_17 : decode cX3_fails 17 = .ok (.ireturn, 1) := by decide +kernel
theorem dX3_cover_0 : decode cX3_cover 0 = .ok (.aload_n 0, 1) := by decide +kernel
theorem dX3_cover_1 : decode cX3_cover 1 = .ok (.iload_n 1, 1) := by decide +kernel
theorem dX3_cover_2 : decode cX3_cover 2 = .ok (.putfield 38, 3) := by decide +kernel
theorem dX3_cover_5 : decode cX3_cover 5 = .ok (.iconst 0, 1) := by decide +kernel
theorem dX3_cover_6 : decode cX3_cover 6 = .ok (.istore_n 2, 1) := by decide +kernel
theorem dX3_cover_7 : decode cX3_cover 7 = .ok (.iload_n 2, 1) := by decide +kernel
theorem dX3_cover_8 : decode cX3_cover 8 = .ok (.aload_n 0, 1) := by decide +kernel
theorem dX3_cover_9 : decode cX3_cover 9 = .ok (.getfield 19, 3) := by decide +kernel
theorem dX3_cover_12 : decode cX3_cover 12 = .ok (.iload_n 1, 1) := by decide +kernel
theorem dX3_cover_13 : decode cX3_cover 13 = .ok (.iaload, 1) := by decide +kernel
theorem dX3_cover_14 : decode cX3_cover 14 = .ok (.if_icmp .ge 26, 3) := by decide +kernel
theorem dX3_cover_17 : decode cX3_cover 17 = .ok (.aload_n 0, 1) := by decide +kernel
theorem dX3_cover_18 : decode cX3_cover 18 = .ok (.getfield 26, 3) := by decide +kernel
theorem dX3_cover_21 : decode cX3_cover 21 = .ok (.iload_n 2, 1) := by decide +kernel
theorem dX3_cover_22 : decode cX3_cover 22 = .ok (.aload_n 0, 1) := by decide +kernel
theorem dX3_cover_23 : decode cX3_cover 23 = .ok (.getfield 22, 3) := by decide +kernel
theorem dX3_cover_26 : decode cX3_cover 26 = .ok (.bipush 80, 2) := by decide +kernel
theorem dX3_cover_28 : decode cX3_cover 28 = .ok (.iload_n 1, 1) := by decide +kernel
theorem dX3_cover_29 : decode cX3_cover 29 = .ok (.imul, 1) := by decide +kernel
theorem dX3_cover_30 : decode cX3_cover 30 = .ok (.iload_n 2, 1) := by decide +kernel
theorem dX3_cover_31 : decode cX3_cover 31 = .ok (.iadd, 1) := by decide +kernel
theorem dX3_cover_32 : decode cX3_cover 32 = .ok (.laload, 1) := by decide +kernel
theorem dX3_cover_33 : decode cX3_cover 33 = .ok (.lastore, 1) := by decide +kernel
theorem dX3_cover_34 : decode cX3_cover 34 = .ok (.iinc 2 1, 3) := by decide +kernel
theorem dX3_cover_37 : decode cX3_cover 37 = .ok (.goto (-30), 3) := by decide +kernel
theorem dX3_cover_40 : decode cX3_cover 40 = .ok (.return_, 1) := by decide +kernel
theorem dX3_isBeyond_0 : decode cX3_isBeyond 0 = .ok (.iload_n 0, 1) := by decide +kernel
theorem dX3_isBeyond_1 : decode cX3_isBeyond 1 = .ok (.ifCond .lt 18, 3) := by decide +kernel
theorem dX3_isBeyond_4 : decode cX3_isBeyond 4 = .ok (.iload_n 1, 1) := by decide +kernel
theorem dX3_isBeyond_5 : decode cX3_isBeyond 5 = .ok (.ifCond .lt 14, 3) := by decide +kernel
theorem dX3_isBeyond_8 : decode cX3_isBeyond 8 = .ok (.iload_n 0, 1) := by decide +kernel
theorem dX3_isBeyond_9 : decode cX3_isBeyond 9 = .ok (.i2l, 1) := by decide +kernel
theorem dX3_isBeyond_10 : decode cX3_isBeyond 10 = .ok (.iload_n 1, 1) := by decide +kernel
theorem dX3_isBeyond_11 : decode cX3_isBeyond 11 = .ok (.i2l, 1) := by decide +kernel
theorem dX3_isBeyond_12 : decode cX3_isBeyond 12 = .ok (.ladd, 1) := by decide +kernel
theorem dX3_isBeyond_13 : decode cX3_isBeyond 13 = .ok (.iload_n 2, 1) := by decide +kernel
theorem dX3_isBeyond_14 : decode cX3_isBeyond 14 = .ok (.i2l, 1) := by decide +kernel
theorem dX3_isBeyond_15 : decode cX3_isBeyond 15 = .ok (.lcmp, 1) := by decide +kernel
theorem dX3_isBeyond_16 : decode cX3_isBeyond 16 = .ok (.ifCond .le 7, 3) := by decide +kernel
theorem dX3_isBeyond_19 : decode cX3_isBeyond 19 = .ok (.iconst 1, 1) := by decide +kernel
theorem dX3_isBeyond_20 : decode cX3_isBeyond 20 = .ok (.goto 4, 3) := by decide +kernel
theorem dX3_isBeyond_23 : decode cX3_isBeyond 23 = .ok (.iconst 0, 1) := by decide +kernel
theorem dX3_isBeyond_24 : decode cX3_isBeyond 24 = .ok (.ireturn, 1) := by decide +kernel
set_option maxRecDepth 20000 in
theorem ggX3_move_X3_isSpindle : GoodIn wsX3_move wsX3_isSpindle := goodIn_r _ [8] (by decide +kernel) (by decide +kernel)
set_option maxRecDepth 20000 in
theorem gX3_move_X3_isSpindle : GoodIn wsX3_move (va_wsS RX3 53 yX3_isSpindle wsX3_isSpindle) := goodIn_app (goodIn_of _ (by decide +kernel)) ggX3_move_X3_isSpindle
set_option maxRecDepth 20000 in
theorem ggX3_move_X3_kindOf : GoodIn wsX3_move wsX3_kindOf := goodIn_r _ [12, 1, 13, 46, 47, 48, 49, 50, 51, 52, 53, 54, 55, 56, 57, 58, 59] (by decide +kernel) (by decide +kernel)
set_option maxRecDepth 20000 in
theorem gX3_move_X3_kindOf : GoodIn wsX3_move (wsV RX3 46 RX3 yX3_kindOf wsX3_kindOf) := goodIn_app (goodIn_of _ (by decide +kernel)) ggX3_move_X3_kindOf
set_option maxRecDepth 20000 in
theorem ggX3_move_X3_fails : GoodIn wsX3_move wsX3_fails := goodIn_r _ [17, 18, 3, 46, 47, 48, 49, 50, 51, 52, 53, 54, 55, 56, 57, 58, 59] (by decide +kernel) (by decide +kernel)
set_option maxRecDepth 20000 in
theorem gX3_move_X3_fails : GoodIn wsX3_move (wsV RX3 72 RX3 yX3_fails wsX3_fails) := goodIn_app (goodIn_of _ (by decide +kernel)) ggX3_move_X3_fails
set_option maxRecDepth 20000 in
theorem ggX3_move_X3_sizeOf : GoodIn wsX3_move wsX3_sizeOf := goodIn_r _ [22, 23, 1, 24, 25, 26, 7, 27, 46, 47, 48, 49, 50, 51, 52, 53, 54, 55, 56, 57, 58, 59] (by decide +kernel) (by decide +kernel)
set_option maxRecDepth 20000 in
theorem gX3_move_X3_sizeOf : GoodIn wsX3_move (wsV RX3 50 RX3 yX3_sizeOf wsX3_sizeOf) := goodIn_app (goodIn_of _ (by decide +kernel)) ggX3_move_X3_sizeOf
set_option maxRecDepth 20000 in
theorem ggX3_move_X3_isBeyond : GoodIn wsX3_move wsX3_isBeyond := goodIn_r _ [30] (by decide +kernel) (by decide +kernel)
set_option maxRecDepth 20000 in
theorem gX3_move_X3_isBeyond : GoodIn wsX3_move (va_wsS RX3 75 yX3_isBeyond wsX3_isBeyond) := goodIn_app (goodIn_of _ (by decide +kernel)) ggX3_move_X3_isBeyond
set_option maxRecDepth 20000 in
theorem ggX3_move_X3_place : GoodIn wsX3_move wsX3_place := goodIn_r _ [34, 2, 1, 46, 47, 48, 49, 50, 51, 52, 53, 54, 55, 56, 57, 58, 59] (by decide +kernel) (by decide +kernel)
set_option maxRecDepth 20000 in
theorem gX3_move_X3_place : GoodIn wsX3_move (wsV RX3 79 RX3 yX3_place wsX3_place) := goodIn_app (goodIn_of _ (by decide +kernel)) ggX3_move_X3_place
set_option maxRecDepth 20000 in
theorem ggX3_move_X3_isPlain : GoodIn wsX3_move wsX3_isPlain := goodIn_r _ [38, 39, 46, 47, 48, 49, 50, 51, 52, 53, 54, 55, 56, 57, 58, 59] (by decide +kernel) (by decide +kernel)
set_option maxRecDepth 20000 in
theorem gX3_move_X3_isPlain : GoodIn wsX3_move (wsV RX3 83 RX3 yX3_isPlain wsX3_isPlain) := goodIn_app (goodIn_of _ (by decide +kernel)) ggX3_move_X3_isPlain
set_option maxRecDepth 20000 in
theorem ggX3_move_X3_cover : GoodIn wsX3_move wsX3_cover := goodIn_r _ [43, 44, 23, 45, 2, 46, 47, 48, 49, 50, 51, 52, 53, 54, 55, 56, 57, 58, 59] (by decide +kernel) (by decide +kernel)
set_option maxRecDepth 20000 in
theorem gX3_move_X3_cover : GoodIn wsX3_move (wsV RX3 87 RX3 yX3_cover wsX3_cover) := goodIn_app (goodIn_of _ (by decide +kernel)) ggX3_move_X3_cover
theorem dX3_move_0 : decode cX3_move 0 = .ok (.iload_n 1, 1) := by decide +kernel
theorem dX3_move_1 : decode cX3_move 1 = .ok (.invokestatic 53, 3) := by decide +kernel
theorem dX3_move_4 : decode cX3_move 4 = .ok (.ifCond .eq 10, 3) := by decide +kernel
theorem dX3_move_7 : decode cX3_move 7 = .ok (.iload_n 3, 1) := by decide +kernel
theorem dX3_move_8 : decode cX3_move 8 = .ok (.invokestatic 53, 3) := by decide +kernel
theorem dX3_move_11 : decode cX3_move 11 = .ok (.ifCond .ne 6, 3) := by decide +kernel
theorem dX3_move_14 : decode cX3_move 14 = .ok (.bipush (-9), 2) := by decide +kernel
theorem dX3_move_16 : decode cX3_move 16 = .ok (.ireturn, 1) := by decide +kernel
theorem dX3_move_17 : decode cX3_move 17 = .ok (.aload_n 0, 1) := by decide +kernel
theorem dX3_move_18 : decode cX3_move 18 = .ok (.iload_n 1, 1) := by decide +kernel
theorem dX3_move_19 : decode cX3_move 19 = .ok (.invokevirtual 46, 3) := by decide +kernel
theorem dX3_move_22 : decode cX3_move 22 = .ok (.istore 6, 2) := by decide +kernel
theorem dX3_move_24 : decode cX3_move 24 = .ok (.aload_n 0, 1) := by decide +kernel
theorem dX3_move_25 : decode cX3_move 25 = .ok (.iload_n 3, 1) := by decide +kernel
theorem dX3_move_26 : decode cX3_move 26 = .ok (.invokevirtual 46, 3) := by decide +kernel
theorem dX3_move_29 : decode cX3_move 29 = .ok (.istore 7, 2) := by decide +kernel
theorem dX3_move_31 : decode cX3_move 31 = .ok (.iload 6, 2) := by decide +kernel
theorem dX3_move_33 : decode cX3_move 33 = .ok (.ifCond .eq 8, 3) := by decide +kernel
theorem dX3_move_36 : decode cX3_move 36 = .ok (.iload 7, 2) := by decide +kernel
theorem dX3_move_38 : decode cX3_move 38 = .ok (.ifCond .ne 9, 3) := by decide +kernel
theorem dX3_move_41 : decode cX3_move 41 = .ok (.aload_n 0, 1) := by decide +kernel
theorem dX3_move_42 : decode cX3_move 42 = .ok (.iconst 1, 1) := by decide +kernel
theorem dX3_move_43 : decode cX3_move 43 = .ok (.invokevirtual 72, 3) := by decide +kernel
theorem dX3_move_46 : decode cX3_move 46 = .ok (.ireturn, 1) := by decide +kernel
theorem dX3_move_47 : decode cX3_move 47 = .ok (.iload 6, 2) := by decide +kernel
theorem dX3_move_49 : decode cX3_move 49 = .ok (.iconst 1, 1) := by decide +kernel
theorem dX3_move_50 : decode cX3_move 50 = .ok (.if_icmp .eq 28, 3) := by decide +kernel
theorem dX3_move_53 : decode cX3_move 53 = .ok (.iload 7, 2) := by decide +kernel
theorem dX3_move_55 : decode cX3_move 55 = .ok (.iconst 1, 1) := by decide +kernel
theorem dX3_move_56 : decode cX3_move 56 = .ok (.if_icmp .eq 22, 3) := by decide +kernel
theorem dX3_move_59 : decode cX3_move 59 = .ok (.iload 6, 2) := by decide +kernel
theorem dX3_move_61 : decode cX3_move 61 = .ok (.iload 7, 2) := by decide +kernel
theorem dX3_move_63 : decode cX3_move 63 = .ok (.if_icmp .eq 21, 3) := by decide +kernel
theorem dX3_move_66 : decode cX3_move 66 = .ok (.iload 6, 2) := by decide +kernel
theorem dX3_move_68 : decode cX3_move 68 = .ok (.iconst 4, 1) := by decide +kernel
theorem dX3_move_69 : decode cX3_move 69 = .ok (.if_icmp .lt 9, 3) := by decide +kernel
theorem dX3_move_72 : decode cX3_move 72 = .ok (.iload 7, 2) := by decide +kernel
theorem dX3_move_74 : decode cX3_move 74 = .ok (.iconst 4, 1) := by decide +kernel
theorem dX3_move_75 : decode cX3_move 75 = .ok (.if_icmp .ge 9, 3) := by decide +kernel
theorem dX3_move_78 : decode cX3_move 78 = .ok (.aload_n 0, 1) := by decide +kernel
theorem dX3_move_79 : decode cX3_move 79 = .ok (.iconst 2, 1) := by decide +kernel
theorem dX3_move_80 : decode cX3_move 80 = .ok (.invokevirtual 72, 3) := by decide +kernel
theorem dX3_move_83 : decode cX3_move 83 = .ok (.ireturn, 1) := by decide +kernel
theorem dX3_move_84 : decode cX3_move 84 = .ok (.iload_n 2, 1) := by decide +kernel
theorem dX3_move_85 : decode cX3_move 85 = .ok (.iload 5, 2) := by decide +kernel
theorem dX3_move_87 : decode cX3_move 87 = .ok (.aload_n 0, 1) := by decide +kernel
theorem dX3_move_88 : decode cX3_move 88 = .ok (.iload_n 1, 1) := by decide +kernel
theorem dX3_move_89 : decode cX3_move 89 = .ok (.invokevirtual 50, 3) := by decide +kernel
theorem dX3_move_92 : decode cX3_move 92 = .ok (.invokestatic 75, 3) := by decide +kernel
theorem dX3_move_95 : decode cX3_move 95 = .ok (.ifCond .ne 18, 3) := by decide +kernel
theorem dX3_move_98 : decode cX3_move 98 = .ok (.iload 4, 2) := by decide +kernel
theorem dX3_move_100 : decode cX3_move 100 = .ok (.iload 5, 2) := by decide +kernel
theorem dX3_move_102 : decode cX3_move 102 = .ok (.aload_n 0, 1) := by decide +kernel
theorem dX3_move_103 : decode cX3_move 103 = .ok (.iload_n 3, 1) := by decide +kernel
theorem dX3_move_104 : decode cX3_move 104 = .ok (.invokevirtual 50, 3) := by decide +kernel
theorem dX3_move_107 : decode cX3_move 107 = .ok (.invokestatic 75, 3) := by decide +kernel
theorem dX3_move_110 : decode cX3_move 110 = .ok (.ifCond .eq 9, 3) := by decide +kernel
theorem dX3_move_113 : decode cX3_move 113 = .ok (.aload_n 0, 1) := by decide +kernel
theorem dX3_move_114 : decode cX3_move 114 = .ok (.iconst 3, 1) := by decide +kernel
theorem dX3_move_115 : decode cX3_move 115 = .ok (.invokevirtual 72, 3) := by decide +kernel
theorem dX3_move_118 : decode cX3_move 118 = .ok (.ireturn, 1) := by decide +kernel
theorem dX3_move_119 : decode cX3_move 119 = .ok (.iconst 0, 1) := by decide +kernel
theorem dX3_move_120 : decode cX3_move 120 = .ok (.istore 8, 2) := by decide +kernel
theorem dX3_move_122 : decode cX3_move 122 = .ok (.iload 8, 2) := by decide +kernel
theorem dX3_move_124 : decode cX3_move 124 = .ok (.iload 5, 2) := by decide +kernel
theorem dX3_move_126 : decode cX3_move 126 = .ok (.if_icmp .ge 31, 3) := by decide +kernel
theorem dX3_move_129 : decode cX3_move 129 = .ok (.iload 7, 2) := by decide +kernel
theorem dX3_move_131 : decode cX3_move 131 = .ok (.iconst 5, 1) := by decide +kernel
theorem dX3_move_132 : decode cX3_move 132 = .ok (.if_icmp .ne 19, 3) := by decide +kernel
theorem dX3_move_135 : decode cX3_move 135 = .ok (.aload_n 0, 1) := by decide +kernel
theorem dX3_move_136 : decode cX3_move 136 = .ok (.aload_n 0, 1) := by decide +kernel
theorem dX3_move_137 : decode cX3_move 137 = .ok (.iload_n 1, 1) := by decide +kernel
theorem dX3_move_138 : decode cX3_move 138 = .ok (.iload_n 2, 1) := by decide +kernel
theorem dX3_move_139 : decode cX3_move 139 = .ok (.iload 8, 2) := by decide +kernel
theorem dX3_move_141 : decode cX3_move 141 = .ok (.iadd, 1) := by decide +kernel
theorem dX3_move_142 : decode cX3_move 142 = .ok (.invokevirtual 79, 3) := by decide +kernel
theorem dX3_move_145 : decode cX3_move 145 = .ok (.invokevirtual 83, 3) := by decide +kernel
theorem dX3_move_148 : decode cX3_move 148 = .ok (.ifCond .ne 9, 3) := by decide +kernel
theorem dX3_move_151 : decode cX3_move 151 = .ok (.iinc 8 1, 3) := by decide +kernel
theorem dX3_move_154 : decode cX3_move 154 = .ok (.goto (-32), 3) := by decide +kernel
theorem dX3_move_157 : decode cX3_move 157 = .ok (.bipush 80, 2) := by decide +kernel
theorem dX3_move_159 : decode cX3_move 159 = .ok (.aload_n 0, 1) := by decide +kernel
theorem dX3_move_160 : decode cX3_move 160 = .ok (.getfield 7, 3) := by decide +kernel
theorem dX3_move_163 : decode cX3_move 163 = .ok (.iload_n 1, 1) := by decide +kernel
theorem dX3_move_164 : decode cX3_move 164 = .ok (.iaload, 1) := by decide +kernel
theorem dX3_move_165 : decode cX3_move 165 = .ok (.iconst 1, 1) := by decide +kernel
theorem dX3_move_166 : decode cX3_move 166 = .ok (.isub, 1) := by decide +kernel
theorem dX3_move_167 : decode cX3_move 167 = .ok (.imul, 1) := by decide +kernel
theorem dX3_move_168 : decode cX3_move 168 = .ok (.iload_n 2, 1) := by decide +kernel
theorem dX3_move_169 : decode cX3_move 169 = .ok (.iadd, 1) := by decide +kernel
theorem dX3_move_170 : decode cX3_move 170 = .ok (.istore 9, 2) := by decide +kernel
theorem dX3_move_172 : decode cX3_move 172 = .ok (.bipush 80, 2) := by decide +kernel
theorem dX3_move_174 : decode cX3_move 174 = .ok (.aload_n 0, 1) := by decide +kernel
theorem dX3_move_175 : decode cX3_move 175 = .ok (.getfield 7, 3) := by decide +kernel
theorem dX3_move_178 : decode cX3_move 178 = .ok (.iload_n 3, 1) := by decide +kernel
theorem dX3_move_179 : decode cX3_move 179 = .ok (.iaload, 1) := by decide +kernel
theorem dX3_move_180 : decode cX3_move 180 = .ok (.iconst 1, 1) := by decide +kernel
theorem dX3_move_181 : decode cX3_move 181 = .ok (.isub, 1) := by decide +kernel
theorem dX3_move_182 : decode cX3_move 182 = .ok (.imul, 1) := by decide +kernel
theorem dX3_move_183 : decode cX3_move 183 = .ok (.iload 4, 2) := by decide +kernel
theorem dX3_move_185 : decode cX3_move 185 = .ok (.iadd, 1) := by decide +kernel
theorem dX3_move_186 : decode cX3_move 186 = .ok (.istore 10, 2) := by decide +kernel
theorem dX3_move_188 : decode cX3_move 188 = .ok (.iload 8, 2) := by decide +kernel
theorem dX3_move_190 : decode cX3_move 190 = .ok (.ifCond .le 15, 3) := by decide +kernel
theorem dX3_move_193 : decode cX3_move 193 = .ok (.aload_n 0, 1) := by decide +kernel
theorem dX3_move_194 : decode cX3_move 194 = .ok (.aload_n 0, 1) := by decide +kernel
theorem dX3_move_195 : decode cX3_move 195 = .ok (.getfield 7, 3) := by decide +kernel
theorem dX3_move_198 : decode cX3_move 198 = .ok (.iload_n 3, 1) := by decide +kernel
theorem dX3_move_199 : decode cX3_move 199 = .ok (.iaload, 1) := by decide +kernel
theorem dX3_move_200 : decode cX3_move 200 = .ok (.iconst 1, 1) := by decide +kernel
theorem dX3_move_201 : decode cX3_move 201 = .ok (.isub, 1) := by decide +kernel
theorem dX3_move_202 : decode cX3_move 202 = .ok (.invokevirtual 87, 3) := by decide +kernel
theorem dX3_move_205 : decode cX3_move 205 = .ok (.iload 9, 2) := by decide +kernel
theorem dX3_move_207 : decode cX3_move 207 = .ok (.iload 10, 2) := by decide +kernel
theorem dX3_move_209 : decode cX3_move 209 = .ok (.if_icmp .ge 43, 3) := by decide +kernel
theorem dX3_move_212 : decode cX3_move 212 = .ok (.iload 8, 2) := by decide +kernel
theorem dX3_move_214 : decode cX3_move 214 = .ok (.iconst 1, 1) := by decide +kernel
theorem dX3_move_215 : decode cX3_move 215 = .ok (.isub, 1) := by decide +kernel
theorem dX3_move_216 : decode cX3_move 216 = .ok (.istore 11, 2) := by decide +kernel
theorem dX3_move_218 : decode cX3_move 218 = .ok (.iload 11, 2) := by decide +kernel
theorem dX3_move_220 : decode cX3_move 220 = .ok (.ifCond .lt 29, 3) := by decide +kernel
theorem dX3_move_223 : decode cX3_move 223 = .ok (.aload_n 0, 1) := by decide +kernel
theorem dX3_move_224 : decode cX3_move 224 = .ok (.getfield 22, 3) := by decide +kernel
theorem dX3_move_227 : decode cX3_move 227 = .ok (.iload 10, 2) := by decide +kernel
theorem dX3_move_229 : decode cX3_move 229 = .ok (.iload 11, 2) := by decide +kernel
theorem dX3_move_231 : decode cX3_move 231 = .ok (.iadd, 1) := by decide +kernel
theorem dX3_move_232 : decode cX3_move 232 = .ok (.aload_n 0, 1) := by decide +kernel
theorem dX3_move_233 : decode cX3_move 233 = .ok (.getfield 22, 3) := by decide +kernel
theorem dX3_move_236 : decode cX3_move 236 = .ok (.iload 9, 2) := by decide +kernel
theorem dX3_move_238 : decode cX3_move 238 = .ok (.iload 11, 2) := by decide +kernel
theorem dX3_move_240 : decode cX3_move 240 = .ok (.iadd, 1) := by decide +kernel
theorem dX3_move_241 : decode cX3_move 241 = .ok (.laload, 1) := by decide +kernel
theorem dX3_move_242 : decode cX3_move 242 = .ok (.lastore, 1) := by decide +kernel
theorem dX3_move_243 : decode cX3_move 243 = .ok (.iinc 11 (-1), 3) := by decide +kernel
theorem dX3_move_246 : decode cX3_move 246 = .ok (.goto (-28), 3) := by decide +kernel
theorem dX3_move_249 : decode cX3_move 249 = .ok (.goto 39, 3) := by decide +kernel
theorem dX3_move_252 : decode cX3_move 252 = .ok (.iconst 0, 1) := by decide +kernel
theorem dX3_move_253 : decode cX3_move 253 = .ok (.istore 11, 2) := by decide +kernel
theorem dX3_move_255 : decode cX3_move 255 = .ok (.iload 11, 2) := by decide +kernel
theorem dX3_move_257 : decode cX3_move 257 = .ok (.iload 8, 2) := by decide +kernel
theorem dX3_move_259 : decode cX3_move 259 = .ok (.if_icmp .ge 29, 3) := by decide +kernel
theorem dX3_move_262 : decode cX3_move 262 = .ok (.aload_n 0, 1) := by decide +kernel
theorem dX3_move_263 : decode cX3_move 263 = .ok (.getfield 22, 3) := by decide +kernel
theorem dX3_move_266 : decode cX3_move 266 = .ok (.iload 10, 2) := by decide +kernel
theorem dX3_move_268 : decode cX3_move 268 = .ok (.iload 11, 2) := by decide +kernel
theorem dX3_move_270 : decode cX3_move 270 = .ok (.iadd, 1) := by decide +kernel
theorem dX3_move_271 : decode cX3_move 271 = .ok (.aload_n 0, 1) := by decide +kernel
theorem dX3_move_272 : decode cX3_move 272 = .ok (.getfield 22, 3) := by decide +kernel
theorem dX3_move_275 : decode cX3_move 275 = .ok (.iload 9, 2) := by decide +kernel
theorem dX3_move_277 : decode cX3_move 277 = .ok (.iload 11, 2) := by decide +kernel
theorem dX3_move_279 : decode cX3_move 279 = .ok (.iadd, 1) := by decide +kernel
theorem dX3_move_280 : decode cX3_move 280 = .ok (.laload, 1) := by decide +kernel
theorem dX3_move_281 : decode cX3_move 281 = .ok (.lastore, 1) := by decide +kernel
theorem dX3_move_282 : decode cX3_move 282 = .ok (.iinc 11 1, 3) := by decide +kernel
theorem dX3_move_285 : decode cX3_move 285 = .ok (.goto (-30), 3) := by decide +kernel
theorem dX3_move_288 : decode cX3_move 288 = .ok (.iload 8, 2) := by decide +kernel
theorem dX3_move_290 : decode cX3_move 290 = .ok (.iload 5, 2) := by decide +kernel
theorem dX3_move_292 : decode cX3_move 292 = .ok (.if_icmp .ge 19, 3) := by decide +kernel
theorem dX3_move_295 : decode cX3_move 295 = .ok (.aload_n 0, 1) := by decide +kernel
theorem dX3_move_296 : decode cX3_move 296 = .ok (.iconst 4, 1) := by decide +kernel
theorem dX3_move_297 : decode cX3_move 297 = .ok (.invokevirtual 72, 3) := by decide +kernel
theorem dX3_move_300 : decode cX3_move 300 = .ok (.istore 11, 2) := by decide +kernel
theorem dX3_move_302 : decode cX3_move 302 = .ok (.aload_n 0, 1) := by decide +kernel
theorem dX3_move_303 : decode cX3_move 303 = .ok (.iload 8, 2) := by decide +kernel
theorem dX3_move_305 : decode cX3_move 305 = .ok (.putfield 69, 3) := by decide +kernel
theorem dX3_move_308 : decode cX3_move 308 = .ok (.iload 11, 2) := by decide +kernel
theorem dX3_move_310 : decode cX3_move 310 = .ok (.ireturn, 1) := by decide +kernel
theorem dX3_move_311 : decode cX3_move 311 = .ok (.aload_n 0, 1) := by decide +kernel
theorem dX3_move_312 : decode cX3_move 312 = .ok (.iload 5, 2) := by decide +kernel
theorem dX3_move_314 : decode cX3_move 314 = .ok (.putfield 69, 3) := by decide +kernel
theorem dX3_move_317 : decode cX3_move 317 = .ok (.aload_n 0, 1) := by decide +kernel
theorem dX3_move_318 : decode cX3_move 318 = .ok (.dup, 1) := by decide +kernel
theorem dX3_move_319 : decode cX3_move 319 = .ok (.getfield 91, 3) := by decide +kernel
theorem dX3_move_322 : decode cX3_move 322 = .ok (.iconst 1, 1) := by decide +kernel
theorem dX3_move_323 : decode cX3_move 323 = .ok (.iadd, 1) := by decide +kernel
theorem dX3_move_324 : decode cX3_move 324 = .ok (.putfield 91, 3) := by decide +kernel
theorem dX3_move_327 : decode cX3_move 327 = .ok (.iload 5, 2) := by decide +kernel
theorem dX3_move_329 : decode cX3_move 329 = .ok (.ireturn, 1) := by decide +kernel
set_option maxRecDepth 20000 in
theorem ggX3_hinders_X3_hasPlaces : GoodIn wsX3_hinders wsX3_hasPlaces := goodIn_r _ [6, 1, 15, 16, 17, 18, 19, 20, 21, 22, 23, 24, 25, 26, 27, 28] (by decide +kernel) (by decide +kernel)
set_option maxRecDepth 20000 in
theorem gX3_hinders_X3_hasPlaces : GoodIn wsX3_hinders (wsV RX3 42 RX3 yX3_hasPlaces wsX3_hasPlaces) := goodIn_app (goodIn_of _ (by decide +kernel)) ggX3_hinders_X3_hasPlaces
set_option maxRecDepth 20000 in
theorem ggX3_hinders_X3_sizeOf : GoodIn wsX3_hinders wsX3_sizeOf := goodIn_r _ [10, 11, 1, 2, 3, 4, 5, 6, 15, 16, 17, 18, 19, 20, 21, 22, 23, 24, 25, 26, 27, 28] (by decide +kernel) (by decide +kernel)
set_option maxRecDepth 20000 in
theorem gX3_hinders_X3_sizeOf : GoodIn wsX3_hinders (wsV RX3 50 RX3 yX3_sizeOf wsX3_sizeOf) := goodIn_app (goodIn_of _ (by decide +kernel)) ggX3_hinders_X3_sizeOf
set_option maxRecDepth 20000 in
theorem ggX3_hinders_X3_isBeyond : GoodIn wsX3_hinders wsX3_isBeyond := goodIn_r _ [14] (by decide +kernel) (by decide +kernel)
set_option maxRecDepth 20000 in
theorem gX3_hinders_X3_isBeyond : GoodIn wsX3_hinders (va_wsS RX3 75 yX3_isBeyond wsX3_isBeyond) := goodIn_app (goodIn_of _ (by decide +kernel)) ggX3_hinders_X3_isBeyond
theorem dX3_hinders_0 : decode cX3_hinders 0 = .ok (.aload_n 0, 1) := by decide +kernel
theorem dX3_hinders_1 : decode cX3_hinders 1 = .ok (.getfield 7, 3) := by decide +kernel
theorem dX3_hinders_4 : decode cX3_hinders 4 = .ok (.iload_n 1, 1) := by decide +kernel
theorem dX3_hinders_5 : decode cX3_hinders 5 = .ok (.iaload, 1) := by decide +kernel
theorem dX3_hinders_6 : decode cX3_hinders 6 = .ok (.ifCond .ne 5, 3) := by decide +kernel
theorem dX3_hinders_9 : decode cX3_hinders 9 = .ok (.iconst 1, 1) := by decide +kernel
theorem dX3_hinders_10 : decode cX3_hinders 10 = .ok (.ireturn, 1) := by decide +kernel
theorem dX3_hinders_11 : decode cX3_hinders 11 = .ok (.aload_n 0, 1) := by decide +kernel
theorem dX3_hinders_12 : decode cX3_hinders 12 = .ok (.iload_n 1, 1) := by decide +kernel
theorem dX3_hinders_13 : decode cX3_hinders 13 = .ok (.invokevirtual 42, 3) := by decide +kernel
theorem dX3_hinders_16 : decode cX3_hinders 16 = .ok (.ifCond .ne 5, 3) := by decide +kernel
theorem dX3_hinders_19 : decode cX3_hinders 19 = .ok (.iconst 2, 1) := by decide +kernel
theorem dX3_hinders_20 : decode cX3_hinders 20 = .ok (.ireturn, 1) := by decide +kernel
theorem dX3_hinders_21 : decode cX3_hinders 21 = .ok (.iload_n 2, 1) := by decide +kernel
theorem dX3_hinders_22 : decode cX3_hinders 22 = .ok (.iload_n 3, 1) := by decide +kernel
theorem dX3_hinders_23 : decode cX3_hinders 23 = .ok (.aload_n 0, 1) := by decide +kernel
theorem dX3_hinders_24 : decode cX3_hinders 24 = .ok (.iload_n 1, 1) := by decide +kernel
theorem dX3_hinders_25 : decode cX3_hinders 25 = .ok (.invokevirtual 50, 3) := by decide +kernel
theorem dX3_hinders_28 : decode cX3_hinders 28 = .ok (.invokestatic 75, 3) := by decide +kernel
theorem dX3_hinders_31 : decode cX3_hinders 31 = .ok (.ifCond .eq 7, 3) := by decide +kernel
theorem dX3_hinders_34 : decode cX3_hinders 34 = .ok (.iconst 3, 1) := by decide +kernel
theorem dX3_hinders_35 : decode cX3_hinders 35 = .ok (.goto 4, 3) := by decide +kernel
theorem dX3_hinders_38 : decode cX3_hinders 38 = .ok (.iconst 0, 1) := by decide +kernel
theorem dX3_hinders_39 : decode cX3_hinders 39 = .ok (.ireturn, 1) := by decide +kernel
set_option maxRecDepth 20000 in
theorem ggX3_shifts_X3_isSpindle : GoodIn wsX3_shifts wsX3_isSpindle := goodIn_r _ [10] (by decide +kernel) (by decide +kernel)
set_option maxRecDepth 20000 in
theorem gX3_shifts_X3_isSpindle : GoodIn wsX3_shifts (va_wsS RX3 53 yX3_isSpindle wsX3_isSpindle) := goodIn_app (goodIn_of _ (by decide +kernel)) ggX3_shifts_X3_isSpindle
set_option maxRecDepth 20000 in
theorem ggX3_shifts_X3_hinders : GoodIn wsX3_shifts wsX3_hinders := goodIn_r _ [14, 1, 15, 16, 17, 9, 18, 19, 20, 21, 22, 2, 23, 24, 25, 36, 37, 38, 39, 40, 41, 42, 43, 44, 45, 46, 47, 48, 49] (by decide +kernel) (by decide +kernel)
set_option maxRecDepth 20000 in
theorem gX3_shifts_X3_hinders : GoodIn wsX3_shifts (wsV RX3 94 RX3 yX3_hinders wsX3_hinders) := goodIn_app (goodIn_of _ (by decide +kernel)) ggX3_shifts_X3_hinders
set_option maxRecDepth 20000 in
theorem ggX3_shifts_X3_fails : GoodIn wsX3_shifts wsX3_fails := goodIn_r _ [29, 30, 5, 36, 37, 38, 39, 40, 41, 42, 43, 44, 45, 46, 47, 48, 49] (by decide +kernel) (by decide +kernel)
set_option maxRecDepth 20000 in
theorem gX3_shifts_X3_fails : GoodIn wsX3_shifts (wsV RX3 72 RX3 yX3_fails wsX3_fails) := goodIn_app (goodIn_of _ (by decide +kernel)) ggX3_shifts_X3_fails
set_option maxRecDepth 20000 in
theorem ggX3_shifts_X3_cover : GoodIn wsX3_shifts wsX3_cover := goodIn_r _ [34, 35, 2, 4, 3, 36, 37, 38, 39, 40, 41, 42, 43, 44, 45, 46, 47, 48, 49] (by decide +kernel) (by decide +kernel)
set_option maxRecDepth 20000 in
theorem gX3_shifts_X3_cover : GoodIn wsX3_shifts (wsV RX3 87 RX3 yX3_cover wsX3_cover) := goodIn_app (goodIn_of _ (by decide +kernel)) ggX3_shifts_X3_cover
theorem dX3_shifts_0 : decode cX3_shifts 0 = .ok (.iload_n 1, 1) := by decide +kernel
theorem dX3_shifts_1 : decode cX3_shifts 1 = .ok (.invokestatic 53, 3) := by decide +kernel
theorem dX3_shifts_4 : decode cX3_shifts 4 = .ok (.ifCond .ne 6, 3) := by decide +kernel
theorem dX3_shifts_7 : decode cX3_shifts 7 = .ok (.bipush (-9), 2) := by decide +kernel
theorem dX3_shifts_9 : decode cX3_shifts 9 = .ok (.ireturn, 1) := by decide +kernel
theorem dX3_shifts_10 : decode cX3_shifts 10 = .ok (.aload_n 0, 1) := by decide +kernel
theorem dX3_shifts_11 : decode cX3_shifts 11 = .ok (.iload_n 1, 1) := by decide +kernel
theorem dX3_shifts_12 : decode cX3_shifts 12 = .ok (.iload_n 2, 1) := by decide +kernel
theorem dX3_shifts_13 : decode cX3_shifts 13 = .ok (.iload_n 3, 1) := by decide +kernel
theorem dX3_shifts_14 : decode cX3_shifts 14 = .ok (.invokevirtual 94, 3) := by decide +kernel
theorem dX3_shifts_17 : decode cX3_shifts 17 = .ok (.istore 5, 2) := by decide +kernel
theorem dX3_shifts_19 : decode cX3_shifts 19 = .ok (.iload 5, 2) := by decide +kernel
theorem dX3_shifts_21 : decode cX3_shifts 21 = .ok (.ifCond .eq 10, 3) := by decide +kernel
theorem dX3_shifts_24 : decode cX3_shifts 24 = .ok (.aload_n 0, 1) := by decide +kernel
theorem dX3_shifts_25 : decode cX3_shifts 25 = .ok (.iload 5, 2) := by decide +kernel
theorem dX3_shifts_27 : decode cX3_shifts 27 = .ok (.invokevirtual 72, 3) := by decide +kernel
theorem dX3_shifts_30 : decode cX3_shifts 30 = .ok (.ireturn, 1) := by decide +kernel
theorem dX3_shifts_31 : decode cX3_shifts 31 = .ok (.aload_n 0, 1) := by decide +kernel
theorem dX3_shifts_32 : decode cX3_shifts 32 = .ok (.getfield 7, 3) := by decide +kernel
theorem dX3_shifts_35 : decode cX3_shifts 35 = .ok (.iload_n 1, 1) := by decide +kernel
theorem dX3_shifts_36 : decode cX3_shifts 36 = .ok (.iaload, 1) := by decide +kernel
theorem dX3_shifts_37 : decode cX3_shifts 37 = .ok (.iconst 1, 1) := by decide +kernel
theorem dX3_shifts_38 : decode cX3_shifts 38 = .ok (.isub, 1) := by decide +kernel
theorem dX3_shifts_39 : decode cX3_shifts 39 = .ok (.istore 6, 2) := by decide +kernel
theorem dX3_shifts_41 : decode cX3_shifts 41 = .ok (.bipush 80, 2) := by decide +kernel
theorem dX3_shifts_43 : decode cX3_shifts 43 = .ok (.iload 6, 2) := by decide +kernel
theorem dX3_shifts_45 : decode cX3_shifts 45 = .ok (.imul, 1) := by decide +kernel
theorem dX3_shifts_46 : decode cX3_shifts 46 = .ok (.istore 7, 2) := by decide +kernel
theorem dX3_shifts_48 : decode cX3_shifts 48 = .ok (.aload_n 0, 1) := by decide +kernel
theorem dX3_shifts_49 : decode cX3_shifts 49 = .ok (.getfield 19, 3) := by decide +kernel
theorem dX3_shifts_52 : decode cX3_shifts 52 = .ok (.iload 6, 2) := by decide +kernel
theorem dX3_shifts_54 : decode cX3_shifts 54 = .ok (.iaload, 1) := by decide +kernel
theorem dX3_shifts_55 : decode cX3_shifts 55 = .ok (.istore 8, 2) := by decide +kernel
theorem dX3_shifts_57 : decode cX3_shifts 57 = .ok (.aload_n 0, 1) := by decide +kernel
theorem dX3_shifts_58 : decode cX3_shifts 58 = .ok (.iload 6, 2) := by decide +kernel
theorem dX3_shifts_60 : decode cX3_shifts 60 = .ok (.invokevirtual 87, 3) := by decide +kernel
theorem dX3_shifts_63 : decode cX3_shifts 63 = .ok (.iload_n 2, 1) := by decide +kernel
theorem dX3_shifts_64 : decode cX3_shifts 64 = .ok (.istore 9, 2) := by decide +kernel
theorem dX3_shifts_66 : decode cX3_shifts 66 = .ok (.iload 9, 2) := by decide +kernel
theorem dX3_shifts_68 : decode cX3_shifts 68 = .ok (.iload 8, 2) := by decide +kernel
theorem dX3_shifts_70 : decode cX3_shifts 70 = .ok (.if_icmp .ge 61, 3) := by decide +kernel
theorem dX3_shifts_73 : decode cX3_shifts 73 = .ok (.iload 4, 2) := by decide +kernel
theorem dX3_shifts_75 : decode cX3_shifts 75 = .ok (.ifCond .eq 10, 3) := by decide +kernel
theorem dX3_shifts_78 : decode cX3_shifts 78 = .ok (.iload 9, 2) := by decide +kernel
theorem dX3_shifts_80 : decode cX3_shifts 80 = .ok (.iload_n 3, 1) := by decide +kernel
theorem dX3_shifts_81 : decode cX3_shifts 81 = .ok (.isub, 1) := by decide +kernel
theorem dX3_shifts_82 : decode cX3_shifts 82 = .ok (.goto 7, 3) := by decide +kernel
theorem dX3_shifts_85 : decode cX3_shifts 85 = .ok (.iload 9, 2) := by decide +kernel
theorem dX3_shifts_87 : decode cX3_shifts 87 = .ok (.iload_n 3, 1) := by decide +kernel
theorem dX3_shifts_88 : decode cX3_shifts 88 = .ok (.iadd, 1) := by decide +kernel
theorem dX3_shifts_89 : decode cX3_shifts 89 = .ok (.istore 10, 2) := by decide +kernel
theorem dX3_shifts_91 : decode cX3_shifts 91 = .ok (.aload_n 0, 1) := by decide +kernel
theorem dX3_shifts_92 : decode cX3_shifts 92 = .ok (.getfield 22, 3) := by decide +kernel
theorem dX3_shifts_95 : decode cX3_shifts 95 = .ok (.iload 7, 2) := by decide +kernel
theorem dX3_shifts_97 : decode cX3_shifts 97 = .ok (.iload 9, 2) := by decide +kernel
theorem dX3_shifts_99 : decode cX3_shifts 99 = .ok (.iadd, 1) := by decide +kernel
theorem dX3_shifts_100 : decode cX3_shifts 100 = .ok (.iload 10, 2) := by decide +kernel
theorem dX3_shifts_102 : decode cX3_shifts 102 = .ok (.iload_n 2, 1) := by decide +kernel
theorem dX3_shifts_103 : decode cX3_shifts 103 = .ok (.if_icmp .lt 10, 3) := by decide +kernel
theorem dX3_shifts_106 : decode cX3_shifts 106 = .ok (.iload 10, 2) := by decide +kernel
theorem dX3_shifts_108 : decode cX3_shifts 108 = .ok (.iload 8, 2) := by decide +kernel
theorem dX3_shifts_110 : decode cX3_shifts 110 = .ok (.if_icmp .lt 7, 3) := by decide +kernel
theorem dX3_shifts_113 : decode cX3_shifts 113 = .ok (.lconst 0, 1) := by decide +kernel
theorem dX3_shifts_114 : decode cX3_shifts 114 = .ok (.goto 10, 3) := by decide +kernel
theorem dX3_shifts_117 : decode cX3_shifts 117 = .ok (.aload_n 0, 1) := by decide +kernel
theorem dX3_shifts_118 : decode cX3_shifts 118 = .ok (.getfield 26, 3) := by decide +kernel
theorem dX3_shifts_121 : decode cX3_shifts 121 = .ok (.iload 10, 2) := by decide +kernel
theorem dX3_shifts_123 : decode cX3_shifts 123 = .ok (.laload, 1) := by decide +kernel
theorem dX3_shifts_124 : decode cX3_shifts 124 = .ok (.lastore, 1) := by decide +kernel
theorem dX3_shifts_125 : decode cX3_shifts 125 = .ok (.iinc 9 1, 3) := by decide +kernel
theorem dX3_shifts_128 : decode cX3_shifts 128 = .ok (.goto (-62), 3) := by decide +kernel
theorem dX3_shifts_131 : decode cX3_shifts 131 = .ok (.aload_n 0, 1) := by decide +kernel
theorem dX3_shifts_132 : decode cX3_shifts 132 = .ok (.iload 8, 2) := by decide +kernel
theorem dX3_shifts_134 : decode cX3_shifts 134 = .ok (.iload_n 2, 1) := by decide +kernel
theorem dX3_shifts_135 : decode cX3_shifts 135 = .ok (.isub, 1) := by decide +kernel
theorem dX3_shifts_136 : decode cX3_shifts 136 = .ok (.iload_n 3, 1) := by decide +kernel
theorem dX3_shifts_137 : decode cX3_shifts 137 = .ok (.isub, 1) := by decide +kernel
theorem dX3_shifts_138 : decode cX3_shifts 138 = .ok (.putfield 69, 3) := by decide +kernel
theorem dX3_shifts_141 : decode cX3_shifts 141 = .ok (.aload_n 0, 1) := by decide +kernel
theorem dX3_shifts_142 : decode cX3_shifts 142 = .ok (.dup, 1) := by decide +kernel
theorem dX3_shifts_143 : decode cX3_shifts 143 = .ok (.getfield 91, 3) := by decide +kernel
theorem dX3_shifts_146 : decode cX3_shifts 146 = .ok (.iconst 1, 1) := by decide +kernel
theorem dX3_shifts_147 : decode cX3_shifts 147 = .ok (.iadd, 1) := by decide +kernel
theorem dX3_shifts_148 : decode cX3_shifts 148 = .ok (.putfield 91, 3) := by decide +kernel
theorem dX3_shifts_151 : decode cX3_shifts 151 = .ok (.iconst 1, 1) := by decide +kernel
theorem dX3_shifts_152 : decode cX3_shifts 152 = .ok (.ireturn, 1) := by decide +kernel
set_option maxRecDepth 20000 in
theorem ggX3_open_X3_shifts : GoodIn wsX3_open wsX3_shifts := goodIn_r _ [5, 6, 7, 8, 9, 10, 11, 12, 13, 4, 14, 15, 16, 17, 18, 19, 20, 21, 22, 23, 24, 25, 26, 27, 28, 29, 30, 31, 32, 33, 34, 35, 36, 37, 38, 39, 40, 41, 42, 43, 44, 45, 46, 47, 48, 49, 50, 51, 52, 53] (by decide +kernel) (by decide +kernel)
set_option maxRecDepth 20000 in
theorem gX3_open_X3_shifts : GoodIn wsX3_open (wsV RX3 98 RX3 yX3_shifts wsX3_shifts) := goodIn_app (goodIn_of _ (by decide +kernel)) ggX3_open_X3_shifts
theorem dX3_open_0 : decode cX3_open 0 = .ok (.aload_n 0, 1) := by decide +kernel
theorem dX3_open_1 : decode cX3_open 1 = .ok (.iload_n 1, 1) := by decide +kernel
theorem dX3_open_2 : decode cX3_open 2 = .ok (.iload_n 2, 1) := by decide +kernel
theorem dX3_open_3 : decode cX3_open 3 = .ok (.iload_n 3, 1) := by decide +kernel
theorem dX3_open_4 : decode cX3_open 4 = .ok (.iconst 1, 1) := by decide +kernel
end
section
theorem dX3_open_5 : decode cX3_open 5 = .ok (.invokevirtual 98, 3) := by decide +kernel
theorem dX3_open_8 : decode cX3_open 8 = .ok (.ireturn, 1) := by decide +kernel
set_option maxRecDepth 20000 in
theorem ggX3_close_X3_shifts : GoodIn wsX3_close wsX3_shifts := goodIn_r _ [5, 6, 7, 8, 9, 10, 11, 12, 13, 4, 14, 15, 16, 17, 18, 19, 20, 21, 22, 23, 24, 25, 26, 27, 28, 29, 30, 31, 32, 33, 34, 35, 36, 37, 38, 39, 40, 41, 42, 43, 44, 45, 46, 47, 48, 49, 50, 51, 52, 53] (by decide +kernel) (by decide +kernel)
set_option maxRecDepth 20000 in
theorem gX3_close_X3_shifts : GoodIn wsX3_close (wsV RX3 98 RX3 yX3_shifts wsX3_shifts) := goodIn_app (goodIn_of _ (by decide +kernel)) ggX3_close_X3_shifts
theorem dX3_close_0 : decode cX3_close 0 = .ok (.aload_n 0, 1) := by decide +kernel
theorem dX3_close_1 : decode cX3_close 1 = .ok (.iload_n 1, 1) := by decide +kernel
theorem dX3_close_2 : decode cX3_close 2 = .ok (.iload_n 2, 1) := by decide +kernel
theorem dX3_close_3 : decode cX3_close 3 = .ok (.iload_n 3, 1) := by decide +kernel
theorem dX3_close_4 : decode cX3_close 4 = .ok (.iconst 0, 1) := by decide +kernel
theorem dX3_close_5 : decode cX3_close 5 = .ok (.invokevirtual 98, 3) := by decide +kernel
theorem dX3_close_8 : decode cX3_close 8 = .ok (.ireturn, 1) := by decide +kernel
theorem dX3_back_0 : decode cX3_back 0 = .ok (.aload_n 0, 1) := by decide +kernel
theorem dX3_back_1 : decode cX3_back 1 = .ok (.getfield 38, 3) := by decide +kernel
theorem dX3_back_4 : decode cX3_back 4 = .ok (.iconst (-1), 1) := by decide +kernel
theorem dX3_back_5 : decode cX3_back 5 = .ok (.if_icmp .ne 5, 3) := by decide +kernel
theorem dX3_back_8 : decode cX3_back 8 = .ok (.iconst 0, 1) := by decide +kernel
theorem dX3_back_9 : decode cX3_back 9 = .ok (.ireturn, 1) := by decide +kernel
theorem dX3_back_10 : decode cX3_back 10 = .ok (.iconst 0, 1) := by decide +kernel
theorem dX3_back_11 : decode cX3_back 11 = .ok (.istore_n 1, 1) := by decide +kernel
theorem dX3_back_12 : decode cX3_back 12 = .ok (.iload_n 1, 1) := by decide +kernel
theorem dX3_back_13 : decode cX3_back 13 = .ok (.aload_n 0, 1) := by decide +kernel
theorem dX3_back_14 : decode cX3_back 14 = .ok (.getfield 19, 3) := by decide +kernel
theorem dX3_back_17 : decode cX3_back 17 = .ok (.aload_n 0, 1) := by decide +kernel
theorem dX3_back_18 : decode cX3_back 18 = .ok (.getfield 38, 3) := by decide +kernel
theorem dX3_back_21 : decode cX3_back 21 = .ok (.iaload, 1) := by decide +kernel
theorem dX3_back_22 : decode cX3_back 22 = .ok (.if_icmp .ge 29, 3) := by decide +kernel
theorem dX3_back_25 : decode cX3_back 25 = .ok (.aload_n 0, 1) := by decide +kernel
theorem dX3_back_26 : decode cX3_back 26 = .ok (.getfield 22, 3) := by decide +kernel
theorem dX3_back_29 : decode cX3_back 29 = .ok (.bipush 80, 2) := by decide +kernel
theorem dX3_back_31 : decode cX3_back 31 = .ok (.aload_n 0, 1) := by decide +kernel
theorem dX3_back_32 : decode cX3_back 32 = .ok (.getfield 38, 3) := by decide +kernel
theorem dX3_back_35 : decode cX3_back 35 = .ok (.imul, 1) := by decide +kernel
theorem dX3_back_36 : decode cX3_back 36 = .ok (.iload_n 1, 1) := by decide +kernel
theorem dX3_back_37 : decode cX3_back 37 = .ok (.iadd, 1) := by decide +kernel
theorem dX3_back_38 : decode cX3_back 38 = .ok (.aload_n 0, 1) := by decide +kernel
theorem dX3_back_39 : decode cX3_back 39 = .ok (.getfield 26, 3) := by decide +kernel
theorem dX3_back_42 : decode cX3_back 42 = .ok (.iload_n 1, 1) := by decide +kernel
theorem dX3_back_43 : decode cX3_back 43 = .ok (.laload, 1) := by decide +kernel
theorem dX3_back_44 : decode cX3_back 44 = .ok (.lastore, 1) := by decide +kernel
theorem dX3_back_45 : decode cX3_back 45 = .ok (.iinc 1 1, 3) := by decide +kernel
theorem dX3_back_48 : decode cX3_back 48 = .ok (.goto (-36), 3) := by decide +kernel
theorem dX3_back_51 : decode cX3_back 51 = .ok (.aload_n 0, 1) := by decide +kernel
theorem dX3_back_52 : decode cX3_back 52 = .ok (.iconst (-1), 1) := by decide +kernel
theorem dX3_back_53 : decode cX3_back 53 = .ok (.putfield 38, 3) := by decide +kernel
theorem dX3_back_56 : decode cX3_back 56 = .ok (.iconst 1, 1) := by decide +kernel
theorem dX3_back_57 : decode cX3_back 57 = .ok (.ireturn, 1) := by decide +kernel
theorem dX3_count_0 : decode cX3_count 0 = .ok (.iload_n 1, 1) := by decide +kernel
theorem dX3_count_1 : decode cX3_count 1 = .ok (.tableswitch 92 0 8 #[51, 56, 56, 56, 56, 63, 68, 73, 78], 51) := by decide +kernel
theorem dX3_count_52 : decode cX3_count 52 = .ok (.aload_n 0, 1) := by decide +kernel
theorem dX3_count_53 : decode cX3_count 53 = .ok (.getfield 69, 3) := by decide +kernel
theorem dX3_count_56 : decode cX3_count 56 = .ok (.ireturn, 1) := by decide +kernel
theorem dX3_count_57 : decode cX3_count 57 = .ok (.aload_n 0, 1) := by decide +kernel
theorem dX3_count_58 : decode cX3_count 58 = .ok (.getfield 35, 3) := by decide +kernel
theorem dX3_count_61 : decode cX3_count 61 = .ok (.iload_n 1, 1) := by decide +kernel
theorem dX3_count_62 : decode cX3_count 62 = .ok (.iaload, 1) := by decide +kernel
theorem dX3_count_63 : decode cX3_count 63 = .ok (.ireturn, 1) := by decide +kernel
theorem dX3_count_64 : decode cX3_count 64 = .ok (.aload_n 0, 1) := by decide +kernel
theorem dX3_count_65 : decode cX3_count 65 = .ok (.getfield 91, 3) := by decide +kernel
theorem dX3_count_68 : decode cX3_count 68 = .ok (.ireturn, 1) := by decide +kernel
theorem dX3_count_69 : decode cX3_count 69 = .ok (.aload_n 0, 1) := by decide +kernel
theorem dX3_count_70 : decode cX3_count 70 = .ok (.getfield 56, 3) := by decide +kernel
theorem dX3_count_73 : decode cX3_count 73 = .ok (.ireturn, 1) := by decide +kernel
theorem dX3_count_74 : decode cX3_count 74 = .ok (.aload_n 0, 1) := by decide +kernel
theorem dX3_count_75 : decode cX3_count 75 = .ok (.getfield 62, 3) := by decide +kernel
theorem dX3_count_78 : decode cX3_count 78 = .ok (.ireturn, 1) := by decide +kernel
theorem dX3_count_79 : decode cX3_count 79 = .ok (.aload_n 0, 1) := by decide +kernel
theorem dX3_count_80 : decode cX3_count 80 = .ok (.getfield 38, 3) := by decide +kernel
theorem dX3_count_83 : decode cX3_count 83 = .ok (.iconst (-1), 1) := by decide +kernel
theorem dX3_count_84 : decode cX3_count 84 = .ok (.if_icmp .ne 7, 3) := by decide +kernel
theorem dX3_count_87 : decode cX3_count 87 = .ok (.iconst 0, 1) := by decide +kernel
theorem dX3_count_88 : decode cX3_count 88 = .ok (.goto 4, 3) := by decide +kernel
theorem dX3_count_91 : decode cX3_count 91 = .ok (.iconst 1, 1) := by decide +kernel
theorem dX3_count_92 : decode cX3_count 92 = .ok (.ireturn, 1) := by decide +kernel
theorem dX3_count_93 : decode cX3_count 93 = .ok (.iconst (-1), 1) := by decide +kernel
theorem dX3_count_94 : decode cX3_count 94 = .ok (.ireturn, 1) := by decide +kernel
set_option maxRecDepth 20000 in
theorem ggX3_held_X3_isSpindle : GoodIn wsX3_held wsX3_isSpindle := goodIn_r _ [4] (by decide +kernel) (by decide +kernel)
set_option maxRecDepth 20000 in
theorem gX3_held_X3_isSpindle : GoodIn wsX3_held (va_wsS RX3 53 yX3_isSpindle wsX3_isSpindle) := goodIn_app (goodIn_of _ (by decide +kernel)) ggX3_held_X3_isSpindle
set_option maxRecDepth 20000 in
theorem ggX3_held_X3_kindOf : GoodIn wsX3_held wsX3_kindOf := goodIn_r _ [8, 9, 10, 25, 26, 27, 28, 29, 30, 31, 32, 33, 34, 35, 36, 37, 38] (by decide +kernel) (by decide +kernel)
set_option maxRecDepth 20000 in
theorem gX3_held_X3_kindOf : GoodIn wsX3_held (wsV RX3 46 RX3 yX3_kindOf wsX3_kindOf) := goodIn_app (goodIn_of _ (by decide +kernel)) ggX3_held_X3_kindOf
set_option maxRecDepth 20000 in
theorem ggX3_held_X3_sizeOf : GoodIn wsX3_held wsX3_sizeOf := goodIn_r _ [14, 15, 9, 16, 17, 18, 3, 19, 25, 26, 27, 28, 29, 30, 31, 32, 33, 34, 35, 36, 37, 38] (by decide +kernel) (by decide +kernel)
set_option maxRecDepth 20000 in
theorem gX3_held_X3_sizeOf : GoodIn wsX3_held (wsV RX3 50 RX3 yX3_sizeOf wsX3_sizeOf) := goodIn_app (goodIn_of _ (by decide +kernel)) ggX3_held_X3_sizeOf
set_option maxRecDepth 20000 in
theorem ggX3_held_X3_place : GoodIn wsX3_held wsX3_place := goodIn_r _ [23, 24, 9, 25, 26, 27, 28, 29, 30, 31, 32, 33, 34, 35, 36, 37, 38] (by decide +kernel) (by decide +kernel)
set_option maxRecDepth 20000 in
theorem gX3_held_X3_place : GoodIn wsX3_held (wsV RX3 79 RX3 yX3_place wsX3_place) := goodIn_app (goodIn_of _ (by decide +kernel)) ggX3_held_X3_place
theorem dX3_held_0 : decode cX3_held 0 = .ok (.iload_n 1, 1) := by decide +kernel
theorem dX3_held_1 : decode cX3_held 1 = .ok (.invokestatic 53, 3) := by decide +kernel
theorem dX3_held_4 : decode cX3_held 4 = .ok (.ifCond .ne 6, 3) := by decide +kernel
theorem dX3_held_7 : decode cX3_held 7 = .ok (.bipush (-9), 2) := by decide +kernel
theorem dX3_held_9 : decode cX3_held 9 = .ok (.ireturn, 1) := by decide +kernel
theorem dX3_held_10 : decode cX3_held 10 = .ok (.iload_n 2, 1) := by decide +kernel
theorem dX3_held_11 : decode cX3_held 11 = .ok (.ifCond .ne 9, 3) := by decide +kernel
theorem dX3_held_14 : decode cX3_held 14 = .ok (.aload_n 0, 1) := by decide +kernel
theorem dX3_held_15 : decode cX3_held 15 = .ok (.iload_n 1, 1) := by decide +kernel
theorem dX3_held_16 : decode cX3_held 16 = .ok (.invokevirtual 46, 3) := by decide +kernel
theorem dX3_held_19 : decode cX3_held 19 = .ok (.ireturn, 1) := by decide +kernel
theorem dX3_held_20 : decode cX3_held 20 = .ok (.iload_n 2, 1) := by decide +kernel
theorem dX3_held_21 : decode cX3_held 21 = .ok (.iconst 1, 1) := by decide +kernel
theorem dX3_held_22 : decode cX3_held 22 = .ok (.if_icmp .ne 9, 3) := by decide +kernel
theorem dX3_held_25 : decode cX3_held 25 = .ok (.aload_n 0, 1) := by decide +kernel
theorem dX3_held_26 : decode cX3_held 26 = .ok (.iload_n 1, 1) := by decide +kernel
theorem dX3_held_27 : decode cX3_held 27 = .ok (.invokevirtual 50, 3) := by decide +kernel
theorem dX3_held_30 : decode cX3_held 30 = .ok (.ireturn, 1) := by decide +kernel
theorem dX3_held_31 : decode cX3_held 31 = .ok (.iload_n 2, 1) := by decide +kernel
theorem dX3_held_32 : decode cX3_held 32 = .ok (.iconst 2, 1) := by decide +kernel
theorem dX3_held_33 : decode cX3_held 33 = .ok (.if_icmp .eq 5, 3) := by decide +kernel
theorem dX3_held_36 : decode cX3_held 36 = .ok (.iconst (-1), 1) := by decide +kernel
theorem dX3_held_37 : decode cX3_held 37 = .ok (.ireturn, 1) := by decide +kernel
theorem dX3_held_38 : decode cX3_held 38 = .ok (.iconst 0, 1) := by decide +kernel
theorem dX3_held_39 : decode cX3_held 39 = .ok (.istore_n 3, 1) := by decide +kernel
theorem dX3_held_40 : decode cX3_held 40 = .ok (.iconst 0, 1) := by decide +kernel
theorem dX3_held_41 : decode cX3_held 41 = .ok (.istore 4, 2) := by decide +kernel
theorem dX3_held_43 : decode cX3_held 43 = .ok (.iload 4, 2) := by decide +kernel
theorem dX3_held_45 : decode cX3_held 45 = .ok (.aload_n 0, 1) := by decide +kernel
theorem dX3_held_46 : decode cX3_held 46 = .ok (.iload_n 1, 1) := by decide +kernel
theorem dX3_held_47 : decode cX3_held 47 = .ok (.invokevirtual 50, 3) := by decide +kernel
theorem dX3_held_50 : decode cX3_held 50 = .ok (.if_icmp .ge 29, 3) := by decide +kernel
theorem dX3_held_53 : decode cX3_held 53 = .ok (.iload_n 3, 1) := by decide +kernel
theorem dX3_held_54 : decode cX3_held 54 = .ok (.aload_n 0, 1) := by decide +kernel
theorem dX3_held_55 : decode cX3_held 55 = .ok (.iload_n 1, 1) := by decide +kernel
theorem dX3_held_56 : decode cX3_held 56 = .ok (.iload 4, 2) := by decide +kernel
theorem dX3_held_58 : decode cX3_held 58 = .ok (.invokevirtual 79, 3) := by decide +kernel
theorem dX3_held_61 : decode cX3_held 61 = .ok (.lconst 0, 1) := by decide +kernel
theorem dX3_held_62 : decode cX3_held 62 = .ok (.lcmp, 1) := by decide +kernel
theorem dX3_held_63 : decode cX3_held 63 = .ok (.ifCond .ne 7, 3) := by decide +kernel
theorem dX3_held_66 : decode cX3_held 66 = .ok (.iconst 0, 1) := by decide +kernel
theorem dX3_held_67 : decode cX3_held 67 = .ok (.goto 4, 3) := by decide +kernel
theorem dX3_held_70 : decode cX3_held 70 = .ok (.iconst 1, 1) := by decide +kernel
theorem dX3_held_71 : decode cX3_held 71 = .ok (.iadd, 1) := by decide +kernel
theorem dX3_held_72 : decode cX3_held 72 = .ok (.istore_n 3, 1) := by decide +kernel
theorem dX3_held_73 : decode cX3_held 73 = .ok (.iinc 4 1, 3) := by decide +kernel
theorem dX3_held_76 : decode cX3_held 76 = .ok (.goto (-33), 3) := by decide +kernel
theorem dX3_held_79 : decode cX3_held 79 = .ok (.iload_n 3, 1) := by decide +kernel
theorem dX3_held_80 : decode cX3_held 80 = .ok (.ireturn, 1) := by decide +kernel
set_option maxRecDepth 20000 in
theorem ggX3_sort_X3_isSpindle : GoodIn wsX3_sort wsX3_isSpindle := goodIn_r _ [4] (by decide +kernel) (by decide +kernel)
set_option maxRecDepth 20000 in
theorem gX3_sort_X3_isSpindle : GoodIn wsX3_sort (va_wsS RX3 53 yX3_isSpindle wsX3_isSpindle) := goodIn_app (goodIn_of _ (by decide +kernel)) ggX3_sort_X3_isSpindle
set_option maxRecDepth 20000 in
theorem ggX3_sort_X3_isPlace : GoodIn wsX3_sort wsX3_isPlace := goodIn_r _ [8, 9, 10, 11, 3, 12, 13, 14, 15, 16, 17, 18, 38, 39, 40, 41, 42, 43, 44, 45, 46, 47, 48, 49, 50, 51] (by decide +kernel) (by decide +kernel)
set_option maxRecDepth 20000 in
theorem gX3_sort_X3_isPlace : GoodIn wsX3_sort (wsV RX3 65 RX3 yX3_isPlace wsX3_isPlace) := goodIn_app (goodIn_of _ (by decide +kernel)) ggX3_sort_X3_isPlace
set_option maxRecDepth 20000 in
theorem ggX3_sort_X3_isRack : GoodIn wsX3_sort wsX3_isRack := goodIn_r _ [22, 23, 24, 25, 3, 26, 14, 27, 38, 39, 40, 41, 42, 43, 44, 45, 46, 47, 48, 49, 50, 51] (by decide +kernel) (by decide +kernel)
set_option maxRecDepth 20000 in
theorem gX3_sort_X3_isRack : GoodIn wsX3_sort (wsV RX3 102 RX3 yX3_isRack wsX3_isRack) := goodIn_app (goodIn_of _ (by decide +kernel)) ggX3_sort_X3_isRack
set_option maxRecDepth 20000 in
theorem ggX3_sort_X3_place : GoodIn wsX3_sort wsX3_place := goodIn_r _ [31, 32, 14, 38, 39, 40, 41, 42, 43, 44, 45, 46, 47, 48, 49, 50, 51] (by decide +kernel) (by decide +kernel)
set_option maxRecDepth 20000 in
theorem gX3_sort_X3_place : GoodIn wsX3_sort (wsV RX3 79 RX3 yX3_place wsX3_place) := goodIn_app (goodIn_of _ (by decide +kernel)) ggX3_sort_X3_place
set_option maxRecDepth 20000 in
theorem ggX3_sort_X3_isPlain : GoodIn wsX3_sort wsX3_isPlain := goodIn_r _ [36, 37, 38, 39, 40, 41, 42, 43, 44, 45, 46, 47, 48, 49, 50, 51] (by decide +kernel) (by decide +kernel)
set_option maxRecDepth 20000 in
theorem gX3_sort_X3_isPlain : GoodIn wsX3_sort (wsV RX3 83 RX3 yX3_isPlain wsX3_isPlain) := goodIn_app (goodIn_of _ (by decide +kernel)) ggX3_sort_X3_isPlain
theorem dX3_sort_0 : decode cX3_sort 0 = .ok (.iload_n 1, 1) := by decide +kernel
theorem dX3_sort_1 : decode cX3_sort 1 = .ok (.invokestatic 53, 3) := by decide +kernel
theorem dX3_sort_4 : decode cX3_sort 4 = .ok (.ifCond .ne 6, 3) := by decide +kernel
theorem dX3_sort_7 : decode cX3_sort 7 = .ok (.bipush (-9), 2) := by decide +kernel
theorem dX3_sort_9 : decode cX3_sort 9 = .ok (.ireturn, 1) := by decide +kernel
theorem dX3_sort_10 : decode cX3_sort 10 = .ok (.aload_n 0, 1) := by decide +kernel
theorem dX3_sort_11 : decode cX3_sort 11 = .ok (.iload_n 1, 1) := by decide +kernel
theorem dX3_sort_12 : decode cX3_sort 12 = .ok (.iload_n 2, 1) := by decide +kernel
theorem dX3_sort_13 : decode cX3_sort 13 = .ok (.invokevirtual 65, 3) := by decide +kernel
theorem dX3_sort_16 : decode cX3_sort 16 = .ok (.ifCond .ne 5, 3) := by decide +kernel
theorem dX3_sort_19 : decode cX3_sort 19 = .ok (.iconst (-1), 1) := by decide +kernel
theorem dX3_sort_20 : decode cX3_sort 20 = .ok (.ireturn, 1) := by decide +kernel
theorem dX3_sort_21 : decode cX3_sort 21 = .ok (.aload_n 0, 1) := by decide +kernel
theorem dX3_sort_22 : decode cX3_sort 22 = .ok (.iload_n 1, 1) := by decide +kernel
theorem dX3_sort_23 : decode cX3_sort 23 = .ok (.invokevirtual 102, 3) := by decide +kernel
theorem dX3_sort_26 : decode cX3_sort 26 = .ok (.ifCond .ne 5, 3) := by decide +kernel
theorem dX3_sort_29 : decode cX3_sort 29 = .ok (.iconst 1, 1) := by decide +kernel
theorem dX3_sort_30 : decode cX3_sort 30 = .ok (.ireturn, 1) := by decide +kernel
theorem dX3_sort_31 : decode cX3_sort 31 = .ok (.aload_n 0, 1) := by decide +kernel
theorem dX3_sort_32 : decode cX3_sort 32 = .ok (.iload_n 1, 1) := by decide +kernel
theorem dX3_sort_33 : decode cX3_sort 33 = .ok (.iload_n 2, 1) := by decide +kernel
theorem dX3_sort_34 : decode cX3_sort 34 = .ok (.invokevirtual 79, 3) := by decide +kernel
theorem dX3_sort_37 : decode cX3_sort 37 = .ok (.lconst 0, 1) := by decide +kernel
theorem dX3_sort_38 : decode cX3_sort 38 = .ok (.lcmp, 1) := by decide +kernel
theorem dX3_sort_39 : decode cX3_sort 39 = .ok (.ifCond .ne 7, 3) := by decide +kernel
theorem dX3_sort_42 : decode cX3_sort 42 = .ok (.iconst 0, 1) := by decide +kernel
theorem dX3_sort_43 : decode cX3_sort 43 = .ok (.goto 21, 3) := by decide +kernel
theorem dX3_sort_46 : decode cX3_sort 46 = .ok (.aload_n 0, 1) := by decide +kernel
theorem dX3_sort_47 : decode cX3_sort 47 = .ok (.aload_n 0, 1) := by decide +kernel
theorem dX3_sort_48 : decode cX3_sort 48 = .ok (.iload_n 1, 1) := by decide +kernel
theorem dX3_sort_49 : decode cX3_sort 49 = .ok (.iload_n 2, 1) := by decide +kernel
theorem dX3_sort_50 : decode cX3_sort 50 = .ok (.invokevirtual 79, 3) := by decide +kernel
theorem dX3_sort_53 : decode cX3_sort 53 = .ok (.invokevirtual 83, 3) := by decide +kernel
theorem dX3_sort_56 : decode cX3_sort 56 = .ok (.ifCond .eq 7, 3) := by decide +kernel
theorem dX3_sort_59 : decode cX3_sort 59 = .ok (.iconst 2, 1) := by decide +kernel
theorem dX3_sort_60 : decode cX3_sort 60 = .ok (.goto 4, 3) := by decide +kernel
theorem dX3_sort_63 : decode cX3_sort 63 = .ok (.iconst 3, 1) := by decide +kernel
theorem dX3_sort_64 : decode cX3_sort 64 = .ok (.ireturn, 1) := by decide +kernel
set_option maxRecDepth 20000 in
theorem ggX3_number_X3_isSpindle : GoodIn wsX3_number wsX3_isSpindle := goodIn_r _ [7] (by decide +kernel) (by decide +kernel)
set_option maxRecDepth 20000 in
theorem gX3_number_X3_isSpindle : GoodIn wsX3_number (va_wsS RX3 53 yX3_isSpindle wsX3_isSpindle) := goodIn_app (goodIn_of _ (by decide +kernel)) ggX3_number_X3_isSpindle
set_option maxRecDepth 20000 in
theorem ggX3_number_X3_kindOf : GoodIn wsX3_number wsX3_kindOf := goodIn_r _ [11, 2, 12, 35, 36, 37, 38, 39, 40, 41, 42, 43, 44, 45, 46, 47, 48] (by decide +kernel) (by decide +kernel)
set_option maxRecDepth 20000 in
theorem gX3_number_X3_kindOf : GoodIn wsX3_number (wsV RX3 46 RX3 yX3_kindOf wsX3_kindOf) := goodIn_app (goodIn_of _ (by decide +kernel)) ggX3_number_X3_kindOf
set_option maxRecDepth 20000 in
theorem ggX3_number_X3_isPlace : GoodIn wsX3_number wsX3_isPlace := goodIn_r _ [16, 17, 18, 19, 6, 20, 21, 2, 22, 23, 24, 25, 35, 36, 37, 38, 39, 40, 41, 42, 43, 44, 45, 46, 47, 48] (by decide +kernel) (by decide +kernel)
set_option maxRecDepth 20000 in
theorem gX3_number_X3_isPlace : GoodIn wsX3_number (wsV RX3 65 RX3 yX3_isPlace wsX3_isPlace) := goodIn_app (goodIn_of _ (by decide +kernel)) ggX3_number_X3_isPlace
set_option maxRecDepth 20000 in
theorem ggX3_number_X3_place : GoodIn wsX3_number wsX3_place := goodIn_r _ [29, 30, 2, 35, 36, 37, 38, 39, 40, 41, 42, 43, 44, 45, 46, 47, 48] (by decide +kernel) (by decide +kernel)
set_option maxRecDepth 20000 in
theorem gX3_number_X3_place : GoodIn wsX3_number (wsV RX3 79 RX3 yX3_place wsX3_place) := goodIn_app (goodIn_of _ (by decide +kernel)) ggX3_number_X3_place
set_option maxRecDepth 20000 in
theorem ggX3_number_X3_isRack : GoodIn wsX3_number wsX3_isRack := goodIn_r _ [34, 8, 9, 10, 6, 11, 2, 12, 35, 36, 37, 38, 39, 40, 41, 42, 43, 44, 45, 46, 47, 48] (by decide +kernel) (by decide +kernel)
set_option maxRecDepth 20000 in
theorem gX3_number_X3_isRack : GoodIn wsX3_number (wsV RX3 102 RX3 yX3_isRack wsX3_isRack) := goodIn_app (goodIn_of _ (by decide +kernel)) ggX3_number_X3_isRack
theorem dX3_number_0 : decode cX3_number 0 = .ok (.iload_n 1, 1) := by decide +kernel
theorem dX3_number_1 : decode cX3_number 1 = .ok (.invokestatic 53, 3) := by decide +kernel
theorem dX3_number_4 : decode cX3_number 4 = .ok (.ifCond .ne 5, 3) := by decide +kernel
theorem dX3_number_7 : decode cX3_number 7 = .ok (.lconst 0, 1) := by decide +kernel
theorem dX3_number_8 : decode cX3_number 8 = .ok (.lreturn, 1) := by decide +kernel
theorem dX3_number_9 : decode cX3_number 9 = .ok (.aload_n 0, 1) := by decide +kernel
theorem dX3_number_10 : decode cX3_number 10 = .ok (.iload_n 1, 1) := by decide +kernel
theorem dX3_number_11 : decode cX3_number 11 = .ok (.invokevirtual 46, 3) := by decide +kernel
theorem dX3_number_14 : decode cX3_number 14 = .ok (.iconst 1, 1) := by decide +kernel
theorem dX3_number_15 : decode cX3_number 15 = .ok (.if_icmp .ne 18, 3) := by decide +kernel
theorem dX3_number_18 : decode cX3_number 18 = .ok (.aload_n 0, 1) := by decide +kernel
theorem dX3_number_19 : decode cX3_number 19 = .ok (.getfield 13, 3) := by decide +kernel
theorem dX3_number_22 : decode cX3_number 22 = .ok (.iconst (-1), 1) := by decide +kernel
theorem dX3_number_23 : decode cX3_number 23 = .ok (.aload_n 0, 1) := by decide +kernel
theorem dX3_number_24 : decode cX3_number 24 = .ok (.getfield 7, 3) := by decide +kernel
theorem dX3_number_27 : decode cX3_number 27 = .ok (.iload_n 1, 1) := by decide +kernel
theorem dX3_number_28 : decode cX3_number 28 = .ok (.iaload, 1) := by decide +kernel
theorem dX3_number_29 : decode cX3_number 29 = .ok (.isub, 1) := by decide +kernel
theorem dX3_number_30 : decode cX3_number 30 = .ok (.iaload, 1) := by decide +kernel
theorem dX3_number_31 : decode cX3_number 31 = .ok (.i2l, 1) := by decide +kernel
theorem dX3_number_32 : decode cX3_number 32 = .ok (.lreturn, 1) := by decide +kernel
theorem dX3_number_33 : decode cX3_number 33 = .ok (.aload_n 0, 1) := by decide +kernel
theorem dX3_number_34 : decode cX3_number 34 = .ok (.iload_n 1, 1) := by decide +kernel
theorem dX3_number_35 : decode cX3_number 35 = .ok (.iload_n 2, 1) := by decide +kernel
theorem dX3_number_36 : decode cX3_number 36 = .ok (.invokevirtual 65, 3) := by decide +kernel
theorem dX3_number_39 : decode cX3_number 39 = .ok (.ifCond .ne 5, 3) := by decide +kernel
theorem dX3_number_42 : decode cX3_number 42 = .ok (.lconst 0, 1) := by decide +kernel
theorem dX3_number_43 : decode cX3_number 43 = .ok (.lreturn, 1) := by decide +kernel
theorem dX3_number_44 : decode cX3_number 44 = .ok (.aload_n 0, 1) := by decide +kernel
theorem dX3_number_45 : decode cX3_number 45 = .ok (.iload_n 1, 1) := by decide +kernel
theorem dX3_number_46 : decode cX3_number 46 = .ok (.iload_n 2, 1) := by decide +kernel
theorem dX3_number_47 : decode cX3_number 47 = .ok (.invokevirtual 79, 3) := by decide +kernel
theorem dX3_number_50 : decode cX3_number 50 = .ok (.lstore_n 3, 1) := by decide +kernel
theorem dX3_number_51 : decode cX3_number 51 = .ok (.aload_n 0, 1) := by decide +kernel
theorem dX3_number_52 : decode cX3_number 52 = .ok (.iload_n 1, 1) := by decide +kernel
theorem dX3_number_53 : decode cX3_number 53 = .ok (.invokevirtual 102, 3) := by decide +kernel
theorem dX3_number_56 : decode cX3_number 56 = .ok (.ifCond .ne 7, 3) := by decide +kernel
theorem dX3_number_59 : decode cX3_number 59 = .ok (.lload_n 3, 1) := by decide +kernel
theorem dX3_number_60 : decode cX3_number 60 = .ok (.goto 22, 3) := by decide +kernel
theorem dX3_number_63 : decode cX3_number 63 = .ok (.lload_n 3, 1) := by decide +kernel
theorem dX3_number_64 : decode cX3_number 64 = .ok (.lconst 0, 1) := by decide +kernel
theorem dX3_number_65 : decode cX3_number 65 = .ok (.lcmp, 1) := by decide +kernel
theorem dX3_number_66 : decode cX3_number 66 = .ok (.ifCond .ne 7, 3) := by decide +kernel
theorem dX3_number_69 : decode cX3_number 69 = .ok (.lconst 0, 1) := by decide +kernel
theorem dX3_number_70 : decode cX3_number 70 = .ok (.goto 12, 3) := by decide +kernel
theorem dX3_number_73 : decode cX3_number 73 = .ok (.aload_n 0, 1) := by decide +kernel
theorem dX3_number_74 : decode cX3_number 74 = .ok (.getfield 29, 3) := by decide +kernel
theorem dX3_number_77 : decode cX3_number 77 = .ok (.lload_n 3, 1) := by decide +kernel
theorem dX3_number_78 : decode cX3_number 78 = .ok (.l2i, 1) := by decide +kernel
theorem dX3_number_79 : decode cX3_number 79 = .ok (.iconst 1, 1) := by decide +kernel
theorem dX3_number_80 : decode cX3_number 80 = .ok (.isub, 1) := by decide +kernel
theorem dX3_number_81 : decode cX3_number 81 = .ok (.laload, 1) := by decide +kernel
theorem dX3_number_82 : decode cX3_number 82 = .ok (.lreturn, 1) := by decide +kernel
set_option maxRecDepth 20000 in
theorem ggX3_show_X3_isSpindle : GoodIn wsX3_show wsX3_isSpindle := goodIn_r _ [5] (by decide +kernel) (by decide +kernel)
set_option maxRecDepth 20000 in
theorem gX3_show_X3_isSpindle : GoodIn wsX3_show (va_wsS RX3 53 yX3_isSpindle wsX3_isSpindle) := goodIn_app (goodIn_of _ (by decide +kernel)) ggX3_show_X3_isSpindle
set_option maxRecDepth 20000 in
theorem ggX3_show_X3_isRack : GoodIn wsX3_show wsX3_isRack := goodIn_r _ [9, 10, 11, 12, 4, 13, 14, 15, 30, 31, 32, 33, 34, 35, 36, 37, 38, 39, 40, 41, 42, 43] (by decide +kernel) (by decide +kernel)
set_option maxRecDepth 20000 in
theorem gX3_show_X3_isRack : GoodIn wsX3_show (wsV RX3 102 RX3 yX3_isRack wsX3_isRack) := goodIn_app (goodIn_of _ (by decide +kernel)) ggX3_show_X3_isRack
set_option maxRecDepth 20000 in
theorem ggX3_show_X3_sizeOf : GoodIn wsX3_show wsX3_sizeOf := goodIn_r _ [19, 20, 14, 21, 22, 23, 4, 24, 30, 31, 32, 33, 34, 35, 36, 37, 38, 39, 40, 41, 42, 43] (by decide +kernel) (by decide +kernel)
set_option maxRecDepth 20000 in
theorem gX3_show_X3_sizeOf : GoodIn wsX3_show (wsV RX3 50 RX3 yX3_sizeOf wsX3_sizeOf) := goodIn_app (goodIn_of _ (by decide +kernel)) ggX3_show_X3_sizeOf
set_option maxRecDepth 20000 in
theorem ggX3_show_X3_place : GoodIn wsX3_show wsX3_place := goodIn_r _ [28, 29, 14, 30, 31, 32, 33, 34, 35, 36, 37, 38, 39, 40, 41, 42, 43] (by decide +kernel) (by decide +kernel)
set_option maxRecDepth 20000 in
theorem gX3_show_X3_place : GoodIn wsX3_show (wsV RX3 79 RX3 yX3_place wsX3_place) := goodIn_app (goodIn_of _ (by decide +kernel)) ggX3_show_X3_place
theorem dX3_show_0 : decode cX3_show 0 = .ok (.iload_n 1, 1) := by decide +kernel
theorem dX3_show_1 : decode cX3_show 1 = .ok (.invokestatic 53, 3) := by decide +kernel
theorem dX3_show_4 : decode cX3_show 4 = .ok (.ifCond .ne 6, 3) := by decide +kernel
theorem dX3_show_7 : decode cX3_show 7 = .ok (.bipush (-9), 2) := by decide +kernel
theorem dX3_show_9 : decode cX3_show 9 = .ok (.ireturn, 1) := by decide +kernel
theorem dX3_show_10 : decode cX3_show 10 = .ok (.aload_n 0, 1) := by decide +kernel
theorem dX3_show_11 : decode cX3_show 11 = .ok (.iload_n 1, 1) := by decide +kernel
theorem dX3_show_12 : decode cX3_show 12 = .ok (.invokevirtual 102, 3) := by decide +kernel
theorem dX3_show_15 : decode cX3_show 15 = .ok (.ifCond .ne 5, 3) := by decide +kernel
theorem dX3_show_18 : decode cX3_show 18 = .ok (.iconst (-1), 1) := by decide +kernel
theorem dX3_show_19 : decode cX3_show 19 = .ok (.ireturn, 1) := by decide +kernel
theorem dX3_show_20 : decode cX3_show 20 = .ok (.iconst 0, 1) := by decide +kernel
theorem dX3_show_21 : decode cX3_show 21 = .ok (.istore_n 2, 1) := by decide +kernel
theorem dX3_show_22 : decode cX3_show 22 = .ok (.iconst 0, 1) := by decide +kernel
theorem dX3_show_23 : decode cX3_show 23 = .ok (.istore_n 3, 1) := by decide +kernel
theorem dX3_show_24 : decode cX3_show 24 = .ok (.iload_n 3, 1) := by decide +kernel
theorem dX3_show_25 : decode cX3_show 25 = .ok (.aload_n 0, 1) := by decide +kernel
theorem dX3_show_26 : decode cX3_show 26 = .ok (.iload_n 1, 1) := by decide +kernel
theorem dX3_show_27 : decode cX3_show 27 = .ok (.invokevirtual 50, 3) := by decide +kernel
theorem dX3_show_30 : decode cX3_show 30 = .ok (.if_icmp .ge 44, 3) := by decide +kernel
theorem dX3_show_33 : decode cX3_show 33 = .ok (.aload_n 0, 1) := by decide +kernel
theorem dX3_show_34 : decode cX3_show 34 = .ok (.iload_n 1, 1) := by decide +kernel
theorem dX3_show_35 : decode cX3_show 35 = .ok (.iload_n 3, 1) := by decide +kernel
theorem dX3_show_36 : decode cX3_show 36 = .ok (.invokevirtual 79, 3) := by decide +kernel
theorem dX3_show_39 : decode cX3_show 39 = .ok (.lconst 0, 1) := by decide +kernel
theorem dX3_show_40 : decode cX3_show 40 = .ok (.lcmp, 1) := by decide +kernel
theorem dX3_show_41 : decode cX3_show 41 = .ok (.ifCond .ne 6, 3) := by decide +kernel
theorem dX3_show_44 : decode cX3_show 44 = .ok (.goto 24, 3) := by decide +kernel
theorem dX3_show_47 : decode cX3_show 47 = .ok (.aload_n 0, 1) := by decide +kernel
theorem dX3_show_48 : decode cX3_show 48 = .ok (.getfield 32, 3) := by decide +kernel
theorem dX3_show_51 : decode cX3_show 51 = .ok (.aload_n 0, 1) := by decide +kernel
theorem dX3_show_52 : decode cX3_show 52 = .ok (.iload_n 1, 1) := by decide +kernel
theorem dX3_show_53 : decode cX3_show 53 = .ok (.iload_n 3, 1) := by decide +kernel
theorem dX3_show_54 : decode cX3_show 54 = .ok (.invokevirtual 79, 3) := by decide +kernel
theorem dX3_show_57 : decode cX3_show 57 = .ok (.l2i, 1) := by decide +kernel
theorem dX3_show_58 : decode cX3_show 58 = .ok (.iconst 1, 1) := by decide +kernel
theorem dX3_show_59 : decode cX3_show 59 = .ok (.isub, 1) := by decide +kernel
theorem dX3_show_60 : decode cX3_show 60 = .ok (.dup2, 1) := by decide +kernel
theorem dX3_show_61 : decode cX3_show 61 = .ok (.iaload, 1) := by decide +kernel
theorem dX3_show_62 : decode cX3_show 62 = .ok (.iconst 1, 1) := by decide +kernel
theorem dX3_show_63 : decode cX3_show 63 = .ok (.iadd, 1) := by decide +kernel
theorem dX3_show_64 : decode cX3_show 64 = .ok (.iastore, 1) := by decide +kernel
theorem dX3_show_65 : decode cX3_show 65 = .ok (.iinc 2 1, 3) := by decide +kernel
theorem dX3_show_68 : decode cX3_show 68 = .ok (.iinc 3 1, 3) := by decide +kernel
theorem dX3_show_71 : decode cX3_show 71 = .ok (.goto (-47), 3) := by decide +kernel
theorem dX3_show_74 : decode cX3_show 74 = .ok (.iload_n 2, 1) := by decide +kernel
theorem dX3_show_75 : decode cX3_show 75 = .ok (.ireturn, 1) := by decide +kernel
set_option maxRecDepth 20000 in
theorem ggX3_shown_X3_isSpindle : GoodIn wsX3_shown wsX3_isSpindle := goodIn_r _ [5] (by decide +kernel) (by decide +kernel)
set_option maxRecDepth 20000 in
theorem gX3_shown_X3_isSpindle : GoodIn wsX3_shown (va_wsS RX3 53 yX3_isSpindle wsX3_isSpindle) := goodIn_app (goodIn_of _ (by decide +kernel)) ggX3_shown_X3_isSpindle
set_option maxRecDepth 20000 in
theorem ggX3_shown_X3_isRack : GoodIn wsX3_shown wsX3_isRack := goodIn_r _ [9, 10, 11, 12, 4, 13, 14, 15, 34, 35, 36, 37, 38, 39, 40, 41, 42, 43, 44, 45, 46, 47] (by decide +kernel) (by decide +kernel)
set_option maxRecDepth 20000 in
theorem gX3_shown_X3_isRack : GoodIn wsX3_shown (wsV RX3 102 RX3 yX3_isRack wsX3_isRack) := goodIn_app (goodIn_of _ (by decide +kernel)) ggX3_shown_X3_isRack
set_option maxRecDepth 20000 in
theorem ggX3_shown_X3_isPlace : GoodIn wsX3_shown wsX3_isPlace := goodIn_r _ [19, 20, 21, 22, 4, 23, 24, 14, 25, 26, 27, 28, 34, 35, 36, 37, 38, 39, 40, 41, 42, 43, 44, 45, 46, 47] (by decide +kernel) (by decide +kernel)
set_option maxRecDepth 20000 in
theorem gX3_shown_X3_isPlace : GoodIn wsX3_shown (wsV RX3 65 RX3 yX3_isPlace wsX3_isPlace) := goodIn_app (goodIn_of _ (by decide +kernel)) ggX3_shown_X3_isPlace
set_option maxRecDepth 20000 in
theorem ggX3_shown_X3_place : GoodIn wsX3_shown wsX3_place := goodIn_r _ [32, 33, 14, 34, 35, 36, 37, 38, 39, 40, 41, 42, 43, 44, 45, 46, 47] (by decide +kernel) (by decide +kernel)
set_option maxRecDepth 20000 in
theorem gX3_shown_X3_place : GoodIn wsX3_shown (wsV RX3 79 RX3 yX3_place wsX3_place) := goodIn_app (goodIn_of _ (by decide +kernel)) ggX3_shown_X3_place
theorem dX3_shown_0 : decode cX3_shown 0 = .ok (.iload_n 1, 1) := by decide +kernel
theorem dX3_shown_1 : decode cX3_shown 1 = .ok (.invokestatic 53, 3) := by decide +kernel
theorem dX3_shown_4 : decode cX3_shown 4 = .ok (.ifCond .ne 6, 3) := by decide +kernel
theorem dX3_shown_7 : decode cX3_shown 7 = .ok (.bipush (-9), 2) := by decide +kernel
theorem dX3_shown_9 : decode cX3_shown 9 = .ok (.ireturn, 1) := by decide +kernel
theorem dX3_shown_10 : decode cX3_shown 10 = .ok (.aload_n 0, 1) := by decide +kernel
theorem dX3_shown_11 : decode cX3_shown 11 = .ok (.iload_n 1, 1) := by decide +kernel
theorem dX3_shown_12 : decode cX3_shown 12 = .ok (.invokevirtual 102, 3) := by decide +kernel
theorem dX3_shown_15 : decode cX3_shown 15 = .ok (.ifCond .eq 40, 3) := by decide +kernel
theorem dX3_shown_18 : decode cX3_shown 18 = .ok (.aload_n 0, 1) := by decide +kernel
theorem dX3_shown_19 : decode cX3_shown 19 = .ok (.iload_n 1, 1) := by decide +kernel
theorem dX3_shown_20 : decode cX3_shown 20 = .ok (.iload_n 2, 1) := by decide +kernel
theorem dX3_shown_21 : decode cX3_shown 21 = .ok (.invokevirtual 65, 3) := by decide +kernel
theorem dX3_shown_24 : decode cX3_shown 24 = .ok (.ifCond .eq 31, 3) := by decide +kernel
theorem dX3_shown_27 : decode cX3_shown 27 = .ok (.aload_n 0, 1) := by decide +kernel
theorem dX3_shown_28 : decode cX3_shown 28 = .ok (.iload_n 1, 1) := by decide +kernel
theorem dX3_shown_29 : decode cX3_shown 29 = .ok (.iload_n 2, 1) := by decide +kernel
theorem dX3_shown_30 : decode cX3_shown 30 = .ok (.invokevirtual 79, 3) := by decide +kernel
theorem dX3_shown_33 : decode cX3_shown 33 = .ok (.lconst 0, 1) := by decide +kernel
theorem dX3_shown_34 : decode cX3_shown 34 = .ok (.lcmp, 1) := by decide +kernel
theorem dX3_shown_35 : decode cX3_shown 35 = .ok (.ifCond .eq 20, 3) := by decide +kernel
theorem dX3_shown_38 : decode cX3_shown 38 = .ok (.aload_n 0, 1) := by decide +kernel
theorem dX3_shown_39 : decode cX3_shown 39 = .ok (.getfield 32, 3) := by decide +kernel
theorem dX3_shown_42 : decode cX3_shown 42 = .ok (.aload_n 0, 1) := by decide +kernel
theorem dX3_shown_43 : decode cX3_shown 43 = .ok (.iload_n 1, 1) := by decide +kernel
theorem dX3_shown_44 : decode cX3_shown 44 = .ok (.iload_n 2, 1) := by decide +kernel
theorem dX3_shown_45 : decode cX3_shown 45 = .ok (.invokevirtual 79, 3) := by decide +kernel
theorem dX3_shown_48 : decode cX3_shown 48 = .ok (.l2i, 1) := by decide +kernel
theorem dX3_shown_49 : decode cX3_shown 49 = .ok (.iconst 1, 1) := by decide +kernel
theorem dX3_shown_50 : decode cX3_shown 50 = .ok (.isub, 1) := by decide +kernel
theorem dX3_shown_51 : decode cX3_shown 51 = .ok (.iaload, 1) := by decide +kernel
theorem dX3_shown_52 : decode cX3_shown 52 = .ok (.goto 4, 3) := by decide +kernel
theorem dX3_shown_55 : decode cX3_shown 55 = .ok (.iconst (-1), 1) := by decide +kernel
theorem dX3_shown_56 : decode cX3_shown 56 = .ok (.ireturn, 1) := by decide +kernel
set_option maxRecDepth 20000 in
theorem ggX3_same_X3_isSpindle : GoodIn wsX3_same wsX3_isSpindle := goodIn_r _ [5] (by decide +kernel) (by decide +kernel)
set_option maxRecDepth 20000 in
theorem gX3_same_X3_isSpindle : GoodIn wsX3_same (va_wsS RX3 53 yX3_isSpindle wsX3_isSpindle) := goodIn_app (goodIn_of _ (by decide +kernel)) ggX3_same_X3_isSpindle
set_option maxRecDepth 20000 in
theorem ggX3_same_X3_isRack : GoodIn wsX3_same wsX3_isRack := goodIn_r _ [9, 10, 11, 12, 4, 13, 1, 14, 33, 34, 35, 36, 37, 38, 39, 40, 41, 42, 43, 44, 45, 46] (by decide +kernel) (by decide +kernel)
set_option maxRecDepth 20000 in
theorem gX3_same_X3_isRack : GoodIn wsX3_same (wsV RX3 102 RX3 yX3_isRack wsX3_isRack) := goodIn_app (goodIn_of _ (by decide +kernel)) ggX3_same_X3_isRack
set_option maxRecDepth 20000 in
theorem ggX3_same_X3_isPlace : GoodIn wsX3_same wsX3_isPlace := goodIn_r _ [18, 19, 20, 21, 4, 22, 23, 1, 24, 25, 26, 27, 33, 34, 35, 36, 37, 38, 39, 40, 41, 42, 43, 44, 45, 46] (by decide +kernel) (by decide +kernel)
set_option maxRecDepth 20000 in
theorem gX3_same_X3_isPlace : GoodIn wsX3_same (wsV RX3 65 RX3 yX3_isPlace wsX3_isPlace) := goodIn_app (goodIn_of _ (by decide +kernel)) ggX3_same_X3_isPlace
set_option maxRecDepth 20000 in
theorem ggX3_same_X3_place : GoodIn wsX3_same wsX3_place := goodIn_r _ [31, 32, 1, 33, 34, 35, 36, 37, 38, 39, 40, 41, 42, 43, 44, 45, 46] (by decide +kernel) (by decide +kernel)
set_option maxRecDepth 20000 in
theorem gX3_same_X3_place : GoodIn wsX3_same (wsV RX3 79 RX3 yX3_place wsX3_place) := goodIn_app (goodIn_of _ (by decide +kernel)) ggX3_same_X3_place
theorem dX3_same_0 : decode cX3_same 0 = .ok (.iload_n 1, 1) := by decide +kernel
theorem dX3_same_1 : decode cX3_same 1 = .ok (.invokestatic 53, 3) := by decide +kernel
theorem dX3_same_4 : decode cX3_same 4 = .ok (.ifCond .eq 10, 3) := by decide +kernel
theorem dX3_same_7 : decode cX3_same 7 = .ok (.iload_n 3, 1) := by decide +kernel
theorem dX3_same_8 : decode cX3_same 8 = .ok (.invokestatic 53, 3) := by decide +kernel
theorem dX3_same_11 : decode cX3_same 11 = .ok (.ifCond .ne 6, 3) := by decide +kernel
theorem dX3_same_14 : decode cX3_same 14 = .ok (.bipush (-9), 2) := by decide +kernel
theorem dX3_same_16 : decode cX3_same 16 = .ok (.ireturn, 1) := by decide +kernel
theorem dX3_same_17 : decode cX3_same 17 = .ok (.iload_n 2, 1) := by decide +kernel
theorem dX3_same_18 : decode cX3_same 18 = .ok (.ifCond .ge 38, 3) := by decide +kernel
theorem dX3_same_21 : decode cX3_same 21 = .ok (.iload 4, 2) := by decide +kernel
theorem dX3_same_23 : decode cX3_same 23 = .ok (.ifCond .ge 33, 3) := by decide +kernel
theorem dX3_same_26 : decode cX3_same 26 = .ok (.aload_n 0, 1) := by decide +kernel
theorem dX3_same_27 : decode cX3_same 27 = .ok (.getfield 7, 3) := by decide +kernel
theorem dX3_same_30 : decode cX3_same 30 = .ok (.iload_n 1, 1) := by decide +kernel
theorem dX3_same_31 : decode cX3_same 31 = .ok (.iaload, 1) := by decide +kernel
theorem dX3_same_32 : decode cX3_same 32 = .ok (.ifCond .eq 22, 3) := by decide +kernel
theorem dX3_same_35 : decode cX3_same 35 = .ok (.aload_n 0, 1) := by decide +kernel
theorem dX3_same_36 : decode cX3_same 36 = .ok (.getfield 7, 3) := by decide +kernel
theorem dX3_same_39 : decode cX3_same 39 = .ok (.iload_n 1, 1) := by decide +kernel
theorem dX3_same_40 : decode cX3_same 40 = .ok (.iaload, 1) := by decide +kernel
theorem dX3_same_41 : decode cX3_same 41 = .ok (.aload_n 0, 1) := by decide +kernel
theorem dX3_same_42 : decode cX3_same 42 = .ok (.getfield 7, 3) := by decide +kernel
theorem dX3_same_45 : decode cX3_same 45 = .ok (.iload_n 3, 1) := by decide +kernel
theorem dX3_same_46 : decode cX3_same 46 = .ok (.iaload, 1) := by decide +kernel
theorem dX3_same_47 : decode cX3_same 47 = .ok (.if_icmp .ne 7, 3) := by decide +kernel
theorem dX3_same_50 : decode cX3_same 50 = .ok (.iconst 1, 1) := by decide +kernel
theorem dX3_same_51 : decode cX3_same 51 = .ok (.goto 4, 3) := by decide +kernel
theorem dX3_same_54 : decode cX3_same 54 = .ok (.iconst 0, 1) := by decide +kernel
theorem dX3_same_55 : decode cX3_same 55 = .ok (.ireturn, 1) := by decide +kernel
theorem dX3_same_56 : decode cX3_same 56 = .ok (.aload_n 0, 1) := by decide +kernel
theorem dX3_same_57 : decode cX3_same 57 = .ok (.iload_n 1, 1) := by decide +kernel
theorem dX3_same_58 : decode cX3_same 58 = .ok (.invokevirtual 102, 3) := by decide +kernel
theorem dX3_same_61 : decode cX3_same 61 = .ok (.ifCond .eq 30, 3) := by decide +kernel
theorem dX3_same_64 : decode cX3_same 64 = .ok (.aload_n 0, 1) := by decide +kernel
theorem dX3_same_65 : decode cX3_same 65 = .ok (.iload_n 3, 1) := by decide +kernel
theorem dX3_same_66 : decode cX3_same 66 = .ok (.invokevirtual 102, 3) := by decide +kernel
theorem dX3_same_69 : decode cX3_same 69 = .ok (.ifCond .eq 22, 3) := by decide +kernel
theorem dX3_same_72 : decode cX3_same 72 = .ok (.aload_n 0, 1) := by decide +kernel
theorem dX3_same_73 : decode cX3_same 73 = .ok (.iload_n 1, 1) := by decide +kernel
theorem dX3_same_74 : decode cX3_same 74 = .ok (.iload_n 2, 1) := by decide +kernel
theorem dX3_same_75 : decode cX3_same 75 = .ok (.invokevirtual 65, 3) := by decide +kernel
theorem dX3_same_78 : decode cX3_same 78 = .ok (.ifCond .eq 13, 3) := by decide +kernel
theorem dX3_same_81 : decode cX3_same 81 = .ok (.aload_n 0, 1) := by decide +kernel
theorem dX3_same_82 : decode cX3_same 82 = .ok (.iload_n 3, 1) := by decide +kernel
theorem dX3_same_83 : decode cX3_same 83 = .ok (.iload 4, 2) := by decide +kernel
theorem dX3_same_85 : decode cX3_same 85 = .ok (.invokevirtual 65, 3) := by decide +kernel
theorem dX3_same_88 : decode cX3_same 88 = .ok (.ifCond .ne 5, 3) := by decide +kernel
theorem dX3_same_91 : decode cX3_same 91 = .ok (.iconst 0, 1) := by decide +kernel
theorem dX3_same_92 : decode cX3_same 92 = .ok (.ireturn, 1) := by decide +kernel
theorem dX3_same_93 : decode cX3_same 93 = .ok (.aload_n 0, 1) := by decide +kernel
theorem dX3_same_94 : decode cX3_same 94 = .ok (.iload_n 1, 1) := by decide +kernel
theorem dX3_same_95 : decode cX3_same 95 = .ok (.iload_n 2, 1) := by decide +kernel
theorem dX3_same_96 : decode cX3_same 96 = .ok (.invokevirtual 79, 3) := by decide +kernel
theorem dX3_same_99 : decode cX3_same 99 = .ok (.lconst 0, 1) := by decide +kernel
theorem dX3_same_100 : decode cX3_same 100 = .ok (.lcmp, 1) := by decide +kernel
theorem dX3_same_101 : decode cX3_same 101 = .ok (.ifCond .eq 24, 3) := by decide +kernel
theorem dX3_same_104 : decode cX3_same 104 = .ok (.aload_n 0, 1) := by decide +kernel
theorem dX3_same_105 : decode cX3_same 105 = .ok (.iload_n 1, 1) := by decide +kernel
theorem dX3_same_106 : decode cX3_same 106 = .ok (.iload_n 2, 1) := by decide +kernel
theorem dX3_same_107 : decode cX3_same 107 = .ok (.invokevirtual 79, 3) := by decide +kernel
theorem dX3_same_110 : decode cX3_same 110 = .ok (.aload_n 0, 1) := by decide +kernel
theorem dX3_same_111 : decode cX3_same 111 = .ok (.iload_n 3, 1) := by decide +kernel
theorem dX3_same_112 : decode cX3_same 112 = .ok (.iload 4, 2) := by decide +kernel
theorem dX3_same_114 : decode cX3_same 114 = .ok (.invokevirtual 79, 3) := by decide +kernel
theorem dX3_same_117 : decode cX3_same 117 = .ok (.lcmp, 1) := by decide +kernel
theorem dX3_same_118 : decode cX3_same 118 = .ok (.ifCond .ne 7, 3) := by decide +kernel
theorem dX3_same_121 : decode cX3_same 121 = .ok (.iconst 1, 1) := by decide +kernel
theorem dX3_same_122 : decode cX3_same 122 = .ok (.goto 4, 3) := by decide +kernel
theorem dX3_same_125 : decode cX3_same 125 = .ok (.iconst 0, 1) := by decide +kernel
theorem dX3_same_126 : decode cX3_same 126 = .ok (.ireturn, 1) := by decide +kernel
end
section
/-! ===== the world as a map: what lies at an address ===== -/
def mw (D : va_G) (A : Nat → Prop) (M : Nat → Option va_E) (H : Heap) : Prop :=
  ∃ (L : List Nat) (f : Nat → va_E), (∀ a, M a = if a ∈ L then some (f a) else none) ∧ va_P D vwCl (va_pl L f) H ∧ va_D A (va_pl L f)
theorem mw_mem {L : List Nat} {f : Nat → va_E} {M : Nat → Option va_E} (hM : ∀ a, M a = if a ∈ L then some (f a) else none) {a : Nat} {x : va_E} (he : M a = some x) : a ∈ L ∧ f a = x := by
  rw [hM a] at he
  by_cases h : a ∈ L
  · rw [if_pos h] at he
    exact ⟨h, Option.some.inj he⟩
  · rw [if_neg h] at he
    cases he
theorem mw_get_ix {L : List Nat} {f : Nat → va_E} {a : Nat} (h : a ∈ L) : ∃ k : Nat, (va_pl L f)[k]? = some (a, f a) := by
  obtain ⟨k, hk⟩ := va_pl_get (X := []) (f := f) h
  exact ⟨k, hk⟩
theorem mw_set_ix {A : Nat → Prop} {L : List Nat} {f : Nat → va_E} {a k : Nat} {e : va_E} (hD : va_D A (va_pl L f)) (h : a ∈ L) (hk : (va_pl L f)[k]? = some (a, f a)) : (va_pl L f).set k (a, e) = va_pl L (va_up f a e) :=
  va_pl_set (X := []) hD h hk
theorem mw.at {D : va_G} {A : Nat → Prop} {M : Nat → Option va_E} {H : Heap} {a : Nat} {x : va_E} (h : mw D A M H) (he : M a = some x) : va_at D vwCl (a, x) H ∧ A a := by
  obtain ⟨L, f, hM, hP, hD⟩ := h
  obtain ⟨h1, h2⟩ := mw_mem hM he
  obtain ⟨k, hk⟩ := mw_get_ix (f := f) h1
  subst h2
  exact ⟨hP k _ hk, hD.2 k _ hk⟩
theorem mw.one {D : va_G} {A : Nat → Prop} {M : Nat → Option va_E} {H : Heap} {a : Nat} {x : va_E} (h : mw D A M H) (he : M a = some x) : va_P D vwCl [(a, x)] H := by
  intro k q hq
  have hz : k < 1 := (List.getElem?_eq_some_iff.mp hq).1
  rw [show k = 0 by omega] at hq
  cases hq
  exact (h.at he).1
theorem mw.lt {D : va_G} {A : Nat → Prop} {M : Nat → Option va_E} {H : Heap} {a : Nat} {x : va_E} (h : mw D A M H) (he : M a = some x) : a < H.size := (h.at he).1.lt
theorem mw.new {D : va_G} {A : Nat → Prop} {M : Nat → Option va_E} {H : Heap} (h : mw D A M H) : M H.size = none := by
  cases hx : M H.size with
  | none => rfl
  | some x => exact absurd (h.lt hx) (Nat.lt_irrefl _)
theorem mw.weaken {D : va_G} {A B : Nat → Prop} {M : Nat → Option va_E} {H : Heap} (h : mw D A M H) (hAB : ∀ q, M q ≠ none → A q → B q) : mw D B M H := by
  obtain ⟨L, f, hM, hP, hD⟩ := h
  refine ⟨L, f, hM, hP, hD.weaken (fun k q hk => hAB q.1 ?_)⟩
  obtain ⟨b, hb, rfl⟩ := List.mem_map.mp (List.mem_of_getElem? hk)
  rw [hM b, if_pos hb]
  exact fun z => by cases z
theorem mw.kept {D : va_G} {A : Nat → Prop} {M : Nat → Option va_E} {H H1 : Heap} (h : mw D A M H) (hq : ∀ q, M q ≠ none → H1[q]? = H[q]?) : mw D A M H1 := by
  obtain ⟨L, f, hM, hP, hD⟩ := h
  refine ⟨L, f, hM, hP.kept (fun k q hk => hq q.1 ?_), hD⟩
  obtain ⟨b, hb, rfl⟩ := List.mem_map.mp (List.mem_of_getElem? hk)
  rw [hM b, if_pos hb]
  exact fun z => by cases z
theorem mw.eqv {D : va_G} {A : Nat → Prop} {M M' : Nat → Option va_E} {H : Heap} (h : mw D A M H) (e : ∀ a, M a = M' a) : mw D A M' H := by
  have := funext e
  subst this
  exact h
/-- where a method may write -/
def mwA (M : Nat → Option va_E) (sz : Nat) : Nat → Prop := fun q => M q ≠ none ∨ sz ≤ q
theorem mw.self {D : va_G} {A : Nat → Prop} {M : Nat → Option va_E} {H : Heap} {sz : Nat} (h : mw D A M H) : mw D (mwA M sz) M H := h.weaken (fun _ h1 _ => Or.inl h1)
def kO (U : State) : Prop := va_AO RX0 U ∧ va_AO RX1 U
theorem kO.moved {u U : State} (hvm : u.vm.Alike U.vm) (h : kO u) : kO U := ⟨va_AO.moved hvm h.1, va_AO.moved hvm h.2⟩
def mwPre (D : va_G) (tys : List (ClassId × FieldType)) (M : Nat → Option va_E) (sz : Nat) : State → Prop := fun U => U.heap.size = sz ∧ mw D (fun _ => True) M U.heap ∧ va_K D vwCl tys U ∧ kO U
def mwB (D : va_G) (tys : List (ClassId × FieldType)) (M : Nat → Option va_E) (sz : Nat) : (Nat → Option va_E) → State → Prop := fun M' t => mw D (mwA M sz) M' t.heap ∧ va_K D vwCl tys t
theorem mw_blind {D : va_G} {tys : List (ClassId × FieldType)} {M : Nat → Option va_E} {sz : Nat} {av : List Value} : FrameBlind (va_Pc av (mwPre D tys M sz)) := fun a U g mk q => by
  obtain ⟨q0, q1, q2, q3, q4⟩ := q
  exact ⟨q0, q1, q2, va_K.moved (u := U) (U := U.calling g mk a) (Vm.Alike.refl U.vm) q3, kO.moved (u := U) (U := U.calling g mk a) (Vm.Alike.refl U.vm) q4⟩
theorem mw_prS {D : va_G} {tys : List (ClassId × FieldType)} {M : Nat → Option va_E} {A : Nat → Prop} {s : State} {H : Heap} {As : List Value} (hK : va_K D vwCl tys s) (hO : kO s) (hW : mw D A M H) : PreS s H (va_Pc As (mwPre D tys M H.size)) As :=
  ⟨mw_blind, fun U hU hw => ⟨rfl, by rw [hU], by rw [hU]; exact hW.weaken (fun _ _ _ => trivial), va_K.moved hw.alike hK, hO.moved hw.alike⟩⟩
theorem mw_recv {D : va_G} {tys : List (ClassId × FieldType)} {M : Nat → Option va_E} {A : Nat → Prop} {s : State} {H : Heap} {b ci : Nat} {q : vw_C} {fs : List Value} (hK : va_K D vwCl tys s) (hW : mw D A M H) (hc : vwCl[ci]? = some q) (he : M b = some (.inr (ci, fs))) : ∃ cell : Cell, H[b]? = some cell ∧ cell.vm.isStatics = false ∧ s.vm.findClass q.1 = some cell.cls :=
  va_recv hK (hW.one he) hc (q0 := 0) rfl
theorem mw_prV {D : va_G} {tys : List (ClassId × FieldType)} {M : Nat → Option va_E} {A : Nat → Prop} {s : State} {H : Heap} {As : List Value} {b ci : Nat} {q : vw_C} {fs : List Value} (hK : va_K D vwCl tys s) (hO : kO s) (hW : mw D A M H) (hc : vwCl[ci]? = some q) (he : M b = some (.inr (ci, fs))) : PreV s H q.1 b (va_Pc (.ref b :: As) (mwPre D tys M H.size)) As :=
  ⟨mw_blind, mw_recv hK hW hc he, (mw_prS hK hO hW).2⟩
section MWR
variable {p : Program} {l : Launch} {e : Env} {R : Room} {s : State} {m : MethodId} {args : Array Value} {below : List Frame} {meth : Method} {c : Code} {H : Heap} {locs : List Loc} {cells slots : Nat} {Q : State → Prop}
variable {cc : ByteArray} {nL : Nat} {Ts : List Cond} {own : String} {pc : Nat} {ls : Array Slot} {rest : List Value} {D : va_G} {A : Nat → Prop} {a : Nat} {tys : List (ClassId × FieldType)} {M : Nat → Option va_E} {H0 : Heap}
theorem mw_get (F : CallFix p m c cc nL s args Ts own) (hK : va_K D vwCl tys s) (hW : mw D A M H) {C : String} {T : u_T} {N ci index : Nat} (hin : ∀ w ∈ u_ws C T N, w ∈ Ts) {fs : List Value} (he : M a = some (.inr (ci, fs))) (hc : vwCl[ci]? = some (C, T, N)) (k : Nat) (hk : k < N) (hlink : (Cond.fieldLink own index (T k).1 (T k).2.1 (T k).2.2.1).before args s = true) {v : Value} (hv : fs[k]? = some v) (hdg : decode cc pc = .ok (.getfield index, 3))
    (kk : W p l e R s m args below meth c H locs cells slots Q (F0 m (pc + 3) ls (v :: rest))) : W p l e R s m args below meth c H locs cells slots Q (F0 m pc ls (.ref a :: rest)) :=
  va_get F.1 F.2.1 F.2.2.2.2 hin F.2.2.2.1 hK (hW.one he) 0 rfl hc k hk hlink (fun _ h => h) hv hdg kk
theorem mw_put (F : CallFix p m c cc nL s args Ts own) (hK : va_K D vwCl tys s) (hW : mw D A M H) (hS : va_S A H0 H locs) {C : String} {T : u_T} {N ci index : Nat} (hin : ∀ w ∈ u_ws C T N, w ∈ Ts) (ty0 : Nat → FieldType) (hty : ∀ k, k < N → parseFieldDescriptor (T k).2.2.1 = some (ty0 k)) (hnm : ∀ a, a < N → ∀ b, b < N → a ≠ b → (T a).2.1 ≠ (T b).2.1) {fs : List Value} (he : M a = some (.inr (ci, fs))) (hc : vwCl[ci]? = some (C, T, N)) (k : Nat) (hk : k < N) (hlink : (Cond.fieldLink own index (T k).1 (T k).2.1 (T k).2.2.1).before args s = true) (hfin : (T k).2.2.2 = false) {v : Value} (hn : narrow (ty0 k) v = v) (hfit : fits (ty0 k) v = true) (hl : k < fs.length) (hdg : decode cc pc = .ok (.putfield index, 3))
    (kk : ∀ (H1 : Heap) (locs1 : List Loc), mw D A (va_up M a (some (.inr (ci, fs.set k v)))) H1 → va_S A H0 H1 locs1 → W p l e R s m args below meth c H1 locs1 cells slots Q (F0 m (pc + 3) ls rest)) : W p l e R s m args below meth c H locs cells slots Q (F0 m pc ls (v :: .ref a :: rest)) := by
  obtain ⟨L, f, hM, hP, hD⟩ := hW
  obtain ⟨h1, h2⟩ := mw_mem hM he
  obtain ⟨q, hq⟩ := mw_get_ix (f := f) h1
  refine va_put F.1 F.2.1 F.2.2.2.2 hin ty0 hty hnm F.2.2.2.1 hK hP hD hS q (by rw [← h2]; exact hq) hc k hk hlink (fun _ h => h) hfin (hty k hk) hn hfit hl hdg (fun H1 locs1 hP1 hD1 hS1 => kk H1 locs1 ⟨L, _, fun b => ?_, by rw [mw_set_ix hD h1 hq] at hP1; exact hP1, by rw [mw_set_ix hD h1 hq] at hD1; exact hD1⟩ hS1)
  by_cases hb : b = a
  · subst hb
    rw [va_up_self, va_up_self, if_pos h1]
  · rw [va_up_ne _ _ hb, va_up_ne _ _ hb]
    exact hM b
theorem mw_putF (F : CallFix p m c cc nL s args Ts own) (hK : va_K D vwCl tys s) (hW : mw D A M H) (hS : va_S A H0 H locs) {C : String} {T : u_T} {N ci index : Nat} (hin : ∀ w ∈ u_ws C T N, w ∈ Ts) (ty0 : Nat → FieldType) (hty : ∀ k, k < N → parseFieldDescriptor (T k).2.2.1 = some (ty0 k)) (hnm : ∀ a, a < N → ∀ b, b < N → a ≠ b → (T a).2.1 ≠ (T b).2.1) {fs : List Value} (he : M a = some (.inr (ci, fs))) (hc : vwCl[ci]? = some (C, T, N)) (k : Nat) (hk : k < N) (hlink : (Cond.fieldLink own index (T k).1 (T k).2.1 (T k).2.2.1).before args s = true) (hfin : (T k).2.2.2 = true) (hin2 : meth.name = "<init>") (hdecl : (T k).1 = own) {v : Value} (hn : narrow (ty0 k) v = v) (hfit : fits (ty0 k) v = true) (hl : k < fs.length) (hdg : decode cc pc = .ok (.putfield index, 3))
    (kk : ∀ (H1 : Heap) (locs1 : List Loc), mw D A (va_up M a (some (.inr (ci, fs.set k v)))) H1 → va_S A H0 H1 locs1 → W p l e R s m args below meth c H1 locs1 cells slots Q (F0 m (pc + 3) ls rest)) : W p l e R s m args below meth c H locs cells slots Q (F0 m pc ls (v :: .ref a :: rest)) := by
  obtain ⟨L, f, hM, hP, hD⟩ := hW
  obtain ⟨h1, h2⟩ := mw_mem hM he
  obtain ⟨q, hq⟩ := mw_get_ix (f := f) h1
  refine va_putF F.1 F.2.1 F.2.2.2.2 hin ty0 hty hnm F.2.2.2.1 hK hP hD hS q (by rw [← h2]; exact hq) hc k hk hlink (fun _ h => h) hfin hin2 hdecl (hty k hk) hn hfit hl hdg (fun H1 locs1 hP1 hD1 hS1 => kk H1 locs1 ⟨L, _, fun b => ?_, by rw [mw_set_ix hD h1 hq] at hP1; exact hP1, by rw [mw_set_ix hD h1 hq] at hD1; exact hD1⟩ hS1)
  by_cases hb : b = a
  · subst hb
    rw [va_up_self, va_up_self, if_pos h1]
  · rw [va_up_ne _ _ hb, va_up_ne _ _ hb]
    exact hM b
theorem mw_iald (F : CallFix p m c cc nL s args Ts own) (hK : va_K D vwCl tys s) (hW : mw D A M H) (t0 : Nat) {cA : ClassId} {n : Nat} {f : Nat → Int32} (he : M a = some (.inl (cA, n, .inl f))) (ht : tys[t0]? = some (cA, .int)) {i : Int32} (hin : vp_in i n) (hdg : decode cc pc = .ok (.iaload, 1))
    (kk : W p l e R s m args below meth c H locs cells slots Q (F0 m (pc + 1) ls (.int (f i.toNatClampNeg) :: rest))) : W p l e R s m args below meth c H locs cells slots Q (F0 m pc ls (.int i :: .ref a :: rest)) :=
  va_iald F.1 F.2.1 hK (hW.one he) 0 t0 rfl ht hin hdg kk
theorem mw_lald (F : CallFix p m c cc nL s args Ts own) (hK : va_K D vwCl tys s) (hW : mw D A M H) (t0 : Nat) {cA : ClassId} {n : Nat} {f : Nat → Int64} (he : M a = some (.inl (cA, n, .inr (.inl f)))) (ht : tys[t0]? = some (cA, .long)) {i : Int32} (hin : vp_in i n) (hdg : decode cc pc = .ok (.laload, 1))
    (kk : W p l e R s m args below meth c H locs cells slots Q (F0 m (pc + 1) ls (.long (f i.toNatClampNeg) :: rest))) : W p l e R s m args below meth c H locs cells slots Q (F0 m pc ls (.int i :: .ref a :: rest)) :=
  va_lald F.1 F.2.1 hK (hW.one he) 0 t0 rfl ht hin hdg kk
theorem mw_aald (F : CallFix p m c cc nL s args Ts own) (hK : va_K D vwCl tys s) (hW : mw D A M H) (t0 : Nat) {cA : ClassId} {C : String} {n : Nat} {f : Nat → Option Nat} (he : M a = some (.inl (cA, n, .inr (.inr (.inr (.inr f)))))) (ht : tys[t0]? = some (cA, .object C)) {i : Int32} (hin : vp_in i n) (hdg : decode cc pc = .ok (.aaload, 1))
    (kk : W p l e R s m args below meth c H locs cells slots Q (F0 m (pc + 1) ls (va_rf (f i.toNatClampNeg) :: rest))) : W p l e R s m args below meth c H locs cells slots Q (F0 m pc ls (.int i :: .ref a :: rest)) :=
  va_aldq F.1 F.2.1 hK (hW.one he) 0 t0 rfl ht hin hdg kk
theorem mw_iast (F : CallFix p m c cc nL s args Ts own) (hK : va_K D vwCl tys s) (hW : mw D A M H) (hS : va_S A H0 H locs) (t0 : Nat) {cA : ClassId} {n : Nat} {f : Nat → Int32} (he : M a = some (.inl (cA, n, .inl f))) (ht : tys[t0]? = some (cA, .int)) {i x : Int32} (hin : vp_in i n) (hdg : decode cc pc = .ok (.iastore, 1))
    (kk : ∀ (H1 : Heap) (locs1 : List Loc), mw D A (va_up M a (some (.inl (cA, n, .inl (upd f i.toNatClampNeg x))))) H1 → va_S A H0 H1 locs1 → W p l e R s m args below meth c H1 locs1 cells slots Q (F0 m (pc + 1) ls rest)) : W p l e R s m args below meth c H locs cells slots Q (F0 m pc ls (.int x :: .int i :: .ref a :: rest)) := by
  obtain ⟨L, g, hM, hP, hD⟩ := hW
  obtain ⟨h1, h2⟩ := mw_mem hM he
  obtain ⟨q, hq⟩ := mw_get_ix (f := g) h1
  refine va_iast F.1 F.2.1 hK hP hD hS q t0 (by rw [← h2]; exact hq) ht hin hdg (fun H1 locs1 hP1 hD1 hS1 => kk H1 locs1 ⟨L, _, fun b => ?_, by rw [mw_set_ix hD h1 hq] at hP1; exact hP1, by rw [mw_set_ix hD h1 hq] at hD1; exact hD1⟩ hS1)
  by_cases hb : b = a
  · subst hb
    rw [va_up_self, va_up_self, if_pos h1]
  · rw [va_up_ne _ _ hb, va_up_ne _ _ hb]
    exact hM b
theorem mw_last (F : CallFix p m c cc nL s args Ts own) (hK : va_K D vwCl tys s) (hW : mw D A M H) (hS : va_S A H0 H locs) (t0 : Nat) {cA : ClassId} {n : Nat} {f : Nat → Int64} (he : M a = some (.inl (cA, n, .inr (.inl f)))) (ht : tys[t0]? = some (cA, .long)) {i : Int32} {x : Int64} (hin : vp_in i n) (hdg : decode cc pc = .ok (.lastore, 1))
    (kk : ∀ (H1 : Heap) (locs1 : List Loc), mw D A (va_up M a (some (.inl (cA, n, .inr (.inl (vp_updL f i.toNatClampNeg x)))))) H1 → va_S A H0 H1 locs1 → W p l e R s m args below meth c H1 locs1 cells slots Q (F0 m (pc + 1) ls rest)) : W p l e R s m args below meth c H locs cells slots Q (F0 m pc ls (.long x :: .int i :: .ref a :: rest)) := by
  obtain ⟨L, g, hM, hP, hD⟩ := hW
  obtain ⟨h1, h2⟩ := mw_mem hM he
  obtain ⟨q, hq⟩ := mw_get_ix (f := g) h1
  refine va_last F.1 F.2.1 hK hP hD hS q t0 (by rw [← h2]; exact hq) ht hin hdg (fun H1 locs1 hP1 hD1 hS1 => kk H1 locs1 ⟨L, _, fun b => ?_, by rw [mw_set_ix hD h1 hq] at hP1; exact hP1, by rw [mw_set_ix hD h1 hq] at hD1; exact hD1⟩ hS1)
  by_cases hb : b = a
  · subst hb
    rw [va_up_self, va_up_self, if_pos h1]
  · rw [va_up_ne _ _ hb, va_up_ne _ _ hb]
    exact hM b
theorem mw_aast (F : CallFix p m c cc nL s args Ts own) (hK : va_K D vwCl tys s) (hW : mw D A M H) (hS : va_S A H0 H locs) (t0 ci : Nat) {cA : ClassId} {r : vw_C} {n v : Nat} {vs : List Value} {f : Nat → Option Nat} (he : M a = some (.inl (cA, n, .inr (.inr (.inr (.inr f)))))) (ht : tys[t0]? = some (cA, .object r.1)) (hv : M v = some (.inr (ci, vs))) (hc : vwCl[ci]? = some r) {i : Int32} (hin : vp_in i n) (hdg : decode cc pc = .ok (.aastore, 1))
    (kk : ∀ (H1 : Heap) (locs1 : List Loc), mw D A (va_up M a (some (.inl (cA, n, .inr (.inr (.inr (.inr (va_up f i.toNatClampNeg (some v))))))))) H1 → va_S A H0 H1 locs1 → W p l e R s m args below meth c H1 locs1 cells slots Q (F0 m (pc + 1) ls rest)) : W p l e R s m args below meth c H locs cells slots Q (F0 m pc ls (.ref v :: .int i :: .ref a :: rest)) := by
  obtain ⟨L, g, hM, hP, hD⟩ := hW
  obtain ⟨h1, h2⟩ := mw_mem hM he
  obtain ⟨q, hq⟩ := mw_get_ix (f := g) h1
  obtain ⟨h3, h4⟩ := mw_mem hM hv
  obtain ⟨qv, hqv⟩ := mw_get_ix (f := g) h3
  refine va_astq F.1 F.2.1 hK hP hD hS q t0 qv ci (by rw [← h2]; exact hq) ht (by rw [← h4]; exact hqv) hc hin hdg (fun H1 locs1 hP1 hD1 hS1 => kk H1 locs1 ⟨L, _, fun b => ?_, by rw [mw_set_ix hD h1 hq] at hP1; exact hP1, by rw [mw_set_ix hD h1 hq] at hD1; exact hD1⟩ hS1)
  by_cases hb : b = a
  · subst hb
    rw [va_up_self, va_up_self, if_pos h1]
  · rw [va_up_ne _ _ hb, va_up_ne _ _ hb]
    exact hM b
theorem mw_aastN (F : CallFix p m c cc nL s args Ts own) (hK : va_K D vwCl tys s) (hW : mw D A M H) (hS : va_S A H0 H locs) (t0 : Nat) {cA : ClassId} {C : String} {n : Nat} {f : Nat → Option Nat} (he : M a = some (.inl (cA, n, .inr (.inr (.inr (.inr f)))))) (ht : tys[t0]? = some (cA, .object C)) {i : Int32} (hin : vp_in i n) (hdg : decode cc pc = .ok (.aastore, 1))
    (kk : ∀ (H1 : Heap) (locs1 : List Loc), mw D A (va_up M a (some (.inl (cA, n, .inr (.inr (.inr (.inr (va_up f i.toNatClampNeg none)))))))) H1 → va_S A H0 H1 locs1 → W p l e R s m args below meth c H1 locs1 cells slots Q (F0 m (pc + 1) ls rest)) : W p l e R s m args below meth c H locs cells slots Q (F0 m pc ls (.null :: .int i :: .ref a :: rest)) := by
  obtain ⟨L, g, hM, hP, hD⟩ := hW
  obtain ⟨h1, h2⟩ := mw_mem hM he
  obtain ⟨q, hq⟩ := mw_get_ix (f := g) h1
  refine va_astqN F.1 F.2.1 hK hP hD hS q t0 (by rw [← h2]; exact hq) ht hin hdg (fun H1 locs1 hP1 hD1 hS1 => kk H1 locs1 ⟨L, _, fun b => ?_, by rw [mw_set_ix hD h1 hq] at hP1; exact hP1, by rw [mw_set_ix hD h1 hq] at hD1; exact hD1⟩ hS1)
  by_cases hb : b = a
  · subst hb
    rw [va_up_self, va_up_self, if_pos h1]
  · rw [va_up_ne _ _ hb, va_up_ne _ _ hb]
    exact hM b
theorem mw_push {D : va_G} {A : Nat → Prop} {M : Nat → Option va_E} {H1 : Heap} {L : List Nat} {f : Nat → va_E} {q : Nat} {x : va_E} (hM : ∀ a, M a = if a ∈ L then some (f a) else none) (hq : q ∉ L) (hP : va_P D vwCl (va_pl L f ++ [(q, x)]) H1) (hD : va_D A (va_pl L f ++ [(q, x)])) : mw D A (va_up M q (some x)) H1 := by
  rw [va_pl_push hq] at hP hD
  refine ⟨L ++ [q], _, fun b => ?_, hP, hD⟩
  by_cases hb : b = q
  · subst hb
    rw [va_up_self, va_up_self, if_pos (List.mem_append_right _ (List.mem_singleton.mpr rfl))]
  · rw [va_up_ne _ _ hb, va_up_ne _ _ hb, hM b]
    simp [hb]
theorem mw_new (F : CallFix p m c cc nL s args Ts own) (hK : va_K D vwCl tys s) (hW : mw D A M H) (hS : va_S A H0 H locs) (hA : ∀ q, H0.size ≤ q → A q) {C : String} {T : u_T} {N ci index : Nat} (hin : ∀ w ∈ u_ws C T N, w ∈ Ts) (ty : Nat → FieldType) (hty : ∀ k, k < N → parseFieldDescriptor (T k).2.2.1 = some (ty k)) (hcl : (Cond.classLink own index C).before args s = true) (hinst : (Cond.instantiable C N).before args s = true) (hini : (Cond.initialized C).before args s = true) (hc : vwCl[ci]? = some (C, T, N)) {fs : List Value} (hfs : ∀ j, j < N → defaultValue (ty j) = vp_V fs j) (hcells : cells + 1 ≤ R.cells) (hslots : slots + N ≤ R.slots) (hdg : decode cc pc = .ok (.new index, 3))
    (kk : ∀ (q : Nat) (H1 : Heap), M q = none → mw D A (va_up M q (some (.inr (ci, fs)))) H1 → va_S A H0 H1 locs → W p l e R s m args below meth c H1 locs (cells + 1) (slots + N) Q (F0 m (pc + 3) ls (.ref q :: rest))) : W p l e R s m args below meth c H locs cells slots Q (F0 m pc ls rest) := by
  obtain ⟨L, g, hM, hP, hD⟩ := hW
  refine va_new F.1 F.2.1 F.2.2.2.2 hin ty hty F.2.2.2.1 hcl hinst hini hK hP hD hS hA hc hfs hcells hslots hdg (fun q H1 hP1 hD1 hS1 => ?_)
  have hq : q ∉ L := va_pl_fresh2 (X := []) hD1
  exact kk q H1 (by rw [hM q, if_neg hq]) (mw_push hM hq hP1 hD1) hS1
theorem mw_newa (F : CallFix p m c cc nL s args Ts own) (hK : va_K D vwCl tys s) (hW : mw D A M H) (hS : va_S A H0 H locs) (hA : ∀ q, H0.size ≤ q → A q) (t0 : Nat) {cA : ClassId} {atype : ArrayType} (harr : (Cond.arrayClass (newarray.typeOf atype)).before args s = true) {ty : FieldType} (hty : newarray.typeOf atype = ty) (ht : tys[t0]? = some (cA, ty)) (hprim : ∀ C, ty ≠ .object C)
    {n : Int32} {N' : Nat} {a0 : vp_A} (ha : ∀ cA : ClassId, vp_cell cA a0 = arrV cA N' (fun _ => defaultValue ty)) (hn : ¬ n < 0) (hN : n.toNatClampNeg = N') (hbytes : N' * componentBytes ty ≤ 536870912) (hcells : cells + 1 ≤ R.cells) (hslots : slots + N' ≤ R.slots) (hdg : decode cc pc = .ok (.newarray atype, 2))
    (kk : ∀ (q : Nat) (H1 : Heap), M q = none → mw D A (va_up M q (some (.inl (cA, a0)))) H1 → va_S A H0 H1 locs → W p l e R s m args below meth c H1 locs (cells + 1) (slots + N') Q (F0 m (pc + 2) ls (.ref q :: rest))) : W p l e R s m args below meth c H locs cells slots Q (F0 m pc ls (.int n :: rest)) := by
  obtain ⟨L, g, hM, hP, hD⟩ := hW
  refine va_newa F.1 F.2.1 harr hty hK hP hD hS hA ha hn hN hbytes hcells hslots hdg (fun q cA1 H1 hK1 hP1 hD1 hS1 => ?_)
  have hq : q ∉ L := va_pl_fresh2 (X := []) hD1
  have e1 : cA1 = cA := by
    have h1 := (hK1.2 tys.length (cA1, ty) (by simp)).2
    have h2 := (hK.2 t0 _ ht).2
    cases ty <;> first | exact absurd rfl (hprim _) | exact Option.some.inj (h1.symm.trans h2)
  subst e1
  exact kk q H1 (by rw [hM q, if_neg hq]) (mw_push hM hq hP1 hD1) hS1
theorem mw_newq (F : CallFix p m c cc nL s args Ts own) (hK : va_K D vwCl tys s) (hW : mw D A M H) (hS : va_S A H0 H locs) (hA : ∀ q, H0.size ≤ q → A q) (t0 : Nat) {cA : ClassId} {C : String} {index : Nat} (hclink : (Cond.classLink own index C).before args s = true) (hover : va_AO C s) (ht : tys[t0]? = some (cA, .object C))
    {n : Int32} {N' : Nat} (hn : ¬ n < 0) (hN : n.toNatClampNeg = N') (hbytes : N' * 4 ≤ 536870912) (hcells : cells + 1 ≤ R.cells) (hslots : slots + N' ≤ R.slots) (hdg : decode cc pc = .ok (.anewarray index, 3))
    (kk : ∀ (q : Nat) (H1 : Heap), M q = none → mw D A (va_up M q (some (.inl (cA, N', .inr (.inr (.inr (.inr (fun _ => none)))))))) H1 → va_S A H0 H1 locs → W p l e R s m args below meth c H1 locs (cells + 1) (slots + N') Q (F0 m (pc + 3) ls (.ref q :: rest))) : W p l e R s m args below meth c H locs cells slots Q (F0 m pc ls (.int n :: rest)) := by
  obtain ⟨L, g, hM, hP, hD⟩ := hW
  refine va_newq F.1 F.2.1 F.2.2.2.1 hclink hover hK hP hD hS hA hn hN hbytes hcells hslots hdg (fun q cA1 H1 hK1 hP1 hD1 hS1 => ?_)
  have hq : q ∉ L := va_pl_fresh2 (X := []) hD1
  have e1 : cA1 = cA := by
    obtain ⟨-, -, -, -, -, h1⟩ := (hK1.2 tys.length (cA1, .object C) (by simp)).2
    obtain ⟨-, -, -, -, -, h2⟩ := (hK.2 t0 _ ht).2
    exact Option.some.inj (h1.symm.trans h2)
  subst e1
  exact kk q H1 (by rw [hM q, if_neg hq]) (mw_push hM hq hP1 hD1) hS1
theorem mw_copyl (F : CallFix p m c cc nL s args Ts own) (hsz : ls.size = nL) (hK : va_K D vwCl tys s) (hW : mw D A M H) (hS : va_S A H0 H locs) (t0 : Nat) {index : Nat} (hlink : (Cond.methodLink own index arraycopyName).before args s = true) (hnat : (Cond.native arraycopyName).before args s = true) (hstat : (Cond.static arraycopyName).before args s = true) (hini : (Cond.initialized "java/lang/System").before args s = true) {a0 : Nat} {cA : ClassId} {n0 n1 : Nat} {f g : Nat → Int64} (he0 : M a0 = some (.inl (cA, n0, .inr (.inl f)))) (he1 : M a = some (.inl (cA, n1, .inr (.inl g)))) (ht : tys[t0]? = some (cA, .long))
    {sp dp n : Int32} (h1 : ¬ sp < 0) (h2 : ¬ dp < 0) (h3 : ¬ n < 0) (h4 : sp.toNatClampNeg + n.toNatClampNeg ≤ n0) (h5 : dp.toNatClampNeg + n.toNatClampNeg ≤ n1) (hframes : 1 ≤ R.frames) (hlocals : (rest.map fun v => v.category).sum + (nativeFrameWords "java/lang/System" "arraycopy" 5 + 11) ≤ R.locals) (hdg : decode cc pc = .ok (.invokestatic index, 3))
    (kk : ∀ (H1 : Heap) (locs1 : List Loc), mw D A (va_up M a (some (.inl (cA, n1, .inr (.inl (va_cpy f g sp.toNatClampNeg dp.toNatClampNeg n.toNatClampNeg)))))) H1 → va_S A H0 H1 locs1 → W p l e R s m args below meth c H1 locs1 cells slots Q (F0 m (pc + 3) ls rest)) : W p l e R s m args below meth c H locs cells slots Q (F0 m pc ls (.int n :: .int dp :: .ref a :: .int sp :: .ref a0 :: rest)) := by
  obtain ⟨L, gg, hM, hP, hD⟩ := hW
  obtain ⟨i1, i2⟩ := mw_mem hM he0
  obtain ⟨q0, hq0⟩ := mw_get_ix (f := gg) i1
  obtain ⟨j1, j2⟩ := mw_mem hM he1
  obtain ⟨q1, hq1⟩ := mw_get_ix (f := gg) j1
  refine va_copyl F.1 F.2.1 (F.2.2.1.trans hsz.symm) F.2.2.2.1 hlink hnat hstat hini hK hP hD hS q0 q1 t0 t0 (by rw [← i2]; exact hq0) (by rw [← j2]; exact hq1) ht ht rfl h1 h2 h3 h4 h5 (fun i _ => rfl) hframes hlocals hdg (fun H1 locs1 hP1 hD1 hS1 => kk H1 locs1 ⟨L, _, fun b => ?_, by rw [mw_set_ix hD j1 hq1] at hP1; exact hP1, by rw [mw_set_ix hD j1 hq1] at hD1; exact hD1⟩ hS1)
  by_cases hb : b = a
  · subst hb
    rw [va_up_self, va_up_self, if_pos j1]
  · rw [va_up_ne _ _ hb, va_up_ne _ _ hb]
    exact hM b
theorem mw_copyq (F : CallFix p m c cc nL s args Ts own) (hsz : ls.size = nL) (hK : va_K D vwCl tys s) (hW : mw D A M H) (hS : va_S A H0 H locs) (t0 ci : Nat) {r : vw_C} (hc : vwCl[ci]? = some r) {index : Nat} (hlink : (Cond.methodLink own index arraycopyName).before args s = true) (hnat : (Cond.native arraycopyName).before args s = true) (hstat : (Cond.static arraycopyName).before args s = true) (hini : (Cond.initialized "java/lang/System").before args s = true) {a0 : Nat} {cA : ClassId} {n0 n1 : Nat} {f g : Nat → Option Nat} (he0 : M a0 = some (.inl (cA, n0, .inr (.inr (.inr (.inr f)))))) (he1 : M a = some (.inl (cA, n1, .inr (.inr (.inr (.inr g)))))) (ht : tys[t0]? = some (cA, .object r.1))
    {sp dp n : Int32} (h1 : ¬ sp < 0) (h2 : ¬ dp < 0) (h3 : ¬ n < 0) (h4 : sp.toNatClampNeg + n.toNatClampNeg ≤ n0) (h5 : dp.toNatClampNeg + n.toNatClampNeg ≤ n1) (hel : ∀ i : Nat, i < n.toNatClampNeg → ∀ y : Nat, f (sp.toNatClampNeg + i) = some y → ∃ fs, M y = some (.inr (ci, fs))) (hframes : 1 ≤ R.frames) (hlocals : (rest.map fun v => v.category).sum + (nativeFrameWords "java/lang/System" "arraycopy" 5 + 11) ≤ R.locals) (hdg : decode cc pc = .ok (.invokestatic index, 3))
    (kk : ∀ (H1 : Heap) (locs1 : List Loc), mw D A (va_up M a (some (.inl (cA, n1, .inr (.inr (.inr (.inr (va_cpy f g sp.toNatClampNeg dp.toNatClampNeg n.toNatClampNeg)))))))) H1 → va_S A H0 H1 locs1 → W p l e R s m args below meth c H1 locs1 cells slots Q (F0 m (pc + 3) ls rest)) : W p l e R s m args below meth c H locs cells slots Q (F0 m pc ls (.int n :: .int dp :: .ref a :: .int sp :: .ref a0 :: rest)) := by
  have hW0 := hW
  obtain ⟨L, gg, hM, hP, hD⟩ := hW
  obtain ⟨i1, i2⟩ := mw_mem hM he0
  obtain ⟨q0, hq0⟩ := mw_get_ix (f := gg) i1
  obtain ⟨j1, j2⟩ := mw_mem hM he1
  obtain ⟨q1, hq1⟩ := mw_get_ix (f := gg) j1
  refine va_copyq (C := r.1) F.1 F.2.1 (F.2.2.1.trans hsz.symm) F.2.2.2.1 hlink hnat hstat hini hK hP hD hS q0 q1 t0 t0 (by rw [← i2]; exact hq0) (by rw [← j2]; exact hq1) ht ht h1 h2 h3 h4 h5 (fun i hi y hy => ?_) (fun comp c0 k1 k2 => ?_) hframes hlocals hdg (fun H1 locs1 hP1 hD1 hS1 => kk H1 locs1 ⟨L, _, fun b => ?_, by rw [mw_set_ix hD j1 hq1] at hP1; exact hP1, by rw [mw_set_ix hD j1 hq1] at hD1; exact hD1⟩ hS1)
  · obtain ⟨fs, hfs⟩ := hel i hi y hy
    exact mw_recv hK hW0 hc hfs
  · cases k1.symm.trans k2
    have h9 := (hK.1 ci r hc).2
    cases h9.1.symm.trans k1
    exact va_assign h9
  · by_cases hb : b = a
    · subst hb
      rw [va_up_self, va_up_self, if_pos j1]
    · rw [va_up_ne _ _ hb, va_up_ne _ _ hb]
      exact hM b
end MWR
end
section
/-! ===== numbers and answers ===== -/
def bI (b : Bool) : Int32 := if b = true then 1 else 0
theorem bI_t : bI true = 1 := rfl
theorem bI_f : bI false = 0 := rfl
theorem bI_e {b : Bool} (h : bI b = 0) : b = false := by
  cases b with
  | false => rfl
  | true => exact absurd h (by decide)
theorem bI_n {b : Bool} (h : ¬ bI b = 0) : b = true := by
  cases b with
  | false => exact absurd rfl h
  | true => rfl
theorem bI_nar (b : Bool) : narrow .boolean (.int (bI b)) = .int (bI b) := by
  cases b <;> rfl
def kRack (k : Int32) : Bool := decide (k = 4) || decide (k = 5)
def kStrip (k : Int32) : Bool := decide (k = 2) || decide (k = 3)
def kLike (k k' : Int32) : Bool := if kRack k = true then kRack k' else kStrip k && decide (k = k')
def inPl (i p : Int32) : Bool := !decide (i < 0) && !decide (p ≤ i)
def inPls (i n p : Int32) : Bool := !decide (i < 0) && (!decide (n < 0) && !decide (p - i < n))
def isSp (s : Int32) : Bool := !decide (s < 0) && !decide (10 ≤ s)
theorem inPl_in {i : Int32} {pn : Nat} (hp : pn ≤ 80) (h : inPl i (nI pn) = true) : vp_in i pn := by
  simp [inPl] at h
  rcases pk_ix i (n := pn) (by omega) with h1 | h1 | ⟨j, hj, rfl⟩
  · exact absurd (Int32.not_lt.mpr h.1) (fun z => z h1)
  · exact absurd h1 (Int32.not_le.mpr h.2)
  · exact vp_in_nI hj (by omega)
theorem inPl_nI {j pn : Nat} (hj : j < 2 ^ 31) (hp : pn < 2 ^ 31) : inPl (nI j) (nI pn) = decide (j < pn) := by
  simp only [inPl]
  rw [decide_eq_false (nI_pos hj)]
  simp only [Bool.not_false, Bool.true_and, nI_leI hp hj]
  by_cases h : j < pn
  · simp [h]
  · simp [h]; omega
theorem inPl_of {i : Int32} {pn : Nat} (hp : pn ≤ 80) (h : inPl i (nI pn) = true) : ∃ j, j < pn ∧ i = nI j := vp_in_of (inPl_in hp h) (by omega)
theorem inPls_of {i n : Int32} {pn : Nat} (hp : pn ≤ 80) (h : inPls i n (nI pn) = true) : ∃ i' n' : Nat, i = nI i' ∧ n = nI n' ∧ i' + n' ≤ pn := by
  simp only [inPls, Bool.and_eq_true, Bool.not_eq_true', decide_eq_false_iff_not] at h
  obtain ⟨h1, h2, h3⟩ := h
  obtain ⟨a, ha, rfl⟩ := nI_of h1
  obtain ⟨b, hb, rfl⟩ := nI_of h2
  have h4 := Int32.not_lt.mp h3
  have h5 : ((nI b).toInt : Int) ≤ (nI pn - nI a).toInt := Int32.le_iff_toInt_le.mp h4
  rw [nI_toInt hb] at h5
  have h6 : (nI pn - nI a).toInt = (pn : Int) - a := by
    rw [Int32.toInt_sub, nI_toInt ha, nI_toInt (by omega)]
    rw [Int.bmod_eq_of_le] <;> omega
  rw [h6] at h5
  exact ⟨a, b, rfl, rfl, by omega⟩
theorem inPls_nI {i n pn : Nat} (hi : i < 2 ^ 31) (hn : n < 2 ^ 31) (hp : pn < 2 ^ 31) : inPls (nI i) (nI n) (nI pn) = decide (i + n ≤ pn) := by
  simp only [inPls]
  rw [decide_eq_false (nI_pos hi), decide_eq_false (nI_pos hn)]
  simp only [Bool.not_false, Bool.true_and]
  have h6 : (nI pn - nI i).toInt = (pn : Int) - i := by
    rw [Int32.toInt_sub, nI_toInt hi, nI_toInt hp]
    rw [Int.bmod_eq_of_le] <;> omega
  have h7 : (nI pn - nI i < nI n) ↔ ¬ (i + n ≤ pn) := by
    rw [Int32.lt_iff_toInt_lt, h6, nI_toInt hn]
    omega
  by_cases h : i + n ≤ pn
  · simp [h7, h]
  · simp [h7, h]
/-- how many of the first n hold ahead of the first that does not -/
def lead (P : Nat → Bool) : Nat → Nat
  | 0 => 0
  | n + 1 => if lead P n = n ∧ P n = true then n + 1 else lead P n
theorem lead_le (P : Nat → Bool) : ∀ n, lead P n ≤ n
  | 0 => Nat.le_refl 0
  | n + 1 => by
    have := lead_le P n
    unfold lead
    split <;> omega
theorem lead_all (P : Nat → Bool) : ∀ n j, j < lead P n → P j = true
  | 0, j, h => absurd h (Nat.not_lt_zero j)
  | n + 1, j, h => by
    unfold lead at h
    split at h
    · rename_i h1
      by_cases hj : j < n
      · exact lead_all P n j (by omega)
      · rw [show j = n by omega]; exact h1.2
    · exact lead_all P n j h
theorem lead_stop (P : Nat → Bool) : ∀ n, lead P n < n → P (lead P n) = false
  | 0, h => absurd h (Nat.not_lt_zero _)
  | n + 1, h => by
    unfold lead at h ⊢
    split at h
    · omega
    · rename_i h1
      rw [if_neg h1]
      by_cases h2 : lead P n < n
      · exact lead_stop P n h2
      · have h3 : lead P n = n := by have := lead_le P n; omega
        cases hq : P (lead P n) with
        | false => rfl
        | true => exact absurd ⟨h3, by rw [h3] at hq; exact hq⟩ h1
theorem lead_eq {P : Nat → Bool} {n q : Nat} (h1 : q ≤ n) (h2 : ∀ j, j < q → P j = true) (h3 : q < n → P q = false) : q = lead P n := by
  rcases Nat.lt_trichotomy q (lead P n) with h | h | h
  · have := lead_all P n q h
    have hq := h3 (by have := lead_le P n; omega)
    rw [this] at hq
    cases hq
  · exact h
  · have := lead_stop P n (by omega)
    rw [h2 _ h] at this
    cases this
theorem lead_congr {P P' : Nat → Bool} {n : Nat} (h : ∀ j, j < n → P j = P' j) : lead P n = lead P' n := by
  refine lead_eq (lead_le P n) (fun j hj => ?_) (fun hq => ?_)
  · rw [← h j (by have := lead_le P n; omega)]
    exact lead_all P n j hj
  · rw [← h _ hq]
    exact lead_stop P n hq
/-- how many of the first n hold -/
def cntF (P : Nat → Bool) : Nat → Nat
  | 0 => 0
  | n + 1 => cntF P n + (if P n = true then 1 else 0)
theorem cntF_le (P : Nat → Bool) : ∀ n, cntF P n ≤ n
  | 0 => Nat.le_refl 0
  | n + 1 => by
    have := cntF_le P n
    unfold cntF
    split <;> omega
theorem cntF_congr {P P' : Nat → Bool} : ∀ {n : Nat}, (∀ j, j < n → P j = P' j) → cntF P n = cntF P' n
  | 0, _ => rfl
  | n + 1, h => by
    unfold cntF
    rw [cntF_congr (fun j hj => h j (by omega)), h n (by omega)]
/-! ===== a holding's cells ===== -/
abbrev tyL (cI cJ cC cH : ClassId) : List (ClassId × FieldType) := [(cI, .int), (cJ, .long), (cC, .object RX0), (cH, .object RX1)]
def hOk (M : Nat → Option va_E) (cJ cC : ClassId) (h : Nat) (k : Int32) (pn na ca : Nat) (lb : Int32) (f : Nat → Int64) (g : Nat → Option Nat) : Prop :=
  M h = some (.inr (1, [.int k, .int (nI pn), .ref na, .ref ca, .int lb])) ∧ pn ≤ 80 ∧ M na = some (.inl (cJ, if kStrip k = true then pn else 0, .inr (.inl f))) ∧ M ca = some (.inl (cC, if kRack k = true then pn else 0, .inr (.inr (.inr (.inr g)))))
/-- what a place of a holding has for a card -/
def cdAt (k : Int32) (pn : Nat) (g : Nat → Option Nat) (i : Int32) : Option Nat := if kRack k = true ∧ inPl i (nI pn) = true then g i.toNatClampNeg else none
end
section
section X1R
variable {l : Launch} {D : va_G} {cI cJ cC cH : ClassId} {M : Nat → Option va_E} {sz : Nat}
abbrev rmX1_isStrip : Room := ({ frames := 0, cells := 0, slots := 0, locals := 0 } : Room)
set_option maxHeartbeats 4000000 in
set_option maxRecDepth 100000 in
theorem c_X1_isStrip {h : Nat} {k : Int32} {fs : List Value} (hh : M h = some (.inr (1, .int k :: fs))) : Met l yX1_isStrip wsX1_isStrip rmX1_isStrip (va_Pc [.ref h] (mwPre D (tyL cI cJ cC cH) M sz)) (vp_Si (fun r => r = bI (kStrip k))) 0 0 (fun _ => False) := by
  refine Met.ofW (cc := cX1_isStrip) (maxL := 1) (ret := (some .boolean)) (by decide) rfl ?_
  intro pr env s m args below meth c s₁ B hml hv
  obtain ⟨rfl, hsz, hW, hK, hO⟩ := hv
  have hx := B.exec
  have hb := B.bytes
  have hr := B.returns
  have hts := atoms_spec (ws := wsX1_isStrip) B.pre
  have hown : s.vm.findClass RX1 = some m.cls := findClass_of_methodNamed B.named
  have hlocks := B.notSynchronized
  have F : CallFix pr m c cX1_isStrip 1 s ([.ref h] : List Value).toArray wsX1_isStrip RX1 := ⟨hx, hb, hml, hown, hts⟩
  have hI_X1 : ∀ w ∈ wsX10, w ∈ wsX1_isStrip := by decide +kernel
  have hl_fieldLink_RX1_9_SpliceBench_Holding_kind_I := hts (.fieldLink RX1 9 "SpliceBench$Holding" "kind" "I") (by decide +kernel)
  have hl := lv_entry ([.ref h]) (n := 1) (Nat.le_of_ble_eq_true rfl)
  rw [lg_entry_eq]
  generalize (lg_sl ([.ref h]) ++ List.replicate (1 - (lg_sl ([.ref h])).length) Slot.unset).toArray = ls at hl ⊢
  have hl : lv_has ls 1 [(0, .ref h)] := hl
  refine lv_aload_n hx hb dX1_isStrip_0 rfl (lv_at hl 0 rfl) ?_
  refine mw_get (C := RX1) (T := TX1) (N := 5) F hK hW hI_X1 hh rfl 0 (by decide) hl_fieldLink_RX1_9_SpliceBench_Holding_kind_I rfl dX1_isStrip_1 ?_
  refine lv_iconst (v := 2) hx hb dX1_isStrip_4 (by decide) ?_
  refine lv_icmp_eq (tgt := 16) hx hb dX1_isStrip_5 (by decide) (fun c_5 => ?_) (fun c_5 => ?_)
  · refine lv_iconst (v := 1) hx hb dX1_isStrip_16 (by decide) ?_
    refine lv_goto (tgt := 21) hx hb dX1_isStrip_17 (by decide) ?_
    exact W.zret hx hb hr (by first | rfl | exact bI_nar _) (fun t ht _ => ⟨_, rfl, (by first | rfl | simp [bI, kStrip, c_5]), ht⟩) (fun _ h => by cases h) dX1_isStrip_21
  · refine lv_aload_n hx hb dX1_isStrip_8 rfl (lv_at hl 0 rfl) ?_
    refine mw_get (C := RX1) (T := TX1) (N := 5) F hK hW hI_X1 hh rfl 0 (by decide) hl_fieldLink_RX1_9_SpliceBench_Holding_kind_I rfl dX1_isStrip_9 ?_
    refine lv_iconst (v := 3) hx hb dX1_isStrip_12 (by decide) ?_
    refine lv_icmp_ne (tgt := 20) hx hb dX1_isStrip_13 (by decide) (fun c_13 => ?_) (fun c_13 => ?_)
    · refine lv_iconst (v := 0) hx hb dX1_isStrip_20 (by decide) ?_
      exact W.zret hx hb hr (by first | rfl | exact bI_nar _) (fun t ht _ => ⟨_, rfl, (by first | rfl | simp [bI, kStrip, c_5, c_13]), ht⟩) (fun _ h => by cases h) dX1_isStrip_21
    · refine lv_iconst (v := 1) hx hb dX1_isStrip_16 (by decide) ?_
      refine lv_goto (tgt := 21) hx hb dX1_isStrip_17 (by decide) ?_
      exact W.zret hx hb hr (by first | rfl | exact bI_nar _) (fun t ht _ => ⟨_, rfl, (by first | rfl | simp [bI, kStrip, c_5, c_13]), ht⟩) (fun _ h => by cases h) dX1_isStrip_21
abbrev rmX1_isRack : Room := ({ frames := 0, cells := 0, slots := 0, locals := 0 } : Room)
set_option maxHeartbeats 4000000 in
set_option maxRecDepth 100000 in
theorem c_X1_isRack {h : Nat} {k : Int32} {fs : List Value} (hh : M h = some (.inr (1, .int k :: fs))) : Met l yX1_isRack wsX1_isRack rmX1_isRack (va_Pc [.ref h] (mwPre D (tyL cI cJ cC cH) M sz)) (vp_Si (fun r => r = bI (kRack k))) 0 0 (fun _ => False) := by
  refine Met.ofW (cc := cX1_isRack) (maxL := 1) (ret := (some .boolean)) (by decide) rfl ?_
  intro pr env s m args below meth c s₁ B hml hv
  obtain ⟨rfl, hsz, hW, hK, hO⟩ := hv
  have hx := B.exec
  have hb := B.bytes
  have hr := B.returns
  have hts := atoms_spec (ws := wsX1_isRack) B.pre
  have hown : s.vm.findClass RX1 = some m.cls := findClass_of_methodNamed B.named
  have hlocks := B.notSynchronized
  have F : CallFix pr m c cX1_isRack 1 s ([.ref h] : List Value).toArray wsX1_isRack RX1 := ⟨hx, hb, hml, hown, hts⟩
  have hI_X1 : ∀ w ∈ wsX10, w ∈ wsX1_isRack := by decide +kernel
  have hl_fieldLink_RX1_9_SpliceBench_Holding_kind_I := hts (.fieldLink RX1 9 "SpliceBench$Holding" "kind" "I") (by decide +kernel)
  have hl := lv_entry ([.ref h]) (n := 1) (Nat.le_of_ble_eq_true rfl)
  rw [lg_entry_eq]
  generalize (lg_sl ([.ref h]) ++ List.replicate (1 - (lg_sl ([.ref h])).length) Slot.unset).toArray = ls at hl ⊢
  have hl : lv_has ls 1 [(0, .ref h)] := hl
  refine lv_aload_n hx hb dX1_isRack_0 rfl (lv_at hl 0 rfl) ?_
  refine mw_get (C := RX1) (T := TX1) (N := 5) F hK hW hI_X1 hh rfl 0 (by decide) hl_fieldLink_RX1_9_SpliceBench_Holding_kind_I rfl dX1_isRack_1 ?_
  refine lv_iconst (v := 4) hx hb dX1_isRack_4 (by decide) ?_
  refine lv_icmp_eq (tgt := 16) hx hb dX1_isRack_5 (by decide) (fun c_5 => ?_) (fun c_5 => ?_)
  · refine lv_iconst (v := 1) hx hb dX1_isRack_16 (by decide) ?_
    refine lv_goto (tgt := 21) hx hb dX1_isRack_17 (by decide) ?_
    exact W.zret hx hb hr (by first | rfl | exact bI_nar _) (fun t ht _ => ⟨_, rfl, (by first | rfl | simp [bI, kRack, c_5]), ht⟩) (fun _ h => by cases h) dX1_isRack_21
  · refine lv_aload_n hx hb dX1_isRack_8 rfl (lv_at hl 0 rfl) ?_
    refine mw_get (C := RX1) (T := TX1) (N := 5) F hK hW hI_X1 hh rfl 0 (by decide) hl_fieldLink_RX1_9_SpliceBench_Holding_kind_I rfl dX1_isRack_9 ?_
    refine lv_iconst (v := 5) hx hb dX1_isRack_12 (by decide) ?_
    refine lv_icmp_ne (tgt := 20) hx hb dX1_isRack_13 (by decide) (fun c_13 => ?_) (fun c_13 => ?_)
    · refine lv_iconst (v := 0) hx hb dX1_isRack_20 (by decide) ?_
      exact W.zret hx hb hr (by first | rfl | exact bI_nar _) (fun t ht _ => ⟨_, rfl, (by first | rfl | simp [bI, kRack, c_5, c_13]), ht⟩) (fun _ h => by cases h) dX1_isRack_21
    · refine lv_iconst (v := 1) hx hb dX1_isRack_16 (by decide) ?_
      refine lv_goto (tgt := 21) hx hb dX1_isRack_17 (by decide) ?_
      exact W.zret hx hb hr (by first | rfl | exact bI_nar _) (fun t ht _ => ⟨_, rfl, (by first | rfl | simp [bI, kRack, c_5, c_13]), ht⟩) (fun _ h => by cases h) dX1_isRack_21
abbrev rmX1_hasPlace : Room := ({ frames := 0, cells := 0, slots := 0, locals := 0 } : Room)
set_option maxHeartbeats 4000000 in
set_option maxRecDepth 100000 in
theorem c_X1_hasPlace {h : Nat} {k : Int32} {pn na ca : Nat} {lb : Int32} {f : Nat → Int64} {g : Nat → Option Nat} {i : Int32} (hH : hOk M cJ cC h k pn na ca lb f g) : Met l yX1_hasPlace wsX1_hasPlace rmX1_hasPlace (va_Pc [.ref h, .int i] (mwPre D (tyL cI cJ cC cH) M sz)) (vp_Si (fun r => r = bI (inPl i (nI pn)))) 0 0 (fun _ => False) := by
  refine Met.ofW (cc := cX1_hasPlace) (maxL := 2) (ret := (some .boolean)) (by decide) rfl ?_
  intro pr env s m args below meth c s₁ B hml hv
  obtain ⟨rfl, hsz, hW, hK, hO⟩ := hv
  have hx := B.exec
  have hb := B.bytes
  have hr := B.returns
  have hts := atoms_spec (ws := wsX1_hasPlace) B.pre
  have hown : s.vm.findClass RX1 = some m.cls := findClass_of_methodNamed B.named
  have hlocks := B.notSynchronized
  have F : CallFix pr m c cX1_hasPlace 2 s ([.ref h, .int i] : List Value).toArray wsX1_hasPlace RX1 := ⟨hx, hb, hml, hown, hts⟩
  have hI_X1 : ∀ w ∈ wsX10, w ∈ wsX1_hasPlace := by decide +kernel
  have hl_fieldLink_RX1_15_SpliceBench_Holding_places_I := hts (.fieldLink RX1 15 "SpliceBench$Holding" "places" "I") (by decide +kernel)
  have hl := lv_entry ([.ref h, .int i]) (n := 2) (Nat.le_of_ble_eq_true rfl)
  rw [lg_entry_eq]
  generalize (lg_sl ([.ref h, .int i]) ++ List.replicate (2 - (lg_sl ([.ref h, .int i])).length) Slot.unset).toArray = ls at hl ⊢
  have hl : lv_has ls 2 [(0, .ref h), (1, .int i)] := hl
  refine lv_iload_n hx hb dX1_hasPlace_0 rfl (lv_at hl 1 rfl) ?_
  refine lv_if_lt (tgt := 16) hx hb dX1_hasPlace_1 (by decide) (fun c_1 => ?_) (fun c_1 => ?_)
  · refine lv_iconst (v := 0) hx hb dX1_hasPlace_16 (by decide) ?_
    exact W.zret hx hb hr (by first | rfl | exact bI_nar _) (fun t ht _ => ⟨_, rfl, (by first | rfl | simp [bI, inPl, c_1]), ht⟩) (fun _ h => by cases h) dX1_hasPlace_17
  · refine lv_iload_n hx hb dX1_hasPlace_4 rfl (lv_at hl 1 rfl) ?_
    refine lv_aload_n hx hb dX1_hasPlace_5 rfl (lv_at hl 0 rfl) ?_
    refine mw_get (C := RX1) (T := TX1) (N := 5) F hK hW hI_X1 hH.1 rfl 1 (by decide) hl_fieldLink_RX1_15_SpliceBench_Holding_places_I rfl dX1_hasPlace_6 ?_
    refine lv_icmp_ge (tgt := 16) hx hb dX1_hasPlace_9 (by decide) (fun c_9 => ?_) (fun c_9 => ?_)
    · refine lv_iconst (v := 0) hx hb dX1_hasPlace_16 (by decide) ?_
      exact W.zret hx hb hr (by first | rfl | exact bI_nar _) (fun t ht _ => ⟨_, rfl, (by first | rfl | simp [bI, inPl, c_1, c_9]), ht⟩) (fun _ h => by cases h) dX1_hasPlace_17
    · refine lv_iconst (v := 1) hx hb dX1_hasPlace_12 (by decide) ?_
      refine lv_goto (tgt := 17) hx hb dX1_hasPlace_13 (by decide) ?_
      exact W.zret hx hb hr (by first | rfl | exact bI_nar _) (fun t ht _ => ⟨_, rfl, (by first | rfl | simp [bI, inPl, c_1, c_9]), ht⟩) (fun _ h => by cases h) dX1_hasPlace_17
abbrev rmX1_hasPlaces : Room := ({ frames := 0, cells := 0, slots := 0, locals := 0 } : Room)
set_option maxHeartbeats 4000000 in
set_option maxRecDepth 100000 in
theorem c_X1_hasPlaces {h : Nat} {k : Int32} {pn na ca : Nat} {lb : Int32} {f : Nat → Int64} {g : Nat → Option Nat} {i n : Int32} (hH : hOk M cJ cC h k pn na ca lb f g) : Met l yX1_hasPlaces wsX1_hasPlaces rmX1_hasPlaces (va_Pc [.ref h, .int i, .int n] (mwPre D (tyL cI cJ cC cH) M sz)) (vp_Si (fun r => r = bI (inPls i n (nI pn)))) 0 0 (fun _ => False) := by
  refine Met.ofW (cc := cX1_hasPlaces) (maxL := 3) (ret := (some .boolean)) (by decide) rfl ?_
  intro pr env s m args below meth c s₁ B hml hv
  obtain ⟨rfl, hsz, hW, hK, hO⟩ := hv
  have hx := B.exec
  have hb := B.bytes
  have hr := B.returns
  have hts := atoms_spec (ws := wsX1_hasPlaces) B.pre
  have hown : s.vm.findClass RX1 = some m.cls := findClass_of_methodNamed B.named
  have hlocks := B.notSynchronized
  have F : CallFix pr m c cX1_hasPlaces 3 s ([.ref h, .int i, .int n] : List Value).toArray wsX1_hasPlaces RX1 := ⟨hx, hb, hml, hown, hts⟩
  have hI_X1 : ∀ w ∈ wsX10, w ∈ wsX1_hasPlaces := by decide +kernel
  have hl_fieldLink_RX1_15_SpliceBench_Holding_places_I := hts (.fieldLink RX1 15 "SpliceBench$Holding" "places" "I") (by decide +kernel)
  have hl := lv_entry ([.ref h, .int i, .int n]) (n := 3) (Nat.le_of_ble_eq_true rfl)
  rw [lg_entry_eq]
  generalize (lg_sl ([.ref h, .int i, .int n]) ++ List.replicate (3 - (lg_sl ([.ref h, .int i, .int n])).length) Slot.unset).toArray = ls at hl ⊢
  have hl : lv_has ls 3 [(0, .ref h), (1, .int i), (2, .int n)] := hl
  refine lv_iload_n hx hb dX1_hasPlaces_0 rfl (lv_at hl 1 rfl) ?_
  refine lv_if_lt (tgt := 22) hx hb dX1_hasPlaces_1 (by decide) (fun c_1 => ?_) (fun c_1 => ?_)
  · refine lv_iconst (v := 0) hx hb dX1_hasPlaces_22 (by decide) ?_
    exact W.zret hx hb hr (by first | rfl | exact bI_nar _) (fun t ht _ => ⟨_, rfl, (by first | rfl | simp [bI, inPls, c_1]), ht⟩) (fun _ h => by cases h) dX1_hasPlaces_23
  · refine lv_iload_n hx hb dX1_hasPlaces_4 rfl (lv_at hl 2 rfl) ?_
    refine lv_if_lt (tgt := 22) hx hb dX1_hasPlaces_5 (by decide) (fun c_5 => ?_) (fun c_5 => ?_)
    · refine lv_iconst (v := 0) hx hb dX1_hasPlaces_22 (by decide) ?_
      exact W.zret hx hb hr (by first | rfl | exact bI_nar _) (fun t ht _ => ⟨_, rfl, (by first | rfl | simp [bI, inPls, c_1, c_5]), ht⟩) (fun _ h => by cases h) dX1_hasPlaces_23
    · refine lv_iload_n hx hb dX1_hasPlaces_8 rfl (lv_at hl 2 rfl) ?_
      refine lv_aload_n hx hb dX1_hasPlaces_9 rfl (lv_at hl 0 rfl) ?_
      refine mw_get (C := RX1) (T := TX1) (N := 5) F hK hW hI_X1 hH.1 rfl 1 (by decide) hl_fieldLink_RX1_15_SpliceBench_Holding_places_I rfl dX1_hasPlaces_10 ?_
      refine lv_iload_n hx hb dX1_hasPlaces_13 rfl (lv_at hl 1 rfl) ?_
      refine lv_isub hx hb dX1_hasPlaces_14 ?_
      refine lv_icmp_gt (tgt := 22) hx hb dX1_hasPlaces_15 (by decide) (fun c_15 => ?_) (fun c_15 => ?_)
      · refine lv_iconst (v := 0) hx hb dX1_hasPlaces_22 (by decide) ?_
        exact W.zret hx hb hr (by first | rfl | exact bI_nar _) (fun t ht _ => ⟨_, rfl, (by first | rfl | simp [bI, inPls, c_1, c_5, c_15]), ht⟩) (fun _ h => by cases h) dX1_hasPlaces_23
      · refine lv_iconst (v := 1) hx hb dX1_hasPlaces_18 (by decide) ?_
        refine lv_goto (tgt := 23) hx hb dX1_hasPlaces_19 (by decide) ?_
        exact W.zret hx hb hr (by first | rfl | exact bI_nar _) (fun t ht _ => ⟨_, rfl, (by first | rfl | simp [bI, inPls, c_1, c_5, c_15]), ht⟩) (fun _ h => by cases h) dX1_hasPlaces_23
abbrev rmX1_isLike : Room := ({ frames := 1, cells := 0, slots := 0, locals := 20 } : Room)
set_option maxHeartbeats 4000000 in
set_option maxRecDepth 100000 in
theorem c_X1_isLike {h : Nat} {k : Int32} {pn na ca : Nat} {lb : Int32} {f : Nat → Int64} {g : Nat → Option Nat} {h' : Nat} {k' : Int32} {pn' na' ca' : Nat} {lb' : Int32} {f' : Nat → Int64} {g' : Nat → Option Nat} (hH : hOk M cJ cC h k pn na ca lb f g) (hH' : hOk M cJ cC h' k' pn' na' ca' lb' f' g') : Met l yX1_isLike wsX1_isLike rmX1_isLike (va_Pc [.ref h, .ref h'] (mwPre D (tyL cI cJ cC cH) M sz)) (vp_Si (fun r => r = bI (kLike k k'))) 0 0 (fun _ => False) := by
  refine Met.ofW (cc := cX1_isLike) (maxL := 2) (ret := (some .boolean)) (by decide) rfl ?_
  intro pr env s m args below meth c s₁ B hml hv
  obtain ⟨rfl, hsz, hW, hK, hO⟩ := hv
  have hx := B.exec
  have hb := B.bytes
  have hr := B.returns
  have hts := atoms_spec (ws := wsX1_isLike) B.pre
  have hown : s.vm.findClass RX1 = some m.cls := findClass_of_methodNamed B.named
  have hlocks := B.notSynchronized
  have F : CallFix pr m c cX1_isLike 2 s ([.ref h, .ref h'] : List Value).toArray wsX1_isLike RX1 := ⟨hx, hb, hml, hown, hts⟩
  have hI_X1 : ∀ w ∈ wsX10, w ∈ wsX1_isLike := by decide +kernel
  have hl_fieldLink_RX1_9_SpliceBench_Holding_kind_I := hts (.fieldLink RX1 9 "SpliceBench$Holding" "kind" "I") (by decide +kernel)
  have hl := lv_entry ([.ref h, .ref h']) (n := 2) (Nat.le_of_ble_eq_true rfl)
  rw [lg_entry_eq]
  generalize (lg_sl ([.ref h, .ref h']) ++ List.replicate (2 - (lg_sl ([.ref h, .ref h'])).length) Slot.unset).toArray = ls at hl ⊢
  have hl : lv_has ls 2 [(0, .ref h), (1, .ref h')] := hl
  refine lv_aload_n hx hb dX1_isLike_0 rfl (lv_at hl 0 rfl) ?_
  refine vp_callSi (W.runV (As := []) (rest := []) F (c_X1_isRack hH.1) (cwV 0 hts gX1_isLike_X1_isRack rfl rfl rfl (by decide +kernel) ⟨Nat.le_of_ble_eq_true rfl, Nat.le_of_ble_eq_true rfl⟩) (mw_prV (q := (RX1, TX1, 5)) hK hO hW rfl hH.1) rfl rfl hl.1 rfl (lv_room (Nat.le_of_ble_eq_true rfl)) dX1_isLike_1 ⟨Nat.zero_le _, Nat.zero_le _⟩) (fun r_1 er_1 => ?_)
  subst er_1
  refine lv_if_eq (tgt := 14) hx hb dX1_isLike_4 (by decide) (fun c_4 => ?_) (fun c_4 => ?_)
  · have c_4 := bI_e c_4
    refine lv_aload_n hx hb dX1_isLike_14 rfl (lv_at hl 0 rfl) ?_
    refine vp_callSi (W.runV (As := []) (rest := []) F (c_X1_isStrip hH.1) (cwV 0 hts gX1_isLike_X1_isStrip rfl rfl rfl (by decide +kernel) ⟨Nat.le_of_ble_eq_true rfl, Nat.le_of_ble_eq_true rfl⟩) (mw_prV (q := (RX1, TX1, 5)) hK hO hW rfl hH.1) rfl rfl hl.1 rfl (lv_room (Nat.le_of_ble_eq_true rfl)) dX1_isLike_15 ⟨Nat.zero_le _, Nat.zero_le _⟩) (fun r_2 er_2 => ?_)
    subst er_2
    refine lv_if_eq (tgt := 36) hx hb dX1_isLike_18 (by decide) (fun c_18 => ?_) (fun c_18 => ?_)
    · have c_18 := bI_e c_18
      refine lv_iconst (v := 0) hx hb dX1_isLike_36 (by decide) ?_
      exact W.zret hx hb hr (by first | rfl | exact bI_nar _) (fun t ht _ => ⟨_, rfl, (by first | rfl | simp [bI, kLike, c_4, c_18]), ht⟩) (fun _ h => by cases h) dX1_isLike_37
    · have c_18 := bI_n c_18
      refine lv_aload_n hx hb dX1_isLike_21 rfl (lv_at hl 0 rfl) ?_
      refine mw_get (C := RX1) (T := TX1) (N := 5) F hK hW hI_X1 hH.1 rfl 0 (by decide) hl_fieldLink_RX1_9_SpliceBench_Holding_kind_I rfl dX1_isLike_22 ?_
      refine lv_aload_n hx hb dX1_isLike_25 rfl (lv_at hl 1 rfl) ?_
      refine mw_get (C := RX1) (T := TX1) (N := 5) F hK hW hI_X1 hH'.1 rfl 0 (by decide) hl_fieldLink_RX1_9_SpliceBench_Holding_kind_I rfl dX1_isLike_26 ?_
      refine lv_icmp_ne (tgt := 36) hx hb dX1_isLike_29 (by decide) (fun c_29 => ?_) (fun c_29 => ?_)
      · refine lv_iconst (v := 0) hx hb dX1_isLike_36 (by decide) ?_
        exact W.zret hx hb hr (by first | rfl | exact bI_nar _) (fun t ht _ => ⟨_, rfl, (by first | rfl | simp [bI, kLike, c_4, c_18, c_29]), ht⟩) (fun _ h => by cases h) dX1_isLike_37
      · subst c_29
        refine lv_iconst (v := 1) hx hb dX1_isLike_32 (by decide) ?_
        refine lv_goto (tgt := 37) hx hb dX1_isLike_33 (by decide) ?_
        exact W.zret hx hb hr (by first | rfl | exact bI_nar _) (fun t ht _ => ⟨_, rfl, (by first | rfl | simp [bI, kLike, c_4, c_18]), ht⟩) (fun _ h => by cases h) dX1_isLike_37
  · have c_4 := bI_n c_4
    refine lv_aload_n hx hb dX1_isLike_7 rfl (lv_at hl 1 rfl) ?_
    refine vp_callSi (W.runV (As := []) (rest := []) F (c_X1_isRack hH'.1) (cwV 0 hts gX1_isLike_X1_isRack rfl rfl rfl (by decide +kernel) ⟨Nat.le_of_ble_eq_true rfl, Nat.le_of_ble_eq_true rfl⟩) (mw_prV (q := (RX1, TX1, 5)) hK hO hW rfl hH'.1) rfl rfl hl.1 rfl (lv_room (Nat.le_of_ble_eq_true rfl)) dX1_isLike_8 ⟨Nat.zero_le _, Nat.zero_le _⟩) (fun r_3 er_3 => ?_)
    subst er_3
    refine lv_goto (tgt := 37) hx hb dX1_isLike_11 (by decide) ?_
    exact W.zret hx hb hr (by first | rfl | exact bI_nar _) (fun t ht _ => ⟨_, rfl, (by first | rfl | simp [bI, kLike, c_4]), ht⟩) (fun _ h => by cases h) dX1_isLike_37
abbrev rmX1_cardAt : Room := ({ frames := 1, cells := 0, slots := 0, locals := 21 } : Room)
set_option maxHeartbeats 4000000 in
set_option maxRecDepth 100000 in
theorem c_X1_cardAt {h : Nat} {k : Int32} {pn na ca : Nat} {lb : Int32} {f : Nat → Int64} {g : Nat → Option Nat} {i : Int32} (hH : hOk M cJ cC h k pn na ca lb f g) : Met l yX1_cardAt wsX1_cardAt rmX1_cardAt (va_Pc [.ref h, .int i] (mwPre D (tyL cI cJ cC cH) M sz)) (va_Sq (fun r => r = cdAt k pn g i)) 0 0 (fun _ => False) := by
  refine Met.ofW (cc := cX1_cardAt) (maxL := 2) (ret := (some (.object "SpliceBench$Card"))) (by decide) rfl ?_
  intro pr env s m args below meth c s₁ B hml hv
  obtain ⟨rfl, hsz, hW, hK, hO⟩ := hv
  have hx := B.exec
  have hb := B.bytes
  have hr := B.returns
  have hts := atoms_spec (ws := wsX1_cardAt) B.pre
  have hown : s.vm.findClass RX1 = some m.cls := findClass_of_methodNamed B.named
  have hlocks := B.notSynchronized
  have F : CallFix pr m c cX1_cardAt 2 s ([.ref h, .int i] : List Value).toArray wsX1_cardAt RX1 := ⟨hx, hb, hml, hown, hts⟩
  have hI_X1 : ∀ w ∈ wsX10, w ∈ wsX1_cardAt := by decide +kernel
  have hl_fieldLink_RX1_34_SpliceBench_Holding_cards_LSpliceBench_Card := hts (.fieldLink RX1 34 "SpliceBench$Holding" "cards" "[LSpliceBench$Card;") (by decide +kernel)
  have hl := lv_entry ([.ref h, .int i]) (n := 2) (Nat.le_of_ble_eq_true rfl)
  rw [lg_entry_eq]
  generalize (lg_sl ([.ref h, .int i]) ++ List.replicate (2 - (lg_sl ([.ref h, .int i])).length) Slot.unset).toArray = ls at hl ⊢
  have hl : lv_has ls 2 [(0, .ref h), (1, .int i)] := hl
  refine lv_aload_n hx hb dX1_cardAt_0 rfl (lv_at hl 0 rfl) ?_
  refine vp_callSi (W.runV (As := []) (rest := []) F (c_X1_isRack hH.1) (cwV 0 hts gX1_cardAt_X1_isRack rfl rfl rfl (by decide +kernel) ⟨Nat.le_of_ble_eq_true rfl, Nat.le_of_ble_eq_true rfl⟩) (mw_prV (q := (RX1, TX1, 5)) hK hO hW rfl hH.1) rfl rfl hl.1 rfl (lv_room (Nat.le_of_ble_eq_true rfl)) dX1_cardAt_1 ⟨Nat.zero_le _, Nat.zero_le _⟩) (fun r_1 er_1 => ?_)
  subst er_1
  refine lv_if_eq (tgt := 24) hx hb dX1_cardAt_4 (by decide) (fun c_4 => ?_) (fun c_4 => ?_)
  · have c_4 := bI_e c_4
    refine lv_null hx hb dX1_cardAt_24 ?_
    exact W.aret hx hb hr (Or.inl ⟨_, rfl⟩) (by first | exact va_rf_or _ | exact Or.inl rfl | exact Or.inr ⟨_, rfl⟩) (fun t ht _ => ⟨none, rfl, (by first | rfl | simp [cdAt, c_4]), ht⟩) (fun _ h => by cases h) dX1_cardAt_25
  · have c_4 := bI_n c_4
    refine lv_aload_n hx hb dX1_cardAt_7 rfl (lv_at hl 0 rfl) ?_
    refine lv_iload_n hx hb dX1_cardAt_8 rfl (lv_at hl 1 rfl) ?_
    refine vp_callSi (W.runV (As := [.int i]) (rest := []) F (c_X1_hasPlace (i := i) hH) (cwV 1 hts gX1_cardAt_X1_hasPlace rfl rfl rfl (by decide +kernel) ⟨Nat.le_of_ble_eq_true rfl, Nat.le_of_ble_eq_true rfl⟩) (mw_prV (q := (RX1, TX1, 5)) hK hO hW rfl hH.1) rfl rfl hl.1 rfl (lv_room (Nat.le_of_ble_eq_true rfl)) dX1_cardAt_9 ⟨Nat.zero_le _, Nat.zero_le _⟩) (fun r_2 er_2 => ?_)
    subst er_2
    refine lv_if_eq (tgt := 24) hx hb dX1_cardAt_12 (by decide) (fun c_12 => ?_) (fun c_12 => ?_)
    · have c_12 := bI_e c_12
      refine lv_null hx hb dX1_cardAt_24 ?_
      exact W.aret hx hb hr (Or.inl ⟨_, rfl⟩) (by first | exact va_rf_or _ | exact Or.inl rfl | exact Or.inr ⟨_, rfl⟩) (fun t ht _ => ⟨none, rfl, (by first | rfl | simp [cdAt, c_4, c_12]), ht⟩) (fun _ h => by cases h) dX1_cardAt_25
    · have c_12 := bI_n c_12
      refine lv_aload_n hx hb dX1_cardAt_15 rfl (lv_at hl 0 rfl) ?_
      refine mw_get (C := RX1) (T := TX1) (N := 5) F hK hW hI_X1 hH.1 rfl 3 (by decide) hl_fieldLink_RX1_34_SpliceBench_Holding_cards_LSpliceBench_Card rfl dX1_cardAt_16 ?_
      refine lv_iload_n hx hb dX1_cardAt_19 rfl (lv_at hl 1 rfl) ?_
      refine mw_aald F hK hW 2 hH.2.2.2 rfl (by rw [if_pos c_4]; exact inPl_in hH.2.1 c_12) dX1_cardAt_20 ?_
      refine lv_goto (tgt := 25) hx hb dX1_cardAt_21 (by decide) ?_
      exact W.aret hx hb hr (Or.inl ⟨_, rfl⟩) (by first | exact va_rf_or _ | exact Or.inl rfl | exact Or.inr ⟨_, rfl⟩) (fun t ht _ => ⟨g i.toNatClampNeg, rfl, (by first | rfl | simp [cdAt, c_4, c_12]), ht⟩) (fun _ h => by cases h) dX1_cardAt_25
abbrev rmX1_admits : Room := ({ frames := 0, cells := 0, slots := 0, locals := 0 } : Room)
set_option maxHeartbeats 4000000 in
set_option maxRecDepth 100000 in
theorem c_X1_admitsN {h : Nat} {k : Int32} {pn na ca : Nat} {lb : Int32} {f : Nat → Int64} {g : Nat → Option Nat} {ev : Bool} (hH : hOk M cJ cC h k pn na ca lb f g) (hv : ev = true) : Met l yX1_admits wsX1_admits rmX1_admits (va_Pc [.ref h, .null] (mwPre D (tyL cI cJ cC cH) M sz)) (vp_Si (fun r => r = bI (!decide (k = 5) || ev))) 0 0 (fun _ => False) := by
  refine Met.ofW (cc := cX1_admits) (maxL := 2) (ret := (some .boolean)) (by decide) rfl ?_
  intro pr env s m args below meth c s₁ B hml hv
  obtain ⟨rfl, hsz, hW, hK, hO⟩ := hv
  have hx := B.exec
  have hb := B.bytes
  have hr := B.returns
  have hts := atoms_spec (ws := wsX1_admits) B.pre
  have hown : s.vm.findClass RX1 = some m.cls := findClass_of_methodNamed B.named
  have hlocks := B.notSynchronized
  have F : CallFix pr m c cX1_admits 2 s ([.ref h, .null] : List Value).toArray wsX1_admits RX1 := ⟨hx, hb, hml, hown, hts⟩
  have hI_X1 : ∀ w ∈ wsX10, w ∈ wsX1_admits := by decide +kernel
  have hl_fieldLink_RX1_9_SpliceBench_Holding_kind_I := hts (.fieldLink RX1 9 "SpliceBench$Holding" "kind" "I") (by decide +kernel)
  have hl := lv_entry ([.ref h, .null]) (n := 2) (Nat.le_of_ble_eq_true rfl)
  rw [lg_entry_eq]
  generalize (lg_sl ([.ref h, .null]) ++ List.replicate (2 - (lg_sl ([.ref h, .null])).length) Slot.unset).toArray = ls at hl ⊢
  have hl : lv_has ls 2 [(0, .ref h), (1, .null)] := hl
  refine lv_aload_n hx hb dX1_admits_0 rfl (lv_at hl 0 rfl) ?_
  refine mw_get (C := RX1) (T := TX1) (N := 5) F hK hW hI_X1 hH.1 rfl 0 (by decide) hl_fieldLink_RX1_9_SpliceBench_Holding_kind_I rfl dX1_admits_1 ?_
  refine lv_iconst (v := 5) hx hb dX1_admits_4 (by decide) ?_
  refine lv_icmp_ne (tgt := 19) hx hb dX1_admits_5 (by decide) (fun c_5 => ?_) (fun c_5 => ?_)
  · refine lv_iconst (v := 1) hx hb dX1_admits_19 (by decide) ?_
    refine lv_goto (tgt := 24) hx hb dX1_admits_20 (by decide) ?_
    exact W.zret hx hb hr (by first | rfl | exact bI_nar _) (fun t ht _ => ⟨_, rfl, (by first | rfl | simp [bI, hv, c_5]), ht⟩) (fun _ h => by cases h) dX1_admits_24
  · refine lv_aload_nN hx hb dX1_admits_8 rfl (lv_at hl 1 rfl) ?_
    refine lv_ifnullN (tgt := 19) hx hb dX1_admits_9 (by decide) ?_
    refine lv_iconst (v := 1) hx hb dX1_admits_19 (by decide) ?_
    refine lv_goto (tgt := 24) hx hb dX1_admits_20 (by decide) ?_
    exact W.zret hx hb hr (by first | rfl | exact bI_nar _) (fun t ht _ => ⟨_, rfl, (by first | rfl | simp [bI, hv, c_5]), ht⟩) (fun _ h => by cases h) dX1_admits_24
set_option maxHeartbeats 4000000 in
set_option maxRecDepth 100000 in
theorem c_X1_admitsS {h : Nat} {k : Int32} {pn na ca : Nat} {lb : Int32} {f : Nat → Int64} {g : Nat → Option Nat} {ev : Bool} (hH : hOk M cJ cC h k pn na ca lb f g) {q : Nat} {num : Int64} {sh : Int32} (hq : M q = some (.inr (0, [.long num, .int (bI ev), .int sh]))) : Met l yX1_admits wsX1_admits rmX1_admits (va_Pc [.ref h, .ref q] (mwPre D (tyL cI cJ cC cH) M sz)) (vp_Si (fun r => r = bI (!decide (k = 5) || ev))) 0 0 (fun _ => False) := by
  refine Met.ofW (cc := cX1_admits) (maxL := 2) (ret := (some .boolean)) (by decide) rfl ?_
  intro pr env s m args below meth c s₁ B hml hv
  obtain ⟨rfl, hsz, hW, hK, hO⟩ := hv
  have hx := B.exec
  have hb := B.bytes
  have hr := B.returns
  have hts := atoms_spec (ws := wsX1_admits) B.pre
  have hown : s.vm.findClass RX1 = some m.cls := findClass_of_methodNamed B.named
  have hlocks := B.notSynchronized
  have F : CallFix pr m c cX1_admits 2 s ([.ref h, .ref q] : List Value).toArray wsX1_admits RX1 := ⟨hx, hb, hml, hown, hts⟩
  have hI_X0 : ∀ w ∈ wsX00, w ∈ wsX1_admits := by decide +kernel
  have hI_X1 : ∀ w ∈ wsX10, w ∈ wsX1_admits := by decide +kernel
  have hl_fieldLink_RX1_9_SpliceBench_Holding_kind_I := hts (.fieldLink RX1 9 "SpliceBench$Holding" "kind" "I") (by decide +kernel)
  have hl_fieldLink_RX1_42_SpliceBench_Card_slide_Z := hts (.fieldLink RX1 42 "SpliceBench$Card" "slide" "Z") (by decide +kernel)
  have hl := lv_entry ([.ref h, .ref q]) (n := 2) (Nat.le_of_ble_eq_true rfl)
  rw [lg_entry_eq]
  generalize (lg_sl ([.ref h, .ref q]) ++ List.replicate (2 - (lg_sl ([.ref h, .ref q])).length) Slot.unset).toArray = ls at hl ⊢
  have hl : lv_has ls 2 [(0, .ref h), (1, .ref q)] := hl
  refine lv_aload_n hx hb dX1_admits_0 rfl (lv_at hl 0 rfl) ?_
  refine mw_get (C := RX1) (T := TX1) (N := 5) F hK hW hI_X1 hH.1 rfl 0 (by decide) hl_fieldLink_RX1_9_SpliceBench_Holding_kind_I rfl dX1_admits_1 ?_
  refine lv_iconst (v := 5) hx hb dX1_admits_4 (by decide) ?_
  refine lv_icmp_ne (tgt := 19) hx hb dX1_admits_5 (by decide) (fun c_5 => ?_) (fun c_5 => ?_)
  · refine lv_iconst (v := 1) hx hb dX1_admits_19 (by decide) ?_
    refine lv_goto (tgt := 24) hx hb dX1_admits_20 (by decide) ?_
    exact W.zret hx hb hr (by first | rfl | exact bI_nar _) (fun t ht _ => ⟨_, rfl, (by first | rfl | simp [bI, c_5]), ht⟩) (fun _ h => by cases h) dX1_admits_24
  · refine lv_aload_n hx hb dX1_admits_8 rfl (lv_at hl 1 rfl) ?_
    refine lv_ifnull hx hb dX1_admits_9 ?_
    refine lv_aload_n hx hb dX1_admits_12 rfl (lv_at hl 1 rfl) ?_
    refine mw_get (C := RX0) (T := TX0) (N := 3) F hK hW hI_X0 hq rfl 1 (by decide) hl_fieldLink_RX1_42_SpliceBench_Card_slide_Z rfl dX1_admits_13 ?_
    refine lv_if_eq (tgt := 23) hx hb dX1_admits_16 (by decide) (fun c_16 => ?_) (fun c_16 => ?_)
    · have c_16 := bI_e c_16
      refine lv_iconst (v := 0) hx hb dX1_admits_23 (by decide) ?_
      exact W.zret hx hb hr (by first | rfl | exact bI_nar _) (fun t ht _ => ⟨_, rfl, (by first | rfl | simp [bI, c_5, c_16]), ht⟩) (fun _ h => by cases h) dX1_admits_24
    · have c_16 := bI_n c_16
      refine lv_iconst (v := 1) hx hb dX1_admits_19 (by decide) ?_
      refine lv_goto (tgt := 24) hx hb dX1_admits_20 (by decide) ?_
      exact W.zret hx hb hr (by first | rfl | exact bI_nar _) (fun t ht _ => ⟨_, rfl, (by first | rfl | simp [bI, c_5, c_16]), ht⟩) (fun _ h => by cases h) dX1_admits_24
theorem c_X1_admits {h : Nat} {k : Int32} {pn na ca : Nat} {lb : Int32} {f : Nat → Int64} {g : Nat → Option Nat} {ev : Bool} (hH : hOk M cJ cC h k pn na ca lb f g) {r0 : Option Nat} (hn : r0 = none → ev = true) (hs : ∀ q, r0 = some q → ∃ num sh, M q = some (.inr (0, [.long num, .int (bI ev), .int sh]))) : Met l yX1_admits wsX1_admits rmX1_admits (va_Pc [.ref h, va_rf r0] (mwPre D (tyL cI cJ cC cH) M sz)) (vp_Si (fun r => r = bI (!decide (k = 5) || ev))) 0 0 (fun _ => False) := by
  cases r0 with
  | none => exact c_X1_admitsN hH (hn rfl)
  | some q =>
    obtain ⟨num, sh, hq⟩ := hs q rfl
    exact c_X1_admitsS hH hq
abbrev rmX1_countAdmitted : Room := ({ frames := 2, cells := 0, slots := 0, locals := 42 } : Room)
set_option maxHeartbeats 4000000 in
set_option maxRecDepth 100000 in
theorem c_X1_countAdmitted {h : Nat} {k : Int32} {pn na ca : Nat} {lb : Int32} {f : Nat → Int64} {g : Nat → Option Nat} {h' : Nat} {k' : Int32} {pn' na' ca' : Nat} {lb' : Int32} {f' : Nat → Int64} {g' : Nat → Option Nat} {i' n' : Nat} {ev : Nat → Bool} (hH : hOk M cJ cC h k pn na ca lb f g) (hH' : hOk M cJ cC h' k' pn' na' ca' lb' f' g') (hin : i' + n' ≤ pn') (hn : ∀ j, j < n' → cdAt k' pn' g' (nI (i' + j)) = none → ev j = true) (hs : ∀ j, j < n' → ∀ q, cdAt k' pn' g' (nI (i' + j)) = some q → ∃ num sh, M q = some (.inr (0, [.long num, .int (bI (ev j)), .int sh]))) : Met l yX1_countAdmitted wsX1_countAdmitted rmX1_countAdmitted (va_Pc [.ref h, .ref h', .int (nI i'), .int (nI n')] (mwPre D (tyL cI cJ cC cH) M sz)) (vp_Si (fun r => r = nI (lead (fun j => !decide (k = 5) || ev j) n'))) 0 0 (fun _ => False) := by
  refine Met.ofW (cc := cX1_countAdmitted) (maxL := 5) (ret := (some .int)) (by decide) rfl ?_
  intro pr env s m args below meth c s₁ B hml hv
  obtain ⟨rfl, hsz, hW, hK, hO⟩ := hv
  have hx := B.exec
  have hb := B.bytes
  have hr := B.returns
  have hts := atoms_spec (ws := wsX1_countAdmitted) B.pre
  have hown : s.vm.findClass RX1 = some m.cls := findClass_of_methodNamed B.named
  have hlocks := B.notSynchronized
  have F : CallFix pr m c cX1_countAdmitted 5 s ([.ref h, .ref h', .int (nI i'), .int (nI n')] : List Value).toArray wsX1_countAdmitted RX1 := ⟨hx, hb, hml, hown, hts⟩
  have hp8 := hH'.2.1
  have hl := lv_entry ([.ref h, .ref h', .int (nI i'), .int (nI n')]) (n := 5) (Nat.le_of_ble_eq_true rfl)
  rw [lg_entry_eq]
  generalize (lg_sl ([.ref h, .ref h', .int (nI i'), .int (nI n')]) ++ List.replicate (5 - (lg_sl ([.ref h, .ref h', .int (nI i'), .int (nI n')])).length) Slot.unset).toArray = ls at hl ⊢
  have hl : lv_has ls 5 [(0, .ref h), (1, .ref h'), (2, .int (nI i')), (3, .int (nI n'))] := hl
  refine lv_iconst (v := 0) hx hb dX1_countAdmitted_0 (by decide) ?_
  refine lv_istore (lv' := [(4, .int 0), (0, .ref h), (1, .ref h'), (2, .int (nI i')), (3, .int (nI n'))]) hx hb dX1_countAdmitted_1 hl (by decide) rfl (fun ls hl => ?_)
  have loop : ∀ (N : Nat) (j : Nat), n' + 1 ≤ j + N → j ≤ n' → (∀ x, x < j → (fun j => !decide (k = 5) || ev j) x = true) → ∀ (ls : Array Slot), lv_has ls 5 [(4, .int (nI j)), (0, .ref h), (1, .ref h'), (2, .int (nI i')), (3, .int (nI n'))] → W pr l env (headSpec wsX1_countAdmitted rmX1_countAdmitted).room s m ([.ref h, .ref h', .int (nI i'), .int (nI n')] : List Value).toArray below meth c s.heap [] 0 0 (MQ below (vp_Si (fun r => r = nI (lead (fun j => !decide (k = 5) || ev j) n'))) ([.ref h, .ref h', .int (nI i'), .int (nI n')] : List Value).toArray s 0 0 (fun _ => False)) (F0 m 3 ls []) := by
    intro N
    induction N with
    | zero =>
      exact fun j h1 h2 => absurd h1 (by omega)
    | succ N ih =>
      intro j hN hj hP ls hl
      refine lv_iload hx hb dX1_countAdmitted_3 (lv_at hl 0 rfl) ?_
      refine lv_iload_n hx hb dX1_countAdmitted_5 rfl (lv_at hl 4 rfl) ?_
      refine lv_icmp_ge (tgt := 33) hx hb dX1_countAdmitted_6 (by decide) (fun c_6 => ?_) (fun c_6 => ?_)
      · refine lv_iload_n hx hb dX1_countAdmitted_33 rfl (lv_at hl 4 rfl) ?_
        exact W.iret hx hb hr (fun t ht _ => ⟨_, rfl, (congrArg nI (lead_eq (Nat.le_refl _) (fun x hx9 => hP x (by have := (nI_leI (by omega) (by omega)).mp c_6; omega)) (fun h9 => absurd h9 (Nat.lt_irrefl _)))), ht⟩) (fun _ h => by cases h) dX1_countAdmitted_34
      · have hjn : j < n' := by
          rcases Nat.lt_or_ge j n' with h9 | h9
          · exact h9
          · exact absurd (nI_le h9 (by omega)) c_6
        refine lv_aload_n hx hb dX1_countAdmitted_9 rfl (lv_at hl 1 rfl) ?_
        refine lv_aload_n hx hb dX1_countAdmitted_10 rfl (lv_at hl 2 rfl) ?_
        refine lv_iload_n hx hb dX1_countAdmitted_11 rfl (lv_at hl 3 rfl) ?_
        refine lv_iload hx hb dX1_countAdmitted_12 (lv_at hl 0 rfl) ?_
        refine lv_iadd hx hb dX1_countAdmitted_14 ?_
        rw [nI_add]
        refine va_csq (W.runV (As := [.int (nI (i' + j))]) (rest := [.ref h]) F (c_X1_cardAt (i := nI (i' + j)) hH') (cwV 1 hts gX1_countAdmitted_X1_cardAt rfl rfl rfl (by decide +kernel) ⟨Nat.le_of_ble_eq_true rfl, Nat.le_of_ble_eq_true rfl⟩) (mw_prV (q := (RX1, TX1, 5)) hK hO hW rfl hH'.1) rfl rfl hl.1 rfl (lv_room (Nat.le_of_ble_eq_true rfl)) dX1_countAdmitted_15 ⟨Nat.zero_le _, Nat.zero_le _⟩) (fun r_1 er_1 => ?_)
        subst er_1
        refine vp_callSi (W.runV (As := [va_rf (cdAt k' pn' g' (nI (i' + j)))]) (rest := []) F (c_X1_admits (ev := ev j) hH (hn j hjn) (hs j hjn)) (cwV 1 hts gX1_countAdmitted_X1_admits rfl rfl rfl (by decide +kernel) ⟨Nat.le_of_ble_eq_true rfl, Nat.le_of_ble_eq_true rfl⟩) (mw_prV (q := (RX1, TX1, 5)) hK hO hW rfl hH.1) rfl rfl hl.1 rfl (lv_room (Nat.le_of_ble_eq_true rfl)) dX1_countAdmitted_18 ⟨Nat.zero_le _, Nat.zero_le _⟩) (fun r er => ?_)
        subst er
        refine lv_if_ne (tgt := 27) hx hb dX1_countAdmitted_21 (by decide) (fun c_21 => ?_) (fun c_21 => ?_)
        · have c_21 := bI_n c_21
          refine lv_iinc (v := nI (j + 1)) (lv' := [(4, .int (nI (j + 1))), (0, .ref h), (1, .ref h'), (2, .int (nI i')), (3, .int (nI n'))]) hx hb dX1_countAdmitted_27 hl (k := 0) rfl (nI_1 j) (by decide) rfl (fun ls hl => ?_)
          refine lv_goto (tgt := 3) hx hb dX1_countAdmitted_30 (by decide) ?_
          exact ih (j + 1) (by omega) (by omega) (fun x hx9 => by
            rcases Nat.lt_or_ge x j with h9 | h9
            · exact hP x h9
            · rw [show x = j by omega]; exact c_21) ls (lv_sub hl [0, 1, 2, 3, 4] rfl)
        · have c_21 := bI_e c_21
          refine lv_iload hx hb dX1_countAdmitted_24 (lv_at hl 0 rfl) ?_
          exact W.iret hx hb hr (fun t ht _ => ⟨_, rfl, (congrArg nI (lead_eq (Nat.le_of_lt hjn) hP (fun _ => c_21))), ht⟩) (fun _ h => by cases h) dX1_countAdmitted_26
  exact loop (n' + 1) 0 (by omega) (Nat.zero_le _) (fun x h9 => absurd h9 (Nat.not_lt_zero x)) ls (lv_sub hl [0, 1, 2, 3, 4] rfl)
abbrev rmX1_countFilled : Room := ({ frames := 2, cells := 0, slots := 0, locals := 42 } : Room)
set_option maxHeartbeats 4000000 in
set_option maxRecDepth 100000 in
theorem c_X1_countFilled {h : Nat} {k : Int32} {pn na ca : Nat} {lb : Int32} {f : Nat → Int64} {g : Nat → Option Nat} (hH : hOk M cJ cC h k pn na ca lb f g) : Met l yX1_countFilled wsX1_countFilled rmX1_countFilled (va_Pc [.ref h] (mwPre D (tyL cI cJ cC cH) M sz)) (vp_Si (fun r => r = nI (cntF (fun j => if kStrip k = true then !decide (f j = 0) else decide (cdAt k pn g (nI j) ≠ none)) pn))) 0 0 (fun _ => False) := by
  refine Met.ofW (cc := cX1_countFilled) (maxL := 3) (ret := (some .int)) (by decide) rfl ?_
  intro pr env s m args below meth c s₁ B hml hv
  obtain ⟨rfl, hsz, hW, hK, hO⟩ := hv
  have hx := B.exec
  have hb := B.bytes
  have hr := B.returns
  have hts := atoms_spec (ws := wsX1_countFilled) B.pre
  have hown : s.vm.findClass RX1 = some m.cls := findClass_of_methodNamed B.named
  have hlocks := B.notSynchronized
  have F : CallFix pr m c cX1_countFilled 3 s ([.ref h] : List Value).toArray wsX1_countFilled RX1 := ⟨hx, hb, hml, hown, hts⟩
  have hI_X1 : ∀ w ∈ wsX10, w ∈ wsX1_countFilled := by decide +kernel
  have hl_fieldLink_RX1_15_SpliceBench_Holding_places_I := hts (.fieldLink RX1 15 "SpliceBench$Holding" "places" "I") (by decide +kernel)
  have hl_fieldLink_RX1_25_SpliceBench_Holding_numbers_J := hts (.fieldLink RX1 25 "SpliceBench$Holding" "numbers" "[J") (by decide +kernel)
  have hp8 := hH.2.1
  have hl := lv_entry ([.ref h]) (n := 3) (Nat.le_of_ble_eq_true rfl)
  rw [lg_entry_eq]
  generalize (lg_sl ([.ref h]) ++ List.replicate (3 - (lg_sl ([.ref h])).length) Slot.unset).toArray = ls at hl ⊢
  have hl : lv_has ls 3 [(0, .ref h)] := hl
  refine lv_iconst (v := 0) hx hb dX1_countFilled_0 (by decide) ?_
  refine lv_istore_n (lv' := [(1, .int 0), (0, .ref h)]) hx hb dX1_countFilled_1 rfl hl (by decide) rfl (fun ls hl => ?_)
  refine lv_iconst (v := 0) hx hb dX1_countFilled_2 (by decide) ?_
  refine lv_istore_n (lv' := [(2, .int 0), (1, .int 0), (0, .ref h)]) hx hb dX1_countFilled_3 rfl hl (by decide) rfl (fun ls hl => ?_)
  have loop : ∀ (N : Nat) (j : Nat), pn + 1 ≤ j + N → j ≤ pn → ∀ (ls : Array Slot), lv_has ls 3 [(2, .int (nI j)), (1, .int (nI (cntF (fun j => if kStrip k = true then !decide (f j = 0) else decide (cdAt k pn g (nI j) ≠ none)) j))), (0, .ref h)] → W pr l env (headSpec wsX1_countFilled rmX1_countFilled).room s m ([.ref h] : List Value).toArray below meth c s.heap [] 0 0 (MQ below (vp_Si (fun r => r = nI (cntF (fun j => if kStrip k = true then !decide (f j = 0) else decide (cdAt k pn g (nI j) ≠ none)) pn))) ([.ref h] : List Value).toArray s 0 0 (fun _ => False)) (F0 m 4 ls []) := by
    intro N
    induction N with
    | zero =>
      exact fun j h1 h2 => absurd h1 (by omega)
    | succ N ih =>
      intro j hN hj ls hl
      refine lv_iload_n hx hb dX1_countFilled_4 rfl (lv_at hl 0 rfl) ?_
      refine lv_aload_n hx hb dX1_countFilled_5 rfl (lv_at hl 2 rfl) ?_
      refine mw_get (C := RX1) (T := TX1) (N := 5) F hK hW hI_X1 hH.1 rfl 1 (by decide) hl_fieldLink_RX1_15_SpliceBench_Holding_places_I rfl dX1_countFilled_6 ?_
      refine lv_icmp_ge (tgt := 50) hx hb dX1_countFilled_9 (by decide) (fun c_9 => ?_) (fun c_9 => ?_)
      · refine lv_iload_n hx hb dX1_countFilled_50 rfl (lv_at hl 1 rfl) ?_
        exact W.iret hx hb hr (fun t ht _ => ⟨_, rfl, (congrArg (fun z => nI (cntF (fun j => if kStrip k = true then !decide (f j = 0) else decide (cdAt k pn g (nI j) ≠ none)) z)) (show j = pn by have := (nI_leI (by omega) (by omega)).mp c_9; omega)), ht⟩) (fun _ h => by cases h) dX1_countFilled_51
      · have hjn : j < pn := by
          rcases Nat.lt_or_ge j pn with h9 | h9
          · exact h9
          · exact absurd (nI_le h9 (by omega)) c_9
        refine lv_aload_n hx hb dX1_countFilled_12 rfl (lv_at hl 2 rfl) ?_
        refine vp_callSi (W.runV (As := []) (rest := []) F (c_X1_isStrip hH.1) (cwV 0 hts gX1_countFilled_X1_isStrip rfl rfl rfl (by decide +kernel) ⟨Nat.le_of_ble_eq_true rfl, Nat.le_of_ble_eq_true rfl⟩) (mw_prV (q := (RX1, TX1, 5)) hK hO hW rfl hH.1) rfl rfl hl.1 rfl (lv_room (Nat.le_of_ble_eq_true rfl)) dX1_countFilled_13 ⟨Nat.zero_le _, Nat.zero_le _⟩) (fun r_1 er_1 => ?_)
        subst er_1
        refine lv_if_eq (tgt := 33) hx hb dX1_countFilled_16 (by decide) (fun c_16 => ?_) (fun c_16 => ?_)
        · have c_16 := bI_e c_16
          refine lv_aload_n hx hb dX1_countFilled_33 rfl (lv_at hl 2 rfl) ?_
          refine lv_iload_n hx hb dX1_countFilled_34 rfl (lv_at hl 0 rfl) ?_
          refine va_csq (W.runV (As := [.int (nI j)]) (rest := []) F (c_X1_cardAt (i := nI j) hH) (cwV 1 hts gX1_countFilled_X1_cardAt rfl rfl rfl (by decide +kernel) ⟨Nat.le_of_ble_eq_true rfl, Nat.le_of_ble_eq_true rfl⟩) (mw_prV (q := (RX1, TX1, 5)) hK hO hW rfl hH.1) rfl rfl hl.1 rfl (lv_room (Nat.le_of_ble_eq_true rfl)) dX1_countFilled_35 ⟨Nat.zero_le _, Nat.zero_le _⟩) (fun r_2 er_2 => ?_)
          subst er_2
          cases hcd : cdAt k pn g (nI j) with
          | none =>
            show W _ _ _ _ _ _ _ _ _ _ _ _ _ _ _ (F0 m 38 ls [.null])
            refine lv_ifnullN (tgt := 44) hx hb dX1_countFilled_38 (by decide) ?_
            refine lv_iinc (v := nI (j + 1)) (lv' := [(2, .int (nI (j + 1))), (1, .int (nI (cntF (fun j => if kStrip k = true then !decide (f j = 0) else decide (cdAt k pn g (nI j) ≠ none)) j))), (0, .ref h)]) hx hb dX1_countFilled_44 hl (k := 0) rfl (nI_1 j) (by decide) rfl (fun ls hl => ?_)
            refine lv_goto (tgt := 4) hx hb dX1_countFilled_47 (by decide) ?_
            have hc : cntF (fun j => if kStrip k = true then !decide (f j = 0) else decide (cdAt k pn g (nI j) ≠ none)) (j + 1) = (cntF (fun j => if kStrip k = true then !decide (f j = 0) else decide (cdAt k pn g (nI j) ≠ none)) j) := by
              simp [cntF, c_16, hcd]
            rw [← hc] at hl
            exact ih (j + 1) (by omega) (by omega) ls (lv_sub hl [0, 1, 2] rfl)
          | some q =>
            show W _ _ _ _ _ _ _ _ _ _ _ _ _ _ _ (F0 m 38 ls [.ref q])
            refine lv_ifnull hx hb dX1_countFilled_38 ?_
            refine lv_iinc (v := nI (cntF (fun j => if kStrip k = true then !decide (f j = 0) else decide (cdAt k pn g (nI j) ≠ none)) j + 1)) (lv' := [(1, .int (nI (cntF (fun j => if kStrip k = true then !decide (f j = 0) else decide (cdAt k pn g (nI j) ≠ none)) j + 1))), (2, .int (nI j)), (0, .ref h)]) hx hb dX1_countFilled_41 hl (k := 1) rfl (nI_1 _) (by decide) rfl (fun ls hl => ?_)
            refine lv_iinc (v := nI (j + 1)) (lv' := [(2, .int (nI (j + 1))), (1, .int (nI (cntF (fun j => if kStrip k = true then !decide (f j = 0) else decide (cdAt k pn g (nI j) ≠ none)) j + 1))), (0, .ref h)]) hx hb dX1_countFilled_44 hl (k := 1) rfl (nI_1 j) (by decide) rfl (fun ls hl => ?_)
            refine lv_goto (tgt := 4) hx hb dX1_countFilled_47 (by decide) ?_
            have hc : cntF (fun j => if kStrip k = true then !decide (f j = 0) else decide (cdAt k pn g (nI j) ≠ none)) (j + 1) = (cntF (fun j => if kStrip k = true then !decide (f j = 0) else decide (cdAt k pn g (nI j) ≠ none)) j + 1) := by
              simp [cntF, c_16, hcd]
            rw [← hc] at hl
            exact ih (j + 1) (by omega) (by omega) ls (lv_sub hl [0, 1, 2] rfl)
        · have c_16 := bI_n c_16
          refine lv_aload_n hx hb dX1_countFilled_19 rfl (lv_at hl 2 rfl) ?_
          refine mw_get (C := RX1) (T := TX1) (N := 5) F hK hW hI_X1 hH.1 rfl 2 (by decide) hl_fieldLink_RX1_25_SpliceBench_Holding_numbers_J rfl dX1_countFilled_20 ?_
          refine lv_iload_n hx hb dX1_countFilled_23 rfl (lv_at hl 0 rfl) ?_
          refine mw_lald F hK hW 1 hH.2.2.1 rfl (by rw [if_pos c_16]; exact vp_in_nI hjn (by omega)) dX1_countFilled_24 ?_
          rw [nI_clamp (show j < 2 ^ 31 by omega)]
          refine lv_lconst (v := 0) hx hb dX1_countFilled_25 (by decide) ?_
          refine W.lcmp hx hb dX1_countFilled_26 ?_
          refine lv_if_eq (tgt := 44) hx hb dX1_countFilled_27 (by decide) (fun c_27 => ?_) (fun c_27 => ?_)
          · have c_27 := (lg_cmp_eq _ _).mp c_27
            refine lv_iinc (v := nI (j + 1)) (lv' := [(2, .int (nI (j + 1))), (1, .int (nI (cntF (fun j => if kStrip k = true then !decide (f j = 0) else decide (cdAt k pn g (nI j) ≠ none)) j))), (0, .ref h)]) hx hb dX1_countFilled_44 hl (k := 0) rfl (nI_1 j) (by decide) rfl (fun ls hl => ?_)
            refine lv_goto (tgt := 4) hx hb dX1_countFilled_47 (by decide) ?_
            have hc : cntF (fun j => if kStrip k = true then !decide (f j = 0) else decide (cdAt k pn g (nI j) ≠ none)) (j + 1) = (cntF (fun j => if kStrip k = true then !decide (f j = 0) else decide (cdAt k pn g (nI j) ≠ none)) j) := by
              simp [cntF, c_16, c_27]
            rw [← hc] at hl
            exact ih (j + 1) (by omega) (by omega) ls (lv_sub hl [0, 1, 2] rfl)
          · have c_27 : ¬ (_ = _) := fun h9 => c_27 ((lg_cmp_eq _ _).mpr h9)
            refine lv_goto (tgt := 41) hx hb dX1_countFilled_30 (by decide) ?_
            refine lv_iinc (v := nI (cntF (fun j => if kStrip k = true then !decide (f j = 0) else decide (cdAt k pn g (nI j) ≠ none)) j + 1)) (lv' := [(1, .int (nI (cntF (fun j => if kStrip k = true then !decide (f j = 0) else decide (cdAt k pn g (nI j) ≠ none)) j + 1))), (2, .int (nI j)), (0, .ref h)]) hx hb dX1_countFilled_41 hl (k := 1) rfl (nI_1 _) (by decide) rfl (fun ls hl => ?_)
            refine lv_iinc (v := nI (j + 1)) (lv' := [(2, .int (nI (j + 1))), (1, .int (nI (cntF (fun j => if kStrip k = true then !decide (f j = 0) else decide (cdAt k pn g (nI j) ≠ none)) j + 1))), (0, .ref h)]) hx hb dX1_countFilled_44 hl (k := 1) rfl (nI_1 j) (by decide) rfl (fun ls hl => ?_)
            refine lv_goto (tgt := 4) hx hb dX1_countFilled_47 (by decide) ?_
            have hc : cntF (fun j => if kStrip k = true then !decide (f j = 0) else decide (cdAt k pn g (nI j) ≠ none)) (j + 1) = (cntF (fun j => if kStrip k = true then !decide (f j = 0) else decide (cdAt k pn g (nI j) ≠ none)) j + 1) := by
              simp [cntF, c_16, c_27]
            rw [← hc] at hl
            exact ih (j + 1) (by omega) (by omega) ls (lv_sub hl [0, 1, 2] rfl)
  exact loop (pn + 1) 0 (by omega) (Nat.zero_le _) ls (lv_sub hl [0, 1, 2] rfl)
end X1R
end
section
section MWC
variable {p : Program} {l : Launch} {e : Env} {R : Room} {s : State} {m : MethodId} {args : Array Value} {below : List Frame} {meth : Method} {c : Code} {H : Heap} {locs : List Loc} {cells slots : Nat} {Q : State → Prop}
variable {pc : Nat} {ls : Array Slot} {rest st0 : List Value} {D : va_G} {A0 : Nat → Prop} {a : Array Value} {tys : List (ClassId × FieldType)} {M : Nat → Option va_E} {H0 : Heap} {mc ms : Nat}
theorem mwA_sub (hW : mw D A0 M H) (hS : va_S A0 H0 H locs) (hA : ∀ q, H0.size ≤ q → A0 q) : ∀ q, mwA M H.size q → A0 q := by
  intro q h
  rcases h with h | h
  · cases hx : M q with
    | none => exact absurd hx h
    | some x => exact (hW.at hx).2
  · exact hA q (Nat.le_trans hS.1 h)
theorem mw_calli {post : Int32 → (Nat → Option va_E) → Prop} (hr : va_Run p l e R s m args below meth c H locs cells slots mc ms (F0 m pc ls st0) rest (va_Qi post (mwB D tys M H.size) (mwA M H.size) a) (mwA M H.size)) (hW : mw D A0 M H) (hS : va_S A0 H0 H locs) (hA : ∀ q, H0.size ≤ q → A0 q)
    (kk : ∀ (r : Int32) (M' : Nat → Option va_E) (H1 : Heap) (locs1 : List Loc), post r M' → mw D A0 M' H1 → va_S A0 H0 H1 locs1 → W p l e R s m args below meth c H1 locs1 (cells + mc) (slots + ms) Q (F0 m (pc + 3) ls (.int r :: rest))) : W p l e R s m args below meth c H locs cells slots Q (F0 m pc ls st0) := by
  have hF := mwA_sub hW hS hA
  refine va_calli hr hS (fun q _ h => hF q h) hF (fun r M' t H1 locs1 ht hvm hp hB hz hk hS1 => ?_)
  obtain ⟨hB1, -⟩ := hB
  rw [ht] at hB1
  exact kk r M' H1 locs1 hp (hB1.weaken (fun q _ h => hF q h)) hS1
theorem mw_callv {post : (Nat → Option va_E) → Prop} (hr : va_Run p l e R s m args below meth c H locs cells slots mc ms (F0 m pc ls st0) rest (va_Qv post (mwB D tys M H.size) (mwA M H.size) a) (mwA M H.size)) (hW : mw D A0 M H) (hS : va_S A0 H0 H locs) (hA : ∀ q, H0.size ≤ q → A0 q)
    (kk : ∀ (M' : Nat → Option va_E) (H1 : Heap) (locs1 : List Loc), post M' → mw D A0 M' H1 → va_S A0 H0 H1 locs1 → W p l e R s m args below meth c H1 locs1 (cells + mc) (slots + ms) Q (F0 m (pc + 3) ls rest)) : W p l e R s m args below meth c H locs cells slots Q (F0 m pc ls st0) := by
  have hF := mwA_sub hW hS hA
  refine va_callv hr hS (fun q _ h => hF q h) hF (fun M' t H1 locs1 ht hvm hp hB hz hk hS1 => ?_)
  obtain ⟨hB1, -⟩ := hB
  rw [ht] at hB1
  exact kk M' H1 locs1 hp (hB1.weaken (fun q _ h => hF q h)) hS1
end MWC
theorem mw_neq {M : Nat → Option va_E} {a b : Nat} {x y : va_E} (ha : M a = some x) (hb : M b = some y) (h : x ≠ y) : a ≠ b := fun e => h (Option.some.inj (ha.symm.trans (e ▸ hb)))
theorem mw_nnew {M : Nat → Option va_E} {a b : Nat} {x : va_E} (ha : M a = some x) (hb : M b = none) : a ≠ b := fun e => by rw [e, hb] at ha; cases ha
def evn (v : Int64) : Bool := decide (v &&& 1 = 0)
section HO
variable {M : Nat → Option va_E} {cJ cC : ClassId} {h : Nat} {k : Int32} {pn na ca : Nat} {lb : Int32} {f : Nat → Int64} {g : Nat → Option Nat}
theorem hOk.h_ne_ca (hH : hOk M cJ cC h k pn na ca lb f g) : h ≠ ca := mw_neq hH.1 hH.2.2.2 (fun z => by cases z)
theorem hOk.h_ne_na (hH : hOk M cJ cC h k pn na ca lb f g) : h ≠ na := mw_neq hH.1 hH.2.2.1 (fun z => by cases z)
theorem hOk.na_ne_ca (hH : hOk M cJ cC h k pn na ca lb f g) : na ≠ ca := mw_neq hH.2.2.1 hH.2.2.2 (fun z => by simp at z)
theorem hOk.cds (hH : hOk M cJ cC h k pn na ca lb f g) (hk : kRack k = true) : M ca = some (.inl (cC, pn, .inr (.inr (.inr (.inr g))))) := by
  have := hH.2.2.2
  rw [if_pos hk] at this
  exact this
theorem hOk.nms (hH : hOk M cJ cC h k pn na ca lb f g) (hk : kStrip k = true) : M na = some (.inl (cJ, pn, .inr (.inl f))) := by
  have := hH.2.2.1
  rw [if_pos hk] at this
  exact this
theorem hOk.setC (hH : hOk M cJ cC h k pn na ca lb f g) (hk : kRack k = true) (g' : Nat → Option Nat) : hOk (va_up M ca (some (.inl (cC, pn, .inr (.inr (.inr (.inr g'))))))) cJ cC h k pn na ca lb f g' := by
  refine ⟨?_, hH.2.1, ?_, ?_⟩
  · rw [va_up_ne _ _ hH.h_ne_ca]; exact hH.1
  · rw [va_up_ne _ _ hH.na_ne_ca]; exact hH.2.2.1
  · rw [va_up_self, if_pos hk]
theorem hOk.setN (hH : hOk M cJ cC h k pn na ca lb f g) (hk : kStrip k = true) (f' : Nat → Int64) : hOk (va_up M na (some (.inl (cJ, pn, .inr (.inl f'))))) cJ cC h k pn na ca lb f' g := by
  refine ⟨?_, hH.2.1, ?_, ?_⟩
  · rw [va_up_ne _ _ hH.h_ne_na]; exact hH.1
  · rw [va_up_self, if_pos hk]
  · rw [va_up_ne _ _ hH.na_ne_ca.symm]; exact hH.2.2.2
theorem hOk.out (hH : hOk M cJ cC h k pn na ca lb f g) {b : Nat} {x : Option va_E} (h1 : h ≠ b) (h2 : na ≠ b) (h3 : ca ≠ b) : hOk (va_up M b x) cJ cC h k pn na ca lb f g :=
  ⟨by rw [va_up_ne _ _ h1]; exact hH.1, hH.2.1, by rw [va_up_ne _ _ h2]; exact hH.2.2.1, by rw [va_up_ne _ _ h3]; exact hH.2.2.2⟩
theorem hOk.eqv {M' : Nat → Option va_E} (hH : hOk M cJ cC h k pn na ca lb f g) (h1 : M' h = M h) (h2 : M' na = M na) (h3 : M' ca = M ca) : hOk M' cJ cC h k pn na ca lb f g :=
  ⟨by rw [h1]; exact hH.1, hH.2.1, by rw [h2]; exact hH.2.2.1, by rw [h3]; exact hH.2.2.2⟩
end HO
theorem kRS {k : Int32} (h : kRack k = true) : kStrip k = false := by
  simp only [kRack, Bool.or_eq_true, decide_eq_true_eq] at h
  rcases h with rfl | rfl <;> decide
theorem kSR {k : Int32} (h : kStrip k = true) : kRack k = false := by
  simp only [kStrip, Bool.or_eq_true, decide_eq_true_eq] at h
  rcases h with rfl | rfl <;> decide
end
section
section X1M
variable {l : Launch} {D : va_G} {cI cJ cC cH : ClassId} {M : Nat → Option va_E} {sz : Nat}
abbrev rmX0_init : Room := ({ frames := 1, cells := 0, slots := 0, locals := 12 } : Room)
set_option maxHeartbeats 4000000 in
set_option maxRecDepth 100000 in
theorem c_X0_init {q : Nat} {v : Int64} (hq : M q = some (.inr (0, [.long 0, .int 0, .int 0]))) : Met l yX0_init wsX0_init rmX0_init (va_Pc [.ref q, .long v] (mwPre D (tyL cI cJ cC cH) M sz)) (va_Qv (fun M' => M' = va_up M q (some (.inr (0, [.long v, .int (bI (evn v)), .int 0])))) (mwB D (tyL cI cJ cC cH) M sz) (mwA M sz)) 0 0 (mwA M sz) := by
  refine Met.ofW (cc := cX0_init) (maxL := 3) (ret := none) (by decide) rfl ?_
  intro pr env s m args below meth c s₁ B hml hv
  obtain ⟨rfl, hsz, hW, hK, hO⟩ := hv
  subst hsz
  have hW := hW.self (sz := s.heap.size)
  have hS : va_S (mwA M s.heap.size) s.heap s.heap [] := va_S.rf
  have hA : ∀ q, s.heap.size ≤ q → mwA M s.heap.size q := fun q h => Or.inr h
  have hx := B.exec
  have hb := B.bytes
  have hr := B.returns
  have hts := atoms_spec (ws := wsX0_init) B.pre
  have hin : meth.name = "<init>" := (name_of_methodNamed B.named B.method).1
  have hown : s.vm.findClass RX0 = some m.cls := findClass_of_methodNamed B.named
  have hlocks := B.notSynchronized
  have F : CallFix pr m c cX0_init 3 s ([.ref q, .long v] : List Value).toArray wsX0_init RX0 := ⟨hx, hb, hml, hown, hts⟩
  have hI_X0 : ∀ w ∈ wsX00, w ∈ wsX0_init := by decide +kernel
  have hl_methodLink_RX0_1_objectInit := hts (.methodLink RX0 1 objectInit) (by decide +kernel)
  have hl_instanceMethod_objectInit := hts (.instanceMethod objectInit) (by decide +kernel)
  have hl_fieldLink_RX0_7_SpliceBench_Card_shown_I := hts (.fieldLink RX0 7 "SpliceBench$Card" "shown" "I") (by decide +kernel)
  have hl_fieldLink_RX0_13_SpliceBench_Card_number_J := hts (.fieldLink RX0 13 "SpliceBench$Card" "number" "J") (by decide +kernel)
  have hl_fieldLink_RX0_17_SpliceBench_Card_slide_Z := hts (.fieldLink RX0 17 "SpliceBench$Card" "slide" "Z") (by decide +kernel)
  have hl_oc := hts (.code objectInit ⟨#[0xb1]⟩ 1 none) (by decide +kernel)
  have hl := lv_entry ([.ref q, .long v]) (n := 3) (Nat.le_of_ble_eq_true rfl)
  rw [lg_entry_eq]
  generalize (lg_sl ([.ref q, .long v]) ++ List.replicate (3 - (lg_sl ([.ref q, .long v])).length) Slot.unset).toArray = ls at hl ⊢
  have hl : lv_has ls 3 [(0, .ref q), (1, .long v)] := hl
  refine lv_aload_n hx hb dX0_init_0 rfl (lv_at hl 0 rfl) ?_
  refine W.objInit hx hb hown hl_methodLink_RX0_1_objectInit hl_instanceMethod_objectInit hl_oc rfl (by rw [hml]; exact hl.1) rfl dX0_init_1 (Nat.le_of_ble_eq_true rfl) (Nat.le_of_ble_eq_true rfl) ?_
  refine W.eq (g2 := F0 m 4 ls []) rfl ?_
  refine lv_aload_n hx hb dX0_init_4 rfl (lv_at hl 0 rfl) ?_
  refine lv_iconst (v := 0) hx hb dX0_init_5 (by decide) ?_
  refine mw_put (C := RX0) (T := TX0) (N := 3) (v := .int 0) F hK hW hS hI_X0 tyX0 tyX0_ok nmX0 hq rfl 2 (by decide) hl_fieldLink_RX0_7_SpliceBench_Card_shown_I rfl rfl rfl (Nat.le_of_ble_eq_true rfl) dX0_init_6 (fun H locs hW hS => ?_)
  have hW : mw D (mwA M s.heap.size) (va_up M q (some (.inr (0, [.long 0, .int 0, .int 0])))) H := hW
  have hc_6 : (va_up M q (some (.inr (0, [.long 0, .int 0, .int 0])))) q = some (.inr (0, [.long 0, .int 0, .int 0])) := va_up_self _ _ _
  refine lv_aload_n hx hb dX0_init_9 rfl (lv_at hl 0 rfl) ?_
  refine lv_lload_n hx hb dX0_init_10 rfl (lv_at hl 1 rfl) ?_
  refine mw_putF (C := RX0) (T := TX0) (N := 3) (v := .long v) F hK hW hS hI_X0 tyX0 tyX0_ok nmX0 hc_6 rfl 0 (by decide) hl_fieldLink_RX0_13_SpliceBench_Card_number_J rfl hin rfl rfl rfl (Nat.le_of_ble_eq_true rfl) dX0_init_11 (fun H locs hW hS => ?_)
  have hW : mw D (mwA M s.heap.size) (va_up (va_up M q (some (.inr (0, [.long 0, .int 0, .int 0])))) q (some (.inr (0, [.long v, .int 0, .int 0])))) H := hW
  rw [bx_uu] at hW
  have hc_11 : (va_up M q (some (.inr (0, [.long v, .int 0, .int 0])))) q = some (.inr (0, [.long v, .int 0, .int 0])) := va_up_self _ _ _
  refine lv_aload_n hx hb dX0_init_14 rfl (lv_at hl 0 rfl) ?_
  refine lv_lload_n hx hb dX0_init_15 rfl (lv_at hl 1 rfl) ?_
  refine lv_lconst (v := 1) hx hb dX0_init_16 (by decide) ?_
  refine lv_land hx hb dX0_init_17 ?_
  refine lv_lconst (v := 0) hx hb dX0_init_18 (by decide) ?_
  refine W.lcmp hx hb dX0_init_19 ?_
  refine lv_if_ne (tgt := 27) hx hb dX0_init_20 (by decide) (fun c_20 => ?_) (fun c_20 => ?_)
  · have he : evn v = false := by simp only [evn]; exact decide_eq_false (fun z => c_20 ((lg_cmp_eq _ _).mpr z))
    refine lv_iconst (v := 0) hx hb dX0_init_27 (by decide) ?_
    refine mw_putF (C := RX0) (T := TX0) (N := 3) (v := .int 0) F hK hW hS hI_X0 tyX0 tyX0_ok nmX0 hc_11 rfl 1 (by decide) hl_fieldLink_RX0_17_SpliceBench_Card_slide_Z rfl hin rfl rfl rfl (Nat.le_of_ble_eq_true rfl) dX0_init_28 (fun H locs hW hS => ?_)
    have hW : mw D (mwA M s.heap.size) (va_up (va_up M q (some (.inr (0, [.long v, .int 0, .int 0])))) q (some (.inr (0, [.long v, .int 0, .int 0])))) H := hW
    rw [bx_uu] at hW
    have hc_28 : (va_up M q (some (.inr (0, [.long v, .int 0, .int 0])))) q = some (.inr (0, [.long v, .int 0, .int 0])) := va_up_self _ _ _
    exact W.vret hx hb hr (fun t ht hw => ⟨⟨va_up M q (some (.inr (0, [.long v, .int 0, .int 0]))), rfl, (by rw [he]; rfl), by rw [ht]; exact hW, va_K.moved hw.alike hK⟩, hS.F ht⟩) hS.2.2 dX0_init_31
  · have he : evn v = true := by simp only [evn]; exact decide_eq_true ((lg_cmp_eq _ _).mp c_20)
    refine lv_iconst (v := 1) hx hb dX0_init_23 (by decide) ?_
    refine lv_goto (tgt := 28) hx hb dX0_init_24 (by decide) ?_
    refine mw_putF (C := RX0) (T := TX0) (N := 3) (v := .int 1) F hK hW hS hI_X0 tyX0 tyX0_ok nmX0 hc_11 rfl 1 (by decide) hl_fieldLink_RX0_17_SpliceBench_Card_slide_Z rfl hin rfl rfl rfl (Nat.le_of_ble_eq_true rfl) dX0_init_28 (fun H locs hW hS => ?_)
    have hW : mw D (mwA M s.heap.size) (va_up (va_up M q (some (.inr (0, [.long v, .int 0, .int 0])))) q (some (.inr (0, [.long v, .int 1, .int 0])))) H := hW
    rw [bx_uu] at hW
    have hc_28 : (va_up M q (some (.inr (0, [.long v, .int 1, .int 0])))) q = some (.inr (0, [.long v, .int 1, .int 0])) := va_up_self _ _ _
    exact W.vret hx hb hr (fun t ht hw => ⟨⟨va_up M q (some (.inr (0, [.long v, .int 1, .int 0]))), rfl, (by rw [he]; rfl), by rw [ht]; exact hW, va_K.moved hw.alike hK⟩, hS.F ht⟩) hS.2.2 dX0_init_31
abbrev rmX1_init : Room := ({ frames := 1, cells := 2, slots := 80, locals := 20 } : Room)
set_option maxHeartbeats 4000000 in
set_option maxRecDepth 100000 in
theorem c_X1_init {h : Nat} {k : Int32} {pn : Nat} {lb : Int32} (hp8 : pn ≤ 80) (hh : M h = some (.inr (1, [.int 0, .int 0, .null, .null, .int 0]))) : Met l yX1_init wsX1_init rmX1_init (va_Pc [.ref h, .int k, .int (nI pn), .int lb] (mwPre D (tyL cI cJ cC cH) M sz)) (va_Qv (fun M' => ∃ na ca : Nat, hOk M' cJ cC h k pn na ca lb (fun _ => 0) (fun _ => none) ∧ M na = none ∧ M ca = none ∧ na ≠ ca ∧ ∀ a, a ≠ h → a ≠ na → a ≠ ca → M' a = M a) (mwB D (tyL cI cJ cC cH) M sz) (mwA M sz)) 2 80 (mwA M sz) := by
  refine Met.ofW (cc := cX1_init) (maxL := 4) (ret := none) (by decide) rfl ?_
  intro pr env s m args below meth c s₁ B hml hv
  obtain ⟨rfl, hsz, hW, hK, hO⟩ := hv
  subst hsz
  have hW := hW.self (sz := s.heap.size)
  have hS : va_S (mwA M s.heap.size) s.heap s.heap [] := va_S.rf
  have hA : ∀ q, s.heap.size ≤ q → mwA M s.heap.size q := fun q h => Or.inr h
  have hx := B.exec
  have hb := B.bytes
  have hr := B.returns
  have hts := atoms_spec (ws := wsX1_init) B.pre
  have hin : meth.name = "<init>" := (name_of_methodNamed B.named B.method).1
  have hown : s.vm.findClass RX1 = some m.cls := findClass_of_methodNamed B.named
  have hlocks := B.notSynchronized
  have F : CallFix pr m c cX1_init 4 s ([.ref h, .int k, .int (nI pn), .int lb] : List Value).toArray wsX1_init RX1 := ⟨hx, hb, hml, hown, hts⟩
  have hI_X1 : ∀ w ∈ wsX10, w ∈ wsX1_init := by decide +kernel
  have hl_methodLink_RX1_3_objectInit := hts (.methodLink RX1 3 objectInit) (by decide +kernel)
  have hl_instanceMethod_objectInit := hts (.instanceMethod objectInit) (by decide +kernel)
  have hl_fieldLink_RX1_9_SpliceBench_Holding_kind_I := hts (.fieldLink RX1 9 "SpliceBench$Holding" "kind" "I") (by decide +kernel)
  have hl_fieldLink_RX1_15_SpliceBench_Holding_places_I := hts (.fieldLink RX1 15 "SpliceBench$Holding" "places" "I") (by decide +kernel)
  have hl_fieldLink_RX1_18_SpliceBench_Holding_label_I := hts (.fieldLink RX1 18 "SpliceBench$Holding" "label" "I") (by decide +kernel)
  have hl_arrayClass_long := hts (.arrayClass .long) (by decide +kernel)
  have hl_fieldLink_RX1_25_SpliceBench_Holding_numbers_J := hts (.fieldLink RX1 25 "SpliceBench$Holding" "numbers" "[J") (by decide +kernel)
  have hl_classLink_RX1_32_RX0 := hts (.classLink RX1 32 RX0) (by decide +kernel)
  have hl_fieldLink_RX1_34_SpliceBench_Holding_cards_LSpliceBench_Card := hts (.fieldLink RX1 34 "SpliceBench$Holding" "cards" "[LSpliceBench$Card;") (by decide +kernel)
  have hl_oc := hts (.code objectInit ⟨#[0xb1]⟩ 1 none) (by decide +kernel)
  have hl := lv_entry ([.ref h, .int k, .int (nI pn), .int lb]) (n := 4) (Nat.le_of_ble_eq_true rfl)
  rw [lg_entry_eq]
  generalize (lg_sl ([.ref h, .int k, .int (nI pn), .int lb]) ++ List.replicate (4 - (lg_sl ([.ref h, .int k, .int (nI pn), .int lb])).length) Slot.unset).toArray = ls at hl ⊢
  have hl : lv_has ls 4 [(0, .ref h), (1, .int k), (2, .int (nI pn)), (3, .int lb)] := hl
  refine lv_aload_n hx hb dX1_init_0 rfl (lv_at hl 0 rfl) ?_
  refine W.objInit hx hb hown hl_methodLink_RX1_3_objectInit hl_instanceMethod_objectInit hl_oc rfl (by rw [hml]; exact hl.1) rfl dX1_init_1 (Nat.le_of_ble_eq_true rfl) (Nat.le_of_ble_eq_true rfl) ?_
  refine W.eq (g2 := F0 m 4 ls []) rfl ?_
  refine lv_aload_n hx hb dX1_init_4 rfl (lv_at hl 0 rfl) ?_
  refine lv_iload_n hx hb dX1_init_5 rfl (lv_at hl 1 rfl) ?_
  refine mw_putF (C := RX1) (T := TX1) (N := 5) (v := .int k) F hK hW hS hI_X1 tyX1 tyX1_ok nmX1 hh rfl 0 (by decide) hl_fieldLink_RX1_9_SpliceBench_Holding_kind_I rfl hin rfl rfl rfl (Nat.le_of_ble_eq_true rfl) dX1_init_6 (fun H locs hW hS => ?_)
  have hW : mw D (mwA M s.heap.size) (va_up M h (some (.inr (1, [.int k, .int 0, .null, .null, .int 0])))) H := hW
  have hc_6 : (va_up M h (some (.inr (1, [.int k, .int 0, .null, .null, .int 0])))) h = some (.inr (1, [.int k, .int 0, .null, .null, .int 0])) := va_up_self _ _ _
  refine lv_aload_n hx hb dX1_init_9 rfl (lv_at hl 0 rfl) ?_
  refine lv_iload_n hx hb dX1_init_10 rfl (lv_at hl 2 rfl) ?_
  refine mw_putF (C := RX1) (T := TX1) (N := 5) (v := .int (nI pn)) F hK hW hS hI_X1 tyX1 tyX1_ok nmX1 hc_6 rfl 1 (by decide) hl_fieldLink_RX1_15_SpliceBench_Holding_places_I rfl hin rfl rfl rfl (Nat.le_of_ble_eq_true rfl) dX1_init_11 (fun H locs hW hS => ?_)
  have hW : mw D (mwA M s.heap.size) (va_up (va_up M h (some (.inr (1, [.int k, .int 0, .null, .null, .int 0])))) h (some (.inr (1, [.int k, .int (nI pn), .null, .null, .int 0])))) H := hW
  rw [bx_uu] at hW
  have hc_11 : (va_up M h (some (.inr (1, [.int k, .int (nI pn), .null, .null, .int 0])))) h = some (.inr (1, [.int k, .int (nI pn), .null, .null, .int 0])) := va_up_self _ _ _
  refine lv_aload_n hx hb dX1_init_14 rfl (lv_at hl 0 rfl) ?_
  refine lv_iload_n hx hb dX1_init_15 rfl (lv_at hl 3 rfl) ?_
  refine mw_put (C := RX1) (T := TX1) (N := 5) (v := .int lb) F hK hW hS hI_X1 tyX1 tyX1_ok nmX1 hc_11 rfl 4 (by decide) hl_fieldLink_RX1_18_SpliceBench_Holding_label_I rfl rfl rfl (Nat.le_of_ble_eq_true rfl) dX1_init_16 (fun H locs hW hS => ?_)
  have hW : mw D (mwA M s.heap.size) (va_up (va_up M h (some (.inr (1, [.int k, .int (nI pn), .null, .null, .int 0])))) h (some (.inr (1, [.int k, .int (nI pn), .null, .null, .int lb])))) H := hW
  rw [bx_uu] at hW
  have hc_16 : (va_up M h (some (.inr (1, [.int k, .int (nI pn), .null, .null, .int lb])))) h = some (.inr (1, [.int k, .int (nI pn), .null, .null, .int lb])) := va_up_self _ _ _
  refine lv_aload_n hx hb dX1_init_19 rfl (lv_at hl 0 rfl) ?_
  refine lv_aload_n hx hb dX1_init_20 rfl (lv_at hl 0 rfl) ?_
  refine vp_callSi (W.runV (As := []) (rest := [.ref h]) F (c_X1_isStrip hc_16) (cwV 0 hts gX1_init_X1_isStrip rfl rfl rfl (by decide +kernel) ⟨Nat.le_of_ble_eq_true rfl, Nat.le_of_ble_eq_true rfl⟩) (mw_prV (q := (RX1, TX1, 5)) hK hO hW rfl hc_16) rfl rfl hl.1 rfl (lv_room (Nat.le_of_ble_eq_true rfl)) dX1_init_21 ⟨by show _ ≤ 2; omega, by show _ ≤ 80; omega⟩) (fun r_1 er_1 => ?_)
  subst er_1
  refine lv_if_eq (tgt := 31) hx hb dX1_init_24 (by decide) (fun c_24 => ?_) (fun c_24 => ?_)
  · have c_24 := bI_e c_24
    refine lv_iconst (v := 0) hx hb dX1_init_31 (by decide) ?_
    refine mw_newa (atype := .long) (n := 0) (N' := 0) (ty := .long) (a0 := (0, .inr (.inl (fun _ => 0)))) F hK hW hS hA 1 hl_arrayClass_long rfl rfl (fun C z => by cases z) (fun cA => rfl) (by decide) (by decide) (by show 0 * 8 ≤ _; omega) (by show _ ≤ 2; omega) (by show _ ≤ 80; omega) dX1_init_32 (fun na H hna hW hS => ?_)
    have hnh : h ≠ na := mw_nnew hc_16 hna
    have hc_na : (va_up (va_up M h (some (.inr (1, [.int k, .int (nI pn), .null, .null, .int lb])))) na (some (.inl (cJ, 0, .inr (.inl (fun _ => 0)))))) h = _ := (va_up_ne _ _ hnh).trans hc_16
    have ha_na : (va_up (va_up M h (some (.inr (1, [.int k, .int (nI pn), .null, .null, .int lb])))) na (some (.inl (cJ, 0, .inr (.inl (fun _ => 0)))))) na = _ := va_up_self _ _ _
    refine mw_putF (C := RX1) (T := TX1) (N := 5) (v := .ref na) F hK hW hS hI_X1 tyX1 tyX1_ok nmX1 hc_na rfl 2 (by decide) hl_fieldLink_RX1_25_SpliceBench_Holding_numbers_J rfl hin rfl rfl rfl (Nat.le_of_ble_eq_true rfl) dX1_init_34 (fun H locs hW hS => ?_)
    have hW : mw D (mwA M s.heap.size) (va_up (va_up (va_up M h (some (.inr (1, [.int k, .int (nI pn), .null, .null, .int lb])))) na (some (.inl (cJ, 0, .inr (.inl (fun _ => 0)))))) h (some (.inr (1, [.int k, .int (nI pn), .ref na, .null, .int lb])))) H := hW
    have hc_34 : (va_up (va_up (va_up M h (some (.inr (1, [.int k, .int (nI pn), .null, .null, .int lb])))) na (some (.inl (cJ, 0, .inr (.inl (fun _ => 0)))))) h (some (.inr (1, [.int k, .int (nI pn), .ref na, .null, .int lb])))) h = some (.inr (1, [.int k, .int (nI pn), .ref na, .null, .int lb])) := va_up_self _ _ _
    have ha_na2 : (va_up (va_up (va_up M h (some (.inr (1, [.int k, .int (nI pn), .null, .null, .int lb])))) na (some (.inl (cJ, 0, .inr (.inl (fun _ => 0)))))) h (some (.inr (1, [.int k, .int (nI pn), .ref na, .null, .int lb])))) na = _ := (va_up_ne _ _ hnh.symm).trans ha_na
    refine lv_aload_n hx hb dX1_init_37 rfl (lv_at hl 0 rfl) ?_
    refine lv_aload_n hx hb dX1_init_38 rfl (lv_at hl 0 rfl) ?_
    refine vp_callSi (W.runV (As := []) (rest := [.ref h]) F (c_X1_isRack hc_34) (cwV 0 hts gX1_init_X1_isRack rfl rfl rfl (by decide +kernel) ⟨Nat.le_of_ble_eq_true rfl, Nat.le_of_ble_eq_true rfl⟩) (mw_prV (q := (RX1, TX1, 5)) hK hO hW rfl hc_34) rfl rfl hl.1 rfl (lv_room (Nat.le_of_ble_eq_true rfl)) dX1_init_39 ⟨by show _ ≤ 2; omega, by show _ ≤ 80; omega⟩) (fun r_2 er_2 => ?_)
    subst er_2
    refine lv_if_eq (tgt := 49) hx hb dX1_init_42 (by decide) (fun c_42 => ?_) (fun c_42 => ?_)
    · have c_42 := bI_e c_42
      refine lv_iconst (v := 0) hx hb dX1_init_49 (by decide) ?_
      refine mw_newq (n := 0) (N' := 0) F hK hW hS hA 2 hl_classLink_RX1_32_RX0 hO.1 rfl (by decide) (by decide) (by omega) (by show _ ≤ 2; omega) (by show _ ≤ 80; omega) dX1_init_50 (fun ca H hca hW hS => ?_)
      have hch : h ≠ ca := mw_nnew hc_34 hca
      have hcn : na ≠ ca := mw_nnew ha_na2 hca
      have hc_ca : (va_up (va_up (va_up (va_up M h (some (.inr (1, [.int k, .int (nI pn), .null, .null, .int lb])))) na (some (.inl (cJ, 0, .inr (.inl (fun _ => 0)))))) h (some (.inr (1, [.int k, .int (nI pn), .ref na, .null, .int lb])))) ca (some (.inl (cC, 0, .inr (.inr (.inr (.inr (fun _ => none)))))))) h = _ := (va_up_ne _ _ hch).trans hc_34
      have ha_ca : (va_up (va_up (va_up (va_up M h (some (.inr (1, [.int k, .int (nI pn), .null, .null, .int lb])))) na (some (.inl (cJ, 0, .inr (.inl (fun _ => 0)))))) h (some (.inr (1, [.int k, .int (nI pn), .ref na, .null, .int lb])))) ca (some (.inl (cC, 0, .inr (.inr (.inr (.inr (fun _ => none)))))))) ca = _ := va_up_self _ _ _
      have ha_na3 : (va_up (va_up (va_up (va_up M h (some (.inr (1, [.int k, .int (nI pn), .null, .null, .int lb])))) na (some (.inl (cJ, 0, .inr (.inl (fun _ => 0)))))) h (some (.inr (1, [.int k, .int (nI pn), .ref na, .null, .int lb])))) ca (some (.inl (cC, 0, .inr (.inr (.inr (.inr (fun _ => none)))))))) na = _ := (va_up_ne _ _ hcn).trans ha_na2
      refine mw_putF (C := RX1) (T := TX1) (N := 5) (v := .ref ca) F hK hW hS hI_X1 tyX1 tyX1_ok nmX1 hc_ca rfl 3 (by decide) hl_fieldLink_RX1_34_SpliceBench_Holding_cards_LSpliceBench_Card rfl hin rfl rfl rfl (Nat.le_of_ble_eq_true rfl) dX1_init_53 (fun H locs hW hS => ?_)
      have hW : mw D (mwA M s.heap.size) (va_up (va_up (va_up (va_up (va_up M h (some (.inr (1, [.int k, .int (nI pn), .null, .null, .int lb])))) na (some (.inl (cJ, 0, .inr (.inl (fun _ => 0)))))) h (some (.inr (1, [.int k, .int (nI pn), .ref na, .null, .int lb])))) ca (some (.inl (cC, 0, .inr (.inr (.inr (.inr (fun _ => none)))))))) h (some (.inr (1, [.int k, .int (nI pn), .ref na, .ref ca, .int lb])))) H := hW
      have hc_53 : (va_up (va_up (va_up (va_up (va_up M h (some (.inr (1, [.int k, .int (nI pn), .null, .null, .int lb])))) na (some (.inl (cJ, 0, .inr (.inl (fun _ => 0)))))) h (some (.inr (1, [.int k, .int (nI pn), .ref na, .null, .int lb])))) ca (some (.inl (cC, 0, .inr (.inr (.inr (.inr (fun _ => none)))))))) h (some (.inr (1, [.int k, .int (nI pn), .ref na, .ref ca, .int lb])))) h = some (.inr (1, [.int k, .int (nI pn), .ref na, .ref ca, .int lb])) := va_up_self _ _ _
      have ha_na4 : (va_up (va_up (va_up (va_up (va_up M h (some (.inr (1, [.int k, .int (nI pn), .null, .null, .int lb])))) na (some (.inl (cJ, 0, .inr (.inl (fun _ => 0)))))) h (some (.inr (1, [.int k, .int (nI pn), .ref na, .null, .int lb])))) ca (some (.inl (cC, 0, .inr (.inr (.inr (.inr (fun _ => none)))))))) h (some (.inr (1, [.int k, .int (nI pn), .ref na, .ref ca, .int lb])))) na = _ := (va_up_ne _ _ hnh.symm).trans ha_na3
      have ha_ca2 : (va_up (va_up (va_up (va_up (va_up M h (some (.inr (1, [.int k, .int (nI pn), .null, .null, .int lb])))) na (some (.inl (cJ, 0, .inr (.inl (fun _ => 0)))))) h (some (.inr (1, [.int k, .int (nI pn), .ref na, .null, .int lb])))) ca (some (.inl (cC, 0, .inr (.inr (.inr (.inr (fun _ => none)))))))) h (some (.inr (1, [.int k, .int (nI pn), .ref na, .ref ca, .int lb])))) ca = _ := (va_up_ne _ _ hch.symm).trans ha_ca
      have hMna : M na = none := by
        have := hna
        rw [va_up_ne _ _ hnh.symm] at this
        exact this
      have hMca : M ca = none := by
        have := hca
        rw [va_up_ne _ _ hch.symm, va_up_ne _ _ hcn.symm, va_up_ne _ _ hch.symm] at this
        exact this
      have hfin : hOk (va_up (va_up (va_up (va_up (va_up M h (some (.inr (1, [.int k, .int (nI pn), .null, .null, .int lb])))) na (some (.inl (cJ, 0, .inr (.inl (fun _ => 0)))))) h (some (.inr (1, [.int k, .int (nI pn), .ref na, .null, .int lb])))) ca (some (.inl (cC, 0, .inr (.inr (.inr (.inr (fun _ => none)))))))) h (some (.inr (1, [.int k, .int (nI pn), .ref na, .ref ca, .int lb])))) cJ cC h k pn na ca lb (fun _ => 0) (fun _ => none) := ⟨hc_53, hp8, by rw [ha_na4]; simp [c_24], by rw [ha_ca2]; simp [c_42]⟩
      refine W.widen (k := 2) (n := 80) (by omega) (by omega) ?_
      exact W.vret hx hb hr (fun t ht hw => ⟨⟨va_up (va_up (va_up (va_up (va_up M h (some (.inr (1, [.int k, .int (nI pn), .null, .null, .int lb])))) na (some (.inl (cJ, 0, .inr (.inl (fun _ => 0)))))) h (some (.inr (1, [.int k, .int (nI pn), .ref na, .null, .int lb])))) ca (some (.inl (cC, 0, .inr (.inr (.inr (.inr (fun _ => none)))))))) h (some (.inr (1, [.int k, .int (nI pn), .ref na, .ref ca, .int lb]))), rfl, ⟨na, ca, hfin, hMna, hMca, hcn, fun a n1 n2 n3 => by rw [va_up_ne _ _ n1, va_up_ne _ _ n3, va_up_ne _ _ n1, va_up_ne _ _ n2, va_up_ne _ _ n1]⟩, by rw [ht]; exact hW, va_K.moved hw.alike hK⟩, hS.F ht⟩) hS.2.2 dX1_init_56
    · have c_42 := bI_n c_42
      refine lv_iload_n hx hb dX1_init_45 rfl (lv_at hl 2 rfl) ?_
      refine lv_goto (tgt := 50) hx hb dX1_init_46 (by decide) ?_
      refine mw_newq (n := nI pn) (N' := pn) F hK hW hS hA 2 hl_classLink_RX1_32_RX0 hO.1 rfl (nI_pos (by omega)) (nI_clamp (by omega)) (by omega) (by show _ ≤ 2; omega) (by show _ ≤ 80; omega) dX1_init_50 (fun ca H hca hW hS => ?_)
      have hch : h ≠ ca := mw_nnew hc_34 hca
      have hcn : na ≠ ca := mw_nnew ha_na2 hca
      have hc_ca : (va_up (va_up (va_up (va_up M h (some (.inr (1, [.int k, .int (nI pn), .null, .null, .int lb])))) na (some (.inl (cJ, 0, .inr (.inl (fun _ => 0)))))) h (some (.inr (1, [.int k, .int (nI pn), .ref na, .null, .int lb])))) ca (some (.inl (cC, pn, .inr (.inr (.inr (.inr (fun _ => none)))))))) h = _ := (va_up_ne _ _ hch).trans hc_34
      have ha_ca : (va_up (va_up (va_up (va_up M h (some (.inr (1, [.int k, .int (nI pn), .null, .null, .int lb])))) na (some (.inl (cJ, 0, .inr (.inl (fun _ => 0)))))) h (some (.inr (1, [.int k, .int (nI pn), .ref na, .null, .int lb])))) ca (some (.inl (cC, pn, .inr (.inr (.inr (.inr (fun _ => none)))))))) ca = _ := va_up_self _ _ _
      have ha_na3 : (va_up (va_up (va_up (va_up M h (some (.inr (1, [.int k, .int (nI pn), .null, .null, .int lb])))) na (some (.inl (cJ, 0, .inr (.inl (fun _ => 0)))))) h (some (.inr (1, [.int k, .int (nI pn), .ref na, .null, .int lb])))) ca (some (.inl (cC, pn, .inr (.inr (.inr (.inr (fun _ => none)))))))) na = _ := (va_up_ne _ _ hcn).trans ha_na2
      refine mw_putF (C := RX1) (T := TX1) (N := 5) (v := .ref ca) F hK hW hS hI_X1 tyX1 tyX1_ok nmX1 hc_ca rfl 3 (by decide) hl_fieldLink_RX1_34_SpliceBench_Holding_cards_LSpliceBench_Card rfl hin rfl rfl rfl (Nat.le_of_ble_eq_true rfl) dX1_init_53 (fun H locs hW hS => ?_)
      have hW : mw D (mwA M s.heap.size) (va_up (va_up (va_up (va_up (va_up M h (some (.inr (1, [.int k, .int (nI pn), .null, .null, .int lb])))) na (some (.inl (cJ, 0, .inr (.inl (fun _ => 0)))))) h (some (.inr (1, [.int k, .int (nI pn), .ref na, .null, .int lb])))) ca (some (.inl (cC, pn, .inr (.inr (.inr (.inr (fun _ => none)))))))) h (some (.inr (1, [.int k, .int (nI pn), .ref na, .ref ca, .int lb])))) H := hW
      have hc_53 : (va_up (va_up (va_up (va_up (va_up M h (some (.inr (1, [.int k, .int (nI pn), .null, .null, .int lb])))) na (some (.inl (cJ, 0, .inr (.inl (fun _ => 0)))))) h (some (.inr (1, [.int k, .int (nI pn), .ref na, .null, .int lb])))) ca (some (.inl (cC, pn, .inr (.inr (.inr (.inr (fun _ => none)))))))) h (some (.inr (1, [.int k, .int (nI pn), .ref na, .ref ca, .int lb])))) h = some (.inr (1, [.int k, .int (nI pn), .ref na, .ref ca, .int lb])) := va_up_self _ _ _
      have ha_na4 : (va_up (va_up (va_up (va_up (va_up M h (some (.inr (1, [.int k, .int (nI pn), .null, .null, .int lb])))) na (some (.inl (cJ, 0, .inr (.inl (fun _ => 0)))))) h (some (.inr (1, [.int k, .int (nI pn), .ref na, .null, .int lb])))) ca (some (.inl (cC, pn, .inr (.inr (.inr (.inr (fun _ => none)))))))) h (some (.inr (1, [.int k, .int (nI pn), .ref na, .ref ca, .int lb])))) na = _ := (va_up_ne _ _ hnh.symm).trans ha_na3
      have ha_ca2 : (va_up (va_up (va_up (va_up (va_up M h (some (.inr (1, [.int k, .int (nI pn), .null, .null, .int lb])))) na (some (.inl (cJ, 0, .inr (.inl (fun _ => 0)))))) h (some (.inr (1, [.int k, .int (nI pn), .ref na, .null, .int lb])))) ca (some (.inl (cC, pn, .inr (.inr (.inr (.inr (fun _ => none)))))))) h (some (.inr (1, [.int k, .int (nI pn), .ref na, .ref ca, .int lb])))) ca = _ := (va_up_ne _ _ hch.symm).trans ha_ca
      have hMna : M na = none := by
        have := hna
        rw [va_up_ne _ _ hnh.symm] at this
        exact this
      have hMca : M ca = none := by
        have := hca
        rw [va_up_ne _ _ hch.symm, va_up_ne _ _ hcn.symm, va_up_ne _ _ hch.symm] at this
        exact this
      have hfin : hOk (va_up (va_up (va_up (va_up (va_up M h (some (.inr (1, [.int k, .int (nI pn), .null, .null, .int lb])))) na (some (.inl (cJ, 0, .inr (.inl (fun _ => 0)))))) h (some (.inr (1, [.int k, .int (nI pn), .ref na, .null, .int lb])))) ca (some (.inl (cC, pn, .inr (.inr (.inr (.inr (fun _ => none)))))))) h (some (.inr (1, [.int k, .int (nI pn), .ref na, .ref ca, .int lb])))) cJ cC h k pn na ca lb (fun _ => 0) (fun _ => none) := ⟨hc_53, hp8, by rw [ha_na4]; simp [c_24], by rw [ha_ca2]; simp [c_42]⟩
      refine W.widen (k := 2) (n := 80) (by omega) (by omega) ?_
      exact W.vret hx hb hr (fun t ht hw => ⟨⟨va_up (va_up (va_up (va_up (va_up M h (some (.inr (1, [.int k, .int (nI pn), .null, .null, .int lb])))) na (some (.inl (cJ, 0, .inr (.inl (fun _ => 0)))))) h (some (.inr (1, [.int k, .int (nI pn), .ref na, .null, .int lb])))) ca (some (.inl (cC, pn, .inr (.inr (.inr (.inr (fun _ => none)))))))) h (some (.inr (1, [.int k, .int (nI pn), .ref na, .ref ca, .int lb]))), rfl, ⟨na, ca, hfin, hMna, hMca, hcn, fun a n1 n2 n3 => by rw [va_up_ne _ _ n1, va_up_ne _ _ n3, va_up_ne _ _ n1, va_up_ne _ _ n2, va_up_ne _ _ n1]⟩, by rw [ht]; exact hW, va_K.moved hw.alike hK⟩, hS.F ht⟩) hS.2.2 dX1_init_56
  · have c_24 := bI_n c_24
    refine lv_iload_n hx hb dX1_init_27 rfl (lv_at hl 2 rfl) ?_
    refine lv_goto (tgt := 32) hx hb dX1_init_28 (by decide) ?_
    refine mw_newa (atype := .long) (n := nI pn) (N' := pn) (ty := .long) (a0 := (pn, .inr (.inl (fun _ => 0)))) F hK hW hS hA 1 hl_arrayClass_long rfl rfl (fun C z => by cases z) (fun cA => rfl) (nI_pos (by omega)) (nI_clamp (by omega)) (by show pn * 8 ≤ _; omega) (by show _ ≤ 2; omega) (by show _ ≤ 80; omega) dX1_init_32 (fun na H hna hW hS => ?_)
    have hnh : h ≠ na := mw_nnew hc_16 hna
    have hc_na : (va_up (va_up M h (some (.inr (1, [.int k, .int (nI pn), .null, .null, .int lb])))) na (some (.inl (cJ, pn, .inr (.inl (fun _ => 0)))))) h = _ := (va_up_ne _ _ hnh).trans hc_16
    have ha_na : (va_up (va_up M h (some (.inr (1, [.int k, .int (nI pn), .null, .null, .int lb])))) na (some (.inl (cJ, pn, .inr (.inl (fun _ => 0)))))) na = _ := va_up_self _ _ _
    refine mw_putF (C := RX1) (T := TX1) (N := 5) (v := .ref na) F hK hW hS hI_X1 tyX1 tyX1_ok nmX1 hc_na rfl 2 (by decide) hl_fieldLink_RX1_25_SpliceBench_Holding_numbers_J rfl hin rfl rfl rfl (Nat.le_of_ble_eq_true rfl) dX1_init_34 (fun H locs hW hS => ?_)
    have hW : mw D (mwA M s.heap.size) (va_up (va_up (va_up M h (some (.inr (1, [.int k, .int (nI pn), .null, .null, .int lb])))) na (some (.inl (cJ, pn, .inr (.inl (fun _ => 0)))))) h (some (.inr (1, [.int k, .int (nI pn), .ref na, .null, .int lb])))) H := hW
    have hc_34 : (va_up (va_up (va_up M h (some (.inr (1, [.int k, .int (nI pn), .null, .null, .int lb])))) na (some (.inl (cJ, pn, .inr (.inl (fun _ => 0)))))) h (some (.inr (1, [.int k, .int (nI pn), .ref na, .null, .int lb])))) h = some (.inr (1, [.int k, .int (nI pn), .ref na, .null, .int lb])) := va_up_self _ _ _
    have ha_na2 : (va_up (va_up (va_up M h (some (.inr (1, [.int k, .int (nI pn), .null, .null, .int lb])))) na (some (.inl (cJ, pn, .inr (.inl (fun _ => 0)))))) h (some (.inr (1, [.int k, .int (nI pn), .ref na, .null, .int lb])))) na = _ := (va_up_ne _ _ hnh.symm).trans ha_na
    refine lv_aload_n hx hb dX1_init_37 rfl (lv_at hl 0 rfl) ?_
    refine lv_aload_n hx hb dX1_init_38 rfl (lv_at hl 0 rfl) ?_
    refine vp_callSi (W.runV (As := []) (rest := [.ref h]) F (c_X1_isRack hc_34) (cwV 0 hts gX1_init_X1_isRack rfl rfl rfl (by decide +kernel) ⟨Nat.le_of_ble_eq_true rfl, Nat.le_of_ble_eq_true rfl⟩) (mw_prV (q := (RX1, TX1, 5)) hK hO hW rfl hc_34) rfl rfl hl.1 rfl (lv_room (Nat.le_of_ble_eq_true rfl)) dX1_init_39 ⟨by show _ ≤ 2; omega, by show _ ≤ 80; omega⟩) (fun r_3 er_3 => ?_)
    subst er_3
    refine lv_if_eq (tgt := 49) hx hb dX1_init_42 (by decide) (fun c_42 => ?_) (fun c_42 => ?_)
    · have c_42 := bI_e c_42
      refine lv_iconst (v := 0) hx hb dX1_init_49 (by decide) ?_
      refine mw_newq (n := 0) (N' := 0) F hK hW hS hA 2 hl_classLink_RX1_32_RX0 hO.1 rfl (by decide) (by decide) (by omega) (by show _ ≤ 2; omega) (by show _ ≤ 80; omega) dX1_init_50 (fun ca H hca hW hS => ?_)
      have hch : h ≠ ca := mw_nnew hc_34 hca
      have hcn : na ≠ ca := mw_nnew ha_na2 hca
      have hc_ca : (va_up (va_up (va_up (va_up M h (some (.inr (1, [.int k, .int (nI pn), .null, .null, .int lb])))) na (some (.inl (cJ, pn, .inr (.inl (fun _ => 0)))))) h (some (.inr (1, [.int k, .int (nI pn), .ref na, .null, .int lb])))) ca (some (.inl (cC, 0, .inr (.inr (.inr (.inr (fun _ => none)))))))) h = _ := (va_up_ne _ _ hch).trans hc_34
      have ha_ca : (va_up (va_up (va_up (va_up M h (some (.inr (1, [.int k, .int (nI pn), .null, .null, .int lb])))) na (some (.inl (cJ, pn, .inr (.inl (fun _ => 0)))))) h (some (.inr (1, [.int k, .int (nI pn), .ref na, .null, .int lb])))) ca (some (.inl (cC, 0, .inr (.inr (.inr (.inr (fun _ => none)))))))) ca = _ := va_up_self _ _ _
      have ha_na3 : (va_up (va_up (va_up (va_up M h (some (.inr (1, [.int k, .int (nI pn), .null, .null, .int lb])))) na (some (.inl (cJ, pn, .inr (.inl (fun _ => 0)))))) h (some (.inr (1, [.int k, .int (nI pn), .ref na, .null, .int lb])))) ca (some (.inl (cC, 0, .inr (.inr (.inr (.inr (fun _ => none)))))))) na = _ := (va_up_ne _ _ hcn).trans ha_na2
      refine mw_putF (C := RX1) (T := TX1) (N := 5) (v := .ref ca) F hK hW hS hI_X1 tyX1 tyX1_ok nmX1 hc_ca rfl 3 (by decide) hl_fieldLink_RX1_34_SpliceBench_Holding_cards_LSpliceBench_Card rfl hin rfl rfl rfl (Nat.le_of_ble_eq_true rfl) dX1_init_53 (fun H locs hW hS => ?_)
      have hW : mw D (mwA M s.heap.size) (va_up (va_up (va_up (va_up (va_up M h (some (.inr (1, [.int k, .int (nI pn), .null, .null, .int lb])))) na (some (.inl (cJ, pn, .inr (.inl (fun _ => 0)))))) h (some (.inr (1, [.int k, .int (nI pn), .ref na, .null, .int lb])))) ca (some (.inl (cC, 0, .inr (.inr (.inr (.inr (fun _ => none)))))))) h (some (.inr (1, [.int k, .int (nI pn), .ref na, .ref ca, .int lb])))) H := hW
      have hc_53 : (va_up (va_up (va_up (va_up (va_up M h (some (.inr (1, [.int k, .int (nI pn), .null, .null, .int lb])))) na (some (.inl (cJ, pn, .inr (.inl (fun _ => 0)))))) h (some (.inr (1, [.int k, .int (nI pn), .ref na, .null, .int lb])))) ca (some (.inl (cC, 0, .inr (.inr (.inr (.inr (fun _ => none)))))))) h (some (.inr (1, [.int k, .int (nI pn), .ref na, .ref ca, .int lb])))) h = some (.inr (1, [.int k, .int (nI pn), .ref na, .ref ca, .int lb])) := va_up_self _ _ _
      have ha_na4 : (va_up (va_up (va_up (va_up (va_up M h (some (.inr (1, [.int k, .int (nI pn), .null, .null, .int lb])))) na (some (.inl (cJ, pn, .inr (.inl (fun _ => 0)))))) h (some (.inr (1, [.int k, .int (nI pn), .ref na, .null, .int lb])))) ca (some (.inl (cC, 0, .inr (.inr (.inr (.inr (fun _ => none)))))))) h (some (.inr (1, [.int k, .int (nI pn), .ref na, .ref ca, .int lb])))) na = _ := (va_up_ne _ _ hnh.symm).trans ha_na3
      have ha_ca2 : (va_up (va_up (va_up (va_up (va_up M h (some (.inr (1, [.int k, .int (nI pn), .null, .null, .int lb])))) na (some (.inl (cJ, pn, .inr (.inl (fun _ => 0)))))) h (some (.inr (1, [.int k, .int (nI pn), .ref na, .null, .int lb])))) ca (some (.inl (cC, 0, .inr (.inr (.inr (.inr (fun _ => none)))))))) h (some (.inr (1, [.int k, .int (nI pn), .ref na, .ref ca, .int lb])))) ca = _ := (va_up_ne _ _ hch.symm).trans ha_ca
      have hMna : M na = none := by
        have := hna
        rw [va_up_ne _ _ hnh.symm] at this
        exact this
      have hMca : M ca = none := by
        have := hca
        rw [va_up_ne _ _ hch.symm, va_up_ne _ _ hcn.symm, va_up_ne _ _ hch.symm] at this
        exact this
      have hfin : hOk (va_up (va_up (va_up (va_up (va_up M h (some (.inr (1, [.int k, .int (nI pn), .null, .null, .int lb])))) na (some (.inl (cJ, pn, .inr (.inl (fun _ => 0)))))) h (some (.inr (1, [.int k, .int (nI pn), .ref na, .null, .int lb])))) ca (some (.inl (cC, 0, .inr (.inr (.inr (.inr (fun _ => none)))))))) h (some (.inr (1, [.int k, .int (nI pn), .ref na, .ref ca, .int lb])))) cJ cC h k pn na ca lb (fun _ => 0) (fun _ => none) := ⟨hc_53, hp8, by rw [ha_na4]; simp [c_24], by rw [ha_ca2]; simp [c_42]⟩
      refine W.widen (k := 2) (n := 80) (by omega) (by omega) ?_
      exact W.vret hx hb hr (fun t ht hw => ⟨⟨va_up (va_up (va_up (va_up (va_up M h (some (.inr (1, [.int k, .int (nI pn), .null, .null, .int lb])))) na (some (.inl (cJ, pn, .inr (.inl (fun _ => 0)))))) h (some (.inr (1, [.int k, .int (nI pn), .ref na, .null, .int lb])))) ca (some (.inl (cC, 0, .inr (.inr (.inr (.inr (fun _ => none)))))))) h (some (.inr (1, [.int k, .int (nI pn), .ref na, .ref ca, .int lb]))), rfl, ⟨na, ca, hfin, hMna, hMca, hcn, fun a n1 n2 n3 => by rw [va_up_ne _ _ n1, va_up_ne _ _ n3, va_up_ne _ _ n1, va_up_ne _ _ n2, va_up_ne _ _ n1]⟩, by rw [ht]; exact hW, va_K.moved hw.alike hK⟩, hS.F ht⟩) hS.2.2 dX1_init_56
    · exact absurd (bI_n c_42) (by rw [kSR c_24]; decide)
end X1M
end
section
section X1W
variable {l : Launch} {D : va_G} {cI cJ cC cH : ClassId} {M : Nat → Option va_E} {sz : Nat}
theorem va_up_id {M : Nat → Option va_E} {a : Nat} {x : va_E} (h : M a = some x) : ∀ z, M z = va_up M a (some x) z := fun z => by
  by_cases hz : z = a
  · subst hz
    rw [va_up_self, h]
  · rw [va_up_ne _ _ hz]
def blk {α : Type} (i j : Nat) (b : α) (g : Nat → α) : Nat → α := fun x => if i ≤ x ∧ x < j then b else g x
theorem blk_0 {α : Type} (i : Nat) (b : α) (g : Nat → α) : blk i i b g = g := by
  funext x
  unfold blk
  rw [if_neg (by omega)]
theorem blk_s {α : Type} {i j : Nat} (b : α) (g : Nat → α) (h : i ≤ j) : va_up (blk i j b g) j b = blk i (j + 1) b g := by
  funext x
  unfold va_up blk
  by_cases hx : x = j
  · subst hx
    rw [if_pos rfl, if_pos (by omega)]
  · rw [if_neg hx]
    by_cases h2 : i ≤ x ∧ x < j
    · rw [if_pos h2, if_pos (by omega)]
    · rw [if_neg h2, if_neg (by omega)]
theorem blk_sL {i j : Nat} (b : Int64) (g : Nat → Int64) (h : i ≤ j) : vp_updL (blk i j b g) j b = blk i (j + 1) b g := blk_s b g h
abbrev rmX1_copyFrom : Room := ({ frames := 1, cells := 0, slots := 0, locals := 80 } : Room)
set_option maxHeartbeats 4000000 in
set_option maxRecDepth 100000 in
theorem c_X1_copyFrom {h : Nat} {k : Int32} {pn na ca : Nat} {lb : Int32} {f : Nat → Int64} {g : Nat → Option Nat} {h' : Nat} {k' : Int32} {pn' na' ca' : Nat} {lb' : Int32} {f' : Nat → Int64} {g' : Nat → Option Nat} {i j n : Nat} (hH : hOk M cJ cC h k pn na ca lb f g) (hH' : hOk M cJ cC h' k' pn' na' ca' lb' f' g') (hk : kRack k = true) (hk' : kRack k' = true) (hi : i + n ≤ pn') (hj : j + n ≤ pn) (hel : ∀ x, x < n → ∀ y, g' (i + x) = some y → ∃ fs, M y = some (.inr (0, fs))) : Met l yX1_copyFrom wsX1_copyFrom rmX1_copyFrom (va_Pc [.ref h, .ref h', .int (nI i), .int (nI j), .int (nI n)] (mwPre D (tyL cI cJ cC cH) M sz)) (va_Qv (fun M' => M' = va_up M ca (some (.inl (cC, pn, .inr (.inr (.inr (.inr (va_cpy g' g i j n)))))))) (mwB D (tyL cI cJ cC cH) M sz) (mwA M sz)) 0 0 (mwA M sz) := by
  refine Met.ofW (cc := cX1_copyFrom) (maxL := 5) (ret := none) (by decide) rfl ?_
  intro pr env s m args below meth c s₁ B hml hv
  obtain ⟨rfl, hsz, hW, hK, hO⟩ := hv
  subst hsz
  have hW := hW.self (sz := s.heap.size)
  have hS : va_S (mwA M s.heap.size) s.heap s.heap [] := va_S.rf
  have hA : ∀ q, s.heap.size ≤ q → mwA M s.heap.size q := fun q h => Or.inr h
  have hx := B.exec
  have hb := B.bytes
  have hr := B.returns
  have hts := atoms_spec (ws := wsX1_copyFrom) B.pre
  have hown : s.vm.findClass RX1 = some m.cls := findClass_of_methodNamed B.named
  have hlocks := B.notSynchronized
  have F : CallFix pr m c cX1_copyFrom 5 s ([.ref h, .ref h', .int (nI i), .int (nI j), .int (nI n)] : List Value).toArray wsX1_copyFrom RX1 := ⟨hx, hb, hml, hown, hts⟩
  have hI_X1 : ∀ w ∈ wsX10, w ∈ wsX1_copyFrom := by decide +kernel
  have hl_fieldLink_RX1_34_SpliceBench_Holding_cards_LSpliceBench_Card := hts (.fieldLink RX1 34 "SpliceBench$Holding" "cards" "[LSpliceBench$Card;") (by decide +kernel)
  have hl_methodLink_RX1_58_arraycopyName := hts (.methodLink RX1 58 arraycopyName) (by decide +kernel)
  have hl_native_arraycopyName := hts (.native arraycopyName) (by decide +kernel)
  have hl_static_arraycopyName := hts (.static arraycopyName) (by decide +kernel)
  have hl_initialized_java_lang_System := hts (.initialized "java/lang/System") (by decide +kernel)
  have hp8 := hH.2.1
  have hp8' := hH'.2.1
  have hl := lv_entry ([.ref h, .ref h', .int (nI i), .int (nI j), .int (nI n)]) (n := 5) (Nat.le_of_ble_eq_true rfl)
  rw [lg_entry_eq]
  generalize (lg_sl ([.ref h, .ref h', .int (nI i), .int (nI j), .int (nI n)]) ++ List.replicate (5 - (lg_sl ([.ref h, .ref h', .int (nI i), .int (nI j), .int (nI n)])).length) Slot.unset).toArray = ls at hl ⊢
  have hl : lv_has ls 5 [(0, .ref h), (1, .ref h'), (2, .int (nI i)), (3, .int (nI j)), (4, .int (nI n))] := hl
  refine lv_aload_n hx hb dX1_copyFrom_0 rfl (lv_at hl 1 rfl) ?_
  refine lv_iload_n hx hb dX1_copyFrom_1 rfl (lv_at hl 2 rfl) ?_
  refine lv_iload hx hb dX1_copyFrom_2 (lv_at hl 4 rfl) ?_
  refine vp_callSi (W.runV (As := [.int (nI i), .int (nI n)]) (rest := []) F (c_X1_hasPlaces (i := nI i) (n := nI n) hH') (cwV 2 hts gX1_copyFrom_X1_hasPlaces rfl rfl rfl (by decide +kernel) ⟨Nat.le_of_ble_eq_true rfl, Nat.le_of_ble_eq_true rfl⟩) (mw_prV (q := (RX1, TX1, 5)) hK hO hW rfl hH'.1) rfl rfl hl.1 rfl (lv_room (Nat.le_of_ble_eq_true rfl)) dX1_copyFrom_4 ⟨Nat.zero_le _, Nat.zero_le _⟩) (fun r_1 er_1 => ?_)
  subst er_1
  refine lv_if_eq (tgt := 20) hx hb dX1_copyFrom_7 (by decide) (fun c_7 => ?_) (fun c_7 => ?_)
  · exact absurd (bI_e c_7) (by rw [inPls_nI (by omega) (by omega) (by omega)]; simp; exact hi)
  · refine lv_aload_n hx hb dX1_copyFrom_10 rfl (lv_at hl 0 rfl) ?_
    refine lv_iload_n hx hb dX1_copyFrom_11 rfl (lv_at hl 3 rfl) ?_
    refine lv_iload hx hb dX1_copyFrom_12 (lv_at hl 4 rfl) ?_
    refine vp_callSi (W.runV (As := [.int (nI j), .int (nI n)]) (rest := []) F (c_X1_hasPlaces (i := nI j) (n := nI n) hH) (cwV 2 hts gX1_copyFrom_X1_hasPlaces rfl rfl rfl (by decide +kernel) ⟨Nat.le_of_ble_eq_true rfl, Nat.le_of_ble_eq_true rfl⟩) (mw_prV (q := (RX1, TX1, 5)) hK hO hW rfl hH.1) rfl rfl hl.1 rfl (lv_room (Nat.le_of_ble_eq_true rfl)) dX1_copyFrom_14 ⟨Nat.zero_le _, Nat.zero_le _⟩) (fun r_2 er_2 => ?_)
    subst er_2
    refine lv_if_ne (tgt := 21) hx hb dX1_copyFrom_17 (by decide) (fun c_17 => ?_) (fun c_17 => ?_)
    · refine lv_aload_n hx hb dX1_copyFrom_21 rfl (lv_at hl 0 rfl) ?_
      refine vp_callSi (W.runV (As := []) (rest := []) F (c_X1_isRack hH.1) (cwV 0 hts gX1_copyFrom_X1_isRack rfl rfl rfl (by decide +kernel) ⟨Nat.le_of_ble_eq_true rfl, Nat.le_of_ble_eq_true rfl⟩) (mw_prV (q := (RX1, TX1, 5)) hK hO hW rfl hH.1) rfl rfl hl.1 rfl (lv_room (Nat.le_of_ble_eq_true rfl)) dX1_copyFrom_22 ⟨Nat.zero_le _, Nat.zero_le _⟩) (fun r_3 er_3 => ?_)
      subst er_3
      refine lv_if_eq (tgt := 53) hx hb dX1_copyFrom_25 (by decide) (fun c_25 => ?_) (fun c_25 => ?_)
      · exact absurd (bI_e c_25) (by rw [hk]; decide)
      · refine lv_aload_n hx hb dX1_copyFrom_28 rfl (lv_at hl 1 rfl) ?_
        refine vp_callSi (W.runV (As := []) (rest := []) F (c_X1_isRack hH'.1) (cwV 0 hts gX1_copyFrom_X1_isRack rfl rfl rfl (by decide +kernel) ⟨Nat.le_of_ble_eq_true rfl, Nat.le_of_ble_eq_true rfl⟩) (mw_prV (q := (RX1, TX1, 5)) hK hO hW rfl hH'.1) rfl rfl hl.1 rfl (lv_room (Nat.le_of_ble_eq_true rfl)) dX1_copyFrom_29 ⟨Nat.zero_le _, Nat.zero_le _⟩) (fun r_4 er_4 => ?_)
        subst er_4
        refine lv_if_eq (tgt := 53) hx hb dX1_copyFrom_32 (by decide) (fun c_32 => ?_) (fun c_32 => ?_)
        · exact absurd (bI_e c_32) (by rw [hk']; decide)
        · refine lv_aload_n hx hb dX1_copyFrom_35 rfl (lv_at hl 1 rfl) ?_
          refine mw_get (C := RX1) (T := TX1) (N := 5) F hK hW hI_X1 hH'.1 rfl 3 (by decide) hl_fieldLink_RX1_34_SpliceBench_Holding_cards_LSpliceBench_Card rfl dX1_copyFrom_36 ?_
          refine lv_iload_n hx hb dX1_copyFrom_39 rfl (lv_at hl 2 rfl) ?_
          refine lv_aload_n hx hb dX1_copyFrom_40 rfl (lv_at hl 0 rfl) ?_
          refine mw_get (C := RX1) (T := TX1) (N := 5) F hK hW hI_X1 hH.1 rfl 3 (by decide) hl_fieldLink_RX1_34_SpliceBench_Holding_cards_LSpliceBench_Card rfl dX1_copyFrom_41 ?_
          refine lv_iload_n hx hb dX1_copyFrom_44 rfl (lv_at hl 3 rfl) ?_
          refine lv_iload hx hb dX1_copyFrom_45 (lv_at hl 4 rfl) ?_
          refine mw_copyq (r := (RX0, TX0, 3)) F hl.1 hK hW hS 2 0 rfl hl_methodLink_RX1_58_arraycopyName hl_native_arraycopyName hl_static_arraycopyName hl_initialized_java_lang_System (hH'.cds hk') (hH.cds hk) rfl (nI_pos (by omega)) (nI_pos (by omega)) (nI_pos (by omega)) (by rw [nI_clamp (show i < 2 ^ 31 by omega), nI_clamp (show n < 2 ^ 31 by omega)]; exact hi) (by rw [nI_clamp (show j < 2 ^ 31 by omega), nI_clamp (show n < 2 ^ 31 by omega)]; exact hj) (fun x hx9 y hy9 => by rw [nI_clamp (show n < 2 ^ 31 by omega)] at hx9; rw [nI_clamp (show i < 2 ^ 31 by omega)] at hy9; exact hel x hx9 y hy9) (Nat.le_of_ble_eq_true rfl) (Nat.le_of_ble_eq_true rfl) dX1_copyFrom_47 (fun H locs hW hS => ?_)
          rw [nI_clamp (show i < 2 ^ 31 by omega), nI_clamp (show j < 2 ^ 31 by omega), nI_clamp (show n < 2 ^ 31 by omega)] at hW
          refine lv_goto (tgt := 82) hx hb dX1_copyFrom_50 (by decide) ?_
          exact W.vret hx hb hr (fun t ht hw => ⟨⟨va_up M ca (some (.inl (cC, pn, .inr (.inr (.inr (.inr (va_cpy g' g i j n))))))), rfl, rfl, by rw [ht]; exact hW, va_K.moved hw.alike hK⟩, hS.F ht⟩) hS.2.2 dX1_copyFrom_82
    · exact absurd (bI_e c_17) (by rw [inPls_nI (by omega) (by omega) (by omega)]; simp; exact hj)
abbrev rmX1_makeBlank : Room := ({ frames := 1, cells := 0, slots := 0, locals := 22 } : Room)
set_option maxHeartbeats 4000000 in
set_option maxRecDepth 100000 in
theorem c_X1_makeBlank {h : Nat} {k : Int32} {pn na ca : Nat} {lb : Int32} {f : Nat → Int64} {g : Nat → Option Nat} {i n : Nat} (hH : hOk M cJ cC h k pn na ca lb f g) (hk : kRack k = true) (hi : i + n ≤ pn) : Met l yX1_makeBlank wsX1_makeBlank rmX1_makeBlank (va_Pc [.ref h, .int (nI i), .int (nI n)] (mwPre D (tyL cI cJ cC cH) M sz)) (va_Qv (fun M' => M' = va_up M ca (some (.inl (cC, pn, .inr (.inr (.inr (.inr (blk i (i + n) none g)))))))) (mwB D (tyL cI cJ cC cH) M sz) (mwA M sz)) 0 0 (mwA M sz) := by
  refine Met.ofW (cc := cX1_makeBlank) (maxL := 4) (ret := none) (by decide) rfl ?_
  intro pr env s m args below meth c s₁ B hml hv
  obtain ⟨rfl, hsz, hW, hK, hO⟩ := hv
  subst hsz
  have hW := hW.self (sz := s.heap.size)
  have hS : va_S (mwA M s.heap.size) s.heap s.heap [] := va_S.rf
  have hA : ∀ q, s.heap.size ≤ q → mwA M s.heap.size q := fun q h => Or.inr h
  have hx := B.exec
  have hb := B.bytes
  have hr := B.returns
  have hts := atoms_spec (ws := wsX1_makeBlank) B.pre
  have hown : s.vm.findClass RX1 = some m.cls := findClass_of_methodNamed B.named
  have hlocks := B.notSynchronized
  have F : CallFix pr m c cX1_makeBlank 4 s ([.ref h, .int (nI i), .int (nI n)] : List Value).toArray wsX1_makeBlank RX1 := ⟨hx, hb, hml, hown, hts⟩
  have hI_X1 : ∀ w ∈ wsX10, w ∈ wsX1_makeBlank := by decide +kernel
  have hl_fieldLink_RX1_34_SpliceBench_Holding_cards_LSpliceBench_Card := hts (.fieldLink RX1 34 "SpliceBench$Holding" "cards" "[LSpliceBench$Card;") (by decide +kernel)
  have hp8 := hH.2.1
  have hl := lv_entry ([.ref h, .int (nI i), .int (nI n)]) (n := 4) (Nat.le_of_ble_eq_true rfl)
  rw [lg_entry_eq]
  generalize (lg_sl ([.ref h, .int (nI i), .int (nI n)]) ++ List.replicate (4 - (lg_sl ([.ref h, .int (nI i), .int (nI n)])).length) Slot.unset).toArray = ls at hl ⊢
  have hl : lv_has ls 4 [(0, .ref h), (1, .int (nI i)), (2, .int (nI n))] := hl
  refine lv_aload_n hx hb dX1_makeBlank_0 rfl (lv_at hl 0 rfl) ?_
  refine lv_iload_n hx hb dX1_makeBlank_1 rfl (lv_at hl 1 rfl) ?_
  refine lv_iload_n hx hb dX1_makeBlank_2 rfl (lv_at hl 2 rfl) ?_
  refine vp_callSi (W.runV (As := [.int (nI i), .int (nI n)]) (rest := []) F (c_X1_hasPlaces (i := nI i) (n := nI n) hH) (cwV 2 hts gX1_makeBlank_X1_hasPlaces rfl rfl rfl (by decide +kernel) ⟨Nat.le_of_ble_eq_true rfl, Nat.le_of_ble_eq_true rfl⟩) (mw_prV (q := (RX1, TX1, 5)) hK hO hW rfl hH.1) rfl rfl hl.1 rfl (lv_room (Nat.le_of_ble_eq_true rfl)) dX1_makeBlank_3 ⟨Nat.zero_le _, Nat.zero_le _⟩) (fun r_1 er_1 => ?_)
  subst er_1
  refine lv_if_ne (tgt := 10) hx hb dX1_makeBlank_6 (by decide) (fun c_6 => ?_) (fun c_6 => ?_)
  · refine lv_iload_n hx hb dX1_makeBlank_10 rfl (lv_at hl 1 rfl) ?_
    refine lv_istore_n (lv' := [(3, .int (nI i)), (0, .ref h), (1, .int (nI i)), (2, .int (nI n))]) hx hb dX1_makeBlank_11 rfl hl (by decide) rfl (fun ls hl => ?_)
    have hW := hW.eqv (va_up_id (hH.cds hk))
    have hW : mw D (mwA M s.heap.size) (va_up M ca (some (.inl (cC, pn, .inr (.inr (.inr (.inr (blk i i none g)))))))) s.heap := by rw [blk_0]; exact hW
    have loop : ∀ (N : Nat) (j : Nat) (H : Heap) (locs : List Loc), i + n + 1 ≤ j + N → i ≤ j → j ≤ i + n → mw D (mwA M s.heap.size) (va_up M ca (some (.inl (cC, pn, .inr (.inr (.inr (.inr (blk i j none g)))))))) H → va_S (mwA M s.heap.size) s.heap H locs → ∀ (ls : Array Slot), lv_has ls 4 [(3, .int (nI j)), (0, .ref h), (1, .int (nI i)), (2, .int (nI n))] → W pr l env (headSpec wsX1_makeBlank rmX1_makeBlank).room s m ([.ref h, .int (nI i), .int (nI n)] : List Value).toArray below meth c H locs 0 0 (MQ below (va_Qv (fun M' => M' = va_up M ca (some (.inl (cC, pn, .inr (.inr (.inr (.inr (blk i (i + n) none g)))))))) (mwB D (tyL cI cJ cC cH) M s.heap.size) (mwA M s.heap.size)) ([.ref h, .int (nI i), .int (nI n)] : List Value).toArray s 0 0 (mwA M s.heap.size)) (F0 m 12 ls []) := by
      intro N
      induction N with
      | zero =>
        exact fun j H locs h1 _ h2 => absurd h1 (by omega)
      | succ N ih =>
        intro j H locs hN hj1 hj hW hS ls hl
        have hHj := hH.setC hk (blk i j none g)
        refine lv_iload_n hx hb dX1_makeBlank_12 rfl (lv_at hl 0 rfl) ?_
        refine lv_iload_n hx hb dX1_makeBlank_13 rfl (lv_at hl 2 rfl) ?_
        refine lv_iload_n hx hb dX1_makeBlank_14 rfl (lv_at hl 3 rfl) ?_
        refine lv_iadd hx hb dX1_makeBlank_15 ?_
        rw [nI_add]
        refine lv_icmp_ge (tgt := 56) hx hb dX1_makeBlank_16 (by decide) (fun c_16 => ?_) (fun c_16 => ?_)
        · have hjn : j = i + n := by
            have := (nI_leI (by omega) (by omega)).mp c_16
            omega
          exact W.vret hx hb hr (fun t ht hw => ⟨⟨va_up M ca (some (.inl (cC, pn, .inr (.inr (.inr (.inr (blk i j none g))))))), rfl, (by rw [hjn]), by rw [ht]; exact hW, va_K.moved hw.alike hK⟩, hS.F ht⟩) hS.2.2 dX1_makeBlank_56
        · have hjn : j < i + n := by
            rcases Nat.lt_or_ge j (i + n) with h9 | h9
            · exact h9
            · exact absurd (nI_le h9 (by omega)) c_16
          refine lv_aload_n hx hb dX1_makeBlank_19 rfl (lv_at hl 1 rfl) ?_
          refine vp_callSi (W.runV (As := []) (rest := []) F (c_X1_isRack hHj.1) (cwV 0 hts gX1_makeBlank_X1_isRack rfl rfl rfl (by decide +kernel) ⟨Nat.le_of_ble_eq_true rfl, Nat.le_of_ble_eq_true rfl⟩) (mw_prV (q := (RX1, TX1, 5)) hK hO hW rfl hHj.1) rfl rfl hl.1 rfl (lv_room (Nat.le_of_ble_eq_true rfl)) dX1_makeBlank_20 ⟨Nat.zero_le _, Nat.zero_le _⟩) (fun r_2 er_2 => ?_)
          subst er_2
          refine lv_if_eq (tgt := 36) hx hb dX1_makeBlank_23 (by decide) (fun c_23 => ?_) (fun c_23 => ?_)
          · exact absurd (bI_e c_23) (by rw [hk]; decide)
          · refine lv_aload_n hx hb dX1_makeBlank_26 rfl (lv_at hl 1 rfl) ?_
            refine mw_get (C := RX1) (T := TX1) (N := 5) F hK hW hI_X1 hHj.1 rfl 3 (by decide) hl_fieldLink_RX1_34_SpliceBench_Holding_cards_LSpliceBench_Card rfl dX1_makeBlank_27 ?_
            refine lv_iload_n hx hb dX1_makeBlank_30 rfl (lv_at hl 0 rfl) ?_
            refine lv_null hx hb dX1_makeBlank_31 ?_
            refine mw_aastN F hK hW hS 2 (hHj.cds hk) rfl (vp_in_nI (by omega) (by omega)) dX1_makeBlank_32 (fun H locs hW hS => ?_)
            rw [bx_uu, nI_clamp (show j < 2 ^ 31 by omega), blk_s none g (by omega)] at hW
            refine lv_goto (tgt := 50) hx hb dX1_makeBlank_33 (by decide) ?_
            refine lv_iinc (v := nI (j + 1)) (lv' := [(3, .int (nI (j + 1))), (0, .ref h), (1, .int (nI i)), (2, .int (nI n))]) hx hb dX1_makeBlank_50 hl (k := 0) rfl (nI_1 j) (by decide) rfl (fun ls hl => ?_)
            refine lv_goto (tgt := 12) hx hb dX1_makeBlank_53 (by decide) ?_
            exact ih (j + 1) H locs (by omega) (by omega) (by omega) hW hS ls (lv_sub hl [0, 1, 2, 3] rfl)
    exact loop (n + 1) i _ _ (by omega) (Nat.le_refl _) (Nat.le_add_right _ _) hW hS ls (lv_sub hl [0, 1, 2, 3] rfl)
  · exact absurd (bI_e c_6) (by rw [inPls_nI (by omega) (by omega) (by omega)]; simp; exact hi)
set_option maxHeartbeats 4000000 in
set_option maxRecDepth 100000 in
theorem c_X1_copyFromS {h : Nat} {k : Int32} {pn na ca : Nat} {lb : Int32} {f : Nat → Int64} {g : Nat → Option Nat} {h' : Nat} {k' : Int32} {pn' na' ca' : Nat} {lb' : Int32} {f' : Nat → Int64} {g' : Nat → Option Nat} {i j n : Nat} (hH : hOk M cJ cC h k pn na ca lb f g) (hH' : hOk M cJ cC h' k' pn' na' ca' lb' f' g') (hk : kStrip k = true) (hk' : kStrip k' = true) (hi : i + n ≤ pn') (hj : j + n ≤ pn) : Met l yX1_copyFrom wsX1_copyFrom rmX1_copyFrom (va_Pc [.ref h, .ref h', .int (nI i), .int (nI j), .int (nI n)] (mwPre D (tyL cI cJ cC cH) M sz)) (va_Qv (fun M' => M' = va_up M na (some (.inl (cJ, pn, .inr (.inl (va_cpy f' f i j n)))))) (mwB D (tyL cI cJ cC cH) M sz) (mwA M sz)) 0 0 (mwA M sz) := by
  refine Met.ofW (cc := cX1_copyFrom) (maxL := 5) (ret := none) (by decide) rfl ?_
  intro pr env s m args below meth c s₁ B hml hv
  obtain ⟨rfl, hsz, hW, hK, hO⟩ := hv
  subst hsz
  have hW := hW.self (sz := s.heap.size)
  have hS : va_S (mwA M s.heap.size) s.heap s.heap [] := va_S.rf
  have hA : ∀ q, s.heap.size ≤ q → mwA M s.heap.size q := fun q h => Or.inr h
  have hx := B.exec
  have hb := B.bytes
  have hr := B.returns
  have hts := atoms_spec (ws := wsX1_copyFrom) B.pre
  have hown : s.vm.findClass RX1 = some m.cls := findClass_of_methodNamed B.named
  have hlocks := B.notSynchronized
  have F : CallFix pr m c cX1_copyFrom 5 s ([.ref h, .ref h', .int (nI i), .int (nI j), .int (nI n)] : List Value).toArray wsX1_copyFrom RX1 := ⟨hx, hb, hml, hown, hts⟩
  have hI_X1 : ∀ w ∈ wsX10, w ∈ wsX1_copyFrom := by decide +kernel
  have hl_fieldLink_RX1_25_SpliceBench_Holding_numbers_J := hts (.fieldLink RX1 25 "SpliceBench$Holding" "numbers" "[J") (by decide +kernel)
  have hl_methodLink_RX1_58_arraycopyName := hts (.methodLink RX1 58 arraycopyName) (by decide +kernel)
  have hl_native_arraycopyName := hts (.native arraycopyName) (by decide +kernel)
  have hl_static_arraycopyName := hts (.static arraycopyName) (by decide +kernel)
  have hl_initialized_java_lang_System := hts (.initialized "java/lang/System") (by decide +kernel)
  have hp8 := hH.2.1
  have hp8' := hH'.2.1
  have hl := lv_entry ([.ref h, .ref h', .int (nI i), .int (nI j), .int (nI n)]) (n := 5) (Nat.le_of_ble_eq_true rfl)
  rw [lg_entry_eq]
  generalize (lg_sl ([.ref h, .ref h', .int (nI i), .int (nI j), .int (nI n)]) ++ List.replicate (5 - (lg_sl ([.ref h, .ref h', .int (nI i), .int (nI j), .int (nI n)])).length) Slot.unset).toArray = ls at hl ⊢
  have hl : lv_has ls 5 [(0, .ref h), (1, .ref h'), (2, .int (nI i)), (3, .int (nI j)), (4, .int (nI n))] := hl
  refine lv_aload_n hx hb dX1_copyFrom_0 rfl (lv_at hl 1 rfl) ?_
  refine lv_iload_n hx hb dX1_copyFrom_1 rfl (lv_at hl 2 rfl) ?_
  refine lv_iload hx hb dX1_copyFrom_2 (lv_at hl 4 rfl) ?_
  refine vp_callSi (W.runV (As := [.int (nI i), .int (nI n)]) (rest := []) F (c_X1_hasPlaces (i := nI i) (n := nI n) hH') (cwV 2 hts gX1_copyFrom_X1_hasPlaces rfl rfl rfl (by decide +kernel) ⟨Nat.le_of_ble_eq_true rfl, Nat.le_of_ble_eq_true rfl⟩) (mw_prV (q := (RX1, TX1, 5)) hK hO hW rfl hH'.1) rfl rfl hl.1 rfl (lv_room (Nat.le_of_ble_eq_true rfl)) dX1_copyFrom_4 ⟨Nat.zero_le _, Nat.zero_le _⟩) (fun r_1 er_1 => ?_)
  subst er_1
  refine lv_if_eq (tgt := 20) hx hb dX1_copyFrom_7 (by decide) (fun c_7 => ?_) (fun c_7 => ?_)
  · exact absurd (bI_e c_7) (by rw [inPls_nI (by omega) (by omega) (by omega)]; simp; exact hi)
  · refine lv_aload_n hx hb dX1_copyFrom_10 rfl (lv_at hl 0 rfl) ?_
    refine lv_iload_n hx hb dX1_copyFrom_11 rfl (lv_at hl 3 rfl) ?_
    refine lv_iload hx hb dX1_copyFrom_12 (lv_at hl 4 rfl) ?_
    refine vp_callSi (W.runV (As := [.int (nI j), .int (nI n)]) (rest := []) F (c_X1_hasPlaces (i := nI j) (n := nI n) hH) (cwV 2 hts gX1_copyFrom_X1_hasPlaces rfl rfl rfl (by decide +kernel) ⟨Nat.le_of_ble_eq_true rfl, Nat.le_of_ble_eq_true rfl⟩) (mw_prV (q := (RX1, TX1, 5)) hK hO hW rfl hH.1) rfl rfl hl.1 rfl (lv_room (Nat.le_of_ble_eq_true rfl)) dX1_copyFrom_14 ⟨Nat.zero_le _, Nat.zero_le _⟩) (fun r_2 er_2 => ?_)
    subst er_2
    refine lv_if_ne (tgt := 21) hx hb dX1_copyFrom_17 (by decide) (fun c_17 => ?_) (fun c_17 => ?_)
    · refine lv_aload_n hx hb dX1_copyFrom_21 rfl (lv_at hl 0 rfl) ?_
      refine vp_callSi (W.runV (As := []) (rest := []) F (c_X1_isRack hH.1) (cwV 0 hts gX1_copyFrom_X1_isRack rfl rfl rfl (by decide +kernel) ⟨Nat.le_of_ble_eq_true rfl, Nat.le_of_ble_eq_true rfl⟩) (mw_prV (q := (RX1, TX1, 5)) hK hO hW rfl hH.1) rfl rfl hl.1 rfl (lv_room (Nat.le_of_ble_eq_true rfl)) dX1_copyFrom_22 ⟨Nat.zero_le _, Nat.zero_le _⟩) (fun r_3 er_3 => ?_)
      subst er_3
      refine lv_if_eq (tgt := 53) hx hb dX1_copyFrom_25 (by decide) (fun c_25 => ?_) (fun c_25 => ?_)
      · refine lv_aload_n hx hb dX1_copyFrom_53 rfl (lv_at hl 0 rfl) ?_
        refine vp_callSi (W.runV (As := []) (rest := []) F (c_X1_isStrip hH.1) (cwV 0 hts gX1_copyFrom_X1_isStrip rfl rfl rfl (by decide +kernel) ⟨Nat.le_of_ble_eq_true rfl, Nat.le_of_ble_eq_true rfl⟩) (mw_prV (q := (RX1, TX1, 5)) hK hO hW rfl hH.1) rfl rfl hl.1 rfl (lv_room (Nat.le_of_ble_eq_true rfl)) dX1_copyFrom_54 ⟨Nat.zero_le _, Nat.zero_le _⟩) (fun r_4 er_4 => ?_)
        subst er_4
        refine lv_if_eq (tgt := 82) hx hb dX1_copyFrom_57 (by decide) (fun c_57 => ?_) (fun c_57 => ?_)
        · exact absurd (bI_e c_57) (by rw [hk]; decide)
        · refine lv_aload_n hx hb dX1_copyFrom_60 rfl (lv_at hl 1 rfl) ?_
          refine vp_callSi (W.runV (As := []) (rest := []) F (c_X1_isStrip hH'.1) (cwV 0 hts gX1_copyFrom_X1_isStrip rfl rfl rfl (by decide +kernel) ⟨Nat.le_of_ble_eq_true rfl, Nat.le_of_ble_eq_true rfl⟩) (mw_prV (q := (RX1, TX1, 5)) hK hO hW rfl hH'.1) rfl rfl hl.1 rfl (lv_room (Nat.le_of_ble_eq_true rfl)) dX1_copyFrom_61 ⟨Nat.zero_le _, Nat.zero_le _⟩) (fun r_5 er_5 => ?_)
          subst er_5
          refine lv_if_eq (tgt := 82) hx hb dX1_copyFrom_64 (by decide) (fun c_64 => ?_) (fun c_64 => ?_)
          · exact absurd (bI_e c_64) (by rw [hk']; decide)
          · refine lv_aload_n hx hb dX1_copyFrom_67 rfl (lv_at hl 1 rfl) ?_
            refine mw_get (C := RX1) (T := TX1) (N := 5) F hK hW hI_X1 hH'.1 rfl 2 (by decide) hl_fieldLink_RX1_25_SpliceBench_Holding_numbers_J rfl dX1_copyFrom_68 ?_
            refine lv_iload_n hx hb dX1_copyFrom_71 rfl (lv_at hl 2 rfl) ?_
            refine lv_aload_n hx hb dX1_copyFrom_72 rfl (lv_at hl 0 rfl) ?_
            refine mw_get (C := RX1) (T := TX1) (N := 5) F hK hW hI_X1 hH.1 rfl 2 (by decide) hl_fieldLink_RX1_25_SpliceBench_Holding_numbers_J rfl dX1_copyFrom_73 ?_
            refine lv_iload_n hx hb dX1_copyFrom_76 rfl (lv_at hl 3 rfl) ?_
            refine lv_iload hx hb dX1_copyFrom_77 (lv_at hl 4 rfl) ?_
            refine mw_copyl F hl.1 hK hW hS 1 hl_methodLink_RX1_58_arraycopyName hl_native_arraycopyName hl_static_arraycopyName hl_initialized_java_lang_System (hH'.nms hk') (hH.nms hk) rfl (nI_pos (by omega)) (nI_pos (by omega)) (nI_pos (by omega)) (by rw [nI_clamp (show i < 2 ^ 31 by omega), nI_clamp (show n < 2 ^ 31 by omega)]; exact hi) (by rw [nI_clamp (show j < 2 ^ 31 by omega), nI_clamp (show n < 2 ^ 31 by omega)]; exact hj) (Nat.le_of_ble_eq_true rfl) (Nat.le_of_ble_eq_true rfl) dX1_copyFrom_79 (fun H locs hW hS => ?_)
            rw [nI_clamp (show i < 2 ^ 31 by omega), nI_clamp (show j < 2 ^ 31 by omega), nI_clamp (show n < 2 ^ 31 by omega)] at hW
            exact W.vret hx hb hr (fun t ht hw => ⟨⟨va_up M na (some (.inl (cJ, pn, .inr (.inl (va_cpy f' f i j n))))), rfl, rfl, by rw [ht]; exact hW, va_K.moved hw.alike hK⟩, hS.F ht⟩) hS.2.2 dX1_copyFrom_82
      · exact absurd (bI_n c_25) (by rw [kSR hk]; decide)
    · exact absurd (bI_e c_17) (by rw [inPls_nI (by omega) (by omega) (by omega)]; simp; exact hj)
set_option maxHeartbeats 4000000 in
set_option maxRecDepth 100000 in
theorem c_X1_makeBlankS {h : Nat} {k : Int32} {pn na ca : Nat} {lb : Int32} {f : Nat → Int64} {g : Nat → Option Nat} {i n : Nat} (hH : hOk M cJ cC h k pn na ca lb f g) (hk : kStrip k = true) (hi : i + n ≤ pn) : Met l yX1_makeBlank wsX1_makeBlank rmX1_makeBlank (va_Pc [.ref h, .int (nI i), .int (nI n)] (mwPre D (tyL cI cJ cC cH) M sz)) (va_Qv (fun M' => M' = va_up M na (some (.inl (cJ, pn, .inr (.inl (blk i (i + n) 0 f)))))) (mwB D (tyL cI cJ cC cH) M sz) (mwA M sz)) 0 0 (mwA M sz) := by
  refine Met.ofW (cc := cX1_makeBlank) (maxL := 4) (ret := none) (by decide) rfl ?_
  intro pr env s m args below meth c s₁ B hml hv
  obtain ⟨rfl, hsz, hW, hK, hO⟩ := hv
  subst hsz
  have hW := hW.self (sz := s.heap.size)
  have hS : va_S (mwA M s.heap.size) s.heap s.heap [] := va_S.rf
  have hA : ∀ q, s.heap.size ≤ q → mwA M s.heap.size q := fun q h => Or.inr h
  have hx := B.exec
  have hb := B.bytes
  have hr := B.returns
  have hts := atoms_spec (ws := wsX1_makeBlank) B.pre
  have hown : s.vm.findClass RX1 = some m.cls := findClass_of_methodNamed B.named
  have hlocks := B.notSynchronized
  have F : CallFix pr m c cX1_makeBlank 4 s ([.ref h, .int (nI i), .int (nI n)] : List Value).toArray wsX1_makeBlank RX1 := ⟨hx, hb, hml, hown, hts⟩
  have hI_X1 : ∀ w ∈ wsX10, w ∈ wsX1_makeBlank := by decide +kernel
  have hl_fieldLink_RX1_25_SpliceBench_Holding_numbers_J := hts (.fieldLink RX1 25 "SpliceBench$Holding" "numbers" "[J") (by decide +kernel)
  have hp8 := hH.2.1
  have hl := lv_entry ([.ref h, .int (nI i), .int (nI n)]) (n := 4) (Nat.le_of_ble_eq_true rfl)
  rw [lg_entry_eq]
  generalize (lg_sl ([.ref h, .int (nI i), .int (nI n)]) ++ List.replicate (4 - (lg_sl ([.ref h, .int (nI i), .int (nI n)])).length) Slot.unset).toArray = ls at hl ⊢
  have hl : lv_has ls 4 [(0, .ref h), (1, .int (nI i)), (2, .int (nI n))] := hl
  refine lv_aload_n hx hb dX1_makeBlank_0 rfl (lv_at hl 0 rfl) ?_
  refine lv_iload_n hx hb dX1_makeBlank_1 rfl (lv_at hl 1 rfl) ?_
  refine lv_iload_n hx hb dX1_makeBlank_2 rfl (lv_at hl 2 rfl) ?_
  refine vp_callSi (W.runV (As := [.int (nI i), .int (nI n)]) (rest := []) F (c_X1_hasPlaces (i := nI i) (n := nI n) hH) (cwV 2 hts gX1_makeBlank_X1_hasPlaces rfl rfl rfl (by decide +kernel) ⟨Nat.le_of_ble_eq_true rfl, Nat.le_of_ble_eq_true rfl⟩) (mw_prV (q := (RX1, TX1, 5)) hK hO hW rfl hH.1) rfl rfl hl.1 rfl (lv_room (Nat.le_of_ble_eq_true rfl)) dX1_makeBlank_3 ⟨Nat.zero_le _, Nat.zero_le _⟩) (fun r_1 er_1 => ?_)
  subst er_1
  refine lv_if_ne (tgt := 10) hx hb dX1_makeBlank_6 (by decide) (fun c_6 => ?_) (fun c_6 => ?_)
  · refine lv_iload_n hx hb dX1_makeBlank_10 rfl (lv_at hl 1 rfl) ?_
    refine lv_istore_n (lv' := [(3, .int (nI i)), (0, .ref h), (1, .int (nI i)), (2, .int (nI n))]) hx hb dX1_makeBlank_11 rfl hl (by decide) rfl (fun ls hl => ?_)
    have hW := hW.eqv (va_up_id (hH.nms hk))
    have hW : mw D (mwA M s.heap.size) (va_up M na (some (.inl (cJ, pn, .inr (.inl (blk i i 0 f)))))) s.heap := by rw [blk_0]; exact hW
    have loop : ∀ (N : Nat) (j : Nat) (H : Heap) (locs : List Loc), i + n + 1 ≤ j + N → i ≤ j → j ≤ i + n → mw D (mwA M s.heap.size) (va_up M na (some (.inl (cJ, pn, .inr (.inl (blk i j 0 f)))))) H → va_S (mwA M s.heap.size) s.heap H locs → ∀ (ls : Array Slot), lv_has ls 4 [(3, .int (nI j)), (0, .ref h), (1, .int (nI i)), (2, .int (nI n))] → W pr l env (headSpec wsX1_makeBlank rmX1_makeBlank).room s m ([.ref h, .int (nI i), .int (nI n)] : List Value).toArray below meth c H locs 0 0 (MQ below (va_Qv (fun M' => M' = va_up M na (some (.inl (cJ, pn, .inr (.inl (blk i (i + n) 0 f)))))) (mwB D (tyL cI cJ cC cH) M s.heap.size) (mwA M s.heap.size)) ([.ref h, .int (nI i), .int (nI n)] : List Value).toArray s 0 0 (mwA M s.heap.size)) (F0 m 12 ls []) := by
      intro N
      induction N with
      | zero =>
        exact fun j H locs h1 _ h2 => absurd h1 (by omega)
      | succ N ih =>
        intro j H locs hN hj1 hj hW hS ls hl
        have hHj := hH.setN hk (blk i j 0 f)
        refine lv_iload_n hx hb dX1_makeBlank_12 rfl (lv_at hl 0 rfl) ?_
        refine lv_iload_n hx hb dX1_makeBlank_13 rfl (lv_at hl 2 rfl) ?_
        refine lv_iload_n hx hb dX1_makeBlank_14 rfl (lv_at hl 3 rfl) ?_
        refine lv_iadd hx hb dX1_makeBlank_15 ?_
        rw [nI_add]
        refine lv_icmp_ge (tgt := 56) hx hb dX1_makeBlank_16 (by decide) (fun c_16 => ?_) (fun c_16 => ?_)
        · have hjn : j = i + n := by
            have := (nI_leI (by omega) (by omega)).mp c_16
            omega
          exact W.vret hx hb hr (fun t ht hw => ⟨⟨va_up M na (some (.inl (cJ, pn, .inr (.inl (blk i j 0 f))))), rfl, (by rw [hjn]), by rw [ht]; exact hW, va_K.moved hw.alike hK⟩, hS.F ht⟩) hS.2.2 dX1_makeBlank_56
        · have hjn : j < i + n := by
            rcases Nat.lt_or_ge j (i + n) with h9 | h9
            · exact h9
            · exact absurd (nI_le h9 (by omega)) c_16
          refine lv_aload_n hx hb dX1_makeBlank_19 rfl (lv_at hl 1 rfl) ?_
          refine vp_callSi (W.runV (As := []) (rest := []) F (c_X1_isRack hHj.1) (cwV 0 hts gX1_makeBlank_X1_isRack rfl rfl rfl (by decide +kernel) ⟨Nat.le_of_ble_eq_true rfl, Nat.le_of_ble_eq_true rfl⟩) (mw_prV (q := (RX1, TX1, 5)) hK hO hW rfl hHj.1) rfl rfl hl.1 rfl (lv_room (Nat.le_of_ble_eq_true rfl)) dX1_makeBlank_20 ⟨Nat.zero_le _, Nat.zero_le _⟩) (fun r_2 er_2 => ?_)
          subst er_2
          refine lv_if_eq (tgt := 36) hx hb dX1_makeBlank_23 (by decide) (fun c_23 => ?_) (fun c_23 => ?_)
          · refine lv_aload_n hx hb dX1_makeBlank_36 rfl (lv_at hl 1 rfl) ?_
            refine vp_callSi (W.runV (As := []) (rest := []) F (c_X1_isStrip hHj.1) (cwV 0 hts gX1_makeBlank_X1_isStrip rfl rfl rfl (by decide +kernel) ⟨Nat.le_of_ble_eq_true rfl, Nat.le_of_ble_eq_true rfl⟩) (mw_prV (q := (RX1, TX1, 5)) hK hO hW rfl hHj.1) rfl rfl hl.1 rfl (lv_room (Nat.le_of_ble_eq_true rfl)) dX1_makeBlank_37 ⟨Nat.zero_le _, Nat.zero_le _⟩) (fun r_3 er_3 => ?_)
            subst er_3
            refine lv_if_eq (tgt := 50) hx hb dX1_makeBlank_40 (by decide) (fun c_40 => ?_) (fun c_40 => ?_)
            · exact absurd (bI_e c_40) (by rw [hk]; decide)
            · refine lv_aload_n hx hb dX1_makeBlank_43 rfl (lv_at hl 1 rfl) ?_
              refine mw_get (C := RX1) (T := TX1) (N := 5) F hK hW hI_X1 hHj.1 rfl 2 (by decide) hl_fieldLink_RX1_25_SpliceBench_Holding_numbers_J rfl dX1_makeBlank_44 ?_
              refine lv_iload_n hx hb dX1_makeBlank_47 rfl (lv_at hl 0 rfl) ?_
              refine lv_lconst (v := 0) hx hb dX1_makeBlank_48 (by decide) ?_
              refine mw_last F hK hW hS 1 (hHj.nms hk) rfl (vp_in_nI (by omega) (by omega)) dX1_makeBlank_49 (fun H locs hW hS => ?_)
              rw [bx_uu, nI_clamp (show j < 2 ^ 31 by omega), blk_sL 0 f (by omega)] at hW
              refine lv_iinc (v := nI (j + 1)) (lv' := [(3, .int (nI (j + 1))), (0, .ref h), (1, .int (nI i)), (2, .int (nI n))]) hx hb dX1_makeBlank_50 hl (k := 0) rfl (nI_1 j) (by decide) rfl (fun ls hl => ?_)
              refine lv_goto (tgt := 12) hx hb dX1_makeBlank_53 (by decide) ?_
              exact ih (j + 1) H locs (by omega) (by omega) (by omega) hW hS ls (lv_sub hl [0, 1, 2, 3] rfl)
          · exact absurd (bI_n c_23) (by rw [kSR hk]; decide)
    exact loop (n + 1) i _ _ (by omega) (Nat.le_refl _) (Nat.le_add_right _ _) hW hS ls (lv_sub hl [0, 1, 2, 3] rfl)
  · exact absurd (bI_e c_6) (by rw [inPls_nI (by omega) (by omega) (by omega)]; simp; exact hi)
end X1W
end
section
abbrev RS : Type := (Nat → Int32) × (Nat → Int32) × (Nat → Int32) × (Nat → Int32) × (Nat → Int64) × (Nat → Int64) × (Nat → Int64) × (Nat → Int32) × (Nat → Int32) × Int32 × Int32 × Int32 × Int32 × Int32
def sHo (σ : RS) : Nat → Int32 := σ.1
def sLa (σ : RS) : Nat → Int32 := σ.2.1
def sKi (σ : RS) : Nat → Int32 := σ.2.2.1
def sSi (σ : RS) : Nat → Int32 := σ.2.2.2.1
def sPl (σ : RS) : Nat → Int64 := σ.2.2.2.2.1
def sWa (σ : RS) : Nat → Int64 := σ.2.2.2.2.2.1
def sCn (σ : RS) : Nat → Int64 := σ.2.2.2.2.2.2.1
def sCs (σ : RS) : Nat → Int32 := σ.2.2.2.2.2.2.2.1
def sFa (σ : RS) : Nat → Int32 := σ.2.2.2.2.2.2.2.2.1
def sCov (σ : RS) : Int32 := σ.2.2.2.2.2.2.2.2.2.1
def sCam (σ : RS) : Int32 := σ.2.2.2.2.2.2.2.2.2.2.1
def sGoo (σ : RS) : Int32 := σ.2.2.2.2.2.2.2.2.2.2.2.1
def sRow (σ : RS) : Int32 := σ.2.2.2.2.2.2.2.2.2.2.2.2.1
def sCar (σ : RS) : Int32 := σ.2.2.2.2.2.2.2.2.2.2.2.2.2
def wHo (σ : RS) (v : Nat → Int32) : RS := (v, σ.2.1, σ.2.2.1, σ.2.2.2.1, σ.2.2.2.2.1, σ.2.2.2.2.2.1, σ.2.2.2.2.2.2.1, σ.2.2.2.2.2.2.2.1, σ.2.2.2.2.2.2.2.2.1, σ.2.2.2.2.2.2.2.2.2.1, σ.2.2.2.2.2.2.2.2.2.2.1, σ.2.2.2.2.2.2.2.2.2.2.2.1, σ.2.2.2.2.2.2.2.2.2.2.2.2.1, σ.2.2.2.2.2.2.2.2.2.2.2.2.2)
def wLa (σ : RS) (v : Nat → Int32) : RS := (σ.1, v, σ.2.2.1, σ.2.2.2.1, σ.2.2.2.2.1, σ.2.2.2.2.2.1, σ.2.2.2.2.2.2.1, σ.2.2.2.2.2.2.2.1, σ.2.2.2.2.2.2.2.2.1, σ.2.2.2.2.2.2.2.2.2.1, σ.2.2.2.2.2.2.2.2.2.2.1, σ.2.2.2.2.2.2.2.2.2.2.2.1, σ.2.2.2.2.2.2.2.2.2.2.2.2.1, σ.2.2.2.2.2.2.2.2.2.2.2.2.2)
def wKi (σ : RS) (v : Nat → Int32) : RS := (σ.1, σ.2.1, v, σ.2.2.2.1, σ.2.2.2.2.1, σ.2.2.2.2.2.1, σ.2.2.2.2.2.2.1, σ.2.2.2.2.2.2.2.1, σ.2.2.2.2.2.2.2.2.1, σ.2.2.2.2.2.2.2.2.2.1, σ.2.2.2.2.2.2.2.2.2.2.1, σ.2.2.2.2.2.2.2.2.2.2.2.1, σ.2.2.2.2.2.2.2.2.2.2.2.2.1, σ.2.2.2.2.2.2.2.2.2.2.2.2.2)
def wSi (σ : RS) (v : Nat → Int32) : RS := (σ.1, σ.2.1, σ.2.2.1, v, σ.2.2.2.2.1, σ.2.2.2.2.2.1, σ.2.2.2.2.2.2.1, σ.2.2.2.2.2.2.2.1, σ.2.2.2.2.2.2.2.2.1, σ.2.2.2.2.2.2.2.2.2.1, σ.2.2.2.2.2.2.2.2.2.2.1, σ.2.2.2.2.2.2.2.2.2.2.2.1, σ.2.2.2.2.2.2.2.2.2.2.2.2.1, σ.2.2.2.2.2.2.2.2.2.2.2.2.2)
def wPl (σ : RS) (v : Nat → Int64) : RS := (σ.1, σ.2.1, σ.2.2.1, σ.2.2.2.1, v, σ.2.2.2.2.2.1, σ.2.2.2.2.2.2.1, σ.2.2.2.2.2.2.2.1, σ.2.2.2.2.2.2.2.2.1, σ.2.2.2.2.2.2.2.2.2.1, σ.2.2.2.2.2.2.2.2.2.2.1, σ.2.2.2.2.2.2.2.2.2.2.2.1, σ.2.2.2.2.2.2.2.2.2.2.2.2.1, σ.2.2.2.2.2.2.2.2.2.2.2.2.2)
def wWa (σ : RS) (v : Nat → Int64) : RS := (σ.1, σ.2.1, σ.2.2.1, σ.2.2.2.1, σ.2.2.2.2.1, v, σ.2.2.2.2.2.2.1, σ.2.2.2.2.2.2.2.1, σ.2.2.2.2.2.2.2.2.1, σ.2.2.2.2.2.2.2.2.2.1, σ.2.2.2.2.2.2.2.2.2.2.1, σ.2.2.2.2.2.2.2.2.2.2.2.1, σ.2.2.2.2.2.2.2.2.2.2.2.2.1, σ.2.2.2.2.2.2.2.2.2.2.2.2.2)
def wCn (σ : RS) (v : Nat → Int64) : RS := (σ.1, σ.2.1, σ.2.2.1, σ.2.2.2.1, σ.2.2.2.2.1, σ.2.2.2.2.2.1, v, σ.2.2.2.2.2.2.2.1, σ.2.2.2.2.2.2.2.2.1, σ.2.2.2.2.2.2.2.2.2.1, σ.2.2.2.2.2.2.2.2.2.2.1, σ.2.2.2.2.2.2.2.2.2.2.2.1, σ.2.2.2.2.2.2.2.2.2.2.2.2.1, σ.2.2.2.2.2.2.2.2.2.2.2.2.2)
def wCs (σ : RS) (v : Nat → Int32) : RS := (σ.1, σ.2.1, σ.2.2.1, σ.2.2.2.1, σ.2.2.2.2.1, σ.2.2.2.2.2.1, σ.2.2.2.2.2.2.1, v, σ.2.2.2.2.2.2.2.2.1, σ.2.2.2.2.2.2.2.2.2.1, σ.2.2.2.2.2.2.2.2.2.2.1, σ.2.2.2.2.2.2.2.2.2.2.2.1, σ.2.2.2.2.2.2.2.2.2.2.2.2.1, σ.2.2.2.2.2.2.2.2.2.2.2.2.2)
def wFa (σ : RS) (v : Nat → Int32) : RS := (σ.1, σ.2.1, σ.2.2.1, σ.2.2.2.1, σ.2.2.2.2.1, σ.2.2.2.2.2.1, σ.2.2.2.2.2.2.1, σ.2.2.2.2.2.2.2.1, v, σ.2.2.2.2.2.2.2.2.2.1, σ.2.2.2.2.2.2.2.2.2.2.1, σ.2.2.2.2.2.2.2.2.2.2.2.1, σ.2.2.2.2.2.2.2.2.2.2.2.2.1, σ.2.2.2.2.2.2.2.2.2.2.2.2.2)
def wCov (σ : RS) (v : Int32) : RS := (σ.1, σ.2.1, σ.2.2.1, σ.2.2.2.1, σ.2.2.2.2.1, σ.2.2.2.2.2.1, σ.2.2.2.2.2.2.1, σ.2.2.2.2.2.2.2.1, σ.2.2.2.2.2.2.2.2.1, v, σ.2.2.2.2.2.2.2.2.2.2.1, σ.2.2.2.2.2.2.2.2.2.2.2.1, σ.2.2.2.2.2.2.2.2.2.2.2.2.1, σ.2.2.2.2.2.2.2.2.2.2.2.2.2)
def wCam (σ : RS) (v : Int32) : RS := (σ.1, σ.2.1, σ.2.2.1, σ.2.2.2.1, σ.2.2.2.2.1, σ.2.2.2.2.2.1, σ.2.2.2.2.2.2.1, σ.2.2.2.2.2.2.2.1, σ.2.2.2.2.2.2.2.2.1, σ.2.2.2.2.2.2.2.2.2.1, v, σ.2.2.2.2.2.2.2.2.2.2.2.1, σ.2.2.2.2.2.2.2.2.2.2.2.2.1, σ.2.2.2.2.2.2.2.2.2.2.2.2.2)
def wGoo (σ : RS) (v : Int32) : RS := (σ.1, σ.2.1, σ.2.2.1, σ.2.2.2.1, σ.2.2.2.2.1, σ.2.2.2.2.2.1, σ.2.2.2.2.2.2.1, σ.2.2.2.2.2.2.2.1, σ.2.2.2.2.2.2.2.2.1, σ.2.2.2.2.2.2.2.2.2.1, σ.2.2.2.2.2.2.2.2.2.2.1, v, σ.2.2.2.2.2.2.2.2.2.2.2.2.1, σ.2.2.2.2.2.2.2.2.2.2.2.2.2)
def wRow (σ : RS) (v : Int32) : RS := (σ.1, σ.2.1, σ.2.2.1, σ.2.2.2.1, σ.2.2.2.2.1, σ.2.2.2.2.2.1, σ.2.2.2.2.2.2.1, σ.2.2.2.2.2.2.2.1, σ.2.2.2.2.2.2.2.2.1, σ.2.2.2.2.2.2.2.2.2.1, σ.2.2.2.2.2.2.2.2.2.2.1, σ.2.2.2.2.2.2.2.2.2.2.2.1, v, σ.2.2.2.2.2.2.2.2.2.2.2.2.2)
def wCar (σ : RS) (v : Int32) : RS := (σ.1, σ.2.1, σ.2.2.1, σ.2.2.2.1, σ.2.2.2.2.1, σ.2.2.2.2.2.1, σ.2.2.2.2.2.2.1, σ.2.2.2.2.2.2.2.1, σ.2.2.2.2.2.2.2.2.1, σ.2.2.2.2.2.2.2.2.2.1, σ.2.2.2.2.2.2.2.2.2.2.1, σ.2.2.2.2.2.2.2.2.2.2.2.1, σ.2.2.2.2.2.2.2.2.2.2.2.2.1, v)
theorem sHo_wHo (σ : RS) (v : Nat → Int32) : sHo (wHo σ v) = v := rfl
theorem sLa_wHo (σ : RS) (v : Nat → Int32) : sLa (wHo σ v) = sLa σ := rfl
theorem sKi_wHo (σ : RS) (v : Nat → Int32) : sKi (wHo σ v) = sKi σ := rfl
theorem sSi_wHo (σ : RS) (v : Nat → Int32) : sSi (wHo σ v) = sSi σ := rfl
theorem sPl_wHo (σ : RS) (v : Nat → Int32) : sPl (wHo σ v) = sPl σ := rfl
theorem sWa_wHo (σ : RS) (v : Nat → Int32) : sWa (wHo σ v) = sWa σ := rfl
theorem sCn_wHo (σ : RS) (v : Nat → Int32) : sCn (wHo σ v) = sCn σ := rfl
theorem sCs_wHo (σ : RS) (v : Nat → Int32) : sCs (wHo σ v) = sCs σ := rfl
theorem sFa_wHo (σ : RS) (v : Nat → Int32) : sFa (wHo σ v) = sFa σ := rfl
theorem sCov_wHo (σ : RS) (v : Nat → Int32) : sCov (wHo σ v) = sCov σ := rfl
theorem sCam_wHo (σ : RS) (v : Nat → Int32) : sCam (wHo σ v) = sCam σ := rfl
theorem sGoo_wHo (σ : RS) (v : Nat → Int32) : sGoo (wHo σ v) = sGoo σ := rfl
theorem sRow_wHo (σ : RS) (v : Nat → Int32) : sRow (wHo σ v) = sRow σ := rfl
theorem sCar_wHo (σ : RS) (v : Nat → Int32) : sCar (wHo σ v) = sCar σ := rfl
theorem sHo_wLa (σ : RS) (v : Nat → Int32) : sHo (wLa σ v) = sHo σ := rfl
theorem sLa_wLa (σ : RS) (v : Nat → Int32) : sLa (wLa σ v) = v := rfl
theorem sKi_wLa (σ : RS) (v : Nat → Int32) : sKi (wLa σ v) = sKi σ := rfl
theorem sSi_wLa (σ : RS) (v : Nat → Int32) : sSi (wLa σ v) = sSi σ := rfl
theorem sPl_wLa (σ : RS) (v : Nat → Int32) : sPl (wLa σ v) = sPl σ := rfl
theorem sWa_wLa (σ : RS) (v : Nat → Int32) : sWa (wLa σ v) = sWa σ := rfl
theorem sCn_wLa (σ : RS) (v : Nat → Int32) : sCn (wLa σ v) = sCn σ := rfl
theorem sCs_wLa (σ : RS) (v : Nat → Int32) : sCs (wLa σ v) = sCs σ := rfl
theorem sFa_wLa (σ : RS) (v : Nat → Int32) : sFa (wLa σ v) = sFa σ := rfl
theorem sCov_wLa (σ : RS) (v : Nat → Int32) : sCov (wLa σ v) = sCov σ := rfl
theorem sCam_wLa (σ : RS) (v : Nat → Int32) : sCam (wLa σ v) = sCam σ := rfl
theorem sGoo_wLa (σ : RS) (v : Nat → Int32) : sGoo (wLa σ v) = sGoo σ := rfl
theorem sRow_wLa (σ : RS) (v : Nat → Int32) : sRow (wLa σ v) = sRow σ := rfl
theorem sCar_wLa (σ : RS) (v : Nat → Int32) : sCar (wLa σ v) = sCar σ := rfl
theorem sHo_wKi (σ : RS) (v : Nat → Int32) : sHo (wKi σ v) = sHo σ := rfl
theorem sLa_wKi (σ : RS) (v : Nat → Int32) : sLa (wKi σ v) = sLa σ := rfl
theorem sKi_wKi (σ : RS) (v : Nat → Int32) : sKi (wKi σ v) = v := rfl
theorem sSi_wKi (σ : RS) (v : Nat → Int32) : sSi (wKi σ v) = sSi σ := rfl
theorem sPl_wKi (σ : RS) (v : Nat → Int32) : sPl (wKi σ v) = sPl σ := rfl
theorem sWa_wKi (σ : RS) (v : Nat → Int32) : sWa (wKi σ v) = sWa σ := rfl
theorem sCn_wKi (σ : RS) (v : Nat → Int32) : sCn (wKi σ v) = sCn σ := rfl
theorem sCs_wKi (σ : RS) (v : Nat → Int32) : sCs (wKi σ v) = sCs σ := rfl
theorem sFa_wKi (σ : RS) (v : Nat → Int32) : sFa (wKi σ v) = sFa σ := rfl
theorem sCov_wKi (σ : RS) (v : Nat → Int32) : sCov (wKi σ v) = sCov σ := rfl
theorem sCam_wKi (σ : RS) (v : Nat → Int32) : sCam (wKi σ v) = sCam σ := rfl
theorem sGoo_wKi (σ : RS) (v : Nat → Int32) : sGoo (wKi σ v) = sGoo σ := rfl
theorem sRow_wKi (σ : RS) (v : Nat → Int32) : sRow (wKi σ v) = sRow σ := rfl
theorem sCar_wKi (σ : RS) (v : Nat → Int32) : sCar (wKi σ v) = sCar σ := rfl
theorem sHo_wSi (σ : RS) (v : Nat → Int32) : sHo (wSi σ v) = sHo σ := rfl
theorem sLa_wSi (σ : RS) (v : Nat → Int32) : sLa (wSi σ v) = sLa σ := rfl
theorem sKi_wSi (σ : RS) (v : Nat → Int32) : sKi (wSi σ v) = sKi σ := rfl
theorem sSi_wSi (σ : RS) (v : Nat → Int32) : sSi (wSi σ v) = v := rfl
theorem sPl_wSi (σ : RS) (v : Nat → Int32) : sPl (wSi σ v) = sPl σ := rfl
theorem sWa_wSi (σ : RS) (v : Nat → Int32) : sWa (wSi σ v) = sWa σ := rfl
theorem sCn_wSi (σ : RS) (v : Nat → Int32) : sCn (wSi σ v) = sCn σ := rfl
theorem sCs_wSi (σ : RS) (v : Nat → Int32) : sCs (wSi σ v) = sCs σ := rfl
theorem sFa_wSi (σ : RS) (v : Nat → Int32) : sFa (wSi σ v) = sFa σ := rfl
theorem sCov_wSi (σ : RS) (v : Nat → Int32) : sCov (wSi σ v) = sCov σ := rfl
theorem sCam_wSi (σ : RS) (v : Nat → Int32) : sCam (wSi σ v) = sCam σ := rfl
theorem sGoo_wSi (σ : RS) (v : Nat → Int32) : sGoo (wSi σ v) = sGoo σ := rfl
theorem sRow_wSi (σ : RS) (v : Nat → Int32) : sRow (wSi σ v) = sRow σ := rfl
theorem sCar_wSi (σ : RS) (v : Nat → Int32) : sCar (wSi σ v) = sCar σ := rfl
theorem sHo_wPl (σ : RS) (v : Nat → Int64) : sHo (wPl σ v) = sHo σ := rfl
theorem sLa_wPl (σ : RS) (v : Nat → Int64) : sLa (wPl σ v) = sLa σ := rfl
theorem sKi_wPl (σ : RS) (v : Nat → Int64) : sKi (wPl σ v) = sKi σ := rfl
theorem sSi_wPl (σ : RS) (v : Nat → Int64) : sSi (wPl σ v) = sSi σ := rfl
theorem sPl_wPl (σ : RS) (v : Nat → Int64) : sPl (wPl σ v) = v := rfl
theorem sWa_wPl (σ : RS) (v : Nat → Int64) : sWa (wPl σ v) = sWa σ := rfl
theorem sCn_wPl (σ : RS) (v : Nat → Int64) : sCn (wPl σ v) = sCn σ := rfl
theorem sCs_wPl (σ : RS) (v : Nat → Int64) : sCs (wPl σ v) = sCs σ := rfl
theorem sFa_wPl (σ : RS) (v : Nat → Int64) : sFa (wPl σ v) = sFa σ := rfl
theorem sCov_wPl (σ : RS) (v : Nat → Int64) : sCov (wPl σ v) = sCov σ := rfl
theorem sCam_wPl (σ : RS) (v : Nat → Int64) : sCam (wPl σ v) = sCam σ := rfl
theorem sGoo_wPl (σ : RS) (v : Nat → Int64) : sGoo (wPl σ v) = sGoo σ := rfl
theorem sRow_wPl (σ : RS) (v : Nat → Int64) : sRow (wPl σ v) = sRow σ := rfl
theorem sCar_wPl (σ : RS) (v : Nat → Int64) : sCar (wPl σ v) = sCar σ := rfl
theorem sHo_wWa (σ : RS) (v : Nat → Int64) : sHo (wWa σ v) = sHo σ := rfl
theorem sLa_wWa (σ : RS) (v : Nat → Int64) : sLa (wWa σ v) = sLa σ := rfl
theorem sKi_wWa (σ : RS) (v : Nat → Int64) : sKi (wWa σ v) = sKi σ := rfl
theorem sSi_wWa (σ : RS) (v : Nat → Int64) : sSi (wWa σ v) = sSi σ := rfl
theorem sPl_wWa (σ : RS) (v : Nat → Int64) : sPl (wWa σ v) = sPl σ := rfl
theorem sWa_wWa (σ : RS) (v : Nat → Int64) : sWa (wWa σ v) = v := rfl
theorem sCn_wWa (σ : RS) (v : Nat → Int64) : sCn (wWa σ v) = sCn σ := rfl
theorem sCs_wWa (σ : RS) (v : Nat → Int64) : sCs (wWa σ v) = sCs σ := rfl
theorem sFa_wWa (σ : RS) (v : Nat → Int64) : sFa (wWa σ v) = sFa σ := rfl
theorem sCov_wWa (σ : RS) (v : Nat → Int64) : sCov (wWa σ v) = sCov σ := rfl
theorem sCam_wWa (σ : RS) (v : Nat → Int64) : sCam (wWa σ v) = sCam σ := rfl
theorem sGoo_wWa (σ : RS) (v : Nat → Int64) : sGoo (wWa σ v) = sGoo σ := rfl
theorem sRow_wWa (σ : RS) (v : Nat → Int64) : sRow (wWa σ v) = sRow σ := rfl
theorem sCar_wWa (σ : RS) (v : Nat → Int64) : sCar (wWa σ v) = sCar σ := rfl
theorem sHo_wCn (σ : RS) (v : Nat → Int64) : sHo (wCn σ v) = sHo σ := rfl
theorem sLa_wCn (σ : RS) (v : Nat → Int64) : sLa (wCn σ v) = sLa σ := rfl
theorem sKi_wCn (σ : RS) (v : Nat → Int64) : sKi (wCn σ v) = sKi σ := rfl
theorem sSi_wCn (σ : RS) (v : Nat → Int64) : sSi (wCn σ v) = sSi σ := rfl
theorem sPl_wCn (σ : RS) (v : Nat → Int64) : sPl (wCn σ v) = sPl σ := rfl
theorem sWa_wCn (σ : RS) (v : Nat → Int64) : sWa (wCn σ v) = sWa σ := rfl
theorem sCn_wCn (σ : RS) (v : Nat → Int64) : sCn (wCn σ v) = v := rfl
theorem sCs_wCn (σ : RS) (v : Nat → Int64) : sCs (wCn σ v) = sCs σ := rfl
theorem sFa_wCn (σ : RS) (v : Nat → Int64) : sFa (wCn σ v) = sFa σ := rfl
theorem sCov_wCn (σ : RS) (v : Nat → Int64) : sCov (wCn σ v) = sCov σ := rfl
theorem sCam_wCn (σ : RS) (v : Nat → Int64) : sCam (wCn σ v) = sCam σ := rfl
theorem sGoo_wCn (σ : RS) (v : Nat → Int64) : sGoo (wCn σ v) = sGoo σ := rfl
theorem sRow_wCn (σ : RS) (v : Nat → Int64) : sRow (wCn σ v) = sRow σ := rfl
theorem sCar_wCn (σ : RS) (v : Nat → Int64) : sCar (wCn σ v) = sCar σ := rfl
theorem sHo_wCs (σ : RS) (v : Nat → Int32) : sHo (wCs σ v) = sHo σ := rfl
theorem sLa_wCs (σ : RS) (v : Nat → Int32) : sLa (wCs σ v) = sLa σ := rfl
theorem sKi_wCs (σ : RS) (v : Nat → Int32) : sKi (wCs σ v) = sKi σ := rfl
theorem sSi_wCs (σ : RS) (v : Nat → Int32) : sSi (wCs σ v) = sSi σ := rfl
theorem sPl_wCs (σ : RS) (v : Nat → Int32) : sPl (wCs σ v) = sPl σ := rfl
theorem sWa_wCs (σ : RS) (v : Nat → Int32) : sWa (wCs σ v) = sWa σ := rfl
theorem sCn_wCs (σ : RS) (v : Nat → Int32) : sCn (wCs σ v) = sCn σ := rfl
theorem sCs_wCs (σ : RS) (v : Nat → Int32) : sCs (wCs σ v) = v := rfl
theorem sFa_wCs (σ : RS) (v : Nat → Int32) : sFa (wCs σ v) = sFa σ := rfl
theorem sCov_wCs (σ : RS) (v : Nat → Int32) : sCov (wCs σ v) = sCov σ := rfl
theorem sCam_wCs (σ : RS) (v : Nat → Int32) : sCam (wCs σ v) = sCam σ := rfl
theorem sGoo_wCs (σ : RS) (v : Nat → Int32) : sGoo (wCs σ v) = sGoo σ := rfl
theorem sRow_wCs (σ : RS) (v : Nat → Int32) : sRow (wCs σ v) = sRow σ := rfl
theorem sCar_wCs (σ : RS) (v : Nat → Int32) : sCar (wCs σ v) = sCar σ := rfl
theorem sHo_wFa (σ : RS) (v : Nat → Int32) : sHo (wFa σ v) = sHo σ := rfl
theorem sLa_wFa (σ : RS) (v : Nat → Int32) : sLa (wFa σ v) = sLa σ := rfl
theorem sKi_wFa (σ : RS) (v : Nat → Int32) : sKi (wFa σ v) = sKi σ := rfl
theorem sSi_wFa (σ : RS) (v : Nat → Int32) : sSi (wFa σ v) = sSi σ := rfl
theorem sPl_wFa (σ : RS) (v : Nat → Int32) : sPl (wFa σ v) = sPl σ := rfl
theorem sWa_wFa (σ : RS) (v : Nat → Int32) : sWa (wFa σ v) = sWa σ := rfl
theorem sCn_wFa (σ : RS) (v : Nat → Int32) : sCn (wFa σ v) = sCn σ := rfl
theorem sCs_wFa (σ : RS) (v : Nat → Int32) : sCs (wFa σ v) = sCs σ := rfl
theorem sFa_wFa (σ : RS) (v : Nat → Int32) : sFa (wFa σ v) = v := rfl
theorem sCov_wFa (σ : RS) (v : Nat → Int32) : sCov (wFa σ v) = sCov σ := rfl
theorem sCam_wFa (σ : RS) (v : Nat → Int32) : sCam (wFa σ v) = sCam σ := rfl
theorem sGoo_wFa (σ : RS) (v : Nat → Int32) : sGoo (wFa σ v) = sGoo σ := rfl
theorem sRow_wFa (σ : RS) (v : Nat → Int32) : sRow (wFa σ v) = sRow σ := rfl
theorem sCar_wFa (σ : RS) (v : Nat → Int32) : sCar (wFa σ v) = sCar σ := rfl
theorem sHo_wCov (σ : RS) (v : Int32) : sHo (wCov σ v) = sHo σ := rfl
theorem sLa_wCov (σ : RS) (v : Int32) : sLa (wCov σ v) = sLa σ := rfl
theorem sKi_wCov (σ : RS) (v : Int32) : sKi (wCov σ v) = sKi σ := rfl
theorem sSi_wCov (σ : RS) (v : Int32) : sSi (wCov σ v) = sSi σ := rfl
theorem sPl_wCov (σ : RS) (v : Int32) : sPl (wCov σ v) = sPl σ := rfl
theorem sWa_wCov (σ : RS) (v : Int32) : sWa (wCov σ v) = sWa σ := rfl
theorem sCn_wCov (σ : RS) (v : Int32) : sCn (wCov σ v) = sCn σ := rfl
theorem sCs_wCov (σ : RS) (v : Int32) : sCs (wCov σ v) = sCs σ := rfl
theorem sFa_wCov (σ : RS) (v : Int32) : sFa (wCov σ v) = sFa σ := rfl
theorem sCov_wCov (σ : RS) (v : Int32) : sCov (wCov σ v) = v := rfl
theorem sCam_wCov (σ : RS) (v : Int32) : sCam (wCov σ v) = sCam σ := rfl
theorem sGoo_wCov (σ : RS) (v : Int32) : sGoo (wCov σ v) = sGoo σ := rfl
theorem sRow_wCov (σ : RS) (v : Int32) : sRow (wCov σ v) = sRow σ := rfl
theorem sCar_wCov (σ : RS) (v : Int32) : sCar (wCov σ v) = sCar σ := rfl
theorem sHo_wCam (σ : RS) (v : Int32) : sHo (wCam σ v) = sHo σ := rfl
theorem sLa_wCam (σ : RS) (v : Int32) : sLa (wCam σ v) = sLa σ := rfl
theorem sKi_wCam (σ : RS) (v : Int32) : sKi (wCam σ v) = sKi σ := rfl
theorem sSi_wCam (σ : RS) (v : Int32) : sSi (wCam σ v) = sSi σ := rfl
theorem sPl_wCam (σ : RS) (v : Int32) : sPl (wCam σ v) = sPl σ := rfl
theorem sWa_wCam (σ : RS) (v : Int32) : sWa (wCam σ v) = sWa σ := rfl
theorem sCn_wCam (σ : RS) (v : Int32) : sCn (wCam σ v) = sCn σ := rfl
theorem sCs_wCam (σ : RS) (v : Int32) : sCs (wCam σ v) = sCs σ := rfl
theorem sFa_wCam (σ : RS) (v : Int32) : sFa (wCam σ v) = sFa σ := rfl
theorem sCov_wCam (σ : RS) (v : Int32) : sCov (wCam σ v) = sCov σ := rfl
theorem sCam_wCam (σ : RS) (v : Int32) : sCam (wCam σ v) = v := rfl
theorem sGoo_wCam (σ : RS) (v : Int32) : sGoo (wCam σ v) = sGoo σ := rfl
theorem sRow_wCam (σ : RS) (v : Int32) : sRow (wCam σ v) = sRow σ := rfl
theorem sCar_wCam (σ : RS) (v : Int32) : sCar (wCam σ v) = sCar σ := rfl
theorem sHo_wGoo (σ : RS) (v : Int32) : sHo (wGoo σ v) = sHo σ := rfl
theorem sLa_wGoo (σ : RS) (v : Int32) : sLa (wGoo σ v) = sLa σ := rfl
theorem sKi_wGoo (σ : RS) (v : Int32) : sKi (wGoo σ v) = sKi σ := rfl
theorem sSi_wGoo (σ : RS) (v : Int32) : sSi (wGoo σ v) = sSi σ := rfl
theorem sPl_wGoo (σ : RS) (v : Int32) : sPl (wGoo σ v) = sPl σ := rfl
theorem sWa_wGoo (σ : RS) (v : Int32) : sWa (wGoo σ v) = sWa σ := rfl
theorem sCn_wGoo (σ : RS) (v : Int32) : sCn (wGoo σ v) = sCn σ := rfl
theorem sCs_wGoo (σ : RS) (v : Int32) : sCs (wGoo σ v) = sCs σ := rfl
theorem sFa_wGoo (σ : RS) (v : Int32) : sFa (wGoo σ v) = sFa σ := rfl
theorem sCov_wGoo (σ : RS) (v : Int32) : sCov (wGoo σ v) = sCov σ := rfl
theorem sCam_wGoo (σ : RS) (v : Int32) : sCam (wGoo σ v) = sCam σ := rfl
theorem sGoo_wGoo (σ : RS) (v : Int32) : sGoo (wGoo σ v) = v := rfl
theorem sRow_wGoo (σ : RS) (v : Int32) : sRow (wGoo σ v) = sRow σ := rfl
theorem sCar_wGoo (σ : RS) (v : Int32) : sCar (wGoo σ v) = sCar σ := rfl
theorem sHo_wRow (σ : RS) (v : Int32) : sHo (wRow σ v) = sHo σ := rfl
theorem sLa_wRow (σ : RS) (v : Int32) : sLa (wRow σ v) = sLa σ := rfl
theorem sKi_wRow (σ : RS) (v : Int32) : sKi (wRow σ v) = sKi σ := rfl
theorem sSi_wRow (σ : RS) (v : Int32) : sSi (wRow σ v) = sSi σ := rfl
theorem sPl_wRow (σ : RS) (v : Int32) : sPl (wRow σ v) = sPl σ := rfl
theorem sWa_wRow (σ : RS) (v : Int32) : sWa (wRow σ v) = sWa σ := rfl
theorem sCn_wRow (σ : RS) (v : Int32) : sCn (wRow σ v) = sCn σ := rfl
theorem sCs_wRow (σ : RS) (v : Int32) : sCs (wRow σ v) = sCs σ := rfl
theorem sFa_wRow (σ : RS) (v : Int32) : sFa (wRow σ v) = sFa σ := rfl
theorem sCov_wRow (σ : RS) (v : Int32) : sCov (wRow σ v) = sCov σ := rfl
theorem sCam_wRow (σ : RS) (v : Int32) : sCam (wRow σ v) = sCam σ := rfl
theorem sGoo_wRow (σ : RS) (v : Int32) : sGoo (wRow σ v) = sGoo σ := rfl
theorem sRow_wRow (σ : RS) (v : Int32) : sRow (wRow σ v) = v := rfl
theorem sCar_wRow (σ : RS) (v : Int32) : sCar (wRow σ v) = sCar σ := rfl
theorem sHo_wCar (σ : RS) (v : Int32) : sHo (wCar σ v) = sHo σ := rfl
theorem sLa_wCar (σ : RS) (v : Int32) : sLa (wCar σ v) = sLa σ := rfl
theorem sKi_wCar (σ : RS) (v : Int32) : sKi (wCar σ v) = sKi σ := rfl
theorem sSi_wCar (σ : RS) (v : Int32) : sSi (wCar σ v) = sSi σ := rfl
theorem sPl_wCar (σ : RS) (v : Int32) : sPl (wCar σ v) = sPl σ := rfl
theorem sWa_wCar (σ : RS) (v : Int32) : sWa (wCar σ v) = sWa σ := rfl
theorem sCn_wCar (σ : RS) (v : Int32) : sCn (wCar σ v) = sCn σ := rfl
theorem sCs_wCar (σ : RS) (v : Int32) : sCs (wCar σ v) = sCs σ := rfl
theorem sFa_wCar (σ : RS) (v : Int32) : sFa (wCar σ v) = sFa σ := rfl
theorem sCov_wCar (σ : RS) (v : Int32) : sCov (wCar σ v) = sCov σ := rfl
theorem sCam_wCar (σ : RS) (v : Int32) : sCam (wCar σ v) = sCam σ := rfl
theorem sGoo_wCar (σ : RS) (v : Int32) : sGoo (wCar σ v) = sGoo σ := rfl
theorem sRow_wCar (σ : RS) (v : Int32) : sRow (wCar σ v) = sRow σ := rfl
theorem sCar_wCar (σ : RS) (v : Int32) : sCar (wCar σ v) = v := rfl
def refAt (cI cJ : ClassId) (mm : Nat) (ad : Nat → Nat) (σ : RS) (M : Nat → Option va_E) : Prop :=
  M mm = some (.inr (3, [.ref (ad 0), .ref (ad 1), .ref (ad 2), .ref (ad 3), .ref (ad 4), .ref (ad 5), .ref (ad 6), .ref (ad 7), .ref (ad 8), .int (sCov σ), .int (sCam σ), .int (sGoo σ), .int (sRow σ), .int (sCar σ)])) ∧ M (ad 0) = some (.inl (cI, 10, .inl (sHo σ))) ∧ M (ad 1) = some (.inl (cI, 10, .inl (sLa σ))) ∧ M (ad 2) = some (.inl (cI, 12, .inl (sKi σ))) ∧ M (ad 3) = some (.inl (cI, 12, .inl (sSi σ))) ∧ M (ad 4) = some (.inl (cJ, 960, .inr (.inl (sPl σ)))) ∧ M (ad 5) = some (.inl (cJ, 80, .inr (.inl (sWa σ)))) ∧ M (ad 6) = some (.inl (cJ, 2000, .inr (.inl (sCn σ)))) ∧ M (ad 7) = some (.inl (cI, 2000, .inl (sCs σ))) ∧ M (ad 8) = some (.inl (cI, 5, .inl (sFa σ))) ∧ ∀ i j, i < 9 → j < 9 → ad i = ad j → i = j
section RF
variable {cI cJ : ClassId} {mm : Nat} {ad : Nat → Nat} {σ : RS} {M : Nat → Option va_E}
theorem refAt.wHo (h : refAt cI cJ mm ad σ M) (v : Nat → Int32) : refAt cI cJ mm ad (wHo σ v) (va_up M (ad 0) (some (.inl (cI, 10, .inl (v))))) :=
  ⟨by rw [va_up_ne _ _ (mw_neq h.1 h.2.1 (fun z => by cases z))]; exact h.1,
   va_up_self _ _ _,
   by rw [va_up_ne _ _ (fun z => absurd (h.2.2.2.2.2.2.2.2.2.2 1 0 (by decide) (by decide) z) (by decide))]; exact h.2.2.1,
   by rw [va_up_ne _ _ (fun z => absurd (h.2.2.2.2.2.2.2.2.2.2 2 0 (by decide) (by decide) z) (by decide))]; exact h.2.2.2.1,
   by rw [va_up_ne _ _ (fun z => absurd (h.2.2.2.2.2.2.2.2.2.2 3 0 (by decide) (by decide) z) (by decide))]; exact h.2.2.2.2.1,
   by rw [va_up_ne _ _ (fun z => absurd (h.2.2.2.2.2.2.2.2.2.2 4 0 (by decide) (by decide) z) (by decide))]; exact h.2.2.2.2.2.1,
   by rw [va_up_ne _ _ (fun z => absurd (h.2.2.2.2.2.2.2.2.2.2 5 0 (by decide) (by decide) z) (by decide))]; exact h.2.2.2.2.2.2.1,
   by rw [va_up_ne _ _ (fun z => absurd (h.2.2.2.2.2.2.2.2.2.2 6 0 (by decide) (by decide) z) (by decide))]; exact h.2.2.2.2.2.2.2.1,
   by rw [va_up_ne _ _ (fun z => absurd (h.2.2.2.2.2.2.2.2.2.2 7 0 (by decide) (by decide) z) (by decide))]; exact h.2.2.2.2.2.2.2.2.1,
   by rw [va_up_ne _ _ (fun z => absurd (h.2.2.2.2.2.2.2.2.2.2 8 0 (by decide) (by decide) z) (by decide))]; exact h.2.2.2.2.2.2.2.2.2.1, h.2.2.2.2.2.2.2.2.2.2⟩
theorem refAt.wLa (h : refAt cI cJ mm ad σ M) (v : Nat → Int32) : refAt cI cJ mm ad (wLa σ v) (va_up M (ad 1) (some (.inl (cI, 10, .inl (v))))) :=
  ⟨by rw [va_up_ne _ _ (mw_neq h.1 h.2.2.1 (fun z => by cases z))]; exact h.1,
   by rw [va_up_ne _ _ (fun z => absurd (h.2.2.2.2.2.2.2.2.2.2 0 1 (by decide) (by decide) z) (by decide))]; exact h.2.1,
   va_up_self _ _ _,
   by rw [va_up_ne _ _ (fun z => absurd (h.2.2.2.2.2.2.2.2.2.2 2 1 (by decide) (by decide) z) (by decide))]; exact h.2.2.2.1,
   by rw [va_up_ne _ _ (fun z => absurd (h.2.2.2.2.2.2.2.2.2.2 3 1 (by decide) (by decide) z) (by decide))]; exact h.2.2.2.2.1,
   by rw [va_up_ne _ _ (fun z => absurd (h.2.2.2.2.2.2.2.2.2.2 4 1 (by decide) (by decide) z) (by decide))]; exact h.2.2.2.2.2.1,
   by rw [va_up_ne _ _ (fun z => absurd (h.2.2.2.2.2.2.2.2.2.2 5 1 (by decide) (by decide) z) (by decide))]; exact h.2.2.2.2.2.2.1,
   by rw [va_up_ne _ _ (fun z => absurd (h.2.2.2.2.2.2.2.2.2.2 6 1 (by decide) (by decide) z) (by decide))]; exact h.2.2.2.2.2.2.2.1,
   by rw [va_up_ne _ _ (fun z => absurd (h.2.2.2.2.2.2.2.2.2.2 7 1 (by decide) (by decide) z) (by decide))]; exact h.2.2.2.2.2.2.2.2.1,
   by rw [va_up_ne _ _ (fun z => absurd (h.2.2.2.2.2.2.2.2.2.2 8 1 (by decide) (by decide) z) (by decide))]; exact h.2.2.2.2.2.2.2.2.2.1, h.2.2.2.2.2.2.2.2.2.2⟩
theorem refAt.wKi (h : refAt cI cJ mm ad σ M) (v : Nat → Int32) : refAt cI cJ mm ad (wKi σ v) (va_up M (ad 2) (some (.inl (cI, 12, .inl (v))))) :=
  ⟨by rw [va_up_ne _ _ (mw_neq h.1 h.2.2.2.1 (fun z => by cases z))]; exact h.1,
   by rw [va_up_ne _ _ (fun z => absurd (h.2.2.2.2.2.2.2.2.2.2 0 2 (by decide) (by decide) z) (by decide))]; exact h.2.1,
   by rw [va_up_ne _ _ (fun z => absurd (h.2.2.2.2.2.2.2.2.2.2 1 2 (by decide) (by decide) z) (by decide))]; exact h.2.2.1,
   va_up_self _ _ _,
   by rw [va_up_ne _ _ (fun z => absurd (h.2.2.2.2.2.2.2.2.2.2 3 2 (by decide) (by decide) z) (by decide))]; exact h.2.2.2.2.1,
   by rw [va_up_ne _ _ (fun z => absurd (h.2.2.2.2.2.2.2.2.2.2 4 2 (by decide) (by decide) z) (by decide))]; exact h.2.2.2.2.2.1,
   by rw [va_up_ne _ _ (fun z => absurd (h.2.2.2.2.2.2.2.2.2.2 5 2 (by decide) (by decide) z) (by decide))]; exact h.2.2.2.2.2.2.1,
   by rw [va_up_ne _ _ (fun z => absurd (h.2.2.2.2.2.2.2.2.2.2 6 2 (by decide) (by decide) z) (by decide))]; exact h.2.2.2.2.2.2.2.1,
   by rw [va_up_ne _ _ (fun z => absurd (h.2.2.2.2.2.2.2.2.2.2 7 2 (by decide) (by decide) z) (by decide))]; exact h.2.2.2.2.2.2.2.2.1,
   by rw [va_up_ne _ _ (fun z => absurd (h.2.2.2.2.2.2.2.2.2.2 8 2 (by decide) (by decide) z) (by decide))]; exact h.2.2.2.2.2.2.2.2.2.1, h.2.2.2.2.2.2.2.2.2.2⟩
theorem refAt.wSi (h : refAt cI cJ mm ad σ M) (v : Nat → Int32) : refAt cI cJ mm ad (wSi σ v) (va_up M (ad 3) (some (.inl (cI, 12, .inl (v))))) :=
  ⟨by rw [va_up_ne _ _ (mw_neq h.1 h.2.2.2.2.1 (fun z => by cases z))]; exact h.1,
   by rw [va_up_ne _ _ (fun z => absurd (h.2.2.2.2.2.2.2.2.2.2 0 3 (by decide) (by decide) z) (by decide))]; exact h.2.1,
   by rw [va_up_ne _ _ (fun z => absurd (h.2.2.2.2.2.2.2.2.2.2 1 3 (by decide) (by decide) z) (by decide))]; exact h.2.2.1,
   by rw [va_up_ne _ _ (fun z => absurd (h.2.2.2.2.2.2.2.2.2.2 2 3 (by decide) (by decide) z) (by decide))]; exact h.2.2.2.1,
   va_up_self _ _ _,
   by rw [va_up_ne _ _ (fun z => absurd (h.2.2.2.2.2.2.2.2.2.2 4 3 (by decide) (by decide) z) (by decide))]; exact h.2.2.2.2.2.1,
   by rw [va_up_ne _ _ (fun z => absurd (h.2.2.2.2.2.2.2.2.2.2 5 3 (by decide) (by decide) z) (by decide))]; exact h.2.2.2.2.2.2.1,
   by rw [va_up_ne _ _ (fun z => absurd (h.2.2.2.2.2.2.2.2.2.2 6 3 (by decide) (by decide) z) (by decide))]; exact h.2.2.2.2.2.2.2.1,
   by rw [va_up_ne _ _ (fun z => absurd (h.2.2.2.2.2.2.2.2.2.2 7 3 (by decide) (by decide) z) (by decide))]; exact h.2.2.2.2.2.2.2.2.1,
   by rw [va_up_ne _ _ (fun z => absurd (h.2.2.2.2.2.2.2.2.2.2 8 3 (by decide) (by decide) z) (by decide))]; exact h.2.2.2.2.2.2.2.2.2.1, h.2.2.2.2.2.2.2.2.2.2⟩
theorem refAt.wPl (h : refAt cI cJ mm ad σ M) (v : Nat → Int64) : refAt cI cJ mm ad (wPl σ v) (va_up M (ad 4) (some (.inl (cJ, 960, .inr (.inl (v)))))) :=
  ⟨by rw [va_up_ne _ _ (mw_neq h.1 h.2.2.2.2.2.1 (fun z => by cases z))]; exact h.1,
   by rw [va_up_ne _ _ (fun z => absurd (h.2.2.2.2.2.2.2.2.2.2 0 4 (by decide) (by decide) z) (by decide))]; exact h.2.1,
   by rw [va_up_ne _ _ (fun z => absurd (h.2.2.2.2.2.2.2.2.2.2 1 4 (by decide) (by decide) z) (by decide))]; exact h.2.2.1,
   by rw [va_up_ne _ _ (fun z => absurd (h.2.2.2.2.2.2.2.2.2.2 2 4 (by decide) (by decide) z) (by decide))]; exact h.2.2.2.1,
   by rw [va_up_ne _ _ (fun z => absurd (h.2.2.2.2.2.2.2.2.2.2 3 4 (by decide) (by decide) z) (by decide))]; exact h.2.2.2.2.1,
   va_up_self _ _ _,
   by rw [va_up_ne _ _ (fun z => absurd (h.2.2.2.2.2.2.2.2.2.2 5 4 (by decide) (by decide) z) (by decide))]; exact h.2.2.2.2.2.2.1,
   by rw [va_up_ne _ _ (fun z => absurd (h.2.2.2.2.2.2.2.2.2.2 6 4 (by decide) (by decide) z) (by decide))]; exact h.2.2.2.2.2.2.2.1,
   by rw [va_up_ne _ _ (fun z => absurd (h.2.2.2.2.2.2.2.2.2.2 7 4 (by decide) (by decide) z) (by decide))]; exact h.2.2.2.2.2.2.2.2.1,
   by rw [va_up_ne _ _ (fun z => absurd (h.2.2.2.2.2.2.2.2.2.2 8 4 (by decide) (by decide) z) (by decide))]; exact h.2.2.2.2.2.2.2.2.2.1, h.2.2.2.2.2.2.2.2.2.2⟩
theorem refAt.wWa (h : refAt cI cJ mm ad σ M) (v : Nat → Int64) : refAt cI cJ mm ad (wWa σ v) (va_up M (ad 5) (some (.inl (cJ, 80, .inr (.inl (v)))))) :=
  ⟨by rw [va_up_ne _ _ (mw_neq h.1 h.2.2.2.2.2.2.1 (fun z => by cases z))]; exact h.1,
   by rw [va_up_ne _ _ (fun z => absurd (h.2.2.2.2.2.2.2.2.2.2 0 5 (by decide) (by decide) z) (by decide))]; exact h.2.1,
   by rw [va_up_ne _ _ (fun z => absurd (h.2.2.2.2.2.2.2.2.2.2 1 5 (by decide) (by decide) z) (by decide))]; exact h.2.2.1,
   by rw [va_up_ne _ _ (fun z => absurd (h.2.2.2.2.2.2.2.2.2.2 2 5 (by decide) (by decide) z) (by decide))]; exact h.2.2.2.1,
   by rw [va_up_ne _ _ (fun z => absurd (h.2.2.2.2.2.2.2.2.2.2 3 5 (by decide) (by decide) z) (by decide))]; exact h.2.2.2.2.1,
   by rw [va_up_ne _ _ (fun z => absurd (h.2.2.2.2.2.2.2.2.2.2 4 5 (by decide) (by decide) z) (by decide))]; exact h.2.2.2.2.2.1,
   va_up_self _ _ _,
   by rw [va_up_ne _ _ (fun z => absurd (h.2.2.2.2.2.2.2.2.2.2 6 5 (by decide) (by decide) z) (by decide))]; exact h.2.2.2.2.2.2.2.1,
   by rw [va_up_ne _ _ (fun z => absurd (h.2.2.2.2.2.2.2.2.2.2 7 5 (by decide) (by decide) z) (by decide))]; exact h.2.2.2.2.2.2.2.2.1,
   by rw [va_up_ne _ _ (fun z => absurd (h.2.2.2.2.2.2.2.2.2.2 8 5 (by decide) (by decide) z) (by decide))]; exact h.2.2.2.2.2.2.2.2.2.1, h.2.2.2.2.2.2.2.2.2.2⟩
theorem refAt.wCn (h : refAt cI cJ mm ad σ M) (v : Nat → Int64) : refAt cI cJ mm ad (wCn σ v) (va_up M (ad 6) (some (.inl (cJ, 2000, .inr (.inl (v)))))) :=
  ⟨by rw [va_up_ne _ _ (mw_neq h.1 h.2.2.2.2.2.2.2.1 (fun z => by cases z))]; exact h.1,
   by rw [va_up_ne _ _ (fun z => absurd (h.2.2.2.2.2.2.2.2.2.2 0 6 (by decide) (by decide) z) (by decide))]; exact h.2.1,
   by rw [va_up_ne _ _ (fun z => absurd (h.2.2.2.2.2.2.2.2.2.2 1 6 (by decide) (by decide) z) (by decide))]; exact h.2.2.1,
   by rw [va_up_ne _ _ (fun z => absurd (h.2.2.2.2.2.2.2.2.2.2 2 6 (by decide) (by decide) z) (by decide))]; exact h.2.2.2.1,
   by rw [va_up_ne _ _ (fun z => absurd (h.2.2.2.2.2.2.2.2.2.2 3 6 (by decide) (by decide) z) (by decide))]; exact h.2.2.2.2.1,
   by rw [va_up_ne _ _ (fun z => absurd (h.2.2.2.2.2.2.2.2.2.2 4 6 (by decide) (by decide) z) (by decide))]; exact h.2.2.2.2.2.1,
   by rw [va_up_ne _ _ (fun z => absurd (h.2.2.2.2.2.2.2.2.2.2 5 6 (by decide) (by decide) z) (by decide))]; exact h.2.2.2.2.2.2.1,
   va_up_self _ _ _,
   by rw [va_up_ne _ _ (fun z => absurd (h.2.2.2.2.2.2.2.2.2.2 7 6 (by decide) (by decide) z) (by decide))]; exact h.2.2.2.2.2.2.2.2.1,
   by rw [va_up_ne _ _ (fun z => absurd (h.2.2.2.2.2.2.2.2.2.2 8 6 (by decide) (by decide) z) (by decide))]; exact h.2.2.2.2.2.2.2.2.2.1, h.2.2.2.2.2.2.2.2.2.2⟩
theorem refAt.wCs (h : refAt cI cJ mm ad σ M) (v : Nat → Int32) : refAt cI cJ mm ad (wCs σ v) (va_up M (ad 7) (some (.inl (cI, 2000, .inl (v))))) :=
  ⟨by rw [va_up_ne _ _ (mw_neq h.1 h.2.2.2.2.2.2.2.2.1 (fun z => by cases z))]; exact h.1,
   by rw [va_up_ne _ _ (fun z => absurd (h.2.2.2.2.2.2.2.2.2.2 0 7 (by decide) (by decide) z) (by decide))]; exact h.2.1,
   by rw [va_up_ne _ _ (fun z => absurd (h.2.2.2.2.2.2.2.2.2.2 1 7 (by decide) (by decide) z) (by decide))]; exact h.2.2.1,
   by rw [va_up_ne _ _ (fun z => absurd (h.2.2.2.2.2.2.2.2.2.2 2 7 (by decide) (by decide) z) (by decide))]; exact h.2.2.2.1,
   by rw [va_up_ne _ _ (fun z => absurd (h.2.2.2.2.2.2.2.2.2.2 3 7 (by decide) (by decide) z) (by decide))]; exact h.2.2.2.2.1,
   by rw [va_up_ne _ _ (fun z => absurd (h.2.2.2.2.2.2.2.2.2.2 4 7 (by decide) (by decide) z) (by decide))]; exact h.2.2.2.2.2.1,
   by rw [va_up_ne _ _ (fun z => absurd (h.2.2.2.2.2.2.2.2.2.2 5 7 (by decide) (by decide) z) (by decide))]; exact h.2.2.2.2.2.2.1,
   by rw [va_up_ne _ _ (fun z => absurd (h.2.2.2.2.2.2.2.2.2.2 6 7 (by decide) (by decide) z) (by decide))]; exact h.2.2.2.2.2.2.2.1,
   va_up_self _ _ _,
   by rw [va_up_ne _ _ (fun z => absurd (h.2.2.2.2.2.2.2.2.2.2 8 7 (by decide) (by decide) z) (by decide))]; exact h.2.2.2.2.2.2.2.2.2.1, h.2.2.2.2.2.2.2.2.2.2⟩
theorem refAt.wFa (h : refAt cI cJ mm ad σ M) (v : Nat → Int32) : refAt cI cJ mm ad (wFa σ v) (va_up M (ad 8) (some (.inl (cI, 5, .inl (v))))) :=
  ⟨by rw [va_up_ne _ _ (mw_neq h.1 h.2.2.2.2.2.2.2.2.2.1 (fun z => by cases z))]; exact h.1,
   by rw [va_up_ne _ _ (fun z => absurd (h.2.2.2.2.2.2.2.2.2.2 0 8 (by decide) (by decide) z) (by decide))]; exact h.2.1,
   by rw [va_up_ne _ _ (fun z => absurd (h.2.2.2.2.2.2.2.2.2.2 1 8 (by decide) (by decide) z) (by decide))]; exact h.2.2.1,
   by rw [va_up_ne _ _ (fun z => absurd (h.2.2.2.2.2.2.2.2.2.2 2 8 (by decide) (by decide) z) (by decide))]; exact h.2.2.2.1,
   by rw [va_up_ne _ _ (fun z => absurd (h.2.2.2.2.2.2.2.2.2.2 3 8 (by decide) (by decide) z) (by decide))]; exact h.2.2.2.2.1,
   by rw [va_up_ne _ _ (fun z => absurd (h.2.2.2.2.2.2.2.2.2.2 4 8 (by decide) (by decide) z) (by decide))]; exact h.2.2.2.2.2.1,
   by rw [va_up_ne _ _ (fun z => absurd (h.2.2.2.2.2.2.2.2.2.2 5 8 (by decide) (by decide) z) (by decide))]; exact h.2.2.2.2.2.2.1,
   by rw [va_up_ne _ _ (fun z => absurd (h.2.2.2.2.2.2.2.2.2.2 6 8 (by decide) (by decide) z) (by decide))]; exact h.2.2.2.2.2.2.2.1,
   by rw [va_up_ne _ _ (fun z => absurd (h.2.2.2.2.2.2.2.2.2.2 7 8 (by decide) (by decide) z) (by decide))]; exact h.2.2.2.2.2.2.2.2.1,
   va_up_self _ _ _, h.2.2.2.2.2.2.2.2.2.2⟩
theorem refAt.wCov (h : refAt cI cJ mm ad σ M) (v : Int32) : refAt cI cJ mm ad (wCov σ v) (va_up M mm (some (.inr (3, [.ref (ad 0), .ref (ad 1), .ref (ad 2), .ref (ad 3), .ref (ad 4), .ref (ad 5), .ref (ad 6), .ref (ad 7), .ref (ad 8), .int (v), .int (sCam σ), .int (sGoo σ), .int (sRow σ), .int (sCar σ)])))) :=
  ⟨va_up_self _ _ _,
   by rw [va_up_ne _ _ (mw_neq h.2.1 h.1 (fun z => by cases z))]; exact h.2.1,
   by rw [va_up_ne _ _ (mw_neq h.2.2.1 h.1 (fun z => by cases z))]; exact h.2.2.1,
   by rw [va_up_ne _ _ (mw_neq h.2.2.2.1 h.1 (fun z => by cases z))]; exact h.2.2.2.1,
   by rw [va_up_ne _ _ (mw_neq h.2.2.2.2.1 h.1 (fun z => by cases z))]; exact h.2.2.2.2.1,
   by rw [va_up_ne _ _ (mw_neq h.2.2.2.2.2.1 h.1 (fun z => by cases z))]; exact h.2.2.2.2.2.1,
   by rw [va_up_ne _ _ (mw_neq h.2.2.2.2.2.2.1 h.1 (fun z => by cases z))]; exact h.2.2.2.2.2.2.1,
   by rw [va_up_ne _ _ (mw_neq h.2.2.2.2.2.2.2.1 h.1 (fun z => by cases z))]; exact h.2.2.2.2.2.2.2.1,
   by rw [va_up_ne _ _ (mw_neq h.2.2.2.2.2.2.2.2.1 h.1 (fun z => by cases z))]; exact h.2.2.2.2.2.2.2.2.1,
   by rw [va_up_ne _ _ (mw_neq h.2.2.2.2.2.2.2.2.2.1 h.1 (fun z => by cases z))]; exact h.2.2.2.2.2.2.2.2.2.1, h.2.2.2.2.2.2.2.2.2.2⟩
theorem refAt.wCam (h : refAt cI cJ mm ad σ M) (v : Int32) : refAt cI cJ mm ad (wCam σ v) (va_up M mm (some (.inr (3, [.ref (ad 0), .ref (ad 1), .ref (ad 2), .ref (ad 3), .ref (ad 4), .ref (ad 5), .ref (ad 6), .ref (ad 7), .ref (ad 8), .int (sCov σ), .int (v), .int (sGoo σ), .int (sRow σ), .int (sCar σ)])))) :=
  ⟨va_up_self _ _ _,
   by rw [va_up_ne _ _ (mw_neq h.2.1 h.1 (fun z => by cases z))]; exact h.2.1,
   by rw [va_up_ne _ _ (mw_neq h.2.2.1 h.1 (fun z => by cases z))]; exact h.2.2.1,
   by rw [va_up_ne _ _ (mw_neq h.2.2.2.1 h.1 (fun z => by cases z))]; exact h.2.2.2.1,
   by rw [va_up_ne _ _ (mw_neq h.2.2.2.2.1 h.1 (fun z => by cases z))]; exact h.2.2.2.2.1,
   by rw [va_up_ne _ _ (mw_neq h.2.2.2.2.2.1 h.1 (fun z => by cases z))]; exact h.2.2.2.2.2.1,
   by rw [va_up_ne _ _ (mw_neq h.2.2.2.2.2.2.1 h.1 (fun z => by cases z))]; exact h.2.2.2.2.2.2.1,
   by rw [va_up_ne _ _ (mw_neq h.2.2.2.2.2.2.2.1 h.1 (fun z => by cases z))]; exact h.2.2.2.2.2.2.2.1,
   by rw [va_up_ne _ _ (mw_neq h.2.2.2.2.2.2.2.2.1 h.1 (fun z => by cases z))]; exact h.2.2.2.2.2.2.2.2.1,
   by rw [va_up_ne _ _ (mw_neq h.2.2.2.2.2.2.2.2.2.1 h.1 (fun z => by cases z))]; exact h.2.2.2.2.2.2.2.2.2.1, h.2.2.2.2.2.2.2.2.2.2⟩
theorem refAt.wGoo (h : refAt cI cJ mm ad σ M) (v : Int32) : refAt cI cJ mm ad (wGoo σ v) (va_up M mm (some (.inr (3, [.ref (ad 0), .ref (ad 1), .ref (ad 2), .ref (ad 3), .ref (ad 4), .ref (ad 5), .ref (ad 6), .ref (ad 7), .ref (ad 8), .int (sCov σ), .int (sCam σ), .int (v), .int (sRow σ), .int (sCar σ)])))) :=
  ⟨va_up_self _ _ _,
   by rw [va_up_ne _ _ (mw_neq h.2.1 h.1 (fun z => by cases z))]; exact h.2.1,
   by rw [va_up_ne _ _ (mw_neq h.2.2.1 h.1 (fun z => by cases z))]; exact h.2.2.1,
   by rw [va_up_ne _ _ (mw_neq h.2.2.2.1 h.1 (fun z => by cases z))]; exact h.2.2.2.1,
   by rw [va_up_ne _ _ (mw_neq h.2.2.2.2.1 h.1 (fun z => by cases z))]; exact h.2.2.2.2.1,
   by rw [va_up_ne _ _ (mw_neq h.2.2.2.2.2.1 h.1 (fun z => by cases z))]; exact h.2.2.2.2.2.1,
   by rw [va_up_ne _ _ (mw_neq h.2.2.2.2.2.2.1 h.1 (fun z => by cases z))]; exact h.2.2.2.2.2.2.1,
   by rw [va_up_ne _ _ (mw_neq h.2.2.2.2.2.2.2.1 h.1 (fun z => by cases z))]; exact h.2.2.2.2.2.2.2.1,
   by rw [va_up_ne _ _ (mw_neq h.2.2.2.2.2.2.2.2.1 h.1 (fun z => by cases z))]; exact h.2.2.2.2.2.2.2.2.1,
   by rw [va_up_ne _ _ (mw_neq h.2.2.2.2.2.2.2.2.2.1 h.1 (fun z => by cases z))]; exact h.2.2.2.2.2.2.2.2.2.1, h.2.2.2.2.2.2.2.2.2.2⟩
theorem refAt.wRow (h : refAt cI cJ mm ad σ M) (v : Int32) : refAt cI cJ mm ad (wRow σ v) (va_up M mm (some (.inr (3, [.ref (ad 0), .ref (ad 1), .ref (ad 2), .ref (ad 3), .ref (ad 4), .ref (ad 5), .ref (ad 6), .ref (ad 7), .ref (ad 8), .int (sCov σ), .int (sCam σ), .int (sGoo σ), .int (v), .int (sCar σ)])))) :=
  ⟨va_up_self _ _ _,
   by rw [va_up_ne _ _ (mw_neq h.2.1 h.1 (fun z => by cases z))]; exact h.2.1,
   by rw [va_up_ne _ _ (mw_neq h.2.2.1 h.1 (fun z => by cases z))]; exact h.2.2.1,
   by rw [va_up_ne _ _ (mw_neq h.2.2.2.1 h.1 (fun z => by cases z))]; exact h.2.2.2.1,
   by rw [va_up_ne _ _ (mw_neq h.2.2.2.2.1 h.1 (fun z => by cases z))]; exact h.2.2.2.2.1,
   by rw [va_up_ne _ _ (mw_neq h.2.2.2.2.2.1 h.1 (fun z => by cases z))]; exact h.2.2.2.2.2.1,
   by rw [va_up_ne _ _ (mw_neq h.2.2.2.2.2.2.1 h.1 (fun z => by cases z))]; exact h.2.2.2.2.2.2.1,
   by rw [va_up_ne _ _ (mw_neq h.2.2.2.2.2.2.2.1 h.1 (fun z => by cases z))]; exact h.2.2.2.2.2.2.2.1,
   by rw [va_up_ne _ _ (mw_neq h.2.2.2.2.2.2.2.2.1 h.1 (fun z => by cases z))]; exact h.2.2.2.2.2.2.2.2.1,
   by rw [va_up_ne _ _ (mw_neq h.2.2.2.2.2.2.2.2.2.1 h.1 (fun z => by cases z))]; exact h.2.2.2.2.2.2.2.2.2.1, h.2.2.2.2.2.2.2.2.2.2⟩
theorem refAt.wCar (h : refAt cI cJ mm ad σ M) (v : Int32) : refAt cI cJ mm ad (wCar σ v) (va_up M mm (some (.inr (3, [.ref (ad 0), .ref (ad 1), .ref (ad 2), .ref (ad 3), .ref (ad 4), .ref (ad 5), .ref (ad 6), .ref (ad 7), .ref (ad 8), .int (sCov σ), .int (sCam σ), .int (sGoo σ), .int (sRow σ), .int (v)])))) :=
  ⟨va_up_self _ _ _,
   by rw [va_up_ne _ _ (mw_neq h.2.1 h.1 (fun z => by cases z))]; exact h.2.1,
   by rw [va_up_ne _ _ (mw_neq h.2.2.1 h.1 (fun z => by cases z))]; exact h.2.2.1,
   by rw [va_up_ne _ _ (mw_neq h.2.2.2.1 h.1 (fun z => by cases z))]; exact h.2.2.2.1,
   by rw [va_up_ne _ _ (mw_neq h.2.2.2.2.1 h.1 (fun z => by cases z))]; exact h.2.2.2.2.1,
   by rw [va_up_ne _ _ (mw_neq h.2.2.2.2.2.1 h.1 (fun z => by cases z))]; exact h.2.2.2.2.2.1,
   by rw [va_up_ne _ _ (mw_neq h.2.2.2.2.2.2.1 h.1 (fun z => by cases z))]; exact h.2.2.2.2.2.2.1,
   by rw [va_up_ne _ _ (mw_neq h.2.2.2.2.2.2.2.1 h.1 (fun z => by cases z))]; exact h.2.2.2.2.2.2.2.1,
   by rw [va_up_ne _ _ (mw_neq h.2.2.2.2.2.2.2.2.1 h.1 (fun z => by cases z))]; exact h.2.2.2.2.2.2.2.2.1,
   by rw [va_up_ne _ _ (mw_neq h.2.2.2.2.2.2.2.2.2.1 h.1 (fun z => by cases z))]; exact h.2.2.2.2.2.2.2.2.2.1, h.2.2.2.2.2.2.2.2.2.2⟩
end RF
end
section
/-! ===== what the reference's small methods answer ===== -/
def hoOk (v : Int32) : Prop := v = 0 ∨ (∃ k : Nat, k < 10 ∧ v = -1 - nI k) ∨ ∃ k : Nat, k < 12 ∧ v = nI (k + 1)
theorem lab_neg : ∀ k, k < 10 → (-1 - nI k : Int32) < 0 := by decide +kernel
theorem lab_ix : ∀ k, k < 10 → (-1 - (-1 - nI k) : Int32) = nI k := by decide +kernel
theorem row_pos : ∀ k, k < 12 → (0 : Int32) < nI (k + 1) := by decide +kernel
theorem row_nn {k : Nat} (h : k < 12) : ¬ nI (k + 1) < 0 := nI_pos (by omega)
theorem row_n0 {k : Nat} (h : k < 12) : ¬ nI (k + 1) = 0 := nI_ne0 (by omega) (by omega)
theorem lab_n0 {k : Nat} (h : k < 10) : ¬ (-1 - nI k : Int32) = 0 := fun z => by
  have := lab_neg k h
  rw [z] at this
  exact absurd this (by decide)
theorem hoOk.row {v : Int32} (h : hoOk v) (h1 : ¬ v = 0) (h2 : ¬ v < 0) : ∃ k : Nat, k < 12 ∧ v = nI (k + 1) := by
  rcases h with h | ⟨k, hk, rfl⟩ | h
  · exact absurd h h1
  · exact absurd (lab_neg k hk) h2
  · exact h
theorem hoOk.rowP {v : Int32} (h : hoOk v) (h1 : 0 < v) : ∃ k : Nat, k < 12 ∧ v = nI (k + 1) := by
  refine h.row (fun z => ?_) (fun z => ?_)
  · rw [z] at h1; exact absurd h1 (by decide)
  · have a := Int32.lt_iff_toInt_lt.mp h1
    have b := Int32.lt_iff_toInt_lt.mp z
    omega
theorem hoOk.lab {v : Int32} (h : hoOk v) (h1 : v < 0) : ∃ k : Nat, k < 10 ∧ v = -1 - nI k := by
  rcases h with h | h | ⟨k, hk, rfl⟩
  · rw [h] at h1; exact absurd h1 (by decide)
  · exact h
  · exact absurd h1 (row_nn hk)
/-- the row that spindle j holds -/
def rIx (σ : RS) (j : Nat) : Nat := (sHo σ j - 1).toNatClampNeg
def kOf (σ : RS) (j : Nat) : Int32 := if sHo σ j = 0 then 0 else if sHo σ j < 0 then 1 else sKi σ (rIx σ j)
def hasP (σ : RS) (j : Nat) : Bool := decide (0 < sHo σ j)
def szOf (σ : RS) (j : Nat) : Int32 := if hasP σ j = true then sSi σ (rIx σ j) else 0
def rkOf (σ : RS) (j : Nat) : Bool := decide (4 ≤ kOf σ j)
def cIx (v : Int64) : Nat := (v.toInt32 - 1).toNatClampNeg
def plainV (σ : RS) (v : Int64) : Bool := !decide (v = 0) && decide (sCn σ (cIx v) &&& 1 = 1)
def anyN (P : Nat → Bool) : Nat → Bool
  | 0 => false
  | n + 1 => anyN P n || P n
def heldB (σ : RS) (t : Int32) : Bool := anyN (fun j => decide (sHo σ j = t)) 10
def beyB (i n z : Int32) : Bool := decide (i < 0) || (decide (n < 0) || decide (z.toInt64 < i.toInt64 + n.toInt64))
def hindI (σ : RS) (j : Nat) (i n : Int32) : Int32 := if sHo σ j = 0 then 1 else if hasP σ j = true then (if beyB i n (szOf σ j) = true then 3 else 0) else 2
theorem rIx_row {σ : RS} {j k : Nat} (hk : k < 12) (h : sHo σ j = nI (k + 1)) : rIx σ j = k := by
  unfold rIx
  rw [h, nI_pred, nI_clamp (by omega)]
theorem kOf_row {σ : RS} {j k : Nat} (hk : k < 12) (h : sHo σ j = nI (k + 1)) : kOf σ j = sKi σ k := by
  unfold kOf
  rw [rIx_row hk h, h, if_neg (row_n0 hk), if_neg (row_nn hk)]
theorem kOf_lab {σ : RS} {j k : Nat} (hk : k < 10) (h : sHo σ j = -1 - nI k) : kOf σ j = 1 := by
  unfold kOf
  rw [h, if_neg (lab_n0 hk), if_pos (lab_neg k hk)]
theorem kOf_0 {σ : RS} {j : Nat} (h : sHo σ j = 0) : kOf σ j = 0 := by
  unfold kOf
  rw [if_pos h]
theorem hasP_row {σ : RS} {j k : Nat} (hk : k < 12) (h : sHo σ j = nI (k + 1)) : hasP σ j = true := by
  unfold hasP
  rw [h]
  exact decide_eq_true (row_pos k hk)
theorem hasP_lab {σ : RS} {j k : Nat} (hk : k < 10) (h : sHo σ j = -1 - nI k) : hasP σ j = false := by
  unfold hasP
  rw [h]
  refine decide_eq_false (fun z => ?_)
  have a := Int32.lt_iff_toInt_lt.mp z
  have b := Int32.lt_iff_toInt_lt.mp (lab_neg k hk)
  omega
theorem hasP_0 {σ : RS} {j : Nat} (h : sHo σ j = 0) : hasP σ j = false := by
  unfold hasP
  rw [h]
  decide
theorem szOf_row {σ : RS} {j k : Nat} (hk : k < 12) (h : sHo σ j = nI (k + 1)) : szOf σ j = sSi σ k := by
  unfold szOf
  rw [if_pos (hasP_row hk h), rIx_row hk h]
theorem szOf_n {σ : RS} {j : Nat} (h : hasP σ j = false) : szOf σ j = 0 := by
  unfold szOf
  rw [if_neg (by rw [h]; decide)]
theorem cIx_lN {c : Nat} (h : c < 2000) : cIx (lN (c + 1)) = c := by
  unfold cIx
  rw [lN_i, nI_pred, nI_clamp (by omega)]
theorem lN_n0 {c : Nat} (h : c < 2000) : ¬ lN (c + 1) = 0 := fun z => by
  have := (lN_eq (a := c + 1) (b := 0) (by omega) (by omega)).mp z
  omega
theorem beyB_of {i n : Int32} {pn : Nat} (hp : pn ≤ 80) : beyB i n (nI pn) = !inPls i n (nI pn) := by
  unfold beyB inPls
  by_cases h1 : i < 0
  · simp [h1]
  · by_cases h2 : n < 0
    · simp [h1, h2]
    · obtain ⟨a, ha, rfl⟩ := nI_of h1
      obtain ⟨b, hb, rfl⟩ := nI_of h2
      have e1 : ((nI pn).toInt64 < (nI a).toInt64 + (nI b).toInt64) ↔ pn < a + b := by
        rw [nI_l (show pn < 2 ^ 31 by omega), nI_l ha, nI_l hb, lN_add]
        exact pk_lLT (by omega) (by omega)
      have h6 : (nI pn - nI a).toInt = (pn : Int) - a := by
        rw [Int32.toInt_sub, nI_toInt ha, nI_toInt (show pn < 2 ^ 31 by omega)]
        rw [Int.bmod_eq_of_le] <;> omega
      have e2 : (nI pn - nI a < nI b) ↔ pn < a + b := by
        rw [Int32.lt_iff_toInt_lt, h6, nI_toInt hb]
        omega
      simp [h1, h2, e1, e2]
end
section
section X3R
variable {l : Launch} {D : va_G} {cI cJ cC cH : ClassId} {M : Nat → Option va_E} {sz : Nat}
abbrev rmX3_isSpindle : Room := ({ frames := 0, cells := 0, slots := 0, locals := 0 } : Room)
set_option maxHeartbeats 4000000 in
set_option maxRecDepth 100000 in
theorem c_X3_isSpindle {s0 : Int32} : Met l yX3_isSpindle wsX3_isSpindle rmX3_isSpindle (va_Pc [.int s0] (mwPre D (tyL cI cJ cC cH) M sz)) (vp_Si (fun r => r = bI (isSp s0))) 0 0 (fun _ => False) := by
  refine Met.ofW (cc := cX3_isSpindle) (maxL := 1) (ret := (some .boolean)) (by decide) rfl ?_
  intro pr env s m args below meth c s₁ B hml hv
  obtain ⟨rfl, hsz, hW, hK, hO⟩ := hv
  have hx := B.exec
  have hb := B.bytes
  have hr := B.returns
  have hts := atoms_spec (ws := wsX3_isSpindle) B.pre
  have hown : s.vm.findClass RX3 = some m.cls := findClass_of_methodNamed B.named
  have hlocks := B.notSynchronized
  have F : CallFix pr m c cX3_isSpindle 1 s ([.int s0] : List Value).toArray wsX3_isSpindle RX3 := ⟨hx, hb, hml, hown, hts⟩
  have hl := lv_entry ([.int s0]) (n := 1) (Nat.le_of_ble_eq_true rfl)
  rw [lg_entry_eq]
  generalize (lg_sl ([.int s0]) ++ List.replicate (1 - (lg_sl ([.int s0])).length) Slot.unset).toArray = ls at hl ⊢
  have hl : lv_has ls 1 [(0, .int s0)] := hl
  refine lv_iload_n hx hb dX3_isSpindle_0 rfl (lv_at hl 0 rfl) ?_
  refine lv_if_lt (tgt := 14) hx hb dX3_isSpindle_1 (by decide) (fun c_1 => ?_) (fun c_1 => ?_)
  · refine lv_iconst (v := 0) hx hb dX3_isSpindle_14 (by decide) ?_
    exact W.zret hx hb hr (by first | rfl | exact bI_nar _) (fun t ht _ => ⟨_, rfl, (by first | rfl | simp [bI, isSp, c_1]), ht⟩) (fun _ h => by cases h) dX3_isSpindle_15
  · refine lv_iload_n hx hb dX3_isSpindle_4 rfl (lv_at hl 0 rfl) ?_
    refine lv_bipush (v := 10) hx hb dX3_isSpindle_5 (by decide) ?_
    refine lv_icmp_ge (tgt := 14) hx hb dX3_isSpindle_7 (by decide) (fun c_7 => ?_) (fun c_7 => ?_)
    · refine lv_iconst (v := 0) hx hb dX3_isSpindle_14 (by decide) ?_
      exact W.zret hx hb hr (by first | rfl | exact bI_nar _) (fun t ht _ => ⟨_, rfl, (by first | rfl | simp [bI, isSp, c_1, c_7]), ht⟩) (fun _ h => by cases h) dX3_isSpindle_15
    · refine lv_iconst (v := 1) hx hb dX3_isSpindle_10 (by decide) ?_
      refine lv_goto (tgt := 15) hx hb dX3_isSpindle_11 (by decide) ?_
      exact W.zret hx hb hr (by first | rfl | exact bI_nar _) (fun t ht _ => ⟨_, rfl, (by first | rfl | simp [bI, isSp, c_1, c_7]), ht⟩) (fun _ h => by cases h) dX3_isSpindle_15
abbrev rmX2_isSpindle : Room := ({ frames := 0, cells := 0, slots := 0, locals := 0 } : Room)
set_option maxHeartbeats 4000000 in
set_option maxRecDepth 100000 in
theorem c_X2_isSpindle {s0 : Int32} : Met l yX2_isSpindle wsX2_isSpindle rmX2_isSpindle (va_Pc [.int s0] (mwPre D (tyL cI cJ cC cH) M sz)) (vp_Si (fun r => r = bI (isSp s0))) 0 0 (fun _ => False) := by
  refine Met.ofW (cc := cX2_isSpindle) (maxL := 1) (ret := (some .boolean)) (by decide) rfl ?_
  intro pr env s m args below meth c s₁ B hml hv
  obtain ⟨rfl, hsz, hW, hK, hO⟩ := hv
  have hx := B.exec
  have hb := B.bytes
  have hr := B.returns
  have hts := atoms_spec (ws := wsX2_isSpindle) B.pre
  have hown : s.vm.findClass RX2 = some m.cls := findClass_of_methodNamed B.named
  have hlocks := B.notSynchronized
  have F : CallFix pr m c cX2_isSpindle 1 s ([.int s0] : List Value).toArray wsX2_isSpindle RX2 := ⟨hx, hb, hml, hown, hts⟩
  have hl := lv_entry ([.int s0]) (n := 1) (Nat.le_of_ble_eq_true rfl)
  rw [lg_entry_eq]
  generalize (lg_sl ([.int s0]) ++ List.replicate (1 - (lg_sl ([.int s0])).length) Slot.unset).toArray = ls at hl ⊢
  have hl : lv_has ls 1 [(0, .int s0)] := hl
  refine lv_iload_n hx hb dX2_isSpindle_0 rfl (lv_at hl 0 rfl) ?_
  refine lv_if_lt (tgt := 14) hx hb dX2_isSpindle_1 (by decide) (fun c_1 => ?_) (fun c_1 => ?_)
  · refine lv_iconst (v := 0) hx hb dX2_isSpindle_14 (by decide) ?_
    exact W.zret hx hb hr (by first | rfl | exact bI_nar _) (fun t ht _ => ⟨_, rfl, (by first | rfl | simp [bI, isSp, c_1]), ht⟩) (fun _ h => by cases h) dX2_isSpindle_15
  · refine lv_iload_n hx hb dX2_isSpindle_4 rfl (lv_at hl 0 rfl) ?_
    refine lv_bipush (v := 10) hx hb dX2_isSpindle_5 (by decide) ?_
    refine lv_icmp_ge (tgt := 14) hx hb dX2_isSpindle_7 (by decide) (fun c_7 => ?_) (fun c_7 => ?_)
    · refine lv_iconst (v := 0) hx hb dX2_isSpindle_14 (by decide) ?_
      exact W.zret hx hb hr (by first | rfl | exact bI_nar _) (fun t ht _ => ⟨_, rfl, (by first | rfl | simp [bI, isSp, c_1, c_7]), ht⟩) (fun _ h => by cases h) dX2_isSpindle_15
    · refine lv_iconst (v := 1) hx hb dX2_isSpindle_10 (by decide) ?_
      refine lv_goto (tgt := 15) hx hb dX2_isSpindle_11 (by decide) ?_
      exact W.zret hx hb hr (by first | rfl | exact bI_nar _) (fun t ht _ => ⟨_, rfl, (by first | rfl | simp [bI, isSp, c_1, c_7]), ht⟩) (fun _ h => by cases h) dX2_isSpindle_15
abbrev rmX3_kindOf : Room := ({ frames := 0, cells := 0, slots := 0, locals := 0 } : Room)
set_option maxHeartbeats 4000000 in
set_option maxRecDepth 100000 in
theorem c_X3_kindOf {mm : Nat} {ad : Nat → Nat} {σ : RS} (hR : refAt cI cJ mm ad σ M) {j : Nat} (hj : j < 10) (ho : hoOk (sHo σ j)) : Met l yX3_kindOf wsX3_kindOf rmX3_kindOf (va_Pc [.ref mm, .int (nI j)] (mwPre D (tyL cI cJ cC cH) M sz)) (vp_Si (fun r => r = kOf σ j)) 0 0 (fun _ => False) := by
  refine Met.ofW (cc := cX3_kindOf) (maxL := 2) (ret := (some .int)) (by decide) rfl ?_
  intro pr env s m args below meth c s₁ B hml hv
  obtain ⟨rfl, hsz, hW, hK, hO⟩ := hv
  have hx := B.exec
  have hb := B.bytes
  have hr := B.returns
  have hts := atoms_spec (ws := wsX3_kindOf) B.pre
  have hown : s.vm.findClass RX3 = some m.cls := findClass_of_methodNamed B.named
  have hlocks := B.notSynchronized
  have F : CallFix pr m c cX3_kindOf 2 s ([.ref mm, .int (nI j)] : List Value).toArray wsX3_kindOf RX3 := ⟨hx, hb, hml, hown, hts⟩
  have hI_X3 : ∀ w ∈ wsX30, w ∈ wsX3_kindOf := by decide +kernel
  have hl_fieldLink_RX3_7_SpliceBenchModel_holds_I := hts (.fieldLink RX3 7 "SpliceBenchModel" "holds" "[I") (by decide +kernel)
  have hl_fieldLink_RX3_16_SpliceBenchModel_kind_I := hts (.fieldLink RX3 16 "SpliceBenchModel" "kind" "[I") (by decide +kernel)
  have hl := lv_entry ([.ref mm, .int (nI j)]) (n := 2) (Nat.le_of_ble_eq_true rfl)
  rw [lg_entry_eq]
  generalize (lg_sl ([.ref mm, .int (nI j)]) ++ List.replicate (2 - (lg_sl ([.ref mm, .int (nI j)])).length) Slot.unset).toArray = ls at hl ⊢
  have hl : lv_has ls 2 [(0, .ref mm), (1, .int (nI j))] := hl
  refine lv_aload_n hx hb dX3_kindOf_0 rfl (lv_at hl 0 rfl) ?_
  refine mw_get (C := RX3) (T := TX3) (N := 14) F hK hW hI_X3 hR.1 rfl 0 (by decide) hl_fieldLink_RX3_7_SpliceBenchModel_holds_I rfl dX3_kindOf_1 ?_
  refine lv_iload_n hx hb dX3_kindOf_4 rfl (lv_at hl 1 rfl) ?_
  refine mw_iald F hK hW 0 hR.2.1 rfl (vp_in_nI (show j < 10 by omega) (by omega)) dX3_kindOf_5 ?_
  rw [nI_clamp (show j < 2 ^ 31 by omega)]
  refine lv_if_ne (tgt := 13) hx hb dX3_kindOf_6 (by decide) (fun c_6 => ?_) (fun c_6 => ?_)
  · refine lv_aload_n hx hb dX3_kindOf_13 rfl (lv_at hl 0 rfl) ?_
    refine mw_get (C := RX3) (T := TX3) (N := 14) F hK hW hI_X3 hR.1 rfl 0 (by decide) hl_fieldLink_RX3_7_SpliceBenchModel_holds_I rfl dX3_kindOf_14 ?_
    refine lv_iload_n hx hb dX3_kindOf_17 rfl (lv_at hl 1 rfl) ?_
    refine mw_iald F hK hW 0 hR.2.1 rfl (vp_in_nI (show j < 10 by omega) (by omega)) dX3_kindOf_18 ?_
    rw [nI_clamp (show j < 2 ^ 31 by omega)]
    refine lv_if_ge (tgt := 26) hx hb dX3_kindOf_19 (by decide) (fun c_19 => ?_) (fun c_19 => ?_)
    · refine lv_aload_n hx hb dX3_kindOf_26 rfl (lv_at hl 0 rfl) ?_
      refine mw_get (C := RX3) (T := TX3) (N := 14) F hK hW hI_X3 hR.1 rfl 2 (by decide) hl_fieldLink_RX3_16_SpliceBenchModel_kind_I rfl dX3_kindOf_27 ?_
      refine lv_aload_n hx hb dX3_kindOf_30 rfl (lv_at hl 0 rfl) ?_
      refine mw_get (C := RX3) (T := TX3) (N := 14) F hK hW hI_X3 hR.1 rfl 0 (by decide) hl_fieldLink_RX3_7_SpliceBenchModel_holds_I rfl dX3_kindOf_31 ?_
      refine lv_iload_n hx hb dX3_kindOf_34 rfl (lv_at hl 1 rfl) ?_
      refine mw_iald F hK hW 0 hR.2.1 rfl (vp_in_nI (show j < 10 by omega) (by omega)) dX3_kindOf_35 ?_
      rw [nI_clamp (show j < 2 ^ 31 by omega)]
      refine lv_iconst (v := 1) hx hb dX3_kindOf_36 (by decide) ?_
      refine lv_isub hx hb dX3_kindOf_37 ?_
      obtain ⟨k9, hk9, e9⟩ := ho.row c_6 (Int32.not_lt.mpr c_19)
      rw [e9, nI_pred]
      refine mw_iald F hK hW 0 hR.2.2.2.1 rfl (vp_in_nI (show k9 < 12 by omega) (by omega)) dX3_kindOf_38 ?_
      rw [nI_clamp (show k9 < 2 ^ 31 by omega)]
      exact W.iret hx hb hr (fun t ht _ => ⟨_, rfl, (kOf_row hk9 e9).symm, ht⟩) (fun _ h => by cases h) dX3_kindOf_39
    · refine lv_iconst (v := 1) hx hb dX3_kindOf_22 (by decide) ?_
      refine lv_goto (tgt := 39) hx hb dX3_kindOf_23 (by decide) ?_
      exact W.iret hx hb hr (fun t ht _ => ⟨_, rfl, (by unfold kOf; rw [if_neg c_6, if_pos (Int32.not_le.mp c_19)]), ht⟩) (fun _ h => by cases h) dX3_kindOf_39
  · refine lv_iconst (v := 0) hx hb dX3_kindOf_9 (by decide) ?_
    refine lv_goto (tgt := 39) hx hb dX3_kindOf_10 (by decide) ?_
    exact W.iret hx hb hr (fun t ht _ => ⟨_, rfl, (kOf_0 c_6).symm, ht⟩) (fun _ h => by cases h) dX3_kindOf_39
abbrev rmX3_hasPlaces : Room := ({ frames := 0, cells := 0, slots := 0, locals := 0 } : Room)
set_option maxHeartbeats 4000000 in
set_option maxRecDepth 100000 in
theorem c_X3_hasPlaces {mm : Nat} {ad : Nat → Nat} {σ : RS} (hR : refAt cI cJ mm ad σ M) {j : Nat} (hj : j < 10) : Met l yX3_hasPlaces wsX3_hasPlaces rmX3_hasPlaces (va_Pc [.ref mm, .int (nI j)] (mwPre D (tyL cI cJ cC cH) M sz)) (vp_Si (fun r => r = bI (hasP σ j))) 0 0 (fun _ => False) := by
  refine Met.ofW (cc := cX3_hasPlaces) (maxL := 2) (ret := (some .boolean)) (by decide) rfl ?_
  intro pr env s m args below meth c s₁ B hml hv
  obtain ⟨rfl, hsz, hW, hK, hO⟩ := hv
  have hx := B.exec
  have hb := B.bytes
  have hr := B.returns
  have hts := atoms_spec (ws := wsX3_hasPlaces) B.pre
  have hown : s.vm.findClass RX3 = some m.cls := findClass_of_methodNamed B.named
  have hlocks := B.notSynchronized
  have F : CallFix pr m c cX3_hasPlaces 2 s ([.ref mm, .int (nI j)] : List Value).toArray wsX3_hasPlaces RX3 := ⟨hx, hb, hml, hown, hts⟩
  have hI_X3 : ∀ w ∈ wsX30, w ∈ wsX3_hasPlaces := by decide +kernel
  have hl_fieldLink_RX3_7_SpliceBenchModel_holds_I := hts (.fieldLink RX3 7 "SpliceBenchModel" "holds" "[I") (by decide +kernel)
  have hl := lv_entry ([.ref mm, .int (nI j)]) (n := 2) (Nat.le_of_ble_eq_true rfl)
  rw [lg_entry_eq]
  generalize (lg_sl ([.ref mm, .int (nI j)]) ++ List.replicate (2 - (lg_sl ([.ref mm, .int (nI j)])).length) Slot.unset).toArray = ls at hl ⊢
  have hl : lv_has ls 2 [(0, .ref mm), (1, .int (nI j))] := hl
  refine lv_aload_n hx hb dX3_hasPlaces_0 rfl (lv_at hl 0 rfl) ?_
  refine mw_get (C := RX3) (T := TX3) (N := 14) F hK hW hI_X3 hR.1 rfl 0 (by decide) hl_fieldLink_RX3_7_SpliceBenchModel_holds_I rfl dX3_hasPlaces_1 ?_
  refine lv_iload_n hx hb dX3_hasPlaces_4 rfl (lv_at hl 1 rfl) ?_
  refine mw_iald F hK hW 0 hR.2.1 rfl (vp_in_nI (show j < 10 by omega) (by omega)) dX3_hasPlaces_5 ?_
  rw [nI_clamp (show j < 2 ^ 31 by omega)]
  refine lv_if_le (tgt := 13) hx hb dX3_hasPlaces_6 (by decide) (fun c_6 => ?_) (fun c_6 => ?_)
  · refine lv_iconst (v := 0) hx hb dX3_hasPlaces_13 (by decide) ?_
    exact W.zret hx hb hr (by first | rfl | exact bI_nar _) (fun t ht _ => ⟨_, rfl, (by unfold hasP; rw [decide_eq_false (Int32.not_lt.mpr c_6)]; rfl), ht⟩) (fun _ h => by cases h) dX3_hasPlaces_14
  · refine lv_iconst (v := 1) hx hb dX3_hasPlaces_9 (by decide) ?_
    refine lv_goto (tgt := 14) hx hb dX3_hasPlaces_10 (by decide) ?_
    exact W.zret hx hb hr (by first | rfl | exact bI_nar _) (fun t ht _ => ⟨_, rfl, (by unfold hasP; rw [decide_eq_true (Int32.not_le.mp c_6)]; rfl), ht⟩) (fun _ h => by cases h) dX3_hasPlaces_14
abbrev rmX3_sizeOf : Room := ({ frames := 1, cells := 0, slots := 0, locals := 21 } : Room)
set_option maxHeartbeats 4000000 in
set_option maxRecDepth 100000 in
theorem c_X3_sizeOf {mm : Nat} {ad : Nat → Nat} {σ : RS} (hR : refAt cI cJ mm ad σ M) {j : Nat} (hj : j < 10) (ho : hoOk (sHo σ j)) : Met l yX3_sizeOf wsX3_sizeOf rmX3_sizeOf (va_Pc [.ref mm, .int (nI j)] (mwPre D (tyL cI cJ cC cH) M sz)) (vp_Si (fun r => r = szOf σ j)) 0 0 (fun _ => False) := by
  refine Met.ofW (cc := cX3_sizeOf) (maxL := 2) (ret := (some .int)) (by decide) rfl ?_
  intro pr env s m args below meth c s₁ B hml hv
  obtain ⟨rfl, hsz, hW, hK, hO⟩ := hv
  have hx := B.exec
  have hb := B.bytes
  have hr := B.returns
  have hts := atoms_spec (ws := wsX3_sizeOf) B.pre
  have hown : s.vm.findClass RX3 = some m.cls := findClass_of_methodNamed B.named
  have hlocks := B.notSynchronized
  have F : CallFix pr m c cX3_sizeOf 2 s ([.ref mm, .int (nI j)] : List Value).toArray wsX3_sizeOf RX3 := ⟨hx, hb, hml, hown, hts⟩
  have hI_X3 : ∀ w ∈ wsX30, w ∈ wsX3_sizeOf := by decide +kernel
  have hl_fieldLink_RX3_19_SpliceBenchModel_size_I := hts (.fieldLink RX3 19 "SpliceBenchModel" "size" "[I") (by decide +kernel)
  have hl_fieldLink_RX3_7_SpliceBenchModel_holds_I := hts (.fieldLink RX3 7 "SpliceBenchModel" "holds" "[I") (by decide +kernel)
  have hl := lv_entry ([.ref mm, .int (nI j)]) (n := 2) (Nat.le_of_ble_eq_true rfl)
  rw [lg_entry_eq]
  generalize (lg_sl ([.ref mm, .int (nI j)]) ++ List.replicate (2 - (lg_sl ([.ref mm, .int (nI j)])).length) Slot.unset).toArray = ls at hl ⊢
  have hl : lv_has ls 2 [(0, .ref mm), (1, .int (nI j))] := hl
  refine lv_aload_n hx hb dX3_sizeOf_0 rfl (lv_at hl 0 rfl) ?_
  refine lv_iload_n hx hb dX3_sizeOf_1 rfl (lv_at hl 1 rfl) ?_
  refine vp_callSi (W.runV (As := [.int (nI j)]) (rest := []) F (c_X3_hasPlaces hR (show j < 10 by omega)) (cwV 1 hts gX3_sizeOf_X3_hasPlaces rfl rfl rfl (by decide +kernel) ⟨Nat.le_of_ble_eq_true rfl, Nat.le_of_ble_eq_true rfl⟩) (mw_prV (q := (RX3, TX3, 14)) hK hO hW rfl hR.1) rfl rfl hl.1 rfl (lv_room (Nat.le_of_ble_eq_true rfl)) dX3_sizeOf_2 ⟨Nat.zero_le _, Nat.zero_le _⟩) (fun r_1 er_1 => ?_)
  subst er_1
  refine lv_if_eq (tgt := 24) hx hb dX3_sizeOf_5 (by decide) (fun c_5 => ?_) (fun c_5 => ?_)
  · have c_5 := bI_e c_5
    refine lv_iconst (v := 0) hx hb dX3_sizeOf_24 (by decide) ?_
    exact W.iret hx hb hr (fun t ht _ => ⟨_, rfl, (szOf_n c_5).symm, ht⟩) (fun _ h => by cases h) dX3_sizeOf_25
  · have c_5 := bI_n c_5
    refine lv_aload_n hx hb dX3_sizeOf_8 rfl (lv_at hl 0 rfl) ?_
    refine mw_get (C := RX3) (T := TX3) (N := 14) F hK hW hI_X3 hR.1 rfl 3 (by decide) hl_fieldLink_RX3_19_SpliceBenchModel_size_I rfl dX3_sizeOf_9 ?_
    refine lv_aload_n hx hb dX3_sizeOf_12 rfl (lv_at hl 0 rfl) ?_
    refine mw_get (C := RX3) (T := TX3) (N := 14) F hK hW hI_X3 hR.1 rfl 0 (by decide) hl_fieldLink_RX3_7_SpliceBenchModel_holds_I rfl dX3_sizeOf_13 ?_
    refine lv_iload_n hx hb dX3_sizeOf_16 rfl (lv_at hl 1 rfl) ?_
    refine mw_iald F hK hW 0 hR.2.1 rfl (vp_in_nI (show j < 10 by omega) (by omega)) dX3_sizeOf_17 ?_
    rw [nI_clamp (show j < 2 ^ 31 by omega)]
    refine lv_iconst (v := 1) hx hb dX3_sizeOf_18 (by decide) ?_
    refine lv_isub hx hb dX3_sizeOf_19 ?_
    obtain ⟨k9, hk9, e9⟩ := ho.rowP (of_decide_eq_true c_5)
    rw [e9, nI_pred]
    refine mw_iald F hK hW 0 hR.2.2.2.2.1 rfl (vp_in_nI (show k9 < 12 by omega) (by omega)) dX3_sizeOf_20 ?_
    rw [nI_clamp (show k9 < 2 ^ 31 by omega)]
    refine lv_goto (tgt := 25) hx hb dX3_sizeOf_21 (by decide) ?_
    exact W.iret hx hb hr (fun t ht _ => ⟨_, rfl, (szOf_row hk9 e9).symm, ht⟩) (fun _ h => by cases h) dX3_sizeOf_25
abbrev rmX3_isRack : Room := ({ frames := 1, cells := 0, slots := 0, locals := 21 } : Room)
set_option maxHeartbeats 4000000 in
set_option maxRecDepth 100000 in
theorem c_X3_isRack {mm : Nat} {ad : Nat → Nat} {σ : RS} (hR : refAt cI cJ mm ad σ M) {j : Nat} (hj : j < 10) (ho : hoOk (sHo σ j)) : Met l yX3_isRack wsX3_isRack rmX3_isRack (va_Pc [.ref mm, .int (nI j)] (mwPre D (tyL cI cJ cC cH) M sz)) (vp_Si (fun r => r = bI (rkOf σ j))) 0 0 (fun _ => False) := by
  refine Met.ofW (cc := cX3_isRack) (maxL := 2) (ret := (some .boolean)) (by decide) rfl ?_
  intro pr env s m args below meth c s₁ B hml hv
  obtain ⟨rfl, hsz, hW, hK, hO⟩ := hv
  have hx := B.exec
  have hb := B.bytes
  have hr := B.returns
  have hts := atoms_spec (ws := wsX3_isRack) B.pre
  have hown : s.vm.findClass RX3 = some m.cls := findClass_of_methodNamed B.named
  have hlocks := B.notSynchronized
  have F : CallFix pr m c cX3_isRack 2 s ([.ref mm, .int (nI j)] : List Value).toArray wsX3_isRack RX3 := ⟨hx, hb, hml, hown, hts⟩
  have hl := lv_entry ([.ref mm, .int (nI j)]) (n := 2) (Nat.le_of_ble_eq_true rfl)
  rw [lg_entry_eq]
  generalize (lg_sl ([.ref mm, .int (nI j)]) ++ List.replicate (2 - (lg_sl ([.ref mm, .int (nI j)])).length) Slot.unset).toArray = ls at hl ⊢
  have hl : lv_has ls 2 [(0, .ref mm), (1, .int (nI j))] := hl
  refine lv_aload_n hx hb dX3_isRack_0 rfl (lv_at hl 0 rfl) ?_
  refine lv_iload_n hx hb dX3_isRack_1 rfl (lv_at hl 1 rfl) ?_
  refine vp_callSi (W.runV (As := [.int (nI j)]) (rest := []) F (c_X3_kindOf hR (show j < 10 by omega) ho) (cwV 1 hts gX3_isRack_X3_kindOf rfl rfl rfl (by decide +kernel) ⟨Nat.le_of_ble_eq_true rfl, Nat.le_of_ble_eq_true rfl⟩) (mw_prV (q := (RX3, TX3, 14)) hK hO hW rfl hR.1) rfl rfl hl.1 rfl (lv_room (Nat.le_of_ble_eq_true rfl)) dX3_isRack_2 ⟨Nat.zero_le _, Nat.zero_le _⟩) (fun r_1 er_1 => ?_)
  subst er_1
  refine lv_iconst (v := 4) hx hb dX3_isRack_5 (by decide) ?_
  refine lv_icmp_lt (tgt := 13) hx hb dX3_isRack_6 (by decide) (fun c_6 => ?_) (fun c_6 => ?_)
  · refine lv_iconst (v := 0) hx hb dX3_isRack_13 (by decide) ?_
    exact W.zret hx hb hr (by first | rfl | exact bI_nar _) (fun t ht _ => ⟨_, rfl, (by unfold rkOf; rw [decide_eq_false (Int32.not_le.mpr c_6)]; rfl), ht⟩) (fun _ h => by cases h) dX3_isRack_14
  · refine lv_iconst (v := 1) hx hb dX3_isRack_9 (by decide) ?_
    refine lv_goto (tgt := 14) hx hb dX3_isRack_10 (by decide) ?_
    exact W.zret hx hb hr (by first | rfl | exact bI_nar _) (fun t ht _ => ⟨_, rfl, (by unfold rkOf; rw [decide_eq_true (Int32.not_lt.mp c_6)]; rfl), ht⟩) (fun _ h => by cases h) dX3_isRack_14
abbrev rmX3_isPlace : Room := ({ frames := 2, cells := 0, slots := 0, locals := 42 } : Room)
set_option maxHeartbeats 4000000 in
set_option maxRecDepth 100000 in
theorem c_X3_isPlace {mm : Nat} {ad : Nat → Nat} {σ : RS} (hR : refAt cI cJ mm ad σ M) {j : Nat} (hj : j < 10) {i : Int32} (ho : hoOk (sHo σ j)) : Met l yX3_isPlace wsX3_isPlace rmX3_isPlace (va_Pc [.ref mm, .int (nI j), .int i] (mwPre D (tyL cI cJ cC cH) M sz)) (vp_Si (fun r => r = bI (inPl i (szOf σ j)))) 0 0 (fun _ => False) := by
  refine Met.ofW (cc := cX3_isPlace) (maxL := 3) (ret := (some .boolean)) (by decide) rfl ?_
  intro pr env s m args below meth c s₁ B hml hv
  obtain ⟨rfl, hsz, hW, hK, hO⟩ := hv
  have hx := B.exec
  have hb := B.bytes
  have hr := B.returns
  have hts := atoms_spec (ws := wsX3_isPlace) B.pre
  have hown : s.vm.findClass RX3 = some m.cls := findClass_of_methodNamed B.named
  have hlocks := B.notSynchronized
  have F : CallFix pr m c cX3_isPlace 3 s ([.ref mm, .int (nI j), .int i] : List Value).toArray wsX3_isPlace RX3 := ⟨hx, hb, hml, hown, hts⟩
  have hl := lv_entry ([.ref mm, .int (nI j), .int i]) (n := 3) (Nat.le_of_ble_eq_true rfl)
  rw [lg_entry_eq]
  generalize (lg_sl ([.ref mm, .int (nI j), .int i]) ++ List.replicate (3 - (lg_sl ([.ref mm, .int (nI j), .int i])).length) Slot.unset).toArray = ls at hl ⊢
  have hl : lv_has ls 3 [(0, .ref mm), (1, .int (nI j)), (2, .int i)] := hl
  refine lv_iload_n hx hb dX3_isPlace_0 rfl (lv_at hl 2 rfl) ?_
  refine lv_if_lt (tgt := 17) hx hb dX3_isPlace_1 (by decide) (fun c_1 => ?_) (fun c_1 => ?_)
  · refine lv_iconst (v := 0) hx hb dX3_isPlace_17 (by decide) ?_
    exact W.zret hx hb hr (by first | rfl | exact bI_nar _) (fun t ht _ => ⟨_, rfl, (by first | rfl | simp [bI, inPl, c_1]), ht⟩) (fun _ h => by cases h) dX3_isPlace_18
  · refine lv_iload_n hx hb dX3_isPlace_4 rfl (lv_at hl 2 rfl) ?_
    refine lv_aload_n hx hb dX3_isPlace_5 rfl (lv_at hl 0 rfl) ?_
    refine lv_iload_n hx hb dX3_isPlace_6 rfl (lv_at hl 1 rfl) ?_
    refine vp_callSi (W.runV (As := [.int (nI j)]) (rest := [.int i]) F (c_X3_sizeOf hR (show j < 10 by omega) ho) (cwV 1 hts gX3_isPlace_X3_sizeOf rfl rfl rfl (by decide +kernel) ⟨Nat.le_of_ble_eq_true rfl, Nat.le_of_ble_eq_true rfl⟩) (mw_prV (q := (RX3, TX3, 14)) hK hO hW rfl hR.1) rfl rfl hl.1 rfl (lv_room (Nat.le_of_ble_eq_true rfl)) dX3_isPlace_7 ⟨Nat.zero_le _, Nat.zero_le _⟩) (fun r_1 er_1 => ?_)
    subst er_1
    refine lv_icmp_ge (tgt := 17) hx hb dX3_isPlace_10 (by decide) (fun c_10 => ?_) (fun c_10 => ?_)
    · refine lv_iconst (v := 0) hx hb dX3_isPlace_17 (by decide) ?_
      exact W.zret hx hb hr (by first | rfl | exact bI_nar _) (fun t ht _ => ⟨_, rfl, (by first | rfl | simp [bI, inPl, c_1, c_10]), ht⟩) (fun _ h => by cases h) dX3_isPlace_18
    · refine lv_iconst (v := 1) hx hb dX3_isPlace_13 (by decide) ?_
      refine lv_goto (tgt := 18) hx hb dX3_isPlace_14 (by decide) ?_
      exact W.zret hx hb hr (by first | rfl | exact bI_nar _) (fun t ht _ => ⟨_, rfl, (by first | rfl | simp [bI, inPl, c_1, c_10]), ht⟩) (fun _ h => by cases h) dX3_isPlace_18
abbrev rmX3_place : Room := ({ frames := 0, cells := 0, slots := 0, locals := 0 } : Room)
set_option maxHeartbeats 4000000 in
set_option maxRecDepth 100000 in
theorem c_X3_place {mm : Nat} {ad : Nat → Nat} {σ : RS} (hR : refAt cI cJ mm ad σ M) {j : Nat} (hj : j < 10) {i k : Nat} (hk : k < 12) (hi : i < 80) (e9 : sHo σ j = nI (k + 1)) : Met l yX3_place wsX3_place rmX3_place (va_Pc [.ref mm, .int (nI j), .int (nI i)] (mwPre D (tyL cI cJ cC cH) M sz)) (vp_Sl (fun r => r = sPl σ (80 * k + i))) 0 0 (fun _ => False) := by
  refine Met.ofW (cc := cX3_place) (maxL := 3) (ret := (some .long)) (by decide) rfl ?_
  intro pr env s m args below meth c s₁ B hml hv
  obtain ⟨rfl, hsz, hW, hK, hO⟩ := hv
  have hx := B.exec
  have hb := B.bytes
  have hr := B.returns
  have hts := atoms_spec (ws := wsX3_place) B.pre
  have hown : s.vm.findClass RX3 = some m.cls := findClass_of_methodNamed B.named
  have hlocks := B.notSynchronized
  have F : CallFix pr m c cX3_place 3 s ([.ref mm, .int (nI j), .int (nI i)] : List Value).toArray wsX3_place RX3 := ⟨hx, hb, hml, hown, hts⟩
  have hI_X3 : ∀ w ∈ wsX30, w ∈ wsX3_place := by decide +kernel
  have hl_fieldLink_RX3_22_SpliceBenchModel_places_J := hts (.fieldLink RX3 22 "SpliceBenchModel" "places" "[J") (by decide +kernel)
  have hl_fieldLink_RX3_7_SpliceBenchModel_holds_I := hts (.fieldLink RX3 7 "SpliceBenchModel" "holds" "[I") (by decide +kernel)
  have hl := lv_entry ([.ref mm, .int (nI j), .int (nI i)]) (n := 3) (Nat.le_of_ble_eq_true rfl)
  rw [lg_entry_eq]
  generalize (lg_sl ([.ref mm, .int (nI j), .int (nI i)]) ++ List.replicate (3 - (lg_sl ([.ref mm, .int (nI j), .int (nI i)])).length) Slot.unset).toArray = ls at hl ⊢
  have hl : lv_has ls 3 [(0, .ref mm), (1, .int (nI j)), (2, .int (nI i))] := hl
  refine lv_aload_n hx hb dX3_place_0 rfl (lv_at hl 0 rfl) ?_
  refine mw_get (C := RX3) (T := TX3) (N := 14) F hK hW hI_X3 hR.1 rfl 4 (by decide) hl_fieldLink_RX3_22_SpliceBenchModel_places_J rfl dX3_place_1 ?_
  refine lv_bipush (v := 80) hx hb dX3_place_4 (by decide) ?_
  refine lv_aload_n hx hb dX3_place_6 rfl (lv_at hl 0 rfl) ?_
  refine mw_get (C := RX3) (T := TX3) (N := 14) F hK hW hI_X3 hR.1 rfl 0 (by decide) hl_fieldLink_RX3_7_SpliceBenchModel_holds_I rfl dX3_place_7 ?_
  refine lv_iload_n hx hb dX3_place_10 rfl (lv_at hl 1 rfl) ?_
  refine mw_iald F hK hW 0 hR.2.1 rfl (vp_in_nI (show j < 10 by omega) (by omega)) dX3_place_11 ?_
  rw [nI_clamp (show j < 2 ^ 31 by omega)]
  refine lv_iconst (v := 1) hx hb dX3_place_12 (by decide) ?_
  refine lv_isub hx hb dX3_place_13 ?_
  rw [e9, nI_pred]
  refine lv_imul hx hb dX3_place_14 ?_
  rw [show (80 : Int32) = nI 80 from rfl, pk_mul]
  refine lv_iload_n hx hb dX3_place_15 rfl (lv_at hl 2 rfl) ?_
  refine lv_iadd hx hb dX3_place_16 ?_
  rw [nI_add]
  refine mw_lald F hK hW 1 hR.2.2.2.2.2.1 rfl (vp_in_nI (show (80 * k + i) < 960 by omega) (by omega)) dX3_place_17 ?_
  rw [nI_clamp (show (80 * k + i) < 2 ^ 31 by omega)]
  exact W.lret hx hb hr (fun t ht _ => ⟨_, rfl, rfl, ht⟩) (fun _ h => by cases h) dX3_place_18
abbrev rmX3_isPlain : Room := ({ frames := 0, cells := 0, slots := 0, locals := 0 } : Room)
set_option maxHeartbeats 4000000 in
set_option maxRecDepth 100000 in
theorem c_X3_isPlain {mm : Nat} {ad : Nat → Nat} {σ : RS} (hR : refAt cI cJ mm ad σ M) {v : Int64} (hv : v = 0 ∨ ∃ c, c < 2000 ∧ v = lN (c + 1)) : Met l yX3_isPlain wsX3_isPlain rmX3_isPlain (va_Pc [.ref mm, .long v] (mwPre D (tyL cI cJ cC cH) M sz)) (vp_Si (fun r => r = bI (plainV σ v))) 0 0 (fun _ => False) := by
  refine Met.ofW (cc := cX3_isPlain) (maxL := 3) (ret := (some .boolean)) (by decide) rfl ?_
  intro pr env s m args below meth c s₁ B hml hv
  obtain ⟨rfl, hsz, hW, hK, hO⟩ := hv
  have hx := B.exec
  have hb := B.bytes
  have hr := B.returns
  have hts := atoms_spec (ws := wsX3_isPlain) B.pre
  have hown : s.vm.findClass RX3 = some m.cls := findClass_of_methodNamed B.named
  have hlocks := B.notSynchronized
  have F : CallFix pr m c cX3_isPlain 3 s ([.ref mm, .long v] : List Value).toArray wsX3_isPlain RX3 := ⟨hx, hb, hml, hown, hts⟩
  have hI_X3 : ∀ w ∈ wsX30, w ∈ wsX3_isPlain := by decide +kernel
  have hl_fieldLink_RX3_29_SpliceBenchModel_cardNumber_J := hts (.fieldLink RX3 29 "SpliceBenchModel" "cardNumber" "[J") (by decide +kernel)
  have hl := lv_entry ([.ref mm, .long v]) (n := 3) (Nat.le_of_ble_eq_true rfl)
  rw [lg_entry_eq]
  generalize (lg_sl ([.ref mm, .long v]) ++ List.replicate (3 - (lg_sl ([.ref mm, .long v])).length) Slot.unset).toArray = ls at hl ⊢
  have hl : lv_has ls 3 [(0, .ref mm), (1, .long v)] := hl
  refine lv_lload_n hx hb dX3_isPlain_0 rfl (lv_at hl 1 rfl) ?_
  refine lv_lconst (v := 0) hx hb dX3_isPlain_1 (by decide) ?_
  refine W.lcmp hx hb dX3_isPlain_2 ?_
  refine lv_if_eq (tgt := 26) hx hb dX3_isPlain_3 (by decide) (fun c_3 => ?_) (fun c_3 => ?_)
  · refine lv_iconst (v := 0) hx hb dX3_isPlain_26 (by decide) ?_
    exact W.zret hx hb hr (by first | rfl | exact bI_nar _) (fun t ht _ => ⟨_, rfl, (by unfold plainV; rw [(lg_cmp_eq _ _).mp c_3]; rfl), ht⟩) (fun _ h => by cases h) dX3_isPlain_27
  · have c_3 : ¬ (_ = _) := fun h9 => c_3 ((lg_cmp_eq _ _).mpr h9)
    obtain ⟨c9, hc9, e9⟩ := hv.resolve_left c_3
    refine lv_aload_n hx hb dX3_isPlain_6 rfl (lv_at hl 0 rfl) ?_
    refine mw_get (C := RX3) (T := TX3) (N := 14) F hK hW hI_X3 hR.1 rfl 6 (by decide) hl_fieldLink_RX3_29_SpliceBenchModel_cardNumber_J rfl dX3_isPlain_7 ?_
    refine lv_lload_n hx hb dX3_isPlain_10 rfl (lv_at hl 1 rfl) ?_
    refine lv_l2i hx hb dX3_isPlain_11 rfl ?_
    refine lv_iconst (v := 1) hx hb dX3_isPlain_12 (by decide) ?_
    refine lv_isub hx hb dX3_isPlain_13 ?_
    rw [show v.toInt32 - 1 = nI c9 by rw [e9, lN_i, nI_pred]]
    refine mw_lald F hK hW 1 hR.2.2.2.2.2.2.2.1 rfl (vp_in_nI (show c9 < 2000 by omega) (by omega)) dX3_isPlain_14 ?_
    rw [nI_clamp (show c9 < 2 ^ 31 by omega)]
    refine lv_lconst (v := 1) hx hb dX3_isPlain_15 (by decide) ?_
    refine lv_land hx hb dX3_isPlain_16 ?_
    refine lv_lconst (v := 1) hx hb dX3_isPlain_17 (by decide) ?_
    refine W.lcmp hx hb dX3_isPlain_18 ?_
    refine lv_if_ne (tgt := 26) hx hb dX3_isPlain_19 (by decide) (fun c_19 => ?_) (fun c_19 => ?_)
    · refine lv_iconst (v := 0) hx hb dX3_isPlain_26 (by decide) ?_
      exact W.zret hx hb hr (by first | rfl | exact bI_nar _) (fun t ht _ => ⟨_, rfl, (by unfold plainV; rw [e9, cIx_lN hc9, decide_eq_false (lN_n0 hc9), decide_eq_false (fun z => c_19 ((lg_cmp_eq _ _).mpr z))]; rfl), ht⟩) (fun _ h => by cases h) dX3_isPlain_27
    · refine lv_iconst (v := 1) hx hb dX3_isPlain_22 (by decide) ?_
      refine lv_goto (tgt := 27) hx hb dX3_isPlain_23 (by decide) ?_
      exact W.zret hx hb hr (by first | rfl | exact bI_nar _) (fun t ht _ => ⟨_, rfl, (by unfold plainV; rw [e9, cIx_lN hc9, (lg_cmp_eq _ _).mp c_19, decide_eq_false (lN_n0 hc9)]; rfl), ht⟩) (fun _ h => by cases h) dX3_isPlain_27
abbrev rmX3_isHeld : Room := ({ frames := 0, cells := 0, slots := 0, locals := 0 } : Room)
set_option maxHeartbeats 4000000 in
set_option maxRecDepth 100000 in
theorem c_X3_isHeld {mm : Nat} {ad : Nat → Nat} {σ : RS} (hR : refAt cI cJ mm ad σ M) {th : Int32} : Met l yX3_isHeld wsX3_isHeld rmX3_isHeld (va_Pc [.ref mm, .int th] (mwPre D (tyL cI cJ cC cH) M sz)) (vp_Si (fun r => r = bI (heldB σ th))) 0 0 (fun _ => False) := by
  refine Met.ofW (cc := cX3_isHeld) (maxL := 4) (ret := (some .boolean)) (by decide) rfl ?_
  intro pr env s m args below meth c s₁ B hml hv
  obtain ⟨rfl, hsz, hW, hK, hO⟩ := hv
  have hx := B.exec
  have hb := B.bytes
  have hr := B.returns
  have hts := atoms_spec (ws := wsX3_isHeld) B.pre
  have hown : s.vm.findClass RX3 = some m.cls := findClass_of_methodNamed B.named
  have hlocks := B.notSynchronized
  have F : CallFix pr m c cX3_isHeld 4 s ([.ref mm, .int th] : List Value).toArray wsX3_isHeld RX3 := ⟨hx, hb, hml, hown, hts⟩
  have hI_X3 : ∀ w ∈ wsX30, w ∈ wsX3_isHeld := by decide +kernel
  have hl_fieldLink_RX3_7_SpliceBenchModel_holds_I := hts (.fieldLink RX3 7 "SpliceBenchModel" "holds" "[I") (by decide +kernel)
  have hl := lv_entry ([.ref mm, .int th]) (n := 4) (Nat.le_of_ble_eq_true rfl)
  rw [lg_entry_eq]
  generalize (lg_sl ([.ref mm, .int th]) ++ List.replicate (4 - (lg_sl ([.ref mm, .int th])).length) Slot.unset).toArray = ls at hl ⊢
  have hl : lv_has ls 4 [(0, .ref mm), (1, .int th)] := hl
  refine lv_iconst (v := 0) hx hb dX3_isHeld_0 (by decide) ?_
  refine lv_istore_n (lv' := [(2, .int 0), (0, .ref mm), (1, .int th)]) hx hb dX3_isHeld_1 rfl hl (by decide) rfl (fun ls hl => ?_)
  refine lv_iconst (v := 0) hx hb dX3_isHeld_2 (by decide) ?_
  refine lv_istore_n (lv' := [(3, .int 0), (2, .int 0), (0, .ref mm), (1, .int th)]) hx hb dX3_isHeld_3 rfl hl (by decide) rfl (fun ls hl => ?_)
  have loop : ∀ (N : Nat) (j : Nat), 11 ≤ j + N → j ≤ 10 → ∀ (ls : Array Slot), lv_has ls 4 [(3, .int (nI j)), (2, .int (bI (anyN (fun j => decide (sHo σ j = th)) j))), (0, .ref mm), (1, .int th)] → W pr l env (headSpec wsX3_isHeld rmX3_isHeld).room s m ([.ref mm, .int th] : List Value).toArray below meth c s.heap [] 0 0 (MQ below (vp_Si (fun r => r = bI (heldB σ th))) ([.ref mm, .int th] : List Value).toArray s 0 0 (fun _ => False)) (F0 m 4 ls []) := by
    intro N
    induction N with
    | zero =>
      exact fun j h1 h2 => absurd h1 (by omega)
    | succ N ih =>
      intro j hN hj ls hl
      refine lv_iload_n hx hb dX3_isHeld_4 rfl (lv_at hl 0 rfl) ?_
      refine lv_bipush (v := 10) hx hb dX3_isHeld_5 (by decide) ?_
      refine lv_icmp_ge (tgt := 36) hx hb dX3_isHeld_7 (by decide) (fun c_7 => ?_) (fun c_7 => ?_)
      · refine lv_iload_n hx hb dX3_isHeld_36 rfl (lv_at hl 1 rfl) ?_
        exact W.zret hx hb hr (by first | rfl | exact bI_nar _) (fun t ht _ => ⟨_, rfl, (congrArg (fun z => bI (anyN (fun j => decide (sHo σ j = th)) z)) (show j = 10 by have := (nI_leI (by omega) (by omega)).mp (show nI 10 ≤ nI j from c_7); omega)), ht⟩) (fun _ h => by cases h) dX3_isHeld_37
      · have hjn : j < 10 := by
          rcases Nat.lt_or_ge j 10 with h9 | h9
          · exact h9
          · exact absurd (nI_le h9 (by omega)) c_7
        refine lv_iload_n hx hb dX3_isHeld_10 rfl (lv_at hl 1 rfl) ?_
        refine lv_if_ne (tgt := 24) hx hb dX3_isHeld_11 (by decide) (fun c_11 => ?_) (fun c_11 => ?_)
        · have c_11 := bI_n c_11
          refine lv_iconst (v := 1) hx hb dX3_isHeld_24 (by decide) ?_
          refine lv_goto (tgt := 29) hx hb dX3_isHeld_25 (by decide) ?_
          refine lv_istore_n (lv' := [(2, .int 1), (3, .int (nI j)), (0, .ref mm), (1, .int th)]) hx hb dX3_isHeld_29 rfl hl (by decide) rfl (fun ls hl => ?_)
          refine lv_iinc (v := nI (j + 1)) (lv' := [(3, .int (nI (j + 1))), (2, .int 1), (0, .ref mm), (1, .int th)]) hx hb dX3_isHeld_30 hl (k := 1) rfl (nI_1 j) (by decide) rfl (fun ls hl => ?_)
          refine lv_goto (tgt := 4) hx hb dX3_isHeld_33 (by decide) ?_
          have hc : 1 = bI (anyN (fun j => decide (sHo σ j = th)) (j + 1)) := by simp [anyN, bI, c_11]
          rw [hc] at hl
          exact ih (j + 1) (by omega) (by omega) ls (lv_sub hl [0, 1, 2, 3] rfl)
        · have c_11 := bI_e c_11
          refine lv_aload_n hx hb dX3_isHeld_14 rfl (lv_at hl 2 rfl) ?_
          refine mw_get (C := RX3) (T := TX3) (N := 14) F hK hW hI_X3 hR.1 rfl 0 (by decide) hl_fieldLink_RX3_7_SpliceBenchModel_holds_I rfl dX3_isHeld_15 ?_
          refine lv_iload_n hx hb dX3_isHeld_18 rfl (lv_at hl 0 rfl) ?_
          refine mw_iald F hK hW 0 hR.2.1 rfl (vp_in_nI (show j < 10 by omega) (by omega)) dX3_isHeld_19 ?_
          rw [nI_clamp (show j < 2 ^ 31 by omega)]
          refine lv_iload_n hx hb dX3_isHeld_20 rfl (lv_at hl 3 rfl) ?_
          refine lv_icmp_ne (tgt := 28) hx hb dX3_isHeld_21 (by decide) (fun c_21 => ?_) (fun c_21 => ?_)
          · refine lv_iconst (v := 0) hx hb dX3_isHeld_28 (by decide) ?_
            refine lv_istore_n (lv' := [(2, .int 0), (3, .int (nI j)), (0, .ref mm), (1, .int th)]) hx hb dX3_isHeld_29 rfl hl (by decide) rfl (fun ls hl => ?_)
            refine lv_iinc (v := nI (j + 1)) (lv' := [(3, .int (nI (j + 1))), (2, .int 0), (0, .ref mm), (1, .int th)]) hx hb dX3_isHeld_30 hl (k := 1) rfl (nI_1 j) (by decide) rfl (fun ls hl => ?_)
            refine lv_goto (tgt := 4) hx hb dX3_isHeld_33 (by decide) ?_
            have hc : 0 = bI (anyN (fun j => decide (sHo σ j = th)) (j + 1)) := by simp [anyN, bI, c_11, c_21]
            rw [hc] at hl
            exact ih (j + 1) (by omega) (by omega) ls (lv_sub hl [0, 1, 2, 3] rfl)
          · refine lv_iconst (v := 1) hx hb dX3_isHeld_24 (by decide) ?_
            refine lv_goto (tgt := 29) hx hb dX3_isHeld_25 (by decide) ?_
            refine lv_istore_n (lv' := [(2, .int 1), (3, .int (nI j)), (0, .ref mm), (1, .int th)]) hx hb dX3_isHeld_29 rfl hl (by decide) rfl (fun ls hl => ?_)
            refine lv_iinc (v := nI (j + 1)) (lv' := [(3, .int (nI (j + 1))), (2, .int 1), (0, .ref mm), (1, .int th)]) hx hb dX3_isHeld_30 hl (k := 1) rfl (nI_1 j) (by decide) rfl (fun ls hl => ?_)
            refine lv_goto (tgt := 4) hx hb dX3_isHeld_33 (by decide) ?_
            have hc : 1 = bI (anyN (fun j => decide (sHo σ j = th)) (j + 1)) := by simp [anyN, bI, c_11, c_21]
            rw [hc] at hl
            exact ih (j + 1) (by omega) (by omega) ls (lv_sub hl [0, 1, 2, 3] rfl)
  exact loop 11 0 (by omega) (Nat.zero_le _) ls (lv_sub hl [0, 1, 2, 3] rfl)
abbrev rmX3_isBeyond : Room := ({ frames := 0, cells := 0, slots := 0, locals := 0 } : Room)
set_option maxHeartbeats 4000000 in
set_option maxRecDepth 100000 in
theorem c_X3_isBeyond {i n z : Int32} : Met l yX3_isBeyond wsX3_isBeyond rmX3_isBeyond (va_Pc [.int i, .int n, .int z] (mwPre D (tyL cI cJ cC cH) M sz)) (vp_Si (fun r => r = bI (beyB i n z))) 0 0 (fun _ => False) := by
  refine Met.ofW (cc := cX3_isBeyond) (maxL := 3) (ret := (some .boolean)) (by decide) rfl ?_
  intro pr env s m args below meth c s₁ B hml hv
  obtain ⟨rfl, hsz, hW, hK, hO⟩ := hv
  have hx := B.exec
  have hb := B.bytes
  have hr := B.returns
  have hts := atoms_spec (ws := wsX3_isBeyond) B.pre
  have hown : s.vm.findClass RX3 = some m.cls := findClass_of_methodNamed B.named
  have hlocks := B.notSynchronized
  have F : CallFix pr m c cX3_isBeyond 3 s ([.int i, .int n, .int z] : List Value).toArray wsX3_isBeyond RX3 := ⟨hx, hb, hml, hown, hts⟩
  have hl := lv_entry ([.int i, .int n, .int z]) (n := 3) (Nat.le_of_ble_eq_true rfl)
  rw [lg_entry_eq]
  generalize (lg_sl ([.int i, .int n, .int z]) ++ List.replicate (3 - (lg_sl ([.int i, .int n, .int z])).length) Slot.unset).toArray = ls at hl ⊢
  have hl : lv_has ls 3 [(0, .int i), (1, .int n), (2, .int z)] := hl
  refine lv_iload_n hx hb dX3_isBeyond_0 rfl (lv_at hl 0 rfl) ?_
  refine lv_if_lt (tgt := 19) hx hb dX3_isBeyond_1 (by decide) (fun c_1 => ?_) (fun c_1 => ?_)
  · refine lv_iconst (v := 1) hx hb dX3_isBeyond_19 (by decide) ?_
    refine lv_goto (tgt := 24) hx hb dX3_isBeyond_20 (by decide) ?_
    exact W.zret hx hb hr (by first | rfl | exact bI_nar _) (fun t ht _ => ⟨_, rfl, (by simp [bI, beyB, c_1]), ht⟩) (fun _ h => by cases h) dX3_isBeyond_24
  · refine lv_iload_n hx hb dX3_isBeyond_4 rfl (lv_at hl 1 rfl) ?_
    refine lv_if_lt (tgt := 19) hx hb dX3_isBeyond_5 (by decide) (fun c_5 => ?_) (fun c_5 => ?_)
    · refine lv_iconst (v := 1) hx hb dX3_isBeyond_19 (by decide) ?_
      refine lv_goto (tgt := 24) hx hb dX3_isBeyond_20 (by decide) ?_
      exact W.zret hx hb hr (by first | rfl | exact bI_nar _) (fun t ht _ => ⟨_, rfl, (by simp [bI, beyB, c_1, c_5]), ht⟩) (fun _ h => by cases h) dX3_isBeyond_24
    · refine lv_iload_n hx hb dX3_isBeyond_8 rfl (lv_at hl 0 rfl) ?_
      refine lv_i2l hx hb dX3_isBeyond_9 rfl ?_
      refine lv_iload_n hx hb dX3_isBeyond_10 rfl (lv_at hl 1 rfl) ?_
      refine lv_i2l hx hb dX3_isBeyond_11 rfl ?_
      refine lv_ladd hx hb dX3_isBeyond_12 ?_
      refine lv_iload_n hx hb dX3_isBeyond_13 rfl (lv_at hl 2 rfl) ?_
      refine lv_i2l hx hb dX3_isBeyond_14 rfl ?_
      refine W.lcmp hx hb dX3_isBeyond_15 ?_
      refine lv_if_le (tgt := 23) hx hb dX3_isBeyond_16 (by decide) (fun c_16 => ?_) (fun c_16 => ?_)
      · refine lv_iconst (v := 0) hx hb dX3_isBeyond_23 (by decide) ?_
        exact W.zret hx hb hr (by first | rfl | exact bI_nar _) (fun t ht _ => ⟨_, rfl, (by simp [bI, beyB, c_1, c_5, Int64.not_lt.mpr ((lg_cmp_le _ _).mp c_16)]), ht⟩) (fun _ h => by cases h) dX3_isBeyond_24
      · refine lv_iconst (v := 1) hx hb dX3_isBeyond_19 (by decide) ?_
        refine lv_goto (tgt := 24) hx hb dX3_isBeyond_20 (by decide) ?_
        exact W.zret hx hb hr (by first | rfl | exact bI_nar _) (fun t ht _ => ⟨_, rfl, (by simp [bI, beyB, c_1, c_5, Int64.not_le.mp (fun z9 => c_16 ((lg_cmp_le _ _).mpr z9))]), ht⟩) (fun _ h => by cases h) dX3_isBeyond_24
abbrev rmX3_hinders : Room := ({ frames := 2, cells := 0, slots := 0, locals := 42 } : Room)
set_option maxHeartbeats 4000000 in
set_option maxRecDepth 100000 in
theorem c_X3_hinders {mm : Nat} {ad : Nat → Nat} {σ : RS} (hR : refAt cI cJ mm ad σ M) {j : Nat} (hj : j < 10) {i n : Int32} (ho : hoOk (sHo σ j)) : Met l yX3_hinders wsX3_hinders rmX3_hinders (va_Pc [.ref mm, .int (nI j), .int i, .int n] (mwPre D (tyL cI cJ cC cH) M sz)) (vp_Si (fun r => r = hindI σ j i n)) 0 0 (fun _ => False) := by
  refine Met.ofW (cc := cX3_hinders) (maxL := 4) (ret := (some .int)) (by decide) rfl ?_
  intro pr env s m args below meth c s₁ B hml hv
  obtain ⟨rfl, hsz, hW, hK, hO⟩ := hv
  have hx := B.exec
  have hb := B.bytes
  have hr := B.returns
  have hts := atoms_spec (ws := wsX3_hinders) B.pre
  have hown : s.vm.findClass RX3 = some m.cls := findClass_of_methodNamed B.named
  have hlocks := B.notSynchronized
  have F : CallFix pr m c cX3_hinders 4 s ([.ref mm, .int (nI j), .int i, .int n] : List Value).toArray wsX3_hinders RX3 := ⟨hx, hb, hml, hown, hts⟩
  have hI_X3 : ∀ w ∈ wsX30, w ∈ wsX3_hinders := by decide +kernel
  have hl_fieldLink_RX3_7_SpliceBenchModel_holds_I := hts (.fieldLink RX3 7 "SpliceBenchModel" "holds" "[I") (by decide +kernel)
  have hl := lv_entry ([.ref mm, .int (nI j), .int i, .int n]) (n := 4) (Nat.le_of_ble_eq_true rfl)
  rw [lg_entry_eq]
  generalize (lg_sl ([.ref mm, .int (nI j), .int i, .int n]) ++ List.replicate (4 - (lg_sl ([.ref mm, .int (nI j), .int i, .int n])).length) Slot.unset).toArray = ls at hl ⊢
  have hl : lv_has ls 4 [(0, .ref mm), (1, .int (nI j)), (2, .int i), (3, .int n)] := hl
  refine lv_aload_n hx hb dX3_hinders_0 rfl (lv_at hl 0 rfl) ?_
  refine mw_get (C := RX3) (T := TX3) (N := 14) F hK hW hI_X3 hR.1 rfl 0 (by decide) hl_fieldLink_RX3_7_SpliceBenchModel_holds_I rfl dX3_hinders_1 ?_
  refine lv_iload_n hx hb dX3_hinders_4 rfl (lv_at hl 1 rfl) ?_
  refine mw_iald F hK hW 0 hR.2.1 rfl (vp_in_nI (show j < 10 by omega) (by omega)) dX3_hinders_5 ?_
  rw [nI_clamp (show j < 2 ^ 31 by omega)]
  refine lv_if_ne (tgt := 11) hx hb dX3_hinders_6 (by decide) (fun c_6 => ?_) (fun c_6 => ?_)
  · refine lv_aload_n hx hb dX3_hinders_11 rfl (lv_at hl 0 rfl) ?_
    refine lv_iload_n hx hb dX3_hinders_12 rfl (lv_at hl 1 rfl) ?_
    refine vp_callSi (W.runV (As := [.int (nI j)]) (rest := []) F (c_X3_hasPlaces hR (show j < 10 by omega)) (cwV 1 hts gX3_hinders_X3_hasPlaces rfl rfl rfl (by decide +kernel) ⟨Nat.le_of_ble_eq_true rfl, Nat.le_of_ble_eq_true rfl⟩) (mw_prV (q := (RX3, TX3, 14)) hK hO hW rfl hR.1) rfl rfl hl.1 rfl (lv_room (Nat.le_of_ble_eq_true rfl)) dX3_hinders_13 ⟨Nat.zero_le _, Nat.zero_le _⟩) (fun r_1 er_1 => ?_)
    subst er_1
    refine lv_if_ne (tgt := 21) hx hb dX3_hinders_16 (by decide) (fun c_16 => ?_) (fun c_16 => ?_)
    · have c_16 := bI_n c_16
      refine lv_iload_n hx hb dX3_hinders_21 rfl (lv_at hl 2 rfl) ?_
      refine lv_iload_n hx hb dX3_hinders_22 rfl (lv_at hl 3 rfl) ?_
      refine lv_aload_n hx hb dX3_hinders_23 rfl (lv_at hl 0 rfl) ?_
      refine lv_iload_n hx hb dX3_hinders_24 rfl (lv_at hl 1 rfl) ?_
      refine vp_callSi (W.runV (As := [.int (nI j)]) (rest := [.int n, .int i]) F (c_X3_sizeOf hR (show j < 10 by omega) ho) (cwV 1 hts gX3_hinders_X3_sizeOf rfl rfl rfl (by decide +kernel) ⟨Nat.le_of_ble_eq_true rfl, Nat.le_of_ble_eq_true rfl⟩) (mw_prV (q := (RX3, TX3, 14)) hK hO hW rfl hR.1) rfl rfl hl.1 rfl (lv_room (Nat.le_of_ble_eq_true rfl)) dX3_hinders_25 ⟨Nat.zero_le _, Nat.zero_le _⟩) (fun r_2 er_2 => ?_)
      subst er_2
      refine vp_callSi (W.runS (As := [.int i, .int n, .int (szOf σ j)]) (rest := []) F (c_X3_isBeyond) (cwS 3 hts gX3_hinders_X3_isBeyond rfl rfl rfl (by decide +kernel) ⟨Nat.le_of_ble_eq_true rfl, Nat.le_of_ble_eq_true rfl⟩) (mw_prS hK hO hW) rfl rfl hl.1 rfl (lv_room (Nat.le_of_ble_eq_true rfl)) dX3_hinders_28 ⟨Nat.zero_le _, Nat.zero_le _⟩) (fun r_3 er_3 => ?_)
      subst er_3
      refine lv_if_eq (tgt := 38) hx hb dX3_hinders_31 (by decide) (fun c_31 => ?_) (fun c_31 => ?_)
      · have c_31 := bI_e c_31
        refine lv_iconst (v := 0) hx hb dX3_hinders_38 (by decide) ?_
        exact W.iret hx hb hr (fun t ht _ => ⟨_, rfl, (by first | rfl | simp [hindI, c_6, c_16, c_31]), ht⟩) (fun _ h => by cases h) dX3_hinders_39
      · have c_31 := bI_n c_31
        refine lv_iconst (v := 3) hx hb dX3_hinders_34 (by decide) ?_
        refine lv_goto (tgt := 39) hx hb dX3_hinders_35 (by decide) ?_
        exact W.iret hx hb hr (fun t ht _ => ⟨_, rfl, (by first | rfl | simp [hindI, c_6, c_16, c_31]), ht⟩) (fun _ h => by cases h) dX3_hinders_39
    · have c_16 := bI_e c_16
      refine lv_iconst (v := 2) hx hb dX3_hinders_19 (by decide) ?_
      exact W.iret hx hb hr (fun t ht _ => ⟨_, rfl, (by first | rfl | simp [hindI, c_6, c_16]), ht⟩) (fun _ h => by cases h) dX3_hinders_20
  · refine lv_iconst (v := 1) hx hb dX3_hinders_9 (by decide) ?_
    exact W.iret hx hb hr (fun t ht _ => ⟨_, rfl, (by first | rfl | simp [hindI, c_6]), ht⟩) (fun _ h => by cases h) dX3_hinders_10
end X3R
end
section
/-! ===== the invariant, and what the public methods answer and do ===== -/
def liveR (σ : RS) (k : Nat) : Prop := sCov σ = nI k ∨ ∃ j, j < 10 ∧ sHo σ j = nI (k + 1)
def okP (σ : RS) (b k : Nat) (v : Int64) : Prop := v = 0 ∨ ∃ c, c < b ∧ v = lN (c + 1) ∧ (sKi σ k = 5 → evn (sCn σ c) = true)
def Inv (σ : RS) (cc : Nat) : Prop :=
  cc ≤ 512 ∧ (∀ j, j < 10 → hoOk (sHo σ j)) ∧ (sCov σ = -1 ∨ ∃ k, k < 12 ∧ sCov σ = nI k) ∧ (∀ k, k < 12 → liveR σ k → kStrip (sKi σ k) = true ∨ kRack (sKi σ k) = true) ∧ (∀ k, k < 12 → ∃ n, n ≤ 80 ∧ sSi σ k = nI n) ∧ (∃ a, a ≤ cc ∧ sRow σ = nI a) ∧
  ∃ b, b ≤ cc ∧ sCar σ = nI b ∧ (∀ k, k < 12 → liveR σ k → kRack (sKi σ k) = true → ∀ i n, sSi σ k = nI n → n ≤ 80 → i < n → okP σ b k (sPl σ (80 * k + i))) ∧ (∀ k, k < 12 → sCov σ = nI k → kRack (sKi σ k) = true → ∀ i n, sSi σ k = nI n → n ≤ 80 → i < n → okP σ b k (sWa σ i))
theorem isSp_of {s : Int32} (h : isSp s = true) : ∃ j : Nat, j < 10 ∧ s = nI j := by
  simp only [isSp, Bool.and_eq_true, Bool.not_eq_true', decide_eq_false_iff_not] at h
  rcases pk_ix s (n := 10) (by omega) with h1 | h1 | h1
  · exact absurd h1 h.1
  · exact absurd h1 h.2
  · exact h1
theorem isSp_nI {j : Nat} (h : j < 10) : isSp (nI j) = true := by
  simp only [isSp, Bool.and_eq_true, Bool.not_eq_true', decide_eq_false_iff_not]
  exact ⟨nI_pos (by omega), fun z => by have := (nI_leI (a := 10) (b := j) (by omega) (by omega)).mp z; omega⟩
theorem rk4 {k : Int32} (h : kStrip k = true ∨ kRack k = true) : decide (4 ≤ k) = kRack k := by
  simp only [kStrip, kRack, Bool.or_eq_true, decide_eq_true_eq] at h
  rcases h with (rfl | rfl) | (rfl | rfl) <;> decide
section IV
variable {σ : RS} {cc : Nat}
theorem Inv.ho (hI : Inv σ cc) {j : Nat} (hj : j < 10) : hoOk (sHo σ j) := hI.2.1 j hj
theorem Inv.cov (hI : Inv σ cc) : sCov σ = -1 ∨ ∃ k, k < 12 ∧ sCov σ = nI k := hI.2.2.1
theorem Inv.kd (hI : Inv σ cc) {k : Nat} (hk : k < 12) (h : liveR σ k) : kStrip (sKi σ k) = true ∨ kRack (sKi σ k) = true := hI.2.2.2.1 k hk h
theorem Inv.sz (hI : Inv σ cc) {k : Nat} (hk : k < 12) : ∃ n, n ≤ 80 ∧ sSi σ k = nI n := hI.2.2.2.2.1 k hk
theorem Inv.live {j k : Nat} (hj : j < 10) (h : sHo σ j = nI (k + 1)) : liveR σ k := Or.inr ⟨j, hj, h⟩
theorem Inv.rk (hI : Inv σ cc) {j k : Nat} (hj : j < 10) (hk : k < 12) (h : sHo σ j = nI (k + 1)) : rkOf σ j = kRack (sKi σ k) := by
  unfold rkOf
  rw [kOf_row hk h]
  exact rk4 (hI.kd hk (Inv.live hj h))
theorem rk_lab {j k : Nat} (hk : k < 10) (h : sHo σ j = -1 - nI k) : rkOf σ j = false := by
  unfold rkOf
  rw [kOf_lab hk h]
  decide
theorem rk_0 {j : Nat} (h : sHo σ j = 0) : rkOf σ j = false := by
  unfold rkOf
  rw [kOf_0 h]
  decide
theorem Inv.place (hI : Inv σ cc) {j : Nat} (hj : j < 10) {i : Int32} (h : inPl i (szOf σ j) = true) : ∃ k n i' : Nat, k < 12 ∧ sHo σ j = nI (k + 1) ∧ n ≤ 80 ∧ sSi σ k = nI n ∧ i' < n ∧ i = nI i' := by
  rcases hI.ho hj with h0 | ⟨k, hk, h0⟩ | ⟨k, hk, h0⟩
  · rw [szOf_n (hasP_0 h0)] at h
    obtain ⟨i', hi', -⟩ := inPl_of (pn := 0) (by omega) h
    omega
  · rw [szOf_n (hasP_lab hk h0)] at h
    obtain ⟨i', hi', -⟩ := inPl_of (pn := 0) (by omega) h
    omega
  · obtain ⟨n, hn, e⟩ := hI.sz hk
    rw [szOf_row hk h0, e] at h
    obtain ⟨i', hi', e2⟩ := inPl_of hn h
    exact ⟨k, n, i', hk, h0, hn, e, hi', e2⟩
theorem Inv.okv (hI : Inv σ cc) {j k n i : Nat} (hj : j < 10) (hk : k < 12) (h : sHo σ j = nI (k + 1)) (hr : kRack (sKi σ k) = true) (hn : n ≤ 80) (e : sSi σ k = nI n) (hi : i < n) : ∃ b, b ≤ cc ∧ sCar σ = nI b ∧ okP σ b k (sPl σ (80 * k + i)) := by
  obtain ⟨b, h1, h2, h3, -⟩ := hI.2.2.2.2.2.2
  exact ⟨b, h1, h2, h3 k hk (Inv.live hj h) hr i n e hn hi⟩
theorem Inv.v2 (hI : Inv σ cc) {j k n i : Nat} (hj : j < 10) (hk : k < 12) (h : sHo σ j = nI (k + 1)) (hr : kRack (sKi σ k) = true) (hn : n ≤ 80) (e : sSi σ k = nI n) (hi : i < n) : sPl σ (80 * k + i) = 0 ∨ ∃ c, c < 2000 ∧ sPl σ (80 * k + i) = lN (c + 1) := by
  obtain ⟨b, h1, h2, h3⟩ := hI.okv hj hk h hr hn e hi
  have := hI.1
  rcases h3 with h3 | ⟨c, hc, h4, -⟩
  · exact Or.inl h3
  · exact Or.inr ⟨c, by omega, h4⟩
theorem rk_row (hI : Inv σ cc) {j : Nat} (hj : j < 10) (h : rkOf σ j = true) : ∃ k n : Nat, k < 12 ∧ sHo σ j = nI (k + 1) ∧ n ≤ 80 ∧ sSi σ k = nI n ∧ kRack (sKi σ k) = true := by
  rcases hI.ho hj with h0 | ⟨k, hk, h0⟩ | ⟨k, hk, h0⟩
  · rw [rk_0 h0] at h; cases h
  · rw [rk_lab hk h0] at h; cases h
  · obtain ⟨n, hn, e⟩ := hI.sz hk
    rw [hI.rk hj hk h0] at h
    exact ⟨k, n, hk, h0, hn, e, h⟩
end IV
/-- what place i of what spindle j holds has -/
def pV (σ : RS) (j : Nat) (i : Nat) : Int64 := sPl σ (80 * rIx σ j + i)
theorem pV_row {σ : RS} {j k i : Nat} (hk : k < 12) (h : sHo σ j = nI (k + 1)) : pV σ j i = sPl σ (80 * k + i) := by
  unfold pV
  rw [rIx_row hk h]
abbrev ix (s : Int32) : Nat := s.toNatClampNeg
def anCount (σ : RS) (w : Int32) : Int32 := if w = 0 then sCam σ else if w = 1 ∨ w = 2 ∨ w = 3 ∨ w = 4 then sFa σ (ix w) else if w = 5 then sGoo σ else if w = 6 then sRow σ else if w = 7 then sCar σ else if w = 8 then (if sCov σ = -1 then 0 else 1) else -1
def cntH (σ : RS) (j n : Nat) : Nat := cntF (fun i => !decide (pV σ j i = 0)) n
def anHeld (σ : RS) (s w : Int32) : Int32 := if isSp s = true then (if w = 0 then kOf σ (ix s) else if w = 1 then szOf σ (ix s) else if w = 2 then nI (cntH σ (ix s) (ix (szOf σ (ix s)))) else -1) else -9
def anSort (σ : RS) (s i : Int32) : Int32 := if isSp s = true then (if inPl i (szOf σ (ix s)) = true then (if rkOf σ (ix s) = true then (if pV σ (ix s) (ix i) = 0 then 0 else if plainV σ (pV σ (ix s) (ix i)) = true then 2 else 3) else 1) else -1) else -9
def anNumber (σ : RS) (s i : Int32) : Int64 := if isSp s = true then (if kOf σ (ix s) = 1 then (sLa σ (ix (-1 - sHo σ (ix s)))).toInt64 else if inPl i (szOf σ (ix s)) = true then (if rkOf σ (ix s) = true then (if pV σ (ix s) (ix i) = 0 then 0 else sCn σ (cIx (pV σ (ix s) (ix i)))) else pV σ (ix s) (ix i)) else 0) else 0
def anShown (σ : RS) (s i : Int32) : Int32 := if isSp s = true then (if rkOf σ (ix s) = true ∧ inPl i (szOf σ (ix s)) = true ∧ ¬ pV σ (ix s) (ix i) = 0 then sCs σ (cIx (pV σ (ix s) (ix i))) else -1) else -9
def anSame (σ : RS) (s i t j : Int32) : Int32 := if isSp s = true ∧ isSp t = true then (if i < 0 ∧ j < 0 then (if ¬ sHo σ (ix s) = 0 ∧ sHo σ (ix s) = sHo σ (ix t) then 1 else 0) else if rkOf σ (ix s) = true ∧ rkOf σ (ix t) = true ∧ inPl i (szOf σ (ix s)) = true ∧ inPl j (szOf σ (ix t)) = true ∧ ¬ pV σ (ix s) (ix i) = 0 ∧ pV σ (ix s) (ix i) = pV σ (ix t) (ix j) then 1 else 0) else -9
def rfThread (σ : RS) (s t : Int32) : Int32 × RS := if isSp s = true ∧ isSp t = true then (kOf (wHo σ (upd (sHo σ) (ix s) (sHo σ (ix t)))) (ix s), wHo σ (upd (sHo σ) (ix s) (sHo σ (ix t)))) else (-9, σ)
/-- the cards' counts when the n first places of a row are shown -/
def shN (P : Nat → Int64) (cs : Nat → Int32) : Nat → Nat → Int32
  | 0 => cs
  | n + 1 => if P n = 0 then shN P cs n else upd (shN P cs n) (cIx (P n)) (shN P cs n (cIx (P n)) + 1)
def rfShow (σ : RS) (s : Int32) : Int32 × RS := if isSp s = true then (if rkOf σ (ix s) = true then (nI (cntH σ (ix s) (ix (szOf σ (ix s)))), wCs σ (shN (pV σ (ix s)) (sCs σ) (ix (szOf σ (ix s))))) else (-1, σ)) else (-9, σ)
def rfBack (σ : RS) : Int32 × RS := if sCov σ = -1 then (0, σ) else (1, wCov (wPl σ (va_cpy (sWa σ) (sPl σ) 0 (80 * ix (sCov σ)) (ix (sSi σ (ix (sCov σ)))))) (-1))
end
section
section X3A
variable {l : Launch} {D : va_G} {cI cJ cC cH : ClassId} {M : Nat → Option va_E} {sz : Nat}
abbrev rmX3_count : Room := ({ frames := 0, cells := 0, slots := 0, locals := 0 } : Room)
set_option maxHeartbeats 4000000 in
set_option maxRecDepth 100000 in
theorem c_X3_count {mm : Nat} {ad : Nat → Nat} {σ : RS} (hR : refAt cI cJ mm ad σ M) {cc : Nat} (hI : Inv σ cc) {w : Int32} : Met l yX3_count wsX3_count rmX3_count (va_Pc [.ref mm, .int w] (mwPre D (tyL cI cJ cC cH) M sz)) (vp_Si (fun r => r = anCount σ w)) 0 0 (fun _ => False) := by
  refine Met.ofW (cc := cX3_count) (maxL := 2) (ret := (some .int)) (by decide) rfl ?_
  intro pr env s m args below meth c s₁ B hml hv
  obtain ⟨rfl, hsz, hW, hK, hO⟩ := hv
  have hx := B.exec
  have hb := B.bytes
  have hr := B.returns
  have hts := atoms_spec (ws := wsX3_count) B.pre
  have hown : s.vm.findClass RX3 = some m.cls := findClass_of_methodNamed B.named
  have hlocks := B.notSynchronized
  have F : CallFix pr m c cX3_count 2 s ([.ref mm, .int w] : List Value).toArray wsX3_count RX3 := ⟨hx, hb, hml, hown, hts⟩
  have hI_X3 : ∀ w ∈ wsX30, w ∈ wsX3_count := by decide +kernel
  have hl_fieldLink_RX3_69_SpliceBenchModel_came_I := hts (.fieldLink RX3 69 "SpliceBenchModel" "came" "I") (by decide +kernel)
  have hl_fieldLink_RX3_35_SpliceBenchModel_failed_I := hts (.fieldLink RX3 35 "SpliceBenchModel" "failed" "[I") (by decide +kernel)
  have hl_fieldLink_RX3_91_SpliceBenchModel_good_I := hts (.fieldLink RX3 91 "SpliceBenchModel" "good" "I") (by decide +kernel)
  have hl_fieldLink_RX3_56_SpliceBenchModel_rows_I := hts (.fieldLink RX3 56 "SpliceBenchModel" "rows" "I") (by decide +kernel)
  have hl_fieldLink_RX3_62_SpliceBenchModel_cards_I := hts (.fieldLink RX3 62 "SpliceBenchModel" "cards" "I") (by decide +kernel)
  have hl_fieldLink_RX3_38_SpliceBenchModel_covered_I := hts (.fieldLink RX3 38 "SpliceBenchModel" "covered" "I") (by decide +kernel)
  have hl := lv_entry ([.ref mm, .int w]) (n := 2) (Nat.le_of_ble_eq_true rfl)
  rw [lg_entry_eq]
  generalize (lg_sl ([.ref mm, .int w]) ++ List.replicate (2 - (lg_sl ([.ref mm, .int w])).length) Slot.unset).toArray = ls at hl ⊢
  have hl : lv_has ls 2 [(0, .ref mm), (1, .int w)] := hl
  refine lv_iload_n hx hb dX3_count_0 rfl (lv_at hl 1 rfl) ?_
  by_cases h_0 : w = 0
  · subst h_0
    refine lv_tableIn (off := 51) (tgt := 52) hx hb dX3_count_1 (by decide) (by decide) rfl (by decide) ?_
    refine lv_aload_n hx hb dX3_count_52 rfl (lv_at hl 0 rfl) ?_
    refine mw_get (C := RX3) (T := TX3) (N := 14) F hK hW hI_X3 hR.1 rfl 10 (by decide) hl_fieldLink_RX3_69_SpliceBenchModel_came_I rfl dX3_count_53 ?_
    exact W.iret hx hb hr (fun t ht _ => ⟨_, rfl, (by first | rfl | simp [anCount]), ht⟩) (fun _ h => by cases h) dX3_count_56
  by_cases h_1 : w = 1
  · subst h_1
    refine lv_tableIn (off := 56) (tgt := 57) hx hb dX3_count_1 (by decide) (by decide) rfl (by decide) ?_
    refine lv_aload_n hx hb dX3_count_57 rfl (lv_at hl 0 rfl) ?_
    refine mw_get (C := RX3) (T := TX3) (N := 14) F hK hW hI_X3 hR.1 rfl 8 (by decide) hl_fieldLink_RX3_35_SpliceBenchModel_failed_I rfl dX3_count_58 ?_
    refine lv_iload_n hx hb dX3_count_61 rfl (lv_at hl 1 rfl) ?_
    refine mw_iald F hK hW 0 hR.2.2.2.2.2.2.2.2.2.1 rfl (show vp_in (nI 1) 5 from vp_in_nI (by decide) (by decide)) dX3_count_62 ?_
    exact W.iret hx hb hr (fun t ht _ => ⟨_, rfl, (by first | rfl | simp [anCount]), ht⟩) (fun _ h => by cases h) dX3_count_63
  by_cases h_2 : w = 2
  · subst h_2
    refine lv_tableIn (off := 56) (tgt := 57) hx hb dX3_count_1 (by decide) (by decide) rfl (by decide) ?_
    refine lv_aload_n hx hb dX3_count_57 rfl (lv_at hl 0 rfl) ?_
    refine mw_get (C := RX3) (T := TX3) (N := 14) F hK hW hI_X3 hR.1 rfl 8 (by decide) hl_fieldLink_RX3_35_SpliceBenchModel_failed_I rfl dX3_count_58 ?_
    refine lv_iload_n hx hb dX3_count_61 rfl (lv_at hl 1 rfl) ?_
    refine mw_iald F hK hW 0 hR.2.2.2.2.2.2.2.2.2.1 rfl (show vp_in (nI 2) 5 from vp_in_nI (by decide) (by decide)) dX3_count_62 ?_
    exact W.iret hx hb hr (fun t ht _ => ⟨_, rfl, (by first | rfl | simp [anCount]), ht⟩) (fun _ h => by cases h) dX3_count_63
  by_cases h_3 : w = 3
  · subst h_3
    refine lv_tableIn (off := 56) (tgt := 57) hx hb dX3_count_1 (by decide) (by decide) rfl (by decide) ?_
    refine lv_aload_n hx hb dX3_count_57 rfl (lv_at hl 0 rfl) ?_
    refine mw_get (C := RX3) (T := TX3) (N := 14) F hK hW hI_X3 hR.1 rfl 8 (by decide) hl_fieldLink_RX3_35_SpliceBenchModel_failed_I rfl dX3_count_58 ?_
    refine lv_iload_n hx hb dX3_count_61 rfl (lv_at hl 1 rfl) ?_
    refine mw_iald F hK hW 0 hR.2.2.2.2.2.2.2.2.2.1 rfl (show vp_in (nI 3) 5 from vp_in_nI (by decide) (by decide)) dX3_count_62 ?_
    exact W.iret hx hb hr (fun t ht _ => ⟨_, rfl, (by first | rfl | simp [anCount]), ht⟩) (fun _ h => by cases h) dX3_count_63
  by_cases h_4 : w = 4
  · subst h_4
    refine lv_tableIn (off := 56) (tgt := 57) hx hb dX3_count_1 (by decide) (by decide) rfl (by decide) ?_
    refine lv_aload_n hx hb dX3_count_57 rfl (lv_at hl 0 rfl) ?_
    refine mw_get (C := RX3) (T := TX3) (N := 14) F hK hW hI_X3 hR.1 rfl 8 (by decide) hl_fieldLink_RX3_35_SpliceBenchModel_failed_I rfl dX3_count_58 ?_
    refine lv_iload_n hx hb dX3_count_61 rfl (lv_at hl 1 rfl) ?_
    refine mw_iald F hK hW 0 hR.2.2.2.2.2.2.2.2.2.1 rfl (show vp_in (nI 4) 5 from vp_in_nI (by decide) (by decide)) dX3_count_62 ?_
    exact W.iret hx hb hr (fun t ht _ => ⟨_, rfl, (by first | rfl | simp [anCount]), ht⟩) (fun _ h => by cases h) dX3_count_63
  by_cases h_5 : w = 5
  · subst h_5
    refine lv_tableIn (off := 63) (tgt := 64) hx hb dX3_count_1 (by decide) (by decide) rfl (by decide) ?_
    refine lv_aload_n hx hb dX3_count_64 rfl (lv_at hl 0 rfl) ?_
    refine mw_get (C := RX3) (T := TX3) (N := 14) F hK hW hI_X3 hR.1 rfl 11 (by decide) hl_fieldLink_RX3_91_SpliceBenchModel_good_I rfl dX3_count_65 ?_
    exact W.iret hx hb hr (fun t ht _ => ⟨_, rfl, (by first | rfl | simp [anCount]), ht⟩) (fun _ h => by cases h) dX3_count_68
  by_cases h_6 : w = 6
  · subst h_6
    refine lv_tableIn (off := 68) (tgt := 69) hx hb dX3_count_1 (by decide) (by decide) rfl (by decide) ?_
    refine lv_aload_n hx hb dX3_count_69 rfl (lv_at hl 0 rfl) ?_
    refine mw_get (C := RX3) (T := TX3) (N := 14) F hK hW hI_X3 hR.1 rfl 12 (by decide) hl_fieldLink_RX3_56_SpliceBenchModel_rows_I rfl dX3_count_70 ?_
    exact W.iret hx hb hr (fun t ht _ => ⟨_, rfl, (by first | rfl | simp [anCount]), ht⟩) (fun _ h => by cases h) dX3_count_73
  by_cases h_7 : w = 7
  · subst h_7
    refine lv_tableIn (off := 73) (tgt := 74) hx hb dX3_count_1 (by decide) (by decide) rfl (by decide) ?_
    refine lv_aload_n hx hb dX3_count_74 rfl (lv_at hl 0 rfl) ?_
    refine mw_get (C := RX3) (T := TX3) (N := 14) F hK hW hI_X3 hR.1 rfl 13 (by decide) hl_fieldLink_RX3_62_SpliceBenchModel_cards_I rfl dX3_count_75 ?_
    exact W.iret hx hb hr (fun t ht _ => ⟨_, rfl, (by first | rfl | simp [anCount]), ht⟩) (fun _ h => by cases h) dX3_count_78
  by_cases h_8 : w = 8
  · subst h_8
    refine lv_tableIn (off := 78) (tgt := 79) hx hb dX3_count_1 (by decide) (by decide) rfl (by decide) ?_
    refine lv_aload_n hx hb dX3_count_79 rfl (lv_at hl 0 rfl) ?_
    refine mw_get (C := RX3) (T := TX3) (N := 14) F hK hW hI_X3 hR.1 rfl 9 (by decide) hl_fieldLink_RX3_38_SpliceBenchModel_covered_I rfl dX3_count_80 ?_
    refine lv_iconst (v := (-1)) hx hb dX3_count_83 (by decide) ?_
    refine lv_icmp_ne (tgt := 91) hx hb dX3_count_84 (by decide) (fun c_84 => ?_) (fun c_84 => ?_)
    · refine lv_iconst (v := 1) hx hb dX3_count_91 (by decide) ?_
      exact W.iret hx hb hr (fun t ht _ => ⟨_, rfl, (by first | rfl | simp [anCount, c_84]), ht⟩) (fun _ h => by cases h) dX3_count_92
    · refine lv_iconst (v := 0) hx hb dX3_count_87 (by decide) ?_
      refine lv_goto (tgt := 92) hx hb dX3_count_88 (by decide) ?_
      exact W.iret hx hb hr (fun t ht _ => ⟨_, rfl, (by first | rfl | simp [anCount, c_84]), ht⟩) (fun _ h => by cases h) dX3_count_92
  have ht_0 := lv_neT (a := 0) h_0 rfl
  have ht_1 := lv_neT (a := 1) h_1 rfl
  have ht_2 := lv_neT (a := 2) h_2 rfl
  have ht_3 := lv_neT (a := 3) h_3 rfl
  have ht_4 := lv_neT (a := 4) h_4 rfl
  have ht_5 := lv_neT (a := 5) h_5 rfl
  have ht_6 := lv_neT (a := 6) h_6 rfl
  have ht_7 := lv_neT (a := 7) h_7 rfl
  have ht_8 := lv_neT (a := 8) h_8 rfl
  refine lv_tableOut (tgt := 93) hx hb dX3_count_1 (by omega) (by decide) ?_
  refine lv_iconst (v := (-1)) hx hb dX3_count_93 (by decide) ?_
  exact W.iret hx hb hr (fun t ht _ => ⟨_, rfl, (by first | rfl | simp [anCount, h_0, h_1, h_2, h_3, h_4, h_5, h_6, h_7, h_8]), ht⟩) (fun _ h => by cases h) dX3_count_94
abbrev rmX3_held : Room := ({ frames := 2, cells := 0, slots := 0, locals := 42 } : Room)
set_option maxHeartbeats 4000000 in
set_option maxRecDepth 100000 in
theorem c_X3_held {mm : Nat} {ad : Nat → Nat} {σ : RS} (hR : refAt cI cJ mm ad σ M) {cc : Nat} (hI : Inv σ cc) {s0 w : Int32} : Met l yX3_held wsX3_held rmX3_held (va_Pc [.ref mm, .int s0, .int w] (mwPre D (tyL cI cJ cC cH) M sz)) (vp_Si (fun r => r = anHeld σ s0 w)) 0 0 (fun _ => False) := by
  refine Met.ofW (cc := cX3_held) (maxL := 5) (ret := (some .int)) (by decide) rfl ?_
  intro pr env s m args below meth c s₁ B hml hv
  obtain ⟨rfl, hsz, hW, hK, hO⟩ := hv
  have hx := B.exec
  have hb := B.bytes
  have hr := B.returns
  have hts := atoms_spec (ws := wsX3_held) B.pre
  have hown : s.vm.findClass RX3 = some m.cls := findClass_of_methodNamed B.named
  have hlocks := B.notSynchronized
  have F : CallFix pr m c cX3_held 5 s ([.ref mm, .int s0, .int w] : List Value).toArray wsX3_held RX3 := ⟨hx, hb, hml, hown, hts⟩
  have hl := lv_entry ([.ref mm, .int s0, .int w]) (n := 5) (Nat.le_of_ble_eq_true rfl)
  rw [lg_entry_eq]
  generalize (lg_sl ([.ref mm, .int s0, .int w]) ++ List.replicate (5 - (lg_sl ([.ref mm, .int s0, .int w])).length) Slot.unset).toArray = ls at hl ⊢
  have hl : lv_has ls 5 [(0, .ref mm), (1, .int s0), (2, .int w)] := hl
  refine lv_iload_n hx hb dX3_held_0 rfl (lv_at hl 1 rfl) ?_
  refine vp_callSi (W.runS (As := [.int s0]) (rest := []) F (c_X3_isSpindle) (cwS 1 hts gX3_held_X3_isSpindle rfl rfl rfl (by decide +kernel) ⟨Nat.le_of_ble_eq_true rfl, Nat.le_of_ble_eq_true rfl⟩) (mw_prS hK hO hW) rfl rfl hl.1 rfl (lv_room (Nat.le_of_ble_eq_true rfl)) dX3_held_1 ⟨Nat.zero_le _, Nat.zero_le _⟩) (fun r_1 er_1 => ?_)
  subst er_1
  refine lv_if_ne (tgt := 10) hx hb dX3_held_4 (by decide) (fun c_4 => ?_) (fun c_4 => ?_)
  · obtain ⟨j, hj, rfl⟩ := isSp_of (bI_n c_4)
    have esp_j := isSp_nI hj
    have eix_j : ix (nI j) = j := nI_clamp (by omega)
    refine lv_iload_n hx hb dX3_held_10 rfl (lv_at hl 2 rfl) ?_
    refine lv_if_ne (tgt := 20) hx hb dX3_held_11 (by decide) (fun c_11 => ?_) (fun c_11 => ?_)
    · refine lv_iload_n hx hb dX3_held_20 rfl (lv_at hl 2 rfl) ?_
      refine lv_iconst (v := 1) hx hb dX3_held_21 (by decide) ?_
      refine lv_icmp_ne (tgt := 31) hx hb dX3_held_22 (by decide) (fun c_22 => ?_) (fun c_22 => ?_)
      · refine lv_iload_n hx hb dX3_held_31 rfl (lv_at hl 2 rfl) ?_
        refine lv_iconst (v := 2) hx hb dX3_held_32 (by decide) ?_
        refine lv_icmp_eq (tgt := 38) hx hb dX3_held_33 (by decide) (fun c_33 => ?_) (fun c_33 => ?_)
        · subst c_33
          refine lv_iconst (v := 0) hx hb dX3_held_38 (by decide) ?_
          refine lv_istore_n (lv' := [(3, .int 0), (0, .ref mm), (1, .int (nI j)), (2, .int 2)]) hx hb dX3_held_39 rfl hl (by decide) rfl (fun ls hl => ?_)
          refine lv_iconst (v := 0) hx hb dX3_held_40 (by decide) ?_
          refine lv_istore (lv' := [(4, .int 0), (3, .int 0), (0, .ref mm), (1, .int (nI j)), (2, .int 2)]) hx hb dX3_held_41 hl (by decide) rfl (fun ls hl => ?_)
          obtain ⟨n, hn, en⟩ : ∃ n, n ≤ 80 ∧ szOf σ j = nI n := by
            rcases hI.ho hj with h0 | ⟨k, hk, h0⟩ | ⟨k, hk, h0⟩
            · exact ⟨0, by omega, szOf_n (hasP_0 h0)⟩
            · exact ⟨0, by omega, szOf_n (hasP_lab hk h0)⟩
            · obtain ⟨n, hn, e⟩ := hI.sz hk
              exact ⟨n, hn, (szOf_row hk h0).trans e⟩
          have loop : ∀ (N : Nat) (i : Nat), n + 1 ≤ i + N → i ≤ n → ∀ (ls : Array Slot), lv_has ls 5 [(4, .int (nI i)), (3, .int (nI (cntF (fun i => !decide (pV σ j i = 0)) i))), (0, .ref mm), (1, .int (nI j)), (2, .int 2)] → W pr l env (headSpec wsX3_held rmX3_held).room s m ([.ref mm, .int (nI j), .int 2] : List Value).toArray below meth c s.heap [] 0 0 (MQ below (vp_Si (fun r => r = anHeld σ (nI j) 2)) ([.ref mm, .int (nI j), .int 2] : List Value).toArray s 0 0 (fun _ => False)) (F0 m 43 ls []) := by
            intro N
            induction N with
            | zero =>
              exact fun i h1 h2 => absurd h1 (by omega)
            | succ N ih =>
              intro i hN hi ls hl
              refine lv_iload hx hb dX3_held_43 (lv_at hl 0 rfl) ?_
              refine lv_aload_n hx hb dX3_held_45 rfl (lv_at hl 2 rfl) ?_
              refine lv_iload_n hx hb dX3_held_46 rfl (lv_at hl 3 rfl) ?_
              refine vp_callSi (W.runV (As := [.int (nI j)]) (rest := [.int (nI i)]) F (c_X3_sizeOf hR (show j < 10 by omega) (hI.ho hj)) (cwV 1 hts gX3_held_X3_sizeOf rfl rfl rfl (by decide +kernel) ⟨Nat.le_of_ble_eq_true rfl, Nat.le_of_ble_eq_true rfl⟩) (mw_prV (q := (RX3, TX3, 14)) hK hO hW rfl hR.1) rfl rfl hl.1 rfl (lv_room (Nat.le_of_ble_eq_true rfl)) dX3_held_47 ⟨Nat.zero_le _, Nat.zero_le _⟩) (fun r_2 er_2 => ?_)
              subst er_2
              rw [en]
              refine lv_icmp_ge (tgt := 79) hx hb dX3_held_50 (by decide) (fun c_50 => ?_) (fun c_50 => ?_)
              · refine lv_iload_n hx hb dX3_held_79 rfl (lv_at hl 1 rfl) ?_
                exact W.iret hx hb hr (fun t ht _ => ⟨_, rfl, (by
                  have e7 : i = n := by have := (nI_leI (by omega) (by omega)).mp c_50; omega
                  simp only [anHeld, esp_j, eix_j, cntH, en, nI_clamp (show n < 2 ^ 31 by omega), ix, e7]
                  rfl), ht⟩) (fun _ h => by cases h) dX3_held_80
              · have hin : i < n := by
                  rcases Nat.lt_or_ge i n with h9 | h9
                  · exact h9
                  · exact absurd (nI_le h9 (by omega)) c_50
                obtain ⟨k9, n9, i9, hk9, e9, -⟩ := hI.place hj (i := nI i) (by rw [en, inPl_nI (by omega) (by omega)]; exact decide_eq_true hin)
                refine lv_iload_n hx hb dX3_held_53 rfl (lv_at hl 1 rfl) ?_
                refine lv_aload_n hx hb dX3_held_54 rfl (lv_at hl 2 rfl) ?_
                refine lv_iload_n hx hb dX3_held_55 rfl (lv_at hl 3 rfl) ?_
                refine lv_iload hx hb dX3_held_56 (lv_at hl 0 rfl) ?_
                refine vp_callSl (W.runV (As := [.int (nI j), .int (nI i)]) (rest := [.int (nI (cntF (fun i => !decide (pV σ j i = 0)) i))]) F (c_X3_place (i := i) (k := k9) hR (show j < 10 by omega) hk9 (show i < 80 by omega) e9) (cwV 2 hts gX3_held_X3_place rfl rfl rfl (by decide +kernel) ⟨Nat.le_of_ble_eq_true rfl, Nat.le_of_ble_eq_true rfl⟩) (mw_prV (q := (RX3, TX3, 14)) hK hO hW rfl hR.1) rfl rfl hl.1 rfl (lv_room (Nat.le_of_ble_eq_true rfl)) dX3_held_58 ⟨Nat.zero_le _, Nat.zero_le _⟩) (fun r_3 er_3 => ?_)
                subst er_3
                refine lv_lconst (v := 0) hx hb dX3_held_61 (by decide) ?_
                refine W.lcmp hx hb dX3_held_62 ?_
                refine lv_if_ne (tgt := 70) hx hb dX3_held_63 (by decide) (fun c_63 => ?_) (fun c_63 => ?_)
                · refine lv_iconst (v := 1) hx hb dX3_held_70 (by decide) ?_
                  refine lv_iadd hx hb dX3_held_71 ?_
                  refine lv_istore_n (lv' := [(3, .int ((nI (cntF (fun i => !decide (pV σ j i = 0)) i)) + 1)), (4, .int (nI i)), (0, .ref mm), (1, .int (nI j)), (2, .int 2)]) hx hb dX3_held_72 rfl hl (by decide) rfl (fun ls hl => ?_)
                  refine lv_iinc (v := nI (i + 1)) (lv' := [(4, .int (nI (i + 1))), (3, .int ((nI (cntF (fun i => !decide (pV σ j i = 0)) i)) + 1)), (0, .ref mm), (1, .int (nI j)), (2, .int 2)]) hx hb dX3_held_73 hl (k := 1) rfl (nI_1 i) (by decide) rfl (fun ls hl => ?_)
                  refine lv_goto (tgt := 43) hx hb dX3_held_76 (by decide) ?_
                  have hc : (nI (cntF (fun i => !decide (pV σ j i = 0)) i)) + 1 = nI (cntF (fun i => !decide (pV σ j i = 0)) (i + 1)) := by
                    have e8 : pV σ j i = sPl σ (80 * k9 + i) := pV_row hk9 e9
                    simp only [cntF, e8]
                    first | (rw [decide_eq_true ((lg_cmp_eq _ _).mp c_63)]; simp; done) | (rw [decide_eq_false (fun z => c_63 ((lg_cmp_eq _ _).mpr z))]; exact nI_1 _)
                  rw [hc] at hl
                  exact ih (i + 1) (by omega) (by omega) ls (lv_sub hl [0, 1, 2, 3, 4] rfl)
                · refine lv_iconst (v := 0) hx hb dX3_held_66 (by decide) ?_
                  refine lv_goto (tgt := 71) hx hb dX3_held_67 (by decide) ?_
                  refine lv_iadd hx hb dX3_held_71 ?_
                  refine lv_istore_n (lv' := [(3, .int ((nI (cntF (fun i => !decide (pV σ j i = 0)) i)) + 0)), (4, .int (nI i)), (0, .ref mm), (1, .int (nI j)), (2, .int 2)]) hx hb dX3_held_72 rfl hl (by decide) rfl (fun ls hl => ?_)
                  refine lv_iinc (v := nI (i + 1)) (lv' := [(4, .int (nI (i + 1))), (3, .int ((nI (cntF (fun i => !decide (pV σ j i = 0)) i)) + 0)), (0, .ref mm), (1, .int (nI j)), (2, .int 2)]) hx hb dX3_held_73 hl (k := 1) rfl (nI_1 i) (by decide) rfl (fun ls hl => ?_)
                  refine lv_goto (tgt := 43) hx hb dX3_held_76 (by decide) ?_
                  have hc : (nI (cntF (fun i => !decide (pV σ j i = 0)) i)) + 0 = nI (cntF (fun i => !decide (pV σ j i = 0)) (i + 1)) := by
                    have e8 : pV σ j i = sPl σ (80 * k9 + i) := pV_row hk9 e9
                    simp only [cntF, e8]
                    first | (rw [decide_eq_true ((lg_cmp_eq _ _).mp c_63)]; simp; done) | (rw [decide_eq_false (fun z => c_63 ((lg_cmp_eq _ _).mpr z))]; exact nI_1 _)
                  rw [hc] at hl
                  exact ih (i + 1) (by omega) (by omega) ls (lv_sub hl [0, 1, 2, 3, 4] rfl)
          exact loop (n + 1) 0 (by omega) (Nat.zero_le _) ls (lv_sub hl [0, 1, 2, 3, 4] rfl)
        · refine lv_iconst (v := (-1)) hx hb dX3_held_36 (by decide) ?_
          exact W.iret hx hb hr (fun t ht _ => ⟨_, rfl, (by simp [anHeld, esp_j, eix_j, c_11, c_22, c_33]), ht⟩) (fun _ h => by cases h) dX3_held_37
      · refine lv_aload_n hx hb dX3_held_25 rfl (lv_at hl 0 rfl) ?_
        refine lv_iload_n hx hb dX3_held_26 rfl (lv_at hl 1 rfl) ?_
        refine vp_callSi (W.runV (As := [.int (nI j)]) (rest := []) F (c_X3_sizeOf hR (show j < 10 by omega) (hI.ho hj)) (cwV 1 hts gX3_held_X3_sizeOf rfl rfl rfl (by decide +kernel) ⟨Nat.le_of_ble_eq_true rfl, Nat.le_of_ble_eq_true rfl⟩) (mw_prV (q := (RX3, TX3, 14)) hK hO hW rfl hR.1) rfl rfl hl.1 rfl (lv_room (Nat.le_of_ble_eq_true rfl)) dX3_held_27 ⟨Nat.zero_le _, Nat.zero_le _⟩) (fun r_4 er_4 => ?_)
        subst er_4
        exact W.iret hx hb hr (fun t ht _ => ⟨_, rfl, (by simp [anHeld, esp_j, eix_j, c_11, c_22]), ht⟩) (fun _ h => by cases h) dX3_held_30
    · refine lv_aload_n hx hb dX3_held_14 rfl (lv_at hl 0 rfl) ?_
      refine lv_iload_n hx hb dX3_held_15 rfl (lv_at hl 1 rfl) ?_
      refine vp_callSi (W.runV (As := [.int (nI j)]) (rest := []) F (c_X3_kindOf hR (show j < 10 by omega) (hI.ho hj)) (cwV 1 hts gX3_held_X3_kindOf rfl rfl rfl (by decide +kernel) ⟨Nat.le_of_ble_eq_true rfl, Nat.le_of_ble_eq_true rfl⟩) (mw_prV (q := (RX3, TX3, 14)) hK hO hW rfl hR.1) rfl rfl hl.1 rfl (lv_room (Nat.le_of_ble_eq_true rfl)) dX3_held_16 ⟨Nat.zero_le _, Nat.zero_le _⟩) (fun r_5 er_5 => ?_)
      subst er_5
      exact W.iret hx hb hr (fun t ht _ => ⟨_, rfl, (by simp [anHeld, esp_j, eix_j, c_11]), ht⟩) (fun _ h => by cases h) dX3_held_19
  · have c_4 := bI_e c_4
    refine lv_bipush (v := (-9)) hx hb dX3_held_7 (by decide) ?_
    exact W.iret hx hb hr (fun t ht _ => ⟨_, rfl, (by simp [anHeld, c_4]), ht⟩) (fun _ h => by cases h) dX3_held_9
abbrev rmX3_sort : Room := ({ frames := 3, cells := 0, slots := 0, locals := 64 } : Room)
set_option maxHeartbeats 4000000 in
set_option maxRecDepth 100000 in
theorem c_X3_sort {mm : Nat} {ad : Nat → Nat} {σ : RS} (hR : refAt cI cJ mm ad σ M) {cc : Nat} (hI : Inv σ cc) {s0 i : Int32} : Met l yX3_sort wsX3_sort rmX3_sort (va_Pc [.ref mm, .int s0, .int i] (mwPre D (tyL cI cJ cC cH) M sz)) (vp_Si (fun r => r = anSort σ s0 i)) 0 0 (fun _ => False) := by
  refine Met.ofW (cc := cX3_sort) (maxL := 3) (ret := (some .int)) (by decide) rfl ?_
  intro pr env s m args below meth c s₁ B hml hv
  obtain ⟨rfl, hsz, hW, hK, hO⟩ := hv
  have hx := B.exec
  have hb := B.bytes
  have hr := B.returns
  have hts := atoms_spec (ws := wsX3_sort) B.pre
  have hown : s.vm.findClass RX3 = some m.cls := findClass_of_methodNamed B.named
  have hlocks := B.notSynchronized
  have F : CallFix pr m c cX3_sort 3 s ([.ref mm, .int s0, .int i] : List Value).toArray wsX3_sort RX3 := ⟨hx, hb, hml, hown, hts⟩
  have hl := lv_entry ([.ref mm, .int s0, .int i]) (n := 3) (Nat.le_of_ble_eq_true rfl)
  rw [lg_entry_eq]
  generalize (lg_sl ([.ref mm, .int s0, .int i]) ++ List.replicate (3 - (lg_sl ([.ref mm, .int s0, .int i])).length) Slot.unset).toArray = ls at hl ⊢
  have hl : lv_has ls 3 [(0, .ref mm), (1, .int s0), (2, .int i)] := hl
  refine lv_iload_n hx hb dX3_sort_0 rfl (lv_at hl 1 rfl) ?_
  refine vp_callSi (W.runS (As := [.int s0]) (rest := []) F (c_X3_isSpindle) (cwS 1 hts gX3_sort_X3_isSpindle rfl rfl rfl (by decide +kernel) ⟨Nat.le_of_ble_eq_true rfl, Nat.le_of_ble_eq_true rfl⟩) (mw_prS hK hO hW) rfl rfl hl.1 rfl (lv_room (Nat.le_of_ble_eq_true rfl)) dX3_sort_1 ⟨Nat.zero_le _, Nat.zero_le _⟩) (fun r_1 er_1 => ?_)
  subst er_1
  refine lv_if_ne (tgt := 10) hx hb dX3_sort_4 (by decide) (fun c_4 => ?_) (fun c_4 => ?_)
  · obtain ⟨j, hj, rfl⟩ := isSp_of (bI_n c_4)
    have esp_j := isSp_nI hj
    have eix_j : ix (nI j) = j := nI_clamp (by omega)
    refine lv_aload_n hx hb dX3_sort_10 rfl (lv_at hl 0 rfl) ?_
    refine lv_iload_n hx hb dX3_sort_11 rfl (lv_at hl 1 rfl) ?_
    refine lv_iload_n hx hb dX3_sort_12 rfl (lv_at hl 2 rfl) ?_
    refine vp_callSi (W.runV (As := [.int (nI j), .int i]) (rest := []) F (c_X3_isPlace (i := i) hR (show j < 10 by omega) (hI.ho hj)) (cwV 2 hts gX3_sort_X3_isPlace rfl rfl rfl (by decide +kernel) ⟨Nat.le_of_ble_eq_true rfl, Nat.le_of_ble_eq_true rfl⟩) (mw_prV (q := (RX3, TX3, 14)) hK hO hW rfl hR.1) rfl rfl hl.1 rfl (lv_room (Nat.le_of_ble_eq_true rfl)) dX3_sort_13 ⟨Nat.zero_le _, Nat.zero_le _⟩) (fun r_2 er_2 => ?_)
    subst er_2
    refine lv_if_ne (tgt := 21) hx hb dX3_sort_16 (by decide) (fun c_16 => ?_) (fun c_16 => ?_)
    · have c_16 := bI_n c_16
      obtain ⟨k9, n9, i9, hk9, e9, hn9, en9, hi9, rfl⟩ := hI.place hj c_16
      have eix_i : ix (nI i9) = i9 := nI_clamp (by omega)
      have epv : pV σ j i9 = sPl σ (80 * k9 + i9) := pV_row hk9 e9
      refine lv_aload_n hx hb dX3_sort_21 rfl (lv_at hl 0 rfl) ?_
      refine lv_iload_n hx hb dX3_sort_22 rfl (lv_at hl 1 rfl) ?_
      refine vp_callSi (W.runV (As := [.int (nI j)]) (rest := []) F (c_X3_isRack hR (show j < 10 by omega) (hI.ho hj)) (cwV 1 hts gX3_sort_X3_isRack rfl rfl rfl (by decide +kernel) ⟨Nat.le_of_ble_eq_true rfl, Nat.le_of_ble_eq_true rfl⟩) (mw_prV (q := (RX3, TX3, 14)) hK hO hW rfl hR.1) rfl rfl hl.1 rfl (lv_room (Nat.le_of_ble_eq_true rfl)) dX3_sort_23 ⟨Nat.zero_le _, Nat.zero_le _⟩) (fun r_3 er_3 => ?_)
      subst er_3
      refine lv_if_ne (tgt := 31) hx hb dX3_sort_26 (by decide) (fun c_26 => ?_) (fun c_26 => ?_)
      · have c_26 := bI_n c_26
        have hrk9 : kRack (sKi σ k9) = true := by rw [← hI.rk hj hk9 e9]; exact c_26
        have hv2 := hI.v2 hj hk9 e9 hrk9 hn9 en9 hi9
        refine lv_aload_n hx hb dX3_sort_31 rfl (lv_at hl 0 rfl) ?_
        refine lv_iload_n hx hb dX3_sort_32 rfl (lv_at hl 1 rfl) ?_
        refine lv_iload_n hx hb dX3_sort_33 rfl (lv_at hl 2 rfl) ?_
        refine vp_callSl (W.runV (As := [.int (nI j), .int (nI i9)]) (rest := []) F (c_X3_place (i := i9) (k := k9) hR (show j < 10 by omega) hk9 (show i9 < 80 by omega) e9) (cwV 2 hts gX3_sort_X3_place rfl rfl rfl (by decide +kernel) ⟨Nat.le_of_ble_eq_true rfl, Nat.le_of_ble_eq_true rfl⟩) (mw_prV (q := (RX3, TX3, 14)) hK hO hW rfl hR.1) rfl rfl hl.1 rfl (lv_room (Nat.le_of_ble_eq_true rfl)) dX3_sort_34 ⟨Nat.zero_le _, Nat.zero_le _⟩) (fun r_4 er_4 => ?_)
        subst er_4
        refine lv_lconst (v := 0) hx hb dX3_sort_37 (by decide) ?_
        refine W.lcmp hx hb dX3_sort_38 ?_
        refine lv_if_ne (tgt := 46) hx hb dX3_sort_39 (by decide) (fun c_39 => ?_) (fun c_39 => ?_)
        · have c_39 : ¬ (_ = _) := fun h9 => c_39 ((lg_cmp_eq _ _).mpr h9)
          refine lv_aload_n hx hb dX3_sort_46 rfl (lv_at hl 0 rfl) ?_
          refine lv_aload_n hx hb dX3_sort_47 rfl (lv_at hl 0 rfl) ?_
          refine lv_iload_n hx hb dX3_sort_48 rfl (lv_at hl 1 rfl) ?_
          refine lv_iload_n hx hb dX3_sort_49 rfl (lv_at hl 2 rfl) ?_
          refine vp_callSl (W.runV (As := [.int (nI j), .int (nI i9)]) (rest := [.ref mm]) F (c_X3_place (i := i9) (k := k9) hR (show j < 10 by omega) hk9 (show i9 < 80 by omega) e9) (cwV 2 hts gX3_sort_X3_place rfl rfl rfl (by decide +kernel) ⟨Nat.le_of_ble_eq_true rfl, Nat.le_of_ble_eq_true rfl⟩) (mw_prV (q := (RX3, TX3, 14)) hK hO hW rfl hR.1) rfl rfl hl.1 rfl (lv_room (Nat.le_of_ble_eq_true rfl)) dX3_sort_50 ⟨Nat.zero_le _, Nat.zero_le _⟩) (fun r_5 er_5 => ?_)
          subst er_5
          refine vp_callSi (W.runV (As := [.long (sPl σ (80 * k9 + i9))]) (rest := []) F (c_X3_isPlain (v := sPl σ (80 * k9 + i9)) hR hv2) (cwV 1 hts gX3_sort_X3_isPlain rfl rfl rfl (by decide +kernel) ⟨Nat.le_of_ble_eq_true rfl, Nat.le_of_ble_eq_true rfl⟩) (mw_prV (q := (RX3, TX3, 14)) hK hO hW rfl hR.1) rfl rfl hl.1 rfl (lv_room (Nat.le_of_ble_eq_true rfl)) dX3_sort_53 ⟨Nat.zero_le _, Nat.zero_le _⟩) (fun r_6 er_6 => ?_)
          subst er_6
          refine lv_if_eq (tgt := 63) hx hb dX3_sort_56 (by decide) (fun c_56 => ?_) (fun c_56 => ?_)
          · have c_56 := bI_e c_56
            refine lv_iconst (v := 3) hx hb dX3_sort_63 (by decide) ?_
            exact W.iret hx hb hr (fun t ht _ => ⟨_, rfl, (by simp [anSort, esp_j, eix_j, eix_i, epv, c_16, c_26, c_39, c_56]), ht⟩) (fun _ h => by cases h) dX3_sort_64
          · have c_56 := bI_n c_56
            refine lv_iconst (v := 2) hx hb dX3_sort_59 (by decide) ?_
            refine lv_goto (tgt := 64) hx hb dX3_sort_60 (by decide) ?_
            exact W.iret hx hb hr (fun t ht _ => ⟨_, rfl, (by simp [anSort, esp_j, eix_j, eix_i, epv, c_16, c_26, c_39, c_56]), ht⟩) (fun _ h => by cases h) dX3_sort_64
        · have c_39 := (lg_cmp_eq _ _).mp c_39
          refine lv_iconst (v := 0) hx hb dX3_sort_42 (by decide) ?_
          refine lv_goto (tgt := 64) hx hb dX3_sort_43 (by decide) ?_
          exact W.iret hx hb hr (fun t ht _ => ⟨_, rfl, (by simp [anSort, esp_j, eix_j, eix_i, epv, c_16, c_26, c_39]), ht⟩) (fun _ h => by cases h) dX3_sort_64
      · have c_26 := bI_e c_26
        refine lv_iconst (v := 1) hx hb dX3_sort_29 (by decide) ?_
        exact W.iret hx hb hr (fun t ht _ => ⟨_, rfl, (by simp [anSort, esp_j, eix_j, eix_i, epv, c_16, c_26]), ht⟩) (fun _ h => by cases h) dX3_sort_30
    · have c_16 := bI_e c_16
      refine lv_iconst (v := (-1)) hx hb dX3_sort_19 (by decide) ?_
      exact W.iret hx hb hr (fun t ht _ => ⟨_, rfl, (by simp [anSort, esp_j, eix_j, c_16]), ht⟩) (fun _ h => by cases h) dX3_sort_20
  · have c_4 := bI_e c_4
    refine lv_bipush (v := (-9)) hx hb dX3_sort_7 (by decide) ?_
    exact W.iret hx hb hr (fun t ht _ => ⟨_, rfl, (by simp [anSort, c_4]), ht⟩) (fun _ h => by cases h) dX3_sort_9
abbrev rmX3_number : Room := ({ frames := 3, cells := 0, slots := 0, locals := 64 } : Room)
set_option maxHeartbeats 4000000 in
set_option maxRecDepth 100000 in
theorem c_X3_number {mm : Nat} {ad : Nat → Nat} {σ : RS} (hR : refAt cI cJ mm ad σ M) {cc : Nat} (hI : Inv σ cc) {s0 i : Int32} : Met l yX3_number wsX3_number rmX3_number (va_Pc [.ref mm, .int s0, .int i] (mwPre D (tyL cI cJ cC cH) M sz)) (vp_Sl (fun r => r = anNumber σ s0 i)) 0 0 (fun _ => False) := by
  refine Met.ofW (cc := cX3_number) (maxL := 5) (ret := (some .long)) (by decide) rfl ?_
  intro pr env s m args below meth c s₁ B hml hv
  obtain ⟨rfl, hsz, hW, hK, hO⟩ := hv
  have hx := B.exec
  have hb := B.bytes
  have hr := B.returns
  have hts := atoms_spec (ws := wsX3_number) B.pre
  have hown : s.vm.findClass RX3 = some m.cls := findClass_of_methodNamed B.named
  have hlocks := B.notSynchronized
  have F : CallFix pr m c cX3_number 5 s ([.ref mm, .int s0, .int i] : List Value).toArray wsX3_number RX3 := ⟨hx, hb, hml, hown, hts⟩
  have hI_X3 : ∀ w ∈ wsX30, w ∈ wsX3_number := by decide +kernel
  have hl_fieldLink_RX3_29_SpliceBenchModel_cardNumber_J := hts (.fieldLink RX3 29 "SpliceBenchModel" "cardNumber" "[J") (by decide +kernel)
  have hl_fieldLink_RX3_13_SpliceBenchModel_labels_I := hts (.fieldLink RX3 13 "SpliceBenchModel" "labels" "[I") (by decide +kernel)
  have hl_fieldLink_RX3_7_SpliceBenchModel_holds_I := hts (.fieldLink RX3 7 "SpliceBenchModel" "holds" "[I") (by decide +kernel)
  have hl := lv_entry ([.ref mm, .int s0, .int i]) (n := 5) (Nat.le_of_ble_eq_true rfl)
  rw [lg_entry_eq]
  generalize (lg_sl ([.ref mm, .int s0, .int i]) ++ List.replicate (5 - (lg_sl ([.ref mm, .int s0, .int i])).length) Slot.unset).toArray = ls at hl ⊢
  have hl : lv_has ls 5 [(0, .ref mm), (1, .int s0), (2, .int i)] := hl
  refine lv_iload_n hx hb dX3_number_0 rfl (lv_at hl 1 rfl) ?_
  refine vp_callSi (W.runS (As := [.int s0]) (rest := []) F (c_X3_isSpindle) (cwS 1 hts gX3_number_X3_isSpindle rfl rfl rfl (by decide +kernel) ⟨Nat.le_of_ble_eq_true rfl, Nat.le_of_ble_eq_true rfl⟩) (mw_prS hK hO hW) rfl rfl hl.1 rfl (lv_room (Nat.le_of_ble_eq_true rfl)) dX3_number_1 ⟨Nat.zero_le _, Nat.zero_le _⟩) (fun r_1 er_1 => ?_)
  subst er_1
  refine lv_if_ne (tgt := 9) hx hb dX3_number_4 (by decide) (fun c_4 => ?_) (fun c_4 => ?_)
  · obtain ⟨j, hj, rfl⟩ := isSp_of (bI_n c_4)
    have esp_j := isSp_nI hj
    have eix_j : ix (nI j) = j := nI_clamp (by omega)
    refine lv_aload_n hx hb dX3_number_9 rfl (lv_at hl 0 rfl) ?_
    refine lv_iload_n hx hb dX3_number_10 rfl (lv_at hl 1 rfl) ?_
    refine vp_callSi (W.runV (As := [.int (nI j)]) (rest := []) F (c_X3_kindOf hR (show j < 10 by omega) (hI.ho hj)) (cwV 1 hts gX3_number_X3_kindOf rfl rfl rfl (by decide +kernel) ⟨Nat.le_of_ble_eq_true rfl, Nat.le_of_ble_eq_true rfl⟩) (mw_prV (q := (RX3, TX3, 14)) hK hO hW rfl hR.1) rfl rfl hl.1 rfl (lv_room (Nat.le_of_ble_eq_true rfl)) dX3_number_11 ⟨Nat.zero_le _, Nat.zero_le _⟩) (fun r_2 er_2 => ?_)
    subst er_2
    refine lv_iconst (v := 1) hx hb dX3_number_14 (by decide) ?_
    refine lv_icmp_ne (tgt := 33) hx hb dX3_number_15 (by decide) (fun c_15 => ?_) (fun c_15 => ?_)
    · refine lv_aload_n hx hb dX3_number_33 rfl (lv_at hl 0 rfl) ?_
      refine lv_iload_n hx hb dX3_number_34 rfl (lv_at hl 1 rfl) ?_
      refine lv_iload_n hx hb dX3_number_35 rfl (lv_at hl 2 rfl) ?_
      refine vp_callSi (W.runV (As := [.int (nI j), .int i]) (rest := []) F (c_X3_isPlace (i := i) hR (show j < 10 by omega) (hI.ho hj)) (cwV 2 hts gX3_number_X3_isPlace rfl rfl rfl (by decide +kernel) ⟨Nat.le_of_ble_eq_true rfl, Nat.le_of_ble_eq_true rfl⟩) (mw_prV (q := (RX3, TX3, 14)) hK hO hW rfl hR.1) rfl rfl hl.1 rfl (lv_room (Nat.le_of_ble_eq_true rfl)) dX3_number_36 ⟨Nat.zero_le _, Nat.zero_le _⟩) (fun r_3 er_3 => ?_)
      subst er_3
      refine lv_if_ne (tgt := 44) hx hb dX3_number_39 (by decide) (fun c_39 => ?_) (fun c_39 => ?_)
      · have c_39 := bI_n c_39
        obtain ⟨k9, n9, i9, hk9, e9, hn9, en9, hi9, rfl⟩ := hI.place hj c_39
        have eix_i : ix (nI i9) = i9 := nI_clamp (by omega)
        have epv : pV σ j i9 = sPl σ (80 * k9 + i9) := pV_row hk9 e9
        refine lv_aload_n hx hb dX3_number_44 rfl (lv_at hl 0 rfl) ?_
        refine lv_iload_n hx hb dX3_number_45 rfl (lv_at hl 1 rfl) ?_
        refine lv_iload_n hx hb dX3_number_46 rfl (lv_at hl 2 rfl) ?_
        refine vp_callSl (W.runV (As := [.int (nI j), .int (nI i9)]) (rest := []) F (c_X3_place (i := i9) (k := k9) hR (show j < 10 by omega) hk9 (show i9 < 80 by omega) e9) (cwV 2 hts gX3_number_X3_place rfl rfl rfl (by decide +kernel) ⟨Nat.le_of_ble_eq_true rfl, Nat.le_of_ble_eq_true rfl⟩) (mw_prV (q := (RX3, TX3, 14)) hK hO hW rfl hR.1) rfl rfl hl.1 rfl (lv_room (Nat.le_of_ble_eq_true rfl)) dX3_number_47 ⟨Nat.zero_le _, Nat.zero_le _⟩) (fun r_4 er_4 => ?_)
        subst er_4
        refine lv_lstore_n (lv' := [(3, .long (sPl σ (80 * k9 + i9))), (0, .ref mm), (1, .int (nI j)), (2, .int (nI i9))]) hx hb dX3_number_50 rfl hl (by decide) rfl (fun ls hl => ?_)
        refine lv_aload_n hx hb dX3_number_51 rfl (lv_at hl 1 rfl) ?_
        refine lv_iload_n hx hb dX3_number_52 rfl (lv_at hl 2 rfl) ?_
        refine vp_callSi (W.runV (As := [.int (nI j)]) (rest := []) F (c_X3_isRack hR (show j < 10 by omega) (hI.ho hj)) (cwV 1 hts gX3_number_X3_isRack rfl rfl rfl (by decide +kernel) ⟨Nat.le_of_ble_eq_true rfl, Nat.le_of_ble_eq_true rfl⟩) (mw_prV (q := (RX3, TX3, 14)) hK hO hW rfl hR.1) rfl rfl hl.1 rfl (lv_room (Nat.le_of_ble_eq_true rfl)) dX3_number_53 ⟨Nat.zero_le _, Nat.zero_le _⟩) (fun r_5 er_5 => ?_)
        subst er_5
        refine lv_if_ne (tgt := 63) hx hb dX3_number_56 (by decide) (fun c_56 => ?_) (fun c_56 => ?_)
        · have c_56 := bI_n c_56
          have hrk9 : kRack (sKi σ k9) = true := by rw [← hI.rk hj hk9 e9]; exact c_56
          have hv2 := hI.v2 hj hk9 e9 hrk9 hn9 en9 hi9
          refine lv_lload_n hx hb dX3_number_63 rfl (lv_at hl 0 rfl) ?_
          refine lv_lconst (v := 0) hx hb dX3_number_64 (by decide) ?_
          refine W.lcmp hx hb dX3_number_65 ?_
          refine lv_if_ne (tgt := 73) hx hb dX3_number_66 (by decide) (fun c_66 => ?_) (fun c_66 => ?_)
          · have c_66 : ¬ (_ = _) := fun h9 => c_66 ((lg_cmp_eq _ _).mpr h9)
            refine lv_aload_n hx hb dX3_number_73 rfl (lv_at hl 1 rfl) ?_
            refine mw_get (C := RX3) (T := TX3) (N := 14) F hK hW hI_X3 hR.1 rfl 6 (by decide) hl_fieldLink_RX3_29_SpliceBenchModel_cardNumber_J rfl dX3_number_74 ?_
            refine lv_lload_n hx hb dX3_number_77 rfl (lv_at hl 0 rfl) ?_
            refine lv_l2i hx hb dX3_number_78 rfl ?_
            refine lv_iconst (v := 1) hx hb dX3_number_79 (by decide) ?_
            refine lv_isub hx hb dX3_number_80 ?_
            obtain ⟨c9, hc9, e8⟩ := hv2.resolve_left c_66
            rw [show (sPl σ (80 * k9 + i9)).toInt32 - 1 = nI c9 by rw [e8, lN_i, nI_pred]]
            refine mw_lald F hK hW 1 hR.2.2.2.2.2.2.2.1 rfl (vp_in_nI (show c9 < 2000 by omega) (by omega)) dX3_number_81 ?_
            rw [nI_clamp (show c9 < 2 ^ 31 by omega)]
            exact W.lret hx hb hr (fun t ht _ => ⟨_, rfl, (by simp only [anNumber, esp_j, eix_j, if_neg c_15, c_39, eix_i, epv, c_56, if_neg c_66, if_true]; rw [e8, cIx_lN hc9]), ht⟩) (fun _ h => by cases h) dX3_number_82
          · have c_66 := (lg_cmp_eq _ _).mp c_66
            refine lv_lconst (v := 0) hx hb dX3_number_69 (by decide) ?_
            refine lv_goto (tgt := 82) hx hb dX3_number_70 (by decide) ?_
            exact W.lret hx hb hr (fun t ht _ => ⟨_, rfl, (by simp [anNumber, esp_j, eix_j, eix_i, epv, c_15, c_39, c_56, c_66]), ht⟩) (fun _ h => by cases h) dX3_number_82
        · have c_56 := bI_e c_56
          refine lv_lload_n hx hb dX3_number_59 rfl (lv_at hl 0 rfl) ?_
          refine lv_goto (tgt := 82) hx hb dX3_number_60 (by decide) ?_
          exact W.lret hx hb hr (fun t ht _ => ⟨_, rfl, (by simp [anNumber, esp_j, eix_j, eix_i, epv, c_15, c_39, c_56]), ht⟩) (fun _ h => by cases h) dX3_number_82
      · have c_39 := bI_e c_39
        refine lv_lconst (v := 0) hx hb dX3_number_42 (by decide) ?_
        exact W.lret hx hb hr (fun t ht _ => ⟨_, rfl, (by simp [anNumber, esp_j, eix_j, c_15, c_39]), ht⟩) (fun _ h => by cases h) dX3_number_43
    · refine lv_aload_n hx hb dX3_number_18 rfl (lv_at hl 0 rfl) ?_
      refine mw_get (C := RX3) (T := TX3) (N := 14) F hK hW hI_X3 hR.1 rfl 1 (by decide) hl_fieldLink_RX3_13_SpliceBenchModel_labels_I rfl dX3_number_19 ?_
      refine lv_iconst (v := (-1)) hx hb dX3_number_22 (by decide) ?_
      refine lv_aload_n hx hb dX3_number_23 rfl (lv_at hl 0 rfl) ?_
      refine mw_get (C := RX3) (T := TX3) (N := 14) F hK hW hI_X3 hR.1 rfl 0 (by decide) hl_fieldLink_RX3_7_SpliceBenchModel_holds_I rfl dX3_number_24 ?_
      refine lv_iload_n hx hb dX3_number_27 rfl (lv_at hl 1 rfl) ?_
      refine mw_iald F hK hW 0 hR.2.1 rfl (vp_in_nI (show j < 10 by omega) (by omega)) dX3_number_28 ?_
      rw [nI_clamp (show j < 2 ^ 31 by omega)]
      refine lv_isub hx hb dX3_number_29 ?_
      obtain ⟨k9, hk9, e9⟩ : ∃ k, k < 10 ∧ sHo σ j = -1 - nI k := by
        rcases hI.ho hj with h0 | h0 | ⟨k, hk, h0⟩
        · rw [kOf_0 h0] at c_15; exact absurd c_15 (by decide)
        · exact h0
        · exfalso
          rw [kOf_row hk h0] at c_15
          rcases hI.kd hk (Inv.live hj h0) with h1 | h1 <;> (rw [c_15] at h1; exact absurd h1 (by decide))
      have e7 : -1 - sHo σ j = nI k9 := by rw [e9, lab_ix k9 hk9]
      rw [e7]
      refine mw_iald F hK hW 0 hR.2.2.1 rfl (vp_in_nI (show k9 < 10 by omega) (by omega)) dX3_number_30 ?_
      rw [nI_clamp (show k9 < 2 ^ 31 by omega)]
      refine lv_i2l hx hb dX3_number_31 rfl ?_
      exact W.lret hx hb hr (fun t ht _ => ⟨_, rfl, (by simp [anNumber, esp_j, eix_j, c_15, e7, nI_clamp (show k9 < 2 ^ 31 by omega)]), ht⟩) (fun _ h => by cases h) dX3_number_32
  · have c_4 := bI_e c_4
    refine lv_lconst (v := 0) hx hb dX3_number_7 (by decide) ?_
    exact W.lret hx hb hr (fun t ht _ => ⟨_, rfl, (by simp [anNumber, c_4]), ht⟩) (fun _ h => by cases h) dX3_number_8
abbrev rmX3_shown : Room := ({ frames := 3, cells := 0, slots := 0, locals := 64 } : Room)
set_option maxHeartbeats 4000000 in
set_option maxRecDepth 100000 in
theorem c_X3_shown {mm : Nat} {ad : Nat → Nat} {σ : RS} (hR : refAt cI cJ mm ad σ M) {cc : Nat} (hI : Inv σ cc) {s0 i : Int32} : Met l yX3_shown wsX3_shown rmX3_shown (va_Pc [.ref mm, .int s0, .int i] (mwPre D (tyL cI cJ cC cH) M sz)) (vp_Si (fun r => r = anShown σ s0 i)) 0 0 (fun _ => False) := by
  refine Met.ofW (cc := cX3_shown) (maxL := 3) (ret := (some .int)) (by decide) rfl ?_
  intro pr env s m args below meth c s₁ B hml hv
  obtain ⟨rfl, hsz, hW, hK, hO⟩ := hv
  have hx := B.exec
  have hb := B.bytes
  have hr := B.returns
  have hts := atoms_spec (ws := wsX3_shown) B.pre
  have hown : s.vm.findClass RX3 = some m.cls := findClass_of_methodNamed B.named
  have hlocks := B.notSynchronized
  have F : CallFix pr m c cX3_shown 3 s ([.ref mm, .int s0, .int i] : List Value).toArray wsX3_shown RX3 := ⟨hx, hb, hml, hown, hts⟩
  have hI_X3 : ∀ w ∈ wsX30, w ∈ wsX3_shown := by decide +kernel
  have hl_fieldLink_RX3_32_SpliceBenchModel_cardShown_I := hts (.fieldLink RX3 32 "SpliceBenchModel" "cardShown" "[I") (by decide +kernel)
  have hl := lv_entry ([.ref mm, .int s0, .int i]) (n := 3) (Nat.le_of_ble_eq_true rfl)
  rw [lg_entry_eq]
  generalize (lg_sl ([.ref mm, .int s0, .int i]) ++ List.replicate (3 - (lg_sl ([.ref mm, .int s0, .int i])).length) Slot.unset).toArray = ls at hl ⊢
  have hl : lv_has ls 3 [(0, .ref mm), (1, .int s0), (2, .int i)] := hl
  refine lv_iload_n hx hb dX3_shown_0 rfl (lv_at hl 1 rfl) ?_
  refine vp_callSi (W.runS (As := [.int s0]) (rest := []) F (c_X3_isSpindle) (cwS 1 hts gX3_shown_X3_isSpindle rfl rfl rfl (by decide +kernel) ⟨Nat.le_of_ble_eq_true rfl, Nat.le_of_ble_eq_true rfl⟩) (mw_prS hK hO hW) rfl rfl hl.1 rfl (lv_room (Nat.le_of_ble_eq_true rfl)) dX3_shown_1 ⟨Nat.zero_le _, Nat.zero_le _⟩) (fun r_1 er_1 => ?_)
  subst er_1
  refine lv_if_ne (tgt := 10) hx hb dX3_shown_4 (by decide) (fun c_4 => ?_) (fun c_4 => ?_)
  · obtain ⟨j, hj, rfl⟩ := isSp_of (bI_n c_4)
    have esp_j := isSp_nI hj
    have eix_j : ix (nI j) = j := nI_clamp (by omega)
    refine lv_aload_n hx hb dX3_shown_10 rfl (lv_at hl 0 rfl) ?_
    refine lv_iload_n hx hb dX3_shown_11 rfl (lv_at hl 1 rfl) ?_
    refine vp_callSi (W.runV (As := [.int (nI j)]) (rest := []) F (c_X3_isRack hR (show j < 10 by omega) (hI.ho hj)) (cwV 1 hts gX3_shown_X3_isRack rfl rfl rfl (by decide +kernel) ⟨Nat.le_of_ble_eq_true rfl, Nat.le_of_ble_eq_true rfl⟩) (mw_prV (q := (RX3, TX3, 14)) hK hO hW rfl hR.1) rfl rfl hl.1 rfl (lv_room (Nat.le_of_ble_eq_true rfl)) dX3_shown_12 ⟨Nat.zero_le _, Nat.zero_le _⟩) (fun r_2 er_2 => ?_)
    subst er_2
    refine lv_if_eq (tgt := 55) hx hb dX3_shown_15 (by decide) (fun c_15 => ?_) (fun c_15 => ?_)
    · have c_15 := bI_e c_15
      refine lv_iconst (v := (-1)) hx hb dX3_shown_55 (by decide) ?_
      exact W.iret hx hb hr (fun t ht _ => ⟨_, rfl, (by simp [anShown, esp_j, eix_j, c_15]), ht⟩) (fun _ h => by cases h) dX3_shown_56
    · have c_15 := bI_n c_15
      refine lv_aload_n hx hb dX3_shown_18 rfl (lv_at hl 0 rfl) ?_
      refine lv_iload_n hx hb dX3_shown_19 rfl (lv_at hl 1 rfl) ?_
      refine lv_iload_n hx hb dX3_shown_20 rfl (lv_at hl 2 rfl) ?_
      refine vp_callSi (W.runV (As := [.int (nI j), .int i]) (rest := []) F (c_X3_isPlace (i := i) hR (show j < 10 by omega) (hI.ho hj)) (cwV 2 hts gX3_shown_X3_isPlace rfl rfl rfl (by decide +kernel) ⟨Nat.le_of_ble_eq_true rfl, Nat.le_of_ble_eq_true rfl⟩) (mw_prV (q := (RX3, TX3, 14)) hK hO hW rfl hR.1) rfl rfl hl.1 rfl (lv_room (Nat.le_of_ble_eq_true rfl)) dX3_shown_21 ⟨Nat.zero_le _, Nat.zero_le _⟩) (fun r_3 er_3 => ?_)
      subst er_3
      refine lv_if_eq (tgt := 55) hx hb dX3_shown_24 (by decide) (fun c_24 => ?_) (fun c_24 => ?_)
      · have c_24 := bI_e c_24
        refine lv_iconst (v := (-1)) hx hb dX3_shown_55 (by decide) ?_
        exact W.iret hx hb hr (fun t ht _ => ⟨_, rfl, (by simp [anShown, esp_j, eix_j, c_15, c_24]), ht⟩) (fun _ h => by cases h) dX3_shown_56
      · have c_24 := bI_n c_24
        obtain ⟨k9, n9, i9, hk9, e9, hn9, en9, hi9, rfl⟩ := hI.place hj c_24
        have eix_i : ix (nI i9) = i9 := nI_clamp (by omega)
        have epv : pV σ j i9 = sPl σ (80 * k9 + i9) := pV_row hk9 e9
        have hrk9 : kRack (sKi σ k9) = true := by rw [← hI.rk hj hk9 e9]; exact c_15
        have hv2 := hI.v2 hj hk9 e9 hrk9 hn9 en9 hi9
        refine lv_aload_n hx hb dX3_shown_27 rfl (lv_at hl 0 rfl) ?_
        refine lv_iload_n hx hb dX3_shown_28 rfl (lv_at hl 1 rfl) ?_
        refine lv_iload_n hx hb dX3_shown_29 rfl (lv_at hl 2 rfl) ?_
        refine vp_callSl (W.runV (As := [.int (nI j), .int (nI i9)]) (rest := []) F (c_X3_place (i := i9) (k := k9) hR (show j < 10 by omega) hk9 (show i9 < 80 by omega) e9) (cwV 2 hts gX3_shown_X3_place rfl rfl rfl (by decide +kernel) ⟨Nat.le_of_ble_eq_true rfl, Nat.le_of_ble_eq_true rfl⟩) (mw_prV (q := (RX3, TX3, 14)) hK hO hW rfl hR.1) rfl rfl hl.1 rfl (lv_room (Nat.le_of_ble_eq_true rfl)) dX3_shown_30 ⟨Nat.zero_le _, Nat.zero_le _⟩) (fun r_4 er_4 => ?_)
        subst er_4
        refine lv_lconst (v := 0) hx hb dX3_shown_33 (by decide) ?_
        refine W.lcmp hx hb dX3_shown_34 ?_
        refine lv_if_eq (tgt := 55) hx hb dX3_shown_35 (by decide) (fun c_35 => ?_) (fun c_35 => ?_)
        · have c_35 := (lg_cmp_eq _ _).mp c_35
          refine lv_iconst (v := (-1)) hx hb dX3_shown_55 (by decide) ?_
          exact W.iret hx hb hr (fun t ht _ => ⟨_, rfl, (by simp [anShown, esp_j, eix_j, eix_i, epv, c_15, c_24, c_35]), ht⟩) (fun _ h => by cases h) dX3_shown_56
        · have c_35 : ¬ (_ = _) := fun h9 => c_35 ((lg_cmp_eq _ _).mpr h9)
          refine lv_aload_n hx hb dX3_shown_38 rfl (lv_at hl 0 rfl) ?_
          refine mw_get (C := RX3) (T := TX3) (N := 14) F hK hW hI_X3 hR.1 rfl 7 (by decide) hl_fieldLink_RX3_32_SpliceBenchModel_cardShown_I rfl dX3_shown_39 ?_
          refine lv_aload_n hx hb dX3_shown_42 rfl (lv_at hl 0 rfl) ?_
          refine lv_iload_n hx hb dX3_shown_43 rfl (lv_at hl 1 rfl) ?_
          refine lv_iload_n hx hb dX3_shown_44 rfl (lv_at hl 2 rfl) ?_
          refine vp_callSl (W.runV (As := [.int (nI j), .int (nI i9)]) (rest := [.ref (ad 7)]) F (c_X3_place (i := i9) (k := k9) hR (show j < 10 by omega) hk9 (show i9 < 80 by omega) e9) (cwV 2 hts gX3_shown_X3_place rfl rfl rfl (by decide +kernel) ⟨Nat.le_of_ble_eq_true rfl, Nat.le_of_ble_eq_true rfl⟩) (mw_prV (q := (RX3, TX3, 14)) hK hO hW rfl hR.1) rfl rfl hl.1 rfl (lv_room (Nat.le_of_ble_eq_true rfl)) dX3_shown_45 ⟨Nat.zero_le _, Nat.zero_le _⟩) (fun r_5 er_5 => ?_)
          subst er_5
          refine lv_l2i hx hb dX3_shown_48 rfl ?_
          refine lv_iconst (v := 1) hx hb dX3_shown_49 (by decide) ?_
          refine lv_isub hx hb dX3_shown_50 ?_
          obtain ⟨c9, hc9, e8⟩ := hv2.resolve_left c_35
          rw [show (sPl σ (80 * k9 + i9)).toInt32 - 1 = nI c9 by rw [e8, lN_i, nI_pred]]
          refine mw_iald F hK hW 0 hR.2.2.2.2.2.2.2.2.1 rfl (vp_in_nI (show c9 < 2000 by omega) (by omega)) dX3_shown_51 ?_
          rw [nI_clamp (show c9 < 2 ^ 31 by omega)]
          refine lv_goto (tgt := 56) hx hb dX3_shown_52 (by decide) ?_
          exact W.iret hx hb hr (fun t ht _ => ⟨_, rfl, (by simp only [anShown, esp_j, eix_j, c_15, c_24, eix_i, epv, not_false_eq_true, c_35, and_self, if_true]; rw [e8, cIx_lN hc9]), ht⟩) (fun _ h => by cases h) dX3_shown_56
  · have c_4 := bI_e c_4
    refine lv_bipush (v := (-9)) hx hb dX3_shown_7 (by decide) ?_
    exact W.iret hx hb hr (fun t ht _ => ⟨_, rfl, (by simp [anShown, c_4]), ht⟩) (fun _ h => by cases h) dX3_shown_9
abbrev rmX3_same : Room := ({ frames := 3, cells := 0, slots := 0, locals := 64 } : Room)
set_option maxHeartbeats 4000000 in
set_option maxRecDepth 100000 in
theorem c_X3_same {mm : Nat} {ad : Nat → Nat} {σ : RS} (hR : refAt cI cJ mm ad σ M) {cc : Nat} (hI : Inv σ cc) {s0 i t0 i2 : Int32} : Met l yX3_same wsX3_same rmX3_same (va_Pc [.ref mm, .int s0, .int i, .int t0, .int i2] (mwPre D (tyL cI cJ cC cH) M sz)) (vp_Si (fun r => r = anSame σ s0 i t0 i2)) 0 0 (fun _ => False) := by
  refine Met.ofW (cc := cX3_same) (maxL := 5) (ret := (some .int)) (by decide) rfl ?_
  intro pr env s m args below meth c s₁ B hml hv
  obtain ⟨rfl, hsz, hW, hK, hO⟩ := hv
  have hx := B.exec
  have hb := B.bytes
  have hr := B.returns
  have hts := atoms_spec (ws := wsX3_same) B.pre
  have hown : s.vm.findClass RX3 = some m.cls := findClass_of_methodNamed B.named
  have hlocks := B.notSynchronized
  have F : CallFix pr m c cX3_same 5 s ([.ref mm, .int s0, .int i, .int t0, .int i2] : List Value).toArray wsX3_same RX3 := ⟨hx, hb, hml, hown, hts⟩
  have hI_X3 : ∀ w ∈ wsX30, w ∈ wsX3_same := by decide +kernel
  have hl_fieldLink_RX3_7_SpliceBenchModel_holds_I := hts (.fieldLink RX3 7 "SpliceBenchModel" "holds" "[I") (by decide +kernel)
  have hl := lv_entry ([.ref mm, .int s0, .int i, .int t0, .int i2]) (n := 5) (Nat.le_of_ble_eq_true rfl)
  rw [lg_entry_eq]
  generalize (lg_sl ([.ref mm, .int s0, .int i, .int t0, .int i2]) ++ List.replicate (5 - (lg_sl ([.ref mm, .int s0, .int i, .int t0, .int i2])).length) Slot.unset).toArray = ls at hl ⊢
  have hl : lv_has ls 5 [(0, .ref mm), (1, .int s0), (2, .int i), (3, .int t0), (4, .int i2)] := hl
  refine lv_iload_n hx hb dX3_same_0 rfl (lv_at hl 1 rfl) ?_
  refine vp_callSi (W.runS (As := [.int s0]) (rest := []) F (c_X3_isSpindle) (cwS 1 hts gX3_same_X3_isSpindle rfl rfl rfl (by decide +kernel) ⟨Nat.le_of_ble_eq_true rfl, Nat.le_of_ble_eq_true rfl⟩) (mw_prS hK hO hW) rfl rfl hl.1 rfl (lv_room (Nat.le_of_ble_eq_true rfl)) dX3_same_1 ⟨Nat.zero_le _, Nat.zero_le _⟩) (fun r_1 er_1 => ?_)
  subst er_1
  refine lv_if_eq (tgt := 14) hx hb dX3_same_4 (by decide) (fun c_4 => ?_) (fun c_4 => ?_)
  · have c_4 := bI_e c_4
    refine lv_bipush (v := (-9)) hx hb dX3_same_14 (by decide) ?_
    exact W.iret hx hb hr (fun t ht _ => ⟨_, rfl, (by simp [anSame, c_4]), ht⟩) (fun _ h => by cases h) dX3_same_16
  · obtain ⟨j, hj, rfl⟩ := isSp_of (bI_n c_4)
    have esp_j := isSp_nI hj
    have eix_j : ix (nI j) = j := nI_clamp (by omega)
    refine lv_iload_n hx hb dX3_same_7 rfl (lv_at hl 3 rfl) ?_
    refine vp_callSi (W.runS (As := [.int t0]) (rest := []) F (c_X3_isSpindle) (cwS 1 hts gX3_same_X3_isSpindle rfl rfl rfl (by decide +kernel) ⟨Nat.le_of_ble_eq_true rfl, Nat.le_of_ble_eq_true rfl⟩) (mw_prS hK hO hW) rfl rfl hl.1 rfl (lv_room (Nat.le_of_ble_eq_true rfl)) dX3_same_8 ⟨Nat.zero_le _, Nat.zero_le _⟩) (fun r_2 er_2 => ?_)
    subst er_2
    refine lv_if_ne (tgt := 17) hx hb dX3_same_11 (by decide) (fun c_11 => ?_) (fun c_11 => ?_)
    · obtain ⟨j2, hj2, rfl⟩ := isSp_of (bI_n c_11)
      have esp_j2 := isSp_nI hj2
      have eix_j2 : ix (nI j2) = j2 := nI_clamp (by omega)
      refine lv_iload_n hx hb dX3_same_17 rfl (lv_at hl 2 rfl) ?_
      refine lv_if_ge (tgt := 56) hx hb dX3_same_18 (by decide) (fun c_18 => ?_) (fun c_18 => ?_)
      · have c_18 := Int32.not_lt.mpr c_18
        refine lv_aload_n hx hb dX3_same_56 rfl (lv_at hl 0 rfl) ?_
        refine lv_iload_n hx hb dX3_same_57 rfl (lv_at hl 1 rfl) ?_
        refine vp_callSi (W.runV (As := [.int (nI j)]) (rest := []) F (c_X3_isRack hR (show j < 10 by omega) (hI.ho hj)) (cwV 1 hts gX3_same_X3_isRack rfl rfl rfl (by decide +kernel) ⟨Nat.le_of_ble_eq_true rfl, Nat.le_of_ble_eq_true rfl⟩) (mw_prV (q := (RX3, TX3, 14)) hK hO hW rfl hR.1) rfl rfl hl.1 rfl (lv_room (Nat.le_of_ble_eq_true rfl)) dX3_same_58 ⟨Nat.zero_le _, Nat.zero_le _⟩) (fun r_3 er_3 => ?_)
        subst er_3
        refine lv_if_eq (tgt := 91) hx hb dX3_same_61 (by decide) (fun c_61 => ?_) (fun c_61 => ?_)
        · have c_61 := bI_e c_61
          refine lv_iconst (v := 0) hx hb dX3_same_91 (by decide) ?_
          exact W.iret hx hb hr (fun t ht _ => ⟨_, rfl, (by simp [anSame, esp_j, esp_j2, eix_j, eix_j2, c_18, c_61]), ht⟩) (fun _ h => by cases h) dX3_same_92
        · have c_61 := bI_n c_61
          refine lv_aload_n hx hb dX3_same_64 rfl (lv_at hl 0 rfl) ?_
          refine lv_iload_n hx hb dX3_same_65 rfl (lv_at hl 3 rfl) ?_
          refine vp_callSi (W.runV (As := [.int (nI j2)]) (rest := []) F (c_X3_isRack hR (show j2 < 10 by omega) (hI.ho hj2)) (cwV 1 hts gX3_same_X3_isRack rfl rfl rfl (by decide +kernel) ⟨Nat.le_of_ble_eq_true rfl, Nat.le_of_ble_eq_true rfl⟩) (mw_prV (q := (RX3, TX3, 14)) hK hO hW rfl hR.1) rfl rfl hl.1 rfl (lv_room (Nat.le_of_ble_eq_true rfl)) dX3_same_66 ⟨Nat.zero_le _, Nat.zero_le _⟩) (fun r_4 er_4 => ?_)
          subst er_4
          refine lv_if_eq (tgt := 91) hx hb dX3_same_69 (by decide) (fun c_69 => ?_) (fun c_69 => ?_)
          · have c_69 := bI_e c_69
            refine lv_iconst (v := 0) hx hb dX3_same_91 (by decide) ?_
            exact W.iret hx hb hr (fun t ht _ => ⟨_, rfl, (by simp [anSame, esp_j, esp_j2, eix_j, eix_j2, c_18, c_61, c_69]), ht⟩) (fun _ h => by cases h) dX3_same_92
          · have c_69 := bI_n c_69
            refine lv_aload_n hx hb dX3_same_72 rfl (lv_at hl 0 rfl) ?_
            refine lv_iload_n hx hb dX3_same_73 rfl (lv_at hl 1 rfl) ?_
            refine lv_iload_n hx hb dX3_same_74 rfl (lv_at hl 2 rfl) ?_
            refine vp_callSi (W.runV (As := [.int (nI j), .int i]) (rest := []) F (c_X3_isPlace (i := i) hR (show j < 10 by omega) (hI.ho hj)) (cwV 2 hts gX3_same_X3_isPlace rfl rfl rfl (by decide +kernel) ⟨Nat.le_of_ble_eq_true rfl, Nat.le_of_ble_eq_true rfl⟩) (mw_prV (q := (RX3, TX3, 14)) hK hO hW rfl hR.1) rfl rfl hl.1 rfl (lv_room (Nat.le_of_ble_eq_true rfl)) dX3_same_75 ⟨Nat.zero_le _, Nat.zero_le _⟩) (fun r_5 er_5 => ?_)
            subst er_5
            refine lv_if_eq (tgt := 91) hx hb dX3_same_78 (by decide) (fun c_78 => ?_) (fun c_78 => ?_)
            · have c_78 := bI_e c_78
              refine lv_iconst (v := 0) hx hb dX3_same_91 (by decide) ?_
              exact W.iret hx hb hr (fun t ht _ => ⟨_, rfl, (by simp [anSame, esp_j, esp_j2, eix_j, eix_j2, c_18, c_61, c_69, c_78]), ht⟩) (fun _ h => by cases h) dX3_same_92
            · have c_78 := bI_n c_78
              obtain ⟨k9, n9, i9, hk9, e9, hn9, en9, hi9, rfl⟩ := hI.place hj c_78
              have eix_i : ix (nI i9) = i9 := nI_clamp (by omega)
              have epv : pV σ j i9 = sPl σ (80 * k9 + i9) := pV_row hk9 e9
              refine lv_aload_n hx hb dX3_same_81 rfl (lv_at hl 0 rfl) ?_
              refine lv_iload_n hx hb dX3_same_82 rfl (lv_at hl 3 rfl) ?_
              refine lv_iload hx hb dX3_same_83 (lv_at hl 4 rfl) ?_
              refine vp_callSi (W.runV (As := [.int (nI j2), .int i2]) (rest := []) F (c_X3_isPlace (i := i2) hR (show j2 < 10 by omega) (hI.ho hj2)) (cwV 2 hts gX3_same_X3_isPlace rfl rfl rfl (by decide +kernel) ⟨Nat.le_of_ble_eq_true rfl, Nat.le_of_ble_eq_true rfl⟩) (mw_prV (q := (RX3, TX3, 14)) hK hO hW rfl hR.1) rfl rfl hl.1 rfl (lv_room (Nat.le_of_ble_eq_true rfl)) dX3_same_85 ⟨Nat.zero_le _, Nat.zero_le _⟩) (fun r_6 er_6 => ?_)
              subst er_6
              refine lv_if_ne (tgt := 93) hx hb dX3_same_88 (by decide) (fun c_88 => ?_) (fun c_88 => ?_)
              · have c_88 := bI_n c_88
                obtain ⟨k8, n8, i8, hk8, e8, hn8, en8, hi8, rfl⟩ := hI.place hj2 c_88
                have eix_i2 : ix (nI i8) = i8 := nI_clamp (by omega)
                have epv2 : pV σ j2 i8 = sPl σ (80 * k8 + i8) := pV_row hk8 e8
                refine lv_aload_n hx hb dX3_same_93 rfl (lv_at hl 0 rfl) ?_
                refine lv_iload_n hx hb dX3_same_94 rfl (lv_at hl 1 rfl) ?_
                refine lv_iload_n hx hb dX3_same_95 rfl (lv_at hl 2 rfl) ?_
                refine vp_callSl (W.runV (As := [.int (nI j), .int (nI i9)]) (rest := []) F (c_X3_place (i := i9) (k := k9) hR (show j < 10 by omega) hk9 (show i9 < 80 by omega) e9) (cwV 2 hts gX3_same_X3_place rfl rfl rfl (by decide +kernel) ⟨Nat.le_of_ble_eq_true rfl, Nat.le_of_ble_eq_true rfl⟩) (mw_prV (q := (RX3, TX3, 14)) hK hO hW rfl hR.1) rfl rfl hl.1 rfl (lv_room (Nat.le_of_ble_eq_true rfl)) dX3_same_96 ⟨Nat.zero_le _, Nat.zero_le _⟩) (fun r_7 er_7 => ?_)
                subst er_7
                refine lv_lconst (v := 0) hx hb dX3_same_99 (by decide) ?_
                refine W.lcmp hx hb dX3_same_100 ?_
                refine lv_if_eq (tgt := 125) hx hb dX3_same_101 (by decide) (fun c_101 => ?_) (fun c_101 => ?_)
                · have c_101 := (lg_cmp_eq _ _).mp c_101
                  refine lv_iconst (v := 0) hx hb dX3_same_125 (by decide) ?_
                  exact W.iret hx hb hr (fun t ht _ => ⟨_, rfl, (by simp [anSame, esp_j, esp_j2, eix_j, eix_j2, eix_i, epv, eix_i2, epv2, c_18, c_61, c_69, c_78, c_88, c_101]), ht⟩) (fun _ h => by cases h) dX3_same_126
                · have c_101 : ¬ (_ = _) := fun h9 => c_101 ((lg_cmp_eq _ _).mpr h9)
                  refine lv_aload_n hx hb dX3_same_104 rfl (lv_at hl 0 rfl) ?_
                  refine lv_iload_n hx hb dX3_same_105 rfl (lv_at hl 1 rfl) ?_
                  refine lv_iload_n hx hb dX3_same_106 rfl (lv_at hl 2 rfl) ?_
                  refine vp_callSl (W.runV (As := [.int (nI j), .int (nI i9)]) (rest := []) F (c_X3_place (i := i9) (k := k9) hR (show j < 10 by omega) hk9 (show i9 < 80 by omega) e9) (cwV 2 hts gX3_same_X3_place rfl rfl rfl (by decide +kernel) ⟨Nat.le_of_ble_eq_true rfl, Nat.le_of_ble_eq_true rfl⟩) (mw_prV (q := (RX3, TX3, 14)) hK hO hW rfl hR.1) rfl rfl hl.1 rfl (lv_room (Nat.le_of_ble_eq_true rfl)) dX3_same_107 ⟨Nat.zero_le _, Nat.zero_le _⟩) (fun r_8 er_8 => ?_)
                  subst er_8
                  refine lv_aload_n hx hb dX3_same_110 rfl (lv_at hl 0 rfl) ?_
                  refine lv_iload_n hx hb dX3_same_111 rfl (lv_at hl 3 rfl) ?_
                  refine lv_iload hx hb dX3_same_112 (lv_at hl 4 rfl) ?_
                  refine vp_callSl (W.runV (As := [.int (nI j2), .int (nI i8)]) (rest := [.long (sPl σ (80 * k9 + i9))]) F (c_X3_place (i := i8) (k := k8) hR (show j2 < 10 by omega) hk8 (show i8 < 80 by omega) e8) (cwV 2 hts gX3_same_X3_place rfl rfl rfl (by decide +kernel) ⟨Nat.le_of_ble_eq_true rfl, Nat.le_of_ble_eq_true rfl⟩) (mw_prV (q := (RX3, TX3, 14)) hK hO hW rfl hR.1) rfl rfl hl.1 rfl (lv_room (Nat.le_of_ble_eq_true rfl)) dX3_same_114 ⟨Nat.zero_le _, Nat.zero_le _⟩) (fun r_9 er_9 => ?_)
                  subst er_9
                  refine W.lcmp hx hb dX3_same_117 ?_
                  refine lv_if_ne (tgt := 125) hx hb dX3_same_118 (by decide) (fun c_118 => ?_) (fun c_118 => ?_)
                  · have c_118 : ¬ (_ = _) := fun h9 => c_118 ((lg_cmp_eq _ _).mpr h9)
                    refine lv_iconst (v := 0) hx hb dX3_same_125 (by decide) ?_
                    exact W.iret hx hb hr (fun t ht _ => ⟨_, rfl, (by simp [anSame, esp_j, esp_j2, eix_j, eix_j2, eix_i, epv, eix_i2, epv2, c_18, c_61, c_69, c_78, c_88, c_101, c_118]), ht⟩) (fun _ h => by cases h) dX3_same_126
                  · have c_118 := (lg_cmp_eq _ _).mp c_118
                    refine lv_iconst (v := 1) hx hb dX3_same_121 (by decide) ?_
                    refine lv_goto (tgt := 126) hx hb dX3_same_122 (by decide) ?_
                    exact W.iret hx hb hr (fun t ht _ => ⟨_, rfl, (by simp [anSame, esp_j, esp_j2, eix_j, eix_j2, eix_i, epv, eix_i2, epv2, c_18, c_61, c_69, c_78, c_88, c_101, c_118]; exact fun z => c_101 (c_118.trans z)), ht⟩) (fun _ h => by cases h) dX3_same_126
              · have c_88 := bI_e c_88
                refine lv_iconst (v := 0) hx hb dX3_same_91 (by decide) ?_
                exact W.iret hx hb hr (fun t ht _ => ⟨_, rfl, (by simp [anSame, esp_j, esp_j2, eix_j, eix_j2, eix_i, epv, c_18, c_61, c_69, c_78, c_88]), ht⟩) (fun _ h => by cases h) dX3_same_92
      · have c_18 := Int32.not_le.mp c_18
        refine lv_iload hx hb dX3_same_21 (lv_at hl 4 rfl) ?_
        refine lv_if_ge (tgt := 56) hx hb dX3_same_23 (by decide) (fun c_23 => ?_) (fun c_23 => ?_)
        · have c_23 := Int32.not_lt.mpr c_23
          refine lv_aload_n hx hb dX3_same_56 rfl (lv_at hl 0 rfl) ?_
          refine lv_iload_n hx hb dX3_same_57 rfl (lv_at hl 1 rfl) ?_
          refine vp_callSi (W.runV (As := [.int (nI j)]) (rest := []) F (c_X3_isRack hR (show j < 10 by omega) (hI.ho hj)) (cwV 1 hts gX3_same_X3_isRack rfl rfl rfl (by decide +kernel) ⟨Nat.le_of_ble_eq_true rfl, Nat.le_of_ble_eq_true rfl⟩) (mw_prV (q := (RX3, TX3, 14)) hK hO hW rfl hR.1) rfl rfl hl.1 rfl (lv_room (Nat.le_of_ble_eq_true rfl)) dX3_same_58 ⟨Nat.zero_le _, Nat.zero_le _⟩) (fun r_10 er_10 => ?_)
          subst er_10
          refine lv_if_eq (tgt := 91) hx hb dX3_same_61 (by decide) (fun c_61 => ?_) (fun c_61 => ?_)
          · have c_61 := bI_e c_61
            refine lv_iconst (v := 0) hx hb dX3_same_91 (by decide) ?_
            exact W.iret hx hb hr (fun t ht _ => ⟨_, rfl, (by simp [anSame, esp_j, esp_j2, eix_j, eix_j2, c_18, c_23, c_61]), ht⟩) (fun _ h => by cases h) dX3_same_92
          · have c_61 := bI_n c_61
            refine lv_aload_n hx hb dX3_same_64 rfl (lv_at hl 0 rfl) ?_
            refine lv_iload_n hx hb dX3_same_65 rfl (lv_at hl 3 rfl) ?_
            refine vp_callSi (W.runV (As := [.int (nI j2)]) (rest := []) F (c_X3_isRack hR (show j2 < 10 by omega) (hI.ho hj2)) (cwV 1 hts gX3_same_X3_isRack rfl rfl rfl (by decide +kernel) ⟨Nat.le_of_ble_eq_true rfl, Nat.le_of_ble_eq_true rfl⟩) (mw_prV (q := (RX3, TX3, 14)) hK hO hW rfl hR.1) rfl rfl hl.1 rfl (lv_room (Nat.le_of_ble_eq_true rfl)) dX3_same_66 ⟨Nat.zero_le _, Nat.zero_le _⟩) (fun r_11 er_11 => ?_)
            subst er_11
            refine lv_if_eq (tgt := 91) hx hb dX3_same_69 (by decide) (fun c_69 => ?_) (fun c_69 => ?_)
            · have c_69 := bI_e c_69
              refine lv_iconst (v := 0) hx hb dX3_same_91 (by decide) ?_
              exact W.iret hx hb hr (fun t ht _ => ⟨_, rfl, (by simp [anSame, esp_j, esp_j2, eix_j, eix_j2, c_18, c_23, c_61, c_69]), ht⟩) (fun _ h => by cases h) dX3_same_92
            · have c_69 := bI_n c_69
              refine lv_aload_n hx hb dX3_same_72 rfl (lv_at hl 0 rfl) ?_
              refine lv_iload_n hx hb dX3_same_73 rfl (lv_at hl 1 rfl) ?_
              refine lv_iload_n hx hb dX3_same_74 rfl (lv_at hl 2 rfl) ?_
              refine vp_callSi (W.runV (As := [.int (nI j), .int i]) (rest := []) F (c_X3_isPlace (i := i) hR (show j < 10 by omega) (hI.ho hj)) (cwV 2 hts gX3_same_X3_isPlace rfl rfl rfl (by decide +kernel) ⟨Nat.le_of_ble_eq_true rfl, Nat.le_of_ble_eq_true rfl⟩) (mw_prV (q := (RX3, TX3, 14)) hK hO hW rfl hR.1) rfl rfl hl.1 rfl (lv_room (Nat.le_of_ble_eq_true rfl)) dX3_same_75 ⟨Nat.zero_le _, Nat.zero_le _⟩) (fun r_12 er_12 => ?_)
              subst er_12
              refine lv_if_eq (tgt := 91) hx hb dX3_same_78 (by decide) (fun c_78 => ?_) (fun c_78 => ?_)
              · have c_78 := bI_e c_78
                refine lv_iconst (v := 0) hx hb dX3_same_91 (by decide) ?_
                exact W.iret hx hb hr (fun t ht _ => ⟨_, rfl, (by simp [anSame, esp_j, esp_j2, eix_j, eix_j2, c_18, c_23, c_61, c_69, c_78]), ht⟩) (fun _ h => by cases h) dX3_same_92
              · have c_78 := bI_n c_78
                obtain ⟨k9, n9, i9, hk9, e9, hn9, en9, hi9, rfl⟩ := hI.place hj c_78
                have eix_i : ix (nI i9) = i9 := nI_clamp (by omega)
                have epv : pV σ j i9 = sPl σ (80 * k9 + i9) := pV_row hk9 e9
                refine lv_aload_n hx hb dX3_same_81 rfl (lv_at hl 0 rfl) ?_
                refine lv_iload_n hx hb dX3_same_82 rfl (lv_at hl 3 rfl) ?_
                refine lv_iload hx hb dX3_same_83 (lv_at hl 4 rfl) ?_
                refine vp_callSi (W.runV (As := [.int (nI j2), .int i2]) (rest := []) F (c_X3_isPlace (i := i2) hR (show j2 < 10 by omega) (hI.ho hj2)) (cwV 2 hts gX3_same_X3_isPlace rfl rfl rfl (by decide +kernel) ⟨Nat.le_of_ble_eq_true rfl, Nat.le_of_ble_eq_true rfl⟩) (mw_prV (q := (RX3, TX3, 14)) hK hO hW rfl hR.1) rfl rfl hl.1 rfl (lv_room (Nat.le_of_ble_eq_true rfl)) dX3_same_85 ⟨Nat.zero_le _, Nat.zero_le _⟩) (fun r_13 er_13 => ?_)
                subst er_13
                refine lv_if_ne (tgt := 93) hx hb dX3_same_88 (by decide) (fun c_88 => ?_) (fun c_88 => ?_)
                · have c_88 := bI_n c_88
                  obtain ⟨k8, n8, i8, hk8, e8, hn8, en8, hi8, rfl⟩ := hI.place hj2 c_88
                  have eix_i2 : ix (nI i8) = i8 := nI_clamp (by omega)
                  have epv2 : pV σ j2 i8 = sPl σ (80 * k8 + i8) := pV_row hk8 e8
                  refine lv_aload_n hx hb dX3_same_93 rfl (lv_at hl 0 rfl) ?_
                  refine lv_iload_n hx hb dX3_same_94 rfl (lv_at hl 1 rfl) ?_
                  refine lv_iload_n hx hb dX3_same_95 rfl (lv_at hl 2 rfl) ?_
                  refine vp_callSl (W.runV (As := [.int (nI j), .int (nI i9)]) (rest := []) F (c_X3_place (i := i9) (k := k9) hR (show j < 10 by omega) hk9 (show i9 < 80 by omega) e9) (cwV 2 hts gX3_same_X3_place rfl rfl rfl (by decide +kernel) ⟨Nat.le_of_ble_eq_true rfl, Nat.le_of_ble_eq_true rfl⟩) (mw_prV (q := (RX3, TX3, 14)) hK hO hW rfl hR.1) rfl rfl hl.1 rfl (lv_room (Nat.le_of_ble_eq_true rfl)) dX3_same_96 ⟨Nat.zero_le _, Nat.zero_le _⟩) (fun r_14 er_14 => ?_)
                  subst er_14
                  refine lv_lconst (v := 0) hx hb dX3_same_99 (by decide) ?_
                  refine W.lcmp hx hb dX3_same_100 ?_
                  refine lv_if_eq (tgt := 125) hx hb dX3_same_101 (by decide) (fun c_101 => ?_) (fun c_101 => ?_)
                  · have c_101 := (lg_cmp_eq _ _).mp c_101
                    refine lv_iconst (v := 0) hx hb dX3_same_125 (by decide) ?_
                    exact W.iret hx hb hr (fun t ht _ => ⟨_, rfl, (by simp [anSame, esp_j, esp_j2, eix_j, eix_j2, eix_i, epv, eix_i2, epv2, c_18, c_23, c_61, c_69, c_78, c_88, c_101]), ht⟩) (fun _ h => by cases h) dX3_same_126
                  · have c_101 : ¬ (_ = _) := fun h9 => c_101 ((lg_cmp_eq _ _).mpr h9)
                    refine lv_aload_n hx hb dX3_same_104 rfl (lv_at hl 0 rfl) ?_
                    refine lv_iload_n hx hb dX3_same_105 rfl (lv_at hl 1 rfl) ?_
                    refine lv_iload_n hx hb dX3_same_106 rfl (lv_at hl 2 rfl) ?_
                    refine vp_callSl (W.runV (As := [.int (nI j), .int (nI i9)]) (rest := []) F (c_X3_place (i := i9) (k := k9) hR (show j < 10 by omega) hk9 (show i9 < 80 by omega) e9) (cwV 2 hts gX3_same_X3_place rfl rfl rfl (by decide +kernel) ⟨Nat.le_of_ble_eq_true rfl, Nat.le_of_ble_eq_true rfl⟩) (mw_prV (q := (RX3, TX3, 14)) hK hO hW rfl hR.1) rfl rfl hl.1 rfl (lv_room (Nat.le_of_ble_eq_true rfl)) dX3_same_107 ⟨Nat.zero_le _, Nat.zero_le _⟩) (fun r_15 er_15 => ?_)
                    subst er_15
                    refine lv_aload_n hx hb dX3_same_110 rfl (lv_at hl 0 rfl) ?_
                    refine lv_iload_n hx hb dX3_same_111 rfl (lv_at hl 3 rfl) ?_
                    refine lv_iload hx hb dX3_same_112 (lv_at hl 4 rfl) ?_
                    refine vp_callSl (W.runV (As := [.int (nI j2), .int (nI i8)]) (rest := [.long (sPl σ (80 * k9 + i9))]) F (c_X3_place (i := i8) (k := k8) hR (show j2 < 10 by omega) hk8 (show i8 < 80 by omega) e8) (cwV 2 hts gX3_same_X3_place rfl rfl rfl (by decide +kernel) ⟨Nat.le_of_ble_eq_true rfl, Nat.le_of_ble_eq_true rfl⟩) (mw_prV (q := (RX3, TX3, 14)) hK hO hW rfl hR.1) rfl rfl hl.1 rfl (lv_room (Nat.le_of_ble_eq_true rfl)) dX3_same_114 ⟨Nat.zero_le _, Nat.zero_le _⟩) (fun r_16 er_16 => ?_)
                    subst er_16
                    refine W.lcmp hx hb dX3_same_117 ?_
                    refine lv_if_ne (tgt := 125) hx hb dX3_same_118 (by decide) (fun c_118 => ?_) (fun c_118 => ?_)
                    · have c_118 : ¬ (_ = _) := fun h9 => c_118 ((lg_cmp_eq _ _).mpr h9)
                      refine lv_iconst (v := 0) hx hb dX3_same_125 (by decide) ?_
                      exact W.iret hx hb hr (fun t ht _ => ⟨_, rfl, (by simp [anSame, esp_j, esp_j2, eix_j, eix_j2, eix_i, epv, eix_i2, epv2, c_18, c_23, c_61, c_69, c_78, c_88, c_101, c_118]), ht⟩) (fun _ h => by cases h) dX3_same_126
                    · have c_118 := (lg_cmp_eq _ _).mp c_118
                      refine lv_iconst (v := 1) hx hb dX3_same_121 (by decide) ?_
                      refine lv_goto (tgt := 126) hx hb dX3_same_122 (by decide) ?_
                      exact W.iret hx hb hr (fun t ht _ => ⟨_, rfl, (by simp [anSame, esp_j, esp_j2, eix_j, eix_j2, eix_i, epv, eix_i2, epv2, c_18, c_23, c_61, c_69, c_78, c_88, c_101, c_118]; exact fun z => c_101 (c_118.trans z)), ht⟩) (fun _ h => by cases h) dX3_same_126
                · have c_88 := bI_e c_88
                  refine lv_iconst (v := 0) hx hb dX3_same_91 (by decide) ?_
                  exact W.iret hx hb hr (fun t ht _ => ⟨_, rfl, (by simp [anSame, esp_j, esp_j2, eix_j, eix_j2, eix_i, epv, c_18, c_23, c_61, c_69, c_78, c_88]), ht⟩) (fun _ h => by cases h) dX3_same_92
        · have c_23 := Int32.not_le.mp c_23
          refine lv_aload_n hx hb dX3_same_26 rfl (lv_at hl 0 rfl) ?_
          refine mw_get (C := RX3) (T := TX3) (N := 14) F hK hW hI_X3 hR.1 rfl 0 (by decide) hl_fieldLink_RX3_7_SpliceBenchModel_holds_I rfl dX3_same_27 ?_
          refine lv_iload_n hx hb dX3_same_30 rfl (lv_at hl 1 rfl) ?_
          refine mw_iald F hK hW 0 hR.2.1 rfl (vp_in_nI (show j < 10 by omega) (by omega)) dX3_same_31 ?_
          rw [nI_clamp (show j < 2 ^ 31 by omega)]
          refine lv_if_eq (tgt := 54) hx hb dX3_same_32 (by decide) (fun c_32 => ?_) (fun c_32 => ?_)
          · refine lv_iconst (v := 0) hx hb dX3_same_54 (by decide) ?_
            exact W.iret hx hb hr (fun t ht _ => ⟨_, rfl, (by simp [anSame, esp_j, esp_j2, eix_j, eix_j2, c_18, c_23, c_32]), ht⟩) (fun _ h => by cases h) dX3_same_55
          · refine lv_aload_n hx hb dX3_same_35 rfl (lv_at hl 0 rfl) ?_
            refine mw_get (C := RX3) (T := TX3) (N := 14) F hK hW hI_X3 hR.1 rfl 0 (by decide) hl_fieldLink_RX3_7_SpliceBenchModel_holds_I rfl dX3_same_36 ?_
            refine lv_iload_n hx hb dX3_same_39 rfl (lv_at hl 1 rfl) ?_
            refine mw_iald F hK hW 0 hR.2.1 rfl (vp_in_nI (show j < 10 by omega) (by omega)) dX3_same_40 ?_
            rw [nI_clamp (show j < 2 ^ 31 by omega)]
            refine lv_aload_n hx hb dX3_same_41 rfl (lv_at hl 0 rfl) ?_
            refine mw_get (C := RX3) (T := TX3) (N := 14) F hK hW hI_X3 hR.1 rfl 0 (by decide) hl_fieldLink_RX3_7_SpliceBenchModel_holds_I rfl dX3_same_42 ?_
            refine lv_iload_n hx hb dX3_same_45 rfl (lv_at hl 3 rfl) ?_
            refine mw_iald F hK hW 0 hR.2.1 rfl (vp_in_nI (show j2 < 10 by omega) (by omega)) dX3_same_46 ?_
            rw [nI_clamp (show j2 < 2 ^ 31 by omega)]
            refine lv_icmp_ne (tgt := 54) hx hb dX3_same_47 (by decide) (fun c_47 => ?_) (fun c_47 => ?_)
            · refine lv_iconst (v := 0) hx hb dX3_same_54 (by decide) ?_
              exact W.iret hx hb hr (fun t ht _ => ⟨_, rfl, (by simp [anSame, esp_j, esp_j2, eix_j, eix_j2, c_18, c_23, c_32, c_47]), ht⟩) (fun _ h => by cases h) dX3_same_55
            · refine lv_iconst (v := 1) hx hb dX3_same_50 (by decide) ?_
              refine lv_goto (tgt := 55) hx hb dX3_same_51 (by decide) ?_
              exact W.iret hx hb hr (fun t ht _ => ⟨_, rfl, (by simp [anSame, esp_j, esp_j2, eix_j, eix_j2, c_18, c_23, c_32, c_47]; exact fun z => c_32 (c_47.trans z)), ht⟩) (fun _ h => by cases h) dX3_same_55
    · have c_11 := bI_e c_11
      refine lv_bipush (v := (-9)) hx hb dX3_same_14 (by decide) ?_
      exact W.iret hx hb hr (fun t ht _ => ⟨_, rfl, (by simp [anSame, esp_j, c_11]), ht⟩) (fun _ h => by cases h) dX3_same_16
end X3A
end
section
section X3D
variable {l : Launch} {D : va_G} {cI cJ cC cH : ClassId} {M : Nat → Option va_E} {sz : Nat}
theorem cpy_s {α : Type} (f g : Nat → α) (sp dp n : Nat) : va_up (va_cpy f g sp dp n) (dp + n) (f (sp + n)) = va_cpy f g sp dp (n + 1) := by
  funext x
  unfold va_up va_cpy
  by_cases hx : x = dp + n
  · subst hx
    rw [if_pos rfl, if_pos (by omega), show dp + n - dp = n by omega]
  · rw [if_neg hx]
    by_cases h : dp ≤ x ∧ x < dp + n
    · rw [if_pos h, if_pos (by omega)]
    · rw [if_neg h, if_neg (by omega)]
theorem cpy_sL (f g : Nat → Int64) (sp dp n : Nat) : vp_updL (va_cpy f g sp dp n) (dp + n) (f (sp + n)) = va_cpy f g sp dp (n + 1) := cpy_s f g sp dp n
theorem cpy_0 {α : Type} (f g : Nat → α) (sp dp : Nat) : va_cpy f g sp dp 0 = g := by
  funext x
  unfold va_cpy
  rw [if_neg (by omega)]
theorem refAt.to {cI cJ : ClassId} {mm : Nat} {ad : Nat → Nat} {σ σ' : RS} {M : Nat → Option va_E} (h : refAt cI cJ mm ad σ M) (e : σ = σ') : refAt cI cJ mm ad σ' M := e ▸ h
def rfFails (σ : RS) (t : Nat) : RS := wCam (wFa σ (upd (sFa σ) t (sFa σ t + 1))) 0
def rfCover (σ : RS) (k n : Nat) : RS := wWa (wCov σ (nI k)) (va_cpy (sPl σ) (sWa σ) (80 * k) 0 n)
abbrev rmX3_fails : Room := ({ frames := 0, cells := 0, slots := 0, locals := 0 } : Room)
set_option maxHeartbeats 4000000 in
set_option maxRecDepth 100000 in
theorem c_X3_fails {mm : Nat} {ad : Nat → Nat} {σ : RS} (hR : refAt cI cJ mm ad σ M) {t5 : Nat} (ht5 : t5 < 5) : Met l yX3_fails wsX3_fails rmX3_fails (va_Pc [.ref mm, .int (nI t5)] (mwPre D (tyL cI cJ cC cH) M sz)) (va_Qi (fun r M' => r = -nI t5 ∧ refAt cI cJ mm ad (rfFails σ t5) M') (mwB D (tyL cI cJ cC cH) M sz) (mwA M sz)) 0 0 (mwA M sz) := by
  refine Met.ofW (cc := cX3_fails) (maxL := 2) (ret := (some .int)) (by decide) rfl ?_
  intro pr env s m args below meth c s₁ B hml hv
  obtain ⟨rfl, hsz, hW, hK, hO⟩ := hv
  subst hsz
  have hW := hW.self (sz := s.heap.size)
  have hS : va_S (mwA M s.heap.size) s.heap s.heap [] := va_S.rf
  have hA : ∀ q, s.heap.size ≤ q → mwA M s.heap.size q := fun q h => Or.inr h
  have hx := B.exec
  have hb := B.bytes
  have hr := B.returns
  have hts := atoms_spec (ws := wsX3_fails) B.pre
  have hown : s.vm.findClass RX3 = some m.cls := findClass_of_methodNamed B.named
  have hlocks := B.notSynchronized
  have F : CallFix pr m c cX3_fails 2 s ([.ref mm, .int (nI t5)] : List Value).toArray wsX3_fails RX3 := ⟨hx, hb, hml, hown, hts⟩
  have hI_X3 : ∀ w ∈ wsX30, w ∈ wsX3_fails := by decide +kernel
  have hl_fieldLink_RX3_35_SpliceBenchModel_failed_I := hts (.fieldLink RX3 35 "SpliceBenchModel" "failed" "[I") (by decide +kernel)
  have hl_fieldLink_RX3_69_SpliceBenchModel_came_I := hts (.fieldLink RX3 69 "SpliceBenchModel" "came" "I") (by decide +kernel)
  have hl := lv_entry ([.ref mm, .int (nI t5)]) (n := 2) (Nat.le_of_ble_eq_true rfl)
  rw [lg_entry_eq]
  generalize (lg_sl ([.ref mm, .int (nI t5)]) ++ List.replicate (2 - (lg_sl ([.ref mm, .int (nI t5)])).length) Slot.unset).toArray = ls at hl ⊢
  have hl : lv_has ls 2 [(0, .ref mm), (1, .int (nI t5))] := hl
  refine lv_aload_n hx hb dX3_fails_0 rfl (lv_at hl 0 rfl) ?_
  refine mw_get (C := RX3) (T := TX3) (N := 14) F hK hW hI_X3 hR.1 rfl 8 (by decide) hl_fieldLink_RX3_35_SpliceBenchModel_failed_I rfl dX3_fails_1 ?_
  refine lv_iload_n hx hb dX3_fails_4 rfl (lv_at hl 1 rfl) ?_
  refine lv_dup2_11 hx hb dX3_fails_5 rfl rfl ?_
  refine mw_iald F hK hW 0 hR.2.2.2.2.2.2.2.2.2.1 rfl (vp_in_nI (show t5 < 5 by omega) (by omega)) dX3_fails_6 ?_
  rw [nI_clamp (show t5 < 2 ^ 31 by omega)]
  refine lv_iconst (v := 1) hx hb dX3_fails_7 (by decide) ?_
  refine lv_iadd hx hb dX3_fails_8 ?_
  refine mw_iast F hK hW hS 0 hR.2.2.2.2.2.2.2.2.2.1 rfl (vp_in_nI (show t5 < 5 by omega) (by omega)) dX3_fails_9 (fun H locs hW hS => ?_)
  rw [nI_clamp (show t5 < 2 ^ 31 by omega)] at hW
  have hR := hR.wFa (upd (sFa σ) t5 (((sFa σ) t5) + 1))
  refine lv_aload_n hx hb dX3_fails_10 rfl (lv_at hl 0 rfl) ?_
  refine lv_iconst (v := 0) hx hb dX3_fails_11 (by decide) ?_
  refine mw_put (C := RX3) (T := TX3) (N := 14) (v := .int 0) F hK hW hS hI_X3 tyX3 tyX3_ok nmX3 (show _ = some (Sum.inr (3, [.ref (ad 0), .ref (ad 1), .ref (ad 2), .ref (ad 3), .ref (ad 4), .ref (ad 5), .ref (ad 6), .ref (ad 7), .ref (ad 8), .int (sCov σ), .int (sCam σ), .int (sGoo σ), .int (sRow σ), .int (sCar σ)])) from hR.1) rfl 10 (by decide) hl_fieldLink_RX3_69_SpliceBenchModel_came_I rfl rfl rfl (Nat.le_of_ble_eq_true rfl) dX3_fails_12 (fun H locs hW hS => ?_)
  have hR := hR.wCam 0
  refine lv_iload_n hx hb dX3_fails_15 rfl (lv_at hl 1 rfl) ?_
  refine lv_ineg hx hb dX3_fails_16 ?_
  exact W.iret hx hb hr (fun t ht hw => ⟨⟨_, _, rfl, ⟨rfl, hR⟩, by rw [ht]; exact hW, va_K.moved hw.alike hK⟩, hS.F ht⟩) hS.2.2 dX3_fails_17
abbrev rmX3_cover : Room := ({ frames := 0, cells := 0, slots := 0, locals := 0 } : Room)
set_option maxHeartbeats 4000000 in
set_option maxRecDepth 100000 in
theorem c_X3_cover {mm : Nat} {ad : Nat → Nat} {σ : RS} (hR : refAt cI cJ mm ad σ M) {k n : Nat} (hk : k < 12) (hn : n ≤ 80) (en : sSi σ k = nI n) : Met l yX3_cover wsX3_cover rmX3_cover (va_Pc [.ref mm, .int (nI k)] (mwPre D (tyL cI cJ cC cH) M sz)) (va_Qv (fun M' => refAt cI cJ mm ad (rfCover σ k n) M') (mwB D (tyL cI cJ cC cH) M sz) (mwA M sz)) 0 0 (mwA M sz) := by
  refine Met.ofW (cc := cX3_cover) (maxL := 3) (ret := none) (by decide) rfl ?_
  intro pr env s m args below meth c s₁ B hml hv
  obtain ⟨rfl, hsz, hW, hK, hO⟩ := hv
  subst hsz
  have hW := hW.self (sz := s.heap.size)
  have hS : va_S (mwA M s.heap.size) s.heap s.heap [] := va_S.rf
  have hA : ∀ q, s.heap.size ≤ q → mwA M s.heap.size q := fun q h => Or.inr h
  have hx := B.exec
  have hb := B.bytes
  have hr := B.returns
  have hts := atoms_spec (ws := wsX3_cover) B.pre
  have hown : s.vm.findClass RX3 = some m.cls := findClass_of_methodNamed B.named
  have hlocks := B.notSynchronized
  have F : CallFix pr m c cX3_cover 3 s ([.ref mm, .int (nI k)] : List Value).toArray wsX3_cover RX3 := ⟨hx, hb, hml, hown, hts⟩
  have hI_X3 : ∀ w ∈ wsX30, w ∈ wsX3_cover := by decide +kernel
  have hl_fieldLink_RX3_38_SpliceBenchModel_covered_I := hts (.fieldLink RX3 38 "SpliceBenchModel" "covered" "I") (by decide +kernel)
  have hl_fieldLink_RX3_19_SpliceBenchModel_size_I := hts (.fieldLink RX3 19 "SpliceBenchModel" "size" "[I") (by decide +kernel)
  have hl_fieldLink_RX3_26_SpliceBenchModel_was_J := hts (.fieldLink RX3 26 "SpliceBenchModel" "was" "[J") (by decide +kernel)
  have hl_fieldLink_RX3_22_SpliceBenchModel_places_J := hts (.fieldLink RX3 22 "SpliceBenchModel" "places" "[J") (by decide +kernel)
  have hl := lv_entry ([.ref mm, .int (nI k)]) (n := 3) (Nat.le_of_ble_eq_true rfl)
  rw [lg_entry_eq]
  generalize (lg_sl ([.ref mm, .int (nI k)]) ++ List.replicate (3 - (lg_sl ([.ref mm, .int (nI k)])).length) Slot.unset).toArray = ls at hl ⊢
  have hl : lv_has ls 3 [(0, .ref mm), (1, .int (nI k))] := hl
  refine lv_aload_n hx hb dX3_cover_0 rfl (lv_at hl 0 rfl) ?_
  refine lv_iload_n hx hb dX3_cover_1 rfl (lv_at hl 1 rfl) ?_
  refine mw_put (C := RX3) (T := TX3) (N := 14) (v := .int (nI k)) F hK hW hS hI_X3 tyX3 tyX3_ok nmX3 hR.1 rfl 9 (by decide) hl_fieldLink_RX3_38_SpliceBenchModel_covered_I rfl rfl rfl (Nat.le_of_ble_eq_true rfl) dX3_cover_2 (fun H locs hW hS => ?_)
  have hR := hR.wCov (nI k)
  refine lv_iconst (v := 0) hx hb dX3_cover_5 (by decide) ?_
  refine lv_istore_n (lv' := [(2, .int 0), (0, .ref mm), (1, .int (nI k))]) hx hb dX3_cover_6 rfl hl (by decide) rfl (fun ls hl => ?_)
  have hR := hR.to (σ' := wWa (wCov σ (nI k)) (va_cpy (sPl σ) (sWa σ) (80 * k) 0 0)) (by rw [cpy_0]; rfl)
  have loop : ∀ (N : Nat) (i : Nat) (M1 : Nat → Option va_E) (H : Heap) (locs : List Loc), n + 1 ≤ i + N → i ≤ n → mw D (mwA M s.heap.size) M1 H → va_S (mwA M s.heap.size) s.heap H locs → refAt cI cJ mm ad (wWa (wCov σ (nI k)) (va_cpy (sPl σ) (sWa σ) (80 * k) 0 i)) M1 → ∀ (ls : Array Slot), lv_has ls 3 [(2, .int (nI i)), (0, .ref mm), (1, .int (nI k))] → W pr l env (headSpec wsX3_cover rmX3_cover).room s m ([.ref mm, .int (nI k)] : List Value).toArray below meth c H locs 0 0 (MQ below (va_Qv (fun M' => refAt cI cJ mm ad (rfCover σ k n) M') (mwB D (tyL cI cJ cC cH) M s.heap.size) (mwA M s.heap.size)) ([.ref mm, .int (nI k)] : List Value).toArray s 0 0 (mwA M s.heap.size)) (F0 m 7 ls []) := by
    intro N
    induction N with
    | zero =>
      exact fun i M1 H locs h1 h2 => absurd h1 (by omega)
    | succ N ih =>
      intro i M1 H locs hN hi hW hS hR ls hl
      refine lv_iload_n hx hb dX3_cover_7 rfl (lv_at hl 0 rfl) ?_
      refine lv_aload_n hx hb dX3_cover_8 rfl (lv_at hl 1 rfl) ?_
      refine mw_get (C := RX3) (T := TX3) (N := 14) F hK hW hI_X3 (show _ = some (Sum.inr (3, [.ref (ad 0), .ref (ad 1), .ref (ad 2), .ref (ad 3), .ref (ad 4), .ref (ad 5), .ref (ad 6), .ref (ad 7), .ref (ad 8), .int (nI k), .int (sCam σ), .int (sGoo σ), .int (sRow σ), .int (sCar σ)])) from hR.1) rfl 3 (by decide) hl_fieldLink_RX3_19_SpliceBenchModel_size_I rfl dX3_cover_9 ?_
      refine lv_iload_n hx hb dX3_cover_12 rfl (lv_at hl 2 rfl) ?_
      refine mw_iald F hK hW 0 (show _ = some (Sum.inl (cI, 12, Sum.inl (sSi σ))) from hR.2.2.2.2.1) rfl (vp_in_nI (show k < 12 by omega) (by omega)) dX3_cover_13 ?_
      rw [nI_clamp (show k < 2 ^ 31 by omega)]
      rw [en]
      refine lv_icmp_ge (tgt := 40) hx hb dX3_cover_14 (by decide) (fun c_14 => ?_) (fun c_14 => ?_)
      · exact W.vret hx hb hr (fun t ht hw => ⟨⟨_, rfl, (by rw [show i = n by have := (nI_leI (by omega) (by omega)).mp c_14; omega] at hR; exact hR), by rw [ht]; exact hW, va_K.moved hw.alike hK⟩, hS.F ht⟩) hS.2.2 dX3_cover_40
      · have hin : i < n := by
          rcases Nat.lt_or_ge i n with h9 | h9
          · exact h9
          · exact absurd (nI_le h9 (by omega)) c_14
        refine lv_aload_n hx hb dX3_cover_17 rfl (lv_at hl 1 rfl) ?_
        refine mw_get (C := RX3) (T := TX3) (N := 14) F hK hW hI_X3 (show _ = some (Sum.inr (3, [.ref (ad 0), .ref (ad 1), .ref (ad 2), .ref (ad 3), .ref (ad 4), .ref (ad 5), .ref (ad 6), .ref (ad 7), .ref (ad 8), .int (nI k), .int (sCam σ), .int (sGoo σ), .int (sRow σ), .int (sCar σ)])) from hR.1) rfl 5 (by decide) hl_fieldLink_RX3_26_SpliceBenchModel_was_J rfl dX3_cover_18 ?_
        refine lv_iload_n hx hb dX3_cover_21 rfl (lv_at hl 0 rfl) ?_
        refine lv_aload_n hx hb dX3_cover_22 rfl (lv_at hl 1 rfl) ?_
        refine mw_get (C := RX3) (T := TX3) (N := 14) F hK hW hI_X3 (show _ = some (Sum.inr (3, [.ref (ad 0), .ref (ad 1), .ref (ad 2), .ref (ad 3), .ref (ad 4), .ref (ad 5), .ref (ad 6), .ref (ad 7), .ref (ad 8), .int (nI k), .int (sCam σ), .int (sGoo σ), .int (sRow σ), .int (sCar σ)])) from hR.1) rfl 4 (by decide) hl_fieldLink_RX3_22_SpliceBenchModel_places_J rfl dX3_cover_23 ?_
        refine lv_bipush (v := 80) hx hb dX3_cover_26 (by decide) ?_
        refine lv_iload_n hx hb dX3_cover_28 rfl (lv_at hl 2 rfl) ?_
        refine lv_imul hx hb dX3_cover_29 ?_
        rw [show (80 : Int32) = nI 80 from rfl, pk_mul]
        refine lv_iload_n hx hb dX3_cover_30 rfl (lv_at hl 0 rfl) ?_
        refine lv_iadd hx hb dX3_cover_31 ?_
        rw [nI_add]
        refine mw_lald F hK hW 1 (show _ = some (Sum.inl (cJ, 960, Sum.inr (Sum.inl (sPl σ)))) from hR.2.2.2.2.2.1) rfl (vp_in_nI (show (80 * k + i) < 960 by omega) (by omega)) dX3_cover_32 ?_
        rw [nI_clamp (show (80 * k + i) < 2 ^ 31 by omega)]
        refine mw_last F hK hW hS 1 (show _ = some (Sum.inl (cJ, 80, Sum.inr (Sum.inl (va_cpy (sPl σ) (sWa σ) (80 * k) 0 i)))) from hR.2.2.2.2.2.2.1) rfl (vp_in_nI (show i < 80 by omega) (by omega)) dX3_cover_33 (fun H locs hW hS => ?_)
        rw [nI_clamp (show i < 2 ^ 31 by omega)] at hW
        rw [show vp_updL (va_cpy (sPl σ) (sWa σ) (80 * k) 0 i) i ((sPl σ) (80 * k + i)) = va_cpy (sPl σ) (sWa σ) (80 * k) 0 (i + 1) from (by have := cpy_sL (sPl σ) (sWa σ) (80 * k) 0 i; rw [Nat.zero_add] at this; exact this)] at hW
        have hR := hR.wWa (va_cpy (sPl σ) (sWa σ) (80 * k) 0 (i + 1))
        have hR : refAt cI cJ mm ad (wWa (wCov σ (nI k)) (va_cpy (sPl σ) (sWa σ) (80 * k) 0 (i + 1))) _ := hR
        refine lv_iinc (v := nI (i + 1)) (lv' := [(2, .int (nI (i + 1))), (0, .ref mm), (1, .int (nI k))]) hx hb dX3_cover_34 hl (k := 0) rfl (nI_1 i) (by decide) rfl (fun ls hl => ?_)
        refine lv_goto (tgt := 7) hx hb dX3_cover_37 (by decide) ?_
        exact ih (i + 1) _ H locs (by omega) (by omega) hW hS hR ls (lv_sub hl [0, 1, 2] rfl)
  exact loop (n + 1) 0 _ _ _ (by omega) (Nat.zero_le _) hW hS hR ls (lv_sub hl [0, 1, 2] rfl)
abbrev rmX3_thread : Room := ({ frames := 1, cells := 0, slots := 0, locals := 21 } : Room)
set_option maxHeartbeats 4000000 in
set_option maxRecDepth 100000 in
theorem c_X3_thread {mm : Nat} {ad : Nat → Nat} {σ : RS} (hR : refAt cI cJ mm ad σ M) {cc : Nat} (hI : Inv σ cc) {s0 t0 : Int32} : Met l yX3_thread wsX3_thread rmX3_thread (va_Pc [.ref mm, .int s0, .int t0] (mwPre D (tyL cI cJ cC cH) M sz)) (va_Qi (fun r M' => r = (rfThread σ s0 t0).1 ∧ refAt cI cJ mm ad (rfThread σ s0 t0).2 M') (mwB D (tyL cI cJ cC cH) M sz) (mwA M sz)) 0 0 (mwA M sz) := by
  refine Met.ofW (cc := cX3_thread) (maxL := 3) (ret := (some .int)) (by decide) rfl ?_
  intro pr env s m args below meth c s₁ B hml hv
  obtain ⟨rfl, hsz, hW, hK, hO⟩ := hv
  subst hsz
  have hW := hW.self (sz := s.heap.size)
  have hS : va_S (mwA M s.heap.size) s.heap s.heap [] := va_S.rf
  have hA : ∀ q, s.heap.size ≤ q → mwA M s.heap.size q := fun q h => Or.inr h
  have hx := B.exec
  have hb := B.bytes
  have hr := B.returns
  have hts := atoms_spec (ws := wsX3_thread) B.pre
  have hown : s.vm.findClass RX3 = some m.cls := findClass_of_methodNamed B.named
  have hlocks := B.notSynchronized
  have F : CallFix pr m c cX3_thread 3 s ([.ref mm, .int s0, .int t0] : List Value).toArray wsX3_thread RX3 := ⟨hx, hb, hml, hown, hts⟩
  have hI_X3 : ∀ w ∈ wsX30, w ∈ wsX3_thread := by decide +kernel
  have hl_fieldLink_RX3_7_SpliceBenchModel_holds_I := hts (.fieldLink RX3 7 "SpliceBenchModel" "holds" "[I") (by decide +kernel)
  have hl := lv_entry ([.ref mm, .int s0, .int t0]) (n := 3) (Nat.le_of_ble_eq_true rfl)
  rw [lg_entry_eq]
  generalize (lg_sl ([.ref mm, .int s0, .int t0]) ++ List.replicate (3 - (lg_sl ([.ref mm, .int s0, .int t0])).length) Slot.unset).toArray = ls at hl ⊢
  have hl : lv_has ls 3 [(0, .ref mm), (1, .int s0), (2, .int t0)] := hl
  refine lv_iload_n hx hb dX3_thread_0 rfl (lv_at hl 1 rfl) ?_
  refine vp_callSi (W.runS (As := [.int s0]) (rest := []) F (c_X3_isSpindle) (cwS 1 hts gX3_thread_X3_isSpindle rfl rfl rfl (by decide +kernel) ⟨Nat.le_of_ble_eq_true rfl, Nat.le_of_ble_eq_true rfl⟩) (mw_prS hK hO hW) rfl rfl hl.1 rfl (lv_room (Nat.le_of_ble_eq_true rfl)) dX3_thread_1 ⟨Nat.zero_le _, Nat.zero_le _⟩) (fun r_1 er_1 => ?_)
  subst er_1
  refine lv_if_eq (tgt := 14) hx hb dX3_thread_4 (by decide) (fun c_4 => ?_) (fun c_4 => ?_)
  · have c_4 := bI_e c_4
    refine lv_bipush (v := (-9)) hx hb dX3_thread_14 (by decide) ?_
    exact W.iret hx hb hr (fun t ht hw => ⟨⟨_, _, rfl, (by
      have e8 : rfThread σ s0 t0 = (-9, σ) := by simp [rfThread, c_4]
      rw [e8]; exact ⟨rfl, hR⟩), by rw [ht]; exact hW, va_K.moved hw.alike hK⟩, hS.F ht⟩) hS.2.2 dX3_thread_16
  · obtain ⟨j, hj, rfl⟩ := isSp_of (bI_n c_4)
    have esp_j := isSp_nI hj
    have eix_j : ix (nI j) = j := nI_clamp (by omega)
    refine lv_iload_n hx hb dX3_thread_7 rfl (lv_at hl 2 rfl) ?_
    refine vp_callSi (W.runS (As := [.int t0]) (rest := []) F (c_X3_isSpindle) (cwS 1 hts gX3_thread_X3_isSpindle rfl rfl rfl (by decide +kernel) ⟨Nat.le_of_ble_eq_true rfl, Nat.le_of_ble_eq_true rfl⟩) (mw_prS hK hO hW) rfl rfl hl.1 rfl (lv_room (Nat.le_of_ble_eq_true rfl)) dX3_thread_8 ⟨Nat.zero_le _, Nat.zero_le _⟩) (fun r_2 er_2 => ?_)
    subst er_2
    refine lv_if_ne (tgt := 17) hx hb dX3_thread_11 (by decide) (fun c_11 => ?_) (fun c_11 => ?_)
    · obtain ⟨j2, hj2, rfl⟩ := isSp_of (bI_n c_11)
      have esp_j2 := isSp_nI hj2
      have eix_j2 : ix (nI j2) = j2 := nI_clamp (by omega)
      refine lv_aload_n hx hb dX3_thread_17 rfl (lv_at hl 0 rfl) ?_
      refine mw_get (C := RX3) (T := TX3) (N := 14) F hK hW hI_X3 hR.1 rfl 0 (by decide) hl_fieldLink_RX3_7_SpliceBenchModel_holds_I rfl dX3_thread_18 ?_
      refine lv_iload_n hx hb dX3_thread_21 rfl (lv_at hl 1 rfl) ?_
      refine lv_aload_n hx hb dX3_thread_22 rfl (lv_at hl 0 rfl) ?_
      refine mw_get (C := RX3) (T := TX3) (N := 14) F hK hW hI_X3 hR.1 rfl 0 (by decide) hl_fieldLink_RX3_7_SpliceBenchModel_holds_I rfl dX3_thread_23 ?_
      refine lv_iload_n hx hb dX3_thread_26 rfl (lv_at hl 2 rfl) ?_
      refine mw_iald F hK hW 0 hR.2.1 rfl (vp_in_nI (show j2 < 10 by omega) (by omega)) dX3_thread_27 ?_
      rw [nI_clamp (show j2 < 2 ^ 31 by omega)]
      refine mw_iast F hK hW hS 0 hR.2.1 rfl (vp_in_nI (show j < 10 by omega) (by omega)) dX3_thread_28 (fun H locs hW hS => ?_)
      rw [nI_clamp (show j < 2 ^ 31 by omega)] at hW
      have hR := hR.wHo (upd (sHo σ) j ((sHo σ) j2))
      refine lv_aload_n hx hb dX3_thread_29 rfl (lv_at hl 0 rfl) ?_
      refine lv_iload_n hx hb dX3_thread_30 rfl (lv_at hl 1 rfl) ?_
      have hup : upd (sHo σ) j (sHo σ j2) j = sHo σ j2 := by simp [upd]
      refine vp_callSi (W.runV (As := [.int (nI j)]) (rest := []) F (c_X3_kindOf hR (show j < 10 by omega) (by show hoOk (upd (sHo σ) j (sHo σ j2) j); rw [hup]; exact hI.ho hj2)) (cwV 1 hts gX3_thread_X3_kindOf rfl rfl rfl (by decide +kernel) ⟨Nat.le_of_ble_eq_true rfl, Nat.le_of_ble_eq_true rfl⟩) (mw_prV (q := (RX3, TX3, 14)) hK hO hW rfl (show _ = some (Sum.inr (3, [.ref (ad 0), .ref (ad 1), .ref (ad 2), .ref (ad 3), .ref (ad 4), .ref (ad 5), .ref (ad 6), .ref (ad 7), .ref (ad 8), .int (sCov σ), .int (sCam σ), .int (sGoo σ), .int (sRow σ), .int (sCar σ)])) from hR.1)) rfl rfl hl.1 rfl (lv_room (Nat.le_of_ble_eq_true rfl)) dX3_thread_31 ⟨Nat.zero_le _, Nat.zero_le _⟩) (fun r_3 er_3 => ?_)
      subst er_3
      exact W.iret hx hb hr (fun t ht hw => ⟨⟨_, _, rfl, (by
        have e8 : rfThread σ (nI j) (nI j2) = (kOf (wHo σ (upd (sHo σ) j (sHo σ j2))) j, wHo σ (upd (sHo σ) j (sHo σ j2))) := by simp [rfThread, esp_j, esp_j2, eix_j, eix_j2]
        rw [e8]; exact ⟨rfl, hR⟩), by rw [ht]; exact hW, va_K.moved hw.alike hK⟩, hS.F ht⟩) hS.2.2 dX3_thread_34
    · have c_11 := bI_e c_11
      refine lv_bipush (v := (-9)) hx hb dX3_thread_14 (by decide) ?_
      exact W.iret hx hb hr (fun t ht hw => ⟨⟨_, _, rfl, (by
        have e8 : rfThread σ (nI j) t0 = (-9, σ) := by simp [rfThread, c_11]
        rw [e8]; exact ⟨rfl, hR⟩), by rw [ht]; exact hW, va_K.moved hw.alike hK⟩, hS.F ht⟩) hS.2.2 dX3_thread_16
abbrev rmX3_back : Room := ({ frames := 0, cells := 0, slots := 0, locals := 0 } : Room)
set_option maxHeartbeats 4000000 in
set_option maxRecDepth 100000 in
theorem c_X3_back {mm : Nat} {ad : Nat → Nat} {σ : RS} (hR : refAt cI cJ mm ad σ M) {cc : Nat} (hI : Inv σ cc) : Met l yX3_back wsX3_back rmX3_back (va_Pc [.ref mm] (mwPre D (tyL cI cJ cC cH) M sz)) (va_Qi (fun r M' => r = (rfBack σ).1 ∧ refAt cI cJ mm ad (rfBack σ).2 M') (mwB D (tyL cI cJ cC cH) M sz) (mwA M sz)) 0 0 (mwA M sz) := by
  refine Met.ofW (cc := cX3_back) (maxL := 2) (ret := (some .int)) (by decide) rfl ?_
  intro pr env s m args below meth c s₁ B hml hv
  obtain ⟨rfl, hsz, hW, hK, hO⟩ := hv
  subst hsz
  have hW := hW.self (sz := s.heap.size)
  have hS : va_S (mwA M s.heap.size) s.heap s.heap [] := va_S.rf
  have hA : ∀ q, s.heap.size ≤ q → mwA M s.heap.size q := fun q h => Or.inr h
  have hx := B.exec
  have hb := B.bytes
  have hr := B.returns
  have hts := atoms_spec (ws := wsX3_back) B.pre
  have hown : s.vm.findClass RX3 = some m.cls := findClass_of_methodNamed B.named
  have hlocks := B.notSynchronized
  have F : CallFix pr m c cX3_back 2 s ([.ref mm] : List Value).toArray wsX3_back RX3 := ⟨hx, hb, hml, hown, hts⟩
  have hI_X3 : ∀ w ∈ wsX30, w ∈ wsX3_back := by decide +kernel
  have hl_fieldLink_RX3_38_SpliceBenchModel_covered_I := hts (.fieldLink RX3 38 "SpliceBenchModel" "covered" "I") (by decide +kernel)
  have hl_fieldLink_RX3_19_SpliceBenchModel_size_I := hts (.fieldLink RX3 19 "SpliceBenchModel" "size" "[I") (by decide +kernel)
  have hl_fieldLink_RX3_22_SpliceBenchModel_places_J := hts (.fieldLink RX3 22 "SpliceBenchModel" "places" "[J") (by decide +kernel)
  have hl_fieldLink_RX3_26_SpliceBenchModel_was_J := hts (.fieldLink RX3 26 "SpliceBenchModel" "was" "[J") (by decide +kernel)
  have hl := lv_entry ([.ref mm]) (n := 2) (Nat.le_of_ble_eq_true rfl)
  rw [lg_entry_eq]
  generalize (lg_sl ([.ref mm]) ++ List.replicate (2 - (lg_sl ([.ref mm])).length) Slot.unset).toArray = ls at hl ⊢
  have hl : lv_has ls 2 [(0, .ref mm)] := hl
  refine lv_aload_n hx hb dX3_back_0 rfl (lv_at hl 0 rfl) ?_
  refine mw_get (C := RX3) (T := TX3) (N := 14) F hK hW hI_X3 hR.1 rfl 9 (by decide) hl_fieldLink_RX3_38_SpliceBenchModel_covered_I rfl dX3_back_1 ?_
  refine lv_iconst (v := (-1)) hx hb dX3_back_4 (by decide) ?_
  refine lv_icmp_ne (tgt := 10) hx hb dX3_back_5 (by decide) (fun c_5 => ?_) (fun c_5 => ?_)
  · obtain ⟨k, hk, ek⟩ := hI.cov.resolve_left c_5
    obtain ⟨n, hn, en⟩ := hI.sz hk
    refine lv_iconst (v := 0) hx hb dX3_back_10 (by decide) ?_
    refine lv_istore_n (lv' := [(1, .int 0), (0, .ref mm)]) hx hb dX3_back_11 rfl hl (by decide) rfl (fun ls hl => ?_)
    have hR := hR.to (σ' := wPl σ (va_cpy (sWa σ) (sPl σ) 0 (80 * k) 0)) (by rw [cpy_0]; rfl)
    have loop : ∀ (N : Nat) (i : Nat) (M1 : Nat → Option va_E) (H : Heap) (locs : List Loc), n + 1 ≤ i + N → i ≤ n → mw D (mwA M s.heap.size) M1 H → va_S (mwA M s.heap.size) s.heap H locs → refAt cI cJ mm ad (wPl σ (va_cpy (sWa σ) (sPl σ) 0 (80 * k) i)) M1 → ∀ (ls : Array Slot), lv_has ls 2 [(1, .int (nI i)), (0, .ref mm)] → W pr l env (headSpec wsX3_back rmX3_back).room s m ([.ref mm] : List Value).toArray below meth c H locs 0 0 (MQ below (va_Qi (fun r M' => r = (rfBack σ).1 ∧ refAt cI cJ mm ad (rfBack σ).2 M') (mwB D (tyL cI cJ cC cH) M s.heap.size) (mwA M s.heap.size)) ([.ref mm] : List Value).toArray s 0 0 (mwA M s.heap.size)) (F0 m 12 ls []) := by
      intro N
      induction N with
      | zero =>
        exact fun i M1 H locs h1 h2 => absurd h1 (by omega)
      | succ N ih =>
        intro i M1 H locs hN hi hW hS hR ls hl
        refine lv_iload_n hx hb dX3_back_12 rfl (lv_at hl 0 rfl) ?_
        refine lv_aload_n hx hb dX3_back_13 rfl (lv_at hl 1 rfl) ?_
        refine mw_get (C := RX3) (T := TX3) (N := 14) F hK hW hI_X3 (show _ = some (Sum.inr (3, [.ref (ad 0), .ref (ad 1), .ref (ad 2), .ref (ad 3), .ref (ad 4), .ref (ad 5), .ref (ad 6), .ref (ad 7), .ref (ad 8), .int (sCov σ), .int (sCam σ), .int (sGoo σ), .int (sRow σ), .int (sCar σ)])) from hR.1) rfl 3 (by decide) hl_fieldLink_RX3_19_SpliceBenchModel_size_I rfl dX3_back_14 ?_
        refine lv_aload_n hx hb dX3_back_17 rfl (lv_at hl 1 rfl) ?_
        refine mw_get (C := RX3) (T := TX3) (N := 14) F hK hW hI_X3 (show _ = some (Sum.inr (3, [.ref (ad 0), .ref (ad 1), .ref (ad 2), .ref (ad 3), .ref (ad 4), .ref (ad 5), .ref (ad 6), .ref (ad 7), .ref (ad 8), .int (sCov σ), .int (sCam σ), .int (sGoo σ), .int (sRow σ), .int (sCar σ)])) from hR.1) rfl 9 (by decide) hl_fieldLink_RX3_38_SpliceBenchModel_covered_I rfl dX3_back_18 ?_
        rw [ek]
        refine mw_iald F hK hW 0 (show _ = some (Sum.inl (cI, 12, Sum.inl (sSi σ))) from hR.2.2.2.2.1) rfl (vp_in_nI (show k < 12 by omega) (by omega)) dX3_back_21 ?_
        rw [nI_clamp (show k < 2 ^ 31 by omega)]
        rw [en]
        refine lv_icmp_ge (tgt := 51) hx hb dX3_back_22 (by decide) (fun c_22 => ?_) (fun c_22 => ?_)
        · refine lv_aload_n hx hb dX3_back_51 rfl (lv_at hl 1 rfl) ?_
          refine lv_iconst (v := (-1)) hx hb dX3_back_52 (by decide) ?_
          refine mw_put (C := RX3) (T := TX3) (N := 14) (v := .int (-1)) F hK hW hS hI_X3 tyX3 tyX3_ok nmX3 (show _ = some (Sum.inr (3, [.ref (ad 0), .ref (ad 1), .ref (ad 2), .ref (ad 3), .ref (ad 4), .ref (ad 5), .ref (ad 6), .ref (ad 7), .ref (ad 8), .int (sCov σ), .int (sCam σ), .int (sGoo σ), .int (sRow σ), .int (sCar σ)])) from hR.1) rfl 9 (by decide) hl_fieldLink_RX3_38_SpliceBenchModel_covered_I rfl rfl rfl (Nat.le_of_ble_eq_true rfl) dX3_back_53 (fun H locs hW hS => ?_)
          have hR := hR.wCov (-1)
          refine lv_iconst (v := 1) hx hb dX3_back_56 (by decide) ?_
          exact W.iret hx hb hr (fun t ht hw => ⟨⟨_, _, rfl, (by
            have e7 : i = n := by have := (nI_leI (by omega) (by omega)).mp c_22; omega
            have e8 : rfBack σ = (1, wCov (wPl σ (va_cpy (sWa σ) (sPl σ) 0 (80 * k) i)) (-1)) := by
              unfold rfBack
              rw [if_neg c_5, ek]
              simp only [nI_clamp (show k < 2 ^ 31 by omega), ix, en, nI_clamp (show n < 2 ^ 31 by omega), e7]
            rw [e8]; exact ⟨rfl, hR⟩), by rw [ht]; exact hW, va_K.moved hw.alike hK⟩, hS.F ht⟩) hS.2.2 dX3_back_57
        · have hin : i < n := by
            rcases Nat.lt_or_ge i n with h9 | h9
            · exact h9
            · exact absurd (nI_le h9 (by omega)) c_22
          refine lv_aload_n hx hb dX3_back_25 rfl (lv_at hl 1 rfl) ?_
          refine mw_get (C := RX3) (T := TX3) (N := 14) F hK hW hI_X3 (show _ = some (Sum.inr (3, [.ref (ad 0), .ref (ad 1), .ref (ad 2), .ref (ad 3), .ref (ad 4), .ref (ad 5), .ref (ad 6), .ref (ad 7), .ref (ad 8), .int (sCov σ), .int (sCam σ), .int (sGoo σ), .int (sRow σ), .int (sCar σ)])) from hR.1) rfl 4 (by decide) hl_fieldLink_RX3_22_SpliceBenchModel_places_J rfl dX3_back_26 ?_
          refine lv_bipush (v := 80) hx hb dX3_back_29 (by decide) ?_
          refine lv_aload_n hx hb dX3_back_31 rfl (lv_at hl 1 rfl) ?_
          refine mw_get (C := RX3) (T := TX3) (N := 14) F hK hW hI_X3 (show _ = some (Sum.inr (3, [.ref (ad 0), .ref (ad 1), .ref (ad 2), .ref (ad 3), .ref (ad 4), .ref (ad 5), .ref (ad 6), .ref (ad 7), .ref (ad 8), .int (sCov σ), .int (sCam σ), .int (sGoo σ), .int (sRow σ), .int (sCar σ)])) from hR.1) rfl 9 (by decide) hl_fieldLink_RX3_38_SpliceBenchModel_covered_I rfl dX3_back_32 ?_
          rw [ek]
          refine lv_imul hx hb dX3_back_35 ?_
          rw [show (80 : Int32) = nI 80 from rfl, pk_mul]
          refine lv_iload_n hx hb dX3_back_36 rfl (lv_at hl 0 rfl) ?_
          refine lv_iadd hx hb dX3_back_37 ?_
          rw [nI_add]
          refine lv_aload_n hx hb dX3_back_38 rfl (lv_at hl 1 rfl) ?_
          refine mw_get (C := RX3) (T := TX3) (N := 14) F hK hW hI_X3 (show _ = some (Sum.inr (3, [.ref (ad 0), .ref (ad 1), .ref (ad 2), .ref (ad 3), .ref (ad 4), .ref (ad 5), .ref (ad 6), .ref (ad 7), .ref (ad 8), .int (sCov σ), .int (sCam σ), .int (sGoo σ), .int (sRow σ), .int (sCar σ)])) from hR.1) rfl 5 (by decide) hl_fieldLink_RX3_26_SpliceBenchModel_was_J rfl dX3_back_39 ?_
          refine lv_iload_n hx hb dX3_back_42 rfl (lv_at hl 0 rfl) ?_
          refine mw_lald F hK hW 1 (show _ = some (Sum.inl (cJ, 80, Sum.inr (Sum.inl (sWa σ)))) from hR.2.2.2.2.2.2.1) rfl (vp_in_nI (show i < 80 by omega) (by omega)) dX3_back_43 ?_
          rw [nI_clamp (show i < 2 ^ 31 by omega)]
          refine mw_last F hK hW hS 1 (show _ = some (Sum.inl (cJ, 960, Sum.inr (Sum.inl (va_cpy (sWa σ) (sPl σ) 0 (80 * k) i)))) from hR.2.2.2.2.2.1) rfl (vp_in_nI (show (80 * k + i) < 960 by omega) (by omega)) dX3_back_44 (fun H locs hW hS => ?_)
          rw [nI_clamp (show (80 * k + i) < 2 ^ 31 by omega)] at hW
          rw [show vp_updL (va_cpy (sWa σ) (sPl σ) 0 (80 * k) i) (80 * k + i) ((sWa σ) i) = va_cpy (sWa σ) (sPl σ) 0 (80 * k) (i + 1) from (by have := cpy_sL (sWa σ) (sPl σ) 0 (80 * k) i; rw [Nat.zero_add] at this; exact this)] at hW
          have hR := hR.wPl (va_cpy (sWa σ) (sPl σ) 0 (80 * k) (i + 1))
          have hR : refAt cI cJ mm ad (wPl σ (va_cpy (sWa σ) (sPl σ) 0 (80 * k) (i + 1))) _ := hR
          refine lv_iinc (v := nI (i + 1)) (lv' := [(1, .int (nI (i + 1))), (0, .ref mm)]) hx hb dX3_back_45 hl (k := 0) rfl (nI_1 i) (by decide) rfl (fun ls hl => ?_)
          refine lv_goto (tgt := 12) hx hb dX3_back_48 (by decide) ?_
          exact ih (i + 1) _ H locs (by omega) (by omega) hW hS hR ls (lv_sub hl [0, 1] rfl)
    exact loop (n + 1) 0 _ _ _ (by omega) (Nat.zero_le _) hW hS hR ls (lv_sub hl [0, 1] rfl)
  · refine lv_iconst (v := 0) hx hb dX3_back_8 (by decide) ?_
    exact W.iret hx hb hr (fun t ht hw => ⟨⟨_, _, rfl, (by
      have e8 : rfBack σ = (0, σ) := by simp [rfBack, c_5]
      rw [e8]; exact ⟨rfl, hR⟩), by rw [ht]; exact hW, va_K.moved hw.alike hK⟩, hS.F ht⟩) hS.2.2 dX3_back_9
abbrev rmX3_show : Room := ({ frames := 2, cells := 0, slots := 0, locals := 42 } : Room)
set_option maxHeartbeats 4000000 in
set_option maxRecDepth 100000 in
theorem c_X3_show {mm : Nat} {ad : Nat → Nat} {σ : RS} (hR : refAt cI cJ mm ad σ M) {cc : Nat} (hI : Inv σ cc) {s0 : Int32} : Met l yX3_show wsX3_show rmX3_show (va_Pc [.ref mm, .int s0] (mwPre D (tyL cI cJ cC cH) M sz)) (va_Qi (fun r M' => r = (rfShow σ s0).1 ∧ refAt cI cJ mm ad (rfShow σ s0).2 M') (mwB D (tyL cI cJ cC cH) M sz) (mwA M sz)) 0 0 (mwA M sz) := by
  refine Met.ofW (cc := cX3_show) (maxL := 4) (ret := (some .int)) (by decide) rfl ?_
  intro pr env s m args below meth c s₁ B hml hv
  obtain ⟨rfl, hsz, hW, hK, hO⟩ := hv
  subst hsz
  have hW := hW.self (sz := s.heap.size)
  have hS : va_S (mwA M s.heap.size) s.heap s.heap [] := va_S.rf
  have hA : ∀ q, s.heap.size ≤ q → mwA M s.heap.size q := fun q h => Or.inr h
  have hx := B.exec
  have hb := B.bytes
  have hr := B.returns
  have hts := atoms_spec (ws := wsX3_show) B.pre
  have hown : s.vm.findClass RX3 = some m.cls := findClass_of_methodNamed B.named
  have hlocks := B.notSynchronized
  have F : CallFix pr m c cX3_show 4 s ([.ref mm, .int s0] : List Value).toArray wsX3_show RX3 := ⟨hx, hb, hml, hown, hts⟩
  have hI_X3 : ∀ w ∈ wsX30, w ∈ wsX3_show := by decide +kernel
  have hl_fieldLink_RX3_32_SpliceBenchModel_cardShown_I := hts (.fieldLink RX3 32 "SpliceBenchModel" "cardShown" "[I") (by decide +kernel)
  have hl := lv_entry ([.ref mm, .int s0]) (n := 4) (Nat.le_of_ble_eq_true rfl)
  rw [lg_entry_eq]
  generalize (lg_sl ([.ref mm, .int s0]) ++ List.replicate (4 - (lg_sl ([.ref mm, .int s0])).length) Slot.unset).toArray = ls at hl ⊢
  have hl : lv_has ls 4 [(0, .ref mm), (1, .int s0)] := hl
  refine lv_iload_n hx hb dX3_show_0 rfl (lv_at hl 1 rfl) ?_
  refine vp_callSi (W.runS (As := [.int s0]) (rest := []) F (c_X3_isSpindle) (cwS 1 hts gX3_show_X3_isSpindle rfl rfl rfl (by decide +kernel) ⟨Nat.le_of_ble_eq_true rfl, Nat.le_of_ble_eq_true rfl⟩) (mw_prS hK hO hW) rfl rfl hl.1 rfl (lv_room (Nat.le_of_ble_eq_true rfl)) dX3_show_1 ⟨Nat.zero_le _, Nat.zero_le _⟩) (fun r_1 er_1 => ?_)
  subst er_1
  refine lv_if_ne (tgt := 10) hx hb dX3_show_4 (by decide) (fun c_4 => ?_) (fun c_4 => ?_)
  · obtain ⟨j, hj, rfl⟩ := isSp_of (bI_n c_4)
    have esp_j := isSp_nI hj
    have eix_j : ix (nI j) = j := nI_clamp (by omega)
    refine lv_aload_n hx hb dX3_show_10 rfl (lv_at hl 0 rfl) ?_
    refine lv_iload_n hx hb dX3_show_11 rfl (lv_at hl 1 rfl) ?_
    refine vp_callSi (W.runV (As := [.int (nI j)]) (rest := []) F (c_X3_isRack hR (show j < 10 by omega) (hI.ho hj)) (cwV 1 hts gX3_show_X3_isRack rfl rfl rfl (by decide +kernel) ⟨Nat.le_of_ble_eq_true rfl, Nat.le_of_ble_eq_true rfl⟩) (mw_prV (q := (RX3, TX3, 14)) hK hO hW rfl hR.1) rfl rfl hl.1 rfl (lv_room (Nat.le_of_ble_eq_true rfl)) dX3_show_12 ⟨Nat.zero_le _, Nat.zero_le _⟩) (fun r_2 er_2 => ?_)
    subst er_2
    refine lv_if_ne (tgt := 20) hx hb dX3_show_15 (by decide) (fun c_15 => ?_) (fun c_15 => ?_)
    · have c_15 := bI_n c_15
      obtain ⟨k, n, hk, e9, hn, en, hrk⟩ := rk_row hI hj c_15
      have ez : szOf σ j = nI n := (szOf_row hk e9).trans en
      refine lv_iconst (v := 0) hx hb dX3_show_20 (by decide) ?_
      refine lv_istore_n (lv' := [(2, .int 0), (0, .ref mm), (1, .int (nI j))]) hx hb dX3_show_21 rfl hl (by decide) rfl (fun ls hl => ?_)
      refine lv_iconst (v := 0) hx hb dX3_show_22 (by decide) ?_
      refine lv_istore_n (lv' := [(3, .int 0), (2, .int 0), (0, .ref mm), (1, .int (nI j))]) hx hb dX3_show_23 rfl hl (by decide) rfl (fun ls hl => ?_)
      have hR : refAt cI cJ mm ad (wCs σ (shN (pV σ j) (sCs σ) 0)) _ := hR
      have loop : ∀ (N : Nat) (i : Nat) (M1 : Nat → Option va_E) (H : Heap) (locs : List Loc), n + 1 ≤ i + N → i ≤ n → mw D (mwA M s.heap.size) M1 H → va_S (mwA M s.heap.size) s.heap H locs → refAt cI cJ mm ad (wCs σ (shN (pV σ j) (sCs σ) i)) M1 → ∀ (ls : Array Slot), lv_has ls 4 [(3, .int (nI i)), (2, .int (nI (cntF (fun i => !decide (pV σ j i = 0)) i))), (0, .ref mm), (1, .int (nI j))] → W pr l env (headSpec wsX3_show rmX3_show).room s m ([.ref mm, .int (nI j)] : List Value).toArray below meth c H locs 0 0 (MQ below (va_Qi (fun r M' => r = (rfShow σ (nI j)).1 ∧ refAt cI cJ mm ad (rfShow σ (nI j)).2 M') (mwB D (tyL cI cJ cC cH) M s.heap.size) (mwA M s.heap.size)) ([.ref mm, .int (nI j)] : List Value).toArray s 0 0 (mwA M s.heap.size)) (F0 m 24 ls []) := by
        intro N
        induction N with
        | zero =>
          exact fun i M1 H locs h1 h2 => absurd h1 (by omega)
        | succ N ih =>
          intro i M1 H locs hN hi hW hS hR ls hl
          refine lv_iload_n hx hb dX3_show_24 rfl (lv_at hl 0 rfl) ?_
          refine lv_aload_n hx hb dX3_show_25 rfl (lv_at hl 2 rfl) ?_
          refine lv_iload_n hx hb dX3_show_26 rfl (lv_at hl 3 rfl) ?_
          refine vp_callSi (W.runV (As := [.int (nI j)]) (rest := [.int (nI i)]) F (c_X3_sizeOf hR (show j < 10 by omega) (hI.ho hj)) (cwV 1 hts gX3_show_X3_sizeOf rfl rfl rfl (by decide +kernel) ⟨Nat.le_of_ble_eq_true rfl, Nat.le_of_ble_eq_true rfl⟩) (mw_prV (q := (RX3, TX3, 14)) hK hO hW rfl (show _ = some (Sum.inr (3, [.ref (ad 0), .ref (ad 1), .ref (ad 2), .ref (ad 3), .ref (ad 4), .ref (ad 5), .ref (ad 6), .ref (ad 7), .ref (ad 8), .int (sCov σ), .int (sCam σ), .int (sGoo σ), .int (sRow σ), .int (sCar σ)])) from hR.1)) rfl rfl hl.1 rfl (lv_room (Nat.le_of_ble_eq_true rfl)) dX3_show_27 ⟨Nat.zero_le _, Nat.zero_le _⟩) (fun r_3 er_3 => ?_)
          subst er_3
          rw [show szOf (wCs σ (shN (pV σ j) (sCs σ) i)) j = nI n from ez]
          refine lv_icmp_ge (tgt := 74) hx hb dX3_show_30 (by decide) (fun c_30 => ?_) (fun c_30 => ?_)
          · refine lv_iload_n hx hb dX3_show_74 rfl (lv_at hl 1 rfl) ?_
            exact W.iret hx hb hr (fun t ht hw => ⟨⟨_, _, rfl, (by
              have e7 : i = n := by have := (nI_leI (by omega) (by omega)).mp c_30; omega
              have e8 : rfShow σ (nI j) = (nI (cntF (fun i => !decide (pV σ j i = 0)) i), wCs σ (shN (pV σ j) (sCs σ) i)) := by simp only [rfShow, esp_j, eix_j, c_15, ez, ix, nI_clamp (show n < 2 ^ 31 by omega), cntH, e7, if_true]
              rw [e8]; exact ⟨rfl, hR⟩), by rw [ht]; exact hW, va_K.moved hw.alike hK⟩, hS.F ht⟩) hS.2.2 dX3_show_75
          · have hin : i < n := by
              rcases Nat.lt_or_ge i n with h9 | h9
              · exact h9
              · exact absurd (nI_le h9 (by omega)) c_30
            have epv : pV σ j i = sPl σ (80 * k + i) := pV_row hk e9
            have hv2 := hI.v2 hj hk e9 hrk hn en hin
            refine lv_aload_n hx hb dX3_show_33 rfl (lv_at hl 2 rfl) ?_
            refine lv_iload_n hx hb dX3_show_34 rfl (lv_at hl 3 rfl) ?_
            refine lv_iload_n hx hb dX3_show_35 rfl (lv_at hl 0 rfl) ?_
            refine vp_callSl (W.runV (As := [.int (nI j), .int (nI i)]) (rest := []) F (c_X3_place (i := i) (k := k) hR (show j < 10 by omega) hk (show i < 80 by omega) e9) (cwV 2 hts gX3_show_X3_place rfl rfl rfl (by decide +kernel) ⟨Nat.le_of_ble_eq_true rfl, Nat.le_of_ble_eq_true rfl⟩) (mw_prV (q := (RX3, TX3, 14)) hK hO hW rfl (show _ = some (Sum.inr (3, [.ref (ad 0), .ref (ad 1), .ref (ad 2), .ref (ad 3), .ref (ad 4), .ref (ad 5), .ref (ad 6), .ref (ad 7), .ref (ad 8), .int (sCov σ), .int (sCam σ), .int (sGoo σ), .int (sRow σ), .int (sCar σ)])) from hR.1)) rfl rfl hl.1 rfl (lv_room (Nat.le_of_ble_eq_true rfl)) dX3_show_36 ⟨Nat.zero_le _, Nat.zero_le _⟩) (fun r_4 er_4 => ?_)
            subst er_4
            refine W.eq (g2 := F0 m 39 ls [.long (sPl σ (80 * k + i))]) rfl ?_
            refine lv_lconst (v := 0) hx hb dX3_show_39 (by decide) ?_
            refine W.lcmp hx hb dX3_show_40 ?_
            refine lv_if_ne (tgt := 47) hx hb dX3_show_41 (by decide) (fun c_41 => ?_) (fun c_41 => ?_)
            · have c_41 : ¬ (_ = _) := fun h9 => c_41 ((lg_cmp_eq _ _).mpr h9)
              refine lv_aload_n hx hb dX3_show_47 rfl (lv_at hl 2 rfl) ?_
              refine mw_get (C := RX3) (T := TX3) (N := 14) F hK hW hI_X3 (show _ = some (Sum.inr (3, [.ref (ad 0), .ref (ad 1), .ref (ad 2), .ref (ad 3), .ref (ad 4), .ref (ad 5), .ref (ad 6), .ref (ad 7), .ref (ad 8), .int (sCov σ), .int (sCam σ), .int (sGoo σ), .int (sRow σ), .int (sCar σ)])) from hR.1) rfl 7 (by decide) hl_fieldLink_RX3_32_SpliceBenchModel_cardShown_I rfl dX3_show_48 ?_
              refine lv_aload_n hx hb dX3_show_51 rfl (lv_at hl 2 rfl) ?_
              refine lv_iload_n hx hb dX3_show_52 rfl (lv_at hl 3 rfl) ?_
              refine lv_iload_n hx hb dX3_show_53 rfl (lv_at hl 0 rfl) ?_
              refine vp_callSl (W.runV (As := [.int (nI j), .int (nI i)]) (rest := [.ref (ad 7)]) F (c_X3_place (i := i) (k := k) hR (show j < 10 by omega) hk (show i < 80 by omega) e9) (cwV 2 hts gX3_show_X3_place rfl rfl rfl (by decide +kernel) ⟨Nat.le_of_ble_eq_true rfl, Nat.le_of_ble_eq_true rfl⟩) (mw_prV (q := (RX3, TX3, 14)) hK hO hW rfl (show _ = some (Sum.inr (3, [.ref (ad 0), .ref (ad 1), .ref (ad 2), .ref (ad 3), .ref (ad 4), .ref (ad 5), .ref (ad 6), .ref (ad 7), .ref (ad 8), .int (sCov σ), .int (sCam σ), .int (sGoo σ), .int (sRow σ), .int (sCar σ)])) from hR.1)) rfl rfl hl.1 rfl (lv_room (Nat.le_of_ble_eq_true rfl)) dX3_show_54 ⟨Nat.zero_le _, Nat.zero_le _⟩) (fun r_5 er_5 => ?_)
              subst er_5
              refine W.eq (g2 := F0 m 57 ls [.long (sPl σ (80 * k + i)), .ref (ad 7)]) rfl ?_
              refine lv_l2i hx hb dX3_show_57 rfl ?_
              refine lv_iconst (v := 1) hx hb dX3_show_58 (by decide) ?_
              refine lv_isub hx hb dX3_show_59 ?_
              obtain ⟨c9, hc9, e8⟩ := hv2.resolve_left c_41
              rw [show (sPl σ (80 * k + i)).toInt32 - 1 = nI c9 by rw [e8, lN_i, nI_pred]]
              refine lv_dup2_11 hx hb dX3_show_60 rfl rfl ?_
              refine mw_iald F hK hW 0 (show _ = some (Sum.inl (cI, 2000, Sum.inl (shN (pV σ j) (sCs σ) i))) from hR.2.2.2.2.2.2.2.2.1) rfl (vp_in_nI (show c9 < 2000 by omega) (by omega)) dX3_show_61 ?_
              rw [nI_clamp (show c9 < 2 ^ 31 by omega)]
              refine lv_iconst (v := 1) hx hb dX3_show_62 (by decide) ?_
              refine lv_iadd hx hb dX3_show_63 ?_
              refine mw_iast F hK hW hS 0 (show _ = some (Sum.inl (cI, 2000, Sum.inl (shN (pV σ j) (sCs σ) i))) from hR.2.2.2.2.2.2.2.2.1) rfl (vp_in_nI (show c9 < 2000 by omega) (by omega)) dX3_show_64 (fun H locs hW hS => ?_)
              rw [nI_clamp (show c9 < 2 ^ 31 by omega)] at hW
              have hR := hR.wCs (upd (shN (pV σ j) (sCs σ) i) c9 (((shN (pV σ j) (sCs σ) i) c9) + 1))
              refine lv_iinc (v := nI (cntF (fun i => !decide (pV σ j i = 0)) i + 1)) (lv' := [(2, .int (nI (cntF (fun i => !decide (pV σ j i = 0)) i + 1))), (3, .int (nI i)), (0, .ref mm), (1, .int (nI j))]) hx hb dX3_show_65 hl (k := 1) rfl (nI_1 _) (by decide) rfl (fun ls hl => ?_)
              refine lv_iinc (v := nI (i + 1)) (lv' := [(3, .int (nI (i + 1))), (2, .int (nI (cntF (fun i => !decide (pV σ j i = 0)) i + 1))), (0, .ref mm), (1, .int (nI j))]) hx hb dX3_show_68 hl (k := 1) rfl (nI_1 i) (by decide) rfl (fun ls hl => ?_)
              refine lv_goto (tgt := 24) hx hb dX3_show_71 (by decide) ?_
              have hc : nI (cntF (fun i => !decide (pV σ j i = 0)) i + 1) = nI (cntF (fun i => !decide (pV σ j i = 0)) (i + 1)) := by simp only [cntF, epv, decide_eq_false c_41]; rfl
              rw [hc] at hl
              have hR := hR.to (σ' := wCs σ (shN (pV σ j) (sCs σ) (i + 1))) (by
                have e7 : shN (pV σ j) (sCs σ) (i + 1) = upd (shN (pV σ j) (sCs σ) i) c9 ((shN (pV σ j) (sCs σ) i) c9 + 1) := by
                  show (if pV σ j i = 0 then _ else _) = _
                  rw [epv, if_neg c_41, e8, cIx_lN hc9]
                rw [e7]; rfl)
              exact ih (i + 1) _ H locs (by omega) (by omega) hW hS hR ls (lv_sub hl [0, 1, 2, 3] rfl)
            · have c_41 := (lg_cmp_eq _ _).mp c_41
              refine lv_goto (tgt := 68) hx hb dX3_show_44 (by decide) ?_
              refine lv_iinc (v := nI (i + 1)) (lv' := [(3, .int (nI (i + 1))), (2, .int (nI (cntF (fun i => !decide (pV σ j i = 0)) i))), (0, .ref mm), (1, .int (nI j))]) hx hb dX3_show_68 hl (k := 0) rfl (nI_1 i) (by decide) rfl (fun ls hl => ?_)
              refine lv_goto (tgt := 24) hx hb dX3_show_71 (by decide) ?_
              have hc : nI (cntF (fun i => !decide (pV σ j i = 0)) i) = nI (cntF (fun i => !decide (pV σ j i = 0)) (i + 1)) := by simp only [cntF, epv, decide_eq_true c_41]; rfl
              rw [hc] at hl
              have hR := hR.to (σ' := wCs σ (shN (pV σ j) (sCs σ) (i + 1))) (by
                have e7 : shN (pV σ j) (sCs σ) (i + 1) = shN (pV σ j) (sCs σ) i := by
                  show (if pV σ j i = 0 then _ else _) = _
                  rw [epv, if_pos c_41]
                rw [e7])
              exact ih (i + 1) _ H locs (by omega) (by omega) hW hS hR ls (lv_sub hl [0, 1, 2, 3] rfl)
      exact loop (n + 1) 0 _ _ _ (by omega) (Nat.zero_le _) hW hS hR ls (lv_sub hl [0, 1, 2, 3] rfl)
    · have c_15 := bI_e c_15
      refine lv_iconst (v := (-1)) hx hb dX3_show_18 (by decide) ?_
      exact W.iret hx hb hr (fun t ht hw => ⟨⟨_, _, rfl, (by
        have e8 : rfShow σ (nI j) = (-1, σ) := by simp [rfShow, esp_j, eix_j, c_15]
        rw [e8]; exact ⟨rfl, hR⟩), by rw [ht]; exact hW, va_K.moved hw.alike hK⟩, hS.F ht⟩) hS.2.2 dX3_show_19
  · have c_4 := bI_e c_4
    refine lv_bipush (v := (-9)) hx hb dX3_show_7 (by decide) ?_
    exact W.iret hx hb hr (fun t ht hw => ⟨⟨_, _, rfl, (by
      have e8 : rfShow σ s0 = (-9, σ) := by simp [rfShow, c_4]
      rw [e8]; exact ⟨rfl, hR⟩), by rw [ht]; exact hW, va_K.moved hw.alike hK⟩, hS.F ht⟩) hS.2.2 dX3_show_9
end X3D
end
section
/-! ===== what put, hold, open, close and move do ===== -/
theorem pig : ∀ (n : Nat) (f : Nat → Nat), (∀ q, q ≤ n → f q < n) → ∃ a b, a < b ∧ b ≤ n ∧ f a = f b
  | 0, f, h => absurd (h 0 (Nat.le_refl 0)) (Nat.not_lt_zero _)
  | n + 1, f, h => by
    by_cases h1 : ∃ a, a ≤ n ∧ f a = f (n + 1)
    · obtain ⟨a, ha, e⟩ := h1
      exact ⟨a, n + 1, by omega, Nat.le_refl _, e⟩
    · have h2 : ∀ a, a ≤ n → f a ≠ f (n + 1) := fun a ha e => h1 ⟨a, ha, e⟩
      obtain ⟨a, b, hab, hb, e⟩ := pig n (fun q => if f q = n then f (n + 1) else f q) (fun q hq => by
        have h3 := h q (by omega)
        have h4 := h (n + 1) (Nat.le_refl _)
        have h5 := h2 q hq
        show (if f q = n then f (n + 1) else f q) < n
        split <;> omega)
      have ha2 := h2 a (by omega)
      have hb2 := h2 b hb
      refine ⟨a, b, hab, by omega, ?_⟩
      have e' : (if f a = n then f (n + 1) else f a) = (if f b = n then f (n + 1) else f b) := e
      split at e' <;> split at e' <;> omega
theorem anyN_t {P : Nat → Bool} : ∀ {n : Nat}, anyN P n = true → ∃ j, j < n ∧ P j = true
  | 0, h => by cases h
  | n + 1, h => by
    simp only [anyN, Bool.or_eq_true] at h
    rcases h with h | h
    · obtain ⟨j, hj, e⟩ := anyN_t h
      exact ⟨j, by omega, e⟩
    · exact ⟨n, by omega, h⟩
theorem anyN_f {P : Nat → Bool} : ∀ {n : Nat}, anyN P n = false → ∀ j, j < n → P j = false
  | 0, _, j, h => absurd h (Nat.not_lt_zero j)
  | n + 1, h, j, hj => by
    simp only [anyN, Bool.or_eq_false_iff] at h
    by_cases h1 : j < n
    · exact anyN_f h.1 j h1
    · rw [show j = n by omega]; exact h.2
theorem heldB_t {σ : RS} {t : Int32} (h : heldB σ t = true) : ∃ j, j < 10 ∧ sHo σ j = t := by
  obtain ⟨j, hj, e⟩ := anyN_t h
  exact ⟨j, hj, of_decide_eq_true e⟩
theorem heldB_f {σ : RS} {t : Int32} (h : heldB σ t = false) {j : Nat} (hj : j < 10) : ¬ sHo σ j = t := of_decide_eq_false (anyN_f h j hj)
theorem lab_inj : ∀ a, a < 10 → ∀ b, b < 10 → (-1 - nI a : Int32) = -1 - nI b → a = b := by decide +kernel
theorem row_inj : ∀ a, a < 12 → ∀ b, b < 12 → nI (a + 1) = nI (b + 1) → a = b := by decide +kernel
theorem nI12_inj : ∀ a, a < 12 → ∀ b, b < 12 → nI a = nI b → a = b := by decide +kernel
theorem lab_row : ∀ a, a < 10 → ∀ b, b < 12 → ¬ (-1 - nI a : Int32) = nI (b + 1) := by decide +kernel
/-- a label's place is free -/
theorem lab_free {σ : RS} {j : Nat} (hj : j < 10) (h0 : sHo σ j = 0) : lead (fun q => heldB σ (-1 - nI q)) 10 < 10 := by
  rcases Nat.lt_or_ge (lead (fun q => heldB σ (-1 - nI q)) 10) 10 with h | h
  · exact h
  · exfalso
    have e : lead (fun q => heldB σ (-1 - nI q)) 10 = 10 := Nat.le_antisymm (lead_le _ _) h
    have hall : ∀ q, q < 10 → ∃ i, i < 10 ∧ sHo σ i = -1 - nI q := fun q hq => heldB_t (lead_all _ 10 q (by rw [e]; exact hq))
    have key : ∀ q, q < 10 → lead (fun x => !decide (sHo σ x = -1 - nI q)) 10 < 10 ∧ sHo σ (lead (fun x => !decide (sHo σ x = -1 - nI q)) 10) = -1 - nI q := by
      intro q hq
      obtain ⟨i, hi, e1⟩ := hall q hq
      have l1 : lead (fun x => !decide (sHo σ x = -1 - nI q)) 10 ≤ i := by
        rcases Nat.lt_or_ge i (lead (fun x => !decide (sHo σ x = -1 - nI q)) 10) with h9 | h9
        · have := lead_all _ 10 i h9
          simp [e1] at this
        · exact h9
      have l2 : lead (fun x => !decide (sHo σ x = -1 - nI q)) 10 < 10 := by omega
      have := lead_stop _ 10 l2
      exact ⟨l2, by simpa using this⟩
    have key2 : ∀ q, q < 10 → lead (fun x => !decide (sHo σ x = -1 - nI q)) 10 ≠ j := fun q hq z => by
      have := (key q hq).2
      rw [z, h0] at this
      exact absurd this.symm (lab_n0 hq)
    obtain ⟨a, b, hab, hb, he⟩ := pig 9 (fun q => if lead (fun x => !decide (sHo σ x = -1 - nI q)) 10 < j then lead (fun x => !decide (sHo σ x = -1 - nI q)) 10 else lead (fun x => !decide (sHo σ x = -1 - nI q)) 10 - 1) (fun q hq => by
      have k1 := key q (by omega)
      have k2 := key2 q (by omega)
      split <;> omega)
    have ka := key a (by omega)
    have kb := key b (by omega)
    have na : lead (fun x => !decide (sHo σ x = -1 - nI a)) 10 ≠ j := fun z => by rw [z, h0] at ka; exact absurd ka.2.symm (lab_n0 (by omega))
    have nb : lead (fun x => !decide (sHo σ x = -1 - nI b)) 10 ≠ j := fun z => by rw [z, h0] at kb; exact absurd kb.2.symm (lab_n0 (by omega))
    have he' : (if lead (fun x => !decide (sHo σ x = -1 - nI a)) 10 < j then lead (fun x => !decide (sHo σ x = -1 - nI a)) 10 else lead (fun x => !decide (sHo σ x = -1 - nI a)) 10 - 1) = (if lead (fun x => !decide (sHo σ x = -1 - nI b)) 10 < j then lead (fun x => !decide (sHo σ x = -1 - nI b)) 10 else lead (fun x => !decide (sHo σ x = -1 - nI b)) 10 - 1) := he
    have e3 : lead (fun x => !decide (sHo σ x = -1 - nI a)) 10 = lead (fun x => !decide (sHo σ x = -1 - nI b)) 10 := by
      split at he' <;> split at he' <;> omega
    have e4 := ka.2
    rw [e3, kb.2] at e4
    have := lab_inj b (by omega) a (by omega) e4
    omega
def occR (σ : RS) (q : Nat) : Bool := decide (nI q = sCov σ) || heldB σ (nI (q + 1))
/-- a row's place is free -/
theorem row_free {σ : RS} {j : Nat} (hj : j < 10) (h0 : sHo σ j = 0) : lead (occR σ) 12 < 12 := by
  rcases Nat.lt_or_ge (lead (occR σ) 12) 12 with h | h
  · exact h
  · exfalso
    have e : lead (occR σ) 12 = 12 := Nat.le_antisymm (lead_le _ _) h
    have hall : ∀ q, q < 12 → ¬ nI q = sCov σ → ∃ i, i < 10 ∧ sHo σ i = nI (q + 1) := fun q hq hc => by
      have := lead_all _ 12 q (by rw [e]; exact hq)
      simp only [occR, Bool.or_eq_true, decide_eq_true_eq] at this
      exact heldB_t (this.resolve_left hc)
    have key : ∀ q, q < 12 → ¬ nI q = sCov σ → lead (fun x => !decide (sHo σ x = nI (q + 1))) 10 < 10 ∧ sHo σ (lead (fun x => !decide (sHo σ x = nI (q + 1))) 10) = nI (q + 1) ∧ lead (fun x => !decide (sHo σ x = nI (q + 1))) 10 ≠ j := by
      intro q hq hc
      obtain ⟨i, hi, e1⟩ := hall q hq hc
      have l1 : lead (fun x => !decide (sHo σ x = nI (q + 1))) 10 ≤ i := by
        rcases Nat.lt_or_ge i (lead (fun x => !decide (sHo σ x = nI (q + 1))) 10) with h9 | h9
        · have := lead_all _ 10 i h9
          simp [e1] at this
        · exact h9
      have l2 : lead (fun x => !decide (sHo σ x = nI (q + 1))) 10 < 10 := by omega
      have := lead_stop _ 10 l2
      have l3 : sHo σ (lead (fun x => !decide (sHo σ x = nI (q + 1))) 10) = nI (q + 1) := by simpa using this
      exact ⟨l2, l3, fun z => by rw [z, h0] at l3; exact absurd l3.symm (row_n0 hq)⟩
    obtain ⟨a, b, hab, hb, he⟩ := pig 10 (fun q => if nI q = sCov σ then 9 else if lead (fun x => !decide (sHo σ x = nI (q + 1))) 10 < j then lead (fun x => !decide (sHo σ x = nI (q + 1))) 10 else lead (fun x => !decide (sHo σ x = nI (q + 1))) 10 - 1) (fun q hq => by
      show (if _ then _ else _) < 10
      by_cases hc : nI q = sCov σ
      · rw [if_pos hc]; decide
      · rw [if_neg hc]
        have := key q (by omega) hc
        split <;> omega)
    have he' : (if nI a = sCov σ then 9 else if lead (fun x => !decide (sHo σ x = nI (a + 1))) 10 < j then lead (fun x => !decide (sHo σ x = nI (a + 1))) 10 else lead (fun x => !decide (sHo σ x = nI (a + 1))) 10 - 1) = (if nI b = sCov σ then 9 else if lead (fun x => !decide (sHo σ x = nI (b + 1))) 10 < j then lead (fun x => !decide (sHo σ x = nI (b + 1))) 10 else lead (fun x => !decide (sHo σ x = nI (b + 1))) 10 - 1) := he
    by_cases ca : nI a = sCov σ
    · by_cases cb : nI b = sCov σ
      · have := nI12_inj a (by omega) b (by omega) (ca.trans cb.symm)
        omega
      · rw [if_pos ca, if_neg cb] at he'
        have := key b (by omega) cb
        split at he' <;> omega
    · by_cases cb : nI b = sCov σ
      · rw [if_neg ca, if_pos cb] at he'
        have := key a (by omega) ca
        split at he' <;> omega
      · rw [if_neg ca, if_neg cb] at he'
        have ka := key a (by omega) ca
        have kb := key b (by omega) cb
        have e3 : lead (fun x => !decide (sHo σ x = nI (a + 1))) 10 = lead (fun x => !decide (sHo σ x = nI (b + 1))) 10 := by
          split at he' <;> split at he' <;> omega
        have e4 := ka.2.1
        rw [e3, kb.2.1] at e4
        have := row_inj b (by omega) a (by omega) e4
        omega
/-- spindle j taken empty -/
def rfOff (σ : RS) (j : Nat) : RS := wHo σ (upd (sHo σ) j 0)
def labQ (σ : RS) (j : Nat) : Nat := lead (fun q => heldB (rfOff σ j) (-1 - nI q)) 10
def rowQ (σ : RS) (j : Nat) : Nat := lead (occR (rfOff σ j)) 12
def rfLab (σ : RS) (j : Nat) (n : Int32) : RS := wHo (wLa (rfOff σ j) (upd (sLa σ) (labQ σ j) n)) (upd (upd (sHo σ) j 0) j (-1 - nI (labQ σ j)))
def rfRow (σ : RS) (j : Nat) (k : Int32) (n : Nat) : RS := wHo (wRow (wPl (wSi (wKi (rfOff σ j) (upd (sKi σ) (rowQ σ j) k)) (upd (sSi σ) (rowQ σ j) (nI n))) (blk (80 * rowQ σ j) (80 * rowQ σ j + n) 0 (sPl σ))) (sRow σ + 1)) (upd (upd (sHo σ) j 0) j (nI (rowQ σ j + 1)))
def rfHold (σ : RS) (s k n : Int32) : Int32 × RS := if isSp s = true then (if k < 0 ∨ 5 < k then (0, σ) else if 2 ≤ k then (if n < 0 ∨ 80 < n ∨ sRow σ = 600 then (0, σ) else (1, rfRow σ (ix s) k (ix n))) else if k = 0 then (1, rfOff σ (ix s)) else (1, rfLab σ (ix s) n)) else (-9, σ)
def rfCard (σ : RS) (v : Int64) : RS := wCar (wCs (wCn σ (vp_updL (sCn σ) (ix (sCar σ)) v)) (upd (sCs σ) (ix (sCar σ)) 0)) (sCar σ + 1)
def rfPut (σ : RS) (s i : Int32) (v : Int64) : Int32 × RS := if isSp s = true then (if kOf σ (ix s) = 0 then (-1, σ) else if kOf σ (ix s) = 1 then (1, wLa σ (upd (sLa σ) (ix (-1 - sHo σ (ix s))) v.toInt32)) else if rkOf σ (ix s) = true ∧ ¬ v = 0 ∧ sCar σ = 2000 then (0, σ) else if inPl i (szOf σ (ix s)) = true then (if kOf σ (ix s) = 5 ∧ v &&& 1 = 1 then (-4, σ) else if rkOf σ (ix s) = true ∧ ¬ v = 0 then (1, wPl (rfCard σ v) (vp_updL (sPl σ) (80 * rIx σ (ix s) + ix i) (sCar σ + 1).toInt64)) else (1, wPl σ (vp_updL (sPl σ) (80 * rIx σ (ix s) + ix i) (if kOf σ (ix s) = 2 then v.toInt32.toInt64 else v)))) else (-3, σ)) else (-9, σ)
/-- a row's places behind a gap (up) or a closing -/
def shP (up : Bool) (i n e : Nat) (P : Nat → Int64) (x : Nat) : Int64 := if up = true then (if x < i + n then 0 else P (x - n)) else (if x + n < e then P (x + n) else 0)
def shPl (up : Bool) (k i n e : Nat) (P : Nat → Int64) : Nat → Int64 := fun y => if 80 * k + i ≤ y ∧ y < 80 * k + e then shP up i n e (fun x => P (80 * k + x)) (y - 80 * k) else P y
def rfShiftOk (σ : RS) (up : Bool) (k i n e : Nat) : RS := wGoo (wCam (wPl (rfCover σ k e) (shPl up k i n e (sPl σ))) (nI (e - i - n))) (sGoo σ + 1)
def rfShift (σ : RS) (s i n : Int32) (up : Bool) : Int32 × RS := if isSp s = true then (if hindI σ (ix s) i n = 0 then (1, rfShiftOk σ up (rIx σ (ix s)) (ix i) (ix n) (ix (szOf σ (ix s)))) else (-hindI σ (ix s) i n, rfFails σ (ix (hindI σ (ix s) i n)))) else (-9, σ)
def mvN (σ : RS) (js jt i n : Nat) : Nat := lead (fun q => !(decide (kOf σ jt = 5) && plainV σ (pV σ js (i + q)))) n
def rfMvCov (σ : RS) (kt et many : Nat) : RS := if 0 < many then rfCover σ kt et else σ
def rfMvPl (σ : RS) (ks kt et i j many : Nat) : RS := wPl (rfMvCov σ kt et many) (va_cpy (sPl σ) (sPl σ) (80 * ks + i) (80 * kt + j) many)
def rfMvOk (σ : RS) (ks kt et i j n many : Nat) : Int32 × RS := if many < n then (-4, wCam (rfFails (rfMvPl σ ks kt et i j many) 4) (nI many)) else (nI n, wGoo (wCam (rfMvPl σ ks kt et i j many) (nI n)) (sGoo σ + 1))
def mvF (σ : RS) (js jt : Nat) (i j n : Int32) : Nat := if kOf σ js = 0 ∨ kOf σ jt = 0 then 1 else if kOf σ js = 1 ∨ kOf σ jt = 1 ∨ (¬ kOf σ js = kOf σ jt ∧ (kOf σ js < 4 ∨ kOf σ jt < 4)) then 2 else if beyB i n (szOf σ js) = true ∨ beyB j n (szOf σ jt) = true then 3 else 0
def rfMove (σ : RS) (s i t j n : Int32) : Int32 × RS := if isSp s = true ∧ isSp t = true then (if mvF σ (ix s) (ix t) i j n = 0 then rfMvOk σ (rIx σ (ix s)) (rIx σ (ix t)) (ix (szOf σ (ix t))) (ix i) (ix j) (ix n) (mvN σ (ix s) (ix t) (ix i) (ix n)) else (-nI (mvF σ (ix s) (ix t) i j n), rfFails σ (mvF σ (ix s) (ix t) i j n))) else (-9, σ)
end
section
section X3P
variable {l : Launch} {D : va_G} {cI cJ cC cH : ClassId} {M : Nat → Option va_E} {sz : Nat}
abbrev rmX3_put : Room := ({ frames := 3, cells := 0, slots := 0, locals := 64 } : Room)
set_option maxHeartbeats 4000000 in
set_option maxRecDepth 100000 in
theorem c_X3_put {mm : Nat} {ad : Nat → Nat} {σ : RS} (hR : refAt cI cJ mm ad σ M) {cc : Nat} (hI : Inv σ cc) {s0 i : Int32} {v : Int64} : Met l yX3_put wsX3_put rmX3_put (va_Pc [.ref mm, .int s0, .int i, .long v] (mwPre D (tyL cI cJ cC cH) M sz)) (va_Qi (fun r M' => r = (rfPut σ s0 i v).1 ∧ refAt cI cJ mm ad (rfPut σ s0 i v).2 M') (mwB D (tyL cI cJ cC cH) M sz) (mwA M sz)) 0 0 (mwA M sz) := by
  refine Met.ofW (cc := cX3_put) (maxL := 9) (ret := (some .int)) (by decide) rfl ?_
  intro pr env s m args below meth c s₁ B hml hv
  obtain ⟨rfl, hsz, hW, hK, hO⟩ := hv
  subst hsz
  have hW := hW.self (sz := s.heap.size)
  have hS : va_S (mwA M s.heap.size) s.heap s.heap [] := va_S.rf
  have hA : ∀ q, s.heap.size ≤ q → mwA M s.heap.size q := fun q h => Or.inr h
  have hx := B.exec
  have hb := B.bytes
  have hr := B.returns
  have hts := atoms_spec (ws := wsX3_put) B.pre
  have hown : s.vm.findClass RX3 = some m.cls := findClass_of_methodNamed B.named
  have hlocks := B.notSynchronized
  have F : CallFix pr m c cX3_put 9 s ([.ref mm, .int s0, .int i, .long v] : List Value).toArray wsX3_put RX3 := ⟨hx, hb, hml, hown, hts⟩
  have hI_X3 : ∀ w ∈ wsX30, w ∈ wsX3_put := by decide +kernel
  have hl_fieldLink_RX3_22_SpliceBenchModel_places_J := hts (.fieldLink RX3 22 "SpliceBenchModel" "places" "[J") (by decide +kernel)
  have hl_fieldLink_RX3_7_SpliceBenchModel_holds_I := hts (.fieldLink RX3 7 "SpliceBenchModel" "holds" "[I") (by decide +kernel)
  have hl_fieldLink_RX3_62_SpliceBenchModel_cards_I := hts (.fieldLink RX3 62 "SpliceBenchModel" "cards" "I") (by decide +kernel)
  have hl_fieldLink_RX3_29_SpliceBenchModel_cardNumber_J := hts (.fieldLink RX3 29 "SpliceBenchModel" "cardNumber" "[J") (by decide +kernel)
  have hl_fieldLink_RX3_32_SpliceBenchModel_cardShown_I := hts (.fieldLink RX3 32 "SpliceBenchModel" "cardShown" "[I") (by decide +kernel)
  have hl_fieldLink_RX3_13_SpliceBenchModel_labels_I := hts (.fieldLink RX3 13 "SpliceBenchModel" "labels" "[I") (by decide +kernel)
  obtain ⟨b, hb9, eb, -⟩ := hI.2.2.2.2.2.2
  have h512 := hI.1
  have hl := lv_entry ([.ref mm, .int s0, .int i, .long v]) (n := 9) (Nat.le_of_ble_eq_true rfl)
  rw [lg_entry_eq]
  generalize (lg_sl ([.ref mm, .int s0, .int i, .long v]) ++ List.replicate (9 - (lg_sl ([.ref mm, .int s0, .int i, .long v])).length) Slot.unset).toArray = ls at hl ⊢
  have hl : lv_has ls 9 [(0, .ref mm), (1, .int s0), (2, .int i), (3, .long v)] := hl
  refine lv_iload_n hx hb dX3_put_0 rfl (lv_at hl 1 rfl) ?_
  refine vp_callSi (W.runS (As := [.int s0]) (rest := []) F (c_X3_isSpindle) (cwS 1 hts gX3_put_X3_isSpindle rfl rfl rfl (by decide +kernel) ⟨Nat.le_of_ble_eq_true rfl, Nat.le_of_ble_eq_true rfl⟩) (mw_prS hK hO hW) rfl rfl hl.1 rfl (lv_room (Nat.le_of_ble_eq_true rfl)) dX3_put_1 ⟨Nat.zero_le _, Nat.zero_le _⟩) (fun r_1 er_1 => ?_)
  subst er_1
  refine lv_if_ne (tgt := 10) hx hb dX3_put_4 (by decide) (fun c_4 => ?_) (fun c_4 => ?_)
  · obtain ⟨j, hj, rfl⟩ := isSp_of (bI_n c_4)
    have esp_j := isSp_nI hj
    have eix_j : ix (nI j) = j := nI_clamp (by omega)
    refine lv_aload_n hx hb dX3_put_10 rfl (lv_at hl 0 rfl) ?_
    refine lv_iload_n hx hb dX3_put_11 rfl (lv_at hl 1 rfl) ?_
    refine vp_callSi (W.runV (As := [.int (nI j)]) (rest := []) F (c_X3_kindOf hR (show j < 10 by omega) (hI.ho hj)) (cwV 1 hts gX3_put_X3_kindOf rfl rfl rfl (by decide +kernel) ⟨Nat.le_of_ble_eq_true rfl, Nat.le_of_ble_eq_true rfl⟩) (mw_prV (q := (RX3, TX3, 14)) hK hO hW rfl hR.1) rfl rfl hl.1 rfl (lv_room (Nat.le_of_ble_eq_true rfl)) dX3_put_12 ⟨Nat.zero_le _, Nat.zero_le _⟩) (fun r_2 er_2 => ?_)
    subst er_2
    refine lv_istore (lv' := [(5, .int (kOf σ j)), (0, .ref mm), (1, .int (nI j)), (2, .int i), (3, .long v)]) hx hb dX3_put_15 hl (by decide) rfl (fun ls hl => ?_)
    refine lv_iload hx hb dX3_put_17 (lv_at hl 0 rfl) ?_
    refine lv_if_ne (tgt := 24) hx hb dX3_put_19 (by decide) (fun c_19 => ?_) (fun c_19 => ?_)
    · refine lv_iload hx hb dX3_put_24 (lv_at hl 0 rfl) ?_
      refine lv_iconst (v := 1) hx hb dX3_put_26 (by decide) ?_
      refine lv_icmp_ne (tgt := 47) hx hb dX3_put_27 (by decide) (fun c_27 => ?_) (fun c_27 => ?_)
      · refine lv_iload hx hb dX3_put_47 (lv_at hl 0 rfl) ?_
        refine lv_iconst (v := 4) hx hb dX3_put_49 (by decide) ?_
        refine lv_icmp_lt (tgt := 63) hx hb dX3_put_50 (by decide) (fun c_50 => ?_) (fun c_50 => ?_)
        · have hrk : rkOf σ j = false := by unfold rkOf; exact decide_eq_false (Int32.not_le.mpr c_50)
          refine lv_iconst (v := 0) hx hb dX3_put_63 (by decide) ?_
          refine lv_istore (lv' := [(6, .int 0), (5, .int (kOf σ j)), (0, .ref mm), (1, .int (nI j)), (2, .int i), (3, .long v)]) hx hb dX3_put_64 hl (by decide) rfl (fun ls hl => ?_)
          refine lv_iload hx hb dX3_put_66 (lv_at hl 0 rfl) ?_
          refine lv_if_eq (tgt := 83) hx hb dX3_put_68 (by decide) (fun c_68 => ?_) (fun c_68 => ?_)
          · refine lv_aload_n hx hb dX3_put_83 rfl (lv_at hl 2 rfl) ?_
            refine lv_iload_n hx hb dX3_put_84 rfl (lv_at hl 3 rfl) ?_
            refine lv_iload_n hx hb dX3_put_85 rfl (lv_at hl 4 rfl) ?_
            refine vp_callSi (W.runV (As := [.int (nI j), .int i]) (rest := []) F (c_X3_isPlace (i := i) hR (show j < 10 by omega) (hI.ho hj)) (cwV 2 hts gX3_put_X3_isPlace rfl rfl rfl (by decide +kernel) ⟨Nat.le_of_ble_eq_true rfl, Nat.le_of_ble_eq_true rfl⟩) (mw_prV (q := (RX3, TX3, 14)) hK hO hW rfl hR.1) rfl rfl hl.1 rfl (lv_room (Nat.le_of_ble_eq_true rfl)) dX3_put_86 ⟨Nat.zero_le _, Nat.zero_le _⟩) (fun r_3 er_3 => ?_)
            subst er_3
            refine lv_if_ne (tgt := 95) hx hb dX3_put_89 (by decide) (fun c_89 => ?_) (fun c_89 => ?_)
            · have c_89 := bI_n c_89
              obtain ⟨k9, n9, i9, hk9, e9, hn9, en9, hi9, rfl⟩ := hI.place hj c_89
              have eix_i : ix (nI i9) = i9 := nI_clamp (by omega)
              have epv : pV σ j i9 = sPl σ (80 * k9 + i9) := pV_row hk9 e9
              refine lv_iload hx hb dX3_put_95 (lv_at hl 1 rfl) ?_
              refine lv_iconst (v := 5) hx hb dX3_put_97 (by decide) ?_
              refine lv_icmp_ne (tgt := 112) hx hb dX3_put_98 (by decide) (fun c_98 => ?_) (fun c_98 => ?_)
              · refine lv_iload hx hb dX3_put_112 (lv_at hl 1 rfl) ?_
                refine lv_iconst (v := 2) hx hb dX3_put_114 (by decide) ?_
                refine lv_icmp_ne (tgt := 124) hx hb dX3_put_115 (by decide) (fun c_115 => ?_) (fun c_115 => ?_)
                · refine lv_lload_n hx hb dX3_put_124 rfl (lv_at hl 5 rfl) ?_
                  refine lv_lstore (lv' := [(7, .long v), (6, .int 0), (5, .int (kOf σ j)), (0, .ref mm), (1, .int (nI j)), (2, .int (nI i9)), (3, .long v)]) hx hb dX3_put_125 hl (by decide) rfl (fun ls hl => ?_)
                  refine lv_iload hx hb dX3_put_127 (lv_at hl 1 rfl) ?_
                  refine lv_if_eq (tgt := 169) hx hb dX3_put_129 (by decide) (fun c_129 => ?_) (fun c_129 => ?_)
                  · refine lv_aload_n hx hb dX3_put_169 rfl (lv_at hl 3 rfl) ?_
                    refine mw_get (C := RX3) (T := TX3) (N := 14) F hK hW hI_X3 hR.1 rfl 4 (by decide) hl_fieldLink_RX3_22_SpliceBenchModel_places_J rfl dX3_put_170 ?_
                    refine lv_bipush (v := 80) hx hb dX3_put_173 (by decide) ?_
                    refine lv_aload_n hx hb dX3_put_175 rfl (lv_at hl 3 rfl) ?_
                    refine mw_get (C := RX3) (T := TX3) (N := 14) F hK hW hI_X3 hR.1 rfl 0 (by decide) hl_fieldLink_RX3_7_SpliceBenchModel_holds_I rfl dX3_put_176 ?_
                    refine lv_iload_n hx hb dX3_put_179 rfl (lv_at hl 4 rfl) ?_
                    refine mw_iald F hK hW 0 hR.2.1 rfl (vp_in_nI (show j < 10 by omega) (by omega)) dX3_put_180 ?_
                    rw [nI_clamp (show j < 2 ^ 31 by omega)]
                    refine lv_iconst (v := 1) hx hb dX3_put_181 (by decide) ?_
                    refine lv_isub hx hb dX3_put_182 ?_
                    rw [e9, nI_pred]
                    refine lv_imul hx hb dX3_put_183 ?_
                    rw [show (80 : Int32) = nI 80 from rfl, pk_mul]
                    refine lv_iload_n hx hb dX3_put_184 rfl (lv_at hl 5 rfl) ?_
                    refine lv_iadd hx hb dX3_put_185 ?_
                    rw [nI_add]
                    refine lv_lload hx hb dX3_put_186 (lv_at hl 0 rfl) ?_
                    refine mw_last F hK hW hS 1 hR.2.2.2.2.2.1 rfl (vp_in_nI (show (80 * k9 + i9) < 960 by omega) (by omega)) dX3_put_188 (fun H locs hW hS => ?_)
                    rw [nI_clamp (show (80 * k9 + i9) < 2 ^ 31 by omega)] at hW
                    have hR := hR.wPl (vp_updL (sPl σ) (80 * k9 + i9) v)
                    refine lv_iconst (v := 1) hx hb dX3_put_189 (by decide) ?_
                    exact W.iret hx hb hr (fun t ht hw => ⟨⟨_, _, rfl, (by
                      have e8 : rfPut σ (nI j) (nI i9) v = (1, wPl σ (vp_updL (sPl σ) (80 * k9 + i9) v)) := by simp [rfPut, esp_j, eix_j, rIx_row hk9 e9, nI_clamp (show i9 < 2 ^ 31 by omega), c_19, c_27, hrk, c_89, c_98, c_115]
                      rw [e8]; exact ⟨rfl, hR⟩), by rw [ht]; exact hW, va_K.moved hw.alike hK⟩, hS.F ht⟩) hS.2.2 dX3_put_190
                  · exact absurd c_129 (by decide)
                · refine lv_lload_n hx hb dX3_put_118 rfl (lv_at hl 5 rfl) ?_
                  refine lv_l2i hx hb dX3_put_119 rfl ?_
                  refine lv_i2l hx hb dX3_put_120 rfl ?_
                  refine lv_goto (tgt := 125) hx hb dX3_put_121 (by decide) ?_
                  refine lv_lstore (lv' := [(7, .long v.toInt32.toInt64), (6, .int 0), (5, .int (kOf σ j)), (0, .ref mm), (1, .int (nI j)), (2, .int (nI i9)), (3, .long v)]) hx hb dX3_put_125 hl (by decide) rfl (fun ls hl => ?_)
                  refine lv_iload hx hb dX3_put_127 (lv_at hl 1 rfl) ?_
                  refine lv_if_eq (tgt := 169) hx hb dX3_put_129 (by decide) (fun c_129 => ?_) (fun c_129 => ?_)
                  · refine lv_aload_n hx hb dX3_put_169 rfl (lv_at hl 3 rfl) ?_
                    refine mw_get (C := RX3) (T := TX3) (N := 14) F hK hW hI_X3 hR.1 rfl 4 (by decide) hl_fieldLink_RX3_22_SpliceBenchModel_places_J rfl dX3_put_170 ?_
                    refine lv_bipush (v := 80) hx hb dX3_put_173 (by decide) ?_
                    refine lv_aload_n hx hb dX3_put_175 rfl (lv_at hl 3 rfl) ?_
                    refine mw_get (C := RX3) (T := TX3) (N := 14) F hK hW hI_X3 hR.1 rfl 0 (by decide) hl_fieldLink_RX3_7_SpliceBenchModel_holds_I rfl dX3_put_176 ?_
                    refine lv_iload_n hx hb dX3_put_179 rfl (lv_at hl 4 rfl) ?_
                    refine mw_iald F hK hW 0 hR.2.1 rfl (vp_in_nI (show j < 10 by omega) (by omega)) dX3_put_180 ?_
                    rw [nI_clamp (show j < 2 ^ 31 by omega)]
                    refine lv_iconst (v := 1) hx hb dX3_put_181 (by decide) ?_
                    refine lv_isub hx hb dX3_put_182 ?_
                    rw [e9, nI_pred]
                    refine lv_imul hx hb dX3_put_183 ?_
                    rw [show (80 : Int32) = nI 80 from rfl, pk_mul]
                    refine lv_iload_n hx hb dX3_put_184 rfl (lv_at hl 5 rfl) ?_
                    refine lv_iadd hx hb dX3_put_185 ?_
                    rw [nI_add]
                    refine lv_lload hx hb dX3_put_186 (lv_at hl 0 rfl) ?_
                    refine mw_last F hK hW hS 1 hR.2.2.2.2.2.1 rfl (vp_in_nI (show (80 * k9 + i9) < 960 by omega) (by omega)) dX3_put_188 (fun H locs hW hS => ?_)
                    rw [nI_clamp (show (80 * k9 + i9) < 2 ^ 31 by omega)] at hW
                    have hR := hR.wPl (vp_updL (sPl σ) (80 * k9 + i9) v.toInt32.toInt64)
                    refine lv_iconst (v := 1) hx hb dX3_put_189 (by decide) ?_
                    exact W.iret hx hb hr (fun t ht hw => ⟨⟨_, _, rfl, (by
                      have e8 : rfPut σ (nI j) (nI i9) v = (1, wPl σ (vp_updL (sPl σ) (80 * k9 + i9) v.toInt32.toInt64)) := by simp [rfPut, esp_j, eix_j, rIx_row hk9 e9, nI_clamp (show i9 < 2 ^ 31 by omega), c_19, c_27, hrk, c_89, c_98, c_115]
                      rw [e8]; exact ⟨rfl, hR⟩), by rw [ht]; exact hW, va_K.moved hw.alike hK⟩, hS.F ht⟩) hS.2.2 dX3_put_190
                  · exact absurd c_129 (by decide)
              · rw [c_98] at c_50
                exact absurd c_50 (by decide)
            · have c_89 := bI_e c_89
              refine lv_bipush (v := (-3)) hx hb dX3_put_92 (by decide) ?_
              exact W.iret hx hb hr (fun t ht hw => ⟨⟨_, _, rfl, (by
                have e8 : rfPut σ (nI j) i v = ((-3), σ) := by simp [rfPut, esp_j, eix_j, c_19, c_27, hrk, c_89]
                rw [e8]; exact ⟨rfl, hR⟩), by rw [ht]; exact hW, va_K.moved hw.alike hK⟩, hS.F ht⟩) hS.2.2 dX3_put_94
          · exact absurd c_68 (by decide)
        · have hrk : rkOf σ j = true := by unfold rkOf; exact decide_eq_true (Int32.not_lt.mp c_50)
          refine lv_lload_n hx hb dX3_put_53 rfl (lv_at hl 4 rfl) ?_
          refine lv_lconst (v := 0) hx hb dX3_put_54 (by decide) ?_
          refine W.lcmp hx hb dX3_put_55 ?_
          refine lv_if_eq (tgt := 63) hx hb dX3_put_56 (by decide) (fun c_56 => ?_) (fun c_56 => ?_)
          · have c_56 := (lg_cmp_eq _ _).mp c_56
            refine lv_iconst (v := 0) hx hb dX3_put_63 (by decide) ?_
            refine lv_istore (lv' := [(6, .int 0), (5, .int (kOf σ j)), (0, .ref mm), (1, .int (nI j)), (2, .int i), (3, .long v)]) hx hb dX3_put_64 hl (by decide) rfl (fun ls hl => ?_)
            refine lv_iload hx hb dX3_put_66 (lv_at hl 0 rfl) ?_
            refine lv_if_eq (tgt := 83) hx hb dX3_put_68 (by decide) (fun c_68 => ?_) (fun c_68 => ?_)
            · refine lv_aload_n hx hb dX3_put_83 rfl (lv_at hl 2 rfl) ?_
              refine lv_iload_n hx hb dX3_put_84 rfl (lv_at hl 3 rfl) ?_
              refine lv_iload_n hx hb dX3_put_85 rfl (lv_at hl 4 rfl) ?_
              refine vp_callSi (W.runV (As := [.int (nI j), .int i]) (rest := []) F (c_X3_isPlace (i := i) hR (show j < 10 by omega) (hI.ho hj)) (cwV 2 hts gX3_put_X3_isPlace rfl rfl rfl (by decide +kernel) ⟨Nat.le_of_ble_eq_true rfl, Nat.le_of_ble_eq_true rfl⟩) (mw_prV (q := (RX3, TX3, 14)) hK hO hW rfl hR.1) rfl rfl hl.1 rfl (lv_room (Nat.le_of_ble_eq_true rfl)) dX3_put_86 ⟨Nat.zero_le _, Nat.zero_le _⟩) (fun r_4 er_4 => ?_)
              subst er_4
              refine lv_if_ne (tgt := 95) hx hb dX3_put_89 (by decide) (fun c_89 => ?_) (fun c_89 => ?_)
              · have c_89 := bI_n c_89
                obtain ⟨k9, n9, i9, hk9, e9, hn9, en9, hi9, rfl⟩ := hI.place hj c_89
                have eix_i : ix (nI i9) = i9 := nI_clamp (by omega)
                have epv : pV σ j i9 = sPl σ (80 * k9 + i9) := pV_row hk9 e9
                refine lv_iload hx hb dX3_put_95 (lv_at hl 1 rfl) ?_
                refine lv_iconst (v := 5) hx hb dX3_put_97 (by decide) ?_
                refine lv_icmp_ne (tgt := 112) hx hb dX3_put_98 (by decide) (fun c_98 => ?_) (fun c_98 => ?_)
                · refine lv_iload hx hb dX3_put_112 (lv_at hl 1 rfl) ?_
                  refine lv_iconst (v := 2) hx hb dX3_put_114 (by decide) ?_
                  refine lv_icmp_ne (tgt := 124) hx hb dX3_put_115 (by decide) (fun c_115 => ?_) (fun c_115 => ?_)
                  · refine lv_lload_n hx hb dX3_put_124 rfl (lv_at hl 5 rfl) ?_
                    refine lv_lstore (lv' := [(7, .long v), (6, .int 0), (5, .int (kOf σ j)), (0, .ref mm), (1, .int (nI j)), (2, .int (nI i9)), (3, .long v)]) hx hb dX3_put_125 hl (by decide) rfl (fun ls hl => ?_)
                    refine lv_iload hx hb dX3_put_127 (lv_at hl 1 rfl) ?_
                    refine lv_if_eq (tgt := 169) hx hb dX3_put_129 (by decide) (fun c_129 => ?_) (fun c_129 => ?_)
                    · refine lv_aload_n hx hb dX3_put_169 rfl (lv_at hl 3 rfl) ?_
                      refine mw_get (C := RX3) (T := TX3) (N := 14) F hK hW hI_X3 hR.1 rfl 4 (by decide) hl_fieldLink_RX3_22_SpliceBenchModel_places_J rfl dX3_put_170 ?_
                      refine lv_bipush (v := 80) hx hb dX3_put_173 (by decide) ?_
                      refine lv_aload_n hx hb dX3_put_175 rfl (lv_at hl 3 rfl) ?_
                      refine mw_get (C := RX3) (T := TX3) (N := 14) F hK hW hI_X3 hR.1 rfl 0 (by decide) hl_fieldLink_RX3_7_SpliceBenchModel_holds_I rfl dX3_put_176 ?_
                      refine lv_iload_n hx hb dX3_put_179 rfl (lv_at hl 4 rfl) ?_
                      refine mw_iald F hK hW 0 hR.2.1 rfl (vp_in_nI (show j < 10 by omega) (by omega)) dX3_put_180 ?_
                      rw [nI_clamp (show j < 2 ^ 31 by omega)]
                      refine lv_iconst (v := 1) hx hb dX3_put_181 (by decide) ?_
                      refine lv_isub hx hb dX3_put_182 ?_
                      rw [e9, nI_pred]
                      refine lv_imul hx hb dX3_put_183 ?_
                      rw [show (80 : Int32) = nI 80 from rfl, pk_mul]
                      refine lv_iload_n hx hb dX3_put_184 rfl (lv_at hl 5 rfl) ?_
                      refine lv_iadd hx hb dX3_put_185 ?_
                      rw [nI_add]
                      refine lv_lload hx hb dX3_put_186 (lv_at hl 0 rfl) ?_
                      refine mw_last F hK hW hS 1 hR.2.2.2.2.2.1 rfl (vp_in_nI (show (80 * k9 + i9) < 960 by omega) (by omega)) dX3_put_188 (fun H locs hW hS => ?_)
                      rw [nI_clamp (show (80 * k9 + i9) < 2 ^ 31 by omega)] at hW
                      have hR := hR.wPl (vp_updL (sPl σ) (80 * k9 + i9) v)
                      refine lv_iconst (v := 1) hx hb dX3_put_189 (by decide) ?_
                      exact W.iret hx hb hr (fun t ht hw => ⟨⟨_, _, rfl, (by
                        have e8 : rfPut σ (nI j) (nI i9) v = (1, wPl σ (vp_updL (sPl σ) (80 * k9 + i9) v)) := by simp [rfPut, esp_j, eix_j, rIx_row hk9 e9, nI_clamp (show i9 < 2 ^ 31 by omega), c_19, c_27, hrk, c_56, c_89, c_98, c_115]
                        rw [e8]; exact ⟨rfl, hR⟩), by rw [ht]; exact hW, va_K.moved hw.alike hK⟩, hS.F ht⟩) hS.2.2 dX3_put_190
                    · exact absurd c_129 (by decide)
                  · rw [c_115] at c_50
                    exact absurd (show (2 : Int32) < 4 by decide) c_50
                · refine lv_lload_n hx hb dX3_put_101 rfl (lv_at hl 5 rfl) ?_
                  refine lv_lconst (v := 1) hx hb dX3_put_102 (by decide) ?_
                  refine lv_land hx hb dX3_put_103 ?_
                  refine lv_lconst (v := 1) hx hb dX3_put_104 (by decide) ?_
                  refine W.lcmp hx hb dX3_put_105 ?_
                  refine lv_if_ne (tgt := 112) hx hb dX3_put_106 (by decide) (fun c_106 => ?_) (fun c_106 => ?_)
                  · have c_106 : ¬ (_ = _) := fun h9 => c_106 ((lg_cmp_eq _ _).mpr h9)
                    refine lv_iload hx hb dX3_put_112 (lv_at hl 1 rfl) ?_
                    refine lv_iconst (v := 2) hx hb dX3_put_114 (by decide) ?_
                    refine lv_icmp_ne (tgt := 124) hx hb dX3_put_115 (by decide) (fun c_115 => ?_) (fun c_115 => ?_)
                    · refine lv_lload_n hx hb dX3_put_124 rfl (lv_at hl 5 rfl) ?_
                      refine lv_lstore (lv' := [(7, .long v), (6, .int 0), (5, .int (kOf σ j)), (0, .ref mm), (1, .int (nI j)), (2, .int (nI i9)), (3, .long v)]) hx hb dX3_put_125 hl (by decide) rfl (fun ls hl => ?_)
                      refine lv_iload hx hb dX3_put_127 (lv_at hl 1 rfl) ?_
                      refine lv_if_eq (tgt := 169) hx hb dX3_put_129 (by decide) (fun c_129 => ?_) (fun c_129 => ?_)
                      · refine lv_aload_n hx hb dX3_put_169 rfl (lv_at hl 3 rfl) ?_
                        refine mw_get (C := RX3) (T := TX3) (N := 14) F hK hW hI_X3 hR.1 rfl 4 (by decide) hl_fieldLink_RX3_22_SpliceBenchModel_places_J rfl dX3_put_170 ?_
                        refine lv_bipush (v := 80) hx hb dX3_put_173 (by decide) ?_
                        refine lv_aload_n hx hb dX3_put_175 rfl (lv_at hl 3 rfl) ?_
                        refine mw_get (C := RX3) (T := TX3) (N := 14) F hK hW hI_X3 hR.1 rfl 0 (by decide) hl_fieldLink_RX3_7_SpliceBenchModel_holds_I rfl dX3_put_176 ?_
                        refine lv_iload_n hx hb dX3_put_179 rfl (lv_at hl 4 rfl) ?_
                        refine mw_iald F hK hW 0 hR.2.1 rfl (vp_in_nI (show j < 10 by omega) (by omega)) dX3_put_180 ?_
                        rw [nI_clamp (show j < 2 ^ 31 by omega)]
                        refine lv_iconst (v := 1) hx hb dX3_put_181 (by decide) ?_
                        refine lv_isub hx hb dX3_put_182 ?_
                        rw [e9, nI_pred]
                        refine lv_imul hx hb dX3_put_183 ?_
                        rw [show (80 : Int32) = nI 80 from rfl, pk_mul]
                        refine lv_iload_n hx hb dX3_put_184 rfl (lv_at hl 5 rfl) ?_
                        refine lv_iadd hx hb dX3_put_185 ?_
                        rw [nI_add]
                        refine lv_lload hx hb dX3_put_186 (lv_at hl 0 rfl) ?_
                        refine mw_last F hK hW hS 1 hR.2.2.2.2.2.1 rfl (vp_in_nI (show (80 * k9 + i9) < 960 by omega) (by omega)) dX3_put_188 (fun H locs hW hS => ?_)
                        rw [nI_clamp (show (80 * k9 + i9) < 2 ^ 31 by omega)] at hW
                        have hR := hR.wPl (vp_updL (sPl σ) (80 * k9 + i9) v)
                        refine lv_iconst (v := 1) hx hb dX3_put_189 (by decide) ?_
                        exact W.iret hx hb hr (fun t ht hw => ⟨⟨_, _, rfl, (by
                          have e8 : rfPut σ (nI j) (nI i9) v = (1, wPl σ (vp_updL (sPl σ) (80 * k9 + i9) v)) := by simp [rfPut, esp_j, eix_j, rIx_row hk9 e9, nI_clamp (show i9 < 2 ^ 31 by omega), c_19, c_27, hrk, c_56, c_89, c_98, c_106, c_115]
                          rw [e8]; exact ⟨rfl, hR⟩), by rw [ht]; exact hW, va_K.moved hw.alike hK⟩, hS.F ht⟩) hS.2.2 dX3_put_190
                      · exact absurd c_129 (by decide)
                    · exact absurd (c_98.symm.trans c_115) (by decide)
                  · have c_106 := (lg_cmp_eq _ _).mp c_106
                    rw [c_56] at c_106
                    exact absurd c_106 (by decide)
              · have c_89 := bI_e c_89
                refine lv_bipush (v := (-3)) hx hb dX3_put_92 (by decide) ?_
                exact W.iret hx hb hr (fun t ht hw => ⟨⟨_, _, rfl, (by
                  have e8 : rfPut σ (nI j) i v = ((-3), σ) := by simp [rfPut, esp_j, eix_j, c_19, c_27, hrk, c_56, c_89]
                  rw [e8]; exact ⟨rfl, hR⟩), by rw [ht]; exact hW, va_K.moved hw.alike hK⟩, hS.F ht⟩) hS.2.2 dX3_put_94
            · exact absurd c_68 (by decide)
          · have c_56 : ¬ (_ = _) := fun h9 => c_56 ((lg_cmp_eq _ _).mpr h9)
            refine lv_iconst (v := 1) hx hb dX3_put_59 (by decide) ?_
            refine lv_goto (tgt := 64) hx hb dX3_put_60 (by decide) ?_
            refine lv_istore (lv' := [(6, .int 1), (5, .int (kOf σ j)), (0, .ref mm), (1, .int (nI j)), (2, .int i), (3, .long v)]) hx hb dX3_put_64 hl (by decide) rfl (fun ls hl => ?_)
            refine lv_iload hx hb dX3_put_66 (lv_at hl 0 rfl) ?_
            refine lv_if_eq (tgt := 83) hx hb dX3_put_68 (by decide) (fun c_68 => ?_) (fun c_68 => ?_)
            · exact absurd c_68 (by decide)
            · refine lv_aload_n hx hb dX3_put_71 rfl (lv_at hl 2 rfl) ?_
              refine mw_get (C := RX3) (T := TX3) (N := 14) F hK hW hI_X3 hR.1 rfl 13 (by decide) hl_fieldLink_RX3_62_SpliceBenchModel_cards_I rfl dX3_put_72 ?_
              refine lv_sipush (v := 2000) hx hb dX3_put_75 (by decide) ?_
              refine lv_icmp_ne (tgt := 83) hx hb dX3_put_78 (by decide) (fun c_78 => ?_) (fun c_78 => ?_)
              · refine lv_aload_n hx hb dX3_put_83 rfl (lv_at hl 2 rfl) ?_
                refine lv_iload_n hx hb dX3_put_84 rfl (lv_at hl 3 rfl) ?_
                refine lv_iload_n hx hb dX3_put_85 rfl (lv_at hl 4 rfl) ?_
                refine vp_callSi (W.runV (As := [.int (nI j), .int i]) (rest := []) F (c_X3_isPlace (i := i) hR (show j < 10 by omega) (hI.ho hj)) (cwV 2 hts gX3_put_X3_isPlace rfl rfl rfl (by decide +kernel) ⟨Nat.le_of_ble_eq_true rfl, Nat.le_of_ble_eq_true rfl⟩) (mw_prV (q := (RX3, TX3, 14)) hK hO hW rfl hR.1) rfl rfl hl.1 rfl (lv_room (Nat.le_of_ble_eq_true rfl)) dX3_put_86 ⟨Nat.zero_le _, Nat.zero_le _⟩) (fun r_5 er_5 => ?_)
                subst er_5
                refine lv_if_ne (tgt := 95) hx hb dX3_put_89 (by decide) (fun c_89 => ?_) (fun c_89 => ?_)
                · have c_89 := bI_n c_89
                  obtain ⟨k9, n9, i9, hk9, e9, hn9, en9, hi9, rfl⟩ := hI.place hj c_89
                  have eix_i : ix (nI i9) = i9 := nI_clamp (by omega)
                  have epv : pV σ j i9 = sPl σ (80 * k9 + i9) := pV_row hk9 e9
                  refine lv_iload hx hb dX3_put_95 (lv_at hl 1 rfl) ?_
                  refine lv_iconst (v := 5) hx hb dX3_put_97 (by decide) ?_
                  refine lv_icmp_ne (tgt := 112) hx hb dX3_put_98 (by decide) (fun c_98 => ?_) (fun c_98 => ?_)
                  · refine lv_iload hx hb dX3_put_112 (lv_at hl 1 rfl) ?_
                    refine lv_iconst (v := 2) hx hb dX3_put_114 (by decide) ?_
                    refine lv_icmp_ne (tgt := 124) hx hb dX3_put_115 (by decide) (fun c_115 => ?_) (fun c_115 => ?_)
                    · refine lv_lload_n hx hb dX3_put_124 rfl (lv_at hl 5 rfl) ?_
                      refine lv_lstore (lv' := [(7, .long v), (6, .int 1), (5, .int (kOf σ j)), (0, .ref mm), (1, .int (nI j)), (2, .int (nI i9)), (3, .long v)]) hx hb dX3_put_125 hl (by decide) rfl (fun ls hl => ?_)
                      refine lv_iload hx hb dX3_put_127 (lv_at hl 1 rfl) ?_
                      refine lv_if_eq (tgt := 169) hx hb dX3_put_129 (by decide) (fun c_129 => ?_) (fun c_129 => ?_)
                      · exact absurd c_129 (by decide)
                      · refine lv_aload_n hx hb dX3_put_132 rfl (lv_at hl 3 rfl) ?_
                        refine mw_get (C := RX3) (T := TX3) (N := 14) F hK hW hI_X3 hR.1 rfl 6 (by decide) hl_fieldLink_RX3_29_SpliceBenchModel_cardNumber_J rfl dX3_put_133 ?_
                        refine lv_aload_n hx hb dX3_put_136 rfl (lv_at hl 3 rfl) ?_
                        refine mw_get (C := RX3) (T := TX3) (N := 14) F hK hW hI_X3 hR.1 rfl 13 (by decide) hl_fieldLink_RX3_62_SpliceBenchModel_cards_I rfl dX3_put_137 ?_
                        rw [eb]
                        refine lv_lload_n hx hb dX3_put_140 rfl (lv_at hl 6 rfl) ?_
                        refine mw_last F hK hW hS 1 hR.2.2.2.2.2.2.2.1 rfl (vp_in_nI (show b < 2000 by omega) (by omega)) dX3_put_141 (fun H locs hW hS => ?_)
                        rw [nI_clamp (show b < 2 ^ 31 by omega)] at hW
                        have hR := hR.wCn (vp_updL (sCn σ) b v)
                        refine lv_aload_n hx hb dX3_put_142 rfl (lv_at hl 3 rfl) ?_
                        refine mw_get (C := RX3) (T := TX3) (N := 14) F hK hW hI_X3 (show _ = some (Sum.inr (3, [.ref (ad 0), .ref (ad 1), .ref (ad 2), .ref (ad 3), .ref (ad 4), .ref (ad 5), .ref (ad 6), .ref (ad 7), .ref (ad 8), .int (sCov σ), .int (sCam σ), .int (sGoo σ), .int (sRow σ), .int (sCar σ)])) from hR.1) rfl 7 (by decide) hl_fieldLink_RX3_32_SpliceBenchModel_cardShown_I rfl dX3_put_143 ?_
                        refine lv_aload_n hx hb dX3_put_146 rfl (lv_at hl 3 rfl) ?_
                        refine mw_get (C := RX3) (T := TX3) (N := 14) F hK hW hI_X3 (show _ = some (Sum.inr (3, [.ref (ad 0), .ref (ad 1), .ref (ad 2), .ref (ad 3), .ref (ad 4), .ref (ad 5), .ref (ad 6), .ref (ad 7), .ref (ad 8), .int (sCov σ), .int (sCam σ), .int (sGoo σ), .int (sRow σ), .int (sCar σ)])) from hR.1) rfl 13 (by decide) hl_fieldLink_RX3_62_SpliceBenchModel_cards_I rfl dX3_put_147 ?_
                        rw [eb]
                        refine lv_iconst (v := 0) hx hb dX3_put_150 (by decide) ?_
                        refine mw_iast F hK hW hS 0 (show _ = some (Sum.inl (cI, 2000, Sum.inl (sCs σ))) from hR.2.2.2.2.2.2.2.2.1) rfl (vp_in_nI (show b < 2000 by omega) (by omega)) dX3_put_151 (fun H locs hW hS => ?_)
                        rw [nI_clamp (show b < 2 ^ 31 by omega)] at hW
                        have hR := hR.wCs (upd (sCs σ) b 0)
                        refine lv_aload_n hx hb dX3_put_152 rfl (lv_at hl 3 rfl) ?_
                        refine lv_dup hx hb dX3_put_153 rfl ?_
                        refine mw_get (C := RX3) (T := TX3) (N := 14) F hK hW hI_X3 (show _ = some (Sum.inr (3, [.ref (ad 0), .ref (ad 1), .ref (ad 2), .ref (ad 3), .ref (ad 4), .ref (ad 5), .ref (ad 6), .ref (ad 7), .ref (ad 8), .int (sCov σ), .int (sCam σ), .int (sGoo σ), .int (sRow σ), .int (sCar σ)])) from hR.1) rfl 13 (by decide) hl_fieldLink_RX3_62_SpliceBenchModel_cards_I rfl dX3_put_154 ?_
                        refine lv_iconst (v := 1) hx hb dX3_put_157 (by decide) ?_
                        refine lv_iadd hx hb dX3_put_158 ?_
                        refine mw_put (C := RX3) (T := TX3) (N := 14) (v := .int ((sCar σ) + 1)) F hK hW hS hI_X3 tyX3 tyX3_ok nmX3 (show _ = some (Sum.inr (3, [.ref (ad 0), .ref (ad 1), .ref (ad 2), .ref (ad 3), .ref (ad 4), .ref (ad 5), .ref (ad 6), .ref (ad 7), .ref (ad 8), .int (sCov σ), .int (sCam σ), .int (sGoo σ), .int (sRow σ), .int (sCar σ)])) from hR.1) rfl 13 (by decide) hl_fieldLink_RX3_62_SpliceBenchModel_cards_I rfl rfl rfl (Nat.le_of_ble_eq_true rfl) dX3_put_159 (fun H locs hW hS => ?_)
                        have hR := hR.wCar ((sCar σ) + 1)
                        refine lv_aload_n hx hb dX3_put_162 rfl (lv_at hl 3 rfl) ?_
                        refine mw_get (C := RX3) (T := TX3) (N := 14) F hK hW hI_X3 (show _ = some (Sum.inr (3, [.ref (ad 0), .ref (ad 1), .ref (ad 2), .ref (ad 3), .ref (ad 4), .ref (ad 5), .ref (ad 6), .ref (ad 7), .ref (ad 8), .int (sCov σ), .int (sCam σ), .int (sGoo σ), .int (sRow σ), .int ((sCar σ) + 1)])) from hR.1) rfl 13 (by decide) hl_fieldLink_RX3_62_SpliceBenchModel_cards_I rfl dX3_put_163 ?_
                        refine lv_i2l hx hb dX3_put_166 rfl ?_
                        refine lv_lstore (lv' := [(7, .long (((sCar σ) + 1).toInt64)), (6, .int 1), (5, .int (kOf σ j)), (0, .ref mm), (1, .int (nI j)), (2, .int (nI i9)), (3, .long v)]) hx hb dX3_put_167 hl (by decide) rfl (fun ls hl => ?_)
                        refine lv_aload_n hx hb dX3_put_169 rfl (lv_at hl 3 rfl) ?_
                        refine mw_get (C := RX3) (T := TX3) (N := 14) F hK hW hI_X3 (show _ = some (Sum.inr (3, [.ref (ad 0), .ref (ad 1), .ref (ad 2), .ref (ad 3), .ref (ad 4), .ref (ad 5), .ref (ad 6), .ref (ad 7), .ref (ad 8), .int (sCov σ), .int (sCam σ), .int (sGoo σ), .int (sRow σ), .int ((sCar σ) + 1)])) from hR.1) rfl 4 (by decide) hl_fieldLink_RX3_22_SpliceBenchModel_places_J rfl dX3_put_170 ?_
                        refine lv_bipush (v := 80) hx hb dX3_put_173 (by decide) ?_
                        refine lv_aload_n hx hb dX3_put_175 rfl (lv_at hl 3 rfl) ?_
                        refine mw_get (C := RX3) (T := TX3) (N := 14) F hK hW hI_X3 (show _ = some (Sum.inr (3, [.ref (ad 0), .ref (ad 1), .ref (ad 2), .ref (ad 3), .ref (ad 4), .ref (ad 5), .ref (ad 6), .ref (ad 7), .ref (ad 8), .int (sCov σ), .int (sCam σ), .int (sGoo σ), .int (sRow σ), .int ((sCar σ) + 1)])) from hR.1) rfl 0 (by decide) hl_fieldLink_RX3_7_SpliceBenchModel_holds_I rfl dX3_put_176 ?_
                        refine lv_iload_n hx hb dX3_put_179 rfl (lv_at hl 4 rfl) ?_
                        refine mw_iald F hK hW 0 (show _ = some (Sum.inl (cI, 10, Sum.inl (sHo σ))) from hR.2.1) rfl (vp_in_nI (show j < 10 by omega) (by omega)) dX3_put_180 ?_
                        rw [nI_clamp (show j < 2 ^ 31 by omega)]
                        refine lv_iconst (v := 1) hx hb dX3_put_181 (by decide) ?_
                        refine lv_isub hx hb dX3_put_182 ?_
                        rw [e9, nI_pred]
                        refine lv_imul hx hb dX3_put_183 ?_
                        rw [show (80 : Int32) = nI 80 from rfl, pk_mul]
                        refine lv_iload_n hx hb dX3_put_184 rfl (lv_at hl 5 rfl) ?_
                        refine lv_iadd hx hb dX3_put_185 ?_
                        rw [nI_add]
                        refine lv_lload hx hb dX3_put_186 (lv_at hl 0 rfl) ?_
                        refine mw_last F hK hW hS 1 (show _ = some (Sum.inl (cJ, 960, Sum.inr (Sum.inl (sPl σ)))) from hR.2.2.2.2.2.1) rfl (vp_in_nI (show (80 * k9 + i9) < 960 by omega) (by omega)) dX3_put_188 (fun H locs hW hS => ?_)
                        rw [nI_clamp (show (80 * k9 + i9) < 2 ^ 31 by omega)] at hW
                        have hR := hR.wPl (vp_updL (sPl σ) (80 * k9 + i9) (((sCar σ) + 1).toInt64))
                        refine lv_iconst (v := 1) hx hb dX3_put_189 (by decide) ?_
                        exact W.iret hx hb hr (fun t ht hw => ⟨⟨_, _, rfl, (by
                          have e8 : rfPut σ (nI j) (nI i9) v = (1, wPl (rfCard σ v) (vp_updL (sPl σ) (80 * k9 + i9) (sCar σ + 1).toInt64)) := by simp [rfPut, esp_j, eix_j, rIx_row hk9 e9, nI_clamp (show i9 < 2 ^ 31 by omega), c_19, c_27, hrk, c_56, c_78, c_89, c_98, c_115]
                          rw [e8]; exact ⟨rfl, hR.to (by simp only [rfCard, eb, ix, nI_clamp (show b < 2 ^ 31 by omega)])⟩), by rw [ht]; exact hW, va_K.moved hw.alike hK⟩, hS.F ht⟩) hS.2.2 dX3_put_190
                    · rw [c_115] at c_50
                      exact absurd (show (2 : Int32) < 4 by decide) c_50
                  · refine lv_lload_n hx hb dX3_put_101 rfl (lv_at hl 5 rfl) ?_
                    refine lv_lconst (v := 1) hx hb dX3_put_102 (by decide) ?_
                    refine lv_land hx hb dX3_put_103 ?_
                    refine lv_lconst (v := 1) hx hb dX3_put_104 (by decide) ?_
                    refine W.lcmp hx hb dX3_put_105 ?_
                    refine lv_if_ne (tgt := 112) hx hb dX3_put_106 (by decide) (fun c_106 => ?_) (fun c_106 => ?_)
                    · have c_106 : ¬ (_ = _) := fun h9 => c_106 ((lg_cmp_eq _ _).mpr h9)
                      refine lv_iload hx hb dX3_put_112 (lv_at hl 1 rfl) ?_
                      refine lv_iconst (v := 2) hx hb dX3_put_114 (by decide) ?_
                      refine lv_icmp_ne (tgt := 124) hx hb dX3_put_115 (by decide) (fun c_115 => ?_) (fun c_115 => ?_)
                      · refine lv_lload_n hx hb dX3_put_124 rfl (lv_at hl 5 rfl) ?_
                        refine lv_lstore (lv' := [(7, .long v), (6, .int 1), (5, .int (kOf σ j)), (0, .ref mm), (1, .int (nI j)), (2, .int (nI i9)), (3, .long v)]) hx hb dX3_put_125 hl (by decide) rfl (fun ls hl => ?_)
                        refine lv_iload hx hb dX3_put_127 (lv_at hl 1 rfl) ?_
                        refine lv_if_eq (tgt := 169) hx hb dX3_put_129 (by decide) (fun c_129 => ?_) (fun c_129 => ?_)
                        · exact absurd c_129 (by decide)
                        · refine lv_aload_n hx hb dX3_put_132 rfl (lv_at hl 3 rfl) ?_
                          refine mw_get (C := RX3) (T := TX3) (N := 14) F hK hW hI_X3 hR.1 rfl 6 (by decide) hl_fieldLink_RX3_29_SpliceBenchModel_cardNumber_J rfl dX3_put_133 ?_
                          refine lv_aload_n hx hb dX3_put_136 rfl (lv_at hl 3 rfl) ?_
                          refine mw_get (C := RX3) (T := TX3) (N := 14) F hK hW hI_X3 hR.1 rfl 13 (by decide) hl_fieldLink_RX3_62_SpliceBenchModel_cards_I rfl dX3_put_137 ?_
                          rw [eb]
                          refine lv_lload_n hx hb dX3_put_140 rfl (lv_at hl 6 rfl) ?_
                          refine mw_last F hK hW hS 1 hR.2.2.2.2.2.2.2.1 rfl (vp_in_nI (show b < 2000 by omega) (by omega)) dX3_put_141 (fun H locs hW hS => ?_)
                          rw [nI_clamp (show b < 2 ^ 31 by omega)] at hW
                          have hR := hR.wCn (vp_updL (sCn σ) b v)
                          refine lv_aload_n hx hb dX3_put_142 rfl (lv_at hl 3 rfl) ?_
                          refine mw_get (C := RX3) (T := TX3) (N := 14) F hK hW hI_X3 (show _ = some (Sum.inr (3, [.ref (ad 0), .ref (ad 1), .ref (ad 2), .ref (ad 3), .ref (ad 4), .ref (ad 5), .ref (ad 6), .ref (ad 7), .ref (ad 8), .int (sCov σ), .int (sCam σ), .int (sGoo σ), .int (sRow σ), .int (sCar σ)])) from hR.1) rfl 7 (by decide) hl_fieldLink_RX3_32_SpliceBenchModel_cardShown_I rfl dX3_put_143 ?_
                          refine lv_aload_n hx hb dX3_put_146 rfl (lv_at hl 3 rfl) ?_
                          refine mw_get (C := RX3) (T := TX3) (N := 14) F hK hW hI_X3 (show _ = some (Sum.inr (3, [.ref (ad 0), .ref (ad 1), .ref (ad 2), .ref (ad 3), .ref (ad 4), .ref (ad 5), .ref (ad 6), .ref (ad 7), .ref (ad 8), .int (sCov σ), .int (sCam σ), .int (sGoo σ), .int (sRow σ), .int (sCar σ)])) from hR.1) rfl 13 (by decide) hl_fieldLink_RX3_62_SpliceBenchModel_cards_I rfl dX3_put_147 ?_
                          rw [eb]
                          refine lv_iconst (v := 0) hx hb dX3_put_150 (by decide) ?_
                          refine mw_iast F hK hW hS 0 (show _ = some (Sum.inl (cI, 2000, Sum.inl (sCs σ))) from hR.2.2.2.2.2.2.2.2.1) rfl (vp_in_nI (show b < 2000 by omega) (by omega)) dX3_put_151 (fun H locs hW hS => ?_)
                          rw [nI_clamp (show b < 2 ^ 31 by omega)] at hW
                          have hR := hR.wCs (upd (sCs σ) b 0)
                          refine lv_aload_n hx hb dX3_put_152 rfl (lv_at hl 3 rfl) ?_
                          refine lv_dup hx hb dX3_put_153 rfl ?_
                          refine mw_get (C := RX3) (T := TX3) (N := 14) F hK hW hI_X3 (show _ = some (Sum.inr (3, [.ref (ad 0), .ref (ad 1), .ref (ad 2), .ref (ad 3), .ref (ad 4), .ref (ad 5), .ref (ad 6), .ref (ad 7), .ref (ad 8), .int (sCov σ), .int (sCam σ), .int (sGoo σ), .int (sRow σ), .int (sCar σ)])) from hR.1) rfl 13 (by decide) hl_fieldLink_RX3_62_SpliceBenchModel_cards_I rfl dX3_put_154 ?_
                          refine lv_iconst (v := 1) hx hb dX3_put_157 (by decide) ?_
                          refine lv_iadd hx hb dX3_put_158 ?_
                          refine mw_put (C := RX3) (T := TX3) (N := 14) (v := .int ((sCar σ) + 1)) F hK hW hS hI_X3 tyX3 tyX3_ok nmX3 (show _ = some (Sum.inr (3, [.ref (ad 0), .ref (ad 1), .ref (ad 2), .ref (ad 3), .ref (ad 4), .ref (ad 5), .ref (ad 6), .ref (ad 7), .ref (ad 8), .int (sCov σ), .int (sCam σ), .int (sGoo σ), .int (sRow σ), .int (sCar σ)])) from hR.1) rfl 13 (by decide) hl_fieldLink_RX3_62_SpliceBenchModel_cards_I rfl rfl rfl (Nat.le_of_ble_eq_true rfl) dX3_put_159 (fun H locs hW hS => ?_)
                          have hR := hR.wCar ((sCar σ) + 1)
                          refine lv_aload_n hx hb dX3_put_162 rfl (lv_at hl 3 rfl) ?_
                          refine mw_get (C := RX3) (T := TX3) (N := 14) F hK hW hI_X3 (show _ = some (Sum.inr (3, [.ref (ad 0), .ref (ad 1), .ref (ad 2), .ref (ad 3), .ref (ad 4), .ref (ad 5), .ref (ad 6), .ref (ad 7), .ref (ad 8), .int (sCov σ), .int (sCam σ), .int (sGoo σ), .int (sRow σ), .int ((sCar σ) + 1)])) from hR.1) rfl 13 (by decide) hl_fieldLink_RX3_62_SpliceBenchModel_cards_I rfl dX3_put_163 ?_
                          refine lv_i2l hx hb dX3_put_166 rfl ?_
                          refine lv_lstore (lv' := [(7, .long (((sCar σ) + 1).toInt64)), (6, .int 1), (5, .int (kOf σ j)), (0, .ref mm), (1, .int (nI j)), (2, .int (nI i9)), (3, .long v)]) hx hb dX3_put_167 hl (by decide) rfl (fun ls hl => ?_)
                          refine lv_aload_n hx hb dX3_put_169 rfl (lv_at hl 3 rfl) ?_
                          refine mw_get (C := RX3) (T := TX3) (N := 14) F hK hW hI_X3 (show _ = some (Sum.inr (3, [.ref (ad 0), .ref (ad 1), .ref (ad 2), .ref (ad 3), .ref (ad 4), .ref (ad 5), .ref (ad 6), .ref (ad 7), .ref (ad 8), .int (sCov σ), .int (sCam σ), .int (sGoo σ), .int (sRow σ), .int ((sCar σ) + 1)])) from hR.1) rfl 4 (by decide) hl_fieldLink_RX3_22_SpliceBenchModel_places_J rfl dX3_put_170 ?_
                          refine lv_bipush (v := 80) hx hb dX3_put_173 (by decide) ?_
                          refine lv_aload_n hx hb dX3_put_175 rfl (lv_at hl 3 rfl) ?_
                          refine mw_get (C := RX3) (T := TX3) (N := 14) F hK hW hI_X3 (show _ = some (Sum.inr (3, [.ref (ad 0), .ref (ad 1), .ref (ad 2), .ref (ad 3), .ref (ad 4), .ref (ad 5), .ref (ad 6), .ref (ad 7), .ref (ad 8), .int (sCov σ), .int (sCam σ), .int (sGoo σ), .int (sRow σ), .int ((sCar σ) + 1)])) from hR.1) rfl 0 (by decide) hl_fieldLink_RX3_7_SpliceBenchModel_holds_I rfl dX3_put_176 ?_
                          refine lv_iload_n hx hb dX3_put_179 rfl (lv_at hl 4 rfl) ?_
                          refine mw_iald F hK hW 0 (show _ = some (Sum.inl (cI, 10, Sum.inl (sHo σ))) from hR.2.1) rfl (vp_in_nI (show j < 10 by omega) (by omega)) dX3_put_180 ?_
                          rw [nI_clamp (show j < 2 ^ 31 by omega)]
                          refine lv_iconst (v := 1) hx hb dX3_put_181 (by decide) ?_
                          refine lv_isub hx hb dX3_put_182 ?_
                          rw [e9, nI_pred]
                          refine lv_imul hx hb dX3_put_183 ?_
                          rw [show (80 : Int32) = nI 80 from rfl, pk_mul]
                          refine lv_iload_n hx hb dX3_put_184 rfl (lv_at hl 5 rfl) ?_
                          refine lv_iadd hx hb dX3_put_185 ?_
                          rw [nI_add]
                          refine lv_lload hx hb dX3_put_186 (lv_at hl 0 rfl) ?_
                          refine mw_last F hK hW hS 1 (show _ = some (Sum.inl (cJ, 960, Sum.inr (Sum.inl (sPl σ)))) from hR.2.2.2.2.2.1) rfl (vp_in_nI (show (80 * k9 + i9) < 960 by omega) (by omega)) dX3_put_188 (fun H locs hW hS => ?_)
                          rw [nI_clamp (show (80 * k9 + i9) < 2 ^ 31 by omega)] at hW
                          have hR := hR.wPl (vp_updL (sPl σ) (80 * k9 + i9) (((sCar σ) + 1).toInt64))
                          refine lv_iconst (v := 1) hx hb dX3_put_189 (by decide) ?_
                          exact W.iret hx hb hr (fun t ht hw => ⟨⟨_, _, rfl, (by
                            have e8 : rfPut σ (nI j) (nI i9) v = (1, wPl (rfCard σ v) (vp_updL (sPl σ) (80 * k9 + i9) (sCar σ + 1).toInt64)) := by simp [rfPut, esp_j, eix_j, rIx_row hk9 e9, nI_clamp (show i9 < 2 ^ 31 by omega), c_19, c_27, hrk, c_56, c_78, c_89, c_98, c_106, c_115]
                            rw [e8]; exact ⟨rfl, hR.to (by simp only [rfCard, eb, ix, nI_clamp (show b < 2 ^ 31 by omega)])⟩), by rw [ht]; exact hW, va_K.moved hw.alike hK⟩, hS.F ht⟩) hS.2.2 dX3_put_190
                      · exact absurd (c_98.symm.trans c_115) (by decide)
                    · have c_106 := (lg_cmp_eq _ _).mp c_106
                      refine lv_bipush (v := (-4)) hx hb dX3_put_109 (by decide) ?_
                      exact W.iret hx hb hr (fun t ht hw => ⟨⟨_, _, rfl, (by
                        have e8 : rfPut σ (nI j) (nI i9) v = ((-4), σ) := by simp [rfPut, esp_j, eix_j, c_19, c_27, hrk, c_56, c_78, c_89, c_98, c_106]
                        rw [e8]; exact ⟨rfl, hR⟩), by rw [ht]; exact hW, va_K.moved hw.alike hK⟩, hS.F ht⟩) hS.2.2 dX3_put_111
                · have c_89 := bI_e c_89
                  refine lv_bipush (v := (-3)) hx hb dX3_put_92 (by decide) ?_
                  exact W.iret hx hb hr (fun t ht hw => ⟨⟨_, _, rfl, (by
                    have e8 : rfPut σ (nI j) i v = ((-3), σ) := by simp [rfPut, esp_j, eix_j, c_19, c_27, hrk, c_56, c_78, c_89]
                    rw [e8]; exact ⟨rfl, hR⟩), by rw [ht]; exact hW, va_K.moved hw.alike hK⟩, hS.F ht⟩) hS.2.2 dX3_put_94
              · refine lv_iconst (v := 0) hx hb dX3_put_81 (by decide) ?_
                exact W.iret hx hb hr (fun t ht hw => ⟨⟨_, _, rfl, (by
                  have e8 : rfPut σ (nI j) i v = (0, σ) := by simp [rfPut, esp_j, eix_j, c_19, c_27, hrk, c_56, c_78]
                  rw [e8]; exact ⟨rfl, hR⟩), by rw [ht]; exact hW, va_K.moved hw.alike hK⟩, hS.F ht⟩) hS.2.2 dX3_put_82
      · refine lv_aload_n hx hb dX3_put_30 rfl (lv_at hl 1 rfl) ?_
        refine mw_get (C := RX3) (T := TX3) (N := 14) F hK hW hI_X3 hR.1 rfl 1 (by decide) hl_fieldLink_RX3_13_SpliceBenchModel_labels_I rfl dX3_put_31 ?_
        refine lv_iconst (v := (-1)) hx hb dX3_put_34 (by decide) ?_
        refine lv_aload_n hx hb dX3_put_35 rfl (lv_at hl 1 rfl) ?_
        refine mw_get (C := RX3) (T := TX3) (N := 14) F hK hW hI_X3 hR.1 rfl 0 (by decide) hl_fieldLink_RX3_7_SpliceBenchModel_holds_I rfl dX3_put_36 ?_
        refine lv_iload_n hx hb dX3_put_39 rfl (lv_at hl 2 rfl) ?_
        refine mw_iald F hK hW 0 hR.2.1 rfl (vp_in_nI (show j < 10 by omega) (by omega)) dX3_put_40 ?_
        rw [nI_clamp (show j < 2 ^ 31 by omega)]
        refine lv_isub hx hb dX3_put_41 ?_
        obtain ⟨k9, hk9, e9⟩ : ∃ k, k < 10 ∧ sHo σ j = -1 - nI k := by
          rcases hI.ho hj with h0 | h0 | ⟨k, hk, h0⟩
          · exact absurd (kOf_0 h0) c_19
          · exact h0
          · exfalso
            rw [kOf_row hk h0] at c_27
            rcases hI.kd hk (Inv.live hj h0) with h1 | h1 <;> (rw [c_27] at h1; exact absurd h1 (by decide))
        have e7 : -1 - sHo σ j = nI k9 := by rw [e9, lab_ix k9 hk9]
        rw [e7]
        refine lv_lload_n hx hb dX3_put_42 rfl (lv_at hl 4 rfl) ?_
        refine lv_l2i hx hb dX3_put_43 rfl ?_
        refine mw_iast F hK hW hS 0 hR.2.2.1 rfl (vp_in_nI (show k9 < 10 by omega) (by omega)) dX3_put_44 (fun H locs hW hS => ?_)
        rw [nI_clamp (show k9 < 2 ^ 31 by omega)] at hW
        have hR := hR.wLa (upd (sLa σ) k9 v.toInt32)
        refine lv_iconst (v := 1) hx hb dX3_put_45 (by decide) ?_
        exact W.iret hx hb hr (fun t ht hw => ⟨⟨_, _, rfl, (by
          have e8 : rfPut σ (nI j) i v = (1, wLa σ (upd (sLa σ) k9 v.toInt32)) := by simp [rfPut, esp_j, eix_j, e7, nI_clamp (show k9 < 2 ^ 31 by omega), c_19, c_27]
          rw [e8]; exact ⟨rfl, hR⟩), by rw [ht]; exact hW, va_K.moved hw.alike hK⟩, hS.F ht⟩) hS.2.2 dX3_put_46
    · refine lv_iconst (v := (-1)) hx hb dX3_put_22 (by decide) ?_
      exact W.iret hx hb hr (fun t ht hw => ⟨⟨_, _, rfl, (by
        have e8 : rfPut σ (nI j) i v = ((-1), σ) := by simp [rfPut, esp_j, eix_j, c_19]
        rw [e8]; exact ⟨rfl, hR⟩), by rw [ht]; exact hW, va_K.moved hw.alike hK⟩, hS.F ht⟩) hS.2.2 dX3_put_23
  · have c_4 := bI_e c_4
    refine lv_bipush (v := (-9)) hx hb dX3_put_7 (by decide) ?_
    exact W.iret hx hb hr (fun t ht hw => ⟨⟨_, _, rfl, (by
      have e8 : rfPut σ s0 i v = (-9, σ) := by simp [rfPut, c_4]
      rw [e8]; exact ⟨rfl, hR⟩), by rw [ht]; exact hW, va_K.moved hw.alike hK⟩, hS.F ht⟩) hS.2.2 dX3_put_9
end X3P
end
section
section X3H
variable {l : Launch} {D : va_G} {cI cJ cC cH : ClassId} {M : Nat → Option va_E} {sz : Nat}
abbrev rmX3_hold : Room := ({ frames := 1, cells := 0, slots := 0, locals := 23 } : Room)
set_option maxHeartbeats 4000000 in
set_option maxRecDepth 100000 in
theorem c_X3_hold {mm : Nat} {ad : Nat → Nat} {σ : RS} (hR : refAt cI cJ mm ad σ M) {cc : Nat} (hI : Inv σ cc) {s0 k0 n0 : Int32} : Met l yX3_hold wsX3_hold rmX3_hold (va_Pc [.ref mm, .int s0, .int k0, .int n0] (mwPre D (tyL cI cJ cC cH) M sz)) (va_Qi (fun r M' => r = (rfHold σ s0 k0 n0).1 ∧ refAt cI cJ mm ad (rfHold σ s0 k0 n0).2 M') (mwB D (tyL cI cJ cC cH) M sz) (mwA M sz)) 0 0 (mwA M sz) := by
  refine Met.ofW (cc := cX3_hold) (maxL := 7) (ret := (some .int)) (by decide) rfl ?_
  intro pr env s m args below meth c s₁ B hml hv
  obtain ⟨rfl, hsz, hW, hK, hO⟩ := hv
  subst hsz
  have hW := hW.self (sz := s.heap.size)
  have hS : va_S (mwA M s.heap.size) s.heap s.heap [] := va_S.rf
  have hA : ∀ q, s.heap.size ≤ q → mwA M s.heap.size q := fun q h => Or.inr h
  have hx := B.exec
  have hb := B.bytes
  have hr := B.returns
  have hts := atoms_spec (ws := wsX3_hold) B.pre
  have hown : s.vm.findClass RX3 = some m.cls := findClass_of_methodNamed B.named
  have hlocks := B.notSynchronized
  have F : CallFix pr m c cX3_hold 7 s ([.ref mm, .int s0, .int k0, .int n0] : List Value).toArray wsX3_hold RX3 := ⟨hx, hb, hml, hown, hts⟩
  have hI_X3 : ∀ w ∈ wsX30, w ∈ wsX3_hold := by decide +kernel
  have hl_fieldLink_RX3_7_SpliceBenchModel_holds_I := hts (.fieldLink RX3 7 "SpliceBenchModel" "holds" "[I") (by decide +kernel)
  have hl_fieldLink_RX3_13_SpliceBenchModel_labels_I := hts (.fieldLink RX3 13 "SpliceBenchModel" "labels" "[I") (by decide +kernel)
  have hl_fieldLink_RX3_56_SpliceBenchModel_rows_I := hts (.fieldLink RX3 56 "SpliceBenchModel" "rows" "I") (by decide +kernel)
  have hl_fieldLink_RX3_38_SpliceBenchModel_covered_I := hts (.fieldLink RX3 38 "SpliceBenchModel" "covered" "I") (by decide +kernel)
  have hl_fieldLink_RX3_16_SpliceBenchModel_kind_I := hts (.fieldLink RX3 16 "SpliceBenchModel" "kind" "[I") (by decide +kernel)
  have hl_fieldLink_RX3_19_SpliceBenchModel_size_I := hts (.fieldLink RX3 19 "SpliceBenchModel" "size" "[I") (by decide +kernel)
  have hl_fieldLink_RX3_22_SpliceBenchModel_places_J := hts (.fieldLink RX3 22 "SpliceBenchModel" "places" "[J") (by decide +kernel)
  have hl := lv_entry ([.ref mm, .int s0, .int k0, .int n0]) (n := 7) (Nat.le_of_ble_eq_true rfl)
  rw [lg_entry_eq]
  generalize (lg_sl ([.ref mm, .int s0, .int k0, .int n0]) ++ List.replicate (7 - (lg_sl ([.ref mm, .int s0, .int k0, .int n0])).length) Slot.unset).toArray = ls at hl ⊢
  have hl : lv_has ls 7 [(0, .ref mm), (1, .int s0), (2, .int k0), (3, .int n0)] := hl
  refine lv_iload_n hx hb dX3_hold_0 rfl (lv_at hl 1 rfl) ?_
  refine vp_callSi (W.runS (As := [.int s0]) (rest := []) F (c_X3_isSpindle) (cwS 1 hts gX3_hold_X3_isSpindle rfl rfl rfl (by decide +kernel) ⟨Nat.le_of_ble_eq_true rfl, Nat.le_of_ble_eq_true rfl⟩) (mw_prS hK hO hW) rfl rfl hl.1 rfl (lv_room (Nat.le_of_ble_eq_true rfl)) dX3_hold_1 ⟨Nat.zero_le _, Nat.zero_le _⟩) (fun r_1 er_1 => ?_)
  subst er_1
  refine lv_if_ne (tgt := 10) hx hb dX3_hold_4 (by decide) (fun c_4 => ?_) (fun c_4 => ?_)
  · obtain ⟨j, hj, rfl⟩ := isSp_of (bI_n c_4)
    have esp_j := isSp_nI hj
    have eix_j : ix (nI j) = j := nI_clamp (by omega)
    refine lv_iload_n hx hb dX3_hold_10 rfl (lv_at hl 2 rfl) ?_
    refine lv_if_lt (tgt := 19) hx hb dX3_hold_11 (by decide) (fun c_11 => ?_) (fun c_11 => ?_)
    · refine lv_iconst (v := 0) hx hb dX3_hold_19 (by decide) ?_
      exact W.iret hx hb hr (fun t ht hw => ⟨⟨_, _, rfl, (by
        have e8 : rfHold σ (nI j) k0 n0 = (0, σ) := by
          unfold rfHold
          rw [if_pos esp_j, if_pos (Or.inl c_11)]
        rw [e8]; exact ⟨rfl, hR⟩), by rw [ht]; exact hW, va_K.moved hw.alike hK⟩, hS.F ht⟩) hS.2.2 dX3_hold_20
    · refine lv_iload_n hx hb dX3_hold_14 rfl (lv_at hl 2 rfl) ?_
      refine lv_iconst (v := 5) hx hb dX3_hold_15 (by decide) ?_
      refine lv_icmp_le (tgt := 21) hx hb dX3_hold_16 (by decide) (fun c_16 => ?_) (fun c_16 => ?_)
      · refine lv_iload_n hx hb dX3_hold_21 rfl (lv_at hl 2 rfl) ?_
        refine lv_iconst (v := 2) hx hb dX3_hold_22 (by decide) ?_
        refine lv_icmp_lt (tgt := 30) hx hb dX3_hold_23 (by decide) (fun c_23 => ?_) (fun c_23 => ?_)
        · refine lv_iconst (v := 0) hx hb dX3_hold_30 (by decide) ?_
          refine lv_istore (lv' := [(4, .int 0), (0, .ref mm), (1, .int (nI j)), (2, .int k0), (3, .int n0)]) hx hb dX3_hold_31 hl (by decide) rfl (fun ls hl => ?_)
          refine lv_iload hx hb dX3_hold_33 (lv_at hl 0 rfl) ?_
          refine lv_if_eq (tgt := 60) hx hb dX3_hold_35 (by decide) (fun c_35 => ?_) (fun c_35 => ?_)
          · refine lv_aload_n hx hb dX3_hold_60 rfl (lv_at hl 1 rfl) ?_
            refine mw_get (C := RX3) (T := TX3) (N := 14) F hK hW hI_X3 hR.1 rfl 0 (by decide) hl_fieldLink_RX3_7_SpliceBenchModel_holds_I rfl dX3_hold_61 ?_
            refine lv_iload_n hx hb dX3_hold_64 rfl (lv_at hl 2 rfl) ?_
            refine lv_iconst (v := 0) hx hb dX3_hold_65 (by decide) ?_
            refine mw_iast F hK hW hS 0 hR.2.1 rfl (vp_in_nI (show j < 10 by omega) (by omega)) dX3_hold_66 (fun H locs hW hS => ?_)
            rw [nI_clamp (show j < 2 ^ 31 by omega)] at hW
            have hR := hR.wHo (upd (sHo σ) j 0)
            have hoff : sHo (wHo σ (upd (sHo σ) j 0)) j = 0 := by show upd (sHo σ) j 0 j = 0; simp [upd]
            refine lv_iload_n hx hb dX3_hold_67 rfl (lv_at hl 3 rfl) ?_
            refine lv_if_ne (tgt := 73) hx hb dX3_hold_68 (by decide) (fun c_68 => ?_) (fun c_68 => ?_)
            · refine lv_iconst (v := 0) hx hb dX3_hold_73 (by decide) ?_
              refine lv_istore (lv' := [(5, .int 0), (4, .int 0), (0, .ref mm), (1, .int (nI j)), (2, .int k0), (3, .int n0)]) hx hb dX3_hold_74 hl (by decide) rfl (fun ls hl => ?_)
              refine lv_iload hx hb dX3_hold_76 (lv_at hl 1 rfl) ?_
              refine lv_if_ne (tgt := 118) hx hb dX3_hold_78 (by decide) (fun c_78 => ?_) (fun c_78 => ?_)
              · exact absurd c_78 (by decide)
              · have hQ : labQ σ j < 10 := lab_free hj hoff
                have loop : ∀ (N : Nat) (q : Nat), labQ σ j + 1 ≤ q + N → q ≤ labQ σ j → ∀ (ls : Array Slot), lv_has ls 7 [(5, .int (nI q)), (0, .ref mm), (1, .int (nI j)), (2, .int k0), (3, .int n0)] → W pr l env (headSpec wsX3_hold rmX3_hold).room s m ([.ref mm, .int (nI j), .int k0, .int n0] : List Value).toArray below meth c H locs 0 0 (MQ below (va_Qi (fun r M' => r = (rfHold σ (nI j) k0 n0).1 ∧ refAt cI cJ mm ad (rfHold σ (nI j) k0 n0).2 M') (mwB D (tyL cI cJ cC cH) M s.heap.size) (mwA M s.heap.size)) ([.ref mm, .int (nI j), .int k0, .int n0] : List Value).toArray s 0 0 (mwA M s.heap.size)) (F0 m 81 ls []) := by
                  intro N
                  induction N with
                  | zero =>
                    exact fun q h1 h2 => absurd h1 (by omega)
                  | succ N ih =>
                    intro q hN hq ls hl
                    refine lv_aload_n hx hb dX3_hold_81 rfl (lv_at hl 1 rfl) ?_
                    refine lv_iconst (v := (-1)) hx hb dX3_hold_82 (by decide) ?_
                    refine lv_iload hx hb dX3_hold_83 (lv_at hl 0 rfl) ?_
                    refine lv_isub hx hb dX3_hold_85 ?_
                    refine vp_callSi (W.runV (As := [.int ((-1) - (nI q))]) (rest := []) F (c_X3_isHeld (th := (-1) - (nI q)) hR) (cwV 1 hts gX3_hold_X3_isHeld rfl rfl rfl (by decide +kernel) ⟨Nat.le_of_ble_eq_true rfl, Nat.le_of_ble_eq_true rfl⟩) (mw_prV (q := (RX3, TX3, 14)) hK hO hW rfl (show _ = some (Sum.inr (3, [.ref (ad 0), .ref (ad 1), .ref (ad 2), .ref (ad 3), .ref (ad 4), .ref (ad 5), .ref (ad 6), .ref (ad 7), .ref (ad 8), .int (sCov σ), .int (sCam σ), .int (sGoo σ), .int (sRow σ), .int (sCar σ)])) from hR.1)) rfl rfl hl.1 rfl (lv_room (Nat.le_of_ble_eq_true rfl)) dX3_hold_86 ⟨Nat.zero_le _, Nat.zero_le _⟩) (fun r_2 er_2 => ?_)
                    subst er_2
                    refine lv_if_eq (tgt := 98) hx hb dX3_hold_89 (by decide) (fun c_89 => ?_) (fun c_89 => ?_)
                    · have c_89 := bI_e c_89
                      have hqQ : q = labQ σ j := by
                        rcases Nat.lt_or_ge q (labQ σ j) with h9 | h9
                        · exfalso
                          have h8 := lead_all (fun q => heldB (rfOff σ j) (-1 - nI q)) 10 q h9
                          rw [show heldB (rfOff σ j) (-1 - nI q) = false from c_89] at h8
                          cases h8
                        · omega
                      have hq10 : q < 10 := by omega
                      refine lv_aload_n hx hb dX3_hold_98 rfl (lv_at hl 1 rfl) ?_
                      refine mw_get (C := RX3) (T := TX3) (N := 14) F hK hW hI_X3 (show _ = some (Sum.inr (3, [.ref (ad 0), .ref (ad 1), .ref (ad 2), .ref (ad 3), .ref (ad 4), .ref (ad 5), .ref (ad 6), .ref (ad 7), .ref (ad 8), .int (sCov σ), .int (sCam σ), .int (sGoo σ), .int (sRow σ), .int (sCar σ)])) from hR.1) rfl 1 (by decide) hl_fieldLink_RX3_13_SpliceBenchModel_labels_I rfl dX3_hold_99 ?_
                      refine lv_iload hx hb dX3_hold_102 (lv_at hl 0 rfl) ?_
                      refine lv_iload_n hx hb dX3_hold_104 rfl (lv_at hl 4 rfl) ?_
                      refine mw_iast F hK hW hS 0 (show _ = some (Sum.inl (cI, 10, Sum.inl (sLa σ))) from hR.2.2.1) rfl (vp_in_nI (show q < 10 by omega) (by omega)) dX3_hold_105 (fun H locs hW hS => ?_)
                      rw [nI_clamp (show q < 2 ^ 31 by omega)] at hW
                      have hR := hR.wLa (upd (sLa σ) q n0)
                      refine lv_aload_n hx hb dX3_hold_106 rfl (lv_at hl 1 rfl) ?_
                      refine mw_get (C := RX3) (T := TX3) (N := 14) F hK hW hI_X3 (show _ = some (Sum.inr (3, [.ref (ad 0), .ref (ad 1), .ref (ad 2), .ref (ad 3), .ref (ad 4), .ref (ad 5), .ref (ad 6), .ref (ad 7), .ref (ad 8), .int (sCov σ), .int (sCam σ), .int (sGoo σ), .int (sRow σ), .int (sCar σ)])) from hR.1) rfl 0 (by decide) hl_fieldLink_RX3_7_SpliceBenchModel_holds_I rfl dX3_hold_107 ?_
                      refine lv_iload_n hx hb dX3_hold_110 rfl (lv_at hl 2 rfl) ?_
                      refine lv_iconst (v := (-1)) hx hb dX3_hold_111 (by decide) ?_
                      refine lv_iload hx hb dX3_hold_112 (lv_at hl 0 rfl) ?_
                      refine lv_isub hx hb dX3_hold_114 ?_
                      refine mw_iast F hK hW hS 0 (show _ = some (Sum.inl (cI, 10, Sum.inl (upd (sHo σ) j 0))) from hR.2.1) rfl (vp_in_nI (show j < 10 by omega) (by omega)) dX3_hold_115 (fun H locs hW hS => ?_)
                      rw [nI_clamp (show j < 2 ^ 31 by omega)] at hW
                      have hR := hR.wHo (upd (upd (sHo σ) j 0) j ((-1) - (nI q)))
                      refine lv_iconst (v := 1) hx hb dX3_hold_116 (by decide) ?_
                      exact W.iret hx hb hr (fun t ht hw => ⟨⟨_, _, rfl, (by
                        have e8 : rfHold σ (nI j) k0 n0 = (1, rfLab σ j n0) := by
                          unfold rfHold
                          rw [if_pos esp_j, if_neg (not_or.mpr ⟨c_11, Int32.not_lt.mpr c_16⟩), if_neg (Int32.not_le.mpr c_23), if_neg c_68, eix_j]
                        rw [e8]; exact ⟨rfl, hR.to (by rw [hqQ]; rfl)⟩), by rw [ht]; exact hW, va_K.moved hw.alike hK⟩, hS.F ht⟩) hS.2.2 dX3_hold_117
                    · have c_89 := bI_n c_89
                      refine lv_iinc (v := nI (q + 1)) (lv' := [(5, .int (nI (q + 1))), (0, .ref mm), (1, .int (nI j)), (2, .int k0), (3, .int n0)]) hx hb dX3_hold_92 hl (k := 0) rfl (nI_1 q) (by decide) rfl (fun ls hl => ?_)
                      refine lv_goto (tgt := 81) hx hb dX3_hold_95 (by decide) ?_
                      exact ih (q + 1) (by omega) (by
                        rcases Nat.lt_or_ge q (labQ σ j) with h9 | h9
                        · omega
                        · exfalso
                          have h8 := lead_stop (fun q => heldB (rfOff σ j) (-1 - nI q)) 10 hQ
                          rw [show lead (fun q => heldB (rfOff σ j) (-1 - nI q)) 10 = q from Nat.le_antisymm h9 hq] at h8
                          rw [show heldB (rfOff σ j) (-1 - nI q) = true from c_89] at h8
                          cases h8) ls (lv_sub hl [0, 1, 2, 3, 4] rfl)
                exact loop (labQ σ j + 1) 0 (by omega) (Nat.zero_le _) ls (lv_sub hl [0, 2, 3, 4, 5] rfl)
            · refine lv_iconst (v := 1) hx hb dX3_hold_71 (by decide) ?_
              exact W.iret hx hb hr (fun t ht hw => ⟨⟨_, _, rfl, (by
                have e8 : rfHold σ (nI j) k0 n0 = (1, rfOff σ j) := by
                  unfold rfHold
                  rw [if_pos esp_j, if_neg (not_or.mpr ⟨c_11, Int32.not_lt.mpr c_16⟩), if_neg (Int32.not_le.mpr c_23), if_pos c_68, eix_j]
                rw [e8]; exact ⟨rfl, hR⟩), by rw [ht]; exact hW, va_K.moved hw.alike hK⟩, hS.F ht⟩) hS.2.2 dX3_hold_72
          · exact absurd c_35 (by decide)
        · refine lv_iconst (v := 1) hx hb dX3_hold_26 (by decide) ?_
          refine lv_goto (tgt := 31) hx hb dX3_hold_27 (by decide) ?_
          refine lv_istore (lv' := [(4, .int 1), (0, .ref mm), (1, .int (nI j)), (2, .int k0), (3, .int n0)]) hx hb dX3_hold_31 hl (by decide) rfl (fun ls hl => ?_)
          refine lv_iload hx hb dX3_hold_33 (lv_at hl 0 rfl) ?_
          refine lv_if_eq (tgt := 60) hx hb dX3_hold_35 (by decide) (fun c_35 => ?_) (fun c_35 => ?_)
          · exact absurd c_35 (by decide)
          · refine lv_iload_n hx hb dX3_hold_38 rfl (lv_at hl 4 rfl) ?_
            refine lv_if_lt (tgt := 58) hx hb dX3_hold_39 (by decide) (fun c_39 => ?_) (fun c_39 => ?_)
            · refine lv_iconst (v := 0) hx hb dX3_hold_58 (by decide) ?_
              exact W.iret hx hb hr (fun t ht hw => ⟨⟨_, _, rfl, (by
                have e8 : rfHold σ (nI j) k0 n0 = (0, σ) := by
                  unfold rfHold
                  rw [if_pos esp_j, if_neg (not_or.mpr ⟨c_11, Int32.not_lt.mpr c_16⟩), if_pos (Int32.not_lt.mp c_23), if_pos (Or.inl c_39)]
                rw [e8]; exact ⟨rfl, hR⟩), by rw [ht]; exact hW, va_K.moved hw.alike hK⟩, hS.F ht⟩) hS.2.2 dX3_hold_59
            · refine lv_iload_n hx hb dX3_hold_42 rfl (lv_at hl 4 rfl) ?_
              refine lv_bipush (v := 80) hx hb dX3_hold_43 (by decide) ?_
              refine lv_icmp_gt (tgt := 58) hx hb dX3_hold_45 (by decide) (fun c_45 => ?_) (fun c_45 => ?_)
              · refine lv_iconst (v := 0) hx hb dX3_hold_58 (by decide) ?_
                exact W.iret hx hb hr (fun t ht hw => ⟨⟨_, _, rfl, (by
                  have e8 : rfHold σ (nI j) k0 n0 = (0, σ) := by
                    unfold rfHold
                    rw [if_pos esp_j, if_neg (not_or.mpr ⟨c_11, Int32.not_lt.mpr c_16⟩), if_pos (Int32.not_lt.mp c_23), if_pos (Or.inr (Or.inl c_45))]
                  rw [e8]; exact ⟨rfl, hR⟩), by rw [ht]; exact hW, va_K.moved hw.alike hK⟩, hS.F ht⟩) hS.2.2 dX3_hold_59
              · refine lv_aload_n hx hb dX3_hold_48 rfl (lv_at hl 1 rfl) ?_
                refine mw_get (C := RX3) (T := TX3) (N := 14) F hK hW hI_X3 hR.1 rfl 12 (by decide) hl_fieldLink_RX3_56_SpliceBenchModel_rows_I rfl dX3_hold_49 ?_
                refine lv_sipush (v := 600) hx hb dX3_hold_52 (by decide) ?_
                refine lv_icmp_ne (tgt := 60) hx hb dX3_hold_55 (by decide) (fun c_55 => ?_) (fun c_55 => ?_)
                · obtain ⟨n, hn, rfl⟩ := nI_of2 (M := 80) (n := 80) rfl c_39 (Int32.not_lt.mp c_45)
                  have ein : ix (nI n) = n := nI_clamp (by omega)
                  refine lv_aload_n hx hb dX3_hold_60 rfl (lv_at hl 1 rfl) ?_
                  refine mw_get (C := RX3) (T := TX3) (N := 14) F hK hW hI_X3 hR.1 rfl 0 (by decide) hl_fieldLink_RX3_7_SpliceBenchModel_holds_I rfl dX3_hold_61 ?_
                  refine lv_iload_n hx hb dX3_hold_64 rfl (lv_at hl 2 rfl) ?_
                  refine lv_iconst (v := 0) hx hb dX3_hold_65 (by decide) ?_
                  refine mw_iast F hK hW hS 0 hR.2.1 rfl (vp_in_nI (show j < 10 by omega) (by omega)) dX3_hold_66 (fun H locs hW hS => ?_)
                  rw [nI_clamp (show j < 2 ^ 31 by omega)] at hW
                  have hR := hR.wHo (upd (sHo σ) j 0)
                  have hoff : sHo (wHo σ (upd (sHo σ) j 0)) j = 0 := by show upd (sHo σ) j 0 j = 0; simp [upd]
                  refine lv_iload_n hx hb dX3_hold_67 rfl (lv_at hl 3 rfl) ?_
                  refine lv_if_ne (tgt := 73) hx hb dX3_hold_68 (by decide) (fun c_68 => ?_) (fun c_68 => ?_)
                  · refine lv_iconst (v := 0) hx hb dX3_hold_73 (by decide) ?_
                    refine lv_istore (lv' := [(5, .int 0), (4, .int 1), (0, .ref mm), (1, .int (nI j)), (2, .int k0), (3, .int (nI n))]) hx hb dX3_hold_74 hl (by decide) rfl (fun ls hl => ?_)
                    refine lv_iload hx hb dX3_hold_76 (lv_at hl 1 rfl) ?_
                    refine lv_if_ne (tgt := 118) hx hb dX3_hold_78 (by decide) (fun c_78 => ?_) (fun c_78 => ?_)
                    · have hQ : rowQ σ j < 12 := row_free hj hoff
                      have loop : ∀ (N : Nat) (q : Nat), rowQ σ j + 1 ≤ q + N → q ≤ rowQ σ j → ∀ (ls : Array Slot), lv_has ls 7 [(5, .int (nI q)), (0, .ref mm), (1, .int (nI j)), (2, .int k0), (3, .int (nI n))] → W pr l env (headSpec wsX3_hold rmX3_hold).room s m ([.ref mm, .int (nI j), .int k0, .int (nI n)] : List Value).toArray below meth c H locs 0 0 (MQ below (va_Qi (fun r M' => r = (rfHold σ (nI j) k0 (nI n)).1 ∧ refAt cI cJ mm ad (rfHold σ (nI j) k0 (nI n)).2 M') (mwB D (tyL cI cJ cC cH) M s.heap.size) (mwA M s.heap.size)) ([.ref mm, .int (nI j), .int k0, .int (nI n)] : List Value).toArray s 0 0 (mwA M s.heap.size)) (F0 m 118 ls []) := by
                        intro N
                        induction N with
                        | zero =>
                          exact fun q h1 h2 => absurd h1 (by omega)
                        | succ N ih =>
                          intro q hN hq ls hl
                          refine lv_iload hx hb dX3_hold_118 (lv_at hl 0 rfl) ?_
                          refine lv_aload_n hx hb dX3_hold_120 rfl (lv_at hl 1 rfl) ?_
                          refine mw_get (C := RX3) (T := TX3) (N := 14) F hK hW hI_X3 (show _ = some (Sum.inr (3, [.ref (ad 0), .ref (ad 1), .ref (ad 2), .ref (ad 3), .ref (ad 4), .ref (ad 5), .ref (ad 6), .ref (ad 7), .ref (ad 8), .int (sCov σ), .int (sCam σ), .int (sGoo σ), .int (sRow σ), .int (sCar σ)])) from hR.1) rfl 9 (by decide) hl_fieldLink_RX3_38_SpliceBenchModel_covered_I rfl dX3_hold_121 ?_
                          refine lv_icmp_eq (tgt := 138) hx hb dX3_hold_124 (by decide) (fun c_124 => ?_) (fun c_124 => ?_)
                          · refine lv_iinc (v := nI (q + 1)) (lv' := [(5, .int (nI (q + 1))), (0, .ref mm), (1, .int (nI j)), (2, .int k0), (3, .int (nI n))]) hx hb dX3_hold_138 hl (k := 0) rfl (nI_1 q) (by decide) rfl (fun ls hl => ?_)
                            refine lv_goto (tgt := 118) hx hb dX3_hold_141 (by decide) ?_
                            have hoc : occR (rfOff σ j) q = true := by unfold occR; rw [decide_eq_true (show nI q = sCov (rfOff σ j) from c_124), Bool.true_or]
                            exact ih (q + 1) (by omega) (by
                              rcases Nat.lt_or_ge q (rowQ σ j) with h9 | h9
                              · omega
                              · exfalso
                                have h8 := lead_stop (occR (rfOff σ j)) 12 hQ
                                rw [show lead (occR (rfOff σ j)) 12 = q from Nat.le_antisymm h9 hq, hoc] at h8
                                cases h8) ls (lv_sub hl [0, 1, 2, 3, 4] rfl)
                          · refine lv_aload_n hx hb dX3_hold_127 rfl (lv_at hl 1 rfl) ?_
                            refine lv_iload hx hb dX3_hold_128 (lv_at hl 0 rfl) ?_
                            refine lv_iconst (v := 1) hx hb dX3_hold_130 (by decide) ?_
                            refine lv_iadd hx hb dX3_hold_131 ?_
                            rw [nI_1]
                            refine vp_callSi (W.runV (As := [.int (nI (q + 1))]) (rest := []) F (c_X3_isHeld (th := nI (q + 1)) hR) (cwV 1 hts gX3_hold_X3_isHeld rfl rfl rfl (by decide +kernel) ⟨Nat.le_of_ble_eq_true rfl, Nat.le_of_ble_eq_true rfl⟩) (mw_prV (q := (RX3, TX3, 14)) hK hO hW rfl (show _ = some (Sum.inr (3, [.ref (ad 0), .ref (ad 1), .ref (ad 2), .ref (ad 3), .ref (ad 4), .ref (ad 5), .ref (ad 6), .ref (ad 7), .ref (ad 8), .int (sCov σ), .int (sCam σ), .int (sGoo σ), .int (sRow σ), .int (sCar σ)])) from hR.1)) rfl rfl hl.1 rfl (lv_room (Nat.le_of_ble_eq_true rfl)) dX3_hold_132 ⟨Nat.zero_le _, Nat.zero_le _⟩) (fun r_3 er_3 => ?_)
                            subst er_3
                            refine lv_if_eq (tgt := 144) hx hb dX3_hold_135 (by decide) (fun c_135 => ?_) (fun c_135 => ?_)
                            · have c_135 := bI_e c_135
                              have hqQ : q = rowQ σ j := by
                                rcases Nat.lt_or_ge q (rowQ σ j) with h9 | h9
                                · exfalso
                                  have h8 := lead_all (occR (rfOff σ j)) 12 q h9
                                  unfold occR at h8
                                  rw [decide_eq_false (show ¬ nI q = sCov (rfOff σ j) from c_124), show heldB (rfOff σ j) (nI (q + 1)) = false from c_135] at h8
                                  cases h8
                                · omega
                              have hq12 : q < 12 := by omega
                              refine lv_aload_n hx hb dX3_hold_144 rfl (lv_at hl 1 rfl) ?_
                              refine mw_get (C := RX3) (T := TX3) (N := 14) F hK hW hI_X3 (show _ = some (Sum.inr (3, [.ref (ad 0), .ref (ad 1), .ref (ad 2), .ref (ad 3), .ref (ad 4), .ref (ad 5), .ref (ad 6), .ref (ad 7), .ref (ad 8), .int (sCov σ), .int (sCam σ), .int (sGoo σ), .int (sRow σ), .int (sCar σ)])) from hR.1) rfl 2 (by decide) hl_fieldLink_RX3_16_SpliceBenchModel_kind_I rfl dX3_hold_145 ?_
                              refine lv_iload hx hb dX3_hold_148 (lv_at hl 0 rfl) ?_
                              refine lv_iload_n hx hb dX3_hold_150 rfl (lv_at hl 3 rfl) ?_
                              refine mw_iast F hK hW hS 0 (show _ = some (Sum.inl (cI, 12, Sum.inl (sKi σ))) from hR.2.2.2.1) rfl (vp_in_nI (show q < 12 by omega) (by omega)) dX3_hold_151 (fun H locs hW hS => ?_)
                              rw [nI_clamp (show q < 2 ^ 31 by omega)] at hW
                              have hR := hR.wKi (upd (sKi σ) q k0)
                              refine lv_aload_n hx hb dX3_hold_152 rfl (lv_at hl 1 rfl) ?_
                              refine mw_get (C := RX3) (T := TX3) (N := 14) F hK hW hI_X3 (show _ = some (Sum.inr (3, [.ref (ad 0), .ref (ad 1), .ref (ad 2), .ref (ad 3), .ref (ad 4), .ref (ad 5), .ref (ad 6), .ref (ad 7), .ref (ad 8), .int (sCov σ), .int (sCam σ), .int (sGoo σ), .int (sRow σ), .int (sCar σ)])) from hR.1) rfl 3 (by decide) hl_fieldLink_RX3_19_SpliceBenchModel_size_I rfl dX3_hold_153 ?_
                              refine lv_iload hx hb dX3_hold_156 (lv_at hl 0 rfl) ?_
                              refine lv_iload_n hx hb dX3_hold_158 rfl (lv_at hl 4 rfl) ?_
                              refine mw_iast F hK hW hS 0 (show _ = some (Sum.inl (cI, 12, Sum.inl (sSi σ))) from hR.2.2.2.2.1) rfl (vp_in_nI (show q < 12 by omega) (by omega)) dX3_hold_159 (fun H locs hW hS => ?_)
                              rw [nI_clamp (show q < 2 ^ 31 by omega)] at hW
                              have hR := hR.wSi (upd (sSi σ) q (nI n))
                              refine lv_iconst (v := 0) hx hb dX3_hold_160 (by decide) ?_
                              refine lv_istore (lv' := [(6, .int 0), (5, .int (nI q)), (0, .ref mm), (1, .int (nI j)), (2, .int k0), (3, .int (nI n))]) hx hb dX3_hold_161 hl (by decide) rfl (fun ls hl => ?_)
                              have hR := hR.to (σ' := wPl (wSi (wKi (wHo σ (upd (sHo σ) j 0)) (upd (sKi σ) q k0)) (upd (sSi σ) q (nI n))) (blk (80 * q) (80 * q + 0) 0 (sPl σ))) (by rw [show 80 * q + 0 = 80 * q from rfl, blk_0]; rfl)
                              have loop : ∀ (N : Nat) (i : Nat) (M1 : Nat → Option va_E) (H : Heap) (locs : List Loc), n + 1 ≤ i + N → i ≤ n → mw D (mwA M s.heap.size) M1 H → va_S (mwA M s.heap.size) s.heap H locs → refAt cI cJ mm ad (wPl (wSi (wKi (wHo σ (upd (sHo σ) j 0)) (upd (sKi σ) q k0)) (upd (sSi σ) q (nI n))) (blk (80 * q) (80 * q + i) 0 (sPl σ))) M1 → ∀ (ls : Array Slot), lv_has ls 7 [(6, .int (nI i)), (5, .int (nI q)), (0, .ref mm), (1, .int (nI j)), (2, .int k0), (3, .int (nI n))] → W pr l env (headSpec wsX3_hold rmX3_hold).room s m ([.ref mm, .int (nI j), .int k0, .int (nI n)] : List Value).toArray below meth c H locs 0 0 (MQ below (va_Qi (fun r M' => r = (rfHold σ (nI j) k0 (nI n)).1 ∧ refAt cI cJ mm ad (rfHold σ (nI j) k0 (nI n)).2 M') (mwB D (tyL cI cJ cC cH) M s.heap.size) (mwA M s.heap.size)) ([.ref mm, .int (nI j), .int k0, .int (nI n)] : List Value).toArray s 0 0 (mwA M s.heap.size)) (F0 m 163 ls []) := by
                                intro N
                                induction N with
                                | zero =>
                                  exact fun i M1 H locs h1 h2 => absurd h1 (by omega)
                                | succ N ih =>
                                  intro i M1 H locs hN hi hW hS hR ls hl
                                  refine lv_iload hx hb dX3_hold_163 (lv_at hl 0 rfl) ?_
                                  refine lv_iload_n hx hb dX3_hold_165 rfl (lv_at hl 5 rfl) ?_
                                  refine lv_icmp_ge (tgt := 189) hx hb dX3_hold_166 (by decide) (fun c_166 => ?_) (fun c_166 => ?_)
                                  · refine lv_aload_n hx hb dX3_hold_189 rfl (lv_at hl 2 rfl) ?_
                                    refine lv_dup hx hb dX3_hold_190 rfl ?_
                                    refine mw_get (C := RX3) (T := TX3) (N := 14) F hK hW hI_X3 (show _ = some (Sum.inr (3, [.ref (ad 0), .ref (ad 1), .ref (ad 2), .ref (ad 3), .ref (ad 4), .ref (ad 5), .ref (ad 6), .ref (ad 7), .ref (ad 8), .int (sCov σ), .int (sCam σ), .int (sGoo σ), .int (sRow σ), .int (sCar σ)])) from hR.1) rfl 12 (by decide) hl_fieldLink_RX3_56_SpliceBenchModel_rows_I rfl dX3_hold_191 ?_
                                    refine lv_iconst (v := 1) hx hb dX3_hold_194 (by decide) ?_
                                    refine lv_iadd hx hb dX3_hold_195 ?_
                                    refine mw_put (C := RX3) (T := TX3) (N := 14) (v := .int ((sRow σ) + 1)) F hK hW hS hI_X3 tyX3 tyX3_ok nmX3 (show _ = some (Sum.inr (3, [.ref (ad 0), .ref (ad 1), .ref (ad 2), .ref (ad 3), .ref (ad 4), .ref (ad 5), .ref (ad 6), .ref (ad 7), .ref (ad 8), .int (sCov σ), .int (sCam σ), .int (sGoo σ), .int (sRow σ), .int (sCar σ)])) from hR.1) rfl 12 (by decide) hl_fieldLink_RX3_56_SpliceBenchModel_rows_I rfl rfl rfl (Nat.le_of_ble_eq_true rfl) dX3_hold_196 (fun H locs hW hS => ?_)
                                    have hR := hR.wRow ((sRow σ) + 1)
                                    refine lv_aload_n hx hb dX3_hold_199 rfl (lv_at hl 2 rfl) ?_
                                    refine mw_get (C := RX3) (T := TX3) (N := 14) F hK hW hI_X3 (show _ = some (Sum.inr (3, [.ref (ad 0), .ref (ad 1), .ref (ad 2), .ref (ad 3), .ref (ad 4), .ref (ad 5), .ref (ad 6), .ref (ad 7), .ref (ad 8), .int (sCov σ), .int (sCam σ), .int (sGoo σ), .int ((sRow σ) + 1), .int (sCar σ)])) from hR.1) rfl 0 (by decide) hl_fieldLink_RX3_7_SpliceBenchModel_holds_I rfl dX3_hold_200 ?_
                                    refine lv_iload_n hx hb dX3_hold_203 rfl (lv_at hl 3 rfl) ?_
                                    refine lv_iload hx hb dX3_hold_204 (lv_at hl 1 rfl) ?_
                                    refine lv_iconst (v := 1) hx hb dX3_hold_206 (by decide) ?_
                                    refine lv_iadd hx hb dX3_hold_207 ?_
                                    rw [nI_1]
                                    refine mw_iast F hK hW hS 0 (show _ = some (Sum.inl (cI, 10, Sum.inl (upd (sHo σ) j 0))) from hR.2.1) rfl (vp_in_nI (show j < 10 by omega) (by omega)) dX3_hold_208 (fun H locs hW hS => ?_)
                                    rw [nI_clamp (show j < 2 ^ 31 by omega)] at hW
                                    have hR := hR.wHo (upd (upd (sHo σ) j 0) j (nI (q + 1)))
                                    refine lv_iconst (v := 1) hx hb dX3_hold_209 (by decide) ?_
                                    exact W.iret hx hb hr (fun t ht hw => ⟨⟨_, _, rfl, (by
                                      have e7 : i = n := by have := (nI_leI (by omega) (by omega)).mp c_166; omega
                                      have e8 : rfHold σ (nI j) k0 (nI n) = (1, rfRow σ j k0 n) := by
                                        unfold rfHold
                                        rw [if_pos esp_j, if_neg (not_or.mpr ⟨c_11, Int32.not_lt.mpr c_16⟩), if_pos (Int32.not_lt.mp c_23), if_neg (not_or.mpr ⟨c_39, not_or.mpr ⟨c_45, c_55⟩⟩), eix_j, ein]
                                      rw [e8]; exact ⟨rfl, hR.to (by rw [e7, hqQ]; rfl)⟩), by rw [ht]; exact hW, va_K.moved hw.alike hK⟩, hS.F ht⟩) hS.2.2 dX3_hold_210
                                  · have hin : i < n := by
                                      rcases Nat.lt_or_ge i n with h9 | h9
                                      · exact h9
                                      · exact absurd (nI_le h9 (by omega)) c_166
                                    refine lv_aload_n hx hb dX3_hold_169 rfl (lv_at hl 2 rfl) ?_
                                    refine mw_get (C := RX3) (T := TX3) (N := 14) F hK hW hI_X3 (show _ = some (Sum.inr (3, [.ref (ad 0), .ref (ad 1), .ref (ad 2), .ref (ad 3), .ref (ad 4), .ref (ad 5), .ref (ad 6), .ref (ad 7), .ref (ad 8), .int (sCov σ), .int (sCam σ), .int (sGoo σ), .int (sRow σ), .int (sCar σ)])) from hR.1) rfl 4 (by decide) hl_fieldLink_RX3_22_SpliceBenchModel_places_J rfl dX3_hold_170 ?_
                                    refine lv_bipush (v := 80) hx hb dX3_hold_173 (by decide) ?_
                                    refine lv_iload hx hb dX3_hold_175 (lv_at hl 1 rfl) ?_
                                    refine lv_imul hx hb dX3_hold_177 ?_
                                    rw [show (80 : Int32) = nI 80 from rfl, pk_mul]
                                    refine lv_iload hx hb dX3_hold_178 (lv_at hl 0 rfl) ?_
                                    refine lv_iadd hx hb dX3_hold_180 ?_
                                    rw [nI_add]
                                    refine lv_lconst (v := 0) hx hb dX3_hold_181 (by decide) ?_
                                    refine mw_last F hK hW hS 1 (show _ = some (Sum.inl (cJ, 960, Sum.inr (Sum.inl (blk (80 * q) (80 * q + i) 0 (sPl σ))))) from hR.2.2.2.2.2.1) rfl (vp_in_nI (show (80 * q + i) < 960 by omega) (by omega)) dX3_hold_182 (fun H locs hW hS => ?_)
                                    rw [nI_clamp (show (80 * q + i) < 2 ^ 31 by omega)] at hW
                                    rw [show vp_updL (blk (80 * q) (80 * q + i) 0 (sPl σ)) (80 * q + i) 0 = blk (80 * q) (80 * q + (i + 1)) 0 (sPl σ) from (blk_sL 0 (sPl σ) (by omega))] at hW
                                    have hR := hR.wPl (blk (80 * q) (80 * q + (i + 1)) 0 (sPl σ))
                                    have hR : refAt cI cJ mm ad (wPl (wSi (wKi (wHo σ (upd (sHo σ) j 0)) (upd (sKi σ) q k0)) (upd (sSi σ) q (nI n))) (blk (80 * q) (80 * q + (i + 1)) 0 (sPl σ))) _ := hR
                                    refine lv_iinc (v := nI (i + 1)) (lv' := [(6, .int (nI (i + 1))), (5, .int (nI q)), (0, .ref mm), (1, .int (nI j)), (2, .int k0), (3, .int (nI n))]) hx hb dX3_hold_183 hl (k := 0) rfl (nI_1 i) (by decide) rfl (fun ls hl => ?_)
                                    refine lv_goto (tgt := 163) hx hb dX3_hold_186 (by decide) ?_
                                    exact ih (i + 1) _ H locs (by omega) (by omega) hW hS hR ls (lv_sub hl [0, 1, 2, 3, 4, 5] rfl)
                              exact loop (n + 1) 0 _ _ _ (by omega) (Nat.zero_le _) hW hS hR ls (lv_sub hl [0, 1, 2, 3, 4, 5] rfl)
                            · have c_135 := bI_n c_135
                              refine lv_iinc (v := nI (q + 1)) (lv' := [(5, .int (nI (q + 1))), (0, .ref mm), (1, .int (nI j)), (2, .int k0), (3, .int (nI n))]) hx hb dX3_hold_138 hl (k := 0) rfl (nI_1 q) (by decide) rfl (fun ls hl => ?_)
                              refine lv_goto (tgt := 118) hx hb dX3_hold_141 (by decide) ?_
                              have hoc : occR (rfOff σ j) q = true := by unfold occR; rw [show heldB (rfOff σ j) (nI (q + 1)) = true from c_135, Bool.or_true]
                              exact ih (q + 1) (by omega) (by
                                rcases Nat.lt_or_ge q (rowQ σ j) with h9 | h9
                                · omega
                                · exfalso
                                  have h8 := lead_stop (occR (rfOff σ j)) 12 hQ
                                  rw [show lead (occR (rfOff σ j)) 12 = q from Nat.le_antisymm h9 hq, hoc] at h8
                                  cases h8) ls (lv_sub hl [0, 1, 2, 3, 4] rfl)
                      exact loop (rowQ σ j + 1) 0 (by omega) (Nat.zero_le _) ls (lv_sub hl [0, 2, 3, 4, 5] rfl)
                    · exact absurd c_78 (by decide)
                  · rw [c_68] at c_23
                    exact absurd (show (0 : Int32) < 2 by decide) c_23
                · refine lv_iconst (v := 0) hx hb dX3_hold_58 (by decide) ?_
                  exact W.iret hx hb hr (fun t ht hw => ⟨⟨_, _, rfl, (by
                    have e8 : rfHold σ (nI j) k0 n0 = (0, σ) := by
                      unfold rfHold
                      rw [if_pos esp_j, if_neg (not_or.mpr ⟨c_11, Int32.not_lt.mpr c_16⟩), if_pos (Int32.not_lt.mp c_23), if_pos (Or.inr (Or.inr c_55))]
                    rw [e8]; exact ⟨rfl, hR⟩), by rw [ht]; exact hW, va_K.moved hw.alike hK⟩, hS.F ht⟩) hS.2.2 dX3_hold_59
      · refine lv_iconst (v := 0) hx hb dX3_hold_19 (by decide) ?_
        exact W.iret hx hb hr (fun t ht hw => ⟨⟨_, _, rfl, (by
          have e8 : rfHold σ (nI j) k0 n0 = (0, σ) := by
            unfold rfHold
            rw [if_pos esp_j, if_pos (Or.inr (Int32.not_le.mp c_16))]
          rw [e8]; exact ⟨rfl, hR⟩), by rw [ht]; exact hW, va_K.moved hw.alike hK⟩, hS.F ht⟩) hS.2.2 dX3_hold_20
  · have c_4 := bI_e c_4
    refine lv_bipush (v := (-9)) hx hb dX3_hold_7 (by decide) ?_
    exact W.iret hx hb hr (fun t ht hw => ⟨⟨_, _, rfl, (by
      have e8 : rfHold σ s0 k0 n0 = (-9, σ) := by simp [rfHold, c_4]
      rw [e8]; exact ⟨rfl, hR⟩), by rw [ht]; exact hW, va_K.moved hw.alike hK⟩, hS.F ht⟩) hS.2.2 dX3_hold_9
end X3H
end
section
section X3S
variable {l : Launch} {D : va_G} {cI cJ cC cH : ClassId} {M : Nat → Option va_E} {sz : Nat}
theorem hind_of {σ : RS} {j : Nat} {i n : Int32} (h : ¬ hindI σ j i n = 0) : ∃ t : Nat, 1 ≤ t ∧ t < 4 ∧ hindI σ j i n = nI t := by
  unfold hindI at h ⊢
  by_cases h1 : sHo σ j = 0
  · rw [if_pos h1]; exact ⟨1, by omega, by omega, rfl⟩
  · rw [if_neg h1] at h ⊢
    by_cases h2 : hasP σ j = true
    · rw [if_pos h2] at h ⊢
      by_cases h3 : beyB i n (szOf σ j) = true
      · rw [if_pos h3]; exact ⟨3, by omega, by omega, rfl⟩
      · rw [if_neg h3] at h; exact absurd rfl h
    · rw [if_neg h2]; exact ⟨2, by omega, by omega, rfl⟩
theorem hind0 {σ : RS} {cc j : Nat} {i n : Int32} (hI : Inv σ cc) (hj : j < 10) (h : hindI σ j i n = 0) : ∃ k e i' n' : Nat, k < 12 ∧ sHo σ j = nI (k + 1) ∧ e ≤ 80 ∧ sSi σ k = nI e ∧ i = nI i' ∧ n = nI n' ∧ i' + n' ≤ e := by
  unfold hindI at h
  by_cases h1 : sHo σ j = 0
  · rw [if_pos h1] at h; exact absurd h (by decide)
  · rw [if_neg h1] at h
    by_cases h2 : hasP σ j = true
    · rw [if_pos h2] at h
      obtain ⟨k, hk, e9⟩ := (hI.ho hj).rowP (of_decide_eq_true h2)
      obtain ⟨e, he, en⟩ := hI.sz hk
      by_cases h3 : beyB i n (szOf σ j) = true
      · rw [if_pos h3] at h; exact absurd h (by decide)
      · have h4 : beyB i n (szOf σ j) = false := by
          cases hq : beyB i n (szOf σ j) with
          | false => rfl
          | true => exact absurd hq h3
        rw [szOf_row hk e9, en, beyB_of he] at h4
        obtain ⟨a, b, ea, eb, hab⟩ := inPls_of he (by simpa using h4)
        exact ⟨k, e, a, b, hk, e9, he, en, ea, eb, hab⟩
    · rw [if_neg h2] at h; exact absurd h (by decide)
theorem hind_ok {σ : RS} {cc j k e i n : Nat} (hI : Inv σ cc) (hj : j < 10) (hk : k < 12) (e9 : sHo σ j = nI (k + 1)) (he : e ≤ 80) (en : sSi σ k = nI e) (h : i + n ≤ e) : hindI σ j (nI i) (nI n) = 0 := by
  unfold hindI
  rw [e9, if_neg (row_n0 hk), if_pos (hasP_row hk e9), szOf_row hk e9, en, beyB_of he, inPls_nI (by omega) (by omega) (by omega)]
  simp [h]
def shPx (up : Bool) (k i n e x : Nat) (P : Nat → Int64) : Nat → Int64 := fun y => if 80 * k + i ≤ y ∧ y < 80 * k + x then shP up i n e (fun x => P (80 * k + x)) (y - 80 * k) else P y
theorem shPx_0 (up : Bool) (k i n e : Nat) (P : Nat → Int64) : shPx up k i n e i P = P := by
  funext y
  unfold shPx
  rw [if_neg (by omega)]
theorem shPx_s {up : Bool} {k i n e x : Nat} {P : Nat → Int64} {v : Int64} (h : i ≤ x) (hv : v = shP up i n e (fun x => P (80 * k + x)) x) : vp_updL (shPx up k i n e x P) (80 * k + x) v = shPx up k i n e (x + 1) P := by
  funext y
  unfold vp_updL shPx
  by_cases hy : y = 80 * k + x
  · subst hy
    rw [if_pos rfl, if_pos (by omega), show 80 * k + x - 80 * k = x by omega, hv]
  · rw [if_neg hy]
    by_cases h2 : 80 * k + i ≤ y ∧ y < 80 * k + x
    · rw [if_pos h2, if_pos (by omega)]
    · rw [if_neg h2, if_neg (by omega)]
theorem cpy_was {f g : Nat → Int64} {sp e a : Nat} (h : a < e) : va_cpy f g sp 0 e a = f (sp + a) := by
  unfold va_cpy
  rw [if_pos (by omega), Nat.sub_zero]
abbrev rmX3_shifts : Room := ({ frames := 3, cells := 0, slots := 0, locals := 65 } : Room)
set_option maxHeartbeats 4000000 in
set_option maxRecDepth 100000 in
theorem c_X3_shifts {mm : Nat} {ad : Nat → Nat} {σ : RS} (hR : refAt cI cJ mm ad σ M) {cc : Nat} (hI : Inv σ cc) {s0 i0 n0 : Int32} {up : Bool} : Met l yX3_shifts wsX3_shifts rmX3_shifts (va_Pc [.ref mm, .int s0, .int i0, .int n0, .int (bI up)] (mwPre D (tyL cI cJ cC cH) M sz)) (va_Qi (fun r M' => r = (rfShift σ s0 i0 n0 up).1 ∧ refAt cI cJ mm ad (rfShift σ s0 i0 n0 up).2 M') (mwB D (tyL cI cJ cC cH) M sz) (mwA M sz)) 0 0 (mwA M sz) := by
  refine Met.ofW (cc := cX3_shifts) (maxL := 11) (ret := (some .int)) (by decide) rfl ?_
  intro pr env s m args below meth c s₁ B hml hv
  obtain ⟨rfl, hsz, hW, hK, hO⟩ := hv
  subst hsz
  have hW := hW.self (sz := s.heap.size)
  have hS : va_S (mwA M s.heap.size) s.heap s.heap [] := va_S.rf
  have hA : ∀ q, s.heap.size ≤ q → mwA M s.heap.size q := fun q h => Or.inr h
  have hx := B.exec
  have hb := B.bytes
  have hr := B.returns
  have hts := atoms_spec (ws := wsX3_shifts) B.pre
  have hown : s.vm.findClass RX3 = some m.cls := findClass_of_methodNamed B.named
  have hlocks := B.notSynchronized
  have F : CallFix pr m c cX3_shifts 11 s ([.ref mm, .int s0, .int i0, .int n0, .int (bI up)] : List Value).toArray wsX3_shifts RX3 := ⟨hx, hb, hml, hown, hts⟩
  have hI_X3 : ∀ w ∈ wsX30, w ∈ wsX3_shifts := by decide +kernel
  have hl_fieldLink_RX3_7_SpliceBenchModel_holds_I := hts (.fieldLink RX3 7 "SpliceBenchModel" "holds" "[I") (by decide +kernel)
  have hl_fieldLink_RX3_19_SpliceBenchModel_size_I := hts (.fieldLink RX3 19 "SpliceBenchModel" "size" "[I") (by decide +kernel)
  have hl_fieldLink_RX3_69_SpliceBenchModel_came_I := hts (.fieldLink RX3 69 "SpliceBenchModel" "came" "I") (by decide +kernel)
  have hl_fieldLink_RX3_91_SpliceBenchModel_good_I := hts (.fieldLink RX3 91 "SpliceBenchModel" "good" "I") (by decide +kernel)
  have hl_fieldLink_RX3_22_SpliceBenchModel_places_J := hts (.fieldLink RX3 22 "SpliceBenchModel" "places" "[J") (by decide +kernel)
  have hl_fieldLink_RX3_26_SpliceBenchModel_was_J := hts (.fieldLink RX3 26 "SpliceBenchModel" "was" "[J") (by decide +kernel)
  have hl := lv_entry ([.ref mm, .int s0, .int i0, .int n0, .int (bI up)]) (n := 11) (Nat.le_of_ble_eq_true rfl)
  rw [lg_entry_eq]
  generalize (lg_sl ([.ref mm, .int s0, .int i0, .int n0, .int (bI up)]) ++ List.replicate (11 - (lg_sl ([.ref mm, .int s0, .int i0, .int n0, .int (bI up)])).length) Slot.unset).toArray = ls at hl ⊢
  have hl : lv_has ls 11 [(0, .ref mm), (1, .int s0), (2, .int i0), (3, .int n0), (4, .int (bI up))] := hl
  refine lv_iload_n hx hb dX3_shifts_0 rfl (lv_at hl 1 rfl) ?_
  refine vp_callSi (W.runS (As := [.int s0]) (rest := []) F (c_X3_isSpindle) (cwS 1 hts gX3_shifts_X3_isSpindle rfl rfl rfl (by decide +kernel) ⟨Nat.le_of_ble_eq_true rfl, Nat.le_of_ble_eq_true rfl⟩) (mw_prS hK hO hW) rfl rfl hl.1 rfl (lv_room (Nat.le_of_ble_eq_true rfl)) dX3_shifts_1 ⟨Nat.zero_le _, Nat.zero_le _⟩) (fun r_1 er_1 => ?_)
  subst er_1
  refine lv_if_ne (tgt := 10) hx hb dX3_shifts_4 (by decide) (fun c_4 => ?_) (fun c_4 => ?_)
  · obtain ⟨j, hj, rfl⟩ := isSp_of (bI_n c_4)
    have esp_j := isSp_nI hj
    have eix_j : ix (nI j) = j := nI_clamp (by omega)
    refine lv_aload_n hx hb dX3_shifts_10 rfl (lv_at hl 0 rfl) ?_
    refine lv_iload_n hx hb dX3_shifts_11 rfl (lv_at hl 1 rfl) ?_
    refine lv_iload_n hx hb dX3_shifts_12 rfl (lv_at hl 2 rfl) ?_
    refine lv_iload_n hx hb dX3_shifts_13 rfl (lv_at hl 3 rfl) ?_
    refine vp_callSi (W.runV (As := [.int (nI j), .int i0, .int n0]) (rest := []) F (c_X3_hinders (i := i0) (n := n0) hR (show j < 10 by omega) (hI.ho hj)) (cwV 3 hts gX3_shifts_X3_hinders rfl rfl rfl (by decide +kernel) ⟨Nat.le_of_ble_eq_true rfl, Nat.le_of_ble_eq_true rfl⟩) (mw_prV (q := (RX3, TX3, 14)) hK hO hW rfl hR.1) rfl rfl hl.1 rfl (lv_room (Nat.le_of_ble_eq_true rfl)) dX3_shifts_14 ⟨Nat.zero_le _, Nat.zero_le _⟩) (fun r_2 er_2 => ?_)
    subst er_2
    refine lv_istore (lv' := [(5, .int (hindI σ j i0 n0)), (0, .ref mm), (1, .int (nI j)), (2, .int i0), (3, .int n0), (4, .int (bI up))]) hx hb dX3_shifts_17 hl (by decide) rfl (fun ls hl => ?_)
    refine lv_iload hx hb dX3_shifts_19 (lv_at hl 0 rfl) ?_
    refine lv_if_eq (tgt := 31) hx hb dX3_shifts_21 (by decide) (fun c_21 => ?_) (fun c_21 => ?_)
    · obtain ⟨k, e, i, n, hk, e9, he, en, rfl, rfl, hin⟩ := hind0 hI hj c_21
      have eii : ix (nI i) = i := nI_clamp (by omega)
      have ein : ix (nI n) = n := nI_clamp (by omega)
      refine lv_aload_n hx hb dX3_shifts_31 rfl (lv_at hl 1 rfl) ?_
      refine mw_get (C := RX3) (T := TX3) (N := 14) F hK hW hI_X3 hR.1 rfl 0 (by decide) hl_fieldLink_RX3_7_SpliceBenchModel_holds_I rfl dX3_shifts_32 ?_
      refine lv_iload_n hx hb dX3_shifts_35 rfl (lv_at hl 2 rfl) ?_
      refine mw_iald F hK hW 0 hR.2.1 rfl (vp_in_nI (show j < 10 by omega) (by omega)) dX3_shifts_36 ?_
      rw [nI_clamp (show j < 2 ^ 31 by omega)]
      refine lv_iconst (v := 1) hx hb dX3_shifts_37 (by decide) ?_
      refine lv_isub hx hb dX3_shifts_38 ?_
      rw [e9, nI_pred]
      refine lv_istore (lv' := [(6, .int (nI k)), (5, .int (hindI σ j (nI i) (nI n))), (0, .ref mm), (1, .int (nI j)), (2, .int (nI i)), (3, .int (nI n)), (4, .int (bI up))]) hx hb dX3_shifts_39 hl (by decide) rfl (fun ls hl => ?_)
      refine lv_bipush (v := 80) hx hb dX3_shifts_41 (by decide) ?_
      refine lv_iload hx hb dX3_shifts_43 (lv_at hl 0 rfl) ?_
      refine lv_imul hx hb dX3_shifts_45 ?_
      rw [show (80 : Int32) = nI 80 from rfl, pk_mul]
      refine lv_istore (lv' := [(7, .int (nI (80 * k))), (6, .int (nI k)), (5, .int (hindI σ j (nI i) (nI n))), (0, .ref mm), (1, .int (nI j)), (2, .int (nI i)), (3, .int (nI n)), (4, .int (bI up))]) hx hb dX3_shifts_46 hl (by decide) rfl (fun ls hl => ?_)
      refine lv_aload_n hx hb dX3_shifts_48 rfl (lv_at hl 3 rfl) ?_
      refine mw_get (C := RX3) (T := TX3) (N := 14) F hK hW hI_X3 hR.1 rfl 3 (by decide) hl_fieldLink_RX3_19_SpliceBenchModel_size_I rfl dX3_shifts_49 ?_
      refine lv_iload hx hb dX3_shifts_52 (lv_at hl 1 rfl) ?_
      refine mw_iald F hK hW 0 hR.2.2.2.2.1 rfl (vp_in_nI (show k < 12 by omega) (by omega)) dX3_shifts_54 ?_
      rw [nI_clamp (show k < 2 ^ 31 by omega)]
      rw [en]
      refine lv_istore (lv' := [(8, .int (nI e)), (7, .int (nI (80 * k))), (6, .int (nI k)), (5, .int (hindI σ j (nI i) (nI n))), (0, .ref mm), (1, .int (nI j)), (2, .int (nI i)), (3, .int (nI n)), (4, .int (bI up))]) hx hb dX3_shifts_55 hl (by decide) rfl (fun ls hl => ?_)
      refine lv_aload_n hx hb dX3_shifts_57 rfl (lv_at hl 4 rfl) ?_
      refine lv_iload hx hb dX3_shifts_58 (lv_at hl 2 rfl) ?_
      refine mw_callv (va_runV (As := [.int (nI k)]) (rest := []) F (c_X3_cover (k := k) (n := e) hR hk he en) (cwV 1 hts gX3_shifts_X3_cover rfl rfl rfl (by decide +kernel) ⟨Nat.le_of_ble_eq_true rfl, Nat.le_of_ble_eq_true rfl⟩) (mw_prV (q := (RX3, TX3, 14)) hK hO hW rfl hR.1) rfl rfl hl.1 rfl (lv_room (Nat.le_of_ble_eq_true rfl)) dX3_shifts_60 ⟨Nat.zero_le _, Nat.zero_le _⟩) hW hS hA (fun M1 H locs h9 hW hS => ?_)
      have hR := h9
      refine lv_iload_n hx hb dX3_shifts_63 rfl (lv_at hl 6 rfl) ?_
      refine lv_istore (lv' := [(9, .int (nI i)), (8, .int (nI e)), (7, .int (nI (80 * k))), (6, .int (nI k)), (5, .int (hindI σ j (nI i) (nI n))), (0, .ref mm), (1, .int (nI j)), (2, .int (nI i)), (3, .int (nI n)), (4, .int (bI up))]) hx hb dX3_shifts_64 hl (by decide) rfl (fun ls hl => ?_)
      have hR := hR.to (σ' := wPl (wWa (wCov σ (nI k)) (va_cpy (sPl σ) (sWa σ) (80 * k) 0 e)) (shPx up k i n e i (sPl σ))) (by rw [shPx_0]; rfl)
      have loop : ∀ (N : Nat) (x : Nat) (M1 : Nat → Option va_E) (H : Heap) (locs : List Loc), e + 1 ≤ x + N → i ≤ x → x ≤ e → mw D (mwA M s.heap.size) M1 H → va_S (mwA M s.heap.size) s.heap H locs → refAt cI cJ mm ad (wPl (wWa (wCov σ (nI k)) (va_cpy (sPl σ) (sWa σ) (80 * k) 0 e)) (shPx up k i n e x (sPl σ))) M1 → ∀ (ls : Array Slot), lv_has ls 11 [(9, .int (nI x)), (8, .int (nI e)), (7, .int (nI (80 * k))), (0, .ref mm), (1, .int (nI j)), (2, .int (nI i)), (3, .int (nI n)), (4, .int (bI up))] → W pr l env (headSpec wsX3_shifts rmX3_shifts).room s m ([.ref mm, .int (nI j), .int (nI i), .int (nI n), .int (bI up)] : List Value).toArray below meth c H locs 0 0 (MQ below (va_Qi (fun r M' => r = (rfShift σ (nI j) (nI i) (nI n) up).1 ∧ refAt cI cJ mm ad (rfShift σ (nI j) (nI i) (nI n) up).2 M') (mwB D (tyL cI cJ cC cH) M s.heap.size) (mwA M s.heap.size)) ([.ref mm, .int (nI j), .int (nI i), .int (nI n), .int (bI up)] : List Value).toArray s 0 0 (mwA M s.heap.size)) (F0 m 66 ls []) := by
        intro N
        induction N with
        | zero =>
          exact fun x M1 H locs h1 h2 h3 => absurd h1 (by omega)
        | succ N ih =>
          intro x M1 H locs hN hx1 hxe hW hS hR ls hl
          refine lv_iload hx hb dX3_shifts_66 (lv_at hl 0 rfl) ?_
          refine lv_iload hx hb dX3_shifts_68 (lv_at hl 1 rfl) ?_
          refine lv_icmp_ge (tgt := 131) hx hb dX3_shifts_70 (by decide) (fun c_70 => ?_) (fun c_70 => ?_)
          · refine lv_aload_n hx hb dX3_shifts_131 rfl (lv_at hl 3 rfl) ?_
            refine lv_iload hx hb dX3_shifts_132 (lv_at hl 1 rfl) ?_
            refine lv_iload_n hx hb dX3_shifts_134 rfl (lv_at hl 5 rfl) ?_
            refine lv_isub hx hb dX3_shifts_135 ?_
            refine lv_iload_n hx hb dX3_shifts_136 rfl (lv_at hl 6 rfl) ?_
            refine lv_isub hx hb dX3_shifts_137 ?_
            rw [pk_sub (show i ≤ e by omega), pk_sub (show n ≤ e - i by omega)]
            refine mw_put (C := RX3) (T := TX3) (N := 14) (v := .int (nI (e - i - n))) F hK hW hS hI_X3 tyX3 tyX3_ok nmX3 (show _ = some (Sum.inr (3, [.ref (ad 0), .ref (ad 1), .ref (ad 2), .ref (ad 3), .ref (ad 4), .ref (ad 5), .ref (ad 6), .ref (ad 7), .ref (ad 8), .int (nI k), .int (sCam σ), .int (sGoo σ), .int (sRow σ), .int (sCar σ)])) from hR.1) rfl 10 (by decide) hl_fieldLink_RX3_69_SpliceBenchModel_came_I rfl rfl rfl (Nat.le_of_ble_eq_true rfl) dX3_shifts_138 (fun H locs hW hS => ?_)
            have hR := hR.wCam (nI (e - i - n))
            refine lv_aload_n hx hb dX3_shifts_141 rfl (lv_at hl 3 rfl) ?_
            refine lv_dup hx hb dX3_shifts_142 rfl ?_
            refine mw_get (C := RX3) (T := TX3) (N := 14) F hK hW hI_X3 (show _ = some (Sum.inr (3, [.ref (ad 0), .ref (ad 1), .ref (ad 2), .ref (ad 3), .ref (ad 4), .ref (ad 5), .ref (ad 6), .ref (ad 7), .ref (ad 8), .int (nI k), .int (nI (e - i - n)), .int (sGoo σ), .int (sRow σ), .int (sCar σ)])) from hR.1) rfl 11 (by decide) hl_fieldLink_RX3_91_SpliceBenchModel_good_I rfl dX3_shifts_143 ?_
            refine lv_iconst (v := 1) hx hb dX3_shifts_146 (by decide) ?_
            refine lv_iadd hx hb dX3_shifts_147 ?_
            refine mw_put (C := RX3) (T := TX3) (N := 14) (v := .int ((sGoo σ) + 1)) F hK hW hS hI_X3 tyX3 tyX3_ok nmX3 (show _ = some (Sum.inr (3, [.ref (ad 0), .ref (ad 1), .ref (ad 2), .ref (ad 3), .ref (ad 4), .ref (ad 5), .ref (ad 6), .ref (ad 7), .ref (ad 8), .int (nI k), .int (nI (e - i - n)), .int (sGoo σ), .int (sRow σ), .int (sCar σ)])) from hR.1) rfl 11 (by decide) hl_fieldLink_RX3_91_SpliceBenchModel_good_I rfl rfl rfl (Nat.le_of_ble_eq_true rfl) dX3_shifts_148 (fun H locs hW hS => ?_)
            have hR := hR.wGoo ((sGoo σ) + 1)
            refine lv_iconst (v := 1) hx hb dX3_shifts_151 (by decide) ?_
            exact W.iret hx hb hr (fun t ht hw => ⟨⟨_, _, rfl, (by
              have e7 : x = e := by have := (nI_leI (by omega) (by omega)).mp c_70; omega
              have e8 : rfShift σ (nI j) (nI i) (nI n) up = (1, rfShiftOk σ up k i n e) := by
                unfold rfShift
                rw [if_pos esp_j, eix_j, if_pos (hind_ok hI hj hk e9 he en hin), szOf_row hk e9, en, rIx_row hk e9, eii, ein]
                simp only [ix, nI_clamp (show e < 2 ^ 31 by omega)]
              rw [e8]; exact ⟨rfl, hR.to (by rw [e7]; rfl)⟩), by rw [ht]; exact hW, va_K.moved hw.alike hK⟩, hS.F ht⟩) hS.2.2 dX3_shifts_152
          · have hxn : x < e := by
              rcases Nat.lt_or_ge x e with h9 | h9
              · exact h9
              · exact absurd (nI_le h9 (by omega)) c_70
            refine lv_iload hx hb dX3_shifts_73 (lv_at hl 7 rfl) ?_
            refine lv_if_eq (tgt := 85) hx hb dX3_shifts_75 (by decide) (fun c_75 => ?_) (fun c_75 => ?_)
            · have c_75 := bI_e c_75
              refine lv_iload hx hb dX3_shifts_85 (lv_at hl 0 rfl) ?_
              refine lv_iload_n hx hb dX3_shifts_87 rfl (lv_at hl 6 rfl) ?_
              refine lv_iadd hx hb dX3_shifts_88 ?_
              rw [nI_add]
              refine lv_istore (lv' := [(10, .int (nI (x + n))), (9, .int (nI x)), (8, .int (nI e)), (7, .int (nI (80 * k))), (0, .ref mm), (1, .int (nI j)), (2, .int (nI i)), (3, .int (nI n)), (4, .int (bI up))]) hx hb dX3_shifts_89 hl (by decide) rfl (fun ls hl => ?_)
              refine lv_aload_n hx hb dX3_shifts_91 rfl (lv_at hl 4 rfl) ?_
              refine mw_get (C := RX3) (T := TX3) (N := 14) F hK hW hI_X3 (show _ = some (Sum.inr (3, [.ref (ad 0), .ref (ad 1), .ref (ad 2), .ref (ad 3), .ref (ad 4), .ref (ad 5), .ref (ad 6), .ref (ad 7), .ref (ad 8), .int (nI k), .int (sCam σ), .int (sGoo σ), .int (sRow σ), .int (sCar σ)])) from hR.1) rfl 4 (by decide) hl_fieldLink_RX3_22_SpliceBenchModel_places_J rfl dX3_shifts_92 ?_
              refine lv_iload hx hb dX3_shifts_95 (lv_at hl 3 rfl) ?_
              refine lv_iload hx hb dX3_shifts_97 (lv_at hl 1 rfl) ?_
              refine lv_iadd hx hb dX3_shifts_99 ?_
              rw [nI_add]
              refine lv_iload hx hb dX3_shifts_100 (lv_at hl 0 rfl) ?_
              refine lv_iload_n hx hb dX3_shifts_102 rfl (lv_at hl 6 rfl) ?_
              refine lv_icmp_lt (tgt := 113) hx hb dX3_shifts_103 (by decide) (fun c_103 => ?_) (fun c_103 => ?_)
              · exact absurd c_103 (nI_nlt (by omega) (by omega))
              · refine lv_iload hx hb dX3_shifts_106 (lv_at hl 0 rfl) ?_
                refine lv_iload hx hb dX3_shifts_108 (lv_at hl 2 rfl) ?_
                refine lv_icmp_lt (tgt := 117) hx hb dX3_shifts_110 (by decide) (fun c_110 => ?_) (fun c_110 => ?_)
                · have hz := (nI_ltI (by omega) (by omega)).mp c_110
                  refine lv_aload_n hx hb dX3_shifts_117 rfl (lv_at hl 4 rfl) ?_
                  refine mw_get (C := RX3) (T := TX3) (N := 14) F hK hW hI_X3 (show _ = some (Sum.inr (3, [.ref (ad 0), .ref (ad 1), .ref (ad 2), .ref (ad 3), .ref (ad 4), .ref (ad 5), .ref (ad 6), .ref (ad 7), .ref (ad 8), .int (nI k), .int (sCam σ), .int (sGoo σ), .int (sRow σ), .int (sCar σ)])) from hR.1) rfl 5 (by decide) hl_fieldLink_RX3_26_SpliceBenchModel_was_J rfl dX3_shifts_118 ?_
                  refine lv_iload hx hb dX3_shifts_121 (lv_at hl 0 rfl) ?_
                  refine mw_lald F hK hW 1 (show _ = some (Sum.inl (cJ, 80, Sum.inr (Sum.inl (va_cpy (sPl σ) (sWa σ) (80 * k) 0 e)))) from hR.2.2.2.2.2.2.1) rfl (vp_in_nI (show (x + n) < 80 by omega) (by omega)) dX3_shifts_123 ?_
                  rw [nI_clamp (show (x + n) < 2 ^ 31 by omega)]
                  rw [cpy_was (show x + n < e by omega)]
                  refine mw_last F hK hW hS 1 (show _ = some (Sum.inl (cJ, 960, Sum.inr (Sum.inl (shPx up k i n e x (sPl σ))))) from hR.2.2.2.2.2.1) rfl (vp_in_nI (show (80 * k + x) < 960 by omega) (by omega)) dX3_shifts_124 (fun H locs hW hS => ?_)
                  rw [nI_clamp (show (80 * k + x) < 2 ^ 31 by omega)] at hW
                  rw [show vp_updL (shPx up k i n e x (sPl σ)) (80 * k + x) (sPl σ (80 * k + (x + n))) = shPx up k i n e (x + 1) (sPl σ) from (shPx_s (by omega) (by simp only [shP]; rw [if_neg (by rw [c_75]; decide), if_pos hz]))] at hW
                  have hR := hR.wPl (shPx up k i n e (x + 1) (sPl σ))
                  have hR : refAt cI cJ mm ad (wPl (wWa (wCov σ (nI k)) (va_cpy (sPl σ) (sWa σ) (80 * k) 0 e)) (shPx up k i n e (x + 1) (sPl σ))) _ := hR
                  refine lv_iinc (v := nI (x + 1)) (lv' := [(9, .int (nI (x + 1))), (10, .int (nI (x + n))), (8, .int (nI e)), (7, .int (nI (80 * k))), (0, .ref mm), (1, .int (nI j)), (2, .int (nI i)), (3, .int (nI n)), (4, .int (bI up))]) hx hb dX3_shifts_125 hl (k := 1) rfl (nI_1 x) (by decide) rfl (fun ls hl => ?_)
                  refine lv_goto (tgt := 66) hx hb dX3_shifts_128 (by decide) ?_
                  exact ih (x + 1) _ H locs (by omega) (by omega) (by omega) hW hS hR ls (lv_sub hl [0, 2, 3, 4, 5, 6, 7, 8] rfl)
                · have hz : ¬ x + n < e := fun h9 => c_110 (nI_lt h9 (by omega))
                  refine lv_lconst (v := 0) hx hb dX3_shifts_113 (by decide) ?_
                  refine lv_goto (tgt := 124) hx hb dX3_shifts_114 (by decide) ?_
                  refine mw_last F hK hW hS 1 (show _ = some (Sum.inl (cJ, 960, Sum.inr (Sum.inl (shPx up k i n e x (sPl σ))))) from hR.2.2.2.2.2.1) rfl (vp_in_nI (show (80 * k + x) < 960 by omega) (by omega)) dX3_shifts_124 (fun H locs hW hS => ?_)
                  rw [nI_clamp (show (80 * k + x) < 2 ^ 31 by omega)] at hW
                  rw [show vp_updL (shPx up k i n e x (sPl σ)) (80 * k + x) 0 = shPx up k i n e (x + 1) (sPl σ) from (shPx_s (by omega) (by simp only [shP]; rw [if_neg (by rw [c_75]; decide), if_neg hz]))] at hW
                  have hR := hR.wPl (shPx up k i n e (x + 1) (sPl σ))
                  have hR : refAt cI cJ mm ad (wPl (wWa (wCov σ (nI k)) (va_cpy (sPl σ) (sWa σ) (80 * k) 0 e)) (shPx up k i n e (x + 1) (sPl σ))) _ := hR
                  refine lv_iinc (v := nI (x + 1)) (lv' := [(9, .int (nI (x + 1))), (10, .int (nI (x + n))), (8, .int (nI e)), (7, .int (nI (80 * k))), (0, .ref mm), (1, .int (nI j)), (2, .int (nI i)), (3, .int (nI n)), (4, .int (bI up))]) hx hb dX3_shifts_125 hl (k := 1) rfl (nI_1 x) (by decide) rfl (fun ls hl => ?_)
                  refine lv_goto (tgt := 66) hx hb dX3_shifts_128 (by decide) ?_
                  exact ih (x + 1) _ H locs (by omega) (by omega) (by omega) hW hS hR ls (lv_sub hl [0, 2, 3, 4, 5, 6, 7, 8] rfl)
            · have c_75 := bI_n c_75
              refine lv_iload hx hb dX3_shifts_78 (lv_at hl 0 rfl) ?_
              refine lv_iload_n hx hb dX3_shifts_80 rfl (lv_at hl 6 rfl) ?_
              refine lv_isub hx hb dX3_shifts_81 ?_
              refine lv_goto (tgt := 89) hx hb dX3_shifts_82 (by decide) ?_
              refine lv_istore (lv' := [(10, .int ((nI x) - (nI n))), (9, .int (nI x)), (8, .int (nI e)), (7, .int (nI (80 * k))), (0, .ref mm), (1, .int (nI j)), (2, .int (nI i)), (3, .int (nI n)), (4, .int (bI up))]) hx hb dX3_shifts_89 hl (by decide) rfl (fun ls hl => ?_)
              refine lv_aload_n hx hb dX3_shifts_91 rfl (lv_at hl 4 rfl) ?_
              refine mw_get (C := RX3) (T := TX3) (N := 14) F hK hW hI_X3 (show _ = some (Sum.inr (3, [.ref (ad 0), .ref (ad 1), .ref (ad 2), .ref (ad 3), .ref (ad 4), .ref (ad 5), .ref (ad 6), .ref (ad 7), .ref (ad 8), .int (nI k), .int (sCam σ), .int (sGoo σ), .int (sRow σ), .int (sCar σ)])) from hR.1) rfl 4 (by decide) hl_fieldLink_RX3_22_SpliceBenchModel_places_J rfl dX3_shifts_92 ?_
              refine lv_iload hx hb dX3_shifts_95 (lv_at hl 3 rfl) ?_
              refine lv_iload hx hb dX3_shifts_97 (lv_at hl 1 rfl) ?_
              refine lv_iadd hx hb dX3_shifts_99 ?_
              rw [nI_add]
              refine lv_iload hx hb dX3_shifts_100 (lv_at hl 0 rfl) ?_
              refine lv_iload_n hx hb dX3_shifts_102 rfl (lv_at hl 6 rfl) ?_
              refine lv_icmp_lt (tgt := 113) hx hb dX3_shifts_103 (by decide) (fun c_103 => ?_) (fun c_103 => ?_)
              · have hz : x < i + n := by
                  rcases Nat.lt_or_ge x (i + n) with h9 | h9
                  · exact h9
                  · rw [pk_sub (show n ≤ x by omega)] at c_103
                    exact absurd c_103 (nI_nlt (by omega) (by omega))
                refine lv_lconst (v := 0) hx hb dX3_shifts_113 (by decide) ?_
                refine lv_goto (tgt := 124) hx hb dX3_shifts_114 (by decide) ?_
                refine mw_last F hK hW hS 1 (show _ = some (Sum.inl (cJ, 960, Sum.inr (Sum.inl (shPx up k i n e x (sPl σ))))) from hR.2.2.2.2.2.1) rfl (vp_in_nI (show (80 * k + x) < 960 by omega) (by omega)) dX3_shifts_124 (fun H locs hW hS => ?_)
                rw [nI_clamp (show (80 * k + x) < 2 ^ 31 by omega)] at hW
                rw [show vp_updL (shPx up k i n e x (sPl σ)) (80 * k + x) 0 = shPx up k i n e (x + 1) (sPl σ) from (shPx_s (by omega) (by simp only [shP]; rw [if_pos c_75, if_pos hz]))] at hW
                have hR := hR.wPl (shPx up k i n e (x + 1) (sPl σ))
                have hR : refAt cI cJ mm ad (wPl (wWa (wCov σ (nI k)) (va_cpy (sPl σ) (sWa σ) (80 * k) 0 e)) (shPx up k i n e (x + 1) (sPl σ))) _ := hR
                refine lv_iinc (v := nI (x + 1)) (lv' := [(9, .int (nI (x + 1))), (10, .int ((nI x) - (nI n))), (8, .int (nI e)), (7, .int (nI (80 * k))), (0, .ref mm), (1, .int (nI j)), (2, .int (nI i)), (3, .int (nI n)), (4, .int (bI up))]) hx hb dX3_shifts_125 hl (k := 1) rfl (nI_1 x) (by decide) rfl (fun ls hl => ?_)
                refine lv_goto (tgt := 66) hx hb dX3_shifts_128 (by decide) ?_
                exact ih (x + 1) _ H locs (by omega) (by omega) (by omega) hW hS hR ls (lv_sub hl [0, 2, 3, 4, 5, 6, 7, 8] rfl)
              · have hz : i + n ≤ x := by
                  rcases Nat.lt_or_ge x (i + n) with h9 | h9
                  · exfalso
                    refine c_103 ?_
                    rw [Int32.lt_iff_toInt_lt, pk_sub_toInt (by omega) (by omega), nI_toInt (by omega)]
                    omega
                  · exact h9
                have es : nI x - nI n = nI (x - n) := pk_sub (by omega)
                refine lv_iload hx hb dX3_shifts_106 (lv_at hl 0 rfl) ?_
                refine lv_iload hx hb dX3_shifts_108 (lv_at hl 2 rfl) ?_
                refine lv_icmp_lt (tgt := 117) hx hb dX3_shifts_110 (by decide) (fun c_110 => ?_) (fun c_110 => ?_)
                · refine lv_aload_n hx hb dX3_shifts_117 rfl (lv_at hl 4 rfl) ?_
                  refine mw_get (C := RX3) (T := TX3) (N := 14) F hK hW hI_X3 (show _ = some (Sum.inr (3, [.ref (ad 0), .ref (ad 1), .ref (ad 2), .ref (ad 3), .ref (ad 4), .ref (ad 5), .ref (ad 6), .ref (ad 7), .ref (ad 8), .int (nI k), .int (sCam σ), .int (sGoo σ), .int (sRow σ), .int (sCar σ)])) from hR.1) rfl 5 (by decide) hl_fieldLink_RX3_26_SpliceBenchModel_was_J rfl dX3_shifts_118 ?_
                  refine lv_iload hx hb dX3_shifts_121 (lv_at hl 0 rfl) ?_
                  rw [es]
                  refine mw_lald F hK hW 1 (show _ = some (Sum.inl (cJ, 80, Sum.inr (Sum.inl (va_cpy (sPl σ) (sWa σ) (80 * k) 0 e)))) from hR.2.2.2.2.2.2.1) rfl (vp_in_nI (show (x - n) < 80 by omega) (by omega)) dX3_shifts_123 ?_
                  rw [nI_clamp (show (x - n) < 2 ^ 31 by omega)]
                  rw [cpy_was (show x - n < e by omega)]
                  refine mw_last F hK hW hS 1 (show _ = some (Sum.inl (cJ, 960, Sum.inr (Sum.inl (shPx up k i n e x (sPl σ))))) from hR.2.2.2.2.2.1) rfl (vp_in_nI (show (80 * k + x) < 960 by omega) (by omega)) dX3_shifts_124 (fun H locs hW hS => ?_)
                  rw [nI_clamp (show (80 * k + x) < 2 ^ 31 by omega)] at hW
                  rw [show vp_updL (shPx up k i n e x (sPl σ)) (80 * k + x) (sPl σ (80 * k + (x - n))) = shPx up k i n e (x + 1) (sPl σ) from (shPx_s (by omega) (by simp only [shP]; rw [if_pos c_75, if_neg (by omega)]))] at hW
                  have hR := hR.wPl (shPx up k i n e (x + 1) (sPl σ))
                  have hR : refAt cI cJ mm ad (wPl (wWa (wCov σ (nI k)) (va_cpy (sPl σ) (sWa σ) (80 * k) 0 e)) (shPx up k i n e (x + 1) (sPl σ))) _ := hR
                  refine lv_iinc (v := nI (x + 1)) (lv' := [(9, .int (nI (x + 1))), (10, .int ((nI x) - (nI n))), (8, .int (nI e)), (7, .int (nI (80 * k))), (0, .ref mm), (1, .int (nI j)), (2, .int (nI i)), (3, .int (nI n)), (4, .int (bI up))]) hx hb dX3_shifts_125 hl (k := 1) rfl (nI_1 x) (by decide) rfl (fun ls hl => ?_)
                  refine lv_goto (tgt := 66) hx hb dX3_shifts_128 (by decide) ?_
                  exact ih (x + 1) _ H locs (by omega) (by omega) (by omega) hW hS hR ls (lv_sub hl [0, 2, 3, 4, 5, 6, 7, 8] rfl)
                · rw [es] at c_110
                  exact absurd (nI_lt (by omega) (by omega)) c_110
      exact loop (e + 1) i _ _ _ (by omega) (Nat.le_refl _) (by omega) hW hS hR ls (lv_sub hl [0, 1, 2, 5, 6, 7, 8, 9] rfl)
    · obtain ⟨t5, ht1, ht4, et⟩ := hind_of c_21
      refine lv_aload_n hx hb dX3_shifts_24 rfl (lv_at hl 1 rfl) ?_
      refine lv_iload hx hb dX3_shifts_25 (lv_at hl 0 rfl) ?_
      rw [et]
      refine mw_calli (va_runV (As := [.int (nI t5)]) (rest := []) F (c_X3_fails (t5 := t5) hR (show t5 < 5 by omega)) (cwV 1 hts gX3_shifts_X3_fails rfl rfl rfl (by decide +kernel) ⟨Nat.le_of_ble_eq_true rfl, Nat.le_of_ble_eq_true rfl⟩) (mw_prV (q := (RX3, TX3, 14)) hK hO hW rfl hR.1) rfl rfl hl.1 rfl (lv_room (Nat.le_of_ble_eq_true rfl)) dX3_shifts_27 ⟨Nat.zero_le _, Nat.zero_le _⟩) hW hS hA (fun r_3 M1 H locs h9 hW hS => ?_)
      obtain ⟨er_3, hR⟩ := h9
      subst er_3
      exact W.iret hx hb hr (fun t ht hw => ⟨⟨_, _, rfl, (by
        have e8 : rfShift σ (nI j) i0 n0 up = (-nI t5, rfFails σ t5) := by
          unfold rfShift
          rw [if_pos esp_j, eix_j, if_neg c_21, et]
          simp only [ix, nI_clamp (show t5 < 2 ^ 31 by omega)]
        rw [e8]; exact ⟨rfl, hR⟩), by rw [ht]; exact hW, va_K.moved hw.alike hK⟩, hS.F ht⟩) hS.2.2 dX3_shifts_30
  · have c_4 := bI_e c_4
    refine lv_bipush (v := (-9)) hx hb dX3_shifts_7 (by decide) ?_
    exact W.iret hx hb hr (fun t ht hw => ⟨⟨_, _, rfl, (by
      have e8 : rfShift σ s0 i0 n0 up = (-9, σ) := by simp [rfShift, c_4]
      rw [e8]; exact ⟨rfl, hR⟩), by rw [ht]; exact hW, va_K.moved hw.alike hK⟩, hS.F ht⟩) hS.2.2 dX3_shifts_9
abbrev rmX3_open : Room := ({ frames := 4, cells := 0, slots := 0, locals := 95 } : Room)
set_option maxHeartbeats 4000000 in
set_option maxRecDepth 100000 in
theorem c_X3_open {mm : Nat} {ad : Nat → Nat} {σ : RS} (hR : refAt cI cJ mm ad σ M) {cc : Nat} (hI : Inv σ cc) {s0 i0 n0 : Int32} : Met l yX3_open wsX3_open rmX3_open (va_Pc [.ref mm, .int s0, .int i0, .int n0] (mwPre D (tyL cI cJ cC cH) M sz)) (va_Qi (fun r M' => r = (rfShift σ s0 i0 n0 true).1 ∧ refAt cI cJ mm ad (rfShift σ s0 i0 n0 true).2 M') (mwB D (tyL cI cJ cC cH) M sz) (mwA M sz)) 0 0 (mwA M sz) := by
  refine Met.ofW (cc := cX3_open) (maxL := 4) (ret := (some .int)) (by decide) rfl ?_
  intro pr env s m args below meth c s₁ B hml hv
  obtain ⟨rfl, hsz, hW, hK, hO⟩ := hv
  subst hsz
  have hW := hW.self (sz := s.heap.size)
  have hS : va_S (mwA M s.heap.size) s.heap s.heap [] := va_S.rf
  have hA : ∀ q, s.heap.size ≤ q → mwA M s.heap.size q := fun q h => Or.inr h
  have hx := B.exec
  have hb := B.bytes
  have hr := B.returns
  have hts := atoms_spec (ws := wsX3_open) B.pre
  have hown : s.vm.findClass RX3 = some m.cls := findClass_of_methodNamed B.named
  have hlocks := B.notSynchronized
  have F : CallFix pr m c cX3_open 4 s ([.ref mm, .int s0, .int i0, .int n0] : List Value).toArray wsX3_open RX3 := ⟨hx, hb, hml, hown, hts⟩
  have hl := lv_entry ([.ref mm, .int s0, .int i0, .int n0]) (n := 4) (Nat.le_of_ble_eq_true rfl)
  rw [lg_entry_eq]
  generalize (lg_sl ([.ref mm, .int s0, .int i0, .int n0]) ++ List.replicate (4 - (lg_sl ([.ref mm, .int s0, .int i0, .int n0])).length) Slot.unset).toArray = ls at hl ⊢
  have hl : lv_has ls 4 [(0, .ref mm), (1, .int s0), (2, .int i0), (3, .int n0)] := hl
  refine lv_aload_n hx hb dX3_open_0 rfl (lv_at hl 0 rfl) ?_
  refine lv_iload_n hx hb dX3_open_1 rfl (lv_at hl 1 rfl) ?_
  refine lv_iload_n hx hb dX3_open_2 rfl (lv_at hl 2 rfl) ?_
  refine lv_iload_n hx hb dX3_open_3 rfl (lv_at hl 3 rfl) ?_
  refine lv_iconst (v := 1) hx hb dX3_open_4 (by decide) ?_
  refine mw_calli (va_runV (As := [.int s0, .int i0, .int n0, .int 1]) (rest := []) F (c_X3_shifts (s0 := s0) (i0 := i0) (n0 := n0) (up := true) hR hI) (cwV 4 hts gX3_open_X3_shifts rfl rfl rfl (by decide +kernel) ⟨Nat.le_of_ble_eq_true rfl, Nat.le_of_ble_eq_true rfl⟩) (mw_prV (q := (RX3, TX3, 14)) hK hO hW rfl hR.1) rfl rfl hl.1 rfl (lv_room (Nat.le_of_ble_eq_true rfl)) dX3_open_5 ⟨Nat.zero_le _, Nat.zero_le _⟩) hW hS hA (fun r M1 H locs h9 hW hS => ?_)
  exact W.iret hx hb hr (fun t ht hw => ⟨⟨_, _, rfl, h9, by rw [ht]; exact hW, va_K.moved hw.alike hK⟩, hS.F ht⟩) hS.2.2 dX3_open_8
abbrev rmX3_close : Room := ({ frames := 4, cells := 0, slots := 0, locals := 95 } : Room)
set_option maxHeartbeats 4000000 in
set_option maxRecDepth 100000 in
theorem c_X3_close {mm : Nat} {ad : Nat → Nat} {σ : RS} (hR : refAt cI cJ mm ad σ M) {cc : Nat} (hI : Inv σ cc) {s0 i0 n0 : Int32} : Met l yX3_close wsX3_close rmX3_close (va_Pc [.ref mm, .int s0, .int i0, .int n0] (mwPre D (tyL cI cJ cC cH) M sz)) (va_Qi (fun r M' => r = (rfShift σ s0 i0 n0 false).1 ∧ refAt cI cJ mm ad (rfShift σ s0 i0 n0 false).2 M') (mwB D (tyL cI cJ cC cH) M sz) (mwA M sz)) 0 0 (mwA M sz) := by
  refine Met.ofW (cc := cX3_close) (maxL := 4) (ret := (some .int)) (by decide) rfl ?_
  intro pr env s m args below meth c s₁ B hml hv
  obtain ⟨rfl, hsz, hW, hK, hO⟩ := hv
  subst hsz
  have hW := hW.self (sz := s.heap.size)
  have hS : va_S (mwA M s.heap.size) s.heap s.heap [] := va_S.rf
  have hA : ∀ q, s.heap.size ≤ q → mwA M s.heap.size q := fun q h => Or.inr h
  have hx := B.exec
  have hb := B.bytes
  have hr := B.returns
  have hts := atoms_spec (ws := wsX3_close) B.pre
  have hown : s.vm.findClass RX3 = some m.cls := findClass_of_methodNamed B.named
  have hlocks := B.notSynchronized
  have F : CallFix pr m c cX3_close 4 s ([.ref mm, .int s0, .int i0, .int n0] : List Value).toArray wsX3_close RX3 := ⟨hx, hb, hml, hown, hts⟩
  have hl := lv_entry ([.ref mm, .int s0, .int i0, .int n0]) (n := 4) (Nat.le_of_ble_eq_true rfl)
  rw [lg_entry_eq]
  generalize (lg_sl ([.ref mm, .int s0, .int i0, .int n0]) ++ List.replicate (4 - (lg_sl ([.ref mm, .int s0, .int i0, .int n0])).length) Slot.unset).toArray = ls at hl ⊢
  have hl : lv_has ls 4 [(0, .ref mm), (1, .int s0), (2, .int i0), (3, .int n0)] := hl
  refine lv_aload_n hx hb dX3_close_0 rfl (lv_at hl 0 rfl) ?_
  refine lv_iload_n hx hb dX3_close_1 rfl (lv_at hl 1 rfl) ?_
  refine lv_iload_n hx hb dX3_close_2 rfl (lv_at hl 2 rfl) ?_
  refine lv_iload_n hx hb dX3_close_3 rfl (lv_at hl 3 rfl) ?_
  refine lv_iconst (v := 0) hx hb dX3_close_4 (by decide) ?_
  refine mw_calli (va_runV (As := [.int s0, .int i0, .int n0, .int 0]) (rest := []) F (c_X3_shifts (s0 := s0) (i0 := i0) (n0 := n0) (up := false) hR hI) (cwV 4 hts gX3_close_X3_shifts rfl rfl rfl (by decide +kernel) ⟨Nat.le_of_ble_eq_true rfl, Nat.le_of_ble_eq_true rfl⟩) (mw_prV (q := (RX3, TX3, 14)) hK hO hW rfl hR.1) rfl rfl hl.1 rfl (lv_room (Nat.le_of_ble_eq_true rfl)) dX3_close_5 ⟨Nat.zero_le _, Nat.zero_le _⟩) hW hS hA (fun r M1 H locs h9 hW hS => ?_)
  exact W.iret hx hb hr (fun t ht hw => ⟨⟨_, _, rfl, h9, by rw [ht]; exact hW, va_K.moved hw.alike hK⟩, hS.F ht⟩) hS.2.2 dX3_close_8
end X3S
end
section
section X3V
variable {l : Launch} {D : va_G} {cI cJ cC cH : ClassId} {M : Nat → Option va_E} {sz : Nat}
theorem kRowOf {σ : RS} {cc j : Nat} (hI : Inv σ cc) (hj : j < 10) (h0 : ¬ kOf σ j = 0) (h1 : ¬ kOf σ j = 1) : ∃ k e : Nat, k < 12 ∧ sHo σ j = nI (k + 1) ∧ e ≤ 80 ∧ sSi σ k = nI e ∧ szOf σ j = nI e := by
  rcases hI.ho hj with h | ⟨k, hk, h⟩ | ⟨k, hk, h⟩
  · exact absurd (kOf_0 h) h0
  · exact absurd (kOf_lab hk h) h1
  · obtain ⟨e, he, en⟩ := hI.sz hk
    exact ⟨k, e, hk, h, he, en, (szOf_row hk h).trans en⟩
def bkP (P : Nat → Int64) (x y q z : Nat) : Nat → Int64 := fun w => if y + z ≤ w ∧ w < y + q then P (x + (w - y)) else P w
theorem bkP_q (P : Nat → Int64) (x y q : Nat) : bkP P x y q q = P := by
  funext w
  unfold bkP
  rw [if_neg (by omega)]
theorem bkP_0 (P : Nat → Int64) (x y q : Nat) : bkP P x y q 0 = va_cpy P P x y q := rfl
theorem bkP_r {P : Nat → Int64} {x y q z : Nat} (h : x < y) : bkP P x y q (z + 1) (x + z) = P (x + z) := by
  unfold bkP
  rw [if_neg (by omega)]
theorem bkP_s {P : Nat → Int64} {x y q z : Nat} (hz : z < q) : vp_updL (bkP P x y q (z + 1)) (y + z) (P (x + z)) = bkP P x y q z := by
  funext w
  unfold vp_updL bkP
  by_cases hw : w = y + z
  · subst hw
    rw [if_pos rfl, if_pos (by omega), show y + z - y = z by omega]
  · rw [if_neg hw]
    by_cases h2 : y + (z + 1) ≤ w ∧ w < y + q
    · rw [if_pos h2, if_pos (by omega)]
    · rw [if_neg h2, if_neg (by omega)]
theorem fwP_r {P : Nat → Int64} {x y z : Nat} (h : y ≤ x) : va_cpy P P x y z (x + z) = P (x + z) := pk_cpy_out (by omega)
theorem mvCov_pl (σ : RS) (kt et q : Nat) : sPl (rfMvCov σ kt et q) = sPl σ := by
  unfold rfMvCov
  split <;> rfl
theorem mvCov_goo (σ : RS) (kt et q : Nat) : sGoo (rfMvCov σ kt et q) = sGoo σ := by
  unfold rfMvCov
  split <;> rfl
abbrev rmX3_move : Room := ({ frames := 2, cells := 0, slots := 0, locals := 42 } : Room)
set_option maxHeartbeats 8000000 in
set_option maxRecDepth 100000 in
theorem c_X3_move {mm : Nat} {ad : Nat → Nat} {σ : RS} (hR : refAt cI cJ mm ad σ M) {cc : Nat} (hI : Inv σ cc) {s0 i0 t0 j0 n0 : Int32} : Met l yX3_move wsX3_move rmX3_move (va_Pc [.ref mm, .int s0, .int i0, .int t0, .int j0, .int n0] (mwPre D (tyL cI cJ cC cH) M sz)) (va_Qi (fun r M' => r = (rfMove σ s0 i0 t0 j0 n0).1 ∧ refAt cI cJ mm ad (rfMove σ s0 i0 t0 j0 n0).2 M') (mwB D (tyL cI cJ cC cH) M sz) (mwA M sz)) 0 0 (mwA M sz) := by
  refine Met.ofW (cc := cX3_move) (maxL := 12) (ret := (some .int)) (by decide) rfl ?_
  intro pr env s m args below meth c s₁ B hml hv
  obtain ⟨rfl, hsz, hW, hK, hO⟩ := hv
  subst hsz
  have hW := hW.self (sz := s.heap.size)
  have hS : va_S (mwA M s.heap.size) s.heap s.heap [] := va_S.rf
  have hA : ∀ q, s.heap.size ≤ q → mwA M s.heap.size q := fun q h => Or.inr h
  have hx := B.exec
  have hb := B.bytes
  have hr := B.returns
  have hts := atoms_spec (ws := wsX3_move) B.pre
  have hown : s.vm.findClass RX3 = some m.cls := findClass_of_methodNamed B.named
  have hlocks := B.notSynchronized
  have F : CallFix pr m c cX3_move 12 s ([.ref mm, .int s0, .int i0, .int t0, .int j0, .int n0] : List Value).toArray wsX3_move RX3 := ⟨hx, hb, hml, hown, hts⟩
  have hI_X3 : ∀ w ∈ wsX30, w ∈ wsX3_move := by decide +kernel
  have hl_fieldLink_RX3_7_SpliceBenchModel_holds_I := hts (.fieldLink RX3 7 "SpliceBenchModel" "holds" "[I") (by decide +kernel)
  have hl_fieldLink_RX3_69_SpliceBenchModel_came_I := hts (.fieldLink RX3 69 "SpliceBenchModel" "came" "I") (by decide +kernel)
  have hl_fieldLink_RX3_91_SpliceBenchModel_good_I := hts (.fieldLink RX3 91 "SpliceBenchModel" "good" "I") (by decide +kernel)
  have hl_fieldLink_RX3_22_SpliceBenchModel_places_J := hts (.fieldLink RX3 22 "SpliceBenchModel" "places" "[J") (by decide +kernel)
  have hl := lv_entry ([.ref mm, .int s0, .int i0, .int t0, .int j0, .int n0]) (n := 12) (Nat.le_of_ble_eq_true rfl)
  rw [lg_entry_eq]
  generalize (lg_sl ([.ref mm, .int s0, .int i0, .int t0, .int j0, .int n0]) ++ List.replicate (12 - (lg_sl ([.ref mm, .int s0, .int i0, .int t0, .int j0, .int n0])).length) Slot.unset).toArray = ls at hl ⊢
  have hl : lv_has ls 12 [(0, .ref mm), (1, .int s0), (2, .int i0), (3, .int t0), (4, .int j0), (5, .int n0)] := hl
  refine lv_iload_n hx hb dX3_move_0 rfl (lv_at hl 1 rfl) ?_
  refine vp_callSi (W.runS (As := [.int s0]) (rest := []) F (c_X3_isSpindle) (cwS 1 hts gX3_move_X3_isSpindle rfl rfl rfl (by decide +kernel) ⟨Nat.le_of_ble_eq_true rfl, Nat.le_of_ble_eq_true rfl⟩) (mw_prS hK hO hW) rfl rfl hl.1 rfl (lv_room (Nat.le_of_ble_eq_true rfl)) dX3_move_1 ⟨Nat.zero_le _, Nat.zero_le _⟩) (fun r_1 er_1 => ?_)
  subst er_1
  refine lv_if_eq (tgt := 14) hx hb dX3_move_4 (by decide) (fun c_4 => ?_) (fun c_4 => ?_)
  · have c_4 := bI_e c_4
    refine lv_bipush (v := (-9)) hx hb dX3_move_14 (by decide) ?_
    exact W.iret hx hb hr (fun t ht hw => ⟨⟨_, _, rfl, (by
      have e8 : rfMove σ s0 i0 t0 j0 n0 = (-9, σ) := by simp [rfMove, c_4]
      rw [e8]; exact ⟨rfl, hR⟩), by rw [ht]; exact hW, va_K.moved hw.alike hK⟩, hS.F ht⟩) hS.2.2 dX3_move_16
  · obtain ⟨js, hjs, rfl⟩ := isSp_of (bI_n c_4)
    have esp_js := isSp_nI hjs
    have eix_js : ix (nI js) = js := nI_clamp (by omega)
    refine lv_iload_n hx hb dX3_move_7 rfl (lv_at hl 3 rfl) ?_
    refine vp_callSi (W.runS (As := [.int t0]) (rest := []) F (c_X3_isSpindle) (cwS 1 hts gX3_move_X3_isSpindle rfl rfl rfl (by decide +kernel) ⟨Nat.le_of_ble_eq_true rfl, Nat.le_of_ble_eq_true rfl⟩) (mw_prS hK hO hW) rfl rfl hl.1 rfl (lv_room (Nat.le_of_ble_eq_true rfl)) dX3_move_8 ⟨Nat.zero_le _, Nat.zero_le _⟩) (fun r_2 er_2 => ?_)
    subst er_2
    refine lv_if_ne (tgt := 17) hx hb dX3_move_11 (by decide) (fun c_11 => ?_) (fun c_11 => ?_)
    · obtain ⟨jt, hjt, rfl⟩ := isSp_of (bI_n c_11)
      have esp_jt := isSp_nI hjt
      have eix_jt : ix (nI jt) = jt := nI_clamp (by omega)
      refine lv_aload_n hx hb dX3_move_17 rfl (lv_at hl 0 rfl) ?_
      refine lv_iload_n hx hb dX3_move_18 rfl (lv_at hl 1 rfl) ?_
      refine vp_callSi (W.runV (As := [.int (nI js)]) (rest := []) F (c_X3_kindOf hR (show js < 10 by omega) (hI.ho hjs)) (cwV 1 hts gX3_move_X3_kindOf rfl rfl rfl (by decide +kernel) ⟨Nat.le_of_ble_eq_true rfl, Nat.le_of_ble_eq_true rfl⟩) (mw_prV (q := (RX3, TX3, 14)) hK hO hW rfl hR.1) rfl rfl hl.1 rfl (lv_room (Nat.le_of_ble_eq_true rfl)) dX3_move_19 ⟨Nat.zero_le _, Nat.zero_le _⟩) (fun r_3 er_3 => ?_)
      subst er_3
      refine lv_istore (lv' := [(6, .int (kOf σ js)), (0, .ref mm), (1, .int (nI js)), (2, .int i0), (3, .int (nI jt)), (4, .int j0), (5, .int n0)]) hx hb dX3_move_22 hl (by decide) rfl (fun ls hl => ?_)
      refine lv_aload_n hx hb dX3_move_24 rfl (lv_at hl 1 rfl) ?_
      refine lv_iload_n hx hb dX3_move_25 rfl (lv_at hl 4 rfl) ?_
      refine vp_callSi (W.runV (As := [.int (nI jt)]) (rest := []) F (c_X3_kindOf hR (show jt < 10 by omega) (hI.ho hjt)) (cwV 1 hts gX3_move_X3_kindOf rfl rfl rfl (by decide +kernel) ⟨Nat.le_of_ble_eq_true rfl, Nat.le_of_ble_eq_true rfl⟩) (mw_prV (q := (RX3, TX3, 14)) hK hO hW rfl hR.1) rfl rfl hl.1 rfl (lv_room (Nat.le_of_ble_eq_true rfl)) dX3_move_26 ⟨Nat.zero_le _, Nat.zero_le _⟩) (fun r_4 er_4 => ?_)
      subst er_4
      refine lv_istore (lv' := [(7, .int (kOf σ jt)), (6, .int (kOf σ js)), (0, .ref mm), (1, .int (nI js)), (2, .int i0), (3, .int (nI jt)), (4, .int j0), (5, .int n0)]) hx hb dX3_move_29 hl (by decide) rfl (fun ls hl => ?_)
      refine lv_iload hx hb dX3_move_31 (lv_at hl 1 rfl) ?_
      refine lv_if_eq (tgt := 41) hx hb dX3_move_33 (by decide) (fun c_33 => ?_) (fun c_33 => ?_)
      · refine lv_aload_n hx hb dX3_move_41 rfl (lv_at hl 2 rfl) ?_
        refine lv_iconst (v := 1) hx hb dX3_move_42 (by decide) ?_
        refine mw_calli (va_runV (As := [.int (nI 1)]) (rest := []) F (c_X3_fails (t5 := 1) hR (show 1 < 5 by omega)) (cwV 1 hts gX3_move_X3_fails rfl rfl rfl (by decide +kernel) ⟨Nat.le_of_ble_eq_true rfl, Nat.le_of_ble_eq_true rfl⟩) (mw_prV (q := (RX3, TX3, 14)) hK hO hW rfl hR.1) rfl rfl hl.1 rfl (lv_room (Nat.le_of_ble_eq_true rfl)) dX3_move_43 ⟨Nat.zero_le _, Nat.zero_le _⟩) hW hS hA (fun r_5 M1 H locs h9 hW hS => ?_)
        obtain ⟨er_5, hR⟩ := h9
        subst er_5
        exact W.iret hx hb hr (fun t ht hw => ⟨⟨_, _, rfl, (by
          have em : mvF σ js jt i0 j0 n0 = 1 := by unfold mvF; rw [if_pos (Or.inl c_33)]
          have e8 : rfMove σ (nI js) i0 (nI jt) j0 n0 = (-nI 1, rfFails σ 1) := by
            unfold rfMove
            rw [if_pos ⟨esp_js, esp_jt⟩, eix_js, eix_jt, em]
            rfl
          rw [e8]; exact ⟨rfl, hR⟩), by rw [ht]; exact hW, va_K.moved hw.alike hK⟩, hS.F ht⟩) hS.2.2 dX3_move_46
      · refine lv_iload hx hb dX3_move_36 (lv_at hl 0 rfl) ?_
        refine lv_if_ne (tgt := 47) hx hb dX3_move_38 (by decide) (fun c_38 => ?_) (fun c_38 => ?_)
        · have tail84 : ∀ (H : Heap) (locs : List Loc), mw D (mwA M s.heap.size) M H → va_S (mwA M s.heap.size) s.heap H locs → refAt cI cJ mm ad σ M → (¬ kOf σ js = 1) → (¬ kOf σ jt = 1) → (kOf σ jt = 5 → rkOf σ js = true) → mvF σ js jt i0 j0 n0 = (if beyB i0 n0 (szOf σ js) = true ∨ beyB j0 n0 (szOf σ jt) = true then 3 else 0) → ∀ (ls : Array Slot), lv_has ls 12 [(0, .ref mm), (1, .int (nI js)), (2, .int i0), (3, .int (nI jt)), (4, .int j0), (5, .int n0), (6, .int (kOf σ js)), (7, .int (kOf σ jt))] → W pr l env (headSpec wsX3_move rmX3_move).room s m ([.ref mm, .int (nI js), .int i0, .int (nI jt), .int j0, .int n0] : List Value).toArray below meth c H locs 0 0 (MQ below (va_Qi (fun r M' => r = (rfMove σ (nI js) i0 (nI jt) j0 n0).1 ∧ refAt cI cJ mm ad (rfMove σ (nI js) i0 (nI jt) j0 n0).2 M') (mwB D (tyL cI cJ cC cH) M s.heap.size) (mwA M s.heap.size)) ([.ref mm, .int (nI js), .int i0, .int (nI jt), .int j0, .int n0] : List Value).toArray s 0 0 (mwA M s.heap.size)) (F0 m 84 ls []) := by
            intro H locs hW hS hR h50 h56 hlk hmf ls hl
            refine lv_iload_n hx hb dX3_move_84 rfl (lv_at hl 2 rfl) ?_
            refine lv_iload hx hb dX3_move_85 (lv_at hl 5 rfl) ?_
            refine lv_aload_n hx hb dX3_move_87 rfl (lv_at hl 0 rfl) ?_
            refine lv_iload_n hx hb dX3_move_88 rfl (lv_at hl 1 rfl) ?_
            refine vp_callSi (W.runV (As := [.int (nI js)]) (rest := [.int n0, .int i0]) F (c_X3_sizeOf hR (show js < 10 by omega) (hI.ho hjs)) (cwV 1 hts gX3_move_X3_sizeOf rfl rfl rfl (by decide +kernel) ⟨Nat.le_of_ble_eq_true rfl, Nat.le_of_ble_eq_true rfl⟩) (mw_prV (q := (RX3, TX3, 14)) hK hO hW rfl hR.1) rfl rfl hl.1 rfl (lv_room (Nat.le_of_ble_eq_true rfl)) dX3_move_89 ⟨Nat.zero_le _, Nat.zero_le _⟩) (fun r_6 er_6 => ?_)
            subst er_6
            refine vp_callSi (W.runS (As := [.int i0, .int n0, .int (szOf σ js)]) (rest := []) F (c_X3_isBeyond) (cwS 3 hts gX3_move_X3_isBeyond rfl rfl rfl (by decide +kernel) ⟨Nat.le_of_ble_eq_true rfl, Nat.le_of_ble_eq_true rfl⟩) (mw_prS hK hO hW) rfl rfl hl.1 rfl (lv_room (Nat.le_of_ble_eq_true rfl)) dX3_move_92 ⟨Nat.zero_le _, Nat.zero_le _⟩) (fun r_7 er_7 => ?_)
            subst er_7
            refine lv_if_ne (tgt := 113) hx hb dX3_move_95 (by decide) (fun c_95 => ?_) (fun c_95 => ?_)
            · have c_95 := bI_n c_95
              refine lv_aload_n hx hb dX3_move_113 rfl (lv_at hl 0 rfl) ?_
              refine lv_iconst (v := 3) hx hb dX3_move_114 (by decide) ?_
              refine mw_calli (va_runV (As := [.int (nI 3)]) (rest := []) F (c_X3_fails (t5 := 3) hR (show 3 < 5 by omega)) (cwV 1 hts gX3_move_X3_fails rfl rfl rfl (by decide +kernel) ⟨Nat.le_of_ble_eq_true rfl, Nat.le_of_ble_eq_true rfl⟩) (mw_prV (q := (RX3, TX3, 14)) hK hO hW rfl hR.1) rfl rfl hl.1 rfl (lv_room (Nat.le_of_ble_eq_true rfl)) dX3_move_115 ⟨Nat.zero_le _, Nat.zero_le _⟩) hW hS hA (fun r_8 M1 H locs h9 hW hS => ?_)
              obtain ⟨er_8, hR⟩ := h9
              subst er_8
              exact W.iret hx hb hr (fun t ht hw => ⟨⟨_, _, rfl, (by
                have em : mvF σ js jt i0 j0 n0 = 3 := by rw [hmf, if_pos (Or.inl c_95)]
                have e8 : rfMove σ (nI js) i0 (nI jt) j0 n0 = (-nI 3, rfFails σ 3) := by
                  unfold rfMove
                  rw [if_pos ⟨esp_js, esp_jt⟩, eix_js, eix_jt, em]
                  rfl
                rw [e8]; exact ⟨rfl, hR⟩), by rw [ht]; exact hW, va_K.moved hw.alike hK⟩, hS.F ht⟩) hS.2.2 dX3_move_118
            · have c_95 := bI_e c_95
              refine lv_iload hx hb dX3_move_98 (lv_at hl 4 rfl) ?_
              refine lv_iload hx hb dX3_move_100 (lv_at hl 5 rfl) ?_
              refine lv_aload_n hx hb dX3_move_102 rfl (lv_at hl 0 rfl) ?_
              refine lv_iload_n hx hb dX3_move_103 rfl (lv_at hl 3 rfl) ?_
              refine vp_callSi (W.runV (As := [.int (nI jt)]) (rest := [.int n0, .int j0]) F (c_X3_sizeOf hR (show jt < 10 by omega) (hI.ho hjt)) (cwV 1 hts gX3_move_X3_sizeOf rfl rfl rfl (by decide +kernel) ⟨Nat.le_of_ble_eq_true rfl, Nat.le_of_ble_eq_true rfl⟩) (mw_prV (q := (RX3, TX3, 14)) hK hO hW rfl hR.1) rfl rfl hl.1 rfl (lv_room (Nat.le_of_ble_eq_true rfl)) dX3_move_104 ⟨Nat.zero_le _, Nat.zero_le _⟩) (fun r_9 er_9 => ?_)
              subst er_9
              refine vp_callSi (W.runS (As := [.int j0, .int n0, .int (szOf σ jt)]) (rest := []) F (c_X3_isBeyond) (cwS 3 hts gX3_move_X3_isBeyond rfl rfl rfl (by decide +kernel) ⟨Nat.le_of_ble_eq_true rfl, Nat.le_of_ble_eq_true rfl⟩) (mw_prS hK hO hW) rfl rfl hl.1 rfl (lv_room (Nat.le_of_ble_eq_true rfl)) dX3_move_107 ⟨Nat.zero_le _, Nat.zero_le _⟩) (fun r_10 er_10 => ?_)
              subst er_10
              refine lv_if_eq (tgt := 119) hx hb dX3_move_110 (by decide) (fun c_110 => ?_) (fun c_110 => ?_)
              · have c_110 := bI_e c_110
                obtain ⟨ks, es, hks, e9s, hes, ens, ezs⟩ := kRowOf hI hjs c_33 h50
                obtain ⟨kt, et, hkt, e9t, het, ent, ezt⟩ := kRowOf hI hjt c_38 h56
                have b1 : inPls i0 n0 (nI es) = true := by
                  have := c_95
                  rw [ezs, beyB_of hes] at this
                  simpa using this
                have b2 : inPls j0 n0 (nI et) = true := by
                  have := c_110
                  rw [ezt, beyB_of het] at this
                  simpa using this
                obtain ⟨i, n, rfl, rfl, hin⟩ := inPls_of hes b1
                obtain ⟨jj, n2, rfl, en2, hjn⟩ := inPls_of het b2
                have en3 : n2 = n := ((nI_eq (by omega) (by omega)).mp en2).symm
                rw [en3] at hjn
                have eii : ix (nI i) = i := nI_clamp (by omega)
                have ein : ix (nI n) = n := nI_clamp (by omega)
                have ejj : ix (nI jj) = jj := nI_clamp (by omega)
                have hmf0 : mvF σ js jt (nI i) (nI jj) (nI n) = 0 := by rw [hmf, if_neg (not_or.mpr ⟨by rw [c_95]; decide, by rw [c_110]; decide⟩)]
                have tail157 : ∀ (q : Nat), q ≤ n → q = mvN σ js jt i n → ∀ (ls : Array Slot), lv_has ls 12 [(0, .ref mm), (1, .int (nI js)), (2, .int (nI i)), (3, .int (nI jt)), (4, .int (nI jj)), (5, .int (nI n)), (8, .int (nI q))] → W pr l env (headSpec wsX3_move rmX3_move).room s m ([.ref mm, .int (nI js), .int (nI i), .int (nI jt), .int (nI jj), .int (nI n)] : List Value).toArray below meth c H locs 0 0 (MQ below (va_Qi (fun r M' => r = (rfMove σ (nI js) (nI i) (nI jt) (nI jj) (nI n)).1 ∧ refAt cI cJ mm ad (rfMove σ (nI js) (nI i) (nI jt) (nI jj) (nI n)).2 M') (mwB D (tyL cI cJ cC cH) M s.heap.size) (mwA M s.heap.size)) ([.ref mm, .int (nI js), .int (nI i), .int (nI jt), .int (nI jj), .int (nI n)] : List Value).toArray s 0 0 (mwA M s.heap.size)) (F0 m 157 ls []) := by
                  intro q hqn hqm ls hl
                  refine lv_bipush (v := 80) hx hb dX3_move_157 (by decide) ?_
                  refine lv_aload_n hx hb dX3_move_159 rfl (lv_at hl 0 rfl) ?_
                  refine mw_get (C := RX3) (T := TX3) (N := 14) F hK hW hI_X3 hR.1 rfl 0 (by decide) hl_fieldLink_RX3_7_SpliceBenchModel_holds_I rfl dX3_move_160 ?_
                  refine lv_iload_n hx hb dX3_move_163 rfl (lv_at hl 1 rfl) ?_
                  refine mw_iald F hK hW 0 hR.2.1 rfl (vp_in_nI (show js < 10 by omega) (by omega)) dX3_move_164 ?_
                  rw [nI_clamp (show js < 2 ^ 31 by omega)]
                  refine lv_iconst (v := 1) hx hb dX3_move_165 (by decide) ?_
                  refine lv_isub hx hb dX3_move_166 ?_
                  rw [e9s, nI_pred]
                  refine lv_imul hx hb dX3_move_167 ?_
                  rw [show (80 : Int32) = nI 80 from rfl, pk_mul]
                  refine lv_iload_n hx hb dX3_move_168 rfl (lv_at hl 2 rfl) ?_
                  refine lv_iadd hx hb dX3_move_169 ?_
                  rw [nI_add]
                  refine lv_istore (lv' := [(9, .int (nI (80 * ks + i))), (0, .ref mm), (1, .int (nI js)), (2, .int (nI i)), (3, .int (nI jt)), (4, .int (nI jj)), (5, .int (nI n)), (8, .int (nI q))]) hx hb dX3_move_170 hl (by decide) rfl (fun ls hl => ?_)
                  refine lv_bipush (v := 80) hx hb dX3_move_172 (by decide) ?_
                  refine lv_aload_n hx hb dX3_move_174 rfl (lv_at hl 1 rfl) ?_
                  refine mw_get (C := RX3) (T := TX3) (N := 14) F hK hW hI_X3 hR.1 rfl 0 (by decide) hl_fieldLink_RX3_7_SpliceBenchModel_holds_I rfl dX3_move_175 ?_
                  refine lv_iload_n hx hb dX3_move_178 rfl (lv_at hl 4 rfl) ?_
                  refine mw_iald F hK hW 0 hR.2.1 rfl (vp_in_nI (show jt < 10 by omega) (by omega)) dX3_move_179 ?_
                  rw [nI_clamp (show jt < 2 ^ 31 by omega)]
                  refine lv_iconst (v := 1) hx hb dX3_move_180 (by decide) ?_
                  refine lv_isub hx hb dX3_move_181 ?_
                  rw [e9t, nI_pred]
                  refine lv_imul hx hb dX3_move_182 ?_
                  rw [show (80 : Int32) = nI 80 from rfl, pk_mul]
                  refine lv_iload hx hb dX3_move_183 (lv_at hl 5 rfl) ?_
                  refine lv_iadd hx hb dX3_move_185 ?_
                  rw [nI_add]
                  refine lv_istore (lv' := [(10, .int (nI (80 * kt + jj))), (9, .int (nI (80 * ks + i))), (0, .ref mm), (1, .int (nI js)), (2, .int (nI i)), (3, .int (nI jt)), (4, .int (nI jj)), (5, .int (nI n)), (8, .int (nI q))]) hx hb dX3_move_186 hl (by decide) rfl (fun ls hl => ?_)
                  have tail205 : ∀ (σ1 : RS) (M1 : Nat → Option va_E) (H : Heap) (locs : List Loc), σ1 = rfMvCov σ kt et q → mw D (mwA M s.heap.size) M1 H → va_S (mwA M s.heap.size) s.heap H locs → refAt cI cJ mm ad σ1 M1 → ∀ (ls : Array Slot), lv_has ls 12 [(0, .ref mm), (5, .int (nI n)), (8, .int (nI q)), (9, .int (nI (80 * ks + i))), (10, .int (nI (80 * kt + jj)))] → W pr l env (headSpec wsX3_move rmX3_move).room s m ([.ref mm, .int (nI js), .int (nI i), .int (nI jt), .int (nI jj), .int (nI n)] : List Value).toArray below meth c H locs 0 0 (MQ below (va_Qi (fun r M' => r = (rfMove σ (nI js) (nI i) (nI jt) (nI jj) (nI n)).1 ∧ refAt cI cJ mm ad (rfMove σ (nI js) (nI i) (nI jt) (nI jj) (nI n)).2 M') (mwB D (tyL cI cJ cC cH) M s.heap.size) (mwA M s.heap.size)) ([.ref mm, .int (nI js), .int (nI i), .int (nI jt), .int (nI jj), .int (nI n)] : List Value).toArray s 0 0 (mwA M s.heap.size)) (F0 m 205 ls []) := by
                    intro σ1 M1 H locs e1 hW hS hR ls hl
                    have tail288 : ∀ (M1 : Nat → Option va_E) (H : Heap) (locs : List Loc), mw D (mwA M s.heap.size) M1 H → va_S (mwA M s.heap.size) s.heap H locs → refAt cI cJ mm ad (wPl σ1 (va_cpy (sPl σ1) (sPl σ1) (80 * ks + i) (80 * kt + jj) q)) M1 → ∀ (ls : Array Slot), lv_has ls 12 [(0, .ref mm), (5, .int (nI n)), (8, .int (nI q))] → W pr l env (headSpec wsX3_move rmX3_move).room s m ([.ref mm, .int (nI js), .int (nI i), .int (nI jt), .int (nI jj), .int (nI n)] : List Value).toArray below meth c H locs 0 0 (MQ below (va_Qi (fun r M' => r = (rfMove σ (nI js) (nI i) (nI jt) (nI jj) (nI n)).1 ∧ refAt cI cJ mm ad (rfMove σ (nI js) (nI i) (nI jt) (nI jj) (nI n)).2 M') (mwB D (tyL cI cJ cC cH) M s.heap.size) (mwA M s.heap.size)) ([.ref mm, .int (nI js), .int (nI i), .int (nI jt), .int (nI jj), .int (nI n)] : List Value).toArray s 0 0 (mwA M s.heap.size)) (F0 m 288 ls []) := by
                      intro M1 H locs hW hS hR ls hl
                      refine lv_iload hx hb dX3_move_288 (lv_at hl 2 rfl) ?_
                      refine lv_iload hx hb dX3_move_290 (lv_at hl 1 rfl) ?_
                      refine lv_icmp_ge (tgt := 311) hx hb dX3_move_292 (by decide) (fun c_292 => ?_) (fun c_292 => ?_)
                      · have hlt : ¬ q < n := by have := (nI_leI (by omega) (by omega)).mp c_292; omega
                        refine lv_aload_n hx hb dX3_move_311 rfl (lv_at hl 0 rfl) ?_
                        refine lv_iload hx hb dX3_move_312 (lv_at hl 1 rfl) ?_
                        refine mw_put (C := RX3) (T := TX3) (N := 14) (v := .int (nI n)) F hK hW hS hI_X3 tyX3 tyX3_ok nmX3 (show _ = some (Sum.inr (3, [.ref (ad 0), .ref (ad 1), .ref (ad 2), .ref (ad 3), .ref (ad 4), .ref (ad 5), .ref (ad 6), .ref (ad 7), .ref (ad 8), .int (sCov σ1), .int (sCam σ1), .int (sGoo σ1), .int (sRow σ1), .int (sCar σ1)])) from hR.1) rfl 10 (by decide) hl_fieldLink_RX3_69_SpliceBenchModel_came_I rfl rfl rfl (Nat.le_of_ble_eq_true rfl) dX3_move_314 (fun H locs hW hS => ?_)
                        have hR := hR.wCam (nI n)
                        refine lv_aload_n hx hb dX3_move_317 rfl (lv_at hl 0 rfl) ?_
                        refine lv_dup hx hb dX3_move_318 rfl ?_
                        refine mw_get (C := RX3) (T := TX3) (N := 14) F hK hW hI_X3 (show _ = some (Sum.inr (3, [.ref (ad 0), .ref (ad 1), .ref (ad 2), .ref (ad 3), .ref (ad 4), .ref (ad 5), .ref (ad 6), .ref (ad 7), .ref (ad 8), .int (sCov σ1), .int (nI n), .int (sGoo σ1), .int (sRow σ1), .int (sCar σ1)])) from hR.1) rfl 11 (by decide) hl_fieldLink_RX3_91_SpliceBenchModel_good_I rfl dX3_move_319 ?_
                        refine lv_iconst (v := 1) hx hb dX3_move_322 (by decide) ?_
                        refine lv_iadd hx hb dX3_move_323 ?_
                        refine mw_put (C := RX3) (T := TX3) (N := 14) (v := .int ((sGoo σ1) + 1)) F hK hW hS hI_X3 tyX3 tyX3_ok nmX3 (show _ = some (Sum.inr (3, [.ref (ad 0), .ref (ad 1), .ref (ad 2), .ref (ad 3), .ref (ad 4), .ref (ad 5), .ref (ad 6), .ref (ad 7), .ref (ad 8), .int (sCov σ1), .int (nI n), .int (sGoo σ1), .int (sRow σ1), .int (sCar σ1)])) from hR.1) rfl 11 (by decide) hl_fieldLink_RX3_91_SpliceBenchModel_good_I rfl rfl rfl (Nat.le_of_ble_eq_true rfl) dX3_move_324 (fun H locs hW hS => ?_)
                        have hR := hR.wGoo ((sGoo σ1) + 1)
                        refine lv_iload hx hb dX3_move_327 (lv_at hl 1 rfl) ?_
                        exact W.iret hx hb hr (fun t ht hw => ⟨⟨_, _, rfl, (by
                          have e8 : rfMove σ (nI js) (nI i) (nI jt) (nI jj) (nI n) = rfMvOk σ ks kt et i jj n q := by
                            unfold rfMove
                            rw [if_pos ⟨esp_js, esp_jt⟩, eix_js, eix_jt, if_pos hmf0, eii, ein, ejj, ezt, rIx_row hks e9s, rIx_row hkt e9t, ← hqm]
                            simp only [ix, nI_clamp (show et < 2 ^ 31 by omega)]
                          rw [e8]; unfold rfMvOk; rw [if_neg hlt]; exact ⟨rfl, hR.to (by rw [show sGoo σ1 = sGoo σ by rw [e1]; exact mvCov_goo σ kt et q, e1, mvCov_pl]; rfl)⟩), by rw [ht]; exact hW, va_K.moved hw.alike hK⟩, hS.F ht⟩) hS.2.2 dX3_move_329
                      · have hlt : q < n := by
                          rcases Nat.lt_or_ge q n with h9 | h9
                          · exact h9
                          · exact absurd (nI_le h9 (by omega)) c_292
                        refine lv_aload_n hx hb dX3_move_295 rfl (lv_at hl 0 rfl) ?_
                        refine lv_iconst (v := 4) hx hb dX3_move_296 (by decide) ?_
                        refine mw_calli (va_runV (As := [.int (nI 4)]) (rest := []) F (c_X3_fails (t5 := 4) hR (show 4 < 5 by omega)) (cwV 1 hts gX3_move_X3_fails rfl rfl rfl (by decide +kernel) ⟨Nat.le_of_ble_eq_true rfl, Nat.le_of_ble_eq_true rfl⟩) (mw_prV (q := (RX3, TX3, 14)) hK hO hW rfl (show _ = some (Sum.inr (3, [.ref (ad 0), .ref (ad 1), .ref (ad 2), .ref (ad 3), .ref (ad 4), .ref (ad 5), .ref (ad 6), .ref (ad 7), .ref (ad 8), .int (sCov σ1), .int (sCam σ1), .int (sGoo σ1), .int (sRow σ1), .int (sCar σ1)])) from hR.1)) rfl rfl hl.1 rfl (lv_room (Nat.le_of_ble_eq_true rfl)) dX3_move_297 ⟨Nat.zero_le _, Nat.zero_le _⟩) hW hS hA (fun r_11 M1 H locs h9 hW hS => ?_)
                        obtain ⟨er_11, hR⟩ := h9
                        subst er_11
                        refine lv_istore (lv' := [(11, .int (-nI 4)), (0, .ref mm), (5, .int (nI n)), (8, .int (nI q))]) hx hb dX3_move_300 hl (by decide) rfl (fun ls hl => ?_)
                        refine lv_aload_n hx hb dX3_move_302 rfl (lv_at hl 1 rfl) ?_
                        refine lv_iload hx hb dX3_move_303 (lv_at hl 3 rfl) ?_
                        refine mw_put (C := RX3) (T := TX3) (N := 14) (v := .int (nI q)) F hK hW hS hI_X3 tyX3 tyX3_ok nmX3 (show _ = some (Sum.inr (3, [.ref (ad 0), .ref (ad 1), .ref (ad 2), .ref (ad 3), .ref (ad 4), .ref (ad 5), .ref (ad 6), .ref (ad 7), .ref (ad 8), .int (sCov σ1), .int 0, .int (sGoo σ1), .int (sRow σ1), .int (sCar σ1)])) from hR.1) rfl 10 (by decide) hl_fieldLink_RX3_69_SpliceBenchModel_came_I rfl rfl rfl (Nat.le_of_ble_eq_true rfl) dX3_move_305 (fun H locs hW hS => ?_)
                        have hR := hR.wCam (nI q)
                        refine lv_iload hx hb dX3_move_308 (lv_at hl 0 rfl) ?_
                        exact W.iret hx hb hr (fun t ht hw => ⟨⟨_, _, rfl, (by
                          have e8 : rfMove σ (nI js) (nI i) (nI jt) (nI jj) (nI n) = rfMvOk σ ks kt et i jj n q := by
                            unfold rfMove
                            rw [if_pos ⟨esp_js, esp_jt⟩, eix_js, eix_jt, if_pos hmf0, eii, ein, ejj, ezt, rIx_row hks e9s, rIx_row hkt e9t, ← hqm]
                            simp only [ix, nI_clamp (show et < 2 ^ 31 by omega)]
                          rw [e8]; unfold rfMvOk; rw [if_pos hlt]; exact ⟨rfl, hR.to (by rw [e1, mvCov_pl]; rfl)⟩), by rw [ht]; exact hW, va_K.moved hw.alike hK⟩, hS.F ht⟩) hS.2.2 dX3_move_310
                    refine lv_iload hx hb dX3_move_205 (lv_at hl 3 rfl) ?_
                    refine lv_iload hx hb dX3_move_207 (lv_at hl 4 rfl) ?_
                    refine lv_icmp_ge (tgt := 252) hx hb dX3_move_209 (by decide) (fun c_209 => ?_) (fun c_209 => ?_)
                    · have hxy : 80 * kt + jj ≤ 80 * ks + i := (nI_leI (by omega) (by omega)).mp c_209
                      refine lv_iconst (v := 0) hx hb dX3_move_252 (by decide) ?_
                      refine lv_istore (lv' := [(11, .int 0), (0, .ref mm), (5, .int (nI n)), (8, .int (nI q)), (9, .int (nI (80 * ks + i))), (10, .int (nI (80 * kt + jj)))]) hx hb dX3_move_253 hl (by decide) rfl (fun ls hl => ?_)
                      have hR := hR.to (σ' := wPl σ1 (va_cpy (sPl σ1) (sPl σ1) (80 * ks + i) (80 * kt + jj) 0)) (by rw [cpy_0]; rfl)
                      have loop : ∀ (N : Nat) (z : Nat) (M1 : Nat → Option va_E) (H : Heap) (locs : List Loc), q + 1 ≤ z + N → z ≤ q → mw D (mwA M s.heap.size) M1 H → va_S (mwA M s.heap.size) s.heap H locs → refAt cI cJ mm ad (wPl σ1 (va_cpy (sPl σ1) (sPl σ1) (80 * ks + i) (80 * kt + jj) z)) M1 → ∀ (ls : Array Slot), lv_has ls 12 [(11, .int (nI z)), (0, .ref mm), (5, .int (nI n)), (8, .int (nI q)), (9, .int (nI (80 * ks + i))), (10, .int (nI (80 * kt + jj)))] → W pr l env (headSpec wsX3_move rmX3_move).room s m ([.ref mm, .int (nI js), .int (nI i), .int (nI jt), .int (nI jj), .int (nI n)] : List Value).toArray below meth c H locs 0 0 (MQ below (va_Qi (fun r M' => r = (rfMove σ (nI js) (nI i) (nI jt) (nI jj) (nI n)).1 ∧ refAt cI cJ mm ad (rfMove σ (nI js) (nI i) (nI jt) (nI jj) (nI n)).2 M') (mwB D (tyL cI cJ cC cH) M s.heap.size) (mwA M s.heap.size)) ([.ref mm, .int (nI js), .int (nI i), .int (nI jt), .int (nI jj), .int (nI n)] : List Value).toArray s 0 0 (mwA M s.heap.size)) (F0 m 255 ls []) := by
                        intro N
                        induction N with
                        | zero =>
                          exact fun z M1 H locs h1 h2 => absurd h1 (by omega)
                        | succ N ih =>
                          intro z M1 H locs hN hzq hW hS hR ls hl
                          refine lv_iload hx hb dX3_move_255 (lv_at hl 0 rfl) ?_
                          refine lv_iload hx hb dX3_move_257 (lv_at hl 3 rfl) ?_
                          refine lv_icmp_ge (tgt := 288) hx hb dX3_move_259 (by decide) (fun c_259 => ?_) (fun c_259 => ?_)
                          · exact tail288 _ H locs hW hS (hR.to (by rw [show z = q by have := (nI_leI (by omega) (by omega)).mp c_259; omega])) ls (lv_sub hl [1, 2, 3] rfl)
                          · have hzn : z < q := by
                              rcases Nat.lt_or_ge z q with h9 | h9
                              · exact h9
                              · exact absurd (nI_le h9 (by omega)) c_259
                            refine lv_aload_n hx hb dX3_move_262 rfl (lv_at hl 1 rfl) ?_
                            refine mw_get (C := RX3) (T := TX3) (N := 14) F hK hW hI_X3 (show _ = some (Sum.inr (3, [.ref (ad 0), .ref (ad 1), .ref (ad 2), .ref (ad 3), .ref (ad 4), .ref (ad 5), .ref (ad 6), .ref (ad 7), .ref (ad 8), .int (sCov σ1), .int (sCam σ1), .int (sGoo σ1), .int (sRow σ1), .int (sCar σ1)])) from hR.1) rfl 4 (by decide) hl_fieldLink_RX3_22_SpliceBenchModel_places_J rfl dX3_move_263 ?_
                            refine lv_iload hx hb dX3_move_266 (lv_at hl 5 rfl) ?_
                            refine lv_iload hx hb dX3_move_268 (lv_at hl 0 rfl) ?_
                            refine lv_iadd hx hb dX3_move_270 ?_
                            rw [nI_add]
                            refine lv_aload_n hx hb dX3_move_271 rfl (lv_at hl 1 rfl) ?_
                            refine mw_get (C := RX3) (T := TX3) (N := 14) F hK hW hI_X3 (show _ = some (Sum.inr (3, [.ref (ad 0), .ref (ad 1), .ref (ad 2), .ref (ad 3), .ref (ad 4), .ref (ad 5), .ref (ad 6), .ref (ad 7), .ref (ad 8), .int (sCov σ1), .int (sCam σ1), .int (sGoo σ1), .int (sRow σ1), .int (sCar σ1)])) from hR.1) rfl 4 (by decide) hl_fieldLink_RX3_22_SpliceBenchModel_places_J rfl dX3_move_272 ?_
                            refine lv_iload hx hb dX3_move_275 (lv_at hl 4 rfl) ?_
                            refine lv_iload hx hb dX3_move_277 (lv_at hl 0 rfl) ?_
                            refine lv_iadd hx hb dX3_move_279 ?_
                            rw [nI_add]
                            refine mw_lald F hK hW 1 (show _ = some (Sum.inl (cJ, 960, Sum.inr (Sum.inl (va_cpy (sPl σ1) (sPl σ1) (80 * ks + i) (80 * kt + jj) z)))) from hR.2.2.2.2.2.1) rfl (vp_in_nI (show (80 * ks + i + z) < 960 by omega) (by omega)) dX3_move_280 ?_
                            rw [nI_clamp (show (80 * ks + i + z) < 2 ^ 31 by omega)]
                            rw [fwP_r hxy]
                            refine mw_last F hK hW hS 1 (show _ = some (Sum.inl (cJ, 960, Sum.inr (Sum.inl (va_cpy (sPl σ1) (sPl σ1) (80 * ks + i) (80 * kt + jj) z)))) from hR.2.2.2.2.2.1) rfl (vp_in_nI (show (80 * kt + jj + z) < 960 by omega) (by omega)) dX3_move_281 (fun H locs hW hS => ?_)
                            rw [nI_clamp (show (80 * kt + jj + z) < 2 ^ 31 by omega)] at hW
                            rw [show vp_updL (va_cpy (sPl σ1) (sPl σ1) (80 * ks + i) (80 * kt + jj) z) (80 * kt + jj + z) (sPl σ1 (80 * ks + i + z)) = va_cpy (sPl σ1) (sPl σ1) (80 * ks + i) (80 * kt + jj) (z + 1) from (cpy_sL _ _ _ _ _)] at hW
                            have hR := hR.wPl (va_cpy (sPl σ1) (sPl σ1) (80 * ks + i) (80 * kt + jj) (z + 1))
                            have hR : refAt cI cJ mm ad (wPl σ1 (va_cpy (sPl σ1) (sPl σ1) (80 * ks + i) (80 * kt + jj) (z + 1))) _ := hR
                            refine lv_iinc (v := nI (z + 1)) (lv' := [(11, .int (nI (z + 1))), (0, .ref mm), (5, .int (nI n)), (8, .int (nI q)), (9, .int (nI (80 * ks + i))), (10, .int (nI (80 * kt + jj)))]) hx hb dX3_move_282 hl (k := 0) rfl (nI_1 z) (by decide) rfl (fun ls hl => ?_)
                            refine lv_goto (tgt := 255) hx hb dX3_move_285 (by decide) ?_
                            exact ih (z + 1) _ H locs (by omega) (by omega) hW hS hR ls (lv_sub hl [0, 1, 2, 3, 4, 5] rfl)
                      exact loop (q + 1) 0 _ _ _ (by omega) (Nat.zero_le _) hW hS hR ls (lv_sub hl [0, 1, 2, 3, 4, 5] rfl)
                    · have hxy : 80 * ks + i < 80 * kt + jj := by
                        rcases Nat.lt_or_ge (80 * ks + i) (80 * kt + jj) with h9 | h9
                        · exact h9
                        · exact absurd (nI_le h9 (by omega)) c_209
                      refine lv_iload hx hb dX3_move_212 (lv_at hl 2 rfl) ?_
                      refine lv_iconst (v := 1) hx hb dX3_move_214 (by decide) ?_
                      refine lv_isub hx hb dX3_move_215 ?_
                      refine lv_istore (lv' := [(11, .int ((nI q) - 1)), (0, .ref mm), (5, .int (nI n)), (8, .int (nI q)), (9, .int (nI (80 * ks + i))), (10, .int (nI (80 * kt + jj)))]) hx hb dX3_move_216 hl (by decide) rfl (fun ls hl => ?_)
                      have hR := hR.to (σ' := wPl σ1 (bkP (sPl σ1) (80 * ks + i) (80 * kt + jj) q q)) (by rw [bkP_q]; rfl)
                      have loop : ∀ (N : Nat) (z : Nat) (M1 : Nat → Option va_E) (H : Heap) (locs : List Loc), z + 1 ≤ N → z ≤ q → mw D (mwA M s.heap.size) M1 H → va_S (mwA M s.heap.size) s.heap H locs → refAt cI cJ mm ad (wPl σ1 (bkP (sPl σ1) (80 * ks + i) (80 * kt + jj) q z)) M1 → ∀ (ls : Array Slot), lv_has ls 12 [(11, .int (nI z - 1)), (0, .ref mm), (5, .int (nI n)), (8, .int (nI q)), (9, .int (nI (80 * ks + i))), (10, .int (nI (80 * kt + jj)))] → W pr l env (headSpec wsX3_move rmX3_move).room s m ([.ref mm, .int (nI js), .int (nI i), .int (nI jt), .int (nI jj), .int (nI n)] : List Value).toArray below meth c H locs 0 0 (MQ below (va_Qi (fun r M' => r = (rfMove σ (nI js) (nI i) (nI jt) (nI jj) (nI n)).1 ∧ refAt cI cJ mm ad (rfMove σ (nI js) (nI i) (nI jt) (nI jj) (nI n)).2 M') (mwB D (tyL cI cJ cC cH) M s.heap.size) (mwA M s.heap.size)) ([.ref mm, .int (nI js), .int (nI i), .int (nI jt), .int (nI jj), .int (nI n)] : List Value).toArray s 0 0 (mwA M s.heap.size)) (F0 m 218 ls []) := by
                        intro N
                        induction N with
                        | zero =>
                          exact fun z M1 H locs h1 h2 => absurd h1 (by omega)
                        | succ N ih =>
                          intro z M1 H locs hN hzq hW hS hR ls hl
                          refine lv_iload hx hb dX3_move_218 (lv_at hl 0 rfl) ?_
                          refine lv_if_lt (tgt := 249) hx hb dX3_move_220 (by decide) (fun c_220 => ?_) (fun c_220 => ?_)
                          · have hz0 : z = 0 := by
                              cases z with
                              | zero => rfl
                              | succ z' => rw [nI_pred] at c_220; exact absurd c_220 (nI_pos (by omega))
                            refine lv_goto (tgt := 288) hx hb dX3_move_249 (by decide) ?_
                            exact tail288 _ H locs hW hS (hR.to (by rw [hz0, bkP_0])) ls (lv_sub hl [1, 2, 3] rfl)
                          · obtain ⟨z', rfl⟩ : ∃ z', z = z' + 1 := by
                              cases z with
                              | zero => exact absurd (by decide) c_220
                              | succ z' => exact ⟨z', rfl⟩
                            refine lv_aload_n hx hb dX3_move_223 rfl (lv_at hl 1 rfl) ?_
                            refine mw_get (C := RX3) (T := TX3) (N := 14) F hK hW hI_X3 (show _ = some (Sum.inr (3, [.ref (ad 0), .ref (ad 1), .ref (ad 2), .ref (ad 3), .ref (ad 4), .ref (ad 5), .ref (ad 6), .ref (ad 7), .ref (ad 8), .int (sCov σ1), .int (sCam σ1), .int (sGoo σ1), .int (sRow σ1), .int (sCar σ1)])) from hR.1) rfl 4 (by decide) hl_fieldLink_RX3_22_SpliceBenchModel_places_J rfl dX3_move_224 ?_
                            refine lv_iload hx hb dX3_move_227 (lv_at hl 5 rfl) ?_
                            refine lv_iload hx hb dX3_move_229 (lv_at hl 0 rfl) ?_
                            rw [nI_pred]
                            refine lv_iadd hx hb dX3_move_231 ?_
                            rw [nI_add]
                            refine lv_aload_n hx hb dX3_move_232 rfl (lv_at hl 1 rfl) ?_
                            refine mw_get (C := RX3) (T := TX3) (N := 14) F hK hW hI_X3 (show _ = some (Sum.inr (3, [.ref (ad 0), .ref (ad 1), .ref (ad 2), .ref (ad 3), .ref (ad 4), .ref (ad 5), .ref (ad 6), .ref (ad 7), .ref (ad 8), .int (sCov σ1), .int (sCam σ1), .int (sGoo σ1), .int (sRow σ1), .int (sCar σ1)])) from hR.1) rfl 4 (by decide) hl_fieldLink_RX3_22_SpliceBenchModel_places_J rfl dX3_move_233 ?_
                            refine lv_iload hx hb dX3_move_236 (lv_at hl 4 rfl) ?_
                            refine lv_iload hx hb dX3_move_238 (lv_at hl 0 rfl) ?_
                            rw [nI_pred]
                            refine lv_iadd hx hb dX3_move_240 ?_
                            rw [nI_add]
                            refine mw_lald F hK hW 1 (show _ = some (Sum.inl (cJ, 960, Sum.inr (Sum.inl (bkP (sPl σ1) (80 * ks + i) (80 * kt + jj) q (z' + 1))))) from hR.2.2.2.2.2.1) rfl (vp_in_nI (show (80 * ks + i + z') < 960 by omega) (by omega)) dX3_move_241 ?_
                            rw [nI_clamp (show (80 * ks + i + z') < 2 ^ 31 by omega)]
                            rw [bkP_r hxy]
                            refine mw_last F hK hW hS 1 (show _ = some (Sum.inl (cJ, 960, Sum.inr (Sum.inl (bkP (sPl σ1) (80 * ks + i) (80 * kt + jj) q (z' + 1))))) from hR.2.2.2.2.2.1) rfl (vp_in_nI (show (80 * kt + jj + z') < 960 by omega) (by omega)) dX3_move_242 (fun H locs hW hS => ?_)
                            rw [nI_clamp (show (80 * kt + jj + z') < 2 ^ 31 by omega)] at hW
                            rw [show vp_updL (bkP (sPl σ1) (80 * ks + i) (80 * kt + jj) q (z' + 1)) (80 * kt + jj + z') (sPl σ1 (80 * ks + i + z')) = bkP (sPl σ1) (80 * ks + i) (80 * kt + jj) q z' from (bkP_s (by omega))] at hW
                            have hR := hR.wPl (bkP (sPl σ1) (80 * ks + i) (80 * kt + jj) q z')
                            have hR : refAt cI cJ mm ad (wPl σ1 (bkP (sPl σ1) (80 * ks + i) (80 * kt + jj) q z')) _ := hR
                            refine lv_iinc (v := nI z' - 1) (lv' := [(11, .int (nI z' - 1)), (0, .ref mm), (5, .int (nI n)), (8, .int (nI q)), (9, .int (nI (80 * ks + i))), (10, .int (nI (80 * kt + jj)))]) hx hb dX3_move_243 hl (k := 0) rfl (by rw [nI_pred, Int32.sub_eq_add_neg]; rfl) (by decide) rfl (fun ls hl => ?_)
                            refine lv_goto (tgt := 218) hx hb dX3_move_246 (by decide) ?_
                            exact ih z' _ H locs (by omega) (by omega) hW hS hR ls (lv_sub hl [0, 1, 2, 3, 4, 5] rfl)
                      exact loop (q + 1) q _ _ _ (by omega) (Nat.le_refl _) hW hS hR ls (lv_sub hl [0, 1, 2, 3, 4, 5] rfl)
                  refine lv_iload hx hb dX3_move_188 (lv_at hl 8 rfl) ?_
                  refine lv_if_le (tgt := 205) hx hb dX3_move_190 (by decide) (fun c_190 => ?_) (fun c_190 => ?_)
                  · have hq1 : ¬ 0 < q := fun h9 => absurd c_190 (nI_nle h9 (by omega))
                    exact tail205 (rfMvCov σ kt et q) M H locs rfl hW hS (hR.to (by unfold rfMvCov; rw [if_neg hq1])) ls (lv_sub hl [2, 7, 8, 1, 0] rfl)
                  · have hq1 : 0 < q := by
                      rcases Nat.eq_zero_or_pos q with h9 | h9
                      · exact absurd (by rw [h9]; decide) c_190
                      · exact h9
                    refine lv_aload_n hx hb dX3_move_193 rfl (lv_at hl 2 rfl) ?_
                    refine lv_aload_n hx hb dX3_move_194 rfl (lv_at hl 2 rfl) ?_
                    refine mw_get (C := RX3) (T := TX3) (N := 14) F hK hW hI_X3 hR.1 rfl 0 (by decide) hl_fieldLink_RX3_7_SpliceBenchModel_holds_I rfl dX3_move_195 ?_
                    refine lv_iload_n hx hb dX3_move_198 rfl (lv_at hl 5 rfl) ?_
                    refine mw_iald F hK hW 0 hR.2.1 rfl (vp_in_nI (show jt < 10 by omega) (by omega)) dX3_move_199 ?_
                    rw [nI_clamp (show jt < 2 ^ 31 by omega)]
                    refine lv_iconst (v := 1) hx hb dX3_move_200 (by decide) ?_
                    refine lv_isub hx hb dX3_move_201 ?_
                    rw [e9t, nI_pred]
                    refine mw_callv (va_runV (As := [.int (nI kt)]) (rest := []) F (c_X3_cover (k := kt) (n := et) hR hkt het ent) (cwV 1 hts gX3_move_X3_cover rfl rfl rfl (by decide +kernel) ⟨Nat.le_of_ble_eq_true rfl, Nat.le_of_ble_eq_true rfl⟩) (mw_prV (q := (RX3, TX3, 14)) hK hO hW rfl hR.1) rfl rfl hl.1 rfl (lv_room (Nat.le_of_ble_eq_true rfl)) dX3_move_202 ⟨Nat.zero_le _, Nat.zero_le _⟩) hW hS hA (fun M1 H locs h9 hW hS => ?_)
                    have hR := h9
                    exact tail205 (rfMvCov σ kt et q) _ H locs rfl hW hS (hR.to (by unfold rfMvCov; rw [if_pos hq1])) ls (lv_sub hl [2, 7, 8, 1, 0] rfl)
                refine lv_iconst (v := 0) hx hb dX3_move_119 (by decide) ?_
                refine lv_istore (lv' := [(8, .int 0), (0, .ref mm), (1, .int (nI js)), (2, .int (nI i)), (3, .int (nI jt)), (4, .int (nI jj)), (5, .int (nI n)), (6, .int (kOf σ js)), (7, .int (kOf σ jt))]) hx hb dX3_move_120 hl (by decide) rfl (fun ls hl => ?_)
                have loop : ∀ (N : Nat) (q : Nat), n + 1 ≤ q + N → q ≤ n → (∀ x, x < q → (fun q => !(decide (kOf σ jt = 5) && plainV σ (pV σ js (i + q)))) x = true) → ∀ (ls : Array Slot), lv_has ls 12 [(8, .int (nI q)), (0, .ref mm), (1, .int (nI js)), (2, .int (nI i)), (3, .int (nI jt)), (4, .int (nI jj)), (5, .int (nI n)), (7, .int (kOf σ jt))] → W pr l env (headSpec wsX3_move rmX3_move).room s m ([.ref mm, .int (nI js), .int (nI i), .int (nI jt), .int (nI jj), .int (nI n)] : List Value).toArray below meth c H locs 0 0 (MQ below (va_Qi (fun r M' => r = (rfMove σ (nI js) (nI i) (nI jt) (nI jj) (nI n)).1 ∧ refAt cI cJ mm ad (rfMove σ (nI js) (nI i) (nI jt) (nI jj) (nI n)).2 M') (mwB D (tyL cI cJ cC cH) M s.heap.size) (mwA M s.heap.size)) ([.ref mm, .int (nI js), .int (nI i), .int (nI jt), .int (nI jj), .int (nI n)] : List Value).toArray s 0 0 (mwA M s.heap.size)) (F0 m 122 ls []) := by
                  intro N
                  induction N with
                  | zero =>
                    exact fun q h1 h2 => absurd h1 (by omega)
                  | succ N ih =>
                    intro q hN hq0 hP ls hl
                    refine lv_iload hx hb dX3_move_122 (lv_at hl 0 rfl) ?_
                    refine lv_iload hx hb dX3_move_124 (lv_at hl 6 rfl) ?_
                    refine lv_icmp_ge (tgt := 157) hx hb dX3_move_126 (by decide) (fun c_126 => ?_) (fun c_126 => ?_)
                    · exact tail157 q hq0 (lead_eq hq0 hP (fun h9 => absurd h9 (by have := (nI_leI (by omega) (by omega)).mp c_126; omega))) ls (lv_sub hl [1, 2, 3, 4, 5, 6, 0] rfl)
                    · have hqn : q < n := by
                        rcases Nat.lt_or_ge q n with h9 | h9
                        · exact h9
                        · exact absurd (nI_le h9 (by omega)) c_126
                      have epl : pV σ js (i + q) = sPl σ (80 * ks + (i + q)) := pV_row hks e9s
                      refine lv_iload hx hb dX3_move_129 (lv_at hl 7 rfl) ?_
                      refine lv_iconst (v := 5) hx hb dX3_move_131 (by decide) ?_
                      refine lv_icmp_ne (tgt := 151) hx hb dX3_move_132 (by decide) (fun c_132 => ?_) (fun c_132 => ?_)
                      · refine lv_iinc (v := nI (q + 1)) (lv' := [(8, .int (nI (q + 1))), (0, .ref mm), (1, .int (nI js)), (2, .int (nI i)), (3, .int (nI jt)), (4, .int (nI jj)), (5, .int (nI n)), (7, .int (kOf σ jt))]) hx hb dX3_move_151 hl (k := 0) rfl (nI_1 q) (by decide) rfl (fun ls hl => ?_)
                        refine lv_goto (tgt := 122) hx hb dX3_move_154 (by decide) ?_
                        exact ih (q + 1) (by omega) (by omega) (fun x hx9 => by
                          rcases Nat.lt_or_ge x q with h9 | h9
                          · exact hP x h9
                          · rw [show x = q by omega]
                            show (!(decide (kOf σ jt = 5) && plainV σ (pV σ js (i + q)))) = true
                            rw [decide_eq_false c_132, Bool.false_and]; rfl) ls (lv_sub hl [0, 1, 2, 3, 4, 5, 6, 7] rfl)
                      · have hrks : kRack (sKi σ ks) = true := by rw [← hI.rk hjs hks e9s]; exact hlk c_132
                        have hv2 := hI.v2 hjs hks e9s hrks hes ens (show i + q < es by omega)
                        refine lv_aload_n hx hb dX3_move_135 rfl (lv_at hl 1 rfl) ?_
                        refine lv_aload_n hx hb dX3_move_136 rfl (lv_at hl 1 rfl) ?_
                        refine lv_iload_n hx hb dX3_move_137 rfl (lv_at hl 2 rfl) ?_
                        refine lv_iload_n hx hb dX3_move_138 rfl (lv_at hl 3 rfl) ?_
                        refine lv_iload hx hb dX3_move_139 (lv_at hl 0 rfl) ?_
                        refine lv_iadd hx hb dX3_move_141 ?_
                        rw [nI_add]
                        refine vp_callSl (W.runV (As := [.int (nI js), .int (nI (i + q))]) (rest := [.ref mm]) F (c_X3_place (i := (i + q)) (k := ks) hR (show js < 10 by omega) hks (show (i + q) < 80 by omega) e9s) (cwV 2 hts gX3_move_X3_place rfl rfl rfl (by decide +kernel) ⟨Nat.le_of_ble_eq_true rfl, Nat.le_of_ble_eq_true rfl⟩) (mw_prV (q := (RX3, TX3, 14)) hK hO hW rfl hR.1) rfl rfl hl.1 rfl (lv_room (Nat.le_of_ble_eq_true rfl)) dX3_move_142 ⟨Nat.zero_le _, Nat.zero_le _⟩) (fun r_12 er_12 => ?_)
                        subst er_12
                        refine vp_callSi (W.runV (As := [.long (sPl σ (80 * ks + (i + q)))]) (rest := []) F (c_X3_isPlain (v := sPl σ (80 * ks + (i + q))) hR hv2) (cwV 1 hts gX3_move_X3_isPlain rfl rfl rfl (by decide +kernel) ⟨Nat.le_of_ble_eq_true rfl, Nat.le_of_ble_eq_true rfl⟩) (mw_prV (q := (RX3, TX3, 14)) hK hO hW rfl hR.1) rfl rfl hl.1 rfl (lv_room (Nat.le_of_ble_eq_true rfl)) dX3_move_145 ⟨Nat.zero_le _, Nat.zero_le _⟩) (fun r_13 er_13 => ?_)
                        subst er_13
                        refine lv_if_ne (tgt := 157) hx hb dX3_move_148 (by decide) (fun c_148 => ?_) (fun c_148 => ?_)
                        · have c_148 := bI_n c_148
                          exact tail157 q (Nat.le_of_lt hqn) (lead_eq (Nat.le_of_lt hqn) hP (fun _ => by rw [epl, decide_eq_true c_132, show plainV σ (sPl σ (80 * ks + (i + q))) = true from c_148]; rfl)) ls (lv_sub hl [1, 2, 3, 4, 5, 6, 0] rfl)
                        · have c_148 := bI_e c_148
                          refine lv_iinc (v := nI (q + 1)) (lv' := [(8, .int (nI (q + 1))), (0, .ref mm), (1, .int (nI js)), (2, .int (nI i)), (3, .int (nI jt)), (4, .int (nI jj)), (5, .int (nI n)), (7, .int (kOf σ jt))]) hx hb dX3_move_151 hl (k := 0) rfl (nI_1 q) (by decide) rfl (fun ls hl => ?_)
                          refine lv_goto (tgt := 122) hx hb dX3_move_154 (by decide) ?_
                          exact ih (q + 1) (by omega) (by omega) (fun x hx9 => by
                            rcases Nat.lt_or_ge x q with h9 | h9
                            · exact hP x h9
                            · rw [show x = q by omega]
                              show (!(decide (kOf σ jt = 5) && plainV σ (pV σ js (i + q)))) = true
                              rw [epl, show plainV σ (sPl σ (80 * ks + (i + q))) = false from c_148, Bool.and_false]; rfl) ls (lv_sub hl [0, 1, 2, 3, 4, 5, 6, 7] rfl)
                exact loop (n + 1) 0 (by omega) (Nat.zero_le _) (fun x h9 => absurd h9 (Nat.not_lt_zero x)) ls (lv_sub hl [0, 1, 2, 3, 4, 5, 6, 8] rfl)
              · have c_110 := bI_n c_110
                refine lv_aload_n hx hb dX3_move_113 rfl (lv_at hl 0 rfl) ?_
                refine lv_iconst (v := 3) hx hb dX3_move_114 (by decide) ?_
                refine mw_calli (va_runV (As := [.int (nI 3)]) (rest := []) F (c_X3_fails (t5 := 3) hR (show 3 < 5 by omega)) (cwV 1 hts gX3_move_X3_fails rfl rfl rfl (by decide +kernel) ⟨Nat.le_of_ble_eq_true rfl, Nat.le_of_ble_eq_true rfl⟩) (mw_prV (q := (RX3, TX3, 14)) hK hO hW rfl hR.1) rfl rfl hl.1 rfl (lv_room (Nat.le_of_ble_eq_true rfl)) dX3_move_115 ⟨Nat.zero_le _, Nat.zero_le _⟩) hW hS hA (fun r_14 M1 H locs h9 hW hS => ?_)
                obtain ⟨er_14, hR⟩ := h9
                subst er_14
                exact W.iret hx hb hr (fun t ht hw => ⟨⟨_, _, rfl, (by
                  have em : mvF σ js jt i0 j0 n0 = 3 := by rw [hmf, if_pos (Or.inr c_110)]
                  have e8 : rfMove σ (nI js) i0 (nI jt) j0 n0 = (-nI 3, rfFails σ 3) := by
                    unfold rfMove
                    rw [if_pos ⟨esp_js, esp_jt⟩, eix_js, eix_jt, em]
                    rfl
                  rw [e8]; exact ⟨rfl, hR⟩), by rw [ht]; exact hW, va_K.moved hw.alike hK⟩, hS.F ht⟩) hS.2.2 dX3_move_118
          refine lv_iload hx hb dX3_move_47 (lv_at hl 1 rfl) ?_
          refine lv_iconst (v := 1) hx hb dX3_move_49 (by decide) ?_
          refine lv_icmp_eq (tgt := 78) hx hb dX3_move_50 (by decide) (fun c_50 => ?_) (fun c_50 => ?_)
          · refine lv_aload_n hx hb dX3_move_78 rfl (lv_at hl 2 rfl) ?_
            refine lv_iconst (v := 2) hx hb dX3_move_79 (by decide) ?_
            refine mw_calli (va_runV (As := [.int (nI 2)]) (rest := []) F (c_X3_fails (t5 := 2) hR (show 2 < 5 by omega)) (cwV 1 hts gX3_move_X3_fails rfl rfl rfl (by decide +kernel) ⟨Nat.le_of_ble_eq_true rfl, Nat.le_of_ble_eq_true rfl⟩) (mw_prV (q := (RX3, TX3, 14)) hK hO hW rfl hR.1) rfl rfl hl.1 rfl (lv_room (Nat.le_of_ble_eq_true rfl)) dX3_move_80 ⟨Nat.zero_le _, Nat.zero_le _⟩) hW hS hA (fun r_15 M1 H locs h9 hW hS => ?_)
            obtain ⟨er_15, hR⟩ := h9
            subst er_15
            exact W.iret hx hb hr (fun t ht hw => ⟨⟨_, _, rfl, (by
              have em : mvF σ js jt i0 j0 n0 = 2 := by unfold mvF; rw [if_neg (not_or.mpr ⟨c_33, c_38⟩), if_pos (Or.inl c_50)]
              have e8 : rfMove σ (nI js) i0 (nI jt) j0 n0 = (-nI 2, rfFails σ 2) := by
                unfold rfMove
                rw [if_pos ⟨esp_js, esp_jt⟩, eix_js, eix_jt, em]
                rfl
              rw [e8]; exact ⟨rfl, hR⟩), by rw [ht]; exact hW, va_K.moved hw.alike hK⟩, hS.F ht⟩) hS.2.2 dX3_move_83
          · refine lv_iload hx hb dX3_move_53 (lv_at hl 0 rfl) ?_
            refine lv_iconst (v := 1) hx hb dX3_move_55 (by decide) ?_
            refine lv_icmp_eq (tgt := 78) hx hb dX3_move_56 (by decide) (fun c_56 => ?_) (fun c_56 => ?_)
            · refine lv_aload_n hx hb dX3_move_78 rfl (lv_at hl 2 rfl) ?_
              refine lv_iconst (v := 2) hx hb dX3_move_79 (by decide) ?_
              refine mw_calli (va_runV (As := [.int (nI 2)]) (rest := []) F (c_X3_fails (t5 := 2) hR (show 2 < 5 by omega)) (cwV 1 hts gX3_move_X3_fails rfl rfl rfl (by decide +kernel) ⟨Nat.le_of_ble_eq_true rfl, Nat.le_of_ble_eq_true rfl⟩) (mw_prV (q := (RX3, TX3, 14)) hK hO hW rfl hR.1) rfl rfl hl.1 rfl (lv_room (Nat.le_of_ble_eq_true rfl)) dX3_move_80 ⟨Nat.zero_le _, Nat.zero_le _⟩) hW hS hA (fun r_16 M1 H locs h9 hW hS => ?_)
              obtain ⟨er_16, hR⟩ := h9
              subst er_16
              exact W.iret hx hb hr (fun t ht hw => ⟨⟨_, _, rfl, (by
                have em : mvF σ js jt i0 j0 n0 = 2 := by unfold mvF; rw [if_neg (not_or.mpr ⟨c_33, c_38⟩), if_pos (Or.inr (Or.inl c_56))]
                have e8 : rfMove σ (nI js) i0 (nI jt) j0 n0 = (-nI 2, rfFails σ 2) := by
                  unfold rfMove
                  rw [if_pos ⟨esp_js, esp_jt⟩, eix_js, eix_jt, em]
                  rfl
                rw [e8]; exact ⟨rfl, hR⟩), by rw [ht]; exact hW, va_K.moved hw.alike hK⟩, hS.F ht⟩) hS.2.2 dX3_move_83
            · refine lv_iload hx hb dX3_move_59 (lv_at hl 1 rfl) ?_
              refine lv_iload hx hb dX3_move_61 (lv_at hl 0 rfl) ?_
              refine lv_icmp_eq (tgt := 84) hx hb dX3_move_63 (by decide) (fun c_63 => ?_) (fun c_63 => ?_)
              · exact tail84 s.heap [] hW hS hR c_50 c_56 (fun h9 => by unfold rkOf; rw [c_63, h9]; decide) (by unfold mvF; rw [if_neg (not_or.mpr ⟨c_33, c_38⟩), if_neg (not_or.mpr ⟨c_50, not_or.mpr ⟨c_56, fun z => absurd c_63 z.1⟩⟩)]) ls (lv_sub hl [2, 3, 4, 5, 6, 7, 1, 0] rfl)
              · refine lv_iload hx hb dX3_move_66 (lv_at hl 1 rfl) ?_
                refine lv_iconst (v := 4) hx hb dX3_move_68 (by decide) ?_
                refine lv_icmp_lt (tgt := 78) hx hb dX3_move_69 (by decide) (fun c_69 => ?_) (fun c_69 => ?_)
                · refine lv_aload_n hx hb dX3_move_78 rfl (lv_at hl 2 rfl) ?_
                  refine lv_iconst (v := 2) hx hb dX3_move_79 (by decide) ?_
                  refine mw_calli (va_runV (As := [.int (nI 2)]) (rest := []) F (c_X3_fails (t5 := 2) hR (show 2 < 5 by omega)) (cwV 1 hts gX3_move_X3_fails rfl rfl rfl (by decide +kernel) ⟨Nat.le_of_ble_eq_true rfl, Nat.le_of_ble_eq_true rfl⟩) (mw_prV (q := (RX3, TX3, 14)) hK hO hW rfl hR.1) rfl rfl hl.1 rfl (lv_room (Nat.le_of_ble_eq_true rfl)) dX3_move_80 ⟨Nat.zero_le _, Nat.zero_le _⟩) hW hS hA (fun r_17 M1 H locs h9 hW hS => ?_)
                  obtain ⟨er_17, hR⟩ := h9
                  subst er_17
                  exact W.iret hx hb hr (fun t ht hw => ⟨⟨_, _, rfl, (by
                    have em : mvF σ js jt i0 j0 n0 = 2 := by unfold mvF; rw [if_neg (not_or.mpr ⟨c_33, c_38⟩), if_pos (Or.inr (Or.inr ⟨c_63, Or.inl c_69⟩))]
                    have e8 : rfMove σ (nI js) i0 (nI jt) j0 n0 = (-nI 2, rfFails σ 2) := by
                      unfold rfMove
                      rw [if_pos ⟨esp_js, esp_jt⟩, eix_js, eix_jt, em]
                      rfl
                    rw [e8]; exact ⟨rfl, hR⟩), by rw [ht]; exact hW, va_K.moved hw.alike hK⟩, hS.F ht⟩) hS.2.2 dX3_move_83
                · refine lv_iload hx hb dX3_move_72 (lv_at hl 0 rfl) ?_
                  refine lv_iconst (v := 4) hx hb dX3_move_74 (by decide) ?_
                  refine lv_icmp_ge (tgt := 84) hx hb dX3_move_75 (by decide) (fun c_75 => ?_) (fun c_75 => ?_)
                  · exact tail84 s.heap [] hW hS hR c_50 c_56 (fun _ => by unfold rkOf; exact decide_eq_true (Int32.not_lt.mp c_69)) (by unfold mvF; rw [if_neg (not_or.mpr ⟨c_33, c_38⟩), if_neg (not_or.mpr ⟨c_50, not_or.mpr ⟨c_56, fun z => z.2.elim c_69 (fun z2 => absurd c_75 (Int32.not_le.mpr z2))⟩⟩)]) ls (lv_sub hl [2, 3, 4, 5, 6, 7, 1, 0] rfl)
                  · refine lv_aload_n hx hb dX3_move_78 rfl (lv_at hl 2 rfl) ?_
                    refine lv_iconst (v := 2) hx hb dX3_move_79 (by decide) ?_
                    refine mw_calli (va_runV (As := [.int (nI 2)]) (rest := []) F (c_X3_fails (t5 := 2) hR (show 2 < 5 by omega)) (cwV 1 hts gX3_move_X3_fails rfl rfl rfl (by decide +kernel) ⟨Nat.le_of_ble_eq_true rfl, Nat.le_of_ble_eq_true rfl⟩) (mw_prV (q := (RX3, TX3, 14)) hK hO hW rfl hR.1) rfl rfl hl.1 rfl (lv_room (Nat.le_of_ble_eq_true rfl)) dX3_move_80 ⟨Nat.zero_le _, Nat.zero_le _⟩) hW hS hA (fun r_18 M1 H locs h9 hW hS => ?_)
                    obtain ⟨er_18, hR⟩ := h9
                    subst er_18
                    exact W.iret hx hb hr (fun t ht hw => ⟨⟨_, _, rfl, (by
                      have em : mvF σ js jt i0 j0 n0 = 2 := by unfold mvF; rw [if_neg (not_or.mpr ⟨c_33, c_38⟩), if_pos (Or.inr (Or.inr ⟨c_63, Or.inr (Int32.not_le.mp c_75)⟩))]
                      have e8 : rfMove σ (nI js) i0 (nI jt) j0 n0 = (-nI 2, rfFails σ 2) := by
                        unfold rfMove
                        rw [if_pos ⟨esp_js, esp_jt⟩, eix_js, eix_jt, em]
                        rfl
                      rw [e8]; exact ⟨rfl, hR⟩), by rw [ht]; exact hW, va_K.moved hw.alike hK⟩, hS.F ht⟩) hS.2.2 dX3_move_83
        · refine lv_aload_n hx hb dX3_move_41 rfl (lv_at hl 2 rfl) ?_
          refine lv_iconst (v := 1) hx hb dX3_move_42 (by decide) ?_
          refine mw_calli (va_runV (As := [.int (nI 1)]) (rest := []) F (c_X3_fails (t5 := 1) hR (show 1 < 5 by omega)) (cwV 1 hts gX3_move_X3_fails rfl rfl rfl (by decide +kernel) ⟨Nat.le_of_ble_eq_true rfl, Nat.le_of_ble_eq_true rfl⟩) (mw_prV (q := (RX3, TX3, 14)) hK hO hW rfl hR.1) rfl rfl hl.1 rfl (lv_room (Nat.le_of_ble_eq_true rfl)) dX3_move_43 ⟨Nat.zero_le _, Nat.zero_le _⟩) hW hS hA (fun r_19 M1 H locs h9 hW hS => ?_)
          obtain ⟨er_19, hR⟩ := h9
          subst er_19
          exact W.iret hx hb hr (fun t ht hw => ⟨⟨_, _, rfl, (by
            have em : mvF σ js jt i0 j0 n0 = 1 := by unfold mvF; rw [if_pos (Or.inr c_38)]
            have e8 : rfMove σ (nI js) i0 (nI jt) j0 n0 = (-nI 1, rfFails σ 1) := by
              unfold rfMove
              rw [if_pos ⟨esp_js, esp_jt⟩, eix_js, eix_jt, em]
              rfl
            rw [e8]; exact ⟨rfl, hR⟩), by rw [ht]; exact hW, va_K.moved hw.alike hK⟩, hS.F ht⟩) hS.2.2 dX3_move_46
    · have c_11 := bI_e c_11
      refine lv_bipush (v := (-9)) hx hb dX3_move_14 (by decide) ?_
      exact W.iret hx hb hr (fun t ht hw => ⟨⟨_, _, rfl, (by
        have e8 : rfMove σ (nI js) i0 t0 j0 n0 = (-9, σ) := by simp [rfMove, c_11]
        rw [e8]; exact ⟨rfl, hR⟩), by rw [ht]; exact hW, va_K.moved hw.alike hK⟩, hS.F ht⟩) hS.2.2 dX3_move_16
end X3V
end
section
section X3I
variable {l : Launch} {D : va_G} {cI cJ cC cH : ClassId} {M : Nat → Option va_E} {sz : Nat}
def rs0 : RS := (fun _ => 0, fun _ => 0, fun _ => 0, fun _ => 0, fun _ => 0, fun _ => 0, fun _ => 0, fun _ => 0, fun _ => 0, -1, 0, 0, 0, 0)
def ad9 (q0 q1 q2 q3 q4 q5 q6 q7 q8 : Nat) : Nat → Nat := fun k => match k with
  | 0 => q0
  | 1 => q1
  | 2 => q2
  | 3 => q3
  | 4 => q4
  | 5 => q5
  | 6 => q6
  | 7 => q7
  | _ => q8
theorem ad9_inj {q0 q1 q2 q3 q4 q5 q6 q7 q8 : Nat} (n01 : q0 ≠ q1) (n02 : q0 ≠ q2) (n12 : q1 ≠ q2) (n03 : q0 ≠ q3) (n13 : q1 ≠ q3) (n23 : q2 ≠ q3) (n04 : q0 ≠ q4) (n14 : q1 ≠ q4) (n24 : q2 ≠ q4) (n34 : q3 ≠ q4) (n05 : q0 ≠ q5) (n15 : q1 ≠ q5) (n25 : q2 ≠ q5) (n35 : q3 ≠ q5) (n45 : q4 ≠ q5) (n06 : q0 ≠ q6) (n16 : q1 ≠ q6) (n26 : q2 ≠ q6) (n36 : q3 ≠ q6) (n46 : q4 ≠ q6) (n56 : q5 ≠ q6) (n07 : q0 ≠ q7) (n17 : q1 ≠ q7) (n27 : q2 ≠ q7) (n37 : q3 ≠ q7) (n47 : q4 ≠ q7) (n57 : q5 ≠ q7) (n67 : q6 ≠ q7) (n08 : q0 ≠ q8) (n18 : q1 ≠ q8) (n28 : q2 ≠ q8) (n38 : q3 ≠ q8) (n48 : q4 ≠ q8) (n58 : q5 ≠ q8) (n68 : q6 ≠ q8) (n78 : q7 ≠ q8) : ∀ i j, i < 9 → j < 9 → ad9 q0 q1 q2 q3 q4 q5 q6 q7 q8 i = ad9 q0 q1 q2 q3 q4 q5 q6 q7 q8 j → i = j := by
  intro i j hi hj
  have h1 : i = 0 ∨ i = 1 ∨ i = 2 ∨ i = 3 ∨ i = 4 ∨ i = 5 ∨ i = 6 ∨ i = 7 ∨ i = 8 := by omega
  have h2 : j = 0 ∨ j = 1 ∨ j = 2 ∨ j = 3 ∨ j = 4 ∨ j = 5 ∨ j = 6 ∨ j = 7 ∨ j = 8 := by omega
  rcases h1 with rfl | rfl | rfl | rfl | rfl | rfl | rfl | rfl | rfl <;> rcases h2 with rfl | rfl | rfl | rfl | rfl | rfl | rfl | rfl | rfl <;> intro h <;> first | rfl | (simp only [ad9] at h; first | exact absurd h (by assumption) | exact absurd h.symm (by assumption))
abbrev rmX3_init : Room := ({ frames := 1, cells := 9, slots := 5089, locals := 12 } : Room)
set_option maxHeartbeats 4000000 in
set_option maxRecDepth 100000 in
theorem c_X3_init {mm : Nat} (hm : M mm = some (.inr (3, [.null, .null, .null, .null, .null, .null, .null, .null, .null, .int 0, .int 0, .int 0, .int 0, .int 0]))) : Met l yX3_init wsX3_init rmX3_init (va_Pc [.ref mm] (mwPre D (tyL cI cJ cC cH) M sz)) (va_Qv (fun M' => ∃ ad : Nat → Nat, refAt cI cJ mm ad rs0 M') (mwB D (tyL cI cJ cC cH) M sz) (mwA M sz)) 9 5089 (mwA M sz) := by
  refine Met.ofW (cc := cX3_init) (maxL := 1) (ret := none) (by decide) rfl ?_
  intro pr env s m args below meth c s₁ B hml hv
  obtain ⟨rfl, hsz, hW, hK, hO⟩ := hv
  subst hsz
  have hW := hW.self (sz := s.heap.size)
  have hS : va_S (mwA M s.heap.size) s.heap s.heap [] := va_S.rf
  have hA : ∀ q, s.heap.size ≤ q → mwA M s.heap.size q := fun q h => Or.inr h
  have hx := B.exec
  have hb := B.bytes
  have hr := B.returns
  have hts := atoms_spec (ws := wsX3_init) B.pre
  have hin : meth.name = "<init>" := (name_of_methodNamed B.named B.method).1
  have hown : s.vm.findClass RX3 = some m.cls := findClass_of_methodNamed B.named
  have hlocks := B.notSynchronized
  have F : CallFix pr m c cX3_init 1 s ([.ref mm] : List Value).toArray wsX3_init RX3 := ⟨hx, hb, hml, hown, hts⟩
  have hI_X3 : ∀ w ∈ wsX30, w ∈ wsX3_init := by decide +kernel
  have hl_methodLink_RX3_1_objectInit := hts (.methodLink RX3 1 objectInit) (by decide +kernel)
  have hl_instanceMethod_objectInit := hts (.instanceMethod objectInit) (by decide +kernel)
  have hl_arrayClass_int := hts (.arrayClass .int) (by decide +kernel)
  have hl_fieldLink_RX3_7_SpliceBenchModel_holds_I := hts (.fieldLink RX3 7 "SpliceBenchModel" "holds" "[I") (by decide +kernel)
  have hl_fieldLink_RX3_13_SpliceBenchModel_labels_I := hts (.fieldLink RX3 13 "SpliceBenchModel" "labels" "[I") (by decide +kernel)
  have hl_fieldLink_RX3_16_SpliceBenchModel_kind_I := hts (.fieldLink RX3 16 "SpliceBenchModel" "kind" "[I") (by decide +kernel)
  have hl_fieldLink_RX3_19_SpliceBenchModel_size_I := hts (.fieldLink RX3 19 "SpliceBenchModel" "size" "[I") (by decide +kernel)
  have hl_arrayClass_long := hts (.arrayClass .long) (by decide +kernel)
  have hl_fieldLink_RX3_22_SpliceBenchModel_places_J := hts (.fieldLink RX3 22 "SpliceBenchModel" "places" "[J") (by decide +kernel)
  have hl_fieldLink_RX3_26_SpliceBenchModel_was_J := hts (.fieldLink RX3 26 "SpliceBenchModel" "was" "[J") (by decide +kernel)
  have hl_fieldLink_RX3_29_SpliceBenchModel_cardNumber_J := hts (.fieldLink RX3 29 "SpliceBenchModel" "cardNumber" "[J") (by decide +kernel)
  have hl_fieldLink_RX3_32_SpliceBenchModel_cardShown_I := hts (.fieldLink RX3 32 "SpliceBenchModel" "cardShown" "[I") (by decide +kernel)
  have hl_fieldLink_RX3_35_SpliceBenchModel_failed_I := hts (.fieldLink RX3 35 "SpliceBenchModel" "failed" "[I") (by decide +kernel)
  have hl_fieldLink_RX3_38_SpliceBenchModel_covered_I := hts (.fieldLink RX3 38 "SpliceBenchModel" "covered" "I") (by decide +kernel)
  have hl_oc := hts (.code objectInit ⟨#[0xb1]⟩ 1 none) (by decide +kernel)
  have hl := lv_entry ([.ref mm]) (n := 1) (Nat.le_of_ble_eq_true rfl)
  rw [lg_entry_eq]
  generalize (lg_sl ([.ref mm]) ++ List.replicate (1 - (lg_sl ([.ref mm])).length) Slot.unset).toArray = ls at hl ⊢
  have hl : lv_has ls 1 [(0, .ref mm)] := hl
  refine lv_aload_n hx hb dX3_init_0 rfl (lv_at hl 0 rfl) ?_
  refine W.objInit hx hb hown hl_methodLink_RX3_1_objectInit hl_instanceMethod_objectInit hl_oc rfl (by rw [hml]; exact hl.1) rfl dX3_init_1 (Nat.le_of_ble_eq_true rfl) (Nat.le_of_ble_eq_true rfl) ?_
  refine W.eq (g2 := F0 m 4 ls []) rfl ?_
  refine lv_aload_n hx hb dX3_init_4 rfl (lv_at hl 0 rfl) ?_
  refine lv_bipush (v := 10) hx hb dX3_init_5 (by decide) ?_
  refine mw_newa (atype := .int) (n := 10) (N' := 10) (ty := .int) (a0 := (10, .inl (fun _ => 0))) F hK hW hS hA 0 hl_arrayClass_int rfl rfl (fun C z => by cases z) (fun cA => rfl) (by decide) (by decide) (by decide) (by show _ ≤ 9; omega) (by show _ ≤ 5089; omega) dX3_init_7 (fun q0 H hq0 hW hS => ?_)
  have hm : (va_up M q0 (some (.inl (cI, 10, .inl (fun _ => 0))))) mm = _ := (va_up_ne _ _ (mw_nnew hm hq0)).trans hm
  have a0 : (va_up M q0 (some (.inl (cI, 10, .inl (fun _ => 0))))) q0 = some (.inl (cI, 10, .inl (fun _ => 0))) := va_up_self _ _ _
  generalize va_up M q0 (some (.inl (cI, 10, .inl (fun _ => 0)))) = N0 at hW hm a0
  refine mw_putF (C := RX3) (T := TX3) (N := 14) (v := .ref q0) F hK hW hS hI_X3 tyX3 tyX3_ok nmX3 hm rfl 0 (by decide) hl_fieldLink_RX3_7_SpliceBenchModel_holds_I rfl hin rfl rfl rfl (Nat.le_of_ble_eq_true rfl) dX3_init_9 (fun H locs hW hS => ?_)
  have hW : mw D (mwA M s.heap.size) (va_up N0 mm (some (.inr (3, [.ref q0, .null, .null, .null, .null, .null, .null, .null, .null, .int 0, .int 0, .int 0, .int 0, .int 0])))) H := hW
  have a0 : (va_up N0 mm (some (.inr (3, [.ref q0, .null, .null, .null, .null, .null, .null, .null, .null, .int 0, .int 0, .int 0, .int 0, .int 0])))) q0 = _ := (va_up_ne _ _ (mw_neq a0 hm (fun z => by cases z))).trans a0
  have hm : (va_up N0 mm (some (.inr (3, [.ref q0, .null, .null, .null, .null, .null, .null, .null, .null, .int 0, .int 0, .int 0, .int 0, .int 0])))) mm = some (.inr (3, [.ref q0, .null, .null, .null, .null, .null, .null, .null, .null, .int 0, .int 0, .int 0, .int 0, .int 0])) := va_up_self _ _ _
  generalize va_up N0 mm (some (.inr (3, [.ref q0, .null, .null, .null, .null, .null, .null, .null, .null, .int 0, .int 0, .int 0, .int 0, .int 0]))) = M1 at hW hm a0
  refine lv_aload_n hx hb dX3_init_12 rfl (lv_at hl 0 rfl) ?_
  refine lv_bipush (v := 10) hx hb dX3_init_13 (by decide) ?_
  refine mw_newa (atype := .int) (n := 10) (N' := 10) (ty := .int) (a0 := (10, .inl (fun _ => 0))) F hK hW hS hA 0 hl_arrayClass_int rfl rfl (fun C z => by cases z) (fun cA => rfl) (by decide) (by decide) (by decide) (by show _ ≤ 9; omega) (by show _ ≤ 5089; omega) dX3_init_15 (fun q1 H hq1 hW hS => ?_)
  have n01 : q0 ≠ q1 := mw_nnew a0 hq1
  have hm : (va_up M1 q1 (some (.inl (cI, 10, .inl (fun _ => 0))))) mm = _ := (va_up_ne _ _ (mw_nnew hm hq1)).trans hm
  have a0 : (va_up M1 q1 (some (.inl (cI, 10, .inl (fun _ => 0))))) q0 = _ := (va_up_ne _ _ n01).trans a0
  have a1 : (va_up M1 q1 (some (.inl (cI, 10, .inl (fun _ => 0))))) q1 = some (.inl (cI, 10, .inl (fun _ => 0))) := va_up_self _ _ _
  generalize va_up M1 q1 (some (.inl (cI, 10, .inl (fun _ => 0)))) = N1 at hW hm a0 a1
  refine mw_putF (C := RX3) (T := TX3) (N := 14) (v := .ref q1) F hK hW hS hI_X3 tyX3 tyX3_ok nmX3 hm rfl 1 (by decide) hl_fieldLink_RX3_13_SpliceBenchModel_labels_I rfl hin rfl rfl rfl (Nat.le_of_ble_eq_true rfl) dX3_init_17 (fun H locs hW hS => ?_)
  have hW : mw D (mwA M s.heap.size) (va_up N1 mm (some (.inr (3, [.ref q0, .ref q1, .null, .null, .null, .null, .null, .null, .null, .int 0, .int 0, .int 0, .int 0, .int 0])))) H := hW
  have a0 : (va_up N1 mm (some (.inr (3, [.ref q0, .ref q1, .null, .null, .null, .null, .null, .null, .null, .int 0, .int 0, .int 0, .int 0, .int 0])))) q0 = _ := (va_up_ne _ _ (mw_neq a0 hm (fun z => by cases z))).trans a0
  have a1 : (va_up N1 mm (some (.inr (3, [.ref q0, .ref q1, .null, .null, .null, .null, .null, .null, .null, .int 0, .int 0, .int 0, .int 0, .int 0])))) q1 = _ := (va_up_ne _ _ (mw_neq a1 hm (fun z => by cases z))).trans a1
  have hm : (va_up N1 mm (some (.inr (3, [.ref q0, .ref q1, .null, .null, .null, .null, .null, .null, .null, .int 0, .int 0, .int 0, .int 0, .int 0])))) mm = some (.inr (3, [.ref q0, .ref q1, .null, .null, .null, .null, .null, .null, .null, .int 0, .int 0, .int 0, .int 0, .int 0])) := va_up_self _ _ _
  generalize va_up N1 mm (some (.inr (3, [.ref q0, .ref q1, .null, .null, .null, .null, .null, .null, .null, .int 0, .int 0, .int 0, .int 0, .int 0]))) = M2 at hW hm a0 a1
  refine lv_aload_n hx hb dX3_init_20 rfl (lv_at hl 0 rfl) ?_
  refine lv_bipush (v := 12) hx hb dX3_init_21 (by decide) ?_
  refine mw_newa (atype := .int) (n := 12) (N' := 12) (ty := .int) (a0 := (12, .inl (fun _ => 0))) F hK hW hS hA 0 hl_arrayClass_int rfl rfl (fun C z => by cases z) (fun cA => rfl) (by decide) (by decide) (by decide) (by show _ ≤ 9; omega) (by show _ ≤ 5089; omega) dX3_init_23 (fun q2 H hq2 hW hS => ?_)
  have n02 : q0 ≠ q2 := mw_nnew a0 hq2
  have n12 : q1 ≠ q2 := mw_nnew a1 hq2
  have hm : (va_up M2 q2 (some (.inl (cI, 12, .inl (fun _ => 0))))) mm = _ := (va_up_ne _ _ (mw_nnew hm hq2)).trans hm
  have a0 : (va_up M2 q2 (some (.inl (cI, 12, .inl (fun _ => 0))))) q0 = _ := (va_up_ne _ _ n02).trans a0
  have a1 : (va_up M2 q2 (some (.inl (cI, 12, .inl (fun _ => 0))))) q1 = _ := (va_up_ne _ _ n12).trans a1
  have a2 : (va_up M2 q2 (some (.inl (cI, 12, .inl (fun _ => 0))))) q2 = some (.inl (cI, 12, .inl (fun _ => 0))) := va_up_self _ _ _
  generalize va_up M2 q2 (some (.inl (cI, 12, .inl (fun _ => 0)))) = N2 at hW hm a0 a1 a2
  refine mw_putF (C := RX3) (T := TX3) (N := 14) (v := .ref q2) F hK hW hS hI_X3 tyX3 tyX3_ok nmX3 hm rfl 2 (by decide) hl_fieldLink_RX3_16_SpliceBenchModel_kind_I rfl hin rfl rfl rfl (Nat.le_of_ble_eq_true rfl) dX3_init_25 (fun H locs hW hS => ?_)
  have hW : mw D (mwA M s.heap.size) (va_up N2 mm (some (.inr (3, [.ref q0, .ref q1, .ref q2, .null, .null, .null, .null, .null, .null, .int 0, .int 0, .int 0, .int 0, .int 0])))) H := hW
  have a0 : (va_up N2 mm (some (.inr (3, [.ref q0, .ref q1, .ref q2, .null, .null, .null, .null, .null, .null, .int 0, .int 0, .int 0, .int 0, .int 0])))) q0 = _ := (va_up_ne _ _ (mw_neq a0 hm (fun z => by cases z))).trans a0
  have a1 : (va_up N2 mm (some (.inr (3, [.ref q0, .ref q1, .ref q2, .null, .null, .null, .null, .null, .null, .int 0, .int 0, .int 0, .int 0, .int 0])))) q1 = _ := (va_up_ne _ _ (mw_neq a1 hm (fun z => by cases z))).trans a1
  have a2 : (va_up N2 mm (some (.inr (3, [.ref q0, .ref q1, .ref q2, .null, .null, .null, .null, .null, .null, .int 0, .int 0, .int 0, .int 0, .int 0])))) q2 = _ := (va_up_ne _ _ (mw_neq a2 hm (fun z => by cases z))).trans a2
  have hm : (va_up N2 mm (some (.inr (3, [.ref q0, .ref q1, .ref q2, .null, .null, .null, .null, .null, .null, .int 0, .int 0, .int 0, .int 0, .int 0])))) mm = some (.inr (3, [.ref q0, .ref q1, .ref q2, .null, .null, .null, .null, .null, .null, .int 0, .int 0, .int 0, .int 0, .int 0])) := va_up_self _ _ _
  generalize va_up N2 mm (some (.inr (3, [.ref q0, .ref q1, .ref q2, .null, .null, .null, .null, .null, .null, .int 0, .int 0, .int 0, .int 0, .int 0]))) = M3 at hW hm a0 a1 a2
  refine lv_aload_n hx hb dX3_init_28 rfl (lv_at hl 0 rfl) ?_
  refine lv_bipush (v := 12) hx hb dX3_init_29 (by decide) ?_
  refine mw_newa (atype := .int) (n := 12) (N' := 12) (ty := .int) (a0 := (12, .inl (fun _ => 0))) F hK hW hS hA 0 hl_arrayClass_int rfl rfl (fun C z => by cases z) (fun cA => rfl) (by decide) (by decide) (by decide) (by show _ ≤ 9; omega) (by show _ ≤ 5089; omega) dX3_init_31 (fun q3 H hq3 hW hS => ?_)
  have n03 : q0 ≠ q3 := mw_nnew a0 hq3
  have n13 : q1 ≠ q3 := mw_nnew a1 hq3
  have n23 : q2 ≠ q3 := mw_nnew a2 hq3
  have hm : (va_up M3 q3 (some (.inl (cI, 12, .inl (fun _ => 0))))) mm = _ := (va_up_ne _ _ (mw_nnew hm hq3)).trans hm
  have a0 : (va_up M3 q3 (some (.inl (cI, 12, .inl (fun _ => 0))))) q0 = _ := (va_up_ne _ _ n03).trans a0
  have a1 : (va_up M3 q3 (some (.inl (cI, 12, .inl (fun _ => 0))))) q1 = _ := (va_up_ne _ _ n13).trans a1
  have a2 : (va_up M3 q3 (some (.inl (cI, 12, .inl (fun _ => 0))))) q2 = _ := (va_up_ne _ _ n23).trans a2
  have a3 : (va_up M3 q3 (some (.inl (cI, 12, .inl (fun _ => 0))))) q3 = some (.inl (cI, 12, .inl (fun _ => 0))) := va_up_self _ _ _
  generalize va_up M3 q3 (some (.inl (cI, 12, .inl (fun _ => 0)))) = N3 at hW hm a0 a1 a2 a3
  refine mw_putF (C := RX3) (T := TX3) (N := 14) (v := .ref q3) F hK hW hS hI_X3 tyX3 tyX3_ok nmX3 hm rfl 3 (by decide) hl_fieldLink_RX3_19_SpliceBenchModel_size_I rfl hin rfl rfl rfl (Nat.le_of_ble_eq_true rfl) dX3_init_33 (fun H locs hW hS => ?_)
  have hW : mw D (mwA M s.heap.size) (va_up N3 mm (some (.inr (3, [.ref q0, .ref q1, .ref q2, .ref q3, .null, .null, .null, .null, .null, .int 0, .int 0, .int 0, .int 0, .int 0])))) H := hW
  have a0 : (va_up N3 mm (some (.inr (3, [.ref q0, .ref q1, .ref q2, .ref q3, .null, .null, .null, .null, .null, .int 0, .int 0, .int 0, .int 0, .int 0])))) q0 = _ := (va_up_ne _ _ (mw_neq a0 hm (fun z => by cases z))).trans a0
  have a1 : (va_up N3 mm (some (.inr (3, [.ref q0, .ref q1, .ref q2, .ref q3, .null, .null, .null, .null, .null, .int 0, .int 0, .int 0, .int 0, .int 0])))) q1 = _ := (va_up_ne _ _ (mw_neq a1 hm (fun z => by cases z))).trans a1
  have a2 : (va_up N3 mm (some (.inr (3, [.ref q0, .ref q1, .ref q2, .ref q3, .null, .null, .null, .null, .null, .int 0, .int 0, .int 0, .int 0, .int 0])))) q2 = _ := (va_up_ne _ _ (mw_neq a2 hm (fun z => by cases z))).trans a2
  have a3 : (va_up N3 mm (some (.inr (3, [.ref q0, .ref q1, .ref q2, .ref q3, .null, .null, .null, .null, .null, .int 0, .int 0, .int 0, .int 0, .int 0])))) q3 = _ := (va_up_ne _ _ (mw_neq a3 hm (fun z => by cases z))).trans a3
  have hm : (va_up N3 mm (some (.inr (3, [.ref q0, .ref q1, .ref q2, .ref q3, .null, .null, .null, .null, .null, .int 0, .int 0, .int 0, .int 0, .int 0])))) mm = some (.inr (3, [.ref q0, .ref q1, .ref q2, .ref q3, .null, .null, .null, .null, .null, .int 0, .int 0, .int 0, .int 0, .int 0])) := va_up_self _ _ _
  generalize va_up N3 mm (some (.inr (3, [.ref q0, .ref q1, .ref q2, .ref q3, .null, .null, .null, .null, .null, .int 0, .int 0, .int 0, .int 0, .int 0]))) = M4 at hW hm a0 a1 a2 a3
  refine lv_aload_n hx hb dX3_init_36 rfl (lv_at hl 0 rfl) ?_
  refine lv_sipush (v := 960) hx hb dX3_init_37 (by decide) ?_
  refine mw_newa (atype := .long) (n := 960) (N' := 960) (ty := .long) (a0 := (960, .inr (.inl (fun _ => 0)))) F hK hW hS hA 1 hl_arrayClass_long rfl rfl (fun C z => by cases z) (fun cA => rfl) (by decide) (by decide) (by decide) (by show _ ≤ 9; omega) (by show _ ≤ 5089; omega) dX3_init_40 (fun q4 H hq4 hW hS => ?_)
  have n04 : q0 ≠ q4 := mw_nnew a0 hq4
  have n14 : q1 ≠ q4 := mw_nnew a1 hq4
  have n24 : q2 ≠ q4 := mw_nnew a2 hq4
  have n34 : q3 ≠ q4 := mw_nnew a3 hq4
  have hm : (va_up M4 q4 (some (.inl (cJ, 960, .inr (.inl (fun _ => 0)))))) mm = _ := (va_up_ne _ _ (mw_nnew hm hq4)).trans hm
  have a0 : (va_up M4 q4 (some (.inl (cJ, 960, .inr (.inl (fun _ => 0)))))) q0 = _ := (va_up_ne _ _ n04).trans a0
  have a1 : (va_up M4 q4 (some (.inl (cJ, 960, .inr (.inl (fun _ => 0)))))) q1 = _ := (va_up_ne _ _ n14).trans a1
  have a2 : (va_up M4 q4 (some (.inl (cJ, 960, .inr (.inl (fun _ => 0)))))) q2 = _ := (va_up_ne _ _ n24).trans a2
  have a3 : (va_up M4 q4 (some (.inl (cJ, 960, .inr (.inl (fun _ => 0)))))) q3 = _ := (va_up_ne _ _ n34).trans a3
  have a4 : (va_up M4 q4 (some (.inl (cJ, 960, .inr (.inl (fun _ => 0)))))) q4 = some (.inl (cJ, 960, .inr (.inl (fun _ => 0)))) := va_up_self _ _ _
  generalize va_up M4 q4 (some (.inl (cJ, 960, .inr (.inl (fun _ => 0))))) = N4 at hW hm a0 a1 a2 a3 a4
  refine mw_putF (C := RX3) (T := TX3) (N := 14) (v := .ref q4) F hK hW hS hI_X3 tyX3 tyX3_ok nmX3 hm rfl 4 (by decide) hl_fieldLink_RX3_22_SpliceBenchModel_places_J rfl hin rfl rfl rfl (Nat.le_of_ble_eq_true rfl) dX3_init_42 (fun H locs hW hS => ?_)
  have hW : mw D (mwA M s.heap.size) (va_up N4 mm (some (.inr (3, [.ref q0, .ref q1, .ref q2, .ref q3, .ref q4, .null, .null, .null, .null, .int 0, .int 0, .int 0, .int 0, .int 0])))) H := hW
  have a0 : (va_up N4 mm (some (.inr (3, [.ref q0, .ref q1, .ref q2, .ref q3, .ref q4, .null, .null, .null, .null, .int 0, .int 0, .int 0, .int 0, .int 0])))) q0 = _ := (va_up_ne _ _ (mw_neq a0 hm (fun z => by cases z))).trans a0
  have a1 : (va_up N4 mm (some (.inr (3, [.ref q0, .ref q1, .ref q2, .ref q3, .ref q4, .null, .null, .null, .null, .int 0, .int 0, .int 0, .int 0, .int 0])))) q1 = _ := (va_up_ne _ _ (mw_neq a1 hm (fun z => by cases z))).trans a1
  have a2 : (va_up N4 mm (some (.inr (3, [.ref q0, .ref q1, .ref q2, .ref q3, .ref q4, .null, .null, .null, .null, .int 0, .int 0, .int 0, .int 0, .int 0])))) q2 = _ := (va_up_ne _ _ (mw_neq a2 hm (fun z => by cases z))).trans a2
  have a3 : (va_up N4 mm (some (.inr (3, [.ref q0, .ref q1, .ref q2, .ref q3, .ref q4, .null, .null, .null, .null, .int 0, .int 0, .int 0, .int 0, .int 0])))) q3 = _ := (va_up_ne _ _ (mw_neq a3 hm (fun z => by cases z))).trans a3
  have a4 : (va_up N4 mm (some (.inr (3, [.ref q0, .ref q1, .ref q2, .ref q3, .ref q4, .null, .null, .null, .null, .int 0, .int 0, .int 0, .int 0, .int 0])))) q4 = _ := (va_up_ne _ _ (mw_neq a4 hm (fun z => by cases z))).trans a4
  have hm : (va_up N4 mm (some (.inr (3, [.ref q0, .ref q1, .ref q2, .ref q3, .ref q4, .null, .null, .null, .null, .int 0, .int 0, .int 0, .int 0, .int 0])))) mm = some (.inr (3, [.ref q0, .ref q1, .ref q2, .ref q3, .ref q4, .null, .null, .null, .null, .int 0, .int 0, .int 0, .int 0, .int 0])) := va_up_self _ _ _
  generalize va_up N4 mm (some (.inr (3, [.ref q0, .ref q1, .ref q2, .ref q3, .ref q4, .null, .null, .null, .null, .int 0, .int 0, .int 0, .int 0, .int 0]))) = M5 at hW hm a0 a1 a2 a3 a4
  refine lv_aload_n hx hb dX3_init_45 rfl (lv_at hl 0 rfl) ?_
  refine lv_bipush (v := 80) hx hb dX3_init_46 (by decide) ?_
  refine mw_newa (atype := .long) (n := 80) (N' := 80) (ty := .long) (a0 := (80, .inr (.inl (fun _ => 0)))) F hK hW hS hA 1 hl_arrayClass_long rfl rfl (fun C z => by cases z) (fun cA => rfl) (by decide) (by decide) (by decide) (by show _ ≤ 9; omega) (by show _ ≤ 5089; omega) dX3_init_48 (fun q5 H hq5 hW hS => ?_)
  have n05 : q0 ≠ q5 := mw_nnew a0 hq5
  have n15 : q1 ≠ q5 := mw_nnew a1 hq5
  have n25 : q2 ≠ q5 := mw_nnew a2 hq5
  have n35 : q3 ≠ q5 := mw_nnew a3 hq5
  have n45 : q4 ≠ q5 := mw_nnew a4 hq5
  have hm : (va_up M5 q5 (some (.inl (cJ, 80, .inr (.inl (fun _ => 0)))))) mm = _ := (va_up_ne _ _ (mw_nnew hm hq5)).trans hm
  have a0 : (va_up M5 q5 (some (.inl (cJ, 80, .inr (.inl (fun _ => 0)))))) q0 = _ := (va_up_ne _ _ n05).trans a0
  have a1 : (va_up M5 q5 (some (.inl (cJ, 80, .inr (.inl (fun _ => 0)))))) q1 = _ := (va_up_ne _ _ n15).trans a1
  have a2 : (va_up M5 q5 (some (.inl (cJ, 80, .inr (.inl (fun _ => 0)))))) q2 = _ := (va_up_ne _ _ n25).trans a2
  have a3 : (va_up M5 q5 (some (.inl (cJ, 80, .inr (.inl (fun _ => 0)))))) q3 = _ := (va_up_ne _ _ n35).trans a3
  have a4 : (va_up M5 q5 (some (.inl (cJ, 80, .inr (.inl (fun _ => 0)))))) q4 = _ := (va_up_ne _ _ n45).trans a4
  have a5 : (va_up M5 q5 (some (.inl (cJ, 80, .inr (.inl (fun _ => 0)))))) q5 = some (.inl (cJ, 80, .inr (.inl (fun _ => 0)))) := va_up_self _ _ _
  generalize va_up M5 q5 (some (.inl (cJ, 80, .inr (.inl (fun _ => 0))))) = N5 at hW hm a0 a1 a2 a3 a4 a5
  refine mw_putF (C := RX3) (T := TX3) (N := 14) (v := .ref q5) F hK hW hS hI_X3 tyX3 tyX3_ok nmX3 hm rfl 5 (by decide) hl_fieldLink_RX3_26_SpliceBenchModel_was_J rfl hin rfl rfl rfl (Nat.le_of_ble_eq_true rfl) dX3_init_50 (fun H locs hW hS => ?_)
  have hW : mw D (mwA M s.heap.size) (va_up N5 mm (some (.inr (3, [.ref q0, .ref q1, .ref q2, .ref q3, .ref q4, .ref q5, .null, .null, .null, .int 0, .int 0, .int 0, .int 0, .int 0])))) H := hW
  have a0 : (va_up N5 mm (some (.inr (3, [.ref q0, .ref q1, .ref q2, .ref q3, .ref q4, .ref q5, .null, .null, .null, .int 0, .int 0, .int 0, .int 0, .int 0])))) q0 = _ := (va_up_ne _ _ (mw_neq a0 hm (fun z => by cases z))).trans a0
  have a1 : (va_up N5 mm (some (.inr (3, [.ref q0, .ref q1, .ref q2, .ref q3, .ref q4, .ref q5, .null, .null, .null, .int 0, .int 0, .int 0, .int 0, .int 0])))) q1 = _ := (va_up_ne _ _ (mw_neq a1 hm (fun z => by cases z))).trans a1
  have a2 : (va_up N5 mm (some (.inr (3, [.ref q0, .ref q1, .ref q2, .ref q3, .ref q4, .ref q5, .null, .null, .null, .int 0, .int 0, .int 0, .int 0, .int 0])))) q2 = _ := (va_up_ne _ _ (mw_neq a2 hm (fun z => by cases z))).trans a2
  have a3 : (va_up N5 mm (some (.inr (3, [.ref q0, .ref q1, .ref q2, .ref q3, .ref q4, .ref q5, .null, .null, .null, .int 0, .int 0, .int 0, .int 0, .int 0])))) q3 = _ := (va_up_ne _ _ (mw_neq a3 hm (fun z => by cases z))).trans a3
  have a4 : (va_up N5 mm (some (.inr (3, [.ref q0, .ref q1, .ref q2, .ref q3, .ref q4, .ref q5, .null, .null, .null, .int 0, .int 0, .int 0, .int 0, .int 0])))) q4 = _ := (va_up_ne _ _ (mw_neq a4 hm (fun z => by cases z))).trans a4
  have a5 : (va_up N5 mm (some (.inr (3, [.ref q0, .ref q1, .ref q2, .ref q3, .ref q4, .ref q5, .null, .null, .null, .int 0, .int 0, .int 0, .int 0, .int 0])))) q5 = _ := (va_up_ne _ _ (mw_neq a5 hm (fun z => by cases z))).trans a5
  have hm : (va_up N5 mm (some (.inr (3, [.ref q0, .ref q1, .ref q2, .ref q3, .ref q4, .ref q5, .null, .null, .null, .int 0, .int 0, .int 0, .int 0, .int 0])))) mm = some (.inr (3, [.ref q0, .ref q1, .ref q2, .ref q3, .ref q4, .ref q5, .null, .null, .null, .int 0, .int 0, .int 0, .int 0, .int 0])) := va_up_self _ _ _
  generalize va_up N5 mm (some (.inr (3, [.ref q0, .ref q1, .ref q2, .ref q3, .ref q4, .ref q5, .null, .null, .null, .int 0, .int 0, .int 0, .int 0, .int 0]))) = M6 at hW hm a0 a1 a2 a3 a4 a5
  refine lv_aload_n hx hb dX3_init_53 rfl (lv_at hl 0 rfl) ?_
  refine lv_sipush (v := 2000) hx hb dX3_init_54 (by decide) ?_
  refine mw_newa (atype := .long) (n := 2000) (N' := 2000) (ty := .long) (a0 := (2000, .inr (.inl (fun _ => 0)))) F hK hW hS hA 1 hl_arrayClass_long rfl rfl (fun C z => by cases z) (fun cA => rfl) (by decide) (by decide) (by decide) (by show _ ≤ 9; omega) (by show _ ≤ 5089; omega) dX3_init_57 (fun q6 H hq6 hW hS => ?_)
  have n06 : q0 ≠ q6 := mw_nnew a0 hq6
  have n16 : q1 ≠ q6 := mw_nnew a1 hq6
  have n26 : q2 ≠ q6 := mw_nnew a2 hq6
  have n36 : q3 ≠ q6 := mw_nnew a3 hq6
  have n46 : q4 ≠ q6 := mw_nnew a4 hq6
  have n56 : q5 ≠ q6 := mw_nnew a5 hq6
  have hm : (va_up M6 q6 (some (.inl (cJ, 2000, .inr (.inl (fun _ => 0)))))) mm = _ := (va_up_ne _ _ (mw_nnew hm hq6)).trans hm
  have a0 : (va_up M6 q6 (some (.inl (cJ, 2000, .inr (.inl (fun _ => 0)))))) q0 = _ := (va_up_ne _ _ n06).trans a0
  have a1 : (va_up M6 q6 (some (.inl (cJ, 2000, .inr (.inl (fun _ => 0)))))) q1 = _ := (va_up_ne _ _ n16).trans a1
  have a2 : (va_up M6 q6 (some (.inl (cJ, 2000, .inr (.inl (fun _ => 0)))))) q2 = _ := (va_up_ne _ _ n26).trans a2
  have a3 : (va_up M6 q6 (some (.inl (cJ, 2000, .inr (.inl (fun _ => 0)))))) q3 = _ := (va_up_ne _ _ n36).trans a3
  have a4 : (va_up M6 q6 (some (.inl (cJ, 2000, .inr (.inl (fun _ => 0)))))) q4 = _ := (va_up_ne _ _ n46).trans a4
  have a5 : (va_up M6 q6 (some (.inl (cJ, 2000, .inr (.inl (fun _ => 0)))))) q5 = _ := (va_up_ne _ _ n56).trans a5
  have a6 : (va_up M6 q6 (some (.inl (cJ, 2000, .inr (.inl (fun _ => 0)))))) q6 = some (.inl (cJ, 2000, .inr (.inl (fun _ => 0)))) := va_up_self _ _ _
  generalize va_up M6 q6 (some (.inl (cJ, 2000, .inr (.inl (fun _ => 0))))) = N6 at hW hm a0 a1 a2 a3 a4 a5 a6
  refine mw_putF (C := RX3) (T := TX3) (N := 14) (v := .ref q6) F hK hW hS hI_X3 tyX3 tyX3_ok nmX3 hm rfl 6 (by decide) hl_fieldLink_RX3_29_SpliceBenchModel_cardNumber_J rfl hin rfl rfl rfl (Nat.le_of_ble_eq_true rfl) dX3_init_59 (fun H locs hW hS => ?_)
  have hW : mw D (mwA M s.heap.size) (va_up N6 mm (some (.inr (3, [.ref q0, .ref q1, .ref q2, .ref q3, .ref q4, .ref q5, .ref q6, .null, .null, .int 0, .int 0, .int 0, .int 0, .int 0])))) H := hW
  have a0 : (va_up N6 mm (some (.inr (3, [.ref q0, .ref q1, .ref q2, .ref q3, .ref q4, .ref q5, .ref q6, .null, .null, .int 0, .int 0, .int 0, .int 0, .int 0])))) q0 = _ := (va_up_ne _ _ (mw_neq a0 hm (fun z => by cases z))).trans a0
  have a1 : (va_up N6 mm (some (.inr (3, [.ref q0, .ref q1, .ref q2, .ref q3, .ref q4, .ref q5, .ref q6, .null, .null, .int 0, .int 0, .int 0, .int 0, .int 0])))) q1 = _ := (va_up_ne _ _ (mw_neq a1 hm (fun z => by cases z))).trans a1
  have a2 : (va_up N6 mm (some (.inr (3, [.ref q0, .ref q1, .ref q2, .ref q3, .ref q4, .ref q5, .ref q6, .null, .null, .int 0, .int 0, .int 0, .int 0, .int 0])))) q2 = _ := (va_up_ne _ _ (mw_neq a2 hm (fun z => by cases z))).trans a2
  have a3 : (va_up N6 mm (some (.inr (3, [.ref q0, .ref q1, .ref q2, .ref q3, .ref q4, .ref q5, .ref q6, .null, .null, .int 0, .int 0, .int 0, .int 0, .int 0])))) q3 = _ := (va_up_ne _ _ (mw_neq a3 hm (fun z => by cases z))).trans a3
  have a4 : (va_up N6 mm (some (.inr (3, [.ref q0, .ref q1, .ref q2, .ref q3, .ref q4, .ref q5, .ref q6, .null, .null, .int 0, .int 0, .int 0, .int 0, .int 0])))) q4 = _ := (va_up_ne _ _ (mw_neq a4 hm (fun z => by cases z))).trans a4
  have a5 : (va_up N6 mm (some (.inr (3, [.ref q0, .ref q1, .ref q2, .ref q3, .ref q4, .ref q5, .ref q6, .null, .null, .int 0, .int 0, .int 0, .int 0, .int 0])))) q5 = _ := (va_up_ne _ _ (mw_neq a5 hm (fun z => by cases z))).trans a5
  have a6 : (va_up N6 mm (some (.inr (3, [.ref q0, .ref q1, .ref q2, .ref q3, .ref q4, .ref q5, .ref q6, .null, .null, .int 0, .int 0, .int 0, .int 0, .int 0])))) q6 = _ := (va_up_ne _ _ (mw_neq a6 hm (fun z => by cases z))).trans a6
  have hm : (va_up N6 mm (some (.inr (3, [.ref q0, .ref q1, .ref q2, .ref q3, .ref q4, .ref q5, .ref q6, .null, .null, .int 0, .int 0, .int 0, .int 0, .int 0])))) mm = some (.inr (3, [.ref q0, .ref q1, .ref q2, .ref q3, .ref q4, .ref q5, .ref q6, .null, .null, .int 0, .int 0, .int 0, .int 0, .int 0])) := va_up_self _ _ _
  generalize va_up N6 mm (some (.inr (3, [.ref q0, .ref q1, .ref q2, .ref q3, .ref q4, .ref q5, .ref q6, .null, .null, .int 0, .int 0, .int 0, .int 0, .int 0]))) = M7 at hW hm a0 a1 a2 a3 a4 a5 a6
  refine lv_aload_n hx hb dX3_init_62 rfl (lv_at hl 0 rfl) ?_
  refine lv_sipush (v := 2000) hx hb dX3_init_63 (by decide) ?_
  refine mw_newa (atype := .int) (n := 2000) (N' := 2000) (ty := .int) (a0 := (2000, .inl (fun _ => 0))) F hK hW hS hA 0 hl_arrayClass_int rfl rfl (fun C z => by cases z) (fun cA => rfl) (by decide) (by decide) (by decide) (by show _ ≤ 9; omega) (by show _ ≤ 5089; omega) dX3_init_66 (fun q7 H hq7 hW hS => ?_)
  have n07 : q0 ≠ q7 := mw_nnew a0 hq7
  have n17 : q1 ≠ q7 := mw_nnew a1 hq7
  have n27 : q2 ≠ q7 := mw_nnew a2 hq7
  have n37 : q3 ≠ q7 := mw_nnew a3 hq7
  have n47 : q4 ≠ q7 := mw_nnew a4 hq7
  have n57 : q5 ≠ q7 := mw_nnew a5 hq7
  have n67 : q6 ≠ q7 := mw_nnew a6 hq7
  have hm : (va_up M7 q7 (some (.inl (cI, 2000, .inl (fun _ => 0))))) mm = _ := (va_up_ne _ _ (mw_nnew hm hq7)).trans hm
  have a0 : (va_up M7 q7 (some (.inl (cI, 2000, .inl (fun _ => 0))))) q0 = _ := (va_up_ne _ _ n07).trans a0
  have a1 : (va_up M7 q7 (some (.inl (cI, 2000, .inl (fun _ => 0))))) q1 = _ := (va_up_ne _ _ n17).trans a1
  have a2 : (va_up M7 q7 (some (.inl (cI, 2000, .inl (fun _ => 0))))) q2 = _ := (va_up_ne _ _ n27).trans a2
  have a3 : (va_up M7 q7 (some (.inl (cI, 2000, .inl (fun _ => 0))))) q3 = _ := (va_up_ne _ _ n37).trans a3
  have a4 : (va_up M7 q7 (some (.inl (cI, 2000, .inl (fun _ => 0))))) q4 = _ := (va_up_ne _ _ n47).trans a4
  have a5 : (va_up M7 q7 (some (.inl (cI, 2000, .inl (fun _ => 0))))) q5 = _ := (va_up_ne _ _ n57).trans a5
  have a6 : (va_up M7 q7 (some (.inl (cI, 2000, .inl (fun _ => 0))))) q6 = _ := (va_up_ne _ _ n67).trans a6
  have a7 : (va_up M7 q7 (some (.inl (cI, 2000, .inl (fun _ => 0))))) q7 = some (.inl (cI, 2000, .inl (fun _ => 0))) := va_up_self _ _ _
  generalize va_up M7 q7 (some (.inl (cI, 2000, .inl (fun _ => 0)))) = N7 at hW hm a0 a1 a2 a3 a4 a5 a6 a7
  refine mw_putF (C := RX3) (T := TX3) (N := 14) (v := .ref q7) F hK hW hS hI_X3 tyX3 tyX3_ok nmX3 hm rfl 7 (by decide) hl_fieldLink_RX3_32_SpliceBenchModel_cardShown_I rfl hin rfl rfl rfl (Nat.le_of_ble_eq_true rfl) dX3_init_68 (fun H locs hW hS => ?_)
  have hW : mw D (mwA M s.heap.size) (va_up N7 mm (some (.inr (3, [.ref q0, .ref q1, .ref q2, .ref q3, .ref q4, .ref q5, .ref q6, .ref q7, .null, .int 0, .int 0, .int 0, .int 0, .int 0])))) H := hW
  have a0 : (va_up N7 mm (some (.inr (3, [.ref q0, .ref q1, .ref q2, .ref q3, .ref q4, .ref q5, .ref q6, .ref q7, .null, .int 0, .int 0, .int 0, .int 0, .int 0])))) q0 = _ := (va_up_ne _ _ (mw_neq a0 hm (fun z => by cases z))).trans a0
  have a1 : (va_up N7 mm (some (.inr (3, [.ref q0, .ref q1, .ref q2, .ref q3, .ref q4, .ref q5, .ref q6, .ref q7, .null, .int 0, .int 0, .int 0, .int 0, .int 0])))) q1 = _ := (va_up_ne _ _ (mw_neq a1 hm (fun z => by cases z))).trans a1
  have a2 : (va_up N7 mm (some (.inr (3, [.ref q0, .ref q1, .ref q2, .ref q3, .ref q4, .ref q5, .ref q6, .ref q7, .null, .int 0, .int 0, .int 0, .int 0, .int 0])))) q2 = _ := (va_up_ne _ _ (mw_neq a2 hm (fun z => by cases z))).trans a2
  have a3 : (va_up N7 mm (some (.inr (3, [.ref q0, .ref q1, .ref q2, .ref q3, .ref q4, .ref q5, .ref q6, .ref q7, .null, .int 0, .int 0, .int 0, .int 0, .int 0])))) q3 = _ := (va_up_ne _ _ (mw_neq a3 hm (fun z => by cases z))).trans a3
  have a4 : (va_up N7 mm (some (.inr (3, [.ref q0, .ref q1, .ref q2, .ref q3, .ref q4, .ref q5, .ref q6, .ref q7, .null, .int 0, .int 0, .int 0, .int 0, .int 0])))) q4 = _ := (va_up_ne _ _ (mw_neq a4 hm (fun z => by cases z))).trans a4
  have a5 : (va_up N7 mm (some (.inr (3, [.ref q0, .ref q1, .ref q2, .ref q3, .ref q4, .ref q5, .ref q6, .ref q7, .null, .int 0, .int 0, .int 0, .int 0, .int 0])))) q5 = _ := (va_up_ne _ _ (mw_neq a5 hm (fun z => by cases z))).trans a5
  have a6 : (va_up N7 mm (some (.inr (3, [.ref q0, .ref q1, .ref q2, .ref q3, .ref q4, .ref q5, .ref q6, .ref q7, .null, .int 0, .int 0, .int 0, .int 0, .int 0])))) q6 = _ := (va_up_ne _ _ (mw_neq a6 hm (fun z => by cases z))).trans a6
  have a7 : (va_up N7 mm (some (.inr (3, [.ref q0, .ref q1, .ref q2, .ref q3, .ref q4, .ref q5, .ref q6, .ref q7, .null, .int 0, .int 0, .int 0, .int 0, .int 0])))) q7 = _ := (va_up_ne _ _ (mw_neq a7 hm (fun z => by cases z))).trans a7
  have hm : (va_up N7 mm (some (.inr (3, [.ref q0, .ref q1, .ref q2, .ref q3, .ref q4, .ref q5, .ref q6, .ref q7, .null, .int 0, .int 0, .int 0, .int 0, .int 0])))) mm = some (.inr (3, [.ref q0, .ref q1, .ref q2, .ref q3, .ref q4, .ref q5, .ref q6, .ref q7, .null, .int 0, .int 0, .int 0, .int 0, .int 0])) := va_up_self _ _ _
  generalize va_up N7 mm (some (.inr (3, [.ref q0, .ref q1, .ref q2, .ref q3, .ref q4, .ref q5, .ref q6, .ref q7, .null, .int 0, .int 0, .int 0, .int 0, .int 0]))) = M8 at hW hm a0 a1 a2 a3 a4 a5 a6 a7
  refine lv_aload_n hx hb dX3_init_71 rfl (lv_at hl 0 rfl) ?_
  refine lv_iconst (v := 5) hx hb dX3_init_72 (by decide) ?_
  refine mw_newa (atype := .int) (n := 5) (N' := 5) (ty := .int) (a0 := (5, .inl (fun _ => 0))) F hK hW hS hA 0 hl_arrayClass_int rfl rfl (fun C z => by cases z) (fun cA => rfl) (by decide) (by decide) (by decide) (by show _ ≤ 9; omega) (by show _ ≤ 5089; omega) dX3_init_73 (fun q8 H hq8 hW hS => ?_)
  have n08 : q0 ≠ q8 := mw_nnew a0 hq8
  have n18 : q1 ≠ q8 := mw_nnew a1 hq8
  have n28 : q2 ≠ q8 := mw_nnew a2 hq8
  have n38 : q3 ≠ q8 := mw_nnew a3 hq8
  have n48 : q4 ≠ q8 := mw_nnew a4 hq8
  have n58 : q5 ≠ q8 := mw_nnew a5 hq8
  have n68 : q6 ≠ q8 := mw_nnew a6 hq8
  have n78 : q7 ≠ q8 := mw_nnew a7 hq8
  have hm : (va_up M8 q8 (some (.inl (cI, 5, .inl (fun _ => 0))))) mm = _ := (va_up_ne _ _ (mw_nnew hm hq8)).trans hm
  have a0 : (va_up M8 q8 (some (.inl (cI, 5, .inl (fun _ => 0))))) q0 = _ := (va_up_ne _ _ n08).trans a0
  have a1 : (va_up M8 q8 (some (.inl (cI, 5, .inl (fun _ => 0))))) q1 = _ := (va_up_ne _ _ n18).trans a1
  have a2 : (va_up M8 q8 (some (.inl (cI, 5, .inl (fun _ => 0))))) q2 = _ := (va_up_ne _ _ n28).trans a2
  have a3 : (va_up M8 q8 (some (.inl (cI, 5, .inl (fun _ => 0))))) q3 = _ := (va_up_ne _ _ n38).trans a3
  have a4 : (va_up M8 q8 (some (.inl (cI, 5, .inl (fun _ => 0))))) q4 = _ := (va_up_ne _ _ n48).trans a4
  have a5 : (va_up M8 q8 (some (.inl (cI, 5, .inl (fun _ => 0))))) q5 = _ := (va_up_ne _ _ n58).trans a5
  have a6 : (va_up M8 q8 (some (.inl (cI, 5, .inl (fun _ => 0))))) q6 = _ := (va_up_ne _ _ n68).trans a6
  have a7 : (va_up M8 q8 (some (.inl (cI, 5, .inl (fun _ => 0))))) q7 = _ := (va_up_ne _ _ n78).trans a7
  have a8 : (va_up M8 q8 (some (.inl (cI, 5, .inl (fun _ => 0))))) q8 = some (.inl (cI, 5, .inl (fun _ => 0))) := va_up_self _ _ _
  generalize va_up M8 q8 (some (.inl (cI, 5, .inl (fun _ => 0)))) = N8 at hW hm a0 a1 a2 a3 a4 a5 a6 a7 a8
  refine mw_putF (C := RX3) (T := TX3) (N := 14) (v := .ref q8) F hK hW hS hI_X3 tyX3 tyX3_ok nmX3 hm rfl 8 (by decide) hl_fieldLink_RX3_35_SpliceBenchModel_failed_I rfl hin rfl rfl rfl (Nat.le_of_ble_eq_true rfl) dX3_init_75 (fun H locs hW hS => ?_)
  have hW : mw D (mwA M s.heap.size) (va_up N8 mm (some (.inr (3, [.ref q0, .ref q1, .ref q2, .ref q3, .ref q4, .ref q5, .ref q6, .ref q7, .ref q8, .int 0, .int 0, .int 0, .int 0, .int 0])))) H := hW
  have a0 : (va_up N8 mm (some (.inr (3, [.ref q0, .ref q1, .ref q2, .ref q3, .ref q4, .ref q5, .ref q6, .ref q7, .ref q8, .int 0, .int 0, .int 0, .int 0, .int 0])))) q0 = _ := (va_up_ne _ _ (mw_neq a0 hm (fun z => by cases z))).trans a0
  have a1 : (va_up N8 mm (some (.inr (3, [.ref q0, .ref q1, .ref q2, .ref q3, .ref q4, .ref q5, .ref q6, .ref q7, .ref q8, .int 0, .int 0, .int 0, .int 0, .int 0])))) q1 = _ := (va_up_ne _ _ (mw_neq a1 hm (fun z => by cases z))).trans a1
  have a2 : (va_up N8 mm (some (.inr (3, [.ref q0, .ref q1, .ref q2, .ref q3, .ref q4, .ref q5, .ref q6, .ref q7, .ref q8, .int 0, .int 0, .int 0, .int 0, .int 0])))) q2 = _ := (va_up_ne _ _ (mw_neq a2 hm (fun z => by cases z))).trans a2
  have a3 : (va_up N8 mm (some (.inr (3, [.ref q0, .ref q1, .ref q2, .ref q3, .ref q4, .ref q5, .ref q6, .ref q7, .ref q8, .int 0, .int 0, .int 0, .int 0, .int 0])))) q3 = _ := (va_up_ne _ _ (mw_neq a3 hm (fun z => by cases z))).trans a3
  have a4 : (va_up N8 mm (some (.inr (3, [.ref q0, .ref q1, .ref q2, .ref q3, .ref q4, .ref q5, .ref q6, .ref q7, .ref q8, .int 0, .int 0, .int 0, .int 0, .int 0])))) q4 = _ := (va_up_ne _ _ (mw_neq a4 hm (fun z => by cases z))).trans a4
  have a5 : (va_up N8 mm (some (.inr (3, [.ref q0, .ref q1, .ref q2, .ref q3, .ref q4, .ref q5, .ref q6, .ref q7, .ref q8, .int 0, .int 0, .int 0, .int 0, .int 0])))) q5 = _ := (va_up_ne _ _ (mw_neq a5 hm (fun z => by cases z))).trans a5
  have a6 : (va_up N8 mm (some (.inr (3, [.ref q0, .ref q1, .ref q2, .ref q3, .ref q4, .ref q5, .ref q6, .ref q7, .ref q8, .int 0, .int 0, .int 0, .int 0, .int 0])))) q6 = _ := (va_up_ne _ _ (mw_neq a6 hm (fun z => by cases z))).trans a6
  have a7 : (va_up N8 mm (some (.inr (3, [.ref q0, .ref q1, .ref q2, .ref q3, .ref q4, .ref q5, .ref q6, .ref q7, .ref q8, .int 0, .int 0, .int 0, .int 0, .int 0])))) q7 = _ := (va_up_ne _ _ (mw_neq a7 hm (fun z => by cases z))).trans a7
  have a8 : (va_up N8 mm (some (.inr (3, [.ref q0, .ref q1, .ref q2, .ref q3, .ref q4, .ref q5, .ref q6, .ref q7, .ref q8, .int 0, .int 0, .int 0, .int 0, .int 0])))) q8 = _ := (va_up_ne _ _ (mw_neq a8 hm (fun z => by cases z))).trans a8
  have hm : (va_up N8 mm (some (.inr (3, [.ref q0, .ref q1, .ref q2, .ref q3, .ref q4, .ref q5, .ref q6, .ref q7, .ref q8, .int 0, .int 0, .int 0, .int 0, .int 0])))) mm = some (.inr (3, [.ref q0, .ref q1, .ref q2, .ref q3, .ref q4, .ref q5, .ref q6, .ref q7, .ref q8, .int 0, .int 0, .int 0, .int 0, .int 0])) := va_up_self _ _ _
  generalize va_up N8 mm (some (.inr (3, [.ref q0, .ref q1, .ref q2, .ref q3, .ref q4, .ref q5, .ref q6, .ref q7, .ref q8, .int 0, .int 0, .int 0, .int 0, .int 0]))) = M9 at hW hm a0 a1 a2 a3 a4 a5 a6 a7 a8
  refine lv_aload_n hx hb dX3_init_78 rfl (lv_at hl 0 rfl) ?_
  refine lv_iconst (v := (-1)) hx hb dX3_init_79 (by decide) ?_
  refine mw_put (C := RX3) (T := TX3) (N := 14) (v := .int (-1)) F hK hW hS hI_X3 tyX3 tyX3_ok nmX3 hm rfl 9 (by decide) hl_fieldLink_RX3_38_SpliceBenchModel_covered_I rfl rfl rfl (Nat.le_of_ble_eq_true rfl) dX3_init_80 (fun H locs hW hS => ?_)
  have hW : mw D (mwA M s.heap.size) (va_up M9 mm (some (.inr (3, [.ref q0, .ref q1, .ref q2, .ref q3, .ref q4, .ref q5, .ref q6, .ref q7, .ref q8, .int (-1), .int 0, .int 0, .int 0, .int 0])))) H := hW
  have a0 : (va_up M9 mm (some (.inr (3, [.ref q0, .ref q1, .ref q2, .ref q3, .ref q4, .ref q5, .ref q6, .ref q7, .ref q8, .int (-1), .int 0, .int 0, .int 0, .int 0])))) q0 = _ := (va_up_ne _ _ (mw_neq a0 hm (fun z => by cases z))).trans a0
  have a1 : (va_up M9 mm (some (.inr (3, [.ref q0, .ref q1, .ref q2, .ref q3, .ref q4, .ref q5, .ref q6, .ref q7, .ref q8, .int (-1), .int 0, .int 0, .int 0, .int 0])))) q1 = _ := (va_up_ne _ _ (mw_neq a1 hm (fun z => by cases z))).trans a1
  have a2 : (va_up M9 mm (some (.inr (3, [.ref q0, .ref q1, .ref q2, .ref q3, .ref q4, .ref q5, .ref q6, .ref q7, .ref q8, .int (-1), .int 0, .int 0, .int 0, .int 0])))) q2 = _ := (va_up_ne _ _ (mw_neq a2 hm (fun z => by cases z))).trans a2
  have a3 : (va_up M9 mm (some (.inr (3, [.ref q0, .ref q1, .ref q2, .ref q3, .ref q4, .ref q5, .ref q6, .ref q7, .ref q8, .int (-1), .int 0, .int 0, .int 0, .int 0])))) q3 = _ := (va_up_ne _ _ (mw_neq a3 hm (fun z => by cases z))).trans a3
  have a4 : (va_up M9 mm (some (.inr (3, [.ref q0, .ref q1, .ref q2, .ref q3, .ref q4, .ref q5, .ref q6, .ref q7, .ref q8, .int (-1), .int 0, .int 0, .int 0, .int 0])))) q4 = _ := (va_up_ne _ _ (mw_neq a4 hm (fun z => by cases z))).trans a4
  have a5 : (va_up M9 mm (some (.inr (3, [.ref q0, .ref q1, .ref q2, .ref q3, .ref q4, .ref q5, .ref q6, .ref q7, .ref q8, .int (-1), .int 0, .int 0, .int 0, .int 0])))) q5 = _ := (va_up_ne _ _ (mw_neq a5 hm (fun z => by cases z))).trans a5
  have a6 : (va_up M9 mm (some (.inr (3, [.ref q0, .ref q1, .ref q2, .ref q3, .ref q4, .ref q5, .ref q6, .ref q7, .ref q8, .int (-1), .int 0, .int 0, .int 0, .int 0])))) q6 = _ := (va_up_ne _ _ (mw_neq a6 hm (fun z => by cases z))).trans a6
  have a7 : (va_up M9 mm (some (.inr (3, [.ref q0, .ref q1, .ref q2, .ref q3, .ref q4, .ref q5, .ref q6, .ref q7, .ref q8, .int (-1), .int 0, .int 0, .int 0, .int 0])))) q7 = _ := (va_up_ne _ _ (mw_neq a7 hm (fun z => by cases z))).trans a7
  have a8 : (va_up M9 mm (some (.inr (3, [.ref q0, .ref q1, .ref q2, .ref q3, .ref q4, .ref q5, .ref q6, .ref q7, .ref q8, .int (-1), .int 0, .int 0, .int 0, .int 0])))) q8 = _ := (va_up_ne _ _ (mw_neq a8 hm (fun z => by cases z))).trans a8
  have hm : (va_up M9 mm (some (.inr (3, [.ref q0, .ref q1, .ref q2, .ref q3, .ref q4, .ref q5, .ref q6, .ref q7, .ref q8, .int (-1), .int 0, .int 0, .int 0, .int 0])))) mm = some (.inr (3, [.ref q0, .ref q1, .ref q2, .ref q3, .ref q4, .ref q5, .ref q6, .ref q7, .ref q8, .int (-1), .int 0, .int 0, .int 0, .int 0])) := va_up_self _ _ _
  generalize va_up M9 mm (some (.inr (3, [.ref q0, .ref q1, .ref q2, .ref q3, .ref q4, .ref q5, .ref q6, .ref q7, .ref q8, .int (-1), .int 0, .int 0, .int 0, .int 0]))) = M10 at hW hm a0 a1 a2 a3 a4 a5 a6 a7 a8
  refine W.widen (k := 9) (n := 5089) (by omega) (by omega) ?_
  exact W.vret hx hb hr (fun t ht hw => ⟨⟨M10, rfl, ⟨ad9 q0 q1 q2 q3 q4 q5 q6 q7 q8, hm, a0, a1, a2, a3, a4, a5, a6, a7, a8, ad9_inj n01 n02 n12 n03 n13 n23 n04 n14 n24 n34 n05 n15 n25 n35 n45 n06 n16 n26 n36 n46 n56 n07 n17 n27 n37 n47 n57 n67 n08 n18 n28 n38 n48 n58 n68 n78⟩, by rw [ht]; exact hW, va_K.moved hw.alike hK⟩, hS.F ht⟩) hS.2.2 dX3_init_83
end X3I
end
section
abbrev TH : Type := Nat × Nat × Nat × Nat × Nat × Nat × (Nat → Nat) × (Nat → Nat) × (Nat → Nat) × (Nat → Nat) × (Nat → Nat) × (Nat → Nat) × (Nat → Int32) × Option Nat × (Nat → Int64) × (Nat → Option Nat)
def tA1 (θ : TH) : Nat := θ.1
def tA2 (θ : TH) : Nat := θ.2.1
def tSt (θ : TH) : Nat := θ.2.2.1
def tRk (θ : TH) : Nat := θ.2.2.2.1
def tSn (θ : TH) : Nat := θ.2.2.2.2.1
def tRq (θ : TH) : Nat := θ.2.2.2.2.2.1
def tSp (θ : TH) : Nat → Nat := θ.2.2.2.2.2.2.1
def tLa (θ : TH) : Nat → Nat := θ.2.2.2.2.2.2.2.1
def tRa (θ : TH) : Nat → Nat := θ.2.2.2.2.2.2.2.2.1
def tRn (θ : TH) : Nat → Nat := θ.2.2.2.2.2.2.2.2.2.1
def tRc (θ : TH) : Nat → Nat := θ.2.2.2.2.2.2.2.2.2.2.1
def tCa (θ : TH) : Nat → Nat := θ.2.2.2.2.2.2.2.2.2.2.2.1
def tEn (θ : TH) : Nat → Int32 := θ.2.2.2.2.2.2.2.2.2.2.2.2.1
def tCv (θ : TH) : Option Nat := θ.2.2.2.2.2.2.2.2.2.2.2.2.2.1
def tFs (θ : TH) : Nat → Int64 := θ.2.2.2.2.2.2.2.2.2.2.2.2.2.2.1
def tGs (θ : TH) : Nat → Option Nat := θ.2.2.2.2.2.2.2.2.2.2.2.2.2.2.2
def uA1 (θ : TH) (v : Nat) : TH := (v, θ.2.1, θ.2.2.1, θ.2.2.2.1, θ.2.2.2.2.1, θ.2.2.2.2.2.1, θ.2.2.2.2.2.2.1, θ.2.2.2.2.2.2.2.1, θ.2.2.2.2.2.2.2.2.1, θ.2.2.2.2.2.2.2.2.2.1, θ.2.2.2.2.2.2.2.2.2.2.1, θ.2.2.2.2.2.2.2.2.2.2.2.1, θ.2.2.2.2.2.2.2.2.2.2.2.2.1, θ.2.2.2.2.2.2.2.2.2.2.2.2.2.1, θ.2.2.2.2.2.2.2.2.2.2.2.2.2.2.1, θ.2.2.2.2.2.2.2.2.2.2.2.2.2.2.2)
def uA2 (θ : TH) (v : Nat) : TH := (θ.1, v, θ.2.2.1, θ.2.2.2.1, θ.2.2.2.2.1, θ.2.2.2.2.2.1, θ.2.2.2.2.2.2.1, θ.2.2.2.2.2.2.2.1, θ.2.2.2.2.2.2.2.2.1, θ.2.2.2.2.2.2.2.2.2.1, θ.2.2.2.2.2.2.2.2.2.2.1, θ.2.2.2.2.2.2.2.2.2.2.2.1, θ.2.2.2.2.2.2.2.2.2.2.2.2.1, θ.2.2.2.2.2.2.2.2.2.2.2.2.2.1, θ.2.2.2.2.2.2.2.2.2.2.2.2.2.2.1, θ.2.2.2.2.2.2.2.2.2.2.2.2.2.2.2)
def uSt (θ : TH) (v : Nat) : TH := (θ.1, θ.2.1, v, θ.2.2.2.1, θ.2.2.2.2.1, θ.2.2.2.2.2.1, θ.2.2.2.2.2.2.1, θ.2.2.2.2.2.2.2.1, θ.2.2.2.2.2.2.2.2.1, θ.2.2.2.2.2.2.2.2.2.1, θ.2.2.2.2.2.2.2.2.2.2.1, θ.2.2.2.2.2.2.2.2.2.2.2.1, θ.2.2.2.2.2.2.2.2.2.2.2.2.1, θ.2.2.2.2.2.2.2.2.2.2.2.2.2.1, θ.2.2.2.2.2.2.2.2.2.2.2.2.2.2.1, θ.2.2.2.2.2.2.2.2.2.2.2.2.2.2.2)
def uRk (θ : TH) (v : Nat) : TH := (θ.1, θ.2.1, θ.2.2.1, v, θ.2.2.2.2.1, θ.2.2.2.2.2.1, θ.2.2.2.2.2.2.1, θ.2.2.2.2.2.2.2.1, θ.2.2.2.2.2.2.2.2.1, θ.2.2.2.2.2.2.2.2.2.1, θ.2.2.2.2.2.2.2.2.2.2.1, θ.2.2.2.2.2.2.2.2.2.2.2.1, θ.2.2.2.2.2.2.2.2.2.2.2.2.1, θ.2.2.2.2.2.2.2.2.2.2.2.2.2.1, θ.2.2.2.2.2.2.2.2.2.2.2.2.2.2.1, θ.2.2.2.2.2.2.2.2.2.2.2.2.2.2.2)
def uSn (θ : TH) (v : Nat) : TH := (θ.1, θ.2.1, θ.2.2.1, θ.2.2.2.1, v, θ.2.2.2.2.2.1, θ.2.2.2.2.2.2.1, θ.2.2.2.2.2.2.2.1, θ.2.2.2.2.2.2.2.2.1, θ.2.2.2.2.2.2.2.2.2.1, θ.2.2.2.2.2.2.2.2.2.2.1, θ.2.2.2.2.2.2.2.2.2.2.2.1, θ.2.2.2.2.2.2.2.2.2.2.2.2.1, θ.2.2.2.2.2.2.2.2.2.2.2.2.2.1, θ.2.2.2.2.2.2.2.2.2.2.2.2.2.2.1, θ.2.2.2.2.2.2.2.2.2.2.2.2.2.2.2)
def uRq (θ : TH) (v : Nat) : TH := (θ.1, θ.2.1, θ.2.2.1, θ.2.2.2.1, θ.2.2.2.2.1, v, θ.2.2.2.2.2.2.1, θ.2.2.2.2.2.2.2.1, θ.2.2.2.2.2.2.2.2.1, θ.2.2.2.2.2.2.2.2.2.1, θ.2.2.2.2.2.2.2.2.2.2.1, θ.2.2.2.2.2.2.2.2.2.2.2.1, θ.2.2.2.2.2.2.2.2.2.2.2.2.1, θ.2.2.2.2.2.2.2.2.2.2.2.2.2.1, θ.2.2.2.2.2.2.2.2.2.2.2.2.2.2.1, θ.2.2.2.2.2.2.2.2.2.2.2.2.2.2.2)
def uSp (θ : TH) (v : Nat → Nat) : TH := (θ.1, θ.2.1, θ.2.2.1, θ.2.2.2.1, θ.2.2.2.2.1, θ.2.2.2.2.2.1, v, θ.2.2.2.2.2.2.2.1, θ.2.2.2.2.2.2.2.2.1, θ.2.2.2.2.2.2.2.2.2.1, θ.2.2.2.2.2.2.2.2.2.2.1, θ.2.2.2.2.2.2.2.2.2.2.2.1, θ.2.2.2.2.2.2.2.2.2.2.2.2.1, θ.2.2.2.2.2.2.2.2.2.2.2.2.2.1, θ.2.2.2.2.2.2.2.2.2.2.2.2.2.2.1, θ.2.2.2.2.2.2.2.2.2.2.2.2.2.2.2)
def uLa (θ : TH) (v : Nat → Nat) : TH := (θ.1, θ.2.1, θ.2.2.1, θ.2.2.2.1, θ.2.2.2.2.1, θ.2.2.2.2.2.1, θ.2.2.2.2.2.2.1, v, θ.2.2.2.2.2.2.2.2.1, θ.2.2.2.2.2.2.2.2.2.1, θ.2.2.2.2.2.2.2.2.2.2.1, θ.2.2.2.2.2.2.2.2.2.2.2.1, θ.2.2.2.2.2.2.2.2.2.2.2.2.1, θ.2.2.2.2.2.2.2.2.2.2.2.2.2.1, θ.2.2.2.2.2.2.2.2.2.2.2.2.2.2.1, θ.2.2.2.2.2.2.2.2.2.2.2.2.2.2.2)
def uRa (θ : TH) (v : Nat → Nat) : TH := (θ.1, θ.2.1, θ.2.2.1, θ.2.2.2.1, θ.2.2.2.2.1, θ.2.2.2.2.2.1, θ.2.2.2.2.2.2.1, θ.2.2.2.2.2.2.2.1, v, θ.2.2.2.2.2.2.2.2.2.1, θ.2.2.2.2.2.2.2.2.2.2.1, θ.2.2.2.2.2.2.2.2.2.2.2.1, θ.2.2.2.2.2.2.2.2.2.2.2.2.1, θ.2.2.2.2.2.2.2.2.2.2.2.2.2.1, θ.2.2.2.2.2.2.2.2.2.2.2.2.2.2.1, θ.2.2.2.2.2.2.2.2.2.2.2.2.2.2.2)
def uRn (θ : TH) (v : Nat → Nat) : TH := (θ.1, θ.2.1, θ.2.2.1, θ.2.2.2.1, θ.2.2.2.2.1, θ.2.2.2.2.2.1, θ.2.2.2.2.2.2.1, θ.2.2.2.2.2.2.2.1, θ.2.2.2.2.2.2.2.2.1, v, θ.2.2.2.2.2.2.2.2.2.2.1, θ.2.2.2.2.2.2.2.2.2.2.2.1, θ.2.2.2.2.2.2.2.2.2.2.2.2.1, θ.2.2.2.2.2.2.2.2.2.2.2.2.2.1, θ.2.2.2.2.2.2.2.2.2.2.2.2.2.2.1, θ.2.2.2.2.2.2.2.2.2.2.2.2.2.2.2)
def uRc (θ : TH) (v : Nat → Nat) : TH := (θ.1, θ.2.1, θ.2.2.1, θ.2.2.2.1, θ.2.2.2.2.1, θ.2.2.2.2.2.1, θ.2.2.2.2.2.2.1, θ.2.2.2.2.2.2.2.1, θ.2.2.2.2.2.2.2.2.1, θ.2.2.2.2.2.2.2.2.2.1, v, θ.2.2.2.2.2.2.2.2.2.2.2.1, θ.2.2.2.2.2.2.2.2.2.2.2.2.1, θ.2.2.2.2.2.2.2.2.2.2.2.2.2.1, θ.2.2.2.2.2.2.2.2.2.2.2.2.2.2.1, θ.2.2.2.2.2.2.2.2.2.2.2.2.2.2.2)
def uCa (θ : TH) (v : Nat → Nat) : TH := (θ.1, θ.2.1, θ.2.2.1, θ.2.2.2.1, θ.2.2.2.2.1, θ.2.2.2.2.2.1, θ.2.2.2.2.2.2.1, θ.2.2.2.2.2.2.2.1, θ.2.2.2.2.2.2.2.2.1, θ.2.2.2.2.2.2.2.2.2.1, θ.2.2.2.2.2.2.2.2.2.2.1, v, θ.2.2.2.2.2.2.2.2.2.2.2.2.1, θ.2.2.2.2.2.2.2.2.2.2.2.2.2.1, θ.2.2.2.2.2.2.2.2.2.2.2.2.2.2.1, θ.2.2.2.2.2.2.2.2.2.2.2.2.2.2.2)
def uEn (θ : TH) (v : Nat → Int32) : TH := (θ.1, θ.2.1, θ.2.2.1, θ.2.2.2.1, θ.2.2.2.2.1, θ.2.2.2.2.2.1, θ.2.2.2.2.2.2.1, θ.2.2.2.2.2.2.2.1, θ.2.2.2.2.2.2.2.2.1, θ.2.2.2.2.2.2.2.2.2.1, θ.2.2.2.2.2.2.2.2.2.2.1, θ.2.2.2.2.2.2.2.2.2.2.2.1, v, θ.2.2.2.2.2.2.2.2.2.2.2.2.2.1, θ.2.2.2.2.2.2.2.2.2.2.2.2.2.2.1, θ.2.2.2.2.2.2.2.2.2.2.2.2.2.2.2)
def uCv (θ : TH) (v : Option Nat) : TH := (θ.1, θ.2.1, θ.2.2.1, θ.2.2.2.1, θ.2.2.2.2.1, θ.2.2.2.2.2.1, θ.2.2.2.2.2.2.1, θ.2.2.2.2.2.2.2.1, θ.2.2.2.2.2.2.2.2.1, θ.2.2.2.2.2.2.2.2.2.1, θ.2.2.2.2.2.2.2.2.2.2.1, θ.2.2.2.2.2.2.2.2.2.2.2.1, θ.2.2.2.2.2.2.2.2.2.2.2.2.1, v, θ.2.2.2.2.2.2.2.2.2.2.2.2.2.2.1, θ.2.2.2.2.2.2.2.2.2.2.2.2.2.2.2)
def uFs (θ : TH) (v : Nat → Int64) : TH := (θ.1, θ.2.1, θ.2.2.1, θ.2.2.2.1, θ.2.2.2.2.1, θ.2.2.2.2.2.1, θ.2.2.2.2.2.2.1, θ.2.2.2.2.2.2.2.1, θ.2.2.2.2.2.2.2.2.1, θ.2.2.2.2.2.2.2.2.2.1, θ.2.2.2.2.2.2.2.2.2.2.1, θ.2.2.2.2.2.2.2.2.2.2.2.1, θ.2.2.2.2.2.2.2.2.2.2.2.2.1, θ.2.2.2.2.2.2.2.2.2.2.2.2.2.1, v, θ.2.2.2.2.2.2.2.2.2.2.2.2.2.2.2)
def uGs (θ : TH) (v : Nat → Option Nat) : TH := (θ.1, θ.2.1, θ.2.2.1, θ.2.2.2.1, θ.2.2.2.2.1, θ.2.2.2.2.2.1, θ.2.2.2.2.2.2.1, θ.2.2.2.2.2.2.2.1, θ.2.2.2.2.2.2.2.2.1, θ.2.2.2.2.2.2.2.2.2.1, θ.2.2.2.2.2.2.2.2.2.2.1, θ.2.2.2.2.2.2.2.2.2.2.2.1, θ.2.2.2.2.2.2.2.2.2.2.2.2.1, θ.2.2.2.2.2.2.2.2.2.2.2.2.2.1, θ.2.2.2.2.2.2.2.2.2.2.2.2.2.2.1, v)

def cdR (ca : Nat → Nat) (v : Int64) : Option Nat := if v = 0 then none else some (ca (cIx v))
def liveL (σ : RS) (k : Nat) : Prop := ∃ j, j < 10 ∧ sHo σ j = -1 - nI k
def hEx (M : Nat → Option va_E) (cJ cC : ClassId) (h : Nat) (k : Int32) (pn : Nat) (lb : Int32) : Prop := ∃ na ca f g, hOk M cJ cC h k pn na ca lb f g
def spOk (M : Nat → Option va_E) (cJ cC : ClassId) (σ : RS) (la ra : Nat → Nat) (j h : Nat) : Prop :=
  (sHo σ j = 0 ∧ ∃ lb, hEx M cJ cC h 0 0 lb) ∨ (∃ k, k < 10 ∧ sHo σ j = -1 - nI k ∧ h = la k) ∨ ∃ k, k < 12 ∧ sHo σ j = nI (k + 1) ∧ h = ra k
def rowOk (M : Nat → Option va_E) (cJ cC : ClassId) (σ : RS) (ca : Nat → Nat) (k h rn rc : Nat) : Prop :=
  ∃ n f g, n ≤ 80 ∧ sSi σ k = nI n ∧ hOk M cJ cC h (sKi σ k) n rn rc 0 f g ∧ (kStrip (sKi σ k) = true → ∀ i, i < n → f i = sPl σ (80 * k + i)) ∧ (kRack (sKi σ k) = true → ∀ i, i < n → g i = cdR ca (sPl σ (80 * k + i)))
def cardsOk (M : Nat → Option va_E) (σ : RS) (ca : Nat → Nat) : Prop :=
  ∃ b, sCar σ = nI b ∧ b ≤ 512 ∧ (∀ c, c < b → M (ca c) = some (.inr (0, [.long (sCn σ c), .int (bI (evn (sCn σ c))), .int (sCs σ c)]))) ∧ ∀ c c', c < b → c' < b → ca c = ca c' → c = c'
def covOk (σ : RS) (ra ca : Nat → Nat) (cv : Option Nat) (fs : Nat → Int64) (gs : Nat → Option Nat) : Prop :=
  (sCov σ = -1 ∧ cv = none) ∨ ∃ k n, k < 12 ∧ sCov σ = nI k ∧ cv = some (ra k) ∧ sSi σ k = nI n ∧ n ≤ 80 ∧ (kStrip (sKi σ k) = true → ∀ i, i < n → fs i = sWa σ i) ∧ (kRack (sKi σ k) = true → ∀ i, i < n → gs i = cdR ca (sWa σ i))
def apartR (σ : RS) (θ : TH) : Prop := (∀ k k', k < 12 → k' < 12 → liveR σ k → liveR σ k' → (tRa θ k = tRa θ k' ∨ tRn θ k = tRn θ k' ∨ tRc θ k = tRc θ k') → k = k') ∧ (∀ k, k < 12 → liveR σ k → tSn θ ≠ tRn θ k ∧ tRq θ ≠ tRc θ k) ∧ ∀ k k', k < 10 → k' < 10 → liveL σ k → liveL σ k' → tLa θ k = tLa θ k' → k = k'
/-- the bench's own cells -/
def benchOk (M : Nat → Option va_E) (cI cJ cC cH : ClassId) (x : Nat) (θ : TH) (σ : RS) : Prop :=
  M x = some (.inr (2, [.ref (tA1 θ), .ref (tA2 θ), .int (sCam σ), .int (sRow σ), .int (sCar σ), va_rf (tCv θ), .ref (tSt θ), .ref (tRk θ)])) ∧ M (tA1 θ) = some (.inl (cH, 10, .inr (.inr (.inr (.inr (fun j => some (tSp θ j))))))) ∧ M (tA2 θ) = some (.inl (cI, 5, .inl (tEn θ))) ∧ tEn θ 0 = sGoo σ ∧ (∀ t, 1 ≤ t → t < 5 → tEn θ t = sFa σ t) ∧ (∃ c g, hOk M cJ cC (tSt θ) 3 80 (tSn θ) c 0 (tFs θ) g) ∧ ∃ n f, hOk M cJ cC (tRk θ) 4 80 n (tRq θ) 0 f (tGs θ)
def Sim (cI cJ cC cH : ClassId) (x : Nat) (θ : TH) (σ : RS) (M : Nat → Option va_E) : Prop :=
  benchOk M cI cJ cC cH x θ σ ∧ (∀ j, j < 10 → spOk M cJ cC σ (tLa θ) (tRa θ) j (tSp θ j)) ∧ (∀ k, k < 10 → liveL σ k → hEx M cJ cC (tLa θ k) 1 0 (sLa σ k)) ∧ (∀ k, k < 12 → liveR σ k → rowOk M cJ cC σ (tCa θ) k (tRa θ k) (tRn θ k) (tRc θ k)) ∧ apartR σ θ ∧ cardsOk M σ (tCa θ) ∧ covOk σ (tRa θ) (tCa θ) (tCv θ) (tFs θ) (tGs θ)
section SM
variable {cI cJ cC cH : ClassId} {x : Nat} {θ : TH} {σ : RS} {M : Nat → Option va_E} {cc : Nat}
theorem Sim.b (h : Sim cI cJ cC cH x θ σ M) : benchOk M cI cJ cC cH x θ σ := h.1
theorem kcase {cc : Nat} (hI : Inv σ cc) {j : Nat} (hj : j < 10) : kOf σ j = 0 ∨ kOf σ j = 1 ∨ kStrip (kOf σ j) = true ∨ kRack (kOf σ j) = true := by
  rcases hI.ho hj with h | ⟨k, hk, h⟩ | ⟨k, hk, h⟩
  · exact Or.inl (kOf_0 h)
  · exact Or.inr (Or.inl (kOf_lab hk h))
  · rw [kOf_row hk h]
    exact Or.inr (Or.inr (hI.kd hk (Inv.live hj h)))
theorem rk_eq {cc : Nat} (hI : Inv σ cc) {j : Nat} (hj : j < 10) : rkOf σ j = kRack (kOf σ j) := by
  rcases hI.ho hj with h | ⟨k, hk, h⟩ | ⟨k, hk, h⟩
  · rw [rk_0 h, kOf_0 h]; rfl
  · rw [rk_lab hk h, kOf_lab hk h]; rfl
  · rw [hI.rk hj hk h, kOf_row hk h]
/-- what spindle j holds, as the class has it -/
theorem Sim.hold (h : Sim cI cJ cC cH x θ σ M) (hI : Inv σ cc) {j : Nat} (hj : j < 10) : ∃ pn na ca lb f g, hOk M cJ cC (tSp θ j) (kOf σ j) pn na ca lb f g ∧ szOf σ j = nI pn ∧ (kStrip (kOf σ j) = true → ∀ i, i < pn → f i = pV σ j i) ∧ (kRack (kOf σ j) = true → ∀ i, i < pn → g i = cdR (tCa θ) (pV σ j i)) ∧ (kOf σ j = 1 → lb = sLa σ (ix (-1 - sHo σ j))) := by
  rcases h.2.1 j hj with ⟨h0, lb, na, ca, f, g, hh⟩ | ⟨k, hk, h0, e⟩ | ⟨k, hk, h0, e⟩
  · refine ⟨0, na, ca, lb, f, g, by rw [kOf_0 h0]; exact hh, szOf_n (hasP_0 h0), fun _ i hi => absurd hi (Nat.not_lt_zero i), fun _ i hi => absurd hi (Nat.not_lt_zero i), fun z => ?_⟩
    rw [kOf_0 h0] at z
    exact absurd z (by decide)
  · obtain ⟨na, ca, f, g, hh⟩ := h.2.2.1 k hk ⟨j, hj, h0⟩
    refine ⟨0, na, ca, _, f, g, by rw [e, kOf_lab hk h0]; exact hh, szOf_n (hasP_lab hk h0), fun _ i hi => absurd hi (Nat.not_lt_zero i), fun _ i hi => absurd hi (Nat.not_lt_zero i), fun z => ?_⟩
    rw [h0, lab_ix k hk]
    simp only [ix, nI_clamp (show k < 2 ^ 31 by omega)]
  · obtain ⟨n, f, g, hn, en, hh, h1, h2⟩ := h.2.2.2.1 k hk (Inv.live hj h0)
    refine ⟨n, _, _, _, f, g, by rw [e, kOf_row hk h0]; exact hh, (szOf_row hk h0).trans en, fun z i hi => ?_, fun z i hi => ?_, fun z => ?_⟩
    · rw [pV_row hk h0]
      rw [kOf_row hk h0] at z
      exact h1 z i hi
    · rw [pV_row hk h0]
      rw [kOf_row hk h0] at z
      exact h2 z i hi
    · exfalso
      rw [kOf_row hk h0] at z
      rcases hI.kd hk (Inv.live hj h0) with h3 | h3 <;> (rw [z] at h3; exact absurd h3 (by decide))
theorem Sim.pn (h : Sim cI cJ cC cH x θ σ M) (hI : Inv σ cc) {j pn : Nat} (hj : j < 10) (e : szOf σ j = nI pn) (hp : pn ≤ 80) (hn : pn ≠ 0) : ∃ k, k < 12 ∧ sHo σ j = nI (k + 1) ∧ sSi σ k = nI pn := by
  obtain ⟨k, n, i, hk, h0, hn2, en, hi, -⟩ := hI.place hj (i := 0) (by
    rw [e, show (0 : Int32) = nI 0 from rfl, inPl_nI (by omega) (by omega)]
    exact decide_eq_true (by omega))
  refine ⟨k, hk, h0, ?_⟩
  rw [← szOf_row hk h0, e]
theorem Sim.card (h : Sim cI cJ cC cH x θ σ M) (hI : Inv σ cc) {j pn i : Nat} (hj : j < 10) (hr : kRack (kOf σ j) = true) (e : szOf σ j = nI pn) (hp : pn ≤ 80) (hi : i < pn) : pV σ j i = 0 ∨ ∃ c b, sCar σ = nI b ∧ b ≤ 512 ∧ c < b ∧ pV σ j i = lN (c + 1) ∧ cIx (pV σ j i) = c ∧ M (tCa θ c) = some (.inr (0, [.long (sCn σ c), .int (bI (evn (sCn σ c))), .int (sCs σ c)])) ∧ (kOf σ j = 5 → evn (sCn σ c) = true) := by
  obtain ⟨k, hk, h0, en⟩ := h.pn hI hj e hp (by omega)
  rw [kOf_row hk h0] at hr ⊢
  obtain ⟨b, hb, eb, h3⟩ := hI.okv hj hk h0 hr hp en hi
  rw [pV_row hk h0]
  rcases h3 with h3 | ⟨c, hc, h4, h5⟩
  · exact Or.inl h3
  · obtain ⟨b2, eb2, hb2, h6, -⟩ := h.2.2.2.2.2.1
    have := hI.1
    have e2 : b = b2 := (nI_eq (by omega) (by omega)).mp (eb.symm.trans eb2)
    refine Or.inr ⟨c, b, eb, by omega, hc, h4, ?_, h6 c (by omega), h5⟩
    rw [h4, cIx_lN (by omega)]
theorem cdR_0 {ca : Nat → Nat} : cdR ca 0 = none := rfl
theorem cdR_n {ca : Nat → Nat} {v : Int64} (h : ¬ v = 0) : cdR ca v = some (ca (cIx v)) := by
  unfold cdR
  rw [if_neg h]
theorem evn_plain {v : Int64} : decide (v &&& 1 = 1) = !evn v := by
  unfold evn
  have h : (v &&& 1 = 0) ∨ (v &&& 1 = 1) := by
    have e : (v &&& 1).toBitVec = v.toBitVec &&& 1#64 := rfl
    have h1 : v.toBitVec &&& 1#64 = 0#64 ∨ v.toBitVec &&& 1#64 = 1#64 := by
      generalize v.toBitVec = b
      have h9 : (b &&& 1#64).toNat = b.toNat % 2 := by
        rw [BitVec.toNat_and]
        exact Nat.and_one_is_mod _
      rcases Nat.mod_two_eq_zero_or_one b.toNat with h2 | h2
      · left
        apply BitVec.eq_of_toNat_eq
        rw [h9, h2]; rfl
      · right
        apply BitVec.eq_of_toNat_eq
        rw [h9, h2]; rfl
    rcases h1 with h1 | h1
    · left
      apply Int64.toBitVec_inj.mp
      rw [e, h1]; rfl
    · right
      apply Int64.toBitVec_inj.mp
      rw [e, h1]; rfl
  rcases h with h | h
  · rw [h]; decide
  · rw [h]; decide
theorem Sim.keq (h : Sim cI cJ cC cH x θ σ M) (hI : Inv σ cc) {i j : Nat} (hi : i < 10) (hj : j < 10) (e : tSp θ i = tSp θ j) : kOf σ i = kOf σ j := by
  obtain ⟨pn, na, ca, lb, f, g, hh, -⟩ := h.hold hI hi
  obtain ⟨pn', na', ca', lb', f', g', hh', -⟩ := h.hold hI hj
  have q := hh.1
  rw [e, hh'.1] at q
  simp at q
  exact q.1.symm
theorem Inv.kn {cc : Nat} (hI : Inv σ cc) {k : Nat} (hk : k < 12) (hl : liveR σ k) : ¬ sKi σ k = 0 ∧ ¬ sKi σ k = 1 := by
  rcases hI.kd hk hl with h3 | h3 <;> exact ⟨fun z => by rw [z] at h3; exact absurd h3 (by decide), fun z => by rw [z] at h3; exact absurd h3 (by decide)⟩
theorem Sim.same (h : Sim cI cJ cC cH x θ σ M) (hI : Inv σ cc) {i j : Nat} (hi : i < 10) (hj : j < 10) (h0 : ¬ sHo σ i = 0) : tSp θ i = tSp θ j ↔ sHo σ i = sHo σ j := by
  have hA := h.2.2.2.2.1
  refine ⟨fun z => ?_, fun z => ?_⟩
  · have hk := h.keq hI hi hj z
    rcases h.2.1 i hi with ⟨q, -⟩ | ⟨k, hk1, a1, e1⟩ | ⟨k, hk1, a1, e1⟩
    · exact absurd q h0
    · rw [kOf_lab hk1 a1] at hk
      rcases h.2.1 j hj with ⟨b1, -⟩ | ⟨k', hk', b1, e2⟩ | ⟨k', hk', b1, e2⟩
      · rw [kOf_0 b1] at hk; exact absurd hk (by decide)
      · rw [a1, b1, hA.2.2 k k' hk1 hk' ⟨i, hi, a1⟩ ⟨j, hj, b1⟩ (e1.symm.trans (z.trans e2))]
      · rw [kOf_row hk' b1] at hk
        exact absurd hk.symm (hI.kn hk' (Inv.live hj b1)).2
    · rw [kOf_row hk1 a1] at hk
      rcases h.2.1 j hj with ⟨b1, -⟩ | ⟨k', hk', b1, e2⟩ | ⟨k', hk', b1, e2⟩
      · rw [kOf_0 b1] at hk; exact absurd hk (hI.kn hk1 (Inv.live hi a1)).1
      · rw [kOf_lab hk' b1] at hk; exact absurd hk (hI.kn hk1 (Inv.live hi a1)).2
      · rw [a1, b1, hA.1 k k' hk1 hk' (Inv.live hi a1) (Inv.live hj b1) (Or.inl (e1.symm.trans (z.trans e2)))]
  · rcases h.2.1 i hi with ⟨q, -⟩ | ⟨k, hk1, a1, e1⟩ | ⟨k, hk1, a1, e1⟩
    · exact absurd q h0
    · rcases h.2.1 j hj with ⟨b1, -⟩ | ⟨k', hk', b1, e2⟩ | ⟨k', hk', b1, e2⟩
      · rw [a1, b1] at z; exact absurd z (lab_n0 hk1)
      · rw [e1, e2, lab_inj k hk1 k' hk' (a1.symm.trans (z.trans b1))]
      · rw [a1, b1] at z; exact absurd z (lab_row k hk1 k' hk')
    · rcases h.2.1 j hj with ⟨b1, -⟩ | ⟨k', hk', b1, e2⟩ | ⟨k', hk', b1, e2⟩
      · rw [a1, b1] at z; exact absurd z (row_n0 hk1)
      · rw [a1, b1] at z; exact absurd z.symm (lab_row k' hk' k hk1)
      · rw [e1, e2, row_inj k hk1 k' hk' (a1.symm.trans (z.trans b1))]
theorem cdAt_rack {k : Int32} {pn : Nat} {g : Nat → Option Nat} {i : Nat} (hk : kRack k = true) (hp : pn ≤ 80) (hi : i < pn) : cdAt k pn g (nI i) = g i := by
  unfold cdAt
  rw [if_pos ⟨hk, by rw [inPl_nI (by omega) (by omega)]; exact decide_eq_true hi⟩, nI_clamp (by omega)]
theorem cdAt_none {k : Int32} {pn : Nat} {g : Nat → Option Nat} {i : Int32} (h : ¬ (kRack k = true ∧ inPl i (nI pn) = true)) : cdAt k pn g i = none := by
  unfold cdAt
  rw [if_neg h]
end SM
end
section
section X2A
variable {l : Launch} {D : va_G} {cI cJ cC cH : ClassId} {M : Nat → Option va_E} {sz : Nat}
theorem nI_nm1 : ∀ k, k < 12 → ¬ nI k = -1 := by decide +kernel
abbrev rmX2_count : Room := ({ frames := 0, cells := 0, slots := 0, locals := 0 } : Room)
set_option maxHeartbeats 4000000 in
set_option maxRecDepth 100000 in
theorem c_X2_count {x : Nat} {θ : TH} {σ : RS} {cc : Nat} (hZ : Sim cI cJ cC cH x θ σ M) (hI : Inv σ cc) {w : Int32} : Met l yX2_count wsX2_count rmX2_count (va_Pc [.ref x, .int w] (mwPre D (tyL cI cJ cC cH) M sz)) (vp_Si (fun r => r = anCount σ w)) 0 0 (fun _ => False) := by
  refine Met.ofW (cc := cX2_count) (maxL := 2) (ret := (some .int)) (by decide) rfl ?_
  intro pr env s m args below meth c s₁ B hml hv
  obtain ⟨rfl, hsz, hW, hK, hO⟩ := hv
  have hx := B.exec
  have hb := B.bytes
  have hr := B.returns
  have hts := atoms_spec (ws := wsX2_count) B.pre
  have hown : s.vm.findClass RX2 = some m.cls := findClass_of_methodNamed B.named
  have hlocks := B.notSynchronized
  have F : CallFix pr m c cX2_count 2 s ([.ref x, .int w] : List Value).toArray wsX2_count RX2 := ⟨hx, hb, hml, hown, hts⟩
  have hI_X2 : ∀ w ∈ wsX20, w ∈ wsX2_count := by decide +kernel
  have hl_fieldLink_RX2_19_SpliceBench_come_I := hts (.fieldLink RX2 19 "SpliceBench" "come" "I") (by decide +kernel)
  have hl_fieldLink_RX2_15_SpliceBench_endings_I := hts (.fieldLink RX2 15 "SpliceBench" "endings" "[I") (by decide +kernel)
  have hl_fieldLink_RX2_23_SpliceBench_made_I := hts (.fieldLink RX2 23 "SpliceBench" "made" "I") (by decide +kernel)
  have hl_fieldLink_RX2_26_SpliceBench_cardsPut_I := hts (.fieldLink RX2 26 "SpliceBench" "cardsPut" "I") (by decide +kernel)
  have hl_fieldLink_RX2_29_SpliceBench_covered_LSpliceBench_Holding := hts (.fieldLink RX2 29 "SpliceBench" "covered" "LSpliceBench$Holding;") (by decide +kernel)
  have hl := lv_entry ([.ref x, .int w]) (n := 2) (Nat.le_of_ble_eq_true rfl)
  rw [lg_entry_eq]
  generalize (lg_sl ([.ref x, .int w]) ++ List.replicate (2 - (lg_sl ([.ref x, .int w])).length) Slot.unset).toArray = ls at hl ⊢
  have hl : lv_has ls 2 [(0, .ref x), (1, .int w)] := hl
  refine lv_iload_n hx hb dX2_count_0 rfl (lv_at hl 1 rfl) ?_
  by_cases h_0 : w = 0
  · subst h_0
    refine lv_tableIn (off := 51) (tgt := 52) hx hb dX2_count_1 (by decide) (by decide) rfl (by decide) ?_
    refine lv_aload_n hx hb dX2_count_52 rfl (lv_at hl 0 rfl) ?_
    refine mw_get (C := RX2) (T := TX2) (N := 8) F hK hW hI_X2 hZ.b.1 rfl 2 (by decide) hl_fieldLink_RX2_19_SpliceBench_come_I rfl dX2_count_53 ?_
    exact W.iret hx hb hr (fun t ht _ => ⟨_, rfl, (by first | rfl | simp [anCount]), ht⟩) (fun _ h => by cases h) dX2_count_56
  by_cases h_1 : w = 1
  · subst h_1
    refine lv_tableIn (off := 56) (tgt := 57) hx hb dX2_count_1 (by decide) (by decide) rfl (by decide) ?_
    refine lv_aload_n hx hb dX2_count_57 rfl (lv_at hl 0 rfl) ?_
    refine mw_get (C := RX2) (T := TX2) (N := 8) F hK hW hI_X2 hZ.b.1 rfl 1 (by decide) hl_fieldLink_RX2_15_SpliceBench_endings_I rfl dX2_count_58 ?_
    refine lv_iconst (v := 1) hx hb dX2_count_61 (by decide) ?_
    refine mw_iald F hK hW 0 hZ.b.2.2.1 rfl (show vp_in (nI 1) 5 from vp_in_nI (by decide) (by decide)) dX2_count_62 ?_
    exact W.iret hx hb hr (fun t ht _ => ⟨_, rfl, (hZ.b.2.2.2.2.1 1 (by decide) (by decide)), ht⟩) (fun _ h => by cases h) dX2_count_63
  by_cases h_2 : w = 2
  · subst h_2
    refine lv_tableIn (off := 63) (tgt := 64) hx hb dX2_count_1 (by decide) (by decide) rfl (by decide) ?_
    refine lv_aload_n hx hb dX2_count_64 rfl (lv_at hl 0 rfl) ?_
    refine mw_get (C := RX2) (T := TX2) (N := 8) F hK hW hI_X2 hZ.b.1 rfl 1 (by decide) hl_fieldLink_RX2_15_SpliceBench_endings_I rfl dX2_count_65 ?_
    refine lv_iconst (v := 2) hx hb dX2_count_68 (by decide) ?_
    refine mw_iald F hK hW 0 hZ.b.2.2.1 rfl (show vp_in (nI 2) 5 from vp_in_nI (by decide) (by decide)) dX2_count_69 ?_
    exact W.iret hx hb hr (fun t ht _ => ⟨_, rfl, (hZ.b.2.2.2.2.1 2 (by decide) (by decide)), ht⟩) (fun _ h => by cases h) dX2_count_70
  by_cases h_3 : w = 3
  · subst h_3
    refine lv_tableIn (off := 70) (tgt := 71) hx hb dX2_count_1 (by decide) (by decide) rfl (by decide) ?_
    refine lv_aload_n hx hb dX2_count_71 rfl (lv_at hl 0 rfl) ?_
    refine mw_get (C := RX2) (T := TX2) (N := 8) F hK hW hI_X2 hZ.b.1 rfl 1 (by decide) hl_fieldLink_RX2_15_SpliceBench_endings_I rfl dX2_count_72 ?_
    refine lv_iconst (v := 3) hx hb dX2_count_75 (by decide) ?_
    refine mw_iald F hK hW 0 hZ.b.2.2.1 rfl (show vp_in (nI 3) 5 from vp_in_nI (by decide) (by decide)) dX2_count_76 ?_
    exact W.iret hx hb hr (fun t ht _ => ⟨_, rfl, (hZ.b.2.2.2.2.1 3 (by decide) (by decide)), ht⟩) (fun _ h => by cases h) dX2_count_77
  by_cases h_4 : w = 4
  · subst h_4
    refine lv_tableIn (off := 77) (tgt := 78) hx hb dX2_count_1 (by decide) (by decide) rfl (by decide) ?_
    refine lv_aload_n hx hb dX2_count_78 rfl (lv_at hl 0 rfl) ?_
    refine mw_get (C := RX2) (T := TX2) (N := 8) F hK hW hI_X2 hZ.b.1 rfl 1 (by decide) hl_fieldLink_RX2_15_SpliceBench_endings_I rfl dX2_count_79 ?_
    refine lv_iconst (v := 4) hx hb dX2_count_82 (by decide) ?_
    refine mw_iald F hK hW 0 hZ.b.2.2.1 rfl (show vp_in (nI 4) 5 from vp_in_nI (by decide) (by decide)) dX2_count_83 ?_
    exact W.iret hx hb hr (fun t ht _ => ⟨_, rfl, (hZ.b.2.2.2.2.1 4 (by decide) (by decide)), ht⟩) (fun _ h => by cases h) dX2_count_84
  by_cases h_5 : w = 5
  · subst h_5
    refine lv_tableIn (off := 84) (tgt := 85) hx hb dX2_count_1 (by decide) (by decide) rfl (by decide) ?_
    refine lv_aload_n hx hb dX2_count_85 rfl (lv_at hl 0 rfl) ?_
    refine mw_get (C := RX2) (T := TX2) (N := 8) F hK hW hI_X2 hZ.b.1 rfl 1 (by decide) hl_fieldLink_RX2_15_SpliceBench_endings_I rfl dX2_count_86 ?_
    refine lv_iconst (v := 0) hx hb dX2_count_89 (by decide) ?_
    refine mw_iald F hK hW 0 hZ.b.2.2.1 rfl (show vp_in (nI 0) 5 from vp_in_nI (by decide) (by decide)) dX2_count_90 ?_
    exact W.iret hx hb hr (fun t ht _ => ⟨_, rfl, hZ.b.2.2.2.1, ht⟩) (fun _ h => by cases h) dX2_count_91
  by_cases h_6 : w = 6
  · subst h_6
    refine lv_tableIn (off := 91) (tgt := 92) hx hb dX2_count_1 (by decide) (by decide) rfl (by decide) ?_
    refine lv_aload_n hx hb dX2_count_92 rfl (lv_at hl 0 rfl) ?_
    refine mw_get (C := RX2) (T := TX2) (N := 8) F hK hW hI_X2 hZ.b.1 rfl 3 (by decide) hl_fieldLink_RX2_23_SpliceBench_made_I rfl dX2_count_93 ?_
    exact W.iret hx hb hr (fun t ht _ => ⟨_, rfl, (by first | rfl | simp [anCount]), ht⟩) (fun _ h => by cases h) dX2_count_96
  by_cases h_7 : w = 7
  · subst h_7
    refine lv_tableIn (off := 96) (tgt := 97) hx hb dX2_count_1 (by decide) (by decide) rfl (by decide) ?_
    refine lv_aload_n hx hb dX2_count_97 rfl (lv_at hl 0 rfl) ?_
    refine mw_get (C := RX2) (T := TX2) (N := 8) F hK hW hI_X2 hZ.b.1 rfl 4 (by decide) hl_fieldLink_RX2_26_SpliceBench_cardsPut_I rfl dX2_count_98 ?_
    exact W.iret hx hb hr (fun t ht _ => ⟨_, rfl, (by first | rfl | simp [anCount]), ht⟩) (fun _ h => by cases h) dX2_count_101
  by_cases h_8 : w = 8
  · subst h_8
    refine lv_tableIn (off := 101) (tgt := 102) hx hb dX2_count_1 (by decide) (by decide) rfl (by decide) ?_
    refine lv_aload_n hx hb dX2_count_102 rfl (lv_at hl 0 rfl) ?_
    refine mw_get (C := RX2) (T := TX2) (N := 8) F hK hW hI_X2 hZ.b.1 rfl 5 (by decide) hl_fieldLink_RX2_29_SpliceBench_covered_LSpliceBench_Holding rfl dX2_count_103 ?_
    cases hcv : tCv θ with
    | none =>
      show W _ _ _ _ _ _ _ _ _ _ _ _ _ _ _ (F0 m 106 ls [.null])
      refine lv_ifnullN (tgt := 113) hx hb dX2_count_106 (by decide) ?_
      refine lv_iconst (v := 0) hx hb dX2_count_113 (by decide) ?_
      exact W.iret hx hb hr (fun t ht _ => ⟨_, rfl, (by
        rcases hZ.2.2.2.2.2.2 with ⟨z, -⟩ | ⟨k, n, hk, -, z, -⟩
        · show 0 = (if sCov σ = -1 then _ else _); rw [if_pos z]
        · rw [hcv] at z; cases z), ht⟩) (fun _ h => by cases h) dX2_count_114
    | some q9 =>
      show W _ _ _ _ _ _ _ _ _ _ _ _ _ _ _ (F0 m 106 ls [.ref q9])
      refine lv_ifnull hx hb dX2_count_106 ?_
      refine lv_iconst (v := 1) hx hb dX2_count_109 (by decide) ?_
      refine lv_goto (tgt := 114) hx hb dX2_count_110 (by decide) ?_
      exact W.iret hx hb hr (fun t ht _ => ⟨_, rfl, (by
        rcases hZ.2.2.2.2.2.2 with ⟨-, z⟩ | ⟨k, n, hk, z, -⟩
        · rw [hcv] at z; cases z
        · show 1 = (if sCov σ = -1 then _ else _); rw [if_neg (fun z9 => by rw [z] at z9; exact absurd z9 (nI_nm1 k hk))]), ht⟩) (fun _ h => by cases h) dX2_count_114
  have ht_0 := lv_neT (a := 0) h_0 rfl
  have ht_1 := lv_neT (a := 1) h_1 rfl
  have ht_2 := lv_neT (a := 2) h_2 rfl
  have ht_3 := lv_neT (a := 3) h_3 rfl
  have ht_4 := lv_neT (a := 4) h_4 rfl
  have ht_5 := lv_neT (a := 5) h_5 rfl
  have ht_6 := lv_neT (a := 6) h_6 rfl
  have ht_7 := lv_neT (a := 7) h_7 rfl
  have ht_8 := lv_neT (a := 8) h_8 rfl
  refine lv_tableOut (tgt := 115) hx hb dX2_count_1 (by omega) (by decide) ?_
  refine lv_iconst (v := (-1)) hx hb dX2_count_115 (by decide) ?_
  exact W.iret hx hb hr (fun t ht _ => ⟨_, rfl, (by first | rfl | simp [anCount, h_0, h_1, h_2, h_3, h_4, h_5, h_6, h_7, h_8]), ht⟩) (fun _ h => by cases h) dX2_count_116
theorem Sim.p0 {cI cJ cC cH : ClassId} {x : Nat} {θ : TH} {σ : RS} {M : Nat → Option va_E} {cc : Nat} (h : Sim cI cJ cC cH x θ σ M) (hI : Inv σ cc) {j pn : Nat} (hj : j < 10) (e : szOf σ j = nI pn) (hp : pn ≤ 80) (hn : pn ≠ 0) (hk : kOf σ j = 0 ∨ kOf σ j = 1) : False := by
  obtain ⟨k, hk9, h0, -⟩ := h.pn hI hj e hp hn
  rw [kOf_row hk9 h0] at hk
  exact hk.elim (hI.kn hk9 (Inv.live hj h0)).1 (hI.kn hk9 (Inv.live hj h0)).2
abbrev rmX2_held : Room := ({ frames := 3, cells := 0, slots := 0, locals := 64 } : Room)
set_option maxHeartbeats 4000000 in
set_option maxRecDepth 100000 in
theorem c_X2_held {x : Nat} {θ : TH} {σ : RS} {cc : Nat} (hZ : Sim cI cJ cC cH x θ σ M) (hI : Inv σ cc) {s0 w : Int32} : Met l yX2_held wsX2_held rmX2_held (va_Pc [.ref x, .int s0, .int w] (mwPre D (tyL cI cJ cC cH) M sz)) (vp_Si (fun r => r = anHeld σ s0 w)) 0 0 (fun _ => False) := by
  refine Met.ofW (cc := cX2_held) (maxL := 4) (ret := (some .int)) (by decide) rfl ?_
  intro pr env s m args below meth c s₁ B hml hv
  obtain ⟨rfl, hsz, hW, hK, hO⟩ := hv
  have hx := B.exec
  have hb := B.bytes
  have hr := B.returns
  have hts := atoms_spec (ws := wsX2_held) B.pre
  have hown : s.vm.findClass RX2 = some m.cls := findClass_of_methodNamed B.named
  have hlocks := B.notSynchronized
  have F : CallFix pr m c cX2_held 4 s ([.ref x, .int s0, .int w] : List Value).toArray wsX2_held RX2 := ⟨hx, hb, hml, hown, hts⟩
  have hI_X1 : ∀ w ∈ wsX10, w ∈ wsX2_held := by decide +kernel
  have hI_X2 : ∀ w ∈ wsX20, w ∈ wsX2_held := by decide +kernel
  have hl_fieldLink_RX2_11_SpliceBench_spindles_LSpliceBench_Holding := hts (.fieldLink RX2 11 "SpliceBench" "spindles" "[LSpliceBench$Holding;") (by decide +kernel)
  have hl_fieldLink_RX2_46_SpliceBench_Holding_kind_I := hts (.fieldLink RX2 46 "SpliceBench$Holding" "kind" "I") (by decide +kernel)
  have hl_fieldLink_RX2_104_SpliceBench_Holding_places_I := hts (.fieldLink RX2 104 "SpliceBench$Holding" "places" "I") (by decide +kernel)
  have hl := lv_entry ([.ref x, .int s0, .int w]) (n := 4) (Nat.le_of_ble_eq_true rfl)
  rw [lg_entry_eq]
  generalize (lg_sl ([.ref x, .int s0, .int w]) ++ List.replicate (4 - (lg_sl ([.ref x, .int s0, .int w])).length) Slot.unset).toArray = ls at hl ⊢
  have hl : lv_has ls 4 [(0, .ref x), (1, .int s0), (2, .int w)] := hl
  refine lv_iload_n hx hb dX2_held_0 rfl (lv_at hl 1 rfl) ?_
  refine vp_callSi (W.runS (As := [.int s0]) (rest := []) F (c_X2_isSpindle) (cwS 1 hts gX2_held_X2_isSpindle rfl rfl rfl (by decide +kernel) ⟨Nat.le_of_ble_eq_true rfl, Nat.le_of_ble_eq_true rfl⟩) (mw_prS hK hO hW) rfl rfl hl.1 rfl (lv_room (Nat.le_of_ble_eq_true rfl)) dX2_held_1 ⟨Nat.zero_le _, Nat.zero_le _⟩) (fun r_1 er_1 => ?_)
  subst er_1
  refine lv_if_ne (tgt := 10) hx hb dX2_held_4 (by decide) (fun c_4 => ?_) (fun c_4 => ?_)
  · obtain ⟨j, hj, rfl⟩ := isSp_of (bI_n c_4)
    have esp_j := isSp_nI hj
    have eix_j : ix (nI j) = j := nI_clamp (by omega)
    refine lv_aload_n hx hb dX2_held_10 rfl (lv_at hl 0 rfl) ?_
    refine mw_get (C := RX2) (T := TX2) (N := 8) F hK hW hI_X2 hZ.b.1 rfl 0 (by decide) hl_fieldLink_RX2_11_SpliceBench_spindles_LSpliceBench_Holding rfl dX2_held_11 ?_
    refine lv_iload_n hx hb dX2_held_14 rfl (lv_at hl 1 rfl) ?_
    refine mw_aald F hK hW 3 hZ.b.2.1 rfl (vp_in_nI (show j < 10 by omega) (by omega)) dX2_held_15 ?_
    rw [nI_clamp (show j < 2 ^ 31 by omega)]
    refine W.eq (g2 := F0 m 16 ls [.ref (tSp θ j)]) rfl ?_
    obtain ⟨pn, na, ca, lb, f, g, hH, ez, hfs, hgs, hlb⟩ := hZ.hold hI hj
    have hp8 := hH.2.1
    refine lv_astore_n (lv' := [(3, .ref (tSp θ j)), (0, .ref x), (1, .int (nI j)), (2, .int w)]) hx hb dX2_held_16 rfl hl (by decide) rfl (fun ls hl => ?_)
    refine lv_iload_n hx hb dX2_held_17 rfl (lv_at hl 3 rfl) ?_
    by_cases h_0 : w = 0
    · subst h_0
      refine lv_tableIn (off := 26) (tgt := 44) hx hb dX2_held_18 (by decide) (by decide) rfl (by decide) ?_
      refine lv_aload_n hx hb dX2_held_44 rfl (lv_at hl 0 rfl) ?_
      refine mw_get (C := RX1) (T := TX1) (N := 5) F hK hW hI_X1 hH.1 rfl 0 (by decide) hl_fieldLink_RX2_46_SpliceBench_Holding_kind_I rfl dX2_held_45 ?_
      exact W.iret hx hb hr (fun t ht _ => ⟨_, rfl, (by simp [anHeld, esp_j, eix_j]), ht⟩) (fun _ h => by cases h) dX2_held_48
    by_cases h_1 : w = 1
    · subst h_1
      refine lv_tableIn (off := 31) (tgt := 49) hx hb dX2_held_18 (by decide) (by decide) rfl (by decide) ?_
      refine lv_aload_n hx hb dX2_held_49 rfl (lv_at hl 0 rfl) ?_
      refine mw_get (C := RX1) (T := TX1) (N := 5) F hK hW hI_X1 hH.1 rfl 1 (by decide) hl_fieldLink_RX2_104_SpliceBench_Holding_places_I rfl dX2_held_50 ?_
      exact W.iret hx hb hr (fun t ht _ => ⟨_, rfl, (by simp only [anHeld, esp_j, eix_j, if_true]; exact ez.symm), ht⟩) (fun _ h => by cases h) dX2_held_53
    by_cases h_2 : w = 2
    · subst h_2
      refine lv_tableIn (off := 36) (tgt := 54) hx hb dX2_held_18 (by decide) (by decide) rfl (by decide) ?_
      refine lv_aload_n hx hb dX2_held_54 rfl (lv_at hl 0 rfl) ?_
      refine vp_callSi (W.runV (As := []) (rest := []) F (c_X1_countFilled hH) (cwV 0 hts gX2_held_X1_countFilled rfl rfl rfl (by decide +kernel) ⟨Nat.le_of_ble_eq_true rfl, Nat.le_of_ble_eq_true rfl⟩) (mw_prV (q := (RX1, TX1, 5)) hK hO hW rfl hH.1) rfl rfl hl.1 rfl (lv_room (Nat.le_of_ble_eq_true rfl)) dX2_held_55 ⟨Nat.zero_le _, Nat.zero_le _⟩) (fun r_2 er_2 => ?_)
      subst er_2
      exact W.iret hx hb hr (fun t ht _ => ⟨_, rfl, (by
        have e8 : anHeld σ (nI j) 2 = nI (cntH σ j pn) := by
          show (if isSp (nI j) = true then _ else _) = _
          rw [if_pos esp_j, eix_j, ez]
          show nI (cntH σ j (ix (nI pn))) = _
          simp only [ix, nI_clamp (show pn < 2 ^ 31 by omega)]
        rw [e8]
        refine congrArg nI (cntF_congr (fun i hi => ?_))
        rcases kcase hI hj with h1 | h1 | h1 | h1
        · exfalso; exact hZ.p0 hI hj ez hp8 (by omega) (Or.inl h1)
        · exfalso; exact hZ.p0 hI hj ez hp8 (by omega) (Or.inr h1)
        · rw [if_pos h1, hfs h1 i hi]
        · rw [if_neg (by rw [kRS h1]; decide), cdAt_rack h1 hp8 hi, hgs h1 i hi]
          by_cases h2 : pV σ j i = 0
          · rw [h2]; rfl
          · rw [cdR_n h2]; simp [h2]), ht⟩) (fun _ h => by cases h) dX2_held_58
    have ht_0 := lv_neT (a := 0) h_0 rfl
    have ht_1 := lv_neT (a := 1) h_1 rfl
    have ht_2 := lv_neT (a := 2) h_2 rfl
    refine lv_tableOut (tgt := 59) hx hb dX2_held_18 (by omega) (by decide) ?_
    refine lv_iconst (v := (-1)) hx hb dX2_held_59 (by decide) ?_
    exact W.iret hx hb hr (fun t ht _ => ⟨_, rfl, (by simp [anHeld, esp_j, eix_j, h_0, h_1, h_2]), ht⟩) (fun _ h => by cases h) dX2_held_60
  · have c_4 := bI_e c_4
    refine lv_bipush (v := (-9)) hx hb dX2_held_7 (by decide) ?_
    exact W.iret hx hb hr (fun t ht _ => ⟨_, rfl, (by simp [anHeld, c_4]), ht⟩) (fun _ h => by cases h) dX2_held_9
abbrev rmX2_sort : Room := ({ frames := 2, cells := 0, slots := 0, locals := 42 } : Room)
set_option maxHeartbeats 4000000 in
set_option maxRecDepth 100000 in
theorem c_X2_sort {x : Nat} {θ : TH} {σ : RS} {cc : Nat} (hZ : Sim cI cJ cC cH x θ σ M) (hI : Inv σ cc) {s0 i : Int32} : Met l yX2_sort wsX2_sort rmX2_sort (va_Pc [.ref x, .int s0, .int i] (mwPre D (tyL cI cJ cC cH) M sz)) (vp_Si (fun r => r = anSort σ s0 i)) 0 0 (fun _ => False) := by
  refine Met.ofW (cc := cX2_sort) (maxL := 5) (ret := (some .int)) (by decide) rfl ?_
  intro pr env s m args below meth c s₁ B hml hv
  obtain ⟨rfl, hsz, hW, hK, hO⟩ := hv
  have hx := B.exec
  have hb := B.bytes
  have hr := B.returns
  have hts := atoms_spec (ws := wsX2_sort) B.pre
  have hown : s.vm.findClass RX2 = some m.cls := findClass_of_methodNamed B.named
  have hlocks := B.notSynchronized
  have F : CallFix pr m c cX2_sort 5 s ([.ref x, .int s0, .int i] : List Value).toArray wsX2_sort RX2 := ⟨hx, hb, hml, hown, hts⟩
  have hI_X0 : ∀ w ∈ wsX00, w ∈ wsX2_sort := by decide +kernel
  have hI_X2 : ∀ w ∈ wsX20, w ∈ wsX2_sort := by decide +kernel
  have hl_fieldLink_RX2_11_SpliceBench_spindles_LSpliceBench_Holding := hts (.fieldLink RX2 11 "SpliceBench" "spindles" "[LSpliceBench$Holding;") (by decide +kernel)
  have hl_fieldLink_RX2_126_SpliceBench_Card_slide_Z := hts (.fieldLink RX2 126 "SpliceBench$Card" "slide" "Z") (by decide +kernel)
  have hl := lv_entry ([.ref x, .int s0, .int i]) (n := 5) (Nat.le_of_ble_eq_true rfl)
  rw [lg_entry_eq]
  generalize (lg_sl ([.ref x, .int s0, .int i]) ++ List.replicate (5 - (lg_sl ([.ref x, .int s0, .int i])).length) Slot.unset).toArray = ls at hl ⊢
  have hl : lv_has ls 5 [(0, .ref x), (1, .int s0), (2, .int i)] := hl
  refine lv_iload_n hx hb dX2_sort_0 rfl (lv_at hl 1 rfl) ?_
  refine vp_callSi (W.runS (As := [.int s0]) (rest := []) F (c_X2_isSpindle) (cwS 1 hts gX2_sort_X2_isSpindle rfl rfl rfl (by decide +kernel) ⟨Nat.le_of_ble_eq_true rfl, Nat.le_of_ble_eq_true rfl⟩) (mw_prS hK hO hW) rfl rfl hl.1 rfl (lv_room (Nat.le_of_ble_eq_true rfl)) dX2_sort_1 ⟨Nat.zero_le _, Nat.zero_le _⟩) (fun r_1 er_1 => ?_)
  subst er_1
  refine lv_if_ne (tgt := 10) hx hb dX2_sort_4 (by decide) (fun c_4 => ?_) (fun c_4 => ?_)
  · obtain ⟨j, hj, rfl⟩ := isSp_of (bI_n c_4)
    have esp_j := isSp_nI hj
    have eix_j : ix (nI j) = j := nI_clamp (by omega)
    refine lv_aload_n hx hb dX2_sort_10 rfl (lv_at hl 0 rfl) ?_
    refine mw_get (C := RX2) (T := TX2) (N := 8) F hK hW hI_X2 hZ.b.1 rfl 0 (by decide) hl_fieldLink_RX2_11_SpliceBench_spindles_LSpliceBench_Holding rfl dX2_sort_11 ?_
    refine lv_iload_n hx hb dX2_sort_14 rfl (lv_at hl 1 rfl) ?_
    refine mw_aald F hK hW 3 hZ.b.2.1 rfl (vp_in_nI (show j < 10 by omega) (by omega)) dX2_sort_15 ?_
    rw [nI_clamp (show j < 2 ^ 31 by omega)]
    refine W.eq (g2 := F0 m 16 ls [.ref (tSp θ j)]) rfl ?_
    obtain ⟨pn, na, ca, lb, f, g, hH, ez, hfs, hgs, hlb⟩ := hZ.hold hI hj
    have hp8 := hH.2.1
    refine lv_astore_n (lv' := [(3, .ref (tSp θ j)), (0, .ref x), (1, .int (nI j)), (2, .int i)]) hx hb dX2_sort_16 rfl hl (by decide) rfl (fun ls hl => ?_)
    refine lv_aload_n hx hb dX2_sort_17 rfl (lv_at hl 0 rfl) ?_
    refine lv_iload_n hx hb dX2_sort_18 rfl (lv_at hl 3 rfl) ?_
    refine vp_callSi (W.runV (As := [.int i]) (rest := []) F (c_X1_hasPlace (i := i) hH) (cwV 1 hts gX2_sort_X1_hasPlace rfl rfl rfl (by decide +kernel) ⟨Nat.le_of_ble_eq_true rfl, Nat.le_of_ble_eq_true rfl⟩) (mw_prV (q := (RX1, TX1, 5)) hK hO hW rfl hH.1) rfl rfl hl.1 rfl (lv_room (Nat.le_of_ble_eq_true rfl)) dX2_sort_19 ⟨Nat.zero_le _, Nat.zero_le _⟩) (fun r_2 er_2 => ?_)
    subst er_2
    refine lv_if_ne (tgt := 27) hx hb dX2_sort_22 (by decide) (fun c_22 => ?_) (fun c_22 => ?_)
    · have c_22 := bI_n c_22
      obtain ⟨i9, hi9, rfl⟩ := inPl_of hp8 c_22
      have eix_i : ix (nI i9) = i9 := nI_clamp (by omega)
      refine lv_aload_n hx hb dX2_sort_27 rfl (lv_at hl 0 rfl) ?_
      refine vp_callSi (W.runV (As := []) (rest := []) F (c_X1_isStrip hH.1) (cwV 0 hts gX2_sort_X1_isStrip rfl rfl rfl (by decide +kernel) ⟨Nat.le_of_ble_eq_true rfl, Nat.le_of_ble_eq_true rfl⟩) (mw_prV (q := (RX1, TX1, 5)) hK hO hW rfl hH.1) rfl rfl hl.1 rfl (lv_room (Nat.le_of_ble_eq_true rfl)) dX2_sort_28 ⟨Nat.zero_le _, Nat.zero_le _⟩) (fun r_3 er_3 => ?_)
      subst er_3
      refine lv_if_eq (tgt := 36) hx hb dX2_sort_31 (by decide) (fun c_31 => ?_) (fun c_31 => ?_)
      · have c_31 := bI_e c_31
        have hrk : kRack (kOf σ j) = true := by
          rcases kcase hI hj with h1 | h1 | h1 | h1
          · exact (hZ.p0 hI hj ez hp8 (by omega) (Or.inl h1)).elim
          · exact (hZ.p0 hI hj ez hp8 (by omega) (Or.inr h1)).elim
          · rw [c_31] at h1; cases h1
          · exact h1
        refine lv_aload_n hx hb dX2_sort_36 rfl (lv_at hl 0 rfl) ?_
        refine lv_iload_n hx hb dX2_sort_37 rfl (lv_at hl 3 rfl) ?_
        refine va_csq (W.runV (As := [.int (nI i9)]) (rest := []) F (c_X1_cardAt (i := nI i9) hH) (cwV 1 hts gX2_sort_X1_cardAt rfl rfl rfl (by decide +kernel) ⟨Nat.le_of_ble_eq_true rfl, Nat.le_of_ble_eq_true rfl⟩) (mw_prV (q := (RX1, TX1, 5)) hK hO hW rfl hH.1) rfl rfl hl.1 rfl (lv_room (Nat.le_of_ble_eq_true rfl)) dX2_sort_38 ⟨Nat.zero_le _, Nat.zero_le _⟩) (fun r_4 er_4 => ?_)
        subst er_4
        rw [cdAt_rack hrk hp8 hi9, hgs hrk i9 hi9]
        rcases hZ.card hI hj hrk ez hp8 hi9 with h0 | ⟨c9, b9, eb9, hb9, hc9, ev9, ec9, hq9, h59⟩
        · rw [h0, cdR_0]
          show W _ _ _ _ _ _ _ _ _ _ _ _ _ _ _ (F0 m 41 ls [.null])
          refine lv_astoreN (lv' := [(4, .null), (3, .ref (tSp θ j)), (0, .ref x), (1, .int (nI j)), (2, .int (nI i9))]) hx hb dX2_sort_41 hl (by decide) rfl (fun ls hl => ?_)
          refine lv_aloadN hx hb dX2_sort_43 (lv_at hl 0 rfl) ?_
          refine lv_ifnonnullN hx hb dX2_sort_45 ?_
          refine lv_iconst (v := 0) hx hb dX2_sort_48 (by decide) ?_
          exact W.iret hx hb hr (fun t ht _ => ⟨_, rfl, (by
            have e8 : anSort σ (nI j) (nI i9) = 0 := by
              show (if isSp (nI j) = true then _ else _) = _
              rw [if_pos esp_j, eix_j, eix_i, ez, if_pos c_22, rk_eq hI hj, if_pos hrk, if_pos h0]
            rw [e8]), ht⟩) (fun _ h => by cases h) dX2_sort_49
        · have hn0 : ¬ pV σ j i9 = 0 := by rw [ev9]; exact lN_n0 (by omega)
          rw [cdR_n hn0, ec9]
          show W _ _ _ _ _ _ _ _ _ _ _ _ _ _ _ (F0 m 41 ls [.ref (tCa θ c9)])
          refine lv_astore (lv' := [(4, .ref (tCa θ c9)), (3, .ref (tSp θ j)), (0, .ref x), (1, .int (nI j)), (2, .int (nI i9))]) hx hb dX2_sort_41 hl (by decide) rfl (fun ls hl => ?_)
          refine lv_aload hx hb dX2_sort_43 (lv_at hl 0 rfl) ?_
          refine lv_ifnonnull (tgt := 50) hx hb dX2_sort_45 (by decide) ?_
          refine lv_aload hx hb dX2_sort_50 (lv_at hl 0 rfl) ?_
          refine mw_get (C := RX0) (T := TX0) (N := 3) F hK hW hI_X0 hq9 rfl 1 (by decide) hl_fieldLink_RX2_126_SpliceBench_Card_slide_Z rfl dX2_sort_52 ?_
          refine lv_if_eq (tgt := 62) hx hb dX2_sort_55 (by decide) (fun c_55 => ?_) (fun c_55 => ?_)
          · have c_55 := bI_e c_55
            refine lv_iconst (v := 2) hx hb dX2_sort_62 (by decide) ?_
            exact W.iret hx hb hr (fun t ht _ => ⟨_, rfl, (by
              have e8 : anSort σ (nI j) (nI i9) = 2 := by
                show (if isSp (nI j) = true then _ else _) = _
                rw [if_pos esp_j, eix_j, eix_i, ez, if_pos c_22, rk_eq hI hj, if_pos hrk, if_neg hn0, if_pos (by unfold plainV; rw [ec9, evn_plain, c_55, decide_eq_false hn0]; rfl)]
              rw [e8]), ht⟩) (fun _ h => by cases h) dX2_sort_63
          · have c_55 := bI_n c_55
            refine lv_iconst (v := 3) hx hb dX2_sort_58 (by decide) ?_
            refine lv_goto (tgt := 63) hx hb dX2_sort_59 (by decide) ?_
            exact W.iret hx hb hr (fun t ht _ => ⟨_, rfl, (by
              have e8 : anSort σ (nI j) (nI i9) = 3 := by
                show (if isSp (nI j) = true then _ else _) = _
                rw [if_pos esp_j, eix_j, eix_i, ez, if_pos c_22, rk_eq hI hj, if_pos hrk, if_neg hn0, if_neg (by unfold plainV; rw [ec9, evn_plain, c_55, decide_eq_false hn0]; decide)]
              rw [e8]), ht⟩) (fun _ h => by cases h) dX2_sort_63
      · have c_31 := bI_n c_31
        refine lv_iconst (v := 1) hx hb dX2_sort_34 (by decide) ?_
        exact W.iret hx hb hr (fun t ht _ => ⟨_, rfl, (by
          have e8 : anSort σ (nI j) (nI i9) = 1 := by
            show (if isSp (nI j) = true then _ else _) = _
            rw [if_pos esp_j, eix_j, eix_i, ez, if_pos c_22, rk_eq hI hj, if_neg (by rw [kSR c_31]; decide)]
          rw [e8]), ht⟩) (fun _ h => by cases h) dX2_sort_35
    · have c_22 := bI_e c_22
      refine lv_iconst (v := (-1)) hx hb dX2_sort_25 (by decide) ?_
      exact W.iret hx hb hr (fun t ht _ => ⟨_, rfl, (by simp [anSort, esp_j, eix_j, ez, c_22]), ht⟩) (fun _ h => by cases h) dX2_sort_26
  · have c_4 := bI_e c_4
    refine lv_bipush (v := (-9)) hx hb dX2_sort_7 (by decide) ?_
    exact W.iret hx hb hr (fun t ht _ => ⟨_, rfl, (by simp [anSort, c_4]), ht⟩) (fun _ h => by cases h) dX2_sort_9
abbrev rmX2_number : Room := ({ frames := 2, cells := 0, slots := 0, locals := 42 } : Room)
set_option maxHeartbeats 4000000 in
set_option maxRecDepth 100000 in
theorem c_X2_number {x : Nat} {θ : TH} {σ : RS} {cc : Nat} (hZ : Sim cI cJ cC cH x θ σ M) (hI : Inv σ cc) {s0 i : Int32} : Met l yX2_number wsX2_number rmX2_number (va_Pc [.ref x, .int s0, .int i] (mwPre D (tyL cI cJ cC cH) M sz)) (vp_Sl (fun r => r = anNumber σ s0 i)) 0 0 (fun _ => False) := by
  refine Met.ofW (cc := cX2_number) (maxL := 5) (ret := (some .long)) (by decide) rfl ?_
  intro pr env s m args below meth c s₁ B hml hv
  obtain ⟨rfl, hsz, hW, hK, hO⟩ := hv
  have hx := B.exec
  have hb := B.bytes
  have hr := B.returns
  have hts := atoms_spec (ws := wsX2_number) B.pre
  have hown : s.vm.findClass RX2 = some m.cls := findClass_of_methodNamed B.named
  have hlocks := B.notSynchronized
  have F : CallFix pr m c cX2_number 5 s ([.ref x, .int s0, .int i] : List Value).toArray wsX2_number RX2 := ⟨hx, hb, hml, hown, hts⟩
  have hI_X0 : ∀ w ∈ wsX00, w ∈ wsX2_number := by decide +kernel
  have hI_X1 : ∀ w ∈ wsX10, w ∈ wsX2_number := by decide +kernel
  have hI_X2 : ∀ w ∈ wsX20, w ∈ wsX2_number := by decide +kernel
  have hl_fieldLink_RX2_11_SpliceBench_spindles_LSpliceBench_Holding := hts (.fieldLink RX2 11 "SpliceBench" "spindles" "[LSpliceBench$Holding;") (by decide +kernel)
  have hl_fieldLink_RX2_46_SpliceBench_Holding_kind_I := hts (.fieldLink RX2 46 "SpliceBench$Holding" "kind" "I") (by decide +kernel)
  have hl_fieldLink_RX2_130_SpliceBench_Card_number_J := hts (.fieldLink RX2 130 "SpliceBench$Card" "number" "J") (by decide +kernel)
  have hl_fieldLink_RX2_63_SpliceBench_Holding_numbers_J := hts (.fieldLink RX2 63 "SpliceBench$Holding" "numbers" "[J") (by decide +kernel)
  have hl_fieldLink_RX2_49_SpliceBench_Holding_label_I := hts (.fieldLink RX2 49 "SpliceBench$Holding" "label" "I") (by decide +kernel)
  have hl := lv_entry ([.ref x, .int s0, .int i]) (n := 5) (Nat.le_of_ble_eq_true rfl)
  rw [lg_entry_eq]
  generalize (lg_sl ([.ref x, .int s0, .int i]) ++ List.replicate (5 - (lg_sl ([.ref x, .int s0, .int i])).length) Slot.unset).toArray = ls at hl ⊢
  have hl : lv_has ls 5 [(0, .ref x), (1, .int s0), (2, .int i)] := hl
  refine lv_iload_n hx hb dX2_number_0 rfl (lv_at hl 1 rfl) ?_
  refine vp_callSi (W.runS (As := [.int s0]) (rest := []) F (c_X2_isSpindle) (cwS 1 hts gX2_number_X2_isSpindle rfl rfl rfl (by decide +kernel) ⟨Nat.le_of_ble_eq_true rfl, Nat.le_of_ble_eq_true rfl⟩) (mw_prS hK hO hW) rfl rfl hl.1 rfl (lv_room (Nat.le_of_ble_eq_true rfl)) dX2_number_1 ⟨Nat.zero_le _, Nat.zero_le _⟩) (fun r_1 er_1 => ?_)
  subst er_1
  refine lv_if_ne (tgt := 9) hx hb dX2_number_4 (by decide) (fun c_4 => ?_) (fun c_4 => ?_)
  · obtain ⟨j, hj, rfl⟩ := isSp_of (bI_n c_4)
    have esp_j := isSp_nI hj
    have eix_j : ix (nI j) = j := nI_clamp (by omega)
    refine lv_aload_n hx hb dX2_number_9 rfl (lv_at hl 0 rfl) ?_
    refine mw_get (C := RX2) (T := TX2) (N := 8) F hK hW hI_X2 hZ.b.1 rfl 0 (by decide) hl_fieldLink_RX2_11_SpliceBench_spindles_LSpliceBench_Holding rfl dX2_number_10 ?_
    refine lv_iload_n hx hb dX2_number_13 rfl (lv_at hl 1 rfl) ?_
    refine mw_aald F hK hW 3 hZ.b.2.1 rfl (vp_in_nI (show j < 10 by omega) (by omega)) dX2_number_14 ?_
    rw [nI_clamp (show j < 2 ^ 31 by omega)]
    refine W.eq (g2 := F0 m 15 ls [.ref (tSp θ j)]) rfl ?_
    obtain ⟨pn, na, ca, lb, f, g, hH, ez, hfs, hgs, hlb⟩ := hZ.hold hI hj
    have hp8 := hH.2.1
    refine lv_astore_n (lv' := [(3, .ref (tSp θ j)), (0, .ref x), (1, .int (nI j)), (2, .int i)]) hx hb dX2_number_15 rfl hl (by decide) rfl (fun ls hl => ?_)
    refine lv_aload_n hx hb dX2_number_16 rfl (lv_at hl 0 rfl) ?_
    refine mw_get (C := RX1) (T := TX1) (N := 5) F hK hW hI_X1 hH.1 rfl 0 (by decide) hl_fieldLink_RX2_46_SpliceBench_Holding_kind_I rfl dX2_number_17 ?_
    refine lv_iconst (v := 1) hx hb dX2_number_20 (by decide) ?_
    refine lv_icmp_ne (tgt := 30) hx hb dX2_number_21 (by decide) (fun c_21 => ?_) (fun c_21 => ?_)
    · refine lv_aload_n hx hb dX2_number_30 rfl (lv_at hl 0 rfl) ?_
      refine vp_callSi (W.runV (As := []) (rest := []) F (c_X1_isStrip hH.1) (cwV 0 hts gX2_number_X1_isStrip rfl rfl rfl (by decide +kernel) ⟨Nat.le_of_ble_eq_true rfl, Nat.le_of_ble_eq_true rfl⟩) (mw_prV (q := (RX1, TX1, 5)) hK hO hW rfl hH.1) rfl rfl hl.1 rfl (lv_room (Nat.le_of_ble_eq_true rfl)) dX2_number_31 ⟨Nat.zero_le _, Nat.zero_le _⟩) (fun r_2 er_2 => ?_)
      subst er_2
      refine lv_if_eq (tgt := 56) hx hb dX2_number_34 (by decide) (fun c_34 => ?_) (fun c_34 => ?_)
      · have c_34 := bI_e c_34
        refine lv_aload_n hx hb dX2_number_56 rfl (lv_at hl 0 rfl) ?_
        refine lv_iload_n hx hb dX2_number_57 rfl (lv_at hl 3 rfl) ?_
        refine va_csq (W.runV (As := [.int i]) (rest := []) F (c_X1_cardAt (i := i) hH) (cwV 1 hts gX2_number_X1_cardAt rfl rfl rfl (by decide +kernel) ⟨Nat.le_of_ble_eq_true rfl, Nat.le_of_ble_eq_true rfl⟩) (mw_prV (q := (RX1, TX1, 5)) hK hO hW rfl hH.1) rfl rfl hl.1 rfl (lv_room (Nat.le_of_ble_eq_true rfl)) dX2_number_58 ⟨Nat.zero_le _, Nat.zero_le _⟩) (fun r_3 er_3 => ?_)
        subst er_3
        by_cases hin : kRack (kOf σ j) = true ∧ inPl i (nI pn) = true
        · obtain ⟨hrk, hin⟩ := hin
          obtain ⟨i9, hi9, rfl⟩ := inPl_of hp8 hin
          have eix_i : ix (nI i9) = i9 := nI_clamp (by omega)
          rw [cdAt_rack hrk hp8 hi9, hgs hrk i9 hi9]
          rcases hZ.card hI hj hrk ez hp8 hi9 with h0 | ⟨c9, b9, eb9, hb9, hc9, ev9, ec9, hq9, h59⟩
          · rw [h0, cdR_0]
            show W _ _ _ _ _ _ _ _ _ _ _ _ _ _ _ (F0 m 61 ls [.null])
            refine lv_astoreN (lv' := [(4, .null), (3, .ref (tSp θ j)), (0, .ref x), (1, .int (nI j)), (2, .int (nI i9))]) hx hb dX2_number_61 hl (by decide) rfl (fun ls hl => ?_)
            refine lv_aloadN hx hb dX2_number_63 (lv_at hl 0 rfl) ?_
            refine lv_ifnonnullN hx hb dX2_number_65 ?_
            refine lv_lconst (v := 0) hx hb dX2_number_68 (by decide) ?_
            refine lv_goto (tgt := 77) hx hb dX2_number_69 (by decide) ?_
            exact W.lret hx hb hr (fun t ht _ => ⟨_, rfl, (by
              have e8 : anNumber σ (nI j) (nI i9) = 0 := by
                show (if isSp (nI j) = true then _ else _) = _
                rw [if_pos esp_j, eix_j, eix_i, if_neg c_21, ez, if_pos hin, rk_eq hI hj, if_pos hrk, if_pos h0]
              rw [e8]), ht⟩) (fun _ h => by cases h) dX2_number_77
          · have hn0 : ¬ pV σ j i9 = 0 := by rw [ev9]; exact lN_n0 (by omega)
            rw [cdR_n hn0, ec9]
            show W _ _ _ _ _ _ _ _ _ _ _ _ _ _ _ (F0 m 61 ls [.ref (tCa θ c9)])
            refine lv_astore (lv' := [(4, .ref (tCa θ c9)), (3, .ref (tSp θ j)), (0, .ref x), (1, .int (nI j)), (2, .int (nI i9))]) hx hb dX2_number_61 hl (by decide) rfl (fun ls hl => ?_)
            refine lv_aload hx hb dX2_number_63 (lv_at hl 0 rfl) ?_
            refine lv_ifnonnull (tgt := 72) hx hb dX2_number_65 (by decide) ?_
            refine lv_aload hx hb dX2_number_72 (lv_at hl 0 rfl) ?_
            refine mw_get (C := RX0) (T := TX0) (N := 3) F hK hW hI_X0 hq9 rfl 0 (by decide) hl_fieldLink_RX2_130_SpliceBench_Card_number_J rfl dX2_number_74 ?_
            exact W.lret hx hb hr (fun t ht _ => ⟨_, rfl, (by
              have e8 : anNumber σ (nI j) (nI i9) = sCn σ c9 := by
                show (if isSp (nI j) = true then _ else _) = _
                rw [if_pos esp_j, eix_j, eix_i, if_neg c_21, ez, if_pos hin, rk_eq hI hj, if_pos hrk, if_neg hn0, ec9]
              rw [e8]), ht⟩) (fun _ h => by cases h) dX2_number_77
        · rw [cdAt_none hin]
          show W _ _ _ _ _ _ _ _ _ _ _ _ _ _ _ (F0 m 61 ls [.null])
          refine lv_astoreN (lv' := [(4, .null), (3, .ref (tSp θ j)), (0, .ref x), (1, .int (nI j)), (2, .int i)]) hx hb dX2_number_61 hl (by decide) rfl (fun ls hl => ?_)
          refine lv_aloadN hx hb dX2_number_63 (lv_at hl 0 rfl) ?_
          refine lv_ifnonnullN hx hb dX2_number_65 ?_
          refine lv_lconst (v := 0) hx hb dX2_number_68 (by decide) ?_
          refine lv_goto (tgt := 77) hx hb dX2_number_69 (by decide) ?_
          exact W.lret hx hb hr (fun t ht _ => ⟨_, rfl, (by
            have e8 : anNumber σ (nI j) i = 0 := by
              show (if isSp (nI j) = true then _ else _) = _
              rw [if_pos esp_j, eix_j, if_neg c_21, ez]
              by_cases h7 : inPl i (nI pn) = true
              · rw [if_pos h7]
                exfalso
                obtain ⟨i7, hi7, -⟩ := inPl_of hp8 h7
                rcases kcase hI hj with h1 | h1 | h1 | h1
                · exact hZ.p0 hI hj ez hp8 (by omega) (Or.inl h1)
                · exact hZ.p0 hI hj ez hp8 (by omega) (Or.inr h1)
                · rw [c_34] at h1; cases h1
                · exact hin ⟨h1, h7⟩
              · rw [if_neg h7]
            rw [e8]), ht⟩) (fun _ h => by cases h) dX2_number_77
      · have c_34 := bI_n c_34
        refine lv_aload_n hx hb dX2_number_37 rfl (lv_at hl 0 rfl) ?_
        refine lv_iload_n hx hb dX2_number_38 rfl (lv_at hl 3 rfl) ?_
        refine vp_callSi (W.runV (As := [.int i]) (rest := []) F (c_X1_hasPlace (i := i) hH) (cwV 1 hts gX2_number_X1_hasPlace rfl rfl rfl (by decide +kernel) ⟨Nat.le_of_ble_eq_true rfl, Nat.le_of_ble_eq_true rfl⟩) (mw_prV (q := (RX1, TX1, 5)) hK hO hW rfl hH.1) rfl rfl hl.1 rfl (lv_room (Nat.le_of_ble_eq_true rfl)) dX2_number_39 ⟨Nat.zero_le _, Nat.zero_le _⟩) (fun r_4 er_4 => ?_)
        subst er_4
        refine lv_if_eq (tgt := 54) hx hb dX2_number_42 (by decide) (fun c_42 => ?_) (fun c_42 => ?_)
        · have c_42 := bI_e c_42
          refine lv_lconst (v := 0) hx hb dX2_number_54 (by decide) ?_
          exact W.lret hx hb hr (fun t ht _ => ⟨_, rfl, (by
            have e8 : anNumber σ (nI j) i = 0 := by
              show (if isSp (nI j) = true then _ else _) = _
              rw [if_pos esp_j, eix_j, if_neg c_21, ez, if_neg (by rw [c_42]; decide)]
            rw [e8]), ht⟩) (fun _ h => by cases h) dX2_number_55
        · have c_42 := bI_n c_42
          obtain ⟨i9, hi9, rfl⟩ := inPl_of hp8 c_42
          have eix_i : ix (nI i9) = i9 := nI_clamp (by omega)
          refine lv_aload_n hx hb dX2_number_45 rfl (lv_at hl 0 rfl) ?_
          refine mw_get (C := RX1) (T := TX1) (N := 5) F hK hW hI_X1 hH.1 rfl 2 (by decide) hl_fieldLink_RX2_63_SpliceBench_Holding_numbers_J rfl dX2_number_46 ?_
          refine lv_iload_n hx hb dX2_number_49 rfl (lv_at hl 3 rfl) ?_
          refine mw_lald F hK hW 1 hH.2.2.1 rfl (by rw [if_pos c_34]; exact vp_in_nI hi9 (by omega)) dX2_number_50 ?_
          rw [nI_clamp (show i9 < 2 ^ 31 by omega)]
          refine lv_goto (tgt := 55) hx hb dX2_number_51 (by decide) ?_
          exact W.lret hx hb hr (fun t ht _ => ⟨_, rfl, (by
            have e8 : anNumber σ (nI j) (nI i9) = pV σ j i9 := by
              show (if isSp (nI j) = true then _ else _) = _
              rw [if_pos esp_j, eix_j, eix_i, if_neg c_21, ez, if_pos c_42, rk_eq hI hj, if_neg (by rw [kSR c_34]; decide)]
            rw [e8]; exact hfs c_34 i9 hi9), ht⟩) (fun _ h => by cases h) dX2_number_55
    · refine lv_aload_n hx hb dX2_number_24 rfl (lv_at hl 0 rfl) ?_
      refine mw_get (C := RX1) (T := TX1) (N := 5) F hK hW hI_X1 hH.1 rfl 4 (by decide) hl_fieldLink_RX2_49_SpliceBench_Holding_label_I rfl dX2_number_25 ?_
      refine lv_i2l hx hb dX2_number_28 rfl ?_
      exact W.lret hx hb hr (fun t ht _ => ⟨_, rfl, (by
        have e8 : anNumber σ (nI j) i = lb.toInt64 := by
          show (if isSp (nI j) = true then _ else _) = _
          rw [if_pos esp_j, eix_j, if_pos c_21, ← hlb c_21]
        rw [e8]), ht⟩) (fun _ h => by cases h) dX2_number_29
  · have c_4 := bI_e c_4
    refine lv_lconst (v := 0) hx hb dX2_number_7 (by decide) ?_
    exact W.lret hx hb hr (fun t ht _ => ⟨_, rfl, (by simp [anNumber, c_4]), ht⟩) (fun _ h => by cases h) dX2_number_8
abbrev rmX2_shown : Room := ({ frames := 2, cells := 0, slots := 0, locals := 42 } : Room)
set_option maxHeartbeats 4000000 in
set_option maxRecDepth 100000 in
theorem c_X2_shown {x : Nat} {θ : TH} {σ : RS} {cc : Nat} (hZ : Sim cI cJ cC cH x θ σ M) (hI : Inv σ cc) {s0 i : Int32} : Met l yX2_shown wsX2_shown rmX2_shown (va_Pc [.ref x, .int s0, .int i] (mwPre D (tyL cI cJ cC cH) M sz)) (vp_Si (fun r => r = anShown σ s0 i)) 0 0 (fun _ => False) := by
  refine Met.ofW (cc := cX2_shown) (maxL := 4) (ret := (some .int)) (by decide) rfl ?_
  intro pr env s m args below meth c s₁ B hml hv
  obtain ⟨rfl, hsz, hW, hK, hO⟩ := hv
  have hx := B.exec
  have hb := B.bytes
  have hr := B.returns
  have hts := atoms_spec (ws := wsX2_shown) B.pre
  have hown : s.vm.findClass RX2 = some m.cls := findClass_of_methodNamed B.named
  have hlocks := B.notSynchronized
  have F : CallFix pr m c cX2_shown 4 s ([.ref x, .int s0, .int i] : List Value).toArray wsX2_shown RX2 := ⟨hx, hb, hml, hown, hts⟩
  have hI_X0 : ∀ w ∈ wsX00, w ∈ wsX2_shown := by decide +kernel
  have hI_X2 : ∀ w ∈ wsX20, w ∈ wsX2_shown := by decide +kernel
  have hl_fieldLink_RX2_11_SpliceBench_spindles_LSpliceBench_Holding := hts (.fieldLink RX2 11 "SpliceBench" "spindles" "[LSpliceBench$Holding;") (by decide +kernel)
  have hl_fieldLink_RX2_134_SpliceBench_Card_shown_I := hts (.fieldLink RX2 134 "SpliceBench$Card" "shown" "I") (by decide +kernel)
  have hl := lv_entry ([.ref x, .int s0, .int i]) (n := 4) (Nat.le_of_ble_eq_true rfl)
  rw [lg_entry_eq]
  generalize (lg_sl ([.ref x, .int s0, .int i]) ++ List.replicate (4 - (lg_sl ([.ref x, .int s0, .int i])).length) Slot.unset).toArray = ls at hl ⊢
  have hl : lv_has ls 4 [(0, .ref x), (1, .int s0), (2, .int i)] := hl
  refine lv_iload_n hx hb dX2_shown_0 rfl (lv_at hl 1 rfl) ?_
  refine vp_callSi (W.runS (As := [.int s0]) (rest := []) F (c_X2_isSpindle) (cwS 1 hts gX2_shown_X2_isSpindle rfl rfl rfl (by decide +kernel) ⟨Nat.le_of_ble_eq_true rfl, Nat.le_of_ble_eq_true rfl⟩) (mw_prS hK hO hW) rfl rfl hl.1 rfl (lv_room (Nat.le_of_ble_eq_true rfl)) dX2_shown_1 ⟨Nat.zero_le _, Nat.zero_le _⟩) (fun r_1 er_1 => ?_)
  subst er_1
  refine lv_if_ne (tgt := 10) hx hb dX2_shown_4 (by decide) (fun c_4 => ?_) (fun c_4 => ?_)
  · obtain ⟨j, hj, rfl⟩ := isSp_of (bI_n c_4)
    have esp_j := isSp_nI hj
    have eix_j : ix (nI j) = j := nI_clamp (by omega)
    refine lv_aload_n hx hb dX2_shown_10 rfl (lv_at hl 0 rfl) ?_
    refine mw_get (C := RX2) (T := TX2) (N := 8) F hK hW hI_X2 hZ.b.1 rfl 0 (by decide) hl_fieldLink_RX2_11_SpliceBench_spindles_LSpliceBench_Holding rfl dX2_shown_11 ?_
    refine lv_iload_n hx hb dX2_shown_14 rfl (lv_at hl 1 rfl) ?_
    refine mw_aald F hK hW 3 hZ.b.2.1 rfl (vp_in_nI (show j < 10 by omega) (by omega)) dX2_shown_15 ?_
    rw [nI_clamp (show j < 2 ^ 31 by omega)]
    refine W.eq (g2 := F0 m 16 ls [.ref (tSp θ j)]) rfl ?_
    obtain ⟨pn, na, ca, lb, f, g, hH, ez, hfs, hgs, hlb⟩ := hZ.hold hI hj
    have hp8 := hH.2.1
    refine lv_iload_n hx hb dX2_shown_16 rfl (lv_at hl 2 rfl) ?_
    refine va_csq (W.runV (As := [.int i]) (rest := []) F (c_X1_cardAt (i := i) hH) (cwV 1 hts gX2_shown_X1_cardAt rfl rfl rfl (by decide +kernel) ⟨Nat.le_of_ble_eq_true rfl, Nat.le_of_ble_eq_true rfl⟩) (mw_prV (q := (RX1, TX1, 5)) hK hO hW rfl hH.1) rfl rfl hl.1 rfl (lv_room (Nat.le_of_ble_eq_true rfl)) dX2_shown_17 ⟨Nat.zero_le _, Nat.zero_le _⟩) (fun r_2 er_2 => ?_)
    subst er_2
    by_cases hin : kRack (kOf σ j) = true ∧ inPl i (nI pn) = true
    · obtain ⟨hrk, hin⟩ := hin
      obtain ⟨i9, hi9, rfl⟩ := inPl_of hp8 hin
      have eix_i : ix (nI i9) = i9 := nI_clamp (by omega)
      rw [cdAt_rack hrk hp8 hi9, hgs hrk i9 hi9]
      rcases hZ.card hI hj hrk ez hp8 hi9 with h0 | ⟨c9, b9, eb9, hb9, hc9, ev9, ec9, hq9, h59⟩
      · rw [h0, cdR_0]
        show W _ _ _ _ _ _ _ _ _ _ _ _ _ _ _ (F0 m 20 ls [.null])
        refine lv_astore_nN (lv' := [(3, .null), (0, .ref x), (1, .int (nI j)), (2, .int (nI i9))]) hx hb dX2_shown_20 rfl hl (by decide) rfl (fun ls hl => ?_)
        refine lv_aload_nN hx hb dX2_shown_21 rfl (lv_at hl 0 rfl) ?_
        refine lv_ifnonnullN hx hb dX2_shown_22 ?_
        refine lv_iconst (v := (-1)) hx hb dX2_shown_25 (by decide) ?_
        refine lv_goto (tgt := 33) hx hb dX2_shown_26 (by decide) ?_
        exact W.iret hx hb hr (fun t ht _ => ⟨_, rfl, (by
          have e8 : anShown σ (nI j) (nI i9) = -1 := by
            show (if isSp (nI j) = true then _ else _) = _
            rw [if_pos esp_j, eix_j, ez, rk_eq hI hj, eix_i, if_neg (fun z => z.2.2 h0)]
          rw [e8]), ht⟩) (fun _ h => by cases h) dX2_shown_33
      · have hn0 : ¬ pV σ j i9 = 0 := by rw [ev9]; exact lN_n0 (by omega)
        rw [cdR_n hn0, ec9]
        show W _ _ _ _ _ _ _ _ _ _ _ _ _ _ _ (F0 m 20 ls [.ref (tCa θ c9)])
        refine lv_astore_n (lv' := [(3, .ref (tCa θ c9)), (0, .ref x), (1, .int (nI j)), (2, .int (nI i9))]) hx hb dX2_shown_20 rfl hl (by decide) rfl (fun ls hl => ?_)
        refine lv_aload_n hx hb dX2_shown_21 rfl (lv_at hl 0 rfl) ?_
        refine lv_ifnonnull (tgt := 29) hx hb dX2_shown_22 (by decide) ?_
        refine lv_aload_n hx hb dX2_shown_29 rfl (lv_at hl 0 rfl) ?_
        refine mw_get (C := RX0) (T := TX0) (N := 3) F hK hW hI_X0 hq9 rfl 2 (by decide) hl_fieldLink_RX2_134_SpliceBench_Card_shown_I rfl dX2_shown_30 ?_
        exact W.iret hx hb hr (fun t ht _ => ⟨_, rfl, (by
          have e8 : anShown σ (nI j) (nI i9) = sCs σ c9 := by
            show (if isSp (nI j) = true then _ else _) = _
            rw [if_pos esp_j, eix_j, ez, rk_eq hI hj, eix_i, if_pos ⟨hrk, hin, hn0⟩, ec9]
          rw [e8]), ht⟩) (fun _ h => by cases h) dX2_shown_33
    · rw [cdAt_none hin]
      show W _ _ _ _ _ _ _ _ _ _ _ _ _ _ _ (F0 m 20 ls [.null])
      refine lv_astore_nN (lv' := [(3, .null), (0, .ref x), (1, .int (nI j)), (2, .int i)]) hx hb dX2_shown_20 rfl hl (by decide) rfl (fun ls hl => ?_)
      refine lv_aload_nN hx hb dX2_shown_21 rfl (lv_at hl 0 rfl) ?_
      refine lv_ifnonnullN hx hb dX2_shown_22 ?_
      refine lv_iconst (v := (-1)) hx hb dX2_shown_25 (by decide) ?_
      refine lv_goto (tgt := 33) hx hb dX2_shown_26 (by decide) ?_
      exact W.iret hx hb hr (fun t ht _ => ⟨_, rfl, (by
        have e8 : anShown σ (nI j) i = -1 := by
          show (if isSp (nI j) = true then _ else _) = _
          rw [if_pos esp_j, eix_j, ez, rk_eq hI hj, if_neg (fun z => hin ⟨z.1, z.2.1⟩)]
        rw [e8]), ht⟩) (fun _ h => by cases h) dX2_shown_33
  · have c_4 := bI_e c_4
    refine lv_bipush (v := (-9)) hx hb dX2_shown_7 (by decide) ?_
    exact W.iret hx hb hr (fun t ht _ => ⟨_, rfl, (by simp [anShown, c_4]), ht⟩) (fun _ h => by cases h) dX2_shown_9
end X2A
end
