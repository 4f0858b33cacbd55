section
-- ===== PART A: goes FIRST, ahead of the names: the tables' words, and 'selects' of the private methods out of them =====
/-- a private method of a class that the tables say can be made, by its rows of tables_1 -/
def lw_okq (q : MethodName × Nat) : Prop := (q.1.cls ≠ "java/lang/invoke/MethodHandle" ∧ q.1.cls ≠ "java/lang/invoke/VarHandle") ∧ Cond.instantiable q.1.cls q.2 ∈ tables_1 ∧ Cond.privateMethod q.1 ∈ tables_1 ∧ Cond.instanceMethod q.1 ∈ tables_1
theorem lw_p0 : lw_okq (⟨"VeinCourt", "isPast", "(I)Z"⟩, 7) := ⟨⟨by decide +kernel, by decide +kernel⟩, List.mem_of_getElem? (i := 9) (by decide +kernel), List.mem_of_getElem? (i := 157) (by decide +kernel), List.mem_of_getElem? (i := 158) (by decide +kernel)⟩
theorem lw_p1 : lw_okq (⟨"VeinCourt$Book", "setInOrder", "(II)V"⟩, 5) := ⟨⟨by decide +kernel, by decide +kernel⟩, List.mem_of_getElem? (i := 17) (by decide +kernel), List.mem_of_getElem? (i := 182) (by decide +kernel), List.mem_of_getElem? (i := 183) (by decide +kernel)⟩
theorem lw_p2 : lw_okq (⟨"VeinCourt", "refusalOfClaim", "(ZII)I"⟩, 7) := ⟨⟨by decide +kernel, by decide +kernel⟩, List.mem_of_getElem? (i := 9) (by decide +kernel), List.mem_of_getElem? (i := 205) (by decide +kernel), List.mem_of_getElem? (i := 206) (by decide +kernel)⟩
theorem lw_p3 : lw_okq (⟨"VeinCourt", "goThrough", "(II)V"⟩, 7) := ⟨⟨by decide +kernel, by decide +kernel⟩, List.mem_of_getElem? (i := 9) (by decide +kernel), List.mem_of_getElem? (i := 265) (by decide +kernel), List.mem_of_getElem? (i := 266) (by decide +kernel)⟩
theorem lw_p4 : lw_okq (⟨"VeinCourt$Standing", "clear", "()V"⟩, 3) := ⟨⟨by decide +kernel, by decide +kernel⟩, List.mem_of_getElem? (i := 45) (by decide +kernel), List.mem_of_getElem? (i := 273) (by decide +kernel), List.mem_of_getElem? (i := 274) (by decide +kernel)⟩
theorem lw_p5 : lw_okq (⟨"VeinCourt$Standing", "apply", "(LVeinCourt$Book;II)V"⟩, 3) := ⟨⟨by decide +kernel, by decide +kernel⟩, List.mem_of_getElem? (i := 45) (by decide +kernel), List.mem_of_getElem? (i := 283) (by decide +kernel), List.mem_of_getElem? (i := 284) (by decide +kernel)⟩
theorem lw_p6 : lw_okq (⟨"VeinCourt$Standing", "addClaim", "(LVeinCourt$Book;I)V"⟩, 3) := ⟨⟨by decide +kernel, by decide +kernel⟩, List.mem_of_getElem? (i := 45) (by decide +kernel), List.mem_of_getElem? (i := 287) (by decide +kernel), List.mem_of_getElem? (i := 288) (by decide +kernel)⟩
theorem lw_p7 : lw_okq (⟨"VeinCourt$Claim", "setFeet", "(II)V"⟩, 12) := ⟨⟨by decide +kernel, by decide +kernel⟩, List.mem_of_getElem? (i := 52) (by decide +kernel), List.mem_of_getElem? (i := 296) (by decide +kernel), List.mem_of_getElem? (i := 297) (by decide +kernel)⟩
theorem lw_p8 : lw_okq (⟨"VeinCourt$Claim", "passTo", "(II)V"⟩, 12) := ⟨⟨by decide +kernel, by decide +kernel⟩, List.mem_of_getElem? (i := 52) (by decide +kernel), List.mem_of_getElem? (i := 300) (by decide +kernel), List.mem_of_getElem? (i := 301) (by decide +kernel)⟩
theorem lw_p9 : lw_okq (⟨"VeinCourt$Claim", "setWorked", "(I)V"⟩, 12) := ⟨⟨by decide +kernel, by decide +kernel⟩, List.mem_of_getElem? (i := 52) (by decide +kernel), List.mem_of_getElem? (i := 304) (by decide +kernel), List.mem_of_getElem? (i := 305) (by decide +kernel)⟩
theorem lw_p10 : lw_okq (⟨"VeinCourt$Standing", "bringOre", "(III)V"⟩, 3) := ⟨⟨by decide +kernel, by decide +kernel⟩, List.mem_of_getElem? (i := 45) (by decide +kernel), List.mem_of_getElem? (i := 308) (by decide +kernel), List.mem_of_getElem? (i := 309) (by decide +kernel)⟩
theorem lw_p11 : lw_okq (⟨"VeinCourt$Claim", "takeNick", "(III)V"⟩, 12) := ⟨⟨by decide +kernel, by decide +kernel⟩, List.mem_of_getElem? (i := 52) (by decide +kernel), List.mem_of_getElem? (i := 329) (by decide +kernel), List.mem_of_getElem? (i := 330) (by decide +kernel)⟩
theorem lw_p12 : lw_okq (⟨"VeinCourt$Claim", "addNick", "(II)V"⟩, 12) := ⟨⟨by decide +kernel, by decide +kernel⟩, List.mem_of_getElem? (i := 52) (by decide +kernel), List.mem_of_getElem? (i := 337) (by decide +kernel), List.mem_of_getElem? (i := 338) (by decide +kernel)⟩
theorem lw_p13 : lw_okq (⟨"VeinCourt$Claim", "moveShares", "(III)V"⟩, 12) := ⟨⟨by decide +kernel, by decide +kernel⟩, List.mem_of_getElem? (i := 52) (by decide +kernel), List.mem_of_getElem? (i := 341) (by decide +kernel), List.mem_of_getElem? (i := 342) (by decide +kernel)⟩
theorem lw_p14 : lw_okq (⟨"VeinCourt", "tellOf", "(LVeinCourt$Claim;II)I"⟩, 7) := ⟨⟨by decide +kernel, by decide +kernel⟩, List.mem_of_getElem? (i := 9) (by decide +kernel), List.mem_of_getElem? (i := 359) (by decide +kernel), List.mem_of_getElem? (i := 360) (by decide +kernel)⟩
theorem lw_p15 : lw_okq (⟨"VeinCourt", "noteHolders", "()V"⟩, 7) := ⟨⟨by decide +kernel, by decide +kernel⟩, List.mem_of_getElem? (i := 9) (by decide +kernel), List.mem_of_getElem? (i := 396) (by decide +kernel), List.mem_of_getElem? (i := 397) (by decide +kernel)⟩
def lw_privs_1 : List (MethodName × Nat) := [(⟨"VeinCourt", "isPast", "(I)Z"⟩, 7), (⟨"VeinCourt$Book", "setInOrder", "(II)V"⟩, 5), (⟨"VeinCourt", "refusalOfClaim", "(ZII)I"⟩, 7), (⟨"VeinCourt", "goThrough", "(II)V"⟩, 7), (⟨"VeinCourt$Standing", "clear", "()V"⟩, 3), (⟨"VeinCourt$Standing", "apply", "(LVeinCourt$Book;II)V"⟩, 3), (⟨"VeinCourt$Standing", "addClaim", "(LVeinCourt$Book;I)V"⟩, 3), (⟨"VeinCourt$Claim", "setFeet", "(II)V"⟩, 12), (⟨"VeinCourt$Claim", "passTo", "(II)V"⟩, 12), (⟨"VeinCourt$Claim", "setWorked", "(I)V"⟩, 12), (⟨"VeinCourt$Standing", "bringOre", "(III)V"⟩, 3), (⟨"VeinCourt$Claim", "takeNick", "(III)V"⟩, 12), (⟨"VeinCourt$Claim", "addNick", "(II)V"⟩, 12), (⟨"VeinCourt$Claim", "moveShares", "(III)V"⟩, 12), (⟨"VeinCourt", "tellOf", "(LVeinCourt$Claim;II)I"⟩, 7), (⟨"VeinCourt", "noteHolders", "()V"⟩, 7)]
theorem lw_r1 : ∀ q ∈ lw_privs_1, lw_okq q := List.forall_mem_cons.mpr ⟨lw_p0, List.forall_mem_cons.mpr ⟨lw_p1, List.forall_mem_cons.mpr ⟨lw_p2, List.forall_mem_cons.mpr ⟨lw_p3, List.forall_mem_cons.mpr ⟨lw_p4, List.forall_mem_cons.mpr ⟨lw_p5, List.forall_mem_cons.mpr ⟨lw_p6, List.forall_mem_cons.mpr ⟨lw_p7, List.forall_mem_cons.mpr ⟨lw_p8, List.forall_mem_cons.mpr ⟨lw_p9, List.forall_mem_cons.mpr ⟨lw_p10, List.forall_mem_cons.mpr ⟨lw_p11, List.forall_mem_cons.mpr ⟨lw_p12, List.forall_mem_cons.mpr ⟨lw_p13, List.forall_mem_cons.mpr ⟨lw_p14, List.forall_mem_cons.mpr ⟨lw_p15, fun _ h => absurd h List.not_mem_nil⟩⟩⟩⟩⟩⟩⟩⟩⟩⟩⟩⟩⟩⟩⟩⟩
theorem lw_p16 : lw_okq (⟨"VeinCourtModel", "tell", "(IIII)I"⟩, 31) := ⟨⟨by decide +kernel, by decide +kernel⟩, List.mem_of_getElem? (i := 423) (by decide +kernel), List.mem_of_getElem? (i := 548) (by decide +kernel), List.mem_of_getElem? (i := 549) (by decide +kernel)⟩
theorem lw_p17 : lw_okq (⟨"VeinCourtModel", "wrong", "(IIZ)I"⟩, 31) := ⟨⟨by decide +kernel, by decide +kernel⟩, List.mem_of_getElem? (i := 423) (by decide +kernel), List.mem_of_getElem? (i := 556) (by decide +kernel), List.mem_of_getElem? (i := 557) (by decide +kernel)⟩
theorem lw_p18 : lw_okq (⟨"VeinCourtModel", "isFact", "(I)Z"⟩, 31) := ⟨⟨by decide +kernel, by decide +kernel⟩, List.mem_of_getElem? (i := 423) (by decide +kernel), List.mem_of_getElem? (i := 560) (by decide +kernel), List.mem_of_getElem? (i := 561) (by decide +kernel)⟩
theorem lw_p19 : lw_okq (⟨"VeinCourtModel", "go", "(II)V"⟩, 31) := ⟨⟨by decide +kernel, by decide +kernel⟩, List.mem_of_getElem? (i := 423) (by decide +kernel), List.mem_of_getElem? (i := 603) (by decide +kernel), List.mem_of_getElem? (i := 604) (by decide +kernel)⟩
theorem lw_p20 : lw_okq (⟨"VeinCourtModel", "isKnown", "(II)Z"⟩, 31) := ⟨⟨by decide +kernel, by decide +kernel⟩, List.mem_of_getElem? (i := 423) (by decide +kernel), List.mem_of_getElem? (i := 607) (by decide +kernel), List.mem_of_getElem? (i := 608) (by decide +kernel)⟩
theorem lw_p21 : lw_okq (⟨"VeinCourtModel", "comes", "(I)V"⟩, 31) := ⟨⟨by decide +kernel, by decide +kernel⟩, List.mem_of_getElem? (i := 423) (by decide +kernel), List.mem_of_getElem? (i := 611) (by decide +kernel), List.mem_of_getElem? (i := 612) (by decide +kernel)⟩
theorem lw_p22 : lw_okq (⟨"VeinCourtModel", "holds", "(III)V"⟩, 31) := ⟨⟨by decide +kernel, by decide +kernel⟩, List.mem_of_getElem? (i := 423) (by decide +kernel), List.mem_of_getElem? (i := 615) (by decide +kernel), List.mem_of_getElem? (i := 616) (by decide +kernel)⟩
theorem lw_p23 : lw_okq (⟨"VeinCourtModel", "digs", "(I)V"⟩, 31) := ⟨⟨by decide +kernel, by decide +kernel⟩, List.mem_of_getElem? (i := 423) (by decide +kernel), List.mem_of_getElem? (i := 619) (by decide +kernel), List.mem_of_getElem? (i := 620) (by decide +kernel)⟩
theorem lw_p24 : lw_okq (⟨"VeinCourtModel", "ownerOf", "(II)I"⟩, 31) := ⟨⟨by decide +kernel, by decide +kernel⟩, List.mem_of_getElem? (i := 423) (by decide +kernel), List.mem_of_getElem? (i := 623) (by decide +kernel), List.mem_of_getElem? (i := 624) (by decide +kernel)⟩
theorem lw_p25 : lw_okq (⟨"VeinCourtModel", "comesTo", "(III)V"⟩, 31) := ⟨⟨by decide +kernel, by decide +kernel⟩, List.mem_of_getElem? (i := 423) (by decide +kernel), List.mem_of_getElem? (i := 627) (by decide +kernel), List.mem_of_getElem? (i := 628) (by decide +kernel)⟩
theorem lw_p26 : lw_okq (⟨"VeinCourtModel", "nicked", "(III)V"⟩, 31) := ⟨⟨by decide +kernel, by decide +kernel⟩, List.mem_of_getElem? (i := 423) (by decide +kernel), List.mem_of_getElem? (i := 631) (by decide +kernel), List.mem_of_getElem? (i := 632) (by decide +kernel)⟩
theorem lw_p27 : lw_okq (⟨"VeinCourtModel", "owned", "(I)I"⟩, 31) := ⟨⟨by decide +kernel, by decide +kernel⟩, List.mem_of_getElem? (i := 423) (by decide +kernel), List.mem_of_getElem? (i := 640) (by decide +kernel), List.mem_of_getElem? (i := 641) (by decide +kernel)⟩
theorem lw_p28 : lw_okq (⟨"VeinCourtModel", "withdrawn", "()I"⟩, 31) := ⟨⟨by decide +kernel, by decide +kernel⟩, List.mem_of_getElem? (i := 423) (by decide +kernel), List.mem_of_getElem? (i := 672) (by decide +kernel), List.mem_of_getElem? (i := 673) (by decide +kernel)⟩
def lw_privs_2 : List (MethodName × Nat) := [(⟨"VeinCourtModel", "tell", "(IIII)I"⟩, 31), (⟨"VeinCourtModel", "wrong", "(IIZ)I"⟩, 31), (⟨"VeinCourtModel", "isFact", "(I)Z"⟩, 31), (⟨"VeinCourtModel", "go", "(II)V"⟩, 31), (⟨"VeinCourtModel", "isKnown", "(II)Z"⟩, 31), (⟨"VeinCourtModel", "comes", "(I)V"⟩, 31), (⟨"VeinCourtModel", "holds", "(III)V"⟩, 31), (⟨"VeinCourtModel", "digs", "(I)V"⟩, 31), (⟨"VeinCourtModel", "ownerOf", "(II)I"⟩, 31), (⟨"VeinCourtModel", "comesTo", "(III)V"⟩, 31), (⟨"VeinCourtModel", "nicked", "(III)V"⟩, 31), (⟨"VeinCourtModel", "owned", "(I)I"⟩, 31), (⟨"VeinCourtModel", "withdrawn", "()I"⟩, 31)]
theorem lw_r2 : ∀ q ∈ lw_privs_2, lw_okq q := List.forall_mem_cons.mpr ⟨lw_p16, List.forall_mem_cons.mpr ⟨lw_p17, List.forall_mem_cons.mpr ⟨lw_p18, List.forall_mem_cons.mpr ⟨lw_p19, List.forall_mem_cons.mpr ⟨lw_p20, List.forall_mem_cons.mpr ⟨lw_p21, List.forall_mem_cons.mpr ⟨lw_p22, List.forall_mem_cons.mpr ⟨lw_p23, List.forall_mem_cons.mpr ⟨lw_p24, List.forall_mem_cons.mpr ⟨lw_p25, List.forall_mem_cons.mpr ⟨lw_p26, List.forall_mem_cons.mpr ⟨lw_p27, List.forall_mem_cons.mpr ⟨lw_p28, fun _ h => absurd h List.not_mem_nil⟩⟩⟩⟩⟩⟩⟩⟩⟩⟩⟩⟩⟩
def lw_privs : List (MethodName × Nat) := lw_privs_1 ++ (lw_privs_2)
def lw_tbl : List Cond := k2_sels lw_privs ++ tables_1
theorem lw_privs_ok : ∀ q ∈ lw_privs, lw_okq q := by
  show ∀ q ∈ lw_privs_1 ++ (lw_privs_2), lw_okq q
  exact List.forall_mem_append.mpr ⟨lw_r1, lw_r2⟩
end
section
def RX0 : String := "VeinCourt$Book"
def TX0 : u_T := fun k => match k with
  | 0 => ("VeinCourt$Book", "clock", "I", false)
  | 1 => ("VeinCourt$Book", "count", "I", false)
  | 2 => ("VeinCourt$Book", "stakes", "I", false)
  | 3 => ("VeinCourt$Book", "cells", "[I", true)
  | _ => ("VeinCourt$Book", "order", "[I", true)
def tyX0 : Nat → FieldType := fun k => match k with
  | 0 => .int
  | 1 => .int
  | 2 => .int
  | 3 => .array .int
  | _ => .array .int
abbrev wsX00 : List Cond := u_ws RX0 TX0 5
theorem nmX0 : ∀ a, a < 5 → ∀ b, b < 5 → a ≠ b → (TX0 a).2.1 ≠ (TX0 b).2.1 := by decide +kernel
theorem tyX0_ok : ∀ k, k < 5 → parseFieldDescriptor (TX0 k).2.2.1 = some (tyX0 k) := by decide +kernel
abbrev cX0_init : ByteArray := prog_2_method_1_code
def yX0_init : MethodName := ⟨RX0, "<init>", "()V"⟩
abbrev cX0_has : ByteArray := prog_2_method_2_code
def yX0_has : MethodName := ⟨RX0, "has", "(I)Z"⟩
abbrev cX0_isFull : ByteArray := prog_2_method_3_code
def yX0_isFull : MethodName := ⟨RX0, "isFull", "()Z"⟩
abbrev cX0_isStake : ByteArray := prog_2_method_4_code
def yX0_isStake : MethodName := ⟨RX0, "isStake", "(I)Z"⟩
abbrev cX0_isWithdrawn : ByteArray := prog_2_method_5_code
def yX0_isWithdrawn : MethodName := ⟨RX0, "isWithdrawn", "(I)Z"⟩
abbrev cX0_isKnown : ByteArray := prog_2_method_6_code
def yX0_isKnown : MethodName := ⟨RX0, "isKnown", "(II)Z"⟩
abbrev cX0_countWithdrawn : ByteArray := prog_2_method_7_code
def yX0_countWithdrawn : MethodName := ⟨RX0, "countWithdrawn", "()I"⟩
abbrev cX0_get : ByteArray := prog_2_method_8_code
def yX0_get : MethodName := ⟨RX0, "get", "(II)I"⟩
abbrev cX0_put : ByteArray := prog_2_method_9_code
def yX0_put : MethodName := ⟨RX0, "put", "(III)V"⟩
abbrev cX0_putFeet : ByteArray := prog_2_method_10_code
def yX0_putFeet : MethodName := ⟨RX0, "putFeet", "(III)V"⟩
abbrev cX0_appendOf : ByteArray := prog_2_method_11_code
def yX0_appendOf : MethodName := ⟨RX0, "appendOf", "(III)I"⟩
abbrev cX0_append : ByteArray := prog_2_method_12_code
def yX0_append : MethodName := ⟨RX0, "append", "(III)I"⟩
abbrev cX0_setInOrder : ByteArray := prog_2_method_13_code
def yX0_setInOrder : MethodName := ⟨RX0, "setInOrder", "(II)V"⟩
abbrev cX0_copyFrom : ByteArray := prog_2_method_14_code
def yX0_copyFrom : MethodName := ⟨RX0, "copyFrom", "(LVeinCourt$Book;)V"⟩
def RX1 : String := "VeinCourt$Claim"
def TX1 : u_T := fun k => match k with
  | 0 => ("VeinCourt$Claim", "stands", "Z", false)
  | 1 => ("VeinCourt$Claim", "number", "I", false)
  | 2 => ("VeinCourt$Claim", "vein", "I", false)
  | 3 => ("VeinCourt$Claim", "first", "I", false)
  | 4 => ("VeinCourt$Claim", "last", "I", false)
  | 5 => ("VeinCourt$Claim", "holder", "I", false)
  | 6 => ("VeinCourt$Claim", "worked", "I", false)
  | 7 => ("VeinCourt$Claim", "nicks", "I", false)
  | 8 => ("VeinCourt$Claim", "nicker", "I", false)
  | 9 => ("VeinCourt$Claim", "firstNick", "I", false)
  | 10 => ("VeinCourt$Claim", "lastNick", "I", false)
  | _ => ("VeinCourt$Claim", "shares", "[I", true)
def tyX1 : Nat → FieldType := fun k => match k with
  | 0 => .boolean
  | 1 => .int
  | 2 => .int
  | 3 => .int
  | 4 => .int
  | 5 => .int
  | 6 => .int
  | 7 => .int
  | 8 => .int
  | 9 => .int
  | 10 => .int
  | _ => .array .int
abbrev wsX10 : List Cond := u_ws RX1 TX1 12
theorem nmX1 : ∀ a, a < 12 → ∀ b, b < 12 → a ≠ b → (TX1 a).2.1 ≠ (TX1 b).2.1 := by decide +kernel
theorem tyX1_ok : ∀ k, k < 12 → parseFieldDescriptor (TX1 k).2.2.1 = some (tyX1 k) := by decide +kernel
abbrev cX1_init : ByteArray := prog_3_method_1_code
def yX1_init : MethodName := ⟨RX1, "<init>", "()V"⟩
abbrev cX1_begin : ByteArray := prog_3_method_2_code
def yX1_begin : MethodName := ⟨RX1, "begin", "(LVeinCourt$Book;I)V"⟩
abbrev cX1_turn : ByteArray := prog_3_method_3_code
def yX1_turn : MethodName := ⟨RX1, "turn", "(LVeinCourt$Book;II)V"⟩
abbrev cX1_isOver : ByteArray := prog_3_method_4_code
def yX1_isOver : MethodName := ⟨RX1, "isOver", "(II)Z"⟩
abbrev cX1_isIdle : ByteArray := prog_3_method_5_code
def yX1_isIdle : MethodName := ⟨RX1, "isIdle", "(II)Z"⟩
abbrev cX1_setFeet : ByteArray := prog_3_method_6_code
def yX1_setFeet : MethodName := ⟨RX1, "setFeet", "(II)V"⟩
abbrev cX1_setWorked : ByteArray := prog_3_method_7_code
def yX1_setWorked : MethodName := ⟨RX1, "setWorked", "(I)V"⟩
abbrev cX1_passTo : ByteArray := prog_3_method_8_code
def yX1_passTo : MethodName := ⟨RX1, "passTo", "(II)V"⟩
abbrev cX1_takeNick : ByteArray := prog_3_method_9_code
def yX1_takeNick : MethodName := ⟨RX1, "takeNick", "(III)V"⟩
abbrev cX1_addNick : ByteArray := prog_3_method_10_code
def yX1_addNick : MethodName := ⟨RX1, "addNick", "(II)V"⟩
abbrev cX1_moveShares : ByteArray := prog_3_method_11_code
def yX1_moveShares : MethodName := ⟨RX1, "moveShares", "(III)V"⟩
def RX2 : String := "VeinCourt$Standing"
def TX2 : u_T := fun k => match k with
  | 0 => ("VeinCourt$Standing", "count", "I", false)
  | 1 => ("VeinCourt$Standing", "claims", "[LVeinCourt$Claim;", true)
  | _ => ("VeinCourt$Standing", "ore", "[I", true)
def tyX2 : Nat → FieldType := fun k => match k with
  | 0 => .int
  | 1 => .array (.object "VeinCourt$Claim")
  | _ => .array .int
abbrev wsX20 : List Cond := u_ws RX2 TX2 3
theorem nmX2 : ∀ a, a < 3 → ∀ b, b < 3 → a ≠ b → (TX2 a).2.1 ≠ (TX2 b).2.1 := by decide +kernel
theorem tyX2_ok : ∀ k, k < 3 → parseFieldDescriptor (TX2 k).2.2.1 = some (tyX2 k) := by decide +kernel
abbrev cX2_init : ByteArray := prog_4_method_1_code
def yX2_init : MethodName := ⟨RX2, "<init>", "()V"⟩
abbrev cX2_goThrough : ByteArray := prog_4_method_2_code
def yX2_goThrough : MethodName := ⟨RX2, "goThrough", "(LVeinCourt$Book;III)V"⟩
abbrev cX2_find : ByteArray := prog_4_method_3_code
def yX2_find : MethodName := ⟨RX2, "find", "(I)LVeinCourt$Claim;"⟩
abbrev cX2_eldestOver : ByteArray := prog_4_method_4_code
def yX2_eldestOver : MethodName := ⟨RX2, "eldestOver", "(II)LVeinCourt$Claim;"⟩
abbrev cX2_holderOver : ByteArray := prog_4_method_5_code
def yX2_holderOver : MethodName := ⟨RX2, "holderOver", "(II)I"⟩
abbrev cX2_countOver : ByteArray := prog_4_method_6_code
def yX2_countOver : MethodName := ⟨RX2, "countOver", "(II)I"⟩
abbrev cX2_countOwned : ByteArray := prog_4_method_7_code
def yX2_countOwned : MethodName := ⟨RX2, "countOwned", "(LVeinCourt$Claim;)I"⟩
abbrev cX2_clear : ByteArray := prog_4_method_8_code
def yX2_clear : MethodName := ⟨RX2, "clear", "()V"⟩
abbrev cX2_apply : ByteArray := prog_4_method_9_code
def yX2_apply : MethodName := ⟨RX2, "apply", "(LVeinCourt$Book;II)V"⟩
abbrev cX2_addClaim : ByteArray := prog_4_method_10_code
def yX2_addClaim : MethodName := ⟨RX2, "addClaim", "(LVeinCourt$Book;I)V"⟩
abbrev cX2_bringOre : ByteArray := prog_4_method_11_code
def yX2_bringOre : MethodName := ⟨RX2, "bringOre", "(III)V"⟩
def RX3 : String := "VeinCourt"
def TX3 : u_T := fun k => match k with
  | 0 => ("VeinCourt", "book", "LVeinCourt$Book;", true)
  | 1 => ("VeinCourt", "keptBook", "LVeinCourt$Book;", true)
  | 2 => ("VeinCourt", "anythingKept", "Z", false)
  | 3 => ("VeinCourt", "reach", "I", false)
  | 4 => ("VeinCourt", "idleDays", "I", false)
  | 5 => ("VeinCourt", "standing", "LVeinCourt$Standing;", true)
  | _ => ("VeinCourt", "holders", "[I", true)
def tyX3 : Nat → FieldType := fun k => match k with
  | 0 => .object "VeinCourt$Book"
  | 1 => .object "VeinCourt$Book"
  | 2 => .boolean
  | 3 => .int
  | 4 => .int
  | 5 => .object "VeinCourt$Standing"
  | _ => .array .int
abbrev wsX30 : List Cond := u_ws RX3 TX3 7
theorem nmX3 : ∀ a, a < 7 → ∀ b, b < 7 → a ≠ b → (TX3 a).2.1 ≠ (TX3 b).2.1 := by decide +kernel
theorem tyX3_ok : ∀ k, k < 7 → parseFieldDescriptor (TX3 k).2.2.1 = some (tyX3 k) := by decide +kernel
abbrev cX3_init : ByteArray := prog_1_method_1_code
def yX3_init : MethodName := ⟨RX3, "<init>", "()V"⟩
abbrev cX3_day : ByteArray := prog_1_method_2_code
def yX3_day : MethodName := ⟨RX3, "day", "(I)I"⟩
abbrev cX3_rule : ByteArray := prog_1_method_3_code
def yX3_rule : MethodName := ⟨RX3, "rule", "(II)I"⟩
abbrev cX3_stake : ByteArray := prog_1_method_4_code
def yX3_stake : MethodName := ⟨RX3, "stake", "(IIII)I"⟩
abbrev cX3_work : ByteArray := prog_1_method_5_code
def yX3_work : MethodName := ⟨RX3, "work", "(II)I"⟩
abbrev cX3_nick : ByteArray := prog_1_method_6_code
def yX3_nick : MethodName := ⟨RX3, "nick", "(III)I"⟩
abbrev cX3_give : ByteArray := prog_1_method_7_code
def yX3_give : MethodName := ⟨RX3, "give", "(II)I"⟩
abbrev cX3_view : ByteArray := prog_1_method_8_code
def yX3_view : MethodName := ⟨RX3, "view", "(IIII)I"⟩
abbrev cX3_sell : ByteArray := prog_1_method_9_code
def yX3_sell : MethodName := ⟨RX3, "sell", "(IIIII)I"⟩
abbrev cX3_dig : ByteArray := prog_1_method_10_code
def yX3_dig : MethodName := ⟨RX3, "dig", "(IIII)I"⟩
abbrev cX3_withdraw : ByteArray := prog_1_method_11_code
def yX3_withdraw : MethodName := ⟨RX3, "withdraw", "(I)I"⟩
abbrev cX3_fact : ByteArray := prog_1_method_12_code
def yX3_fact : MethodName := ⟨RX3, "fact", "(II)I"⟩
abbrev cX3_owner : ByteArray := prog_1_method_13_code
def yX3_owner : MethodName := ⟨RX3, "owner", "(IIII)I"⟩
abbrev cX3_claim : ByteArray := prog_1_method_14_code
def yX3_claim : MethodName := ⟨RX3, "claim", "(IIII)I"⟩
abbrev cX3_of : ByteArray := prog_1_method_15_code
def yX3_of : MethodName := ⟨RX3, "of", "(IIII)I"⟩
abbrev cX3_share : ByteArray := prog_1_method_16_code
def yX3_share : MethodName := ⟨RX3, "share", "(IIII)I"⟩
abbrev cX3_feet : ByteArray := prog_1_method_17_code
def yX3_feet : MethodName := ⟨RX3, "feet", "(III)I"⟩
abbrev cX3_contested : ByteArray := prog_1_method_18_code
def yX3_contested : MethodName := ⟨RX3, "contested", "(III)I"⟩
abbrev cX3_dug : ByteArray := prog_1_method_19_code
def yX3_dug : MethodName := ⟨RX3, "dug", "(III)I"⟩
abbrev cX3_due : ByteArray := prog_1_method_20_code
def yX3_due : MethodName := ⟨RX3, "due", "(III)I"⟩
abbrev cX3_changed : ByteArray := prog_1_method_21_code
def yX3_changed : MethodName := ⟨RX3, "changed", "(III)I"⟩
abbrev cX3_many : ByteArray := prog_1_method_22_code
def yX3_many : MethodName := ⟨RX3, "many", "(I)I"⟩
abbrev cX3_keep : ByteArray := prog_1_method_23_code
def yX3_keep : MethodName := ⟨RX3, "keep", "()I"⟩
abbrev cX3_back : ByteArray := prog_1_method_24_code
def yX3_back : MethodName := ⟨RX3, "back", "()I"⟩
abbrev cX3_isWithin : ByteArray := prog_1_method_25_code
def yX3_isWithin : MethodName := ⟨RX3, "isWithin", "(III)Z"⟩
abbrev cX3_isVein : ByteArray := prog_1_method_26_code
def yX3_isVein : MethodName := ⟨RX3, "isVein", "(I)Z"⟩
abbrev cX3_isFoot : ByteArray := prog_1_method_27_code
def yX3_isFoot : MethodName := ⟨RX3, "isFoot", "(I)Z"⟩
abbrev cX3_isMiner : ByteArray := prog_1_method_28_code
def yX3_isMiner : MethodName := ⟨RX3, "isMiner", "(I)Z"⟩
abbrev cX3_isDay : ByteArray := prog_1_method_29_code
def yX3_isDay : MethodName := ⟨RX3, "isDay", "(I)Z"⟩
abbrev cX3_areDays : ByteArray := prog_1_method_30_code
def yX3_areDays : MethodName := ⟨RX3, "areDays", "(II)Z"⟩
abbrev cX3_isPast : ByteArray := prog_1_method_31_code
def yX3_isPast : MethodName := ⟨RX3, "isPast", "(I)Z"⟩
abbrev cX3_refusalOfClaim : ByteArray := prog_1_method_32_code
def yX3_refusalOfClaim : MethodName := ⟨RX3, "refusalOfClaim", "(ZII)I"⟩
abbrev cX3_goThrough : ByteArray := prog_1_method_33_code
def yX3_goThrough : MethodName := ⟨RX3, "goThrough", "(II)V"⟩
abbrev cX3_noteHolders : ByteArray := prog_1_method_34_code
def yX3_noteHolders : MethodName := ⟨RX3, "noteHolders", "()V"⟩
abbrev cX3_tellOf : ByteArray := prog_1_method_35_code
def yX3_tellOf : MethodName := ⟨RX3, "tellOf", "(LVeinCourt$Claim;II)I"⟩
def RX4 : String := "VeinCourtModel"
def TX4 : u_T := fun k => match k with
  | 0 => ("VeinCourtModel", "clock", "I", false)
  | 1 => ("VeinCourtModel", "reach", "I", false)
  | 2 => ("VeinCourtModel", "idle", "I", false)
  | 3 => ("VeinCourtModel", "facts", "I", false)
  | 4 => ("VeinCourtModel", "stakes", "I", false)
  | 5 => ("VeinCourtModel", "kinds", "[I", true)
  | 6 => ("VeinCourtModel", "abouts", "[I", true)
  | 7 => ("VeinCourtModel", "tolds", "[I", true)
  | 8 => ("VeinCourtModel", "withdrawns", "[I", true)
  | 9 => ("VeinCourtModel", "veins", "[I", true)
  | 10 => ("VeinCourtModel", "miners", "[I", true)
  | 11 => ("VeinCourtModel", "others", "[I", true)
  | 12 => ("VeinCourtModel", "firsts", "[I", true)
  | 13 => ("VeinCourtModel", "lasts", "[I", true)
  | 14 => ("VeinCourtModel", "counts", "[I", true)
  | 15 => ("VeinCourtModel", "claims", "[I", true)
  | 16 => ("VeinCourtModel", "isKept", "Z", false)
  | 17 => ("VeinCourtModel", "keptNumbers", "[I", true)
  | 18 => ("VeinCourtModel", "kept", "[I", true)
  | 19 => ("VeinCourtModel", "stands", "[Z", true)
  | 20 => ("VeinCourtModel", "holder", "[I", true)
  | 21 => ("VeinCourtModel", "shares", "[I", true)
  | 22 => ("VeinCourtModel", "worked", "[I", true)
  | 23 => ("VeinCourtModel", "from", "[I", true)
  | 24 => ("VeinCourtModel", "to", "[I", true)
  | 25 => ("VeinCourtModel", "nickBy", "[I", true)
  | 26 => ("VeinCourtModel", "nicks", "[I", true)
  | 27 => ("VeinCourtModel", "firstNick", "[I", true)
  | 28 => ("VeinCourtModel", "lastNick", "[I", true)
  | 29 => ("VeinCourtModel", "ore", "[I", true)
  | _ => ("VeinCourtModel", "had", "[I", true)
def tyX4 : Nat → FieldType := fun k => match k with
  | 0 => .int
  | 1 => .int
  | 2 => .int
  | 3 => .int
  | 4 => .int
  | 5 => .array .int
  | 6 => .array .int
  | 7 => .array .int
  | 8 => .array .int
  | 9 => .array .int
  | 10 => .array .int
  | 11 => .array .int
  | 12 => .array .int
  | 13 => .array .int
  | 14 => .array .int
  | 15 => .array .int
  | 16 => .boolean
  | 17 => .array .int
  | 18 => .array .int
  | 19 => .array .boolean
  | 20 => .array .int
  | 21 => .array .int
  | 22 => .array .int
  | 23 => .array .int
  | 24 => .array .int
  | 25 => .array .int
  | 26 => .array .int
  | 27 => .array .int
  | 28 => .array .int
  | 29 => .array .int
  | _ => .array .int
abbrev wsX40 : List Cond := u_ws RX4 TX4 31
theorem nmX4 : ∀ a, a < 31 → ∀ b, b < 31 → a ≠ b → (TX4 a).2.1 ≠ (TX4 b).2.1 := by decide +kernel
theorem tyX4_ok : ∀ k, k < 31 → parseFieldDescriptor (TX4 k).2.2.1 = some (tyX4 k) := by decide +kernel
abbrev cX4_init : ByteArray := prog_6_method_1_code
def yX4_init : MethodName := ⟨RX4, "<init>", "()V"⟩
abbrev cX4_in : ByteArray := prog_6_method_2_code
def yX4_in : MethodName := ⟨RX4, "in", "(III)Z"⟩
abbrev cX4_isMiner : ByteArray := prog_6_method_3_code
def yX4_isMiner : MethodName := ⟨RX4, "isMiner", "(I)Z"⟩
abbrev cX4_isVein : ByteArray := prog_6_method_4_code
def yX4_isVein : MethodName := ⟨RX4, "isVein", "(I)Z"⟩
abbrev cX4_isFoot : ByteArray := prog_6_method_5_code
def yX4_isFoot : MethodName := ⟨RX4, "isFoot", "(I)Z"⟩
abbrev cX4_isDay : ByteArray := prog_6_method_6_code
def yX4_isDay : MethodName := ⟨RX4, "isDay", "(I)Z"⟩
abbrev cX4_isFact : ByteArray := prog_6_method_7_code
def yX4_isFact : MethodName := ⟨RX4, "isFact", "(I)Z"⟩
abbrev cX4_day : ByteArray := prog_6_method_8_code
def yX4_day : MethodName := ⟨RX4, "day", "(I)I"⟩
abbrev cX4_rule : ByteArray := prog_6_method_9_code
def yX4_rule : MethodName := ⟨RX4, "rule", "(II)I"⟩
abbrev cX4_tell : ByteArray := prog_6_method_10_code
def yX4_tell : MethodName := ⟨RX4, "tell", "(IIII)I"⟩
abbrev cX4_stake : ByteArray := prog_6_method_11_code
def yX4_stake : MethodName := ⟨RX4, "stake", "(IIII)I"⟩
abbrev cX4_wrong : ByteArray := prog_6_method_12_code
def yX4_wrong : MethodName := ⟨RX4, "wrong", "(IIZ)I"⟩
abbrev cX4_work : ByteArray := prog_6_method_13_code
def yX4_work : MethodName := ⟨RX4, "work", "(II)I"⟩
abbrev cX4_nick : ByteArray := prog_6_method_14_code
def yX4_nick : MethodName := ⟨RX4, "nick", "(III)I"⟩
abbrev cX4_give : ByteArray := prog_6_method_15_code
def yX4_give : MethodName := ⟨RX4, "give", "(II)I"⟩
abbrev cX4_view : ByteArray := prog_6_method_16_code
def yX4_view : MethodName := ⟨RX4, "view", "(IIII)I"⟩
abbrev cX4_sell : ByteArray := prog_6_method_17_code
def yX4_sell : MethodName := ⟨RX4, "sell", "(IIIII)I"⟩
abbrev cX4_dig : ByteArray := prog_6_method_18_code
def yX4_dig : MethodName := ⟨RX4, "dig", "(IIII)I"⟩
abbrev cX4_withdraw : ByteArray := prog_6_method_19_code
def yX4_withdraw : MethodName := ⟨RX4, "withdraw", "(I)I"⟩
abbrev cX4_fact : ByteArray := prog_6_method_20_code
def yX4_fact : MethodName := ⟨RX4, "fact", "(II)I"⟩
abbrev cX4_isKnown : ByteArray := prog_6_method_21_code
def yX4_isKnown : MethodName := ⟨RX4, "isKnown", "(II)Z"⟩
abbrev cX4_go : ByteArray := prog_6_method_22_code
def yX4_go : MethodName := ⟨RX4, "go", "(II)V"⟩
abbrev cX4_holds : ByteArray := prog_6_method_23_code
def yX4_holds : MethodName := ⟨RX4, "holds", "(III)V"⟩
abbrev cX4_comes : ByteArray := prog_6_method_24_code
def yX4_comes : MethodName := ⟨RX4, "comes", "(I)V"⟩
abbrev cX4_comesTo : ByteArray := prog_6_method_25_code
def yX4_comesTo : MethodName := ⟨RX4, "comesTo", "(III)V"⟩
abbrev cX4_nicked : ByteArray := prog_6_method_26_code
def yX4_nicked : MethodName := ⟨RX4, "nicked", "(III)V"⟩
abbrev cX4_ownerOf : ByteArray := prog_6_method_27_code
def yX4_ownerOf : MethodName := ⟨RX4, "ownerOf", "(II)I"⟩
abbrev cX4_digs : ByteArray := prog_6_method_28_code
def yX4_digs : MethodName := ⟨RX4, "digs", "(I)V"⟩
abbrev cX4_owner : ByteArray := prog_6_method_29_code
def yX4_owner : MethodName := ⟨RX4, "owner", "(IIII)I"⟩
abbrev cX4_claim : ByteArray := prog_6_method_30_code
def yX4_claim : MethodName := ⟨RX4, "claim", "(IIII)I"⟩
abbrev cX4_owned : ByteArray := prog_6_method_31_code
def yX4_owned : MethodName := ⟨RX4, "owned", "(I)I"⟩
abbrev cX4_of : ByteArray := prog_6_method_32_code
def yX4_of : MethodName := ⟨RX4, "of", "(IIII)I"⟩
abbrev cX4_share : ByteArray := prog_6_method_33_code
def yX4_share : MethodName := ⟨RX4, "share", "(IIII)I"⟩
abbrev cX4_feet : ByteArray := prog_6_method_34_code
def yX4_feet : MethodName := ⟨RX4, "feet", "(III)I"⟩
abbrev cX4_contested : ByteArray := prog_6_method_35_code
def yX4_contested : MethodName := ⟨RX4, "contested", "(III)I"⟩
abbrev cX4_dug : ByteArray := prog_6_method_36_code
def yX4_dug : MethodName := ⟨RX4, "dug", "(III)I"⟩
abbrev cX4_due : ByteArray := prog_6_method_37_code
def yX4_due : MethodName := ⟨RX4, "due", "(III)I"⟩
abbrev cX4_changed : ByteArray := prog_6_method_38_code
def yX4_changed : MethodName := ⟨RX4, "changed", "(III)I"⟩
abbrev cX4_withdrawn : ByteArray := prog_6_method_39_code
def yX4_withdrawn : MethodName := ⟨RX4, "withdrawn", "()I"⟩
abbrev cX4_many : ByteArray := prog_6_method_40_code
def yX4_many : MethodName := ⟨RX4, "many", "(I)I"⟩
abbrev cX4_copy : ByteArray := prog_6_method_41_code
def yX4_copy : MethodName := ⟨RX4, "copy", "([II[III)V"⟩
abbrev cX4_keep : ByteArray := prog_6_method_42_code
def yX4_keep : MethodName := ⟨RX4, "keep", "()I"⟩
abbrev cX4_back : ByteArray := prog_6_method_43_code
def yX4_back : MethodName := ⟨RX4, "back", "()I"⟩
def RJ9 : String := "java/lang/Math"
def TJ9 : u_T := fun k => match k with
  | _ => ("", "", "", false)
def tyJ9 : Nat → FieldType := fun k => match k with
  | _ => .int
abbrev wsJ90 : List Cond := u_ws RJ9 TJ9 0
theorem nmJ9 : ∀ a, a < 0 → ∀ b, b < 0 → a ≠ b → (TJ9 a).2.1 ≠ (TJ9 b).2.1 := by decide +kernel
theorem tyJ9_ok : ∀ k, k < 0 → parseFieldDescriptor (TJ9 k).2.2.1 = some (tyJ9 k) := by decide +kernel
abbrev cJ9_max_7cf53 : ByteArray := prog_7_method_65_code
def yJ9_max_7cf53 : MethodName := ⟨RJ9, "max", "(II)I"⟩
abbrev cJ9_min_7cf53 : ByteArray := prog_7_method_69_code
def yJ9_min_7cf53 : MethodName := ⟨RJ9, "min", "(II)I"⟩
def RJ10 : String := "java/lang/System"
def TJ10 : u_T := fun k => match k with
  | _ => ("", "", "", false)
def tyJ10 : Nat → FieldType := fun k => match k with
  | _ => .int
abbrev wsJ100 : List Cond := u_ws RJ10 TJ10 0
theorem nmJ10 : ∀ a, a < 0 → ∀ b, b < 0 → a ≠ b → (TJ10 a).2.1 ≠ (TJ10 b).2.1 := by decide +kernel
theorem tyJ10_ok : ∀ k, k < 0 → parseFieldDescriptor (TJ10 k).2.2.1 = some (tyJ10 k) := by decide +kernel
def RL : String := "VeinCourtLaw"
abbrev cL_law : ByteArray := code
def yL_law : MethodName := ⟨RL, "law", "([I)Z"⟩
abbrev vwCl : List vw_C := [(RX0, TX0, 5), (RX1, TX1, 12), (RX2, TX2, 3), (RX3, TX3, 7), (RX4, TX4, 31)]
end
section
def zT : List Cond := lw_tbl.filter goodWord
theorem zin1 {w : Cond} (h : w ∈ tables_1_1) (g : goodWord w = true) : w ∈ zT := List.mem_filter.mpr ⟨List.mem_append_right _ (List.mem_append_left _ h), g⟩
theorem zin2 {w : Cond} (h : w ∈ tables_1_2) (g : goodWord w = true) : w ∈ zT := List.mem_filter.mpr ⟨List.mem_append_right _ (List.mem_append_right _ (List.mem_append_left _ h)), g⟩
theorem zin3 {w : Cond} (h : w ∈ tables_1_3) (g : goodWord w = true) : w ∈ zT := List.mem_filter.mpr ⟨List.mem_append_right _ (List.mem_append_right _ (List.mem_append_right _ h)), g⟩
theorem zinp1 {w : Cond} (h : w ∈ k2_sels lw_privs_1) (g : goodWord w = true) : w ∈ zT := List.mem_filter.mpr ⟨List.mem_append_left _ (by unfold k2_sels lw_privs; rw [List.map_append]; exact List.mem_append_left _ h), g⟩
theorem zinp2 {w : Cond} (h : w ∈ k2_sels lw_privs_2) (g : goodWord w = true) : w ∈ zT := List.mem_filter.mpr ⟨List.mem_append_left _ (by unfold k2_sels lw_privs; rw [List.map_append]; exact List.mem_append_right _ h), g⟩
theorem zT_good : ∀ w ∈ zT, (w.onTables && w.keeps) = true ∨ ∃ ty, w = .arrayClass ty := fun _ h => good_of_word (List.mem_filter.mp h).2
theorem zT_in : ∀ w ∈ zT, w ∈ lw_tbl := fun _ h => (List.mem_filter.mp h).1
theorem zT_all (c0 : Cond) {w0 : Cond} (h : w0 ∈ zT) : GoodIn (c0 :: zT) (w0 :: zT) := fun w hw => by
  rcases List.mem_cons.mp hw with e | e
  · rw [e]; exact ⟨List.mem_cons_of_mem _ h, zT_good _ h⟩
  · exact ⟨List.mem_cons_of_mem _ e, zT_good _ e⟩
theorem zw_1_0 : Cond.initialized RL ∈ zT := zin1 (List.mem_of_getElem? (i := 0) rfl) rfl
theorem zw_1_1 : Cond.initialized RX3 ∈ zT := zin1 (List.mem_of_getElem? (i := 1) rfl) rfl
theorem zw_1_2 : Cond.initialized RX0 ∈ zT := zin1 (List.mem_of_getElem? (i := 2) rfl) rfl
theorem zw_1_3 : Cond.initialized RX2 ∈ zT := zin1 (List.mem_of_getElem? (i := 3) rfl) rfl
theorem zw_1_4 : Cond.initialized RX1 ∈ zT := zin1 (List.mem_of_getElem? (i := 4) rfl) rfl
theorem zw_1_5 : Cond.initialized RX4 ∈ zT := zin1 (List.mem_of_getElem? (i := 5) rfl) rfl
theorem zw_1_6 : Cond.initialized RJ9 ∈ zT := zin1 (List.mem_of_getElem? (i := 6) rfl) rfl
theorem zw_1_7 : Cond.initialized RJ10 ∈ zT := zin1 (List.mem_of_getElem? (i := 7) rfl) rfl
theorem zw_1_8 : Cond.classLink RL 7 RX3 ∈ zT := zin1 (List.mem_of_getElem? (i := 8) rfl) rfl
theorem zw_1_9 : Cond.instantiable RX3 7 ∈ zT := zin1 (List.mem_of_getElem? (i := 9) rfl) rfl
theorem zw_1_10 : Cond.methodLink RL 9 yX3_init ∈ zT := zin1 (List.mem_of_getElem? (i := 10) rfl) rfl
theorem zw_1_11 : Cond.instanceMethod yX3_init ∈ zT := zin1 (List.mem_of_getElem? (i := 11) rfl) rfl
theorem zw_1_12 : Cond.code yX3_init cX3_init 1 none ∈ zT := zin1 (List.mem_of_getElem? (i := 12) rfl) rfl
theorem zw_1_13 : Cond.methodLink RX3 3 objectInit ∈ zT := zin1 (List.mem_of_getElem? (i := 13) rfl) rfl
theorem zw_1_14 : Cond.instanceMethod objectInit ∈ zT := zin1 (List.mem_of_getElem? (i := 14) rfl) rfl
theorem zw_1_15 : Cond.code objectInit object_method_1_code 1 none ∈ zT := zin1 (List.mem_of_getElem? (i := 15) rfl) rfl
theorem zw_1_16 : Cond.classLink RX3 9 RX0 ∈ zT := zin1 (List.mem_of_getElem? (i := 16) rfl) rfl
theorem zw_1_17 : Cond.instantiable RX0 5 ∈ zT := zin1 (List.mem_of_getElem? (i := 17) rfl) rfl
theorem zw_1_19 : Cond.instanceMethod yX0_init ∈ zT := zin1 (List.mem_of_getElem? (i := 19) rfl) rfl
theorem zw_1_20 : Cond.code yX0_init cX0_init 1 none ∈ zT := zin1 (List.mem_of_getElem? (i := 20) rfl) rfl
theorem zw_1_21 : Cond.methodLink RX0 3 objectInit ∈ zT := zin1 (List.mem_of_getElem? (i := 21) rfl) rfl
theorem zw_1_23 : Cond.fieldLink RX0 38 "VeinCourt$Book" "clock" "I" ∈ zT := zin1 (List.mem_of_getElem? (i := 23) rfl) rfl
theorem zw_1_24 : Cond.fieldLink RX0 18 "VeinCourt$Book" "count" "I" ∈ zT := zin1 (List.mem_of_getElem? (i := 24) rfl) rfl
theorem zw_1_28 : Cond.fieldLink RX0 45 "VeinCourt$Book" "stakes" "I" ∈ zT := zin1 (List.mem_of_getElem? (i := 28) rfl) rfl
theorem zw_1_29 : Cond.fieldLink RX0 9 "VeinCourt$Book" "cells" "[I" ∈ zT := zin1 (List.mem_of_getElem? (i := 29) rfl) rfl
theorem zw_1_30 : Cond.fieldLink RX0 15 "VeinCourt$Book" "order" "[I" ∈ zT := zin1 (List.mem_of_getElem? (i := 30) rfl) rfl
theorem zw_1_32 : Cond.lays "VeinCourt$Book" "VeinCourt$Book" "clock" "I" ∈ zT := zin1 (List.mem_of_getElem? (i := 32) rfl) rfl
theorem zw_1_34 : Cond.lays "VeinCourt$Book" "VeinCourt$Book" "count" "I" ∈ zT := zin1 (List.mem_of_getElem? (i := 34) rfl) rfl
theorem zw_1_36 : Cond.lays "VeinCourt$Book" "VeinCourt$Book" "stakes" "I" ∈ zT := zin1 (List.mem_of_getElem? (i := 36) rfl) rfl
theorem zw_1_38 : Cond.laysFinal "VeinCourt$Book" "VeinCourt$Book" "cells" "[I" ∈ zT := zin1 (List.mem_of_getElem? (i := 38) rfl) rfl
theorem zw_1_40 : Cond.laysFinal "VeinCourt$Book" "VeinCourt$Book" "order" "[I" ∈ zT := zin1 (List.mem_of_getElem? (i := 40) rfl) rfl
theorem zw_1_43 : Cond.arrayClass Jvm.ClassFile.FieldType.int ∈ zT := zin1 (List.mem_of_getElem? (i := 43) rfl) rfl
theorem zw_1_44 : Cond.classLink RX3 30 RX2 ∈ zT := zin1 (List.mem_of_getElem? (i := 44) rfl) rfl
theorem zw_1_45 : Cond.instantiable RX2 3 ∈ zT := zin1 (List.mem_of_getElem? (i := 45) rfl) rfl
theorem zw_1_46 : Cond.methodLink RX3 32 yX2_init ∈ zT := zin1 (List.mem_of_getElem? (i := 46) rfl) rfl
theorem zw_1_47 : Cond.instanceMethod yX2_init ∈ zT := zin1 (List.mem_of_getElem? (i := 47) rfl) rfl
theorem zw_1_48 : Cond.code yX2_init cX2_init 2 none ∈ zT := zin1 (List.mem_of_getElem? (i := 48) rfl) rfl
theorem zw_1_49 : Cond.methodLink RX2 3 objectInit ∈ zT := zin1 (List.mem_of_getElem? (i := 49) rfl) rfl
theorem zw_1_50 : Cond.classLink RX2 9 RX1 ∈ zT := zin1 (List.mem_of_getElem? (i := 50) rfl) rfl
theorem zw_1_52 : Cond.instantiable RX1 12 ∈ zT := zin1 (List.mem_of_getElem? (i := 52) rfl) rfl
theorem zw_1_54 : Cond.instanceMethod yX1_init ∈ zT := zin1 (List.mem_of_getElem? (i := 54) rfl) rfl
theorem zw_1_55 : Cond.code yX1_init cX1_init 1 none ∈ zT := zin1 (List.mem_of_getElem? (i := 55) rfl) rfl
theorem zw_1_56 : Cond.methodLink RX1 3 objectInit ∈ zT := zin1 (List.mem_of_getElem? (i := 56) rfl) rfl
theorem zw_1_57 : Cond.fieldLink RX1 15 "VeinCourt$Claim" "stands" "Z" ∈ zT := zin1 (List.mem_of_getElem? (i := 57) rfl) rfl
theorem zw_1_59 : Cond.fieldLink RX1 19 "VeinCourt$Claim" "number" "I" ∈ zT := zin1 (List.mem_of_getElem? (i := 59) rfl) rfl
theorem zw_1_62 : Cond.fieldLink RX1 29 "VeinCourt$Claim" "vein" "I" ∈ zT := zin1 (List.mem_of_getElem? (i := 62) rfl) rfl
theorem zw_1_64 : Cond.fieldLink RX1 50 "VeinCourt$Claim" "first" "I" ∈ zT := zin1 (List.mem_of_getElem? (i := 64) rfl) rfl
theorem zw_1_67 : Cond.fieldLink RX1 53 "VeinCourt$Claim" "last" "I" ∈ zT := zin1 (List.mem_of_getElem? (i := 67) rfl) rfl
theorem zw_1_71 : Cond.fieldLink RX1 66 "VeinCourt$Claim" "holder" "I" ∈ zT := zin1 (List.mem_of_getElem? (i := 71) rfl) rfl
theorem zw_1_73 : Cond.fieldLink RX1 60 "VeinCourt$Claim" "worked" "I" ∈ zT := zin1 (List.mem_of_getElem? (i := 73) rfl) rfl
theorem zw_1_75 : Cond.fieldLink RX1 63 "VeinCourt$Claim" "nicks" "I" ∈ zT := zin1 (List.mem_of_getElem? (i := 75) rfl) rfl
theorem zw_1_77 : Cond.fieldLink RX1 73 "VeinCourt$Claim" "nicker" "I" ∈ zT := zin1 (List.mem_of_getElem? (i := 77) rfl) rfl
theorem zw_1_78 : Cond.fieldLink RX1 76 "VeinCourt$Claim" "firstNick" "I" ∈ zT := zin1 (List.mem_of_getElem? (i := 78) rfl) rfl
theorem zw_1_79 : Cond.fieldLink RX1 79 "VeinCourt$Claim" "lastNick" "I" ∈ zT := zin1 (List.mem_of_getElem? (i := 79) rfl) rfl
theorem zw_1_80 : Cond.fieldLink RX1 9 "VeinCourt$Claim" "shares" "[I" ∈ zT := zin1 (List.mem_of_getElem? (i := 80) rfl) rfl
theorem zw_1_83 : Cond.lays "VeinCourt$Claim" "VeinCourt$Claim" "stands" "Z" ∈ zT := zin1 (List.mem_of_getElem? (i := 83) rfl) rfl
theorem zw_1_85 : Cond.lays "VeinCourt$Claim" "VeinCourt$Claim" "number" "I" ∈ zT := zin1 (List.mem_of_getElem? (i := 85) rfl) rfl
theorem zw_1_87 : Cond.lays "VeinCourt$Claim" "VeinCourt$Claim" "vein" "I" ∈ zT := zin1 (List.mem_of_getElem? (i := 87) rfl) rfl
theorem zw_1_89 : Cond.lays "VeinCourt$Claim" "VeinCourt$Claim" "first" "I" ∈ zT := zin1 (List.mem_of_getElem? (i := 89) rfl) rfl
theorem zw_1_91 : Cond.lays "VeinCourt$Claim" "VeinCourt$Claim" "last" "I" ∈ zT := zin1 (List.mem_of_getElem? (i := 91) rfl) rfl
theorem zw_1_93 : Cond.lays "VeinCourt$Claim" "VeinCourt$Claim" "holder" "I" ∈ zT := zin1 (List.mem_of_getElem? (i := 93) rfl) rfl
theorem zw_1_95 : Cond.lays "VeinCourt$Claim" "VeinCourt$Claim" "worked" "I" ∈ zT := zin1 (List.mem_of_getElem? (i := 95) rfl) rfl
theorem zw_1_97 : Cond.lays "VeinCourt$Claim" "VeinCourt$Claim" "nicks" "I" ∈ zT := zin1 (List.mem_of_getElem? (i := 97) rfl) rfl
theorem zw_1_99 : Cond.lays "VeinCourt$Claim" "VeinCourt$Claim" "nicker" "I" ∈ zT := zin1 (List.mem_of_getElem? (i := 99) rfl) rfl
theorem zw_1_101 : Cond.lays "VeinCourt$Claim" "VeinCourt$Claim" "firstNick" "I" ∈ zT := zin1 (List.mem_of_getElem? (i := 101) rfl) rfl
theorem zw_1_103 : Cond.lays "VeinCourt$Claim" "VeinCourt$Claim" "lastNick" "I" ∈ zT := zin1 (List.mem_of_getElem? (i := 103) rfl) rfl
theorem zw_1_105 : Cond.laysFinal "VeinCourt$Claim" "VeinCourt$Claim" "shares" "[I" ∈ zT := zin1 (List.mem_of_getElem? (i := 105) rfl) rfl
theorem zw_1_108 : Cond.fieldLink RX2 46 "VeinCourt$Standing" "count" "I" ∈ zT := zin1 (List.mem_of_getElem? (i := 108) rfl) rfl
theorem zw_1_109 : Cond.fieldLink RX2 11 "VeinCourt$Standing" "claims" "[LVeinCourt$Claim;" ∈ zT := zin1 (List.mem_of_getElem? (i := 109) rfl) rfl
theorem zw_1_110 : Cond.fieldLink RX2 17 "VeinCourt$Standing" "ore" "[I" ∈ zT := zin1 (List.mem_of_getElem? (i := 110) rfl) rfl
theorem zw_1_112 : Cond.lays "VeinCourt$Standing" "VeinCourt$Standing" "count" "I" ∈ zT := zin1 (List.mem_of_getElem? (i := 112) rfl) rfl
theorem zw_1_114 : Cond.laysFinal "VeinCourt$Standing" "VeinCourt$Standing" "claims" "[LVeinCourt$Claim;" ∈ zT := zin1 (List.mem_of_getElem? (i := 114) rfl) rfl
theorem zw_1_116 : Cond.laysFinal "VeinCourt$Standing" "VeinCourt$Standing" "ore" "[I" ∈ zT := zin1 (List.mem_of_getElem? (i := 116) rfl) rfl
theorem zw_1_119 : Cond.fieldLink RX3 12 "VeinCourt" "book" "LVeinCourt$Book;" ∈ zT := zin1 (List.mem_of_getElem? (i := 119) rfl) rfl
theorem zw_1_120 : Cond.fieldLink RX3 16 "VeinCourt" "keptBook" "LVeinCourt$Book;" ∈ zT := zin1 (List.mem_of_getElem? (i := 120) rfl) rfl
theorem zw_1_121 : Cond.fieldLink RX3 19 "VeinCourt" "anythingKept" "Z" ∈ zT := zin1 (List.mem_of_getElem? (i := 121) rfl) rfl
theorem zw_1_122 : Cond.fieldLink RX3 23 "VeinCourt" "reach" "I" ∈ zT := zin1 (List.mem_of_getElem? (i := 122) rfl) rfl
theorem zw_1_123 : Cond.fieldLink RX3 27 "VeinCourt" "idleDays" "I" ∈ zT := zin1 (List.mem_of_getElem? (i := 123) rfl) rfl
theorem zw_1_124 : Cond.fieldLink RX3 33 "VeinCourt" "standing" "LVeinCourt$Standing;" ∈ zT := zin1 (List.mem_of_getElem? (i := 124) rfl) rfl
theorem zw_1_125 : Cond.fieldLink RX3 37 "VeinCourt" "holders" "[I" ∈ zT := zin1 (List.mem_of_getElem? (i := 125) rfl) rfl
theorem zw_1_126 : Cond.laysFinal "VeinCourt" "VeinCourt" "book" "LVeinCourt$Book;" ∈ zT := zin1 (List.mem_of_getElem? (i := 126) rfl) rfl
theorem zw_1_128 : Cond.laysFinal "VeinCourt" "VeinCourt" "keptBook" "LVeinCourt$Book;" ∈ zT := zin1 (List.mem_of_getElem? (i := 128) rfl) rfl
theorem zw_1_130 : Cond.lays "VeinCourt" "VeinCourt" "anythingKept" "Z" ∈ zT := zin1 (List.mem_of_getElem? (i := 130) rfl) rfl
theorem zw_1_132 : Cond.lays "VeinCourt" "VeinCourt" "reach" "I" ∈ zT := zin1 (List.mem_of_getElem? (i := 132) rfl) rfl
theorem zw_1_134 : Cond.lays "VeinCourt" "VeinCourt" "idleDays" "I" ∈ zT := zin1 (List.mem_of_getElem? (i := 134) rfl) rfl
theorem zw_1_136 : Cond.laysFinal "VeinCourt" "VeinCourt" "standing" "LVeinCourt$Standing;" ∈ zT := zin1 (List.mem_of_getElem? (i := 136) rfl) rfl
theorem zw_1_138 : Cond.laysFinal "VeinCourt" "VeinCourt" "holders" "[I" ∈ zT := zin1 (List.mem_of_getElem? (i := 138) rfl) rfl
theorem zw_1_141 : Cond.methodLink RL 13 yX3_day ∈ zT := zin1 (List.mem_of_getElem? (i := 141) rfl) rfl
theorem zw_1_142 : Cond.instanceMethod yX3_day ∈ zT := zin1 (List.mem_of_getElem? (i := 142) rfl) rfl
theorem zw_1_143 : Cond.selects RX3 yX3_day yX3_day ∈ zT := zin1 (List.mem_of_getElem? (i := 143) rfl) rfl
theorem zw_1_144 : Cond.code yX3_day cX3_day 2 (some .int) ∈ zT := zin1 (List.mem_of_getElem? (i := 144) rfl) rfl
theorem zw_1_145 : Cond.methodLink RX3 41 yX3_isWithin ∈ zT := zin1 (List.mem_of_getElem? (i := 145) rfl) rfl
theorem zw_1_146 : Cond.static yX3_isWithin ∈ zT := zin1 (List.mem_of_getElem? (i := 146) rfl) rfl
theorem zw_1_147 : Cond.code yX3_isWithin cX3_isWithin 3 (some .boolean) ∈ zT := zin1 (List.mem_of_getElem? (i := 147) rfl) rfl
theorem zw_1_148 : Cond.methodLink RL 18 yX3_rule ∈ zT := zin1 (List.mem_of_getElem? (i := 148) rfl) rfl
theorem zw_1_149 : Cond.instanceMethod yX3_rule ∈ zT := zin1 (List.mem_of_getElem? (i := 149) rfl) rfl
theorem zw_1_150 : Cond.selects RX3 yX3_rule yX3_rule ∈ zT := zin1 (List.mem_of_getElem? (i := 150) rfl) rfl
theorem zw_1_151 : Cond.code yX3_rule cX3_rule 4 (some .int) ∈ zT := zin1 (List.mem_of_getElem? (i := 151) rfl) rfl
theorem zw_1_152 : Cond.methodLink RL 23 yX3_stake ∈ zT := zin1 (List.mem_of_getElem? (i := 152) rfl) rfl
theorem zw_1_153 : Cond.instanceMethod yX3_stake ∈ zT := zin1 (List.mem_of_getElem? (i := 153) rfl) rfl
theorem zw_1_154 : Cond.selects RX3 yX3_stake yX3_stake ∈ zT := zin1 (List.mem_of_getElem? (i := 154) rfl) rfl
theorem zw_1_155 : Cond.code yX3_stake cX3_stake 6 (some .int) ∈ zT := zin1 (List.mem_of_getElem? (i := 155) rfl) rfl
theorem zw_1_156 : Cond.methodLink RX3 48 yX3_isPast ∈ zT := zin1 (List.mem_of_getElem? (i := 156) rfl) rfl
theorem zw_1_158 : Cond.instanceMethod yX3_isPast ∈ zT := zin1 (List.mem_of_getElem? (i := 158) rfl) rfl
theorem zw_1_159 : Cond.code yX3_isPast cX3_isPast 2 (some .boolean) ∈ zT := zin1 (List.mem_of_getElem? (i := 159) rfl) rfl
theorem zw_1_160 : Cond.methodLink RX3 52 yX3_isVein ∈ zT := zin1 (List.mem_of_getElem? (i := 160) rfl) rfl
theorem zw_1_161 : Cond.static yX3_isVein ∈ zT := zin1 (List.mem_of_getElem? (i := 161) rfl) rfl
theorem zw_1_162 : Cond.code yX3_isVein cX3_isVein 1 (some .boolean) ∈ zT := zin1 (List.mem_of_getElem? (i := 162) rfl) rfl
theorem zw_1_163 : Cond.methodLink RX3 55 yX3_isFoot ∈ zT := zin1 (List.mem_of_getElem? (i := 163) rfl) rfl
theorem zw_1_164 : Cond.static yX3_isFoot ∈ zT := zin1 (List.mem_of_getElem? (i := 164) rfl) rfl
theorem zw_1_165 : Cond.code yX3_isFoot cX3_isFoot 1 (some .boolean) ∈ zT := zin1 (List.mem_of_getElem? (i := 165) rfl) rfl
theorem zw_1_166 : Cond.methodLink RX3 58 yX3_isMiner ∈ zT := zin1 (List.mem_of_getElem? (i := 166) rfl) rfl
theorem zw_1_167 : Cond.static yX3_isMiner ∈ zT := zin1 (List.mem_of_getElem? (i := 167) rfl) rfl
theorem zw_1_168 : Cond.code yX3_isMiner cX3_isMiner 1 (some .boolean) ∈ zT := zin1 (List.mem_of_getElem? (i := 168) rfl) rfl
theorem zw_1_169 : Cond.methodLink RX3 61 yX0_isFull ∈ zT := zin1 (List.mem_of_getElem? (i := 169) rfl) rfl
theorem zw_1_170 : Cond.instanceMethod yX0_isFull ∈ zT := zin1 (List.mem_of_getElem? (i := 170) rfl) rfl
theorem zw_1_171 : Cond.selects RX0 yX0_isFull yX0_isFull ∈ zT := zin1 (List.mem_of_getElem? (i := 171) rfl) rfl
theorem zw_1_172 : Cond.code yX0_isFull cX0_isFull 1 (some .boolean) ∈ zT := zin1 (List.mem_of_getElem? (i := 172) rfl) rfl
theorem zw_1_173 : Cond.methodLink RX3 68 yX0_append ∈ zT := zin1 (List.mem_of_getElem? (i := 173) rfl) rfl
theorem zw_1_174 : Cond.instanceMethod yX0_append ∈ zT := zin1 (List.mem_of_getElem? (i := 174) rfl) rfl
theorem zw_1_175 : Cond.selects RX0 yX0_append yX0_append ∈ zT := zin1 (List.mem_of_getElem? (i := 175) rfl) rfl
theorem zw_1_176 : Cond.code yX0_append cX0_append 6 (some .int) ∈ zT := zin1 (List.mem_of_getElem? (i := 176) rfl) rfl
theorem zw_1_177 : Cond.methodLink RX0 30 yX0_put ∈ zT := zin1 (List.mem_of_getElem? (i := 177) rfl) rfl
theorem zw_1_178 : Cond.instanceMethod yX0_put ∈ zT := zin1 (List.mem_of_getElem? (i := 178) rfl) rfl
theorem zw_1_179 : Cond.selects RX0 yX0_put yX0_put ∈ zT := zin1 (List.mem_of_getElem? (i := 179) rfl) rfl
theorem zw_1_180 : Cond.code yX0_put cX0_put 4 none ∈ zT := zin1 (List.mem_of_getElem? (i := 180) rfl) rfl
theorem zw_1_181 : Cond.methodLink RX0 41 yX0_setInOrder ∈ zT := zin1 (List.mem_of_getElem? (i := 181) rfl) rfl
theorem zw_1_183 : Cond.instanceMethod yX0_setInOrder ∈ zT := zin1 (List.mem_of_getElem? (i := 183) rfl) rfl
theorem zw_1_184 : Cond.code yX0_setInOrder cX0_setInOrder 4 none ∈ zT := zin1 (List.mem_of_getElem? (i := 184) rfl) rfl
theorem zw_1_185 : Cond.methodLink RX0 22 yX0_get ∈ zT := zin1 (List.mem_of_getElem? (i := 185) rfl) rfl
theorem zw_1_186 : Cond.instanceMethod yX0_get ∈ zT := zin1 (List.mem_of_getElem? (i := 186) rfl) rfl
theorem zw_1_187 : Cond.selects RX0 yX0_get yX0_get ∈ zT := zin1 (List.mem_of_getElem? (i := 187) rfl) rfl
theorem zw_1_188 : Cond.code yX0_get cX0_get 3 (some .int) ∈ zT := zin1 (List.mem_of_getElem? (i := 188) rfl) rfl
theorem zw_1_189 : Cond.methodLink RX3 72 yX0_put ∈ zT := zin1 (List.mem_of_getElem? (i := 189) rfl) rfl
theorem zw_1_190 : Cond.methodLink RX3 76 yJ9_max_7cf53 ∈ zT := zin1 (List.mem_of_getElem? (i := 190) rfl) rfl
theorem zw_1_191 : Cond.static yJ9_max_7cf53 ∈ zT := zin1 (List.mem_of_getElem? (i := 191) rfl) rfl
theorem zw_1_192 : Cond.code yJ9_max_7cf53 cJ9_max_7cf53 2 (some .int) ∈ zT := zin1 (List.mem_of_getElem? (i := 192) rfl) rfl
theorem zw_1_193 : Cond.methodLink RX3 82 yJ9_min_7cf53 ∈ zT := zin1 (List.mem_of_getElem? (i := 193) rfl) rfl
theorem zw_1_194 : Cond.static yJ9_min_7cf53 ∈ zT := zin1 (List.mem_of_getElem? (i := 194) rfl) rfl
theorem zw_1_195 : Cond.code yJ9_min_7cf53 cJ9_min_7cf53 2 (some .int) ∈ zT := zin1 (List.mem_of_getElem? (i := 195) rfl) rfl
theorem zw_1_196 : Cond.methodLink RX3 85 yX0_putFeet ∈ zT := zin1 (List.mem_of_getElem? (i := 196) rfl) rfl
theorem zw_1_197 : Cond.instanceMethod yX0_putFeet ∈ zT := zin1 (List.mem_of_getElem? (i := 197) rfl) rfl
theorem zw_1_198 : Cond.selects RX0 yX0_putFeet yX0_putFeet ∈ zT := zin1 (List.mem_of_getElem? (i := 198) rfl) rfl
theorem zw_1_199 : Cond.code yX0_putFeet cX0_putFeet 4 none ∈ zT := zin1 (List.mem_of_getElem? (i := 199) rfl) rfl
theorem zw_1_200 : Cond.methodLink RL 28 yX3_work ∈ zT := zin1 (List.mem_of_getElem? (i := 200) rfl) rfl
theorem zw_1_201 : Cond.instanceMethod yX3_work ∈ zT := zin1 (List.mem_of_getElem? (i := 201) rfl) rfl
theorem zw_1_202 : Cond.selects RX3 yX3_work yX3_work ∈ zT := zin1 (List.mem_of_getElem? (i := 202) rfl) rfl
theorem zw_1_203 : Cond.code yX3_work cX3_work 4 (some .int) ∈ zT := zin1 (List.mem_of_getElem? (i := 203) rfl) rfl
theorem zw_1_204 : Cond.methodLink RX3 88 yX3_refusalOfClaim ∈ zT := zin1 (List.mem_of_getElem? (i := 204) rfl) rfl
theorem zw_1_206 : Cond.instanceMethod yX3_refusalOfClaim ∈ zT := zin1 (List.mem_of_getElem? (i := 206) rfl) rfl
theorem zw_1_207 : Cond.code yX3_refusalOfClaim cX3_refusalOfClaim 4 (some .int) ∈ zT := zin1 (List.mem_of_getElem? (i := 207) rfl) rfl
theorem zw_1_208 : Cond.methodLink RX3 95 yX0_has ∈ zT := zin1 (List.mem_of_getElem? (i := 208) rfl) rfl
theorem zw_1_209 : Cond.instanceMethod yX0_has ∈ zT := zin1 (List.mem_of_getElem? (i := 209) rfl) rfl
theorem zw_1_210 : Cond.selects RX0 yX0_has yX0_has ∈ zT := zin1 (List.mem_of_getElem? (i := 210) rfl) rfl
theorem zw_1_211 : Cond.code yX0_has cX0_has 2 (some .boolean) ∈ zT := zin1 (List.mem_of_getElem? (i := 211) rfl) rfl
theorem zw_1_212 : Cond.methodLink RX3 124 yX0_isStake ∈ zT := zin1 (List.mem_of_getElem? (i := 212) rfl) rfl
theorem zw_1_213 : Cond.instanceMethod yX0_isStake ∈ zT := zin1 (List.mem_of_getElem? (i := 213) rfl) rfl
theorem zw_1_214 : Cond.selects RX0 yX0_isStake yX0_isStake ∈ zT := zin1 (List.mem_of_getElem? (i := 214) rfl) rfl
theorem zw_1_215 : Cond.code yX0_isStake cX0_isStake 2 (some .boolean) ∈ zT := zin1 (List.mem_of_getElem? (i := 215) rfl) rfl
theorem zw_1_216 : Cond.methodLink RX3 92 yX0_appendOf ∈ zT := zin1 (List.mem_of_getElem? (i := 216) rfl) rfl
theorem zw_1_217 : Cond.instanceMethod yX0_appendOf ∈ zT := zin1 (List.mem_of_getElem? (i := 217) rfl) rfl
theorem zw_1_218 : Cond.selects RX0 yX0_appendOf yX0_appendOf ∈ zT := zin1 (List.mem_of_getElem? (i := 218) rfl) rfl
theorem zw_1_219 : Cond.code yX0_appendOf cX0_appendOf 5 (some .int) ∈ zT := zin1 (List.mem_of_getElem? (i := 219) rfl) rfl
theorem zw_1_220 : Cond.methodLink RX0 34 yX0_append ∈ zT := zin1 (List.mem_of_getElem? (i := 220) rfl) rfl
theorem zw_1_221 : Cond.methodLink RL 32 yX3_nick ∈ zT := zin1 (List.mem_of_getElem? (i := 221) rfl) rfl
theorem zw_1_222 : Cond.instanceMethod yX3_nick ∈ zT := zin1 (List.mem_of_getElem? (i := 222) rfl) rfl
theorem zw_1_223 : Cond.selects RX3 yX3_nick yX3_nick ∈ zT := zin1 (List.mem_of_getElem? (i := 223) rfl) rfl
theorem zw_1_224 : Cond.code yX3_nick cX3_nick 6 (some .int) ∈ zT := zin1 (List.mem_of_getElem? (i := 224) rfl) rfl
theorem zw_1_225 : Cond.methodLink RL 37 yX3_give ∈ zT := zin1 (List.mem_of_getElem? (i := 225) rfl) rfl
theorem zw_1_226 : Cond.instanceMethod yX3_give ∈ zT := zin1 (List.mem_of_getElem? (i := 226) rfl) rfl
theorem zw_1_227 : Cond.selects RX3 yX3_give yX3_give ∈ zT := zin1 (List.mem_of_getElem? (i := 227) rfl) rfl
theorem zw_1_228 : Cond.code yX3_give cX3_give 4 (some .int) ∈ zT := zin1 (List.mem_of_getElem? (i := 228) rfl) rfl
theorem zw_1_229 : Cond.methodLink RL 41 yX3_view ∈ zT := zin1 (List.mem_of_getElem? (i := 229) rfl) rfl
theorem zw_1_230 : Cond.instanceMethod yX3_view ∈ zT := zin1 (List.mem_of_getElem? (i := 230) rfl) rfl
theorem zw_1_231 : Cond.selects RX3 yX3_view yX3_view ∈ zT := zin1 (List.mem_of_getElem? (i := 231) rfl) rfl
theorem zw_1_232 : Cond.code yX3_view cX3_view 7 (some .int) ∈ zT := zin1 (List.mem_of_getElem? (i := 232) rfl) rfl
theorem zw_1_233 : Cond.methodLink RL 45 yX3_sell ∈ zT := zin1 (List.mem_of_getElem? (i := 233) rfl) rfl
theorem zw_1_234 : Cond.instanceMethod yX3_sell ∈ zT := zin1 (List.mem_of_getElem? (i := 234) rfl) rfl
theorem zw_1_235 : Cond.selects RX3 yX3_sell yX3_sell ∈ zT := zin1 (List.mem_of_getElem? (i := 235) rfl) rfl
theorem zw_1_236 : Cond.code yX3_sell cX3_sell 9 (some .int) ∈ zT := zin1 (List.mem_of_getElem? (i := 236) rfl) rfl
theorem zw_1_237 : Cond.methodLink RL 50 yX3_dig ∈ zT := zin1 (List.mem_of_getElem? (i := 237) rfl) rfl
theorem zw_1_238 : Cond.instanceMethod yX3_dig ∈ zT := zin1 (List.mem_of_getElem? (i := 238) rfl) rfl
theorem zw_1_239 : Cond.selects RX3 yX3_dig yX3_dig ∈ zT := zin1 (List.mem_of_getElem? (i := 239) rfl) rfl
theorem zw_2_0 : Cond.code yX3_dig cX3_dig 6 (some .int) ∈ zT := zin2 (List.mem_of_getElem? (i := 0) rfl) rfl
theorem zw_2_1 : Cond.methodLink RL 54 yX3_withdraw ∈ zT := zin2 (List.mem_of_getElem? (i := 1) rfl) rfl
theorem zw_2_2 : Cond.instanceMethod yX3_withdraw ∈ zT := zin2 (List.mem_of_getElem? (i := 2) rfl) rfl
theorem zw_2_3 : Cond.selects RX3 yX3_withdraw yX3_withdraw ∈ zT := zin2 (List.mem_of_getElem? (i := 3) rfl) rfl
theorem zw_2_4 : Cond.code yX3_withdraw cX3_withdraw 2 (some .int) ∈ zT := zin2 (List.mem_of_getElem? (i := 4) rfl) rfl
theorem zw_2_5 : Cond.methodLink RX3 98 yX0_isWithdrawn ∈ zT := zin2 (List.mem_of_getElem? (i := 5) rfl) rfl
theorem zw_2_6 : Cond.instanceMethod yX0_isWithdrawn ∈ zT := zin2 (List.mem_of_getElem? (i := 6) rfl) rfl
theorem zw_2_7 : Cond.selects RX0 yX0_isWithdrawn yX0_isWithdrawn ∈ zT := zin2 (List.mem_of_getElem? (i := 7) rfl) rfl
theorem zw_2_8 : Cond.code yX0_isWithdrawn cX0_isWithdrawn 2 (some .boolean) ∈ zT := zin2 (List.mem_of_getElem? (i := 8) rfl) rfl
theorem zw_2_9 : Cond.methodLink RL 58 yX3_fact ∈ zT := zin2 (List.mem_of_getElem? (i := 9) rfl) rfl
theorem zw_2_10 : Cond.instanceMethod yX3_fact ∈ zT := zin2 (List.mem_of_getElem? (i := 10) rfl) rfl
theorem zw_2_11 : Cond.selects RX3 yX3_fact yX3_fact ∈ zT := zin2 (List.mem_of_getElem? (i := 11) rfl) rfl
theorem zw_2_12 : Cond.code yX3_fact cX3_fact 3 (some .int) ∈ zT := zin2 (List.mem_of_getElem? (i := 12) rfl) rfl
theorem zw_2_13 : Cond.methodLink RX3 101 yX0_get ∈ zT := zin2 (List.mem_of_getElem? (i := 13) rfl) rfl
theorem zw_2_14 : Cond.methodLink RL 62 yX3_owner ∈ zT := zin2 (List.mem_of_getElem? (i := 14) rfl) rfl
theorem zw_2_15 : Cond.instanceMethod yX3_owner ∈ zT := zin2 (List.mem_of_getElem? (i := 15) rfl) rfl
theorem zw_2_16 : Cond.selects RX3 yX3_owner yX3_owner ∈ zT := zin2 (List.mem_of_getElem? (i := 16) rfl) rfl
theorem zw_2_17 : Cond.code yX3_owner cX3_owner 5 (some .int) ∈ zT := zin2 (List.mem_of_getElem? (i := 17) rfl) rfl
theorem zw_2_18 : Cond.methodLink RX3 104 yX3_areDays ∈ zT := zin2 (List.mem_of_getElem? (i := 18) rfl) rfl
theorem zw_2_19 : Cond.static yX3_areDays ∈ zT := zin2 (List.mem_of_getElem? (i := 19) rfl) rfl
theorem zw_2_20 : Cond.code yX3_areDays cX3_areDays 2 (some .boolean) ∈ zT := zin2 (List.mem_of_getElem? (i := 20) rfl) rfl
theorem zw_2_21 : Cond.methodLink RX3 144 yX3_isDay ∈ zT := zin2 (List.mem_of_getElem? (i := 21) rfl) rfl
theorem zw_2_22 : Cond.static yX3_isDay ∈ zT := zin2 (List.mem_of_getElem? (i := 22) rfl) rfl
theorem zw_2_23 : Cond.code yX3_isDay cX3_isDay 1 (some .boolean) ∈ zT := zin2 (List.mem_of_getElem? (i := 23) rfl) rfl
theorem zw_2_24 : Cond.methodLink RX3 108 yX3_goThrough ∈ zT := zin2 (List.mem_of_getElem? (i := 24) rfl) rfl
theorem zw_2_26 : Cond.instanceMethod yX3_goThrough ∈ zT := zin2 (List.mem_of_getElem? (i := 26) rfl) rfl
theorem zw_2_27 : Cond.code yX3_goThrough cX3_goThrough 3 none ∈ zT := zin2 (List.mem_of_getElem? (i := 27) rfl) rfl
theorem zw_2_28 : Cond.methodLink RX3 161 yX2_goThrough ∈ zT := zin2 (List.mem_of_getElem? (i := 28) rfl) rfl
theorem zw_2_29 : Cond.instanceMethod yX2_goThrough ∈ zT := zin2 (List.mem_of_getElem? (i := 29) rfl) rfl
theorem zw_2_30 : Cond.selects RX2 yX2_goThrough yX2_goThrough ∈ zT := zin2 (List.mem_of_getElem? (i := 30) rfl) rfl
theorem zw_2_31 : Cond.code yX2_goThrough cX2_goThrough 7 none ∈ zT := zin2 (List.mem_of_getElem? (i := 31) rfl) rfl
theorem zw_2_32 : Cond.methodLink RX2 22 yX2_clear ∈ zT := zin2 (List.mem_of_getElem? (i := 32) rfl) rfl
theorem zw_2_34 : Cond.instanceMethod yX2_clear ∈ zT := zin2 (List.mem_of_getElem? (i := 34) rfl) rfl
theorem zw_2_35 : Cond.code yX2_clear cX2_clear 2 none ∈ zT := zin2 (List.mem_of_getElem? (i := 35) rfl) rfl
theorem zw_2_36 : Cond.methodLink RX2 34 yX0_get ∈ zT := zin2 (List.mem_of_getElem? (i := 36) rfl) rfl
theorem zw_2_37 : Cond.methodLink RX2 38 yX0_isKnown ∈ zT := zin2 (List.mem_of_getElem? (i := 37) rfl) rfl
theorem zw_2_38 : Cond.instanceMethod yX0_isKnown ∈ zT := zin2 (List.mem_of_getElem? (i := 38) rfl) rfl
theorem zw_2_39 : Cond.selects RX0 yX0_isKnown yX0_isKnown ∈ zT := zin2 (List.mem_of_getElem? (i := 39) rfl) rfl
theorem zw_2_40 : Cond.code yX0_isKnown cX0_isKnown 4 (some .boolean) ∈ zT := zin2 (List.mem_of_getElem? (i := 40) rfl) rfl
theorem zw_2_41 : Cond.methodLink RX0 26 yX0_isWithdrawn ∈ zT := zin2 (List.mem_of_getElem? (i := 41) rfl) rfl
theorem zw_2_42 : Cond.methodLink RX2 42 yX2_apply ∈ zT := zin2 (List.mem_of_getElem? (i := 42) rfl) rfl
theorem zw_2_44 : Cond.instanceMethod yX2_apply ∈ zT := zin2 (List.mem_of_getElem? (i := 44) rfl) rfl
theorem zw_2_45 : Cond.code yX2_apply cX2_apply 6 none ∈ zT := zin2 (List.mem_of_getElem? (i := 45) rfl) rfl
theorem zw_2_46 : Cond.methodLink RX2 73 yX2_addClaim ∈ zT := zin2 (List.mem_of_getElem? (i := 46) rfl) rfl
theorem zw_2_48 : Cond.instanceMethod yX2_addClaim ∈ zT := zin2 (List.mem_of_getElem? (i := 48) rfl) rfl
theorem zw_2_49 : Cond.code yX2_addClaim cX2_addClaim 3 none ∈ zT := zin2 (List.mem_of_getElem? (i := 49) rfl) rfl
theorem zw_2_50 : Cond.methodLink RX2 88 yX1_begin ∈ zT := zin2 (List.mem_of_getElem? (i := 50) rfl) rfl
theorem zw_2_51 : Cond.instanceMethod yX1_begin ∈ zT := zin2 (List.mem_of_getElem? (i := 51) rfl) rfl
theorem zw_2_52 : Cond.selects RX1 yX1_begin yX1_begin ∈ zT := zin2 (List.mem_of_getElem? (i := 52) rfl) rfl
theorem zw_2_53 : Cond.code yX1_begin cX1_begin 3 none ∈ zT := zin2 (List.mem_of_getElem? (i := 53) rfl) rfl
theorem zw_2_54 : Cond.methodLink RX1 23 yX0_get ∈ zT := zin2 (List.mem_of_getElem? (i := 54) rfl) rfl
theorem zw_2_55 : Cond.methodLink RX1 32 yX1_setFeet ∈ zT := zin2 (List.mem_of_getElem? (i := 55) rfl) rfl
theorem zw_2_57 : Cond.instanceMethod yX1_setFeet ∈ zT := zin2 (List.mem_of_getElem? (i := 57) rfl) rfl
theorem zw_2_58 : Cond.code yX1_setFeet cX1_setFeet 3 none ∈ zT := zin2 (List.mem_of_getElem? (i := 58) rfl) rfl
theorem zw_2_59 : Cond.methodLink RX1 36 yX1_passTo ∈ zT := zin2 (List.mem_of_getElem? (i := 59) rfl) rfl
theorem zw_2_61 : Cond.instanceMethod yX1_passTo ∈ zT := zin2 (List.mem_of_getElem? (i := 61) rfl) rfl
theorem zw_2_62 : Cond.code yX1_passTo cX1_passTo 4 none ∈ zT := zin2 (List.mem_of_getElem? (i := 62) rfl) rfl
theorem zw_2_63 : Cond.methodLink RX1 39 yX1_setWorked ∈ zT := zin2 (List.mem_of_getElem? (i := 63) rfl) rfl
theorem zw_2_65 : Cond.instanceMethod yX1_setWorked ∈ zT := zin2 (List.mem_of_getElem? (i := 65) rfl) rfl
theorem zw_2_66 : Cond.code yX1_setWorked cX1_setWorked 2 none ∈ zT := zin2 (List.mem_of_getElem? (i := 66) rfl) rfl
theorem zw_2_67 : Cond.methodLink RX2 77 yX2_bringOre ∈ zT := zin2 (List.mem_of_getElem? (i := 67) rfl) rfl
theorem zw_2_69 : Cond.instanceMethod yX2_bringOre ∈ zT := zin2 (List.mem_of_getElem? (i := 69) rfl) rfl
theorem zw_2_70 : Cond.code yX2_bringOre cX2_bringOre 6 none ∈ zT := zin2 (List.mem_of_getElem? (i := 70) rfl) rfl
theorem zw_2_71 : Cond.methodLink RX2 57 yX2_eldestOver ∈ zT := zin2 (List.mem_of_getElem? (i := 71) rfl) rfl
theorem zw_2_72 : Cond.instanceMethod yX2_eldestOver ∈ zT := zin2 (List.mem_of_getElem? (i := 72) rfl) rfl
theorem zw_2_73 : Cond.selects RX2 yX2_eldestOver yX2_eldestOver ∈ zT := zin2 (List.mem_of_getElem? (i := 73) rfl) rfl
theorem zw_2_74 : Cond.code yX2_eldestOver cX2_eldestOver 4 (Option.some (Jvm.ClassFile.FieldType.object "VeinCourt$Claim")) ∈ zT := zin2 (List.mem_of_getElem? (i := 74) rfl) rfl
theorem zw_2_75 : Cond.methodLink RX2 54 yX1_isOver ∈ zT := zin2 (List.mem_of_getElem? (i := 75) rfl) rfl
theorem zw_2_76 : Cond.instanceMethod yX1_isOver ∈ zT := zin2 (List.mem_of_getElem? (i := 76) rfl) rfl
theorem zw_2_77 : Cond.selects RX1 yX1_isOver yX1_isOver ∈ zT := zin2 (List.mem_of_getElem? (i := 77) rfl) rfl
theorem zw_2_78 : Cond.code yX1_isOver cX1_isOver 3 (some .boolean) ∈ zT := zin2 (List.mem_of_getElem? (i := 78) rfl) rfl
theorem zw_2_80 : Cond.methodLink RX2 81 yX2_find ∈ zT := zin2 (List.mem_of_getElem? (i := 80) rfl) rfl
theorem zw_2_81 : Cond.instanceMethod yX2_find ∈ zT := zin2 (List.mem_of_getElem? (i := 81) rfl) rfl
theorem zw_2_82 : Cond.selects RX2 yX2_find yX2_find ∈ zT := zin2 (List.mem_of_getElem? (i := 82) rfl) rfl
theorem zw_2_83 : Cond.code yX2_find cX2_find 3 (Option.some (Jvm.ClassFile.FieldType.object "VeinCourt$Claim")) ∈ zT := zin2 (List.mem_of_getElem? (i := 83) rfl) rfl
theorem zw_2_84 : Cond.methodLink RX2 85 yX1_turn ∈ zT := zin2 (List.mem_of_getElem? (i := 84) rfl) rfl
theorem zw_2_85 : Cond.instanceMethod yX1_turn ∈ zT := zin2 (List.mem_of_getElem? (i := 85) rfl) rfl
theorem zw_2_86 : Cond.selects RX1 yX1_turn yX1_turn ∈ zT := zin2 (List.mem_of_getElem? (i := 86) rfl) rfl
theorem zw_2_87 : Cond.code yX1_turn cX1_turn 5 none ∈ zT := zin2 (List.mem_of_getElem? (i := 87) rfl) rfl
theorem zw_2_88 : Cond.methodLink RX1 43 yX1_takeNick ∈ zT := zin2 (List.mem_of_getElem? (i := 88) rfl) rfl
theorem zw_2_90 : Cond.instanceMethod yX1_takeNick ∈ zT := zin2 (List.mem_of_getElem? (i := 90) rfl) rfl
theorem zw_2_91 : Cond.code yX1_takeNick cX1_takeNick 4 none ∈ zT := zin2 (List.mem_of_getElem? (i := 91) rfl) rfl
theorem zw_2_92 : Cond.methodLink RX1 69 yX1_isIdle ∈ zT := zin2 (List.mem_of_getElem? (i := 92) rfl) rfl
theorem zw_2_93 : Cond.instanceMethod yX1_isIdle ∈ zT := zin2 (List.mem_of_getElem? (i := 93) rfl) rfl
theorem zw_2_94 : Cond.selects RX1 yX1_isIdle yX1_isIdle ∈ zT := zin2 (List.mem_of_getElem? (i := 94) rfl) rfl
theorem zw_2_95 : Cond.code yX1_isIdle cX1_isIdle 3 (some .boolean) ∈ zT := zin2 (List.mem_of_getElem? (i := 95) rfl) rfl
theorem zw_2_96 : Cond.methodLink RX1 82 yX1_addNick ∈ zT := zin2 (List.mem_of_getElem? (i := 96) rfl) rfl
theorem zw_2_98 : Cond.instanceMethod yX1_addNick ∈ zT := zin2 (List.mem_of_getElem? (i := 98) rfl) rfl
theorem zw_2_99 : Cond.code yX1_addNick cX1_addNick 3 none ∈ zT := zin2 (List.mem_of_getElem? (i := 99) rfl) rfl
theorem zw_2_100 : Cond.methodLink RX1 47 yX1_moveShares ∈ zT := zin2 (List.mem_of_getElem? (i := 100) rfl) rfl
theorem zw_2_102 : Cond.instanceMethod yX1_moveShares ∈ zT := zin2 (List.mem_of_getElem? (i := 102) rfl) rfl
theorem zw_2_103 : Cond.code yX1_moveShares cX1_moveShares 4 none ∈ zT := zin2 (List.mem_of_getElem? (i := 103) rfl) rfl
theorem zw_2_104 : Cond.methodLink RX3 112 yX2_holderOver ∈ zT := zin2 (List.mem_of_getElem? (i := 104) rfl) rfl
theorem zw_2_105 : Cond.instanceMethod yX2_holderOver ∈ zT := zin2 (List.mem_of_getElem? (i := 105) rfl) rfl
theorem zw_2_106 : Cond.selects RX2 yX2_holderOver yX2_holderOver ∈ zT := zin2 (List.mem_of_getElem? (i := 106) rfl) rfl
theorem zw_2_107 : Cond.code yX2_holderOver cX2_holderOver 4 (some .int) ∈ zT := zin2 (List.mem_of_getElem? (i := 107) rfl) rfl
theorem zw_2_108 : Cond.methodLink RL 66 yX3_claim ∈ zT := zin2 (List.mem_of_getElem? (i := 108) rfl) rfl
theorem zw_2_109 : Cond.instanceMethod yX3_claim ∈ zT := zin2 (List.mem_of_getElem? (i := 109) rfl) rfl
theorem zw_2_110 : Cond.selects RX3 yX3_claim yX3_claim ∈ zT := zin2 (List.mem_of_getElem? (i := 110) rfl) rfl
theorem zw_2_111 : Cond.code yX3_claim cX3_claim 6 (some .int) ∈ zT := zin2 (List.mem_of_getElem? (i := 111) rfl) rfl
theorem zw_2_112 : Cond.methodLink RX3 115 yX2_eldestOver ∈ zT := zin2 (List.mem_of_getElem? (i := 112) rfl) rfl
theorem zw_2_113 : Cond.methodLink RL 70 yX3_of ∈ zT := zin2 (List.mem_of_getElem? (i := 113) rfl) rfl
theorem zw_2_114 : Cond.instanceMethod yX3_of ∈ zT := zin2 (List.mem_of_getElem? (i := 114) rfl) rfl
theorem zw_2_115 : Cond.selects RX3 yX3_of yX3_of ∈ zT := zin2 (List.mem_of_getElem? (i := 115) rfl) rfl
theorem zw_2_116 : Cond.code yX3_of cX3_of 6 (some .int) ∈ zT := zin2 (List.mem_of_getElem? (i := 116) rfl) rfl
theorem zw_2_117 : Cond.methodLink RX3 127 yX2_find ∈ zT := zin2 (List.mem_of_getElem? (i := 117) rfl) rfl
theorem zw_2_118 : Cond.methodLink RX3 131 yX3_tellOf ∈ zT := zin2 (List.mem_of_getElem? (i := 118) rfl) rfl
theorem zw_2_120 : Cond.instanceMethod yX3_tellOf ∈ zT := zin2 (List.mem_of_getElem? (i := 120) rfl) rfl
theorem zw_2_121 : Cond.code yX3_tellOf cX3_tellOf 4 (some .int) ∈ zT := zin2 (List.mem_of_getElem? (i := 121) rfl) rfl
theorem zw_2_122 : Cond.methodLink RX3 176 yX1_isIdle ∈ zT := zin2 (List.mem_of_getElem? (i := 122) rfl) rfl
theorem zw_2_123 : Cond.methodLink RX3 182 yX2_countOwned ∈ zT := zin2 (List.mem_of_getElem? (i := 123) rfl) rfl
theorem zw_2_124 : Cond.instanceMethod yX2_countOwned ∈ zT := zin2 (List.mem_of_getElem? (i := 124) rfl) rfl
theorem zw_2_125 : Cond.selects RX2 yX2_countOwned yX2_countOwned ∈ zT := zin2 (List.mem_of_getElem? (i := 125) rfl) rfl
theorem zw_2_126 : Cond.code yX2_countOwned cX2_countOwned 5 (some .int) ∈ zT := zin2 (List.mem_of_getElem? (i := 126) rfl) rfl
theorem zw_2_127 : Cond.methodLink RL 74 yX3_share ∈ zT := zin2 (List.mem_of_getElem? (i := 127) rfl) rfl
theorem zw_2_128 : Cond.instanceMethod yX3_share ∈ zT := zin2 (List.mem_of_getElem? (i := 128) rfl) rfl
theorem zw_2_129 : Cond.selects RX3 yX3_share yX3_share ∈ zT := zin2 (List.mem_of_getElem? (i := 129) rfl) rfl
theorem zw_2_130 : Cond.code yX3_share cX3_share 6 (some .int) ∈ zT := zin2 (List.mem_of_getElem? (i := 130) rfl) rfl
theorem zw_2_131 : Cond.methodLink RL 78 yX3_feet ∈ zT := zin2 (List.mem_of_getElem? (i := 131) rfl) rfl
theorem zw_2_132 : Cond.instanceMethod yX3_feet ∈ zT := zin2 (List.mem_of_getElem? (i := 132) rfl) rfl
theorem zw_2_133 : Cond.selects RX3 yX3_feet yX3_feet ∈ zT := zin2 (List.mem_of_getElem? (i := 133) rfl) rfl
theorem zw_2_134 : Cond.code yX3_feet cX3_feet 7 (some .int) ∈ zT := zin2 (List.mem_of_getElem? (i := 134) rfl) rfl
theorem zw_2_135 : Cond.methodLink RL 82 yX3_contested ∈ zT := zin2 (List.mem_of_getElem? (i := 135) rfl) rfl
theorem zw_2_136 : Cond.instanceMethod yX3_contested ∈ zT := zin2 (List.mem_of_getElem? (i := 136) rfl) rfl
theorem zw_2_137 : Cond.selects RX3 yX3_contested yX3_contested ∈ zT := zin2 (List.mem_of_getElem? (i := 137) rfl) rfl
theorem zw_2_138 : Cond.code yX3_contested cX3_contested 6 (some .int) ∈ zT := zin2 (List.mem_of_getElem? (i := 138) rfl) rfl
theorem zw_2_139 : Cond.methodLink RX3 138 yX2_countOver ∈ zT := zin2 (List.mem_of_getElem? (i := 139) rfl) rfl
theorem zw_2_140 : Cond.instanceMethod yX2_countOver ∈ zT := zin2 (List.mem_of_getElem? (i := 140) rfl) rfl
theorem zw_2_141 : Cond.selects RX2 yX2_countOver yX2_countOver ∈ zT := zin2 (List.mem_of_getElem? (i := 141) rfl) rfl
theorem zw_2_142 : Cond.code yX2_countOver cX2_countOver 5 (some .int) ∈ zT := zin2 (List.mem_of_getElem? (i := 142) rfl) rfl
theorem zw_2_143 : Cond.methodLink RL 86 yX3_dug ∈ zT := zin2 (List.mem_of_getElem? (i := 143) rfl) rfl
theorem zw_2_144 : Cond.instanceMethod yX3_dug ∈ zT := zin2 (List.mem_of_getElem? (i := 144) rfl) rfl
theorem zw_2_145 : Cond.selects RX3 yX3_dug yX3_dug ∈ zT := zin2 (List.mem_of_getElem? (i := 145) rfl) rfl
theorem zw_2_146 : Cond.code yX3_dug cX3_dug 4 (some .int) ∈ zT := zin2 (List.mem_of_getElem? (i := 146) rfl) rfl
theorem zw_2_147 : Cond.methodLink RL 90 yX3_due ∈ zT := zin2 (List.mem_of_getElem? (i := 147) rfl) rfl
theorem zw_2_148 : Cond.instanceMethod yX3_due ∈ zT := zin2 (List.mem_of_getElem? (i := 148) rfl) rfl
theorem zw_2_149 : Cond.selects RX3 yX3_due yX3_due ∈ zT := zin2 (List.mem_of_getElem? (i := 149) rfl) rfl
theorem zw_2_150 : Cond.code yX3_due cX3_due 4 (some .int) ∈ zT := zin2 (List.mem_of_getElem? (i := 150) rfl) rfl
theorem zw_2_151 : Cond.methodLink RL 94 yX3_changed ∈ zT := zin2 (List.mem_of_getElem? (i := 151) rfl) rfl
theorem zw_2_152 : Cond.instanceMethod yX3_changed ∈ zT := zin2 (List.mem_of_getElem? (i := 152) rfl) rfl
theorem zw_2_153 : Cond.selects RX3 yX3_changed yX3_changed ∈ zT := zin2 (List.mem_of_getElem? (i := 153) rfl) rfl
theorem zw_2_154 : Cond.code yX3_changed cX3_changed 6 (some .int) ∈ zT := zin2 (List.mem_of_getElem? (i := 154) rfl) rfl
theorem zw_2_155 : Cond.methodLink RX3 147 yX3_noteHolders ∈ zT := zin2 (List.mem_of_getElem? (i := 155) rfl) rfl
theorem zw_2_157 : Cond.instanceMethod yX3_noteHolders ∈ zT := zin2 (List.mem_of_getElem? (i := 157) rfl) rfl
theorem zw_2_158 : Cond.code yX3_noteHolders cX3_noteHolders 2 none ∈ zT := zin2 (List.mem_of_getElem? (i := 158) rfl) rfl
theorem zw_2_159 : Cond.methodLink RL 98 yX3_many ∈ zT := zin2 (List.mem_of_getElem? (i := 159) rfl) rfl
theorem zw_2_160 : Cond.instanceMethod yX3_many ∈ zT := zin2 (List.mem_of_getElem? (i := 160) rfl) rfl
theorem zw_2_161 : Cond.selects RX3 yX3_many yX3_many ∈ zT := zin2 (List.mem_of_getElem? (i := 161) rfl) rfl
theorem zw_2_162 : Cond.code yX3_many cX3_many 2 (some .int) ∈ zT := zin2 (List.mem_of_getElem? (i := 162) rfl) rfl
theorem zw_2_163 : Cond.methodLink RX3 153 yX0_countWithdrawn ∈ zT := zin2 (List.mem_of_getElem? (i := 163) rfl) rfl
theorem zw_2_164 : Cond.instanceMethod yX0_countWithdrawn ∈ zT := zin2 (List.mem_of_getElem? (i := 164) rfl) rfl
theorem zw_2_165 : Cond.selects RX0 yX0_countWithdrawn yX0_countWithdrawn ∈ zT := zin2 (List.mem_of_getElem? (i := 165) rfl) rfl
theorem zw_2_166 : Cond.code yX0_countWithdrawn cX0_countWithdrawn 3 (some .int) ∈ zT := zin2 (List.mem_of_getElem? (i := 166) rfl) rfl
theorem zw_2_167 : Cond.methodLink RL 102 yX3_keep ∈ zT := zin2 (List.mem_of_getElem? (i := 167) rfl) rfl
theorem zw_2_168 : Cond.instanceMethod yX3_keep ∈ zT := zin2 (List.mem_of_getElem? (i := 168) rfl) rfl
theorem zw_2_169 : Cond.selects RX3 yX3_keep yX3_keep ∈ zT := zin2 (List.mem_of_getElem? (i := 169) rfl) rfl
theorem zw_2_170 : Cond.code yX3_keep cX3_keep 1 (some .int) ∈ zT := zin2 (List.mem_of_getElem? (i := 170) rfl) rfl
theorem zw_2_171 : Cond.methodLink RX3 157 yX0_copyFrom ∈ zT := zin2 (List.mem_of_getElem? (i := 171) rfl) rfl
theorem zw_2_172 : Cond.instanceMethod yX0_copyFrom ∈ zT := zin2 (List.mem_of_getElem? (i := 172) rfl) rfl
theorem zw_2_173 : Cond.selects RX0 yX0_copyFrom yX0_copyFrom ∈ zT := zin2 (List.mem_of_getElem? (i := 173) rfl) rfl
theorem zw_2_174 : Cond.code yX0_copyFrom cX0_copyFrom 2 none ∈ zT := zin2 (List.mem_of_getElem? (i := 174) rfl) rfl
theorem zw_2_175 : Cond.methodLink RX0 48 arraycopyName ∈ zT := zin2 (List.mem_of_getElem? (i := 175) rfl) rfl
theorem zw_2_176 : Cond.static arraycopyName ∈ zT := zin2 (List.mem_of_getElem? (i := 176) rfl) rfl
theorem zw_2_177 : Cond.native arraycopyName ∈ zT := zin2 (List.mem_of_getElem? (i := 177) rfl) rfl
theorem zw_2_178 : Cond.methodLink RL 107 yX3_back ∈ zT := zin2 (List.mem_of_getElem? (i := 178) rfl) rfl
theorem zw_2_179 : Cond.instanceMethod yX3_back ∈ zT := zin2 (List.mem_of_getElem? (i := 179) rfl) rfl
theorem zw_2_180 : Cond.selects RX3 yX3_back yX3_back ∈ zT := zin2 (List.mem_of_getElem? (i := 180) rfl) rfl
theorem zw_2_181 : Cond.code yX3_back cX3_back 1 (some .int) ∈ zT := zin2 (List.mem_of_getElem? (i := 181) rfl) rfl
theorem zw_2_182 : Cond.classLink RL 10 RX4 ∈ zT := zin2 (List.mem_of_getElem? (i := 182) rfl) rfl
theorem zw_2_183 : Cond.instantiable RX4 31 ∈ zT := zin2 (List.mem_of_getElem? (i := 183) rfl) rfl
theorem zw_2_184 : Cond.methodLink RL 12 yX4_init ∈ zT := zin2 (List.mem_of_getElem? (i := 184) rfl) rfl
theorem zw_2_185 : Cond.instanceMethod yX4_init ∈ zT := zin2 (List.mem_of_getElem? (i := 185) rfl) rfl
theorem zw_2_186 : Cond.code yX4_init cX4_init 1 none ∈ zT := zin2 (List.mem_of_getElem? (i := 186) rfl) rfl
theorem zw_2_187 : Cond.methodLink RX4 1 objectInit ∈ zT := zin2 (List.mem_of_getElem? (i := 187) rfl) rfl
theorem zw_2_188 : Cond.fieldLink RX4 100 "VeinCourtModel" "clock" "I" ∈ zT := zin2 (List.mem_of_getElem? (i := 188) rfl) rfl
theorem zw_2_189 : Cond.fieldLink RX4 7 "VeinCourtModel" "reach" "I" ∈ zT := zin2 (List.mem_of_getElem? (i := 189) rfl) rfl
theorem zw_2_190 : Cond.fieldLink RX4 13 "VeinCourtModel" "idle" "I" ∈ zT := zin2 (List.mem_of_getElem? (i := 190) rfl) rfl
theorem zw_2_191 : Cond.fieldLink RX4 97 "VeinCourtModel" "facts" "I" ∈ zT := zin2 (List.mem_of_getElem? (i := 191) rfl) rfl
theorem zw_2_192 : Cond.fieldLink RX4 113 "VeinCourtModel" "stakes" "I" ∈ zT := zin2 (List.mem_of_getElem? (i := 192) rfl) rfl
theorem zw_2_193 : Cond.fieldLink RX4 16 "VeinCourtModel" "kinds" "[I" ∈ zT := zin2 (List.mem_of_getElem? (i := 193) rfl) rfl
theorem zw_2_194 : Cond.fieldLink RX4 20 "VeinCourtModel" "abouts" "[I" ∈ zT := zin2 (List.mem_of_getElem? (i := 194) rfl) rfl
theorem zw_2_195 : Cond.fieldLink RX4 23 "VeinCourtModel" "tolds" "[I" ∈ zT := zin2 (List.mem_of_getElem? (i := 195) rfl) rfl
theorem zw_2_196 : Cond.fieldLink RX4 26 "VeinCourtModel" "withdrawns" "[I" ∈ zT := zin2 (List.mem_of_getElem? (i := 196) rfl) rfl
theorem zw_2_197 : Cond.fieldLink RX4 29 "VeinCourtModel" "veins" "[I" ∈ zT := zin2 (List.mem_of_getElem? (i := 197) rfl) rfl
theorem zw_2_198 : Cond.fieldLink RX4 32 "VeinCourtModel" "miners" "[I" ∈ zT := zin2 (List.mem_of_getElem? (i := 198) rfl) rfl
theorem zw_2_199 : Cond.fieldLink RX4 35 "VeinCourtModel" "others" "[I" ∈ zT := zin2 (List.mem_of_getElem? (i := 199) rfl) rfl
theorem zw_2_200 : Cond.fieldLink RX4 38 "VeinCourtModel" "firsts" "[I" ∈ zT := zin2 (List.mem_of_getElem? (i := 200) rfl) rfl
theorem zw_2_201 : Cond.fieldLink RX4 41 "VeinCourtModel" "lasts" "[I" ∈ zT := zin2 (List.mem_of_getElem? (i := 201) rfl) rfl
theorem zw_2_202 : Cond.fieldLink RX4 44 "VeinCourtModel" "counts" "[I" ∈ zT := zin2 (List.mem_of_getElem? (i := 202) rfl) rfl
theorem zw_2_203 : Cond.fieldLink RX4 47 "VeinCourtModel" "claims" "[I" ∈ zT := zin2 (List.mem_of_getElem? (i := 203) rfl) rfl
theorem zw_2_204 : Cond.fieldLink RX4 170 "VeinCourtModel" "isKept" "Z" ∈ zT := zin2 (List.mem_of_getElem? (i := 204) rfl) rfl
theorem zw_2_205 : Cond.fieldLink RX4 50 "VeinCourtModel" "keptNumbers" "[I" ∈ zT := zin2 (List.mem_of_getElem? (i := 205) rfl) rfl
theorem zw_2_206 : Cond.fieldLink RX4 53 "VeinCourtModel" "kept" "[I" ∈ zT := zin2 (List.mem_of_getElem? (i := 206) rfl) rfl
theorem zw_2_207 : Cond.fieldLink RX4 56 "VeinCourtModel" "stands" "[Z" ∈ zT := zin2 (List.mem_of_getElem? (i := 207) rfl) rfl
theorem zw_2_208 : Cond.fieldLink RX4 60 "VeinCourtModel" "holder" "[I" ∈ zT := zin2 (List.mem_of_getElem? (i := 208) rfl) rfl
theorem zw_2_209 : Cond.fieldLink RX4 63 "VeinCourtModel" "shares" "[I" ∈ zT := zin2 (List.mem_of_getElem? (i := 209) rfl) rfl
theorem zw_2_210 : Cond.fieldLink RX4 66 "VeinCourtModel" "worked" "[I" ∈ zT := zin2 (List.mem_of_getElem? (i := 210) rfl) rfl
theorem zw_2_211 : Cond.fieldLink RX4 69 "VeinCourtModel" "from" "[I" ∈ zT := zin2 (List.mem_of_getElem? (i := 211) rfl) rfl
theorem zw_2_212 : Cond.fieldLink RX4 72 "VeinCourtModel" "to" "[I" ∈ zT := zin2 (List.mem_of_getElem? (i := 212) rfl) rfl
theorem zw_2_213 : Cond.fieldLink RX4 75 "VeinCourtModel" "nickBy" "[I" ∈ zT := zin2 (List.mem_of_getElem? (i := 213) rfl) rfl
theorem zw_2_214 : Cond.fieldLink RX4 78 "VeinCourtModel" "nicks" "[I" ∈ zT := zin2 (List.mem_of_getElem? (i := 214) rfl) rfl
theorem zw_2_215 : Cond.fieldLink RX4 81 "VeinCourtModel" "firstNick" "[I" ∈ zT := zin2 (List.mem_of_getElem? (i := 215) rfl) rfl
theorem zw_2_216 : Cond.fieldLink RX4 84 "VeinCourtModel" "lastNick" "[I" ∈ zT := zin2 (List.mem_of_getElem? (i := 216) rfl) rfl
theorem zw_2_217 : Cond.fieldLink RX4 87 "VeinCourtModel" "ore" "[I" ∈ zT := zin2 (List.mem_of_getElem? (i := 217) rfl) rfl
theorem zw_2_218 : Cond.fieldLink RX4 90 "VeinCourtModel" "had" "[I" ∈ zT := zin2 (List.mem_of_getElem? (i := 218) rfl) rfl
theorem zw_2_219 : Cond.lays "VeinCourtModel" "VeinCourtModel" "clock" "I" ∈ zT := zin2 (List.mem_of_getElem? (i := 219) rfl) rfl
theorem zw_2_221 : Cond.lays "VeinCourtModel" "VeinCourtModel" "reach" "I" ∈ zT := zin2 (List.mem_of_getElem? (i := 221) rfl) rfl
theorem zw_2_223 : Cond.lays "VeinCourtModel" "VeinCourtModel" "idle" "I" ∈ zT := zin2 (List.mem_of_getElem? (i := 223) rfl) rfl
theorem zw_2_225 : Cond.lays "VeinCourtModel" "VeinCourtModel" "facts" "I" ∈ zT := zin2 (List.mem_of_getElem? (i := 225) rfl) rfl
theorem zw_2_227 : Cond.lays "VeinCourtModel" "VeinCourtModel" "stakes" "I" ∈ zT := zin2 (List.mem_of_getElem? (i := 227) rfl) rfl
theorem zw_2_229 : Cond.laysFinal "VeinCourtModel" "VeinCourtModel" "kinds" "[I" ∈ zT := zin2 (List.mem_of_getElem? (i := 229) rfl) rfl
theorem zw_2_231 : Cond.laysFinal "VeinCourtModel" "VeinCourtModel" "abouts" "[I" ∈ zT := zin2 (List.mem_of_getElem? (i := 231) rfl) rfl
theorem zw_2_233 : Cond.laysFinal "VeinCourtModel" "VeinCourtModel" "tolds" "[I" ∈ zT := zin2 (List.mem_of_getElem? (i := 233) rfl) rfl
theorem zw_2_235 : Cond.laysFinal "VeinCourtModel" "VeinCourtModel" "withdrawns" "[I" ∈ zT := zin2 (List.mem_of_getElem? (i := 235) rfl) rfl
theorem zw_2_237 : Cond.laysFinal "VeinCourtModel" "VeinCourtModel" "veins" "[I" ∈ zT := zin2 (List.mem_of_getElem? (i := 237) rfl) rfl
theorem zw_2_239 : Cond.laysFinal "VeinCourtModel" "VeinCourtModel" "miners" "[I" ∈ zT := zin2 (List.mem_of_getElem? (i := 239) rfl) rfl
theorem zw_3_1 : Cond.laysFinal "VeinCourtModel" "VeinCourtModel" "others" "[I" ∈ zT := zin3 (List.mem_of_getElem? (i := 1) rfl) rfl
theorem zw_3_3 : Cond.laysFinal "VeinCourtModel" "VeinCourtModel" "firsts" "[I" ∈ zT := zin3 (List.mem_of_getElem? (i := 3) rfl) rfl
theorem zw_3_5 : Cond.laysFinal "VeinCourtModel" "VeinCourtModel" "lasts" "[I" ∈ zT := zin3 (List.mem_of_getElem? (i := 5) rfl) rfl
theorem zw_3_7 : Cond.laysFinal "VeinCourtModel" "VeinCourtModel" "counts" "[I" ∈ zT := zin3 (List.mem_of_getElem? (i := 7) rfl) rfl
theorem zw_3_9 : Cond.laysFinal "VeinCourtModel" "VeinCourtModel" "claims" "[I" ∈ zT := zin3 (List.mem_of_getElem? (i := 9) rfl) rfl
theorem zw_3_11 : Cond.lays "VeinCourtModel" "VeinCourtModel" "isKept" "Z" ∈ zT := zin3 (List.mem_of_getElem? (i := 11) rfl) rfl
theorem zw_3_13 : Cond.laysFinal "VeinCourtModel" "VeinCourtModel" "keptNumbers" "[I" ∈ zT := zin3 (List.mem_of_getElem? (i := 13) rfl) rfl
theorem zw_3_15 : Cond.laysFinal "VeinCourtModel" "VeinCourtModel" "kept" "[I" ∈ zT := zin3 (List.mem_of_getElem? (i := 15) rfl) rfl
theorem zw_3_17 : Cond.laysFinal "VeinCourtModel" "VeinCourtModel" "stands" "[Z" ∈ zT := zin3 (List.mem_of_getElem? (i := 17) rfl) rfl
theorem zw_3_19 : Cond.laysFinal "VeinCourtModel" "VeinCourtModel" "holder" "[I" ∈ zT := zin3 (List.mem_of_getElem? (i := 19) rfl) rfl
theorem zw_3_21 : Cond.laysFinal "VeinCourtModel" "VeinCourtModel" "shares" "[I" ∈ zT := zin3 (List.mem_of_getElem? (i := 21) rfl) rfl
theorem zw_3_23 : Cond.laysFinal "VeinCourtModel" "VeinCourtModel" "worked" "[I" ∈ zT := zin3 (List.mem_of_getElem? (i := 23) rfl) rfl
theorem zw_3_25 : Cond.laysFinal "VeinCourtModel" "VeinCourtModel" "from" "[I" ∈ zT := zin3 (List.mem_of_getElem? (i := 25) rfl) rfl
theorem zw_3_27 : Cond.laysFinal "VeinCourtModel" "VeinCourtModel" "to" "[I" ∈ zT := zin3 (List.mem_of_getElem? (i := 27) rfl) rfl
theorem zw_3_29 : Cond.laysFinal "VeinCourtModel" "VeinCourtModel" "nickBy" "[I" ∈ zT := zin3 (List.mem_of_getElem? (i := 29) rfl) rfl
theorem zw_3_31 : Cond.laysFinal "VeinCourtModel" "VeinCourtModel" "nicks" "[I" ∈ zT := zin3 (List.mem_of_getElem? (i := 31) rfl) rfl
theorem zw_3_33 : Cond.laysFinal "VeinCourtModel" "VeinCourtModel" "firstNick" "[I" ∈ zT := zin3 (List.mem_of_getElem? (i := 33) rfl) rfl
theorem zw_3_35 : Cond.laysFinal "VeinCourtModel" "VeinCourtModel" "lastNick" "[I" ∈ zT := zin3 (List.mem_of_getElem? (i := 35) rfl) rfl
theorem zw_3_37 : Cond.laysFinal "VeinCourtModel" "VeinCourtModel" "ore" "[I" ∈ zT := zin3 (List.mem_of_getElem? (i := 37) rfl) rfl
theorem zw_3_39 : Cond.laysFinal "VeinCourtModel" "VeinCourtModel" "had" "[I" ∈ zT := zin3 (List.mem_of_getElem? (i := 39) rfl) rfl
theorem zw_3_42 : Cond.arrayClass Jvm.ClassFile.FieldType.boolean ∈ zT := zin3 (List.mem_of_getElem? (i := 42) rfl) rfl
theorem zw_3_43 : Cond.methodLink RL 17 yX4_day ∈ zT := zin3 (List.mem_of_getElem? (i := 43) rfl) rfl
theorem zw_3_44 : Cond.instanceMethod yX4_day ∈ zT := zin3 (List.mem_of_getElem? (i := 44) rfl) rfl
theorem zw_3_45 : Cond.selects RX4 yX4_day yX4_day ∈ zT := zin3 (List.mem_of_getElem? (i := 45) rfl) rfl
theorem zw_3_46 : Cond.code yX4_day cX4_day 2 (some .int) ∈ zT := zin3 (List.mem_of_getElem? (i := 46) rfl) rfl
theorem zw_3_47 : Cond.methodLink RX4 93 yX4_in ∈ zT := zin3 (List.mem_of_getElem? (i := 47) rfl) rfl
theorem zw_3_48 : Cond.static yX4_in ∈ zT := zin3 (List.mem_of_getElem? (i := 48) rfl) rfl
theorem zw_3_49 : Cond.code yX4_in cX4_in 3 (some .boolean) ∈ zT := zin3 (List.mem_of_getElem? (i := 49) rfl) rfl
theorem zw_3_50 : Cond.methodLink RL 22 yX4_rule ∈ zT := zin3 (List.mem_of_getElem? (i := 50) rfl) rfl
theorem zw_3_51 : Cond.instanceMethod yX4_rule ∈ zT := zin3 (List.mem_of_getElem? (i := 51) rfl) rfl
theorem zw_3_52 : Cond.selects RX4 yX4_rule yX4_rule ∈ zT := zin3 (List.mem_of_getElem? (i := 52) rfl) rfl
theorem zw_3_53 : Cond.code yX4_rule cX4_rule 4 (some .int) ∈ zT := zin3 (List.mem_of_getElem? (i := 53) rfl) rfl
theorem zw_3_54 : Cond.methodLink RL 27 yX4_stake ∈ zT := zin3 (List.mem_of_getElem? (i := 54) rfl) rfl
theorem zw_3_55 : Cond.instanceMethod yX4_stake ∈ zT := zin3 (List.mem_of_getElem? (i := 55) rfl) rfl
theorem zw_3_56 : Cond.selects RX4 yX4_stake yX4_stake ∈ zT := zin3 (List.mem_of_getElem? (i := 56) rfl) rfl
theorem zw_3_57 : Cond.code yX4_stake cX4_stake 6 (some .int) ∈ zT := zin3 (List.mem_of_getElem? (i := 57) rfl) rfl
theorem zw_3_58 : Cond.methodLink RX4 103 yX4_isVein ∈ zT := zin3 (List.mem_of_getElem? (i := 58) rfl) rfl
theorem zw_3_59 : Cond.static yX4_isVein ∈ zT := zin3 (List.mem_of_getElem? (i := 59) rfl) rfl
theorem zw_3_60 : Cond.code yX4_isVein cX4_isVein 1 (some .boolean) ∈ zT := zin3 (List.mem_of_getElem? (i := 60) rfl) rfl
theorem zw_3_61 : Cond.methodLink RX4 107 yX4_isFoot ∈ zT := zin3 (List.mem_of_getElem? (i := 61) rfl) rfl
theorem zw_3_62 : Cond.static yX4_isFoot ∈ zT := zin3 (List.mem_of_getElem? (i := 62) rfl) rfl
theorem zw_3_63 : Cond.code yX4_isFoot cX4_isFoot 1 (some .boolean) ∈ zT := zin3 (List.mem_of_getElem? (i := 63) rfl) rfl
theorem zw_3_64 : Cond.methodLink RX4 110 yX4_isMiner ∈ zT := zin3 (List.mem_of_getElem? (i := 64) rfl) rfl
theorem zw_3_65 : Cond.static yX4_isMiner ∈ zT := zin3 (List.mem_of_getElem? (i := 65) rfl) rfl
theorem zw_3_66 : Cond.code yX4_isMiner cX4_isMiner 1 (some .boolean) ∈ zT := zin3 (List.mem_of_getElem? (i := 66) rfl) rfl
theorem zw_3_67 : Cond.methodLink RX4 116 yX4_tell ∈ zT := zin3 (List.mem_of_getElem? (i := 67) rfl) rfl
theorem zw_3_69 : Cond.instanceMethod yX4_tell ∈ zT := zin3 (List.mem_of_getElem? (i := 69) rfl) rfl
theorem zw_3_70 : Cond.code yX4_tell cX4_tell 5 (some .int) ∈ zT := zin3 (List.mem_of_getElem? (i := 70) rfl) rfl
theorem zw_3_71 : Cond.methodLink RL 31 yX4_work ∈ zT := zin3 (List.mem_of_getElem? (i := 71) rfl) rfl
theorem zw_3_72 : Cond.instanceMethod yX4_work ∈ zT := zin3 (List.mem_of_getElem? (i := 72) rfl) rfl
theorem zw_3_73 : Cond.selects RX4 yX4_work yX4_work ∈ zT := zin3 (List.mem_of_getElem? (i := 73) rfl) rfl
theorem zw_3_74 : Cond.code yX4_work cX4_work 4 (some .int) ∈ zT := zin3 (List.mem_of_getElem? (i := 74) rfl) rfl
theorem zw_3_75 : Cond.methodLink RX4 123 yX4_wrong ∈ zT := zin3 (List.mem_of_getElem? (i := 75) rfl) rfl
theorem zw_3_77 : Cond.instanceMethod yX4_wrong ∈ zT := zin3 (List.mem_of_getElem? (i := 77) rfl) rfl
theorem zw_3_78 : Cond.code yX4_wrong cX4_wrong 4 (some .int) ∈ zT := zin3 (List.mem_of_getElem? (i := 78) rfl) rfl
theorem zw_3_79 : Cond.methodLink RX4 120 yX4_isFact ∈ zT := zin3 (List.mem_of_getElem? (i := 79) rfl) rfl
theorem zw_3_81 : Cond.instanceMethod yX4_isFact ∈ zT := zin3 (List.mem_of_getElem? (i := 81) rfl) rfl
theorem zw_3_82 : Cond.code yX4_isFact cX4_isFact 2 (some .boolean) ∈ zT := zin3 (List.mem_of_getElem? (i := 82) rfl) rfl
theorem zw_3_83 : Cond.methodLink RL 36 yX4_nick ∈ zT := zin3 (List.mem_of_getElem? (i := 83) rfl) rfl
theorem zw_3_84 : Cond.instanceMethod yX4_nick ∈ zT := zin3 (List.mem_of_getElem? (i := 84) rfl) rfl
theorem zw_3_85 : Cond.selects RX4 yX4_nick yX4_nick ∈ zT := zin3 (List.mem_of_getElem? (i := 85) rfl) rfl
theorem zw_3_86 : Cond.code yX4_nick cX4_nick 5 (some .int) ∈ zT := zin3 (List.mem_of_getElem? (i := 86) rfl) rfl
theorem zw_3_87 : Cond.methodLink RL 40 yX4_give ∈ zT := zin3 (List.mem_of_getElem? (i := 87) rfl) rfl
theorem zw_3_88 : Cond.instanceMethod yX4_give ∈ zT := zin3 (List.mem_of_getElem? (i := 88) rfl) rfl
theorem zw_3_89 : Cond.selects RX4 yX4_give yX4_give ∈ zT := zin3 (List.mem_of_getElem? (i := 89) rfl) rfl
theorem zw_3_90 : Cond.code yX4_give cX4_give 4 (some .int) ∈ zT := zin3 (List.mem_of_getElem? (i := 90) rfl) rfl
theorem zw_3_91 : Cond.methodLink RL 44 yX4_view ∈ zT := zin3 (List.mem_of_getElem? (i := 91) rfl) rfl
theorem zw_3_92 : Cond.instanceMethod yX4_view ∈ zT := zin3 (List.mem_of_getElem? (i := 92) rfl) rfl
theorem zw_3_93 : Cond.selects RX4 yX4_view yX4_view ∈ zT := zin3 (List.mem_of_getElem? (i := 93) rfl) rfl
theorem zw_3_94 : Cond.code yX4_view cX4_view 7 (some .int) ∈ zT := zin3 (List.mem_of_getElem? (i := 94) rfl) rfl
theorem zw_3_95 : Cond.methodLink RL 49 yX4_sell ∈ zT := zin3 (List.mem_of_getElem? (i := 95) rfl) rfl
theorem zw_3_96 : Cond.instanceMethod yX4_sell ∈ zT := zin3 (List.mem_of_getElem? (i := 96) rfl) rfl
theorem zw_3_97 : Cond.selects RX4 yX4_sell yX4_sell ∈ zT := zin3 (List.mem_of_getElem? (i := 97) rfl) rfl
theorem zw_3_98 : Cond.code yX4_sell cX4_sell 8 (some .int) ∈ zT := zin3 (List.mem_of_getElem? (i := 98) rfl) rfl
theorem zw_3_99 : Cond.methodLink RL 53 yX4_dig ∈ zT := zin3 (List.mem_of_getElem? (i := 99) rfl) rfl
theorem zw_3_100 : Cond.instanceMethod yX4_dig ∈ zT := zin3 (List.mem_of_getElem? (i := 100) rfl) rfl
theorem zw_3_101 : Cond.selects RX4 yX4_dig yX4_dig ∈ zT := zin3 (List.mem_of_getElem? (i := 101) rfl) rfl
theorem zw_3_102 : Cond.code yX4_dig cX4_dig 6 (some .int) ∈ zT := zin3 (List.mem_of_getElem? (i := 102) rfl) rfl
theorem zw_3_103 : Cond.methodLink RL 57 yX4_withdraw ∈ zT := zin3 (List.mem_of_getElem? (i := 103) rfl) rfl
theorem zw_3_104 : Cond.instanceMethod yX4_withdraw ∈ zT := zin3 (List.mem_of_getElem? (i := 104) rfl) rfl
theorem zw_3_105 : Cond.selects RX4 yX4_withdraw yX4_withdraw ∈ zT := zin3 (List.mem_of_getElem? (i := 105) rfl) rfl
theorem zw_3_106 : Cond.code yX4_withdraw cX4_withdraw 2 (some .int) ∈ zT := zin3 (List.mem_of_getElem? (i := 106) rfl) rfl
theorem zw_3_107 : Cond.methodLink RL 61 yX4_fact ∈ zT := zin3 (List.mem_of_getElem? (i := 107) rfl) rfl
theorem zw_3_108 : Cond.instanceMethod yX4_fact ∈ zT := zin3 (List.mem_of_getElem? (i := 108) rfl) rfl
theorem zw_3_109 : Cond.selects RX4 yX4_fact yX4_fact ∈ zT := zin3 (List.mem_of_getElem? (i := 109) rfl) rfl
theorem zw_3_110 : Cond.code yX4_fact cX4_fact 3 (some .int) ∈ zT := zin3 (List.mem_of_getElem? (i := 110) rfl) rfl
theorem zw_3_111 : Cond.methodLink RL 65 yX4_owner ∈ zT := zin3 (List.mem_of_getElem? (i := 111) rfl) rfl
theorem zw_3_112 : Cond.instanceMethod yX4_owner ∈ zT := zin3 (List.mem_of_getElem? (i := 112) rfl) rfl
theorem zw_3_113 : Cond.selects RX4 yX4_owner yX4_owner ∈ zT := zin3 (List.mem_of_getElem? (i := 113) rfl) rfl
theorem zw_3_114 : Cond.code yX4_owner cX4_owner 6 (some .int) ∈ zT := zin3 (List.mem_of_getElem? (i := 114) rfl) rfl
theorem zw_3_115 : Cond.methodLink RX4 152 yX4_claim ∈ zT := zin3 (List.mem_of_getElem? (i := 115) rfl) rfl
theorem zw_3_116 : Cond.instanceMethod yX4_claim ∈ zT := zin3 (List.mem_of_getElem? (i := 116) rfl) rfl
theorem zw_3_117 : Cond.selects RX4 yX4_claim yX4_claim ∈ zT := zin3 (List.mem_of_getElem? (i := 117) rfl) rfl
theorem zw_3_118 : Cond.code yX4_claim cX4_claim 6 (some .int) ∈ zT := zin3 (List.mem_of_getElem? (i := 118) rfl) rfl
theorem zw_3_119 : Cond.methodLink RX4 155 yX4_isDay ∈ zT := zin3 (List.mem_of_getElem? (i := 119) rfl) rfl
theorem zw_3_120 : Cond.static yX4_isDay ∈ zT := zin3 (List.mem_of_getElem? (i := 120) rfl) rfl
theorem zw_3_121 : Cond.code yX4_isDay cX4_isDay 1 (some .boolean) ∈ zT := zin3 (List.mem_of_getElem? (i := 121) rfl) rfl
theorem zw_3_122 : Cond.methodLink RX4 158 yX4_go ∈ zT := zin3 (List.mem_of_getElem? (i := 122) rfl) rfl
theorem zw_3_124 : Cond.instanceMethod yX4_go ∈ zT := zin3 (List.mem_of_getElem? (i := 124) rfl) rfl
theorem zw_3_125 : Cond.code yX4_go cX4_go 9 none ∈ zT := zin3 (List.mem_of_getElem? (i := 125) rfl) rfl
theorem zw_3_126 : Cond.methodLink RX4 127 yX4_isKnown ∈ zT := zin3 (List.mem_of_getElem? (i := 126) rfl) rfl
theorem zw_3_128 : Cond.instanceMethod yX4_isKnown ∈ zT := zin3 (List.mem_of_getElem? (i := 128) rfl) rfl
theorem zw_3_129 : Cond.code yX4_isKnown cX4_isKnown 3 (some .boolean) ∈ zT := zin3 (List.mem_of_getElem? (i := 129) rfl) rfl
theorem zw_3_130 : Cond.methodLink RX4 131 yX4_comes ∈ zT := zin3 (List.mem_of_getElem? (i := 130) rfl) rfl
theorem zw_3_132 : Cond.instanceMethod yX4_comes ∈ zT := zin3 (List.mem_of_getElem? (i := 132) rfl) rfl
theorem zw_3_133 : Cond.code yX4_comes cX4_comes 4 none ∈ zT := zin3 (List.mem_of_getElem? (i := 133) rfl) rfl
theorem zw_3_134 : Cond.methodLink RX4 135 yX4_holds ∈ zT := zin3 (List.mem_of_getElem? (i := 134) rfl) rfl
theorem zw_3_136 : Cond.instanceMethod yX4_holds ∈ zT := zin3 (List.mem_of_getElem? (i := 136) rfl) rfl
theorem zw_3_137 : Cond.code yX4_holds cX4_holds 5 none ∈ zT := zin3 (List.mem_of_getElem? (i := 137) rfl) rfl
theorem zw_3_138 : Cond.methodLink RX4 139 yX4_digs ∈ zT := zin3 (List.mem_of_getElem? (i := 138) rfl) rfl
theorem zw_3_140 : Cond.instanceMethod yX4_digs ∈ zT := zin3 (List.mem_of_getElem? (i := 140) rfl) rfl
theorem zw_3_141 : Cond.code yX4_digs cX4_digs 4 none ∈ zT := zin3 (List.mem_of_getElem? (i := 141) rfl) rfl
theorem zw_3_142 : Cond.methodLink RX4 148 yX4_ownerOf ∈ zT := zin3 (List.mem_of_getElem? (i := 142) rfl) rfl
theorem zw_3_144 : Cond.instanceMethod yX4_ownerOf ∈ zT := zin3 (List.mem_of_getElem? (i := 144) rfl) rfl
theorem zw_3_145 : Cond.code yX4_ownerOf cX4_ownerOf 6 (some .int) ∈ zT := zin3 (List.mem_of_getElem? (i := 145) rfl) rfl
theorem zw_3_146 : Cond.methodLink RX4 142 yX4_comesTo ∈ zT := zin3 (List.mem_of_getElem? (i := 146) rfl) rfl
theorem zw_3_148 : Cond.instanceMethod yX4_comesTo ∈ zT := zin3 (List.mem_of_getElem? (i := 148) rfl) rfl
theorem zw_3_149 : Cond.code yX4_comesTo cX4_comesTo 4 none ∈ zT := zin3 (List.mem_of_getElem? (i := 149) rfl) rfl
theorem zw_3_150 : Cond.methodLink RX4 145 yX4_nicked ∈ zT := zin3 (List.mem_of_getElem? (i := 150) rfl) rfl
theorem zw_3_152 : Cond.instanceMethod yX4_nicked ∈ zT := zin3 (List.mem_of_getElem? (i := 152) rfl) rfl
theorem zw_3_153 : Cond.code yX4_nicked cX4_nicked 4 none ∈ zT := zin3 (List.mem_of_getElem? (i := 153) rfl) rfl
theorem zw_3_154 : Cond.methodLink RL 69 yX4_claim ∈ zT := zin3 (List.mem_of_getElem? (i := 154) rfl) rfl
theorem zw_3_155 : Cond.methodLink RL 73 yX4_of ∈ zT := zin3 (List.mem_of_getElem? (i := 155) rfl) rfl
theorem zw_3_156 : Cond.instanceMethod yX4_of ∈ zT := zin3 (List.mem_of_getElem? (i := 156) rfl) rfl
theorem zw_3_157 : Cond.selects RX4 yX4_of yX4_of ∈ zT := zin3 (List.mem_of_getElem? (i := 157) rfl) rfl
theorem zw_3_158 : Cond.code yX4_of cX4_of 5 (some .int) ∈ zT := zin3 (List.mem_of_getElem? (i := 158) rfl) rfl
theorem zw_3_159 : Cond.methodLink RX4 162 yX4_owned ∈ zT := zin3 (List.mem_of_getElem? (i := 159) rfl) rfl
theorem zw_3_161 : Cond.instanceMethod yX4_owned ∈ zT := zin3 (List.mem_of_getElem? (i := 161) rfl) rfl
theorem zw_3_162 : Cond.code yX4_owned cX4_owned 4 (some .int) ∈ zT := zin3 (List.mem_of_getElem? (i := 162) rfl) rfl
theorem zw_3_163 : Cond.methodLink RL 77 yX4_share ∈ zT := zin3 (List.mem_of_getElem? (i := 163) rfl) rfl
theorem zw_3_164 : Cond.instanceMethod yX4_share ∈ zT := zin3 (List.mem_of_getElem? (i := 164) rfl) rfl
theorem zw_3_165 : Cond.selects RX4 yX4_share yX4_share ∈ zT := zin3 (List.mem_of_getElem? (i := 165) rfl) rfl
theorem zw_3_166 : Cond.code yX4_share cX4_share 5 (some .int) ∈ zT := zin3 (List.mem_of_getElem? (i := 166) rfl) rfl
theorem zw_3_167 : Cond.methodLink RL 81 yX4_feet ∈ zT := zin3 (List.mem_of_getElem? (i := 167) rfl) rfl
theorem zw_3_168 : Cond.instanceMethod yX4_feet ∈ zT := zin3 (List.mem_of_getElem? (i := 168) rfl) rfl
theorem zw_3_169 : Cond.selects RX4 yX4_feet yX4_feet ∈ zT := zin3 (List.mem_of_getElem? (i := 169) rfl) rfl
theorem zw_3_170 : Cond.code yX4_feet cX4_feet 8 (some .int) ∈ zT := zin3 (List.mem_of_getElem? (i := 170) rfl) rfl
theorem zw_3_171 : Cond.methodLink RL 85 yX4_contested ∈ zT := zin3 (List.mem_of_getElem? (i := 171) rfl) rfl
theorem zw_3_172 : Cond.instanceMethod yX4_contested ∈ zT := zin3 (List.mem_of_getElem? (i := 172) rfl) rfl
theorem zw_3_173 : Cond.selects RX4 yX4_contested yX4_contested ∈ zT := zin3 (List.mem_of_getElem? (i := 173) rfl) rfl
theorem zw_3_174 : Cond.code yX4_contested cX4_contested 8 (some .int) ∈ zT := zin3 (List.mem_of_getElem? (i := 174) rfl) rfl
theorem zw_3_175 : Cond.methodLink RL 89 yX4_dug ∈ zT := zin3 (List.mem_of_getElem? (i := 175) rfl) rfl
theorem zw_3_176 : Cond.instanceMethod yX4_dug ∈ zT := zin3 (List.mem_of_getElem? (i := 176) rfl) rfl
theorem zw_3_177 : Cond.selects RX4 yX4_dug yX4_dug ∈ zT := zin3 (List.mem_of_getElem? (i := 177) rfl) rfl
theorem zw_3_178 : Cond.code yX4_dug cX4_dug 4 (some .int) ∈ zT := zin3 (List.mem_of_getElem? (i := 178) rfl) rfl
theorem zw_3_179 : Cond.methodLink RL 93 yX4_due ∈ zT := zin3 (List.mem_of_getElem? (i := 179) rfl) rfl
theorem zw_3_180 : Cond.instanceMethod yX4_due ∈ zT := zin3 (List.mem_of_getElem? (i := 180) rfl) rfl
theorem zw_3_181 : Cond.selects RX4 yX4_due yX4_due ∈ zT := zin3 (List.mem_of_getElem? (i := 181) rfl) rfl
theorem zw_3_182 : Cond.code yX4_due cX4_due 4 (some .int) ∈ zT := zin3 (List.mem_of_getElem? (i := 182) rfl) rfl
theorem zw_3_183 : Cond.methodLink RL 97 yX4_changed ∈ zT := zin3 (List.mem_of_getElem? (i := 183) rfl) rfl
theorem zw_3_184 : Cond.instanceMethod yX4_changed ∈ zT := zin3 (List.mem_of_getElem? (i := 184) rfl) rfl
theorem zw_3_185 : Cond.selects RX4 yX4_changed yX4_changed ∈ zT := zin3 (List.mem_of_getElem? (i := 185) rfl) rfl
theorem zw_3_186 : Cond.code yX4_changed cX4_changed 7 (some .int) ∈ zT := zin3 (List.mem_of_getElem? (i := 186) rfl) rfl
theorem zw_3_187 : Cond.methodLink RL 101 yX4_many ∈ zT := zin3 (List.mem_of_getElem? (i := 187) rfl) rfl
theorem zw_3_188 : Cond.instanceMethod yX4_many ∈ zT := zin3 (List.mem_of_getElem? (i := 188) rfl) rfl
theorem zw_3_189 : Cond.selects RX4 yX4_many yX4_many ∈ zT := zin3 (List.mem_of_getElem? (i := 189) rfl) rfl
theorem zw_3_190 : Cond.code yX4_many cX4_many 2 (some .int) ∈ zT := zin3 (List.mem_of_getElem? (i := 190) rfl) rfl
theorem zw_3_191 : Cond.methodLink RX4 166 yX4_withdrawn ∈ zT := zin3 (List.mem_of_getElem? (i := 191) rfl) rfl
theorem zw_3_193 : Cond.instanceMethod yX4_withdrawn ∈ zT := zin3 (List.mem_of_getElem? (i := 193) rfl) rfl
theorem zw_3_194 : Cond.code yX4_withdrawn cX4_withdrawn 3 (some .int) ∈ zT := zin3 (List.mem_of_getElem? (i := 194) rfl) rfl
theorem zw_3_195 : Cond.methodLink RL 106 yX4_keep ∈ zT := zin3 (List.mem_of_getElem? (i := 195) rfl) rfl
theorem zw_3_196 : Cond.instanceMethod yX4_keep ∈ zT := zin3 (List.mem_of_getElem? (i := 196) rfl) rfl
theorem zw_3_197 : Cond.selects RX4 yX4_keep yX4_keep ∈ zT := zin3 (List.mem_of_getElem? (i := 197) rfl) rfl
theorem zw_3_198 : Cond.code yX4_keep cX4_keep 1 (some .int) ∈ zT := zin3 (List.mem_of_getElem? (i := 198) rfl) rfl
theorem zw_3_199 : Cond.methodLink RX4 174 yX4_copy ∈ zT := zin3 (List.mem_of_getElem? (i := 199) rfl) rfl
theorem zw_3_200 : Cond.static yX4_copy ∈ zT := zin3 (List.mem_of_getElem? (i := 200) rfl) rfl
theorem zw_3_201 : Cond.code yX4_copy cX4_copy 6 none ∈ zT := zin3 (List.mem_of_getElem? (i := 201) rfl) rfl
theorem zw_3_202 : Cond.methodLink RL 110 yX4_back ∈ zT := zin3 (List.mem_of_getElem? (i := 202) rfl) rfl
theorem zw_3_203 : Cond.instanceMethod yX4_back ∈ zT := zin3 (List.mem_of_getElem? (i := 203) rfl) rfl
theorem zw_3_204 : Cond.selects RX4 yX4_back yX4_back ∈ zT := zin3 (List.mem_of_getElem? (i := 204) rfl) rfl
theorem zw_3_205 : Cond.code yX4_back cX4_back 1 (some .int) ∈ zT := zin3 (List.mem_of_getElem? (i := 205) rfl) rfl
theorem zw_p1_0 : Cond.selects RX3 yX3_isPast yX3_isPast ∈ zT := zinp1 (List.mem_of_getElem? (i := 0) rfl) rfl
theorem zw_p1_1 : Cond.selects RX0 yX0_setInOrder yX0_setInOrder ∈ zT := zinp1 (List.mem_of_getElem? (i := 1) rfl) rfl
theorem zw_p1_2 : Cond.selects RX3 yX3_refusalOfClaim yX3_refusalOfClaim ∈ zT := zinp1 (List.mem_of_getElem? (i := 2) rfl) rfl
theorem zw_p1_3 : Cond.selects RX3 yX3_goThrough yX3_goThrough ∈ zT := zinp1 (List.mem_of_getElem? (i := 3) rfl) rfl
theorem zw_p1_4 : Cond.selects RX2 yX2_clear yX2_clear ∈ zT := zinp1 (List.mem_of_getElem? (i := 4) rfl) rfl
theorem zw_p1_5 : Cond.selects RX2 yX2_apply yX2_apply ∈ zT := zinp1 (List.mem_of_getElem? (i := 5) rfl) rfl
theorem zw_p1_6 : Cond.selects RX2 yX2_addClaim yX2_addClaim ∈ zT := zinp1 (List.mem_of_getElem? (i := 6) rfl) rfl
theorem zw_p1_7 : Cond.selects RX1 yX1_setFeet yX1_setFeet ∈ zT := zinp1 (List.mem_of_getElem? (i := 7) rfl) rfl
theorem zw_p1_8 : Cond.selects RX1 yX1_passTo yX1_passTo ∈ zT := zinp1 (List.mem_of_getElem? (i := 8) rfl) rfl
theorem zw_p1_9 : Cond.selects RX1 yX1_setWorked yX1_setWorked ∈ zT := zinp1 (List.mem_of_getElem? (i := 9) rfl) rfl
theorem zw_p1_10 : Cond.selects RX2 yX2_bringOre yX2_bringOre ∈ zT := zinp1 (List.mem_of_getElem? (i := 10) rfl) rfl
theorem zw_p1_11 : Cond.selects RX1 yX1_takeNick yX1_takeNick ∈ zT := zinp1 (List.mem_of_getElem? (i := 11) rfl) rfl
theorem zw_p1_12 : Cond.selects RX1 yX1_addNick yX1_addNick ∈ zT := zinp1 (List.mem_of_getElem? (i := 12) rfl) rfl
theorem zw_p1_13 : Cond.selects RX1 yX1_moveShares yX1_moveShares ∈ zT := zinp1 (List.mem_of_getElem? (i := 13) rfl) rfl
theorem zw_p1_14 : Cond.selects RX3 yX3_tellOf yX3_tellOf ∈ zT := zinp1 (List.mem_of_getElem? (i := 14) rfl) rfl
theorem zw_p1_15 : Cond.selects RX3 yX3_noteHolders yX3_noteHolders ∈ zT := zinp1 (List.mem_of_getElem? (i := 15) rfl) rfl
theorem zw_p2_0 : Cond.selects RX4 yX4_tell yX4_tell ∈ zT := zinp2 (List.mem_of_getElem? (i := 0) rfl) rfl
theorem zw_p2_1 : Cond.selects RX4 yX4_wrong yX4_wrong ∈ zT := zinp2 (List.mem_of_getElem? (i := 1) rfl) rfl
theorem zw_p2_2 : Cond.selects RX4 yX4_isFact yX4_isFact ∈ zT := zinp2 (List.mem_of_getElem? (i := 2) rfl) rfl
theorem zw_p2_3 : Cond.selects RX4 yX4_go yX4_go ∈ zT := zinp2 (List.mem_of_getElem? (i := 3) rfl) rfl
theorem zw_p2_4 : Cond.selects RX4 yX4_isKnown yX4_isKnown ∈ zT := zinp2 (List.mem_of_getElem? (i := 4) rfl) rfl
theorem zw_p2_5 : Cond.selects RX4 yX4_comes yX4_comes ∈ zT := zinp2 (List.mem_of_getElem? (i := 5) rfl) rfl
theorem zw_p2_6 : Cond.selects RX4 yX4_holds yX4_holds ∈ zT := zinp2 (List.mem_of_getElem? (i := 6) rfl) rfl
theorem zw_p2_7 : Cond.selects RX4 yX4_digs yX4_digs ∈ zT := zinp2 (List.mem_of_getElem? (i := 7) rfl) rfl
theorem zw_p2_8 : Cond.selects RX4 yX4_ownerOf yX4_ownerOf ∈ zT := zinp2 (List.mem_of_getElem? (i := 8) rfl) rfl
theorem zw_p2_9 : Cond.selects RX4 yX4_comesTo yX4_comesTo ∈ zT := zinp2 (List.mem_of_getElem? (i := 9) rfl) rfl
theorem zw_p2_10 : Cond.selects RX4 yX4_nicked yX4_nicked ∈ zT := zinp2 (List.mem_of_getElem? (i := 10) rfl) rfl
theorem zw_p2_11 : Cond.selects RX4 yX4_owned yX4_owned ∈ zT := zinp2 (List.mem_of_getElem? (i := 11) rfl) rfl
theorem zw_p2_12 : Cond.selects RX4 yX4_withdrawn yX4_withdrawn ∈ zT := zinp2 (List.mem_of_getElem? (i := 12) rfl) rfl
theorem zy_X0 : ∀ w ∈ u_ws RX0 TX0 5, w ∈ zT := fun w h => by
  obtain ⟨k, hk, rfl⟩ := List.mem_map.mp h
  have hk := List.mem_range.mp hk
  match k, hk with
  | 0, _ => exact zw_1_32
  | 1, _ => exact zw_1_34
  | 2, _ => exact zw_1_36
  | 3, _ => exact zw_1_38
  | 4, _ => exact zw_1_40
  | k + 5, h => exact absurd h (by omega)
theorem zy_X1 : ∀ w ∈ u_ws RX1 TX1 12, w ∈ zT := fun w h => by
  obtain ⟨k, hk, rfl⟩ := List.mem_map.mp h
  have hk := List.mem_range.mp hk
  match k, hk with
  | 0, _ => exact zw_1_83
  | 1, _ => exact zw_1_85
  | 2, _ => exact zw_1_87
  | 3, _ => exact zw_1_89
  | 4, _ => exact zw_1_91
  | 5, _ => exact zw_1_93
  | 6, _ => exact zw_1_95
  | 7, _ => exact zw_1_97
  | 8, _ => exact zw_1_99
  | 9, _ => exact zw_1_101
  | 10, _ => exact zw_1_103
  | 11, _ => exact zw_1_105
  | k + 12, h => exact absurd h (by omega)
theorem zy_X2 : ∀ w ∈ u_ws RX2 TX2 3, w ∈ zT := fun w h => by
  obtain ⟨k, hk, rfl⟩ := List.mem_map.mp h
  have hk := List.mem_range.mp hk
  match k, hk with
  | 0, _ => exact zw_1_112
  | 1, _ => exact zw_1_114
  | 2, _ => exact zw_1_116
  | k + 3, h => exact absurd h (by omega)
theorem zy_X3 : ∀ w ∈ u_ws RX3 TX3 7, w ∈ zT := fun w h => by
  obtain ⟨k, hk, rfl⟩ := List.mem_map.mp h
  have hk := List.mem_range.mp hk
  match k, hk with
  | 0, _ => exact zw_1_126
  | 1, _ => exact zw_1_128
  | 2, _ => exact zw_1_130
  | 3, _ => exact zw_1_132
  | 4, _ => exact zw_1_134
  | 5, _ => exact zw_1_136
  | 6, _ => exact zw_1_138
  | k + 7, h => exact absurd h (by omega)
theorem zy_X4 : ∀ w ∈ u_ws RX4 TX4 31, w ∈ zT := fun w h => by
  obtain ⟨k, hk, rfl⟩ := List.mem_map.mp h
  have hk := List.mem_range.mp hk
  match k, hk with
  | 0, _ => exact zw_2_219
  | 1, _ => exact zw_2_221
  | 2, _ => exact zw_2_223
  | 3, _ => exact zw_2_225
  | 4, _ => exact zw_2_227
  | 5, _ => exact zw_2_229
  | 6, _ => exact zw_2_231
  | 7, _ => exact zw_2_233
  | 8, _ => exact zw_2_235
  | 9, _ => exact zw_2_237
  | 10, _ => exact zw_2_239
  | 11, _ => exact zw_3_1
  | 12, _ => exact zw_3_3
  | 13, _ => exact zw_3_5
  | 14, _ => exact zw_3_7
  | 15, _ => exact zw_3_9
  | 16, _ => exact zw_3_11
  | 17, _ => exact zw_3_13
  | 18, _ => exact zw_3_15
  | 19, _ => exact zw_3_17
  | 20, _ => exact zw_3_19
  | 21, _ => exact zw_3_21
  | 22, _ => exact zw_3_23
  | 23, _ => exact zw_3_25
  | 24, _ => exact zw_3_27
  | 25, _ => exact zw_3_29
  | 26, _ => exact zw_3_31
  | 27, _ => exact zw_3_33
  | 28, _ => exact zw_3_35
  | 29, _ => exact zw_3_37
  | 30, _ => exact zw_3_39
  | k + 31, h => exact absurd h (by omega)
def zv_nest : List Cond := [Cond.methodLinkNest RX3 11 yX0_init "VeinCourt",
  Cond.fieldLinkNest RX3 45 "VeinCourt$Book" "clock" "I" "VeinCourt",
  Cond.fieldLinkNest RX2 25 "VeinCourt$Book" "count" "I" "VeinCourt",
  Cond.fieldLinkNest RX3 150 "VeinCourt$Book" "count" "I" "VeinCourt",
  Cond.fieldLinkNest RX3 65 "VeinCourt$Book" "stakes" "I" "VeinCourt",
  Cond.fieldLinkNest RX2 31 "VeinCourt$Book" "order" "[I" "VeinCourt",
  Cond.methodLinkNest RX2 21 yX1_init "VeinCourt",
  Cond.fieldLinkNest RX2 47 "VeinCourt$Claim" "stands" "Z" "VeinCourt",
  Cond.fieldLinkNest RX2 51 "VeinCourt$Claim" "number" "I" "VeinCourt",
  Cond.fieldLinkNest RX3 119 "VeinCourt$Claim" "number" "I" "VeinCourt",
  Cond.fieldLinkNest RX2 70 "VeinCourt$Claim" "vein" "I" "VeinCourt",
  Cond.fieldLinkNest RX2 64 "VeinCourt$Claim" "first" "I" "VeinCourt",
  Cond.fieldLinkNest RX3 167 "VeinCourt$Claim" "first" "I" "VeinCourt",
  Cond.fieldLinkNest RX2 67 "VeinCourt$Claim" "last" "I" "VeinCourt",
  Cond.fieldLinkNest RX3 170 "VeinCourt$Claim" "last" "I" "VeinCourt",
  Cond.fieldLinkNest RX2 61 "VeinCourt$Claim" "holder" "I" "VeinCourt",
  Cond.fieldLinkNest RX3 164 "VeinCourt$Claim" "holder" "I" "VeinCourt",
  Cond.fieldLinkNest RX3 173 "VeinCourt$Claim" "worked" "I" "VeinCourt",
  Cond.fieldLinkNest RX3 179 "VeinCourt$Claim" "nicks" "I" "VeinCourt",
  Cond.fieldLinkNest RX2 91 "VeinCourt$Claim" "shares" "[I" "VeinCourt",
  Cond.fieldLinkNest RX3 135 "VeinCourt$Claim" "shares" "[I" "VeinCourt",
  Cond.fieldLinkNest RX3 141 "VeinCourt$Standing" "ore" "[I" "VeinCourt",
  Cond.methodLinkNest RX1 56 yX3_isWithin "VeinCourt"]
theorem zn_0 : Cond.methodLinkNest RX3 11 yX0_init "VeinCourt" ∈ zv_nest := List.mem_of_getElem? (i := 0) rfl
theorem zn_1 : Cond.fieldLinkNest RX3 45 "VeinCourt$Book" "clock" "I" "VeinCourt" ∈ zv_nest := List.mem_of_getElem? (i := 1) rfl
theorem zn_2 : Cond.fieldLinkNest RX2 25 "VeinCourt$Book" "count" "I" "VeinCourt" ∈ zv_nest := List.mem_of_getElem? (i := 2) rfl
theorem zn_3 : Cond.fieldLinkNest RX3 150 "VeinCourt$Book" "count" "I" "VeinCourt" ∈ zv_nest := List.mem_of_getElem? (i := 3) rfl
theorem zn_4 : Cond.fieldLinkNest RX3 65 "VeinCourt$Book" "stakes" "I" "VeinCourt" ∈ zv_nest := List.mem_of_getElem? (i := 4) rfl
theorem zn_5 : Cond.fieldLinkNest RX2 31 "VeinCourt$Book" "order" "[I" "VeinCourt" ∈ zv_nest := List.mem_of_getElem? (i := 5) rfl
theorem zn_6 : Cond.methodLinkNest RX2 21 yX1_init "VeinCourt" ∈ zv_nest := List.mem_of_getElem? (i := 6) rfl
theorem zn_7 : Cond.fieldLinkNest RX2 47 "VeinCourt$Claim" "stands" "Z" "VeinCourt" ∈ zv_nest := List.mem_of_getElem? (i := 7) rfl
theorem zn_8 : Cond.fieldLinkNest RX2 51 "VeinCourt$Claim" "number" "I" "VeinCourt" ∈ zv_nest := List.mem_of_getElem? (i := 8) rfl
theorem zn_9 : Cond.fieldLinkNest RX3 119 "VeinCourt$Claim" "number" "I" "VeinCourt" ∈ zv_nest := List.mem_of_getElem? (i := 9) rfl
theorem zn_10 : Cond.fieldLinkNest RX2 70 "VeinCourt$Claim" "vein" "I" "VeinCourt" ∈ zv_nest := List.mem_of_getElem? (i := 10) rfl
theorem zn_11 : Cond.fieldLinkNest RX2 64 "VeinCourt$Claim" "first" "I" "VeinCourt" ∈ zv_nest := List.mem_of_getElem? (i := 11) rfl
theorem zn_12 : Cond.fieldLinkNest RX3 167 "VeinCourt$Claim" "first" "I" "VeinCourt" ∈ zv_nest := List.mem_of_getElem? (i := 12) rfl
theorem zn_13 : Cond.fieldLinkNest RX2 67 "VeinCourt$Claim" "last" "I" "VeinCourt" ∈ zv_nest := List.mem_of_getElem? (i := 13) rfl
theorem zn_14 : Cond.fieldLinkNest RX3 170 "VeinCourt$Claim" "last" "I" "VeinCourt" ∈ zv_nest := List.mem_of_getElem? (i := 14) rfl
theorem zn_15 : Cond.fieldLinkNest RX2 61 "VeinCourt$Claim" "holder" "I" "VeinCourt" ∈ zv_nest := List.mem_of_getElem? (i := 15) rfl
theorem zn_16 : Cond.fieldLinkNest RX3 164 "VeinCourt$Claim" "holder" "I" "VeinCourt" ∈ zv_nest := List.mem_of_getElem? (i := 16) rfl
theorem zn_17 : Cond.fieldLinkNest RX3 173 "VeinCourt$Claim" "worked" "I" "VeinCourt" ∈ zv_nest := List.mem_of_getElem? (i := 17) rfl
theorem zn_18 : Cond.fieldLinkNest RX3 179 "VeinCourt$Claim" "nicks" "I" "VeinCourt" ∈ zv_nest := List.mem_of_getElem? (i := 18) rfl
theorem zn_19 : Cond.fieldLinkNest RX2 91 "VeinCourt$Claim" "shares" "[I" "VeinCourt" ∈ zv_nest := List.mem_of_getElem? (i := 19) rfl
theorem zn_20 : Cond.fieldLinkNest RX3 135 "VeinCourt$Claim" "shares" "[I" "VeinCourt" ∈ zv_nest := List.mem_of_getElem? (i := 20) rfl
theorem zn_21 : Cond.fieldLinkNest RX3 141 "VeinCourt$Standing" "ore" "[I" "VeinCourt" ∈ zv_nest := List.mem_of_getElem? (i := 21) rfl
theorem zn_22 : Cond.methodLinkNest RX1 56 yX3_isWithin "VeinCourt" ∈ zv_nest := List.mem_of_getElem? (i := 22) rfl
end
section
theorem dX0_init_0 : decode cX0_init 0 = .ok (.aload_n 0, 1) := by decide +kernel
theorem dX0_init_1 : decode cX0_init 1 = .ok (.invokespecial 3, 3) := by decide +kernel
theorem dX0_init_4 : decode cX0_init 4 = .ok (.aload_n 0, 1) := by decide +kernel
theorem dX0_init_5 : decode cX0_init 5 = .ok (.sipush 990, 3) := by decide +kernel
theorem dX0_init_8 : decode cX0_init 8 = .ok (.newarray .int, 2) := by decide +kernel
theorem dX0_init_10 : decode cX0_init 10 = .ok (.putfield 9, 3) := by decide +kernel
theorem dX0_init_13 : decode cX0_init 13 = .ok (.aload_n 0, 1) := by decide +kernel
theorem dX0_init_14 : decode cX0_init 14 = .ok (.bipush 90, 2) := by decide +kernel
theorem dX0_init_16 : decode cX0_init 16 = .ok (.newarray .int, 2) := by decide +kernel
theorem dX0_init_18 : decode cX0_init 18 = .ok (.putfield 15, 3) := by decide +kernel
theorem dX0_init_21 : decode cX0_init 21 = .ok (.return_, 1) := by decide +kernel
theorem dX0_has_0 : decode cX0_has 0 = .ok (.iload_n 1, 1) := by decide +kernel
theorem dX0_has_1 : decode cX0_has 1 = .ok (.ifCond .lt 15, 3) := by decide +kernel
theorem dX0_has_4 : decode cX0_has 4 = .ok (.iload_n 1, 1) := by decide +kernel
theorem dX0_has_5 : decode cX0_has 5 = .ok (.aload_n 0, 1) := by decide +kernel
theorem dX0_has_6 : decode cX0_has 6 = .ok (.getfield 18, 3) := by decide +kernel
theorem dX0_has_9 : decode cX0_has 9 = .ok (.if_icmp .ge 7, 3) := by decide +kernel
theorem dX0_has_12 : decode cX0_has 12 = .ok (.iconst 1, 1) := by decide +kernel
theorem dX0_has_13 : decode cX0_has 13 = .ok (.goto 4, 3) := by decide +kernel
theorem dX0_has_16 : decode cX0_has 16 = .ok (.iconst 0, 1) := by decide +kernel
theorem dX0_has_17 : decode cX0_has 17 = .ok (.ireturn, 1) := by decide +kernel
theorem dX0_isFull_0 : decode cX0_isFull 0 = .ok (.aload_n 0, 1) := by decide +kernel
theorem dX0_isFull_1 : decode cX0_isFull 1 = .ok (.getfield 18, 3) := by decide +kernel
theorem dX0_isFull_4 : decode cX0_isFull 4 = .ok (.bipush 90, 2) := by decide +kernel
theorem dX0_isFull_6 : decode cX0_isFull 6 = .ok (.if_icmp .lt 7, 3) := by decide +kernel
theorem dX0_isFull_9 : decode cX0_isFull 9 = .ok (.iconst 1, 1) := by decide +kernel
theorem dX0_isFull_10 : decode cX0_isFull 10 = .ok (.goto 4, 3) := by decide +kernel
theorem dX0_isFull_13 : decode cX0_isFull 13 = .ok (.iconst 0, 1) := by decide +kernel
theorem dX0_isFull_14 : decode cX0_isFull 14 = .ok (.ireturn, 1) := by decide +kernel
theorem dX0_isStake_0 : decode cX0_isStake 0 = .ok (.aload_n 0, 1) := by decide +kernel
theorem dX0_isStake_1 : decode cX0_isStake 1 = .ok (.iload_n 1, 1) := by decide +kernel
theorem dX0_isStake_2 : decode cX0_isStake 2 = .ok (.iconst 0, 1) := by decide +kernel
theorem dX0_isStake_3 : decode cX0_isStake 3 = .ok (.invokevirtual 22, 3) := by decide +kernel
theorem dX0_isStake_6 : decode cX0_isStake 6 = .ok (.ifCond .ne 7, 3) := by decide +kernel
theorem dX0_isStake_9 : decode cX0_isStake 9 = .ok (.iconst 1, 1) := by decide +kernel
theorem dX0_isStake_10 : decode cX0_isStake 10 = .ok (.goto 4, 3) := by decide +kernel
theorem dX0_isStake_13 : decode cX0_isStake 13 = .ok (.iconst 0, 1) := by decide +kernel
theorem dX0_isStake_14 : decode cX0_isStake 14 = .ok (.ireturn, 1) := by decide +kernel
theorem dX0_isWithdrawn_0 : decode cX0_isWithdrawn 0 = .ok (.aload_n 0, 1) := by decide +kernel
theorem dX0_isWithdrawn_1 : decode cX0_isWithdrawn 1 = .ok (.iload_n 1, 1) := by decide +kernel
theorem dX0_isWithdrawn_2 : decode cX0_isWithdrawn 2 = .ok (.iconst 3, 1) := by decide +kernel
theorem dX0_isWithdrawn_3 : decode cX0_isWithdrawn 3 = .ok (.invokevirtual 22, 3) := by decide +kernel
theorem dX0_isWithdrawn_6 : decode cX0_isWithdrawn 6 = .ok (.bipush (-4), 2) := by decide +kernel
theorem dX0_isWithdrawn_8 : decode cX0_isWithdrawn 8 = .ok (.if_icmp .eq 7, 3) := by decide +kernel
theorem dX0_isWithdrawn_11 : decode cX0_isWithdrawn 11 = .ok (.iconst 1, 1) := by decide +kernel
theorem dX0_isWithdrawn_12 : decode cX0_isWithdrawn 12 = .ok (.goto 4, 3) := by decide +kernel
theorem dX0_isWithdrawn_15 : decode cX0_isWithdrawn 15 = .ok (.iconst 0, 1) := by decide +kernel
theorem dX0_isWithdrawn_16 : decode cX0_isWithdrawn 16 = .ok (.ireturn, 1) := by decide +kernel
theorem dX0_isKnown_0 : decode cX0_isKnown 0 = .ok (.aload_n 0, 1) := by decide +kernel
theorem dX0_isKnown_1 : decode cX0_isKnown 1 = .ok (.iload_n 1, 1) := by decide +kernel
theorem dX0_isKnown_2 : decode cX0_isKnown 2 = .ok (.invokevirtual 26, 3) := by decide +kernel
theorem dX0_isKnown_5 : decode cX0_isKnown 5 = .ok (.ifCond .eq 17, 3) := by decide +kernel
theorem dX0_isKnown_8 : decode cX0_isKnown 8 = .ok (.aload_n 0, 1) := by decide +kernel
theorem dX0_isKnown_9 : decode cX0_isKnown 9 = .ok (.iload_n 1, 1) := by decide +kernel
theorem dX0_isKnown_10 : decode cX0_isKnown 10 = .ok (.iconst 3, 1) := by decide +kernel
theorem dX0_isKnown_11 : decode cX0_isKnown 11 = .ok (.invokevirtual 22, 3) := by decide +kernel
theorem dX0_isKnown_14 : decode cX0_isKnown 14 = .ok (.iload_n 2, 1) := by decide +kernel
theorem dX0_isKnown_15 : decode cX0_isKnown 15 = .ok (.if_icmp .gt 7, 3) := by decide +kernel
theorem dX0_isKnown_18 : decode cX0_isKnown 18 = .ok (.iconst 1, 1) := by decide +kernel
theorem dX0_isKnown_19 : decode cX0_isKnown 19 = .ok (.goto 4, 3) := by decide +kernel
theorem dX0_isKnown_22 : decode cX0_isKnown 22 = .ok (.iconst 0, 1) := by decide +kernel
theorem dX0_isKnown_23 : decode cX0_isKnown 23 = .ok (.istore_n 3, 1) := by decide +kernel
theorem dX0_isKnown_24 : decode cX0_isKnown 24 = .ok (.aload_n 0, 1) := by decide +kernel
theorem dX0_isKnown_25 : decode cX0_isKnown 25 = .ok (.iload_n 1, 1) := by decide +kernel
theorem dX0_isKnown_26 : decode cX0_isKnown 26 = .ok (.iconst 2, 1) := by decide +kernel
theorem dX0_isKnown_27 : decode cX0_isKnown 27 = .ok (.invokevirtual 22, 3) := by decide +kernel
theorem dX0_isKnown_30 : decode cX0_isKnown 30 = .ok (.iload_n 2, 1) := by decide +kernel
theorem dX0_isKnown_31 : decode cX0_isKnown 31 = .ok (.if_icmp .gt 11, 3) := by decide +kernel
theorem dX0_isKnown_34 : decode cX0_isKnown 34 = .ok (.iload_n 3, 1) := by decide +kernel
theorem dX0_isKnown_35 : decode cX0_isKnown 35 = .ok (.ifCond .ne 7, 3) := by decide +kernel
theorem dX0_isKnown_38 : decode cX0_isKnown 38 = .ok (.iconst 1, 1) := by decide +kernel
theorem dX0_isKnown_39 : decode cX0_isKnown 39 = .ok (.goto 4, 3) := by decide +kernel
theorem dX0_isKnown_42 : decode cX0_isKnown 42 = .ok (.iconst 0, 1) := by decide +kernel
theorem dX0_isKnown_43 : decode cX0_isKnown 43 = .ok (.ireturn, 1) := by decide +kernel
theorem dX0_countWithdrawn_0 : decode cX0_countWithdrawn 0 = .ok (.iconst 0, 1) := by decide +kernel
theorem dX0_countWithdrawn_1 : decode cX0_countWithdrawn 1 = .ok (.istore_n 1, 1) := by decide +kernel
theorem dX0_countWithdrawn_2 : decode cX0_countWithdrawn 2 = .ok (.iconst 0, 1) := by decide +kernel
theorem dX0_countWithdrawn_3 : decode cX0_countWithdrawn 3 = .ok (.istore_n 2, 1) := by decide +kernel
theorem dX0_countWithdrawn_4 : decode cX0_countWithdrawn 4 = .ok (.iload_n 2, 1) := by decide +kernel
theorem dX0_countWithdrawn_5 : decode cX0_countWithdrawn 5 = .ok (.aload_n 0, 1) := by decide +kernel
theorem dX0_countWithdrawn_6 : decode cX0_countWithdrawn 6 = .ok (.getfield 18, 3) := by decide +kernel
theorem dX0_countWithdrawn_9 : decode cX0_countWithdrawn 9 = .ok (.if_icmp .ge 20, 3) := by decide +kernel
theorem dX0_countWithdrawn_12 : decode cX0_countWithdrawn 12 = .ok (.aload_n 0, 1) := by decide +kernel
theorem dX0_countWithdrawn_13 : decode cX0_countWithdrawn 13 = .ok (.iload_n 2, 1) := by decide +kernel
theorem dX0_countWithdrawn_14 : decode cX0_countWithdrawn 14 = .ok (.invokevirtual 26, 3) := by decide +kernel
theorem dX0_countWithdrawn_17 : decode cX0_countWithdrawn 17 = .ok (.ifCond .eq 6, 3) := by decide +kernel
theorem dX0_countWithdrawn_20 : decode cX0_countWithdrawn 20 = .ok (.iinc 1 1, 3) := by decide +kernel
theorem dX0_countWithdrawn_23 : decode cX0_countWithdrawn 23 = .ok (.iinc 2 1, 3) := by decide +kernel
theorem dX0_countWithdrawn_26 : decode cX0_countWithdrawn 26 = .ok (.goto (-22), 3) := by decide +kernel
theorem dX0_countWithdrawn_29 : decode cX0_countWithdrawn 29 = .ok (.iload_n 1, 1) := by decide +kernel
theorem dX0_countWithdrawn_30 : decode cX0_countWithdrawn 30 = .ok (.ireturn, 1) := by decide +kernel
theorem dX0_get_0 : decode cX0_get 0 = .ok (.aload_n 0, 1) := by decide +kernel
theorem dX0_get_1 : decode cX0_get 1 = .ok (.getfield 9, 3) := by decide +kernel
theorem dX0_get_4 : decode cX0_get 4 = .ok (.iload_n 1, 1) := by decide +kernel
theorem dX0_get_5 : decode cX0_get 5 = .ok (.bipush 11, 2) := by decide +kernel
theorem dX0_get_7 : decode cX0_get 7 = .ok (.imul, 1) := by decide +kernel
theorem dX0_get_8 : decode cX0_get 8 = .ok (.iload_n 2, 1) := by decide +kernel
theorem dX0_get_9 : decode cX0_get 9 = .ok (.iadd, 1) := by decide +kernel
theorem dX0_get_10 : decode cX0_get 10 = .ok (.iaload, 1) := by decide +kernel
theorem dX0_get_11 : decode cX0_get 11 = .ok (.ireturn, 1) := by decide +kernel
theorem dX0_put_0 : decode cX0_put 0 = .ok (.aload_n 0, 1) := by decide +kernel
theorem dX0_put_1 : decode cX0_put 1 = .ok (.getfield 9, 3) := by decide +kernel
theorem dX0_put_4 : decode cX0_put 4 = .ok (.iload_n 1, 1) := by decide +kernel
theorem dX0_put_5 : decode cX0_put 5 = .ok (.bipush 11, 2) := by decide +kernel
theorem dX0_put_7 : decode cX0_put 7 = .ok (.imul, 1) := by decide +kernel
theorem dX0_put_8 : decode cX0_put 8 = .ok (.iload_n 2, 1) := by decide +kernel
theorem dX0_put_9 : decode cX0_put 9 = .ok (.iadd, 1) := by decide +kernel
theorem dX0_put_10 : decode cX0_put 10 = .ok (.iload_n 3, 1) := by decide +kernel
theorem dX0_put_11 : decode cX0_put 11 = .ok (.iastore, 1) := by decide +kernel
theorem dX0_put_12 : decode cX0_put 12 = .ok (.return_, 1) := by decide +kernel
theorem dX0_putFeet_0 : decode cX0_putFeet 0 = .ok (.aload_n 0, 1) := by decide +kernel
theorem dX0_putFeet_1 : decode cX0_putFeet 1 = .ok (.iload_n 1, 1) := by decide +kernel
theorem dX0_putFeet_2 : decode cX0_putFeet 2 = .ok (.bipush 6, 2) := by decide +kernel
theorem dX0_putFeet_4 : decode cX0_putFeet 4 = .ok (.iload_n 2, 1) := by decide +kernel
theorem dX0_putFeet_5 : decode cX0_putFeet 5 = .ok (.invokevirtual 30, 3) := by decide +kernel
theorem dX0_putFeet_8 : decode cX0_putFeet 8 = .ok (.aload_n 0, 1) := by decide +kernel
theorem dX0_putFeet_9 : decode cX0_putFeet 9 = .ok (.iload_n 1, 1) := by decide +kernel
theorem dX0_putFeet_10 : decode cX0_putFeet 10 = .ok (.bipush 7, 2) := by decide +kernel
theorem dX0_putFeet_12 : decode cX0_putFeet 12 = .ok (.iload_n 3, 1) := by decide +kernel
theorem dX0_putFeet_13 : decode cX0_putFeet 13 = .ok (.invokevirtual 30, 3) := by decide +kernel
theorem dX0_putFeet_16 : decode cX0_putFeet 16 = .ok (.return_, 1) := by decide +kernel
theorem dX0_appendOf_0 : decode cX0_appendOf 0 = .ok (.aload_n 0, 1) := by decide +kernel
theorem dX0_appendOf_1 : decode cX0_appendOf 1 = .ok (.iload_n 1, 1) := by decide +kernel
theorem dX0_appendOf_2 : decode cX0_appendOf 2 = .ok (.iload_n 2, 1) := by decide +kernel
theorem dX0_appendOf_3 : decode cX0_appendOf 3 = .ok (.aload_n 0, 1) := by decide +kernel
theorem dX0_appendOf_4 : decode cX0_appendOf 4 = .ok (.iload_n 3, 1) := by decide +kernel
theorem dX0_appendOf_5 : decode cX0_appendOf 5 = .ok (.iconst 4, 1) := by decide +kernel
theorem dX0_appendOf_6 : decode cX0_appendOf 6 = .ok (.invokevirtual 22, 3) := by decide +kernel
theorem dX0_appendOf_9 : decode cX0_appendOf 9 = .ok (.invokevirtual 34, 3) := by decide +kernel
theorem dX0_appendOf_12 : decode cX0_appendOf 12 = .ok (.istore 4, 2) := by decide +kernel
theorem dX0_appendOf_14 : decode cX0_appendOf 14 = .ok (.aload_n 0, 1) := by decide +kernel
theorem dX0_appendOf_15 : decode cX0_appendOf 15 = .ok (.iload 4, 2) := by decide +kernel
theorem dX0_appendOf_17 : decode cX0_appendOf 17 = .ok (.bipush 9, 2) := by decide +kernel
theorem dX0_appendOf_19 : decode cX0_appendOf 19 = .ok (.iload_n 3, 1) := by decide +kernel
theorem dX0_appendOf_20 : decode cX0_appendOf 20 = .ok (.invokevirtual 30, 3) := by decide +kernel
theorem dX0_appendOf_23 : decode cX0_appendOf 23 = .ok (.iload 4, 2) := by decide +kernel
theorem dX0_appendOf_25 : decode cX0_appendOf 25 = .ok (.ireturn, 1) := by decide +kernel
theorem dX0_append_0 : decode cX0_append 0 = .ok (.aload_n 0, 1) := by decide +kernel
theorem dX0_append_1 : decode cX0_append 1 = .ok (.getfield 18, 3) := by decide +kernel
theorem dX0_append_4 : decode cX0_append 4 = .ok (.istore 4, 2) := by decide +kernel
theorem dX0_append_6 : decode cX0_append 6 = .ok (.iconst 0, 1) := by decide +kernel
theorem dX0_append_7 : decode cX0_append 7 = .ok (.istore 5, 2) := by decide +kernel
theorem dX0_append_9 : decode cX0_append 9 = .ok (.iload 5, 2) := by decide +kernel
theorem dX0_append_11 : decode cX0_append 11 = .ok (.bipush 11, 2) := by decide +kernel
theorem dX0_append_13 : decode cX0_append 13 = .ok (.if_icmp .ge 19, 3) := by decide +kernel
theorem dX0_append_16 : decode cX0_append 16 = .ok (.aload_n 0, 1) := by decide +kernel
theorem dX0_append_17 : decode cX0_append 17 = .ok (.iload 4, 2) := by decide +kernel
theorem dX0_append_19 : decode cX0_append 19 = .ok (.iload 5, 2) := by decide +kernel
theorem dX0_append_21 : decode cX0_append 21 = .ok (.bipush (-4), 2) := by decide +kernel
theorem dX0_append_23 : decode cX0_append 23 = .ok (.invokevirtual 30, 3) := by decide +kernel
theorem dX0_append_26 : decode cX0_append 26 = .ok (.iinc 5 1, 3) := by decide +kernel
theorem dX0_append_29 : decode cX0_append 29 = .ok (.goto (-20), 3) := by decide +kernel
theorem dX0_append_32 : decode cX0_append 32 = .ok (.aload_n 0, 1) := by decide +kernel
theorem dX0_append_33 : decode cX0_append 33 = .ok (.iload 4, 2) := by decide +kernel
theorem dX0_append_35 : decode cX0_append 35 = .ok (.iconst 0, 1) := by decide +kernel
theorem dX0_append_36 : decode cX0_append 36 = .ok (.iload_n 1, 1) := by decide +kernel
theorem dX0_append_37 : decode cX0_append 37 = .ok (.invokevirtual 30, 3) := by decide +kernel
theorem dX0_append_40 : decode cX0_append 40 = .ok (.aload_n 0, 1) := by decide +kernel
theorem dX0_append_41 : decode cX0_append 41 = .ok (.iload 4, 2) := by decide +kernel
theorem dX0_append_43 : decode cX0_append 43 = .ok (.iconst 1, 1) := by decide +kernel
theorem dX0_append_44 : decode cX0_append 44 = .ok (.iload_n 2, 1) := by decide +kernel
theorem dX0_append_45 : decode cX0_append 45 = .ok (.invokevirtual 30, 3) := by decide +kernel
theorem dX0_append_48 : decode cX0_append 48 = .ok (.aload_n 0, 1) := by decide +kernel
theorem dX0_append_49 : decode cX0_append 49 = .ok (.iload 4, 2) := by decide +kernel
theorem dX0_append_51 : decode cX0_append 51 = .ok (.iconst 2, 1) := by decide +kernel
theorem dX0_append_52 : decode cX0_append 52 = .ok (.aload_n 0, 1) := by decide +kernel
theorem dX0_append_53 : decode cX0_append 53 = .ok (.getfield 38, 3) := by decide +kernel
theorem dX0_append_56 : decode cX0_append 56 = .ok (.invokevirtual 30, 3) := by decide +kernel
theorem dX0_append_59 : decode cX0_append 59 = .ok (.aload_n 0, 1) := by decide +kernel
theorem dX0_append_60 : decode cX0_append 60 = .ok (.iload 4, 2) := by decide +kernel
theorem dX0_append_62 : decode cX0_append 62 = .ok (.iconst 4, 1) := by decide +kernel
theorem dX0_append_63 : decode cX0_append 63 = .ok (.iload_n 3, 1) := by decide +kernel
theorem dX0_append_64 : decode cX0_append 64 = .ok (.invokevirtual 30, 3) := by decide +kernel
theorem dX0_append_67 : decode cX0_append 67 = .ok (.aload_n 0, 1) := by decide +kernel
theorem dX0_append_68 : decode cX0_append 68 = .ok (.iload 4, 2) := by decide +kernel
theorem dX0_append_70 : decode cX0_append 70 = .ok (.bipush 8, 2) := by decide +kernel
theorem dX0_append_72 : decode cX0_append 72 = .ok (.iconst 0, 1) := by decide +kernel
theorem dX0_append_73 : decode cX0_append 73 = .ok (.invokevirtual 30, 3) := by decide +kernel
theorem dX0_append_76 : decode cX0_append 76 = .ok (.aload_n 0, 1) := by decide +kernel
theorem dX0_append_77 : decode cX0_append 77 = .ok (.iload 4, 2) := by decide +kernel
theorem dX0_append_79 : decode cX0_append 79 = .ok (.iload_n 2, 1) := by decide +kernel
theorem dX0_append_80 : decode cX0_append 80 = .ok (.invokevirtual 41, 3) := by decide +kernel
theorem dX0_append_83 : decode cX0_append 83 = .ok (.aload_n 0, 1) := by decide +kernel
theorem dX0_append_84 : decode cX0_append 84 = .ok (.dup, 1) := by decide +kernel
theorem dX0_append_85 : decode cX0_append 85 = .ok (.getfield 18, 3) := by decide +kernel
theorem dX0_append_88 : decode cX0_append 88 = .ok (.iconst 1, 1) := by decide +kernel
theorem dX0_append_89 : decode cX0_append 89 = .ok (.iadd, 1) := by decide +kernel
theorem dX0_append_90 : decode cX0_append 90 = .ok (.putfield 18, 3) := by decide +kernel
theorem dX0_append_93 : decode cX0_append 93 = .ok (.iload 4, 2) := by decide +kernel
theorem dX0_append_95 : decode cX0_append 95 = .ok (.ireturn, 1) := by decide +kernel
theorem dX0_setInOrder_0 : decode cX0_setInOrder 0 = .ok (.aload_n 0, 1) := by decide +kernel
theorem dX0_setInOrder_1 : decode cX0_setInOrder 1 = .ok (.getfield 18, 3) := by decide +kernel
theorem dX0_setInOrder_4 : decode cX0_setInOrder 4 = .ok (.istore_n 3, 1) := by decide +kernel
theorem dX0_setInOrder_5 : decode cX0_setInOrder 5 = .ok (.iload_n 3, 1) := by decide +kernel
theorem dX0_setInOrder_6 : decode cX0_setInOrder 6 = .ok (.ifCond .le 40, 3) := by decide +kernel
theorem dX0_setInOrder_9 : decode cX0_setInOrder 9 = .ok (.aload_n 0, 1) := by decide +kernel
theorem dX0_setInOrder_10 : decode cX0_setInOrder 10 = .ok (.aload_n 0, 1) := by decide +kernel
theorem dX0_setInOrder_11 : decode cX0_setInOrder 11 = .ok (.getfield 15, 3) := by decide +kernel
theorem dX0_setInOrder_14 : decode cX0_setInOrder 14 = .ok (.iload_n 3, 1) := by decide +kernel
theorem dX0_setInOrder_15 : decode cX0_setInOrder 15 = .ok (.iconst 1, 1) := by decide +kernel
theorem dX0_setInOrder_16 : decode cX0_setInOrder 16 = .ok (.isub, 1) := by decide +kernel
theorem dX0_setInOrder_17 : decode cX0_setInOrder 17 = .ok (.iaload, 1) := by decide +kernel
theorem dX0_setInOrder_18 : decode cX0_setInOrder 18 = .ok (.iconst 1, 1) := by decide +kernel
theorem dX0_setInOrder_19 : decode cX0_setInOrder 19 = .ok (.invokevirtual 22, 3) := by decide +kernel
theorem dX0_setInOrder_22 : decode cX0_setInOrder 22 = .ok (.iload_n 2, 1) := by decide +kernel
theorem dX0_setInOrder_23 : decode cX0_setInOrder 23 = .ok (.if_icmp .le 23, 3) := by decide +kernel
theorem dX0_setInOrder_26 : decode cX0_setInOrder 26 = .ok (.aload_n 0, 1) := by decide +kernel
theorem dX0_setInOrder_27 : decode cX0_setInOrder 27 = .ok (.getfield 15, 3) := by decide +kernel
theorem dX0_setInOrder_30 : decode cX0_setInOrder 30 = .ok (.iload_n 3, 1) := by decide +kernel
theorem dX0_setInOrder_31 : decode cX0_setInOrder 31 = .ok (.aload_n 0, 1) := by decide +kernel
theorem dX0_setInOrder_32 : decode cX0_setInOrder 32 = .ok (.getfield 15, 3) := by decide +kernel
theorem dX0_setInOrder_35 : decode cX0_setInOrder 35 = .ok (.iload_n 3, 1) := by decide +kernel
theorem dX0_setInOrder_36 : decode cX0_setInOrder 36 = .ok (.iconst 1, 1) := by decide +kernel
theorem dX0_setInOrder_37 : decode cX0_setInOrder 37 = .ok (.isub, 1) := by decide +kernel
theorem dX0_setInOrder_38 : decode cX0_setInOrder 38 = .ok (.iaload, 1) := by decide +kernel
theorem dX0_setInOrder_39 : decode cX0_setInOrder 39 = .ok (.iastore, 1) := by decide +kernel
theorem dX0_setInOrder_40 : decode cX0_setInOrder 40 = .ok (.iinc 3 (-1), 3) := by decide +kernel
theorem dX0_setInOrder_43 : decode cX0_setInOrder 43 = .ok (.goto (-38), 3) := by decide +kernel
theorem dX0_setInOrder_46 : decode cX0_setInOrder 46 = .ok (.aload_n 0, 1) := by decide +kernel
theorem dX0_setInOrder_47 : decode cX0_setInOrder 47 = .ok (.getfield 15, 3) := by decide +kernel
theorem dX0_setInOrder_50 : decode cX0_setInOrder 50 = .ok (.iload_n 3, 1) := by decide +kernel
theorem dX0_setInOrder_51 : decode cX0_setInOrder 51 = .ok (.iload_n 1, 1) := by decide +kernel
theorem dX0_setInOrder_52 : decode cX0_setInOrder 52 = .ok (.iastore, 1) := by decide +kernel
theorem dX0_setInOrder_53 : decode cX0_setInOrder 53 = .ok (.return_, 1) := by decide +kernel
theorem dX0_copyFrom_0 : decode cX0_copyFrom 0 = .ok (.aload_n 0, 1) := by decide +kernel
theorem dX0_copyFrom_1 : decode cX0_copyFrom 1 = .ok (.aload_n 1, 1) := by decide +kernel
theorem dX0_copyFrom_2 : decode cX0_copyFrom 2 = .ok (.getfield 38, 3) := by decide +kernel
theorem dX0_copyFrom_5 : decode cX0_copyFrom 5 = .ok (.putfield 38, 3) := by decide +kernel
theorem dX0_copyFrom_8 : decode cX0_copyFrom 8 = .ok (.aload_n 0, 1) := by decide +kernel
theorem dX0_copyFrom_9 : decode cX0_copyFrom 9 = .ok (.aload_n 1, 1) := by decide +kernel
theorem dX0_copyFrom_10 : decode cX0_copyFrom 10 = .ok (.getfield 18, 3) := by decide +kernel
theorem dX0_copyFrom_13 : decode cX0_copyFrom 13 = .ok (.putfield 18, 3) := by decide +kernel
theorem dX0_copyFrom_16 : decode cX0_copyFrom 16 = .ok (.aload_n 0, 1) := by decide +kernel
theorem dX0_copyFrom_17 : decode cX0_copyFrom 17 = .ok (.aload_n 1, 1) := by decide +kernel
theorem dX0_copyFrom_18 : decode cX0_copyFrom 18 = .ok (.getfield 45, 3) := by decide +kernel
theorem dX0_copyFrom_21 : decode cX0_copyFrom 21 = .ok (.putfield 45, 3) := by decide +kernel
theorem dX0_copyFrom_24 : decode cX0_copyFrom 24 = .ok (.aload_n 1, 1) := by decide +kernel
theorem dX0_copyFrom_25 : decode cX0_copyFrom 25 = .ok (.getfield 9, 3) := by decide +kernel
theorem dX0_copyFrom_28 : decode cX0_copyFrom 28 = .ok (.iconst 0, 1) := by decide +kernel
theorem dX0_copyFrom_29 : decode cX0_copyFrom 29 = .ok (.aload_n 0, 1) := by decide +kernel
theorem dX0_copyFrom_30 : decode cX0_copyFrom 30 = .ok (.getfield 9, 3) := by decide +kernel
theorem dX0_copyFrom_33 : decode cX0_copyFrom 33 = .ok (.iconst 0, 1) := by decide +kernel
theorem dX0_copyFrom_34 : decode cX0_copyFrom 34 = .ok (.aload_n 0, 1) := by decide +kernel
theorem dX0_copyFrom_35 : decode cX0_copyFrom 35 = .ok (.getfield 9, 3) := by decide +kernel
theorem dX0_copyFrom_38 : decode cX0_copyFrom 38 = .ok (.arraylength, 1) := by decide +kernel
theorem dX0_copyFrom_39 : decode cX0_copyFrom 39 = .ok (.invokestatic 48, 3) := by decide +kernel
theorem dX0_copyFrom_42 : decode cX0_copyFrom 42 = .ok (.aload_n 1, 1) := by decide +kernel
theorem dX0_copyFrom_43 : decode cX0_copyFrom 43 = .ok (.getfield 15, 3) := by decide +kernel
theorem dX0_copyFrom_46 : decode cX0_copyFrom 46 = .ok (.iconst 0, 1) := by decide +kernel
theorem dX0_copyFrom_47 : decode cX0_copyFrom 47 = .ok (.aload_n 0, 1) := by decide +kernel
theorem dX0_copyFrom_48 : decode cX0_copyFrom 48 = .ok (.getfield 15, 3) := by decide +kernel
theorem dX0_copyFrom_51 : decode cX0_copyFrom 51 = .ok (.iconst 0, 1) := by decide +kernel
theorem dX0_copyFrom_52 : decode cX0_copyFrom 52 = .ok (.aload_n 0, 1) := by decide +kernel
theorem dX0_copyFrom_53 : decode cX0_copyFrom 53 = .ok (.getfield 15, 3) := by decide +kernel
theorem dX0_copyFrom_56 : decode cX0_copyFrom 56 = .ok (.arraylength, 1) := by decide +kernel
theorem dX0_copyFrom_57 : decode cX0_copyFrom 57 = .ok (.invokestatic 48, 3) := by decide +kernel
theorem dX0_copyFrom_60 : decode cX0_copyFrom 60 = .ok (.return_, 1) := by decide +kernel
end
section
theorem dX1_init_0 : decode cX1_init 0 = .ok (.aload_n 0, 1) := by decide +kernel
theorem dX1_init_1 : decode cX1_init 1 = .ok (.invokespecial 3, 3) := by decide +kernel
theorem dX1_init_4 : decode cX1_init 4 = .ok (.aload_n 0, 1) := by decide +kernel
theorem dX1_init_5 : decode cX1_init 5 = .ok (.bipush 10, 2) := by decide +kernel
theorem dX1_init_7 : decode cX1_init 7 = .ok (.newarray .int, 2) := by decide +kernel
theorem dX1_init_9 : decode cX1_init 9 = .ok (.putfield 9, 3) := by decide +kernel
theorem dX1_init_12 : decode cX1_init 12 = .ok (.return_, 1) := by decide +kernel
theorem dX1_begin_0 : decode cX1_begin 0 = .ok (.aload_n 0, 1) := by decide +kernel
theorem dX1_begin_1 : decode cX1_begin 1 = .ok (.iconst 1, 1) := by decide +kernel
theorem dX1_begin_2 : decode cX1_begin 2 = .ok (.putfield 15, 3) := by decide +kernel
theorem dX1_begin_5 : decode cX1_begin 5 = .ok (.aload_n 0, 1) := by decide +kernel
theorem dX1_begin_6 : decode cX1_begin 6 = .ok (.iload_n 2, 1) := by decide +kernel
theorem dX1_begin_7 : decode cX1_begin 7 = .ok (.putfield 19, 3) := by decide +kernel
theorem dX1_begin_10 : decode cX1_begin 10 = .ok (.aload_n 0, 1) := by decide +kernel
theorem dX1_begin_11 : decode cX1_begin 11 = .ok (.aload_n 1, 1) := by decide +kernel
theorem dX1_begin_12 : decode cX1_begin 12 = .ok (.iload_n 2, 1) := by decide +kernel
theorem dX1_begin_13 : decode cX1_begin 13 = .ok (.iconst 4, 1) := by decide +kernel
theorem dX1_begin_14 : decode cX1_begin 14 = .ok (.invokevirtual 23, 3) := by decide +kernel
theorem dX1_begin_17 : decode cX1_begin 17 = .ok (.putfield 29, 3) := by decide +kernel
theorem dX1_begin_20 : decode cX1_begin 20 = .ok (.aload_n 0, 1) := by decide +kernel
theorem dX1_begin_21 : decode cX1_begin 21 = .ok (.aload_n 1, 1) := by decide +kernel
theorem dX1_begin_22 : decode cX1_begin 22 = .ok (.iload_n 2, 1) := by decide +kernel
theorem dX1_begin_23 : decode cX1_begin 23 = .ok (.bipush 6, 2) := by decide +kernel
theorem dX1_begin_25 : decode cX1_begin 25 = .ok (.invokevirtual 23, 3) := by decide +kernel
theorem dX1_begin_28 : decode cX1_begin 28 = .ok (.aload_n 1, 1) := by decide +kernel
theorem dX1_begin_29 : decode cX1_begin 29 = .ok (.iload_n 2, 1) := by decide +kernel
theorem dX1_begin_30 : decode cX1_begin 30 = .ok (.bipush 7, 2) := by decide +kernel
theorem dX1_begin_32 : decode cX1_begin 32 = .ok (.invokevirtual 23, 3) := by decide +kernel
theorem dX1_begin_35 : decode cX1_begin 35 = .ok (.invokevirtual 32, 3) := by decide +kernel
theorem dX1_begin_38 : decode cX1_begin 38 = .ok (.aload_n 0, 1) := by decide +kernel
theorem dX1_begin_39 : decode cX1_begin 39 = .ok (.aload_n 1, 1) := by decide +kernel
theorem dX1_begin_40 : decode cX1_begin 40 = .ok (.iload_n 2, 1) := by decide +kernel
theorem dX1_begin_41 : decode cX1_begin 41 = .ok (.iconst 5, 1) := by decide +kernel
theorem dX1_begin_42 : decode cX1_begin 42 = .ok (.invokevirtual 23, 3) := by decide +kernel
theorem dX1_begin_45 : decode cX1_begin 45 = .ok (.aload_n 1, 1) := by decide +kernel
theorem dX1_begin_46 : decode cX1_begin 46 = .ok (.iload_n 2, 1) := by decide +kernel
theorem dX1_begin_47 : decode cX1_begin 47 = .ok (.iconst 1, 1) := by decide +kernel
theorem dX1_begin_48 : decode cX1_begin 48 = .ok (.invokevirtual 23, 3) := by decide +kernel
theorem dX1_begin_51 : decode cX1_begin 51 = .ok (.invokevirtual 36, 3) := by decide +kernel
theorem dX1_begin_54 : decode cX1_begin 54 = .ok (.return_, 1) := by decide +kernel
theorem dX1_turn_0 : decode cX1_turn 0 = .ok (.aload_n 1, 1) := by decide +kernel
theorem dX1_turn_1 : decode cX1_turn 1 = .ok (.iload_n 2, 1) := by decide +kernel
theorem dX1_turn_2 : decode cX1_turn 2 = .ok (.iconst 1, 1) := by decide +kernel
theorem dX1_turn_3 : decode cX1_turn 3 = .ok (.invokevirtual 23, 3) := by decide +kernel
theorem dX1_turn_6 : decode cX1_turn 6 = .ok (.istore 4, 2) := by decide +kernel
theorem dX1_turn_8 : decode cX1_turn 8 = .ok (.aload_n 1, 1) := by decide +kernel
theorem dX1_turn_9 : decode cX1_turn 9 = .ok (.iload_n 2, 1) := by decide +kernel
theorem dX1_turn_10 : decode cX1_turn 10 = .ok (.iconst 0, 1) := by decide +kernel
theorem dX1_turn_11 : decode cX1_turn 11 = .ok (.invokevirtual 23, 3) := by decide +kernel
theorem dX1_turn_14 : decode cX1_turn 14 = .ok (.tableswitch 115 1 5 #[34, 43, 59, 67, 88], 34) := by decide +kernel
theorem dX1_turn_48 : decode cX1_turn 48 = .ok (.aload_n 0, 1) := by decide +kernel
theorem dX1_turn_49 : decode cX1_turn 49 = .ok (.iload 4, 2) := by decide +kernel
theorem dX1_turn_51 : decode cX1_turn 51 = .ok (.invokevirtual 39, 3) := by decide +kernel
theorem dX1_turn_54 : decode cX1_turn 54 = .ok (.goto 75, 3) := by decide +kernel
theorem dX1_turn_57 : decode cX1_turn 57 = .ok (.aload_n 0, 1) := by decide +kernel
theorem dX1_turn_58 : decode cX1_turn 58 = .ok (.aload_n 1, 1) := by decide +kernel
theorem dX1_turn_59 : decode cX1_turn 59 = .ok (.iload_n 2, 1) := by decide +kernel
theorem dX1_turn_60 : decode cX1_turn 60 = .ok (.iconst 5, 1) := by decide +kernel
theorem dX1_turn_61 : decode cX1_turn 61 = .ok (.invokevirtual 23, 3) := by decide +kernel
theorem dX1_turn_64 : decode cX1_turn 64 = .ok (.iload 4, 2) := by decide +kernel
theorem dX1_turn_66 : decode cX1_turn 66 = .ok (.iload_n 3, 1) := by decide +kernel
theorem dX1_turn_67 : decode cX1_turn 67 = .ok (.invokevirtual 43, 3) := by decide +kernel
theorem dX1_turn_70 : decode cX1_turn 70 = .ok (.goto 59, 3) := by decide +kernel
theorem dX1_turn_73 : decode cX1_turn 73 = .ok (.aload_n 0, 1) := by decide +kernel
theorem dX1_turn_74 : decode cX1_turn 74 = .ok (.iconst 0, 1) := by decide +kernel
theorem dX1_turn_75 : decode cX1_turn 75 = .ok (.putfield 15, 3) := by decide +kernel
theorem dX1_turn_78 : decode cX1_turn 78 = .ok (.goto 51, 3) := by decide +kernel
theorem dX1_turn_81 : decode cX1_turn 81 = .ok (.aload_n 0, 1) := by decide +kernel
theorem dX1_turn_82 : decode cX1_turn 82 = .ok (.aload_n 1, 1) := by decide +kernel
theorem dX1_turn_83 : decode cX1_turn 83 = .ok (.iload_n 2, 1) := by decide +kernel
theorem dX1_turn_84 : decode cX1_turn 84 = .ok (.bipush 6, 2) := by decide +kernel
theorem dX1_turn_86 : decode cX1_turn 86 = .ok (.invokevirtual 23, 3) := by decide +kernel
theorem dX1_turn_89 : decode cX1_turn 89 = .ok (.aload_n 1, 1) := by decide +kernel
theorem dX1_turn_90 : decode cX1_turn 90 = .ok (.iload_n 2, 1) := by decide +kernel
theorem dX1_turn_91 : decode cX1_turn 91 = .ok (.bipush 7, 2) := by decide +kernel
theorem dX1_turn_93 : decode cX1_turn 93 = .ok (.invokevirtual 23, 3) := by decide +kernel
theorem dX1_turn_96 : decode cX1_turn 96 = .ok (.invokevirtual 32, 3) := by decide +kernel
theorem dX1_turn_99 : decode cX1_turn 99 = .ok (.goto 30, 3) := by decide +kernel
theorem dX1_turn_102 : decode cX1_turn 102 = .ok (.aload_n 0, 1) := by decide +kernel
theorem dX1_turn_103 : decode cX1_turn 103 = .ok (.aload_n 1, 1) := by decide +kernel
theorem dX1_turn_104 : decode cX1_turn 104 = .ok (.iload_n 2, 1) := by decide +kernel
theorem dX1_turn_105 : decode cX1_turn 105 = .ok (.iconst 5, 1) := by decide +kernel
theorem dX1_turn_106 : decode cX1_turn 106 = .ok (.invokevirtual 23, 3) := by decide +kernel
theorem dX1_turn_109 : decode cX1_turn 109 = .ok (.aload_n 1, 1) := by decide +kernel
theorem dX1_turn_110 : decode cX1_turn 110 = .ok (.iload_n 2, 1) := by decide +kernel
theorem dX1_turn_111 : decode cX1_turn 111 = .ok (.bipush 10, 2) := by decide +kernel
theorem dX1_turn_113 : decode cX1_turn 113 = .ok (.invokevirtual 23, 3) := by decide +kernel
theorem dX1_turn_116 : decode cX1_turn 116 = .ok (.aload_n 1, 1) := by decide +kernel
theorem dX1_turn_117 : decode cX1_turn 117 = .ok (.iload_n 2, 1) := by decide +kernel
theorem dX1_turn_118 : decode cX1_turn 118 = .ok (.bipush 8, 2) := by decide +kernel
theorem dX1_turn_120 : decode cX1_turn 120 = .ok (.invokevirtual 23, 3) := by decide +kernel
theorem dX1_turn_123 : decode cX1_turn 123 = .ok (.invokevirtual 47, 3) := by decide +kernel
theorem dX1_turn_126 : decode cX1_turn 126 = .ok (.goto 3, 3) := by decide +kernel
theorem dX1_turn_129 : decode cX1_turn 129 = .ok (.return_, 1) := by decide +kernel
theorem dX1_isOver_0 : decode cX1_isOver 0 = .ok (.aload_n 0, 1) := by decide +kernel
theorem dX1_isOver_1 : decode cX1_isOver 1 = .ok (.getfield 15, 3) := by decide +kernel
theorem dX1_isOver_4 : decode cX1_isOver 4 = .ok (.ifCond .eq 30, 3) := by decide +kernel
theorem dX1_isOver_7 : decode cX1_isOver 7 = .ok (.aload_n 0, 1) := by decide +kernel
theorem dX1_isOver_8 : decode cX1_isOver 8 = .ok (.getfield 29, 3) := by decide +kernel
theorem dX1_isOver_11 : decode cX1_isOver 11 = .ok (.iload_n 1, 1) := by decide +kernel
theorem dX1_isOver_12 : decode cX1_isOver 12 = .ok (.if_icmp .ne 22, 3) := by decide +kernel
theorem dX1_isOver_15 : decode cX1_isOver 15 = .ok (.iload_n 2, 1) := by decide +kernel
theorem dX1_isOver_16 : decode cX1_isOver 16 = .ok (.aload_n 0, 1) := by decide +kernel
theorem dX1_isOver_17 : decode cX1_isOver 17 = .ok (.getfield 50, 3) := by decide +kernel
theorem dX1_isOver_20 : decode cX1_isOver 20 = .ok (.aload_n 0, 1) := by decide +kernel
theorem dX1_isOver_21 : decode cX1_isOver 21 = .ok (.getfield 53, 3) := by decide +kernel
theorem dX1_isOver_24 : decode cX1_isOver 24 = .ok (.invokestatic 56, 3) := by decide +kernel
theorem dX1_isOver_27 : decode cX1_isOver 27 = .ok (.ifCond .eq 7, 3) := by decide +kernel
theorem dX1_isOver_30 : decode cX1_isOver 30 = .ok (.iconst 1, 1) := by decide +kernel
theorem dX1_isOver_31 : decode cX1_isOver 31 = .ok (.goto 4, 3) := by decide +kernel
theorem dX1_isOver_34 : decode cX1_isOver 34 = .ok (.iconst 0, 1) := by decide +kernel
theorem dX1_isOver_35 : decode cX1_isOver 35 = .ok (.ireturn, 1) := by decide +kernel
theorem dX1_isIdle_0 : decode cX1_isIdle 0 = .ok (.iload_n 1, 1) := by decide +kernel
theorem dX1_isIdle_1 : decode cX1_isIdle 1 = .ok (.aload_n 0, 1) := by decide +kernel
theorem dX1_isIdle_2 : decode cX1_isIdle 2 = .ok (.getfield 60, 3) := by decide +kernel
theorem dX1_isIdle_5 : decode cX1_isIdle 5 = .ok (.isub, 1) := by decide +kernel
theorem dX1_isIdle_6 : decode cX1_isIdle 6 = .ok (.iload_n 2, 1) := by decide +kernel
theorem dX1_isIdle_7 : decode cX1_isIdle 7 = .ok (.if_icmp .le 7, 3) := by decide +kernel
theorem dX1_isIdle_10 : decode cX1_isIdle 10 = .ok (.iconst 1, 1) := by decide +kernel
theorem dX1_isIdle_11 : decode cX1_isIdle 11 = .ok (.goto 4, 3) := by decide +kernel
theorem dX1_isIdle_14 : decode cX1_isIdle 14 = .ok (.iconst 0, 1) := by decide +kernel
theorem dX1_isIdle_15 : decode cX1_isIdle 15 = .ok (.ireturn, 1) := by decide +kernel
theorem dX1_setFeet_0 : decode cX1_setFeet 0 = .ok (.aload_n 0, 1) := by decide +kernel
theorem dX1_setFeet_1 : decode cX1_setFeet 1 = .ok (.iload_n 1, 1) := by decide +kernel
theorem dX1_setFeet_2 : decode cX1_setFeet 2 = .ok (.putfield 50, 3) := by decide +kernel
theorem dX1_setFeet_5 : decode cX1_setFeet 5 = .ok (.aload_n 0, 1) := by decide +kernel
theorem dX1_setFeet_6 : decode cX1_setFeet 6 = .ok (.iload_n 2, 1) := by decide +kernel
theorem dX1_setFeet_7 : decode cX1_setFeet 7 = .ok (.putfield 53, 3) := by decide +kernel
theorem dX1_setFeet_10 : decode cX1_setFeet 10 = .ok (.return_, 1) := by decide +kernel
theorem dX1_setWorked_0 : decode cX1_setWorked 0 = .ok (.aload_n 0, 1) := by decide +kernel
theorem dX1_setWorked_1 : decode cX1_setWorked 1 = .ok (.iload_n 1, 1) := by decide +kernel
theorem dX1_setWorked_2 : decode cX1_setWorked 2 = .ok (.putfield 60, 3) := by decide +kernel
theorem dX1_setWorked_5 : decode cX1_setWorked 5 = .ok (.aload_n 0, 1) := by decide +kernel
theorem dX1_setWorked_6 : decode cX1_setWorked 6 = .ok (.iconst 0, 1) := by decide +kernel
theorem dX1_setWorked_7 : decode cX1_setWorked 7 = .ok (.putfield 63, 3) := by decide +kernel
theorem dX1_setWorked_10 : decode cX1_setWorked 10 = .ok (.return_, 1) := by decide +kernel
theorem dX1_passTo_0 : decode cX1_passTo 0 = .ok (.aload_n 0, 1) := by decide +kernel
theorem dX1_passTo_1 : decode cX1_passTo 1 = .ok (.iload_n 1, 1) := by decide +kernel
theorem dX1_passTo_2 : decode cX1_passTo 2 = .ok (.putfield 66, 3) := by decide +kernel
theorem dX1_passTo_5 : decode cX1_passTo 5 = .ok (.iconst 0, 1) := by decide +kernel
theorem dX1_passTo_6 : decode cX1_passTo 6 = .ok (.istore_n 3, 1) := by decide +kernel
theorem dX1_passTo_7 : decode cX1_passTo 7 = .ok (.iload_n 3, 1) := by decide +kernel
theorem dX1_passTo_8 : decode cX1_passTo 8 = .ok (.bipush 10, 2) := by decide +kernel
theorem dX1_passTo_10 : decode cX1_passTo 10 = .ok (.if_icmp .ge 26, 3) := by decide +kernel
theorem dX1_passTo_13 : decode cX1_passTo 13 = .ok (.aload_n 0, 1) := by decide +kernel
theorem dX1_passTo_14 : decode cX1_passTo 14 = .ok (.getfield 9, 3) := by decide +kernel
theorem dX1_passTo_17 : decode cX1_passTo 17 = .ok (.iload_n 3, 1) := by decide +kernel
theorem dX1_passTo_18 : decode cX1_passTo 18 = .ok (.iload_n 3, 1) := by decide +kernel
theorem dX1_passTo_19 : decode cX1_passTo 19 = .ok (.iload_n 1, 1) := by decide +kernel
theorem dX1_passTo_20 : decode cX1_passTo 20 = .ok (.if_icmp .ne 8, 3) := by decide +kernel
theorem dX1_passTo_23 : decode cX1_passTo 23 = .ok (.bipush 24, 2) := by decide +kernel
theorem dX1_passTo_25 : decode cX1_passTo 25 = .ok (.goto 4, 3) := by decide +kernel
theorem dX1_passTo_28 : decode cX1_passTo 28 = .ok (.iconst 0, 1) := by decide +kernel
theorem dX1_passTo_29 : decode cX1_passTo 29 = .ok (.iastore, 1) := by decide +kernel
theorem dX1_passTo_30 : decode cX1_passTo 30 = .ok (.iinc 3 1, 3) := by decide +kernel
theorem dX1_passTo_33 : decode cX1_passTo 33 = .ok (.goto (-26), 3) := by decide +kernel
theorem dX1_passTo_36 : decode cX1_passTo 36 = .ok (.aload_n 0, 1) := by decide +kernel
theorem dX1_passTo_37 : decode cX1_passTo 37 = .ok (.iload_n 2, 1) := by decide +kernel
theorem dX1_passTo_38 : decode cX1_passTo 38 = .ok (.invokevirtual 39, 3) := by decide +kernel
theorem dX1_passTo_41 : decode cX1_passTo 41 = .ok (.return_, 1) := by decide +kernel
theorem dX1_takeNick_0 : decode cX1_takeNick 0 = .ok (.iload_n 1, 1) := by decide +kernel
theorem dX1_takeNick_1 : decode cX1_takeNick 1 = .ok (.aload_n 0, 1) := by decide +kernel
theorem dX1_takeNick_2 : decode cX1_takeNick 2 = .ok (.getfield 66, 3) := by decide +kernel
theorem dX1_takeNick_5 : decode cX1_takeNick 5 = .ok (.if_icmp .eq 12, 3) := by decide +kernel
theorem dX1_takeNick_8 : decode cX1_takeNick 8 = .ok (.aload_n 0, 1) := by decide +kernel
theorem dX1_takeNick_9 : decode cX1_takeNick 9 = .ok (.iload_n 2, 1) := by decide +kernel
theorem dX1_takeNick_10 : decode cX1_takeNick 10 = .ok (.iload_n 3, 1) := by decide +kernel
theorem dX1_takeNick_11 : decode cX1_takeNick 11 = .ok (.invokevirtual 69, 3) := by decide +kernel
theorem dX1_takeNick_14 : decode cX1_takeNick 14 = .ok (.ifCond .ne 4, 3) := by decide +kernel
theorem dX1_takeNick_17 : decode cX1_takeNick 17 = .ok (.return_, 1) := by decide +kernel
theorem dX1_takeNick_18 : decode cX1_takeNick 18 = .ok (.iload_n 1, 1) := by decide +kernel
theorem dX1_takeNick_19 : decode cX1_takeNick 19 = .ok (.aload_n 0, 1) := by decide +kernel
theorem dX1_takeNick_20 : decode cX1_takeNick 20 = .ok (.getfield 73, 3) := by decide +kernel
theorem dX1_takeNick_23 : decode cX1_takeNick 23 = .ok (.if_icmp .ne 14, 3) := by decide +kernel
theorem dX1_takeNick_26 : decode cX1_takeNick 26 = .ok (.iload_n 2, 1) := by decide +kernel
theorem dX1_takeNick_27 : decode cX1_takeNick 27 = .ok (.aload_n 0, 1) := by decide +kernel
theorem dX1_takeNick_28 : decode cX1_takeNick 28 = .ok (.getfield 76, 3) := by decide +kernel
theorem dX1_takeNick_31 : decode cX1_takeNick 31 = .ok (.isub, 1) := by decide +kernel
theorem dX1_takeNick_32 : decode cX1_takeNick 32 = .ok (.bipush 10, 2) := by decide +kernel
theorem dX1_takeNick_34 : decode cX1_takeNick 34 = .ok (.if_icmp .le 8, 3) := by decide +kernel
theorem dX1_takeNick_37 : decode cX1_takeNick 37 = .ok (.aload_n 0, 1) := by decide +kernel
theorem dX1_takeNick_38 : decode cX1_takeNick 38 = .ok (.iconst 0, 1) := by decide +kernel
theorem dX1_takeNick_39 : decode cX1_takeNick 39 = .ok (.putfield 63, 3) := by decide +kernel
theorem dX1_takeNick_42 : decode cX1_takeNick 42 = .ok (.aload_n 0, 1) := by decide +kernel
theorem dX1_takeNick_43 : decode cX1_takeNick 43 = .ok (.getfield 63, 3) := by decide +kernel
theorem dX1_takeNick_46 : decode cX1_takeNick 46 = .ok (.ifCond .le 12, 3) := by decide +kernel
theorem dX1_takeNick_49 : decode cX1_takeNick 49 = .ok (.aload_n 0, 1) := by decide +kernel
theorem dX1_takeNick_50 : decode cX1_takeNick 50 = .ok (.getfield 79, 3) := by decide +kernel
theorem dX1_takeNick_53 : decode cX1_takeNick 53 = .ok (.iload_n 2, 1) := by decide +kernel
theorem dX1_takeNick_54 : decode cX1_takeNick 54 = .ok (.if_icmp .ne 4, 3) := by decide +kernel
theorem dX1_takeNick_57 : decode cX1_takeNick 57 = .ok (.return_, 1) := by decide +kernel
theorem dX1_takeNick_58 : decode cX1_takeNick 58 = .ok (.aload_n 0, 1) := by decide +kernel
theorem dX1_takeNick_59 : decode cX1_takeNick 59 = .ok (.iload_n 1, 1) := by decide +kernel
theorem dX1_takeNick_60 : decode cX1_takeNick 60 = .ok (.iload_n 2, 1) := by decide +kernel
theorem dX1_takeNick_61 : decode cX1_takeNick 61 = .ok (.invokevirtual 82, 3) := by decide +kernel
theorem dX1_takeNick_64 : decode cX1_takeNick 64 = .ok (.aload_n 0, 1) := by decide +kernel
theorem dX1_takeNick_65 : decode cX1_takeNick 65 = .ok (.getfield 63, 3) := by decide +kernel
theorem dX1_takeNick_68 : decode cX1_takeNick 68 = .ok (.iconst 3, 1) := by decide +kernel
theorem dX1_takeNick_69 : decode cX1_takeNick 69 = .ok (.if_icmp .lt 9, 3) := by decide +kernel
theorem dX1_takeNick_72 : decode cX1_takeNick 72 = .ok (.aload_n 0, 1) := by decide +kernel
theorem dX1_takeNick_73 : decode cX1_takeNick 73 = .ok (.iload_n 1, 1) := by decide +kernel
theorem dX1_takeNick_74 : decode cX1_takeNick 74 = .ok (.iload_n 2, 1) := by decide +kernel
theorem dX1_takeNick_75 : decode cX1_takeNick 75 = .ok (.invokevirtual 36, 3) := by decide +kernel
theorem dX1_takeNick_78 : decode cX1_takeNick 78 = .ok (.return_, 1) := by decide +kernel
theorem dX1_addNick_0 : decode cX1_addNick 0 = .ok (.aload_n 0, 1) := by decide +kernel
theorem dX1_addNick_1 : decode cX1_addNick 1 = .ok (.getfield 63, 3) := by decide +kernel
theorem dX1_addNick_4 : decode cX1_addNick 4 = .ok (.ifCond .ne 8, 3) := by decide +kernel
theorem dX1_addNick_7 : decode cX1_addNick 7 = .ok (.aload_n 0, 1) := by decide +kernel
theorem dX1_addNick_8 : decode cX1_addNick 8 = .ok (.iload_n 2, 1) := by decide +kernel
theorem dX1_addNick_9 : decode cX1_addNick 9 = .ok (.putfield 76, 3) := by decide +kernel
theorem dX1_addNick_12 : decode cX1_addNick 12 = .ok (.aload_n 0, 1) := by decide +kernel
theorem dX1_addNick_13 : decode cX1_addNick 13 = .ok (.iload_n 1, 1) := by decide +kernel
theorem dX1_addNick_14 : decode cX1_addNick 14 = .ok (.putfield 73, 3) := by decide +kernel
theorem dX1_addNick_17 : decode cX1_addNick 17 = .ok (.aload_n 0, 1) := by decide +kernel
theorem dX1_addNick_18 : decode cX1_addNick 18 = .ok (.iload_n 2, 1) := by decide +kernel
theorem dX1_addNick_19 : decode cX1_addNick 19 = .ok (.putfield 79, 3) := by decide +kernel
theorem dX1_addNick_22 : decode cX1_addNick 22 = .ok (.aload_n 0, 1) := by decide +kernel
theorem dX1_addNick_23 : decode cX1_addNick 23 = .ok (.dup, 1) := by decide +kernel
theorem dX1_addNick_24 : decode cX1_addNick 24 = .ok (.getfield 63, 3) := by decide +kernel
theorem dX1_addNick_27 : decode cX1_addNick 27 = .ok (.iconst 1, 1) := by decide +kernel
theorem dX1_addNick_28 : decode cX1_addNick 28 = .ok (.iadd, 1) := by decide +kernel
theorem dX1_addNick_29 : decode cX1_addNick 29 = .ok (.putfield 63, 3) := by decide +kernel
theorem dX1_addNick_32 : decode cX1_addNick 32 = .ok (.return_, 1) := by decide +kernel
theorem dX1_moveShares_0 : decode cX1_moveShares 0 = .ok (.aload_n 0, 1) := by decide +kernel
theorem dX1_moveShares_1 : decode cX1_moveShares 1 = .ok (.getfield 9, 3) := by decide +kernel
theorem dX1_moveShares_4 : decode cX1_moveShares 4 = .ok (.iload_n 1, 1) := by decide +kernel
theorem dX1_moveShares_5 : decode cX1_moveShares 5 = .ok (.iaload, 1) := by decide +kernel
theorem dX1_moveShares_6 : decode cX1_moveShares 6 = .ok (.iload_n 3, 1) := by decide +kernel
theorem dX1_moveShares_7 : decode cX1_moveShares 7 = .ok (.if_icmp .lt 23, 3) := by decide +kernel
theorem dX1_moveShares_10 : decode cX1_moveShares 10 = .ok (.aload_n 0, 1) := by decide +kernel
theorem dX1_moveShares_11 : decode cX1_moveShares 11 = .ok (.getfield 9, 3) := by decide +kernel
theorem dX1_moveShares_14 : decode cX1_moveShares 14 = .ok (.iload_n 1, 1) := by decide +kernel
theorem dX1_moveShares_15 : decode cX1_moveShares 15 = .ok (.dup2, 1) := by decide +kernel
theorem dX1_moveShares_16 : decode cX1_moveShares 16 = .ok (.iaload, 1) := by decide +kernel
theorem dX1_moveShares_17 : decode cX1_moveShares 17 = .ok (.iload_n 3, 1) := by decide +kernel
theorem dX1_moveShares_18 : decode cX1_moveShares 18 = .ok (.isub, 1) := by decide +kernel
theorem dX1_moveShares_19 : decode cX1_moveShares 19 = .ok (.iastore, 1) := by decide +kernel
theorem dX1_moveShares_20 : decode cX1_moveShares 20 = .ok (.aload_n 0, 1) := by decide +kernel
theorem dX1_moveShares_21 : decode cX1_moveShares 21 = .ok (.getfield 9, 3) := by decide +kernel
theorem dX1_moveShares_24 : decode cX1_moveShares 24 = .ok (.iload_n 2, 1) := by decide +kernel
theorem dX1_moveShares_25 : decode cX1_moveShares 25 = .ok (.dup2, 1) := by decide +kernel
theorem dX1_moveShares_26 : decode cX1_moveShares 26 = .ok (.iaload, 1) := by decide +kernel
theorem dX1_moveShares_27 : decode cX1_moveShares 27 = .ok (.iload_n 3, 1) := by decide +kernel
theorem dX1_moveShares_28 : decode cX1_moveShares 28 = .ok (.iadd, 1) := by decide +kernel
theorem dX1_moveShares_29 : decode cX1_moveShares 29 = .ok (.iastore, 1) := by decide +kernel
theorem dX1_moveShares_30 : decode cX1_moveShares 30 = .ok (.return_, 1) := by decide +kernel
end
section
theorem dX2_init_0 : decode cX2_init 0 = .ok (.aload_n 0, 1) := by decide +kernel
theorem dX2_init_1 : decode cX2_init 1 = .ok (.invokespecial 3, 3) := by decide +kernel
theorem dX2_init_4 : decode cX2_init 4 = .ok (.aload_n 0, 1) := by decide +kernel
theorem dX2_init_5 : decode cX2_init 5 = .ok (.bipush 20, 2) := by decide +kernel
theorem dX2_init_7 : decode cX2_init 7 = .ok (.anewarray 9, 3) := by decide +kernel
theorem dX2_init_10 : decode cX2_init 10 = .ok (.putfield 11, 3) := by decide +kernel
theorem dX2_init_13 : decode cX2_init 13 = .ok (.aload_n 0, 1) := by decide +kernel
theorem dX2_init_14 : decode cX2_init 14 = .ok (.bipush 11, 2) := by decide +kernel
theorem dX2_init_16 : decode cX2_init 16 = .ok (.newarray .int, 2) := by decide +kernel
theorem dX2_init_18 : decode cX2_init 18 = .ok (.putfield 17, 3) := by decide +kernel
theorem dX2_init_21 : decode cX2_init 21 = .ok (.iconst 0, 1) := by decide +kernel
theorem dX2_init_22 : decode cX2_init 22 = .ok (.istore_n 1, 1) := by decide +kernel
theorem dX2_init_23 : decode cX2_init 23 = .ok (.iload_n 1, 1) := by decide +kernel
theorem dX2_init_24 : decode cX2_init 24 = .ok (.bipush 20, 2) := by decide +kernel
theorem dX2_init_26 : decode cX2_init 26 = .ok (.if_icmp .ge 22, 3) := by decide +kernel
theorem dX2_init_29 : decode cX2_init 29 = .ok (.aload_n 0, 1) := by decide +kernel
theorem dX2_init_30 : decode cX2_init 30 = .ok (.getfield 11, 3) := by decide +kernel
theorem dX2_init_33 : decode cX2_init 33 = .ok (.iload_n 1, 1) := by decide +kernel
theorem dX2_init_34 : decode cX2_init 34 = .ok (.new 9, 3) := by decide +kernel
theorem dX2_init_37 : decode cX2_init 37 = .ok (.dup, 1) := by decide +kernel
theorem dX2_init_38 : decode cX2_init 38 = .ok (.invokespecial 21, 3) := by decide +kernel
theorem dX2_init_41 : decode cX2_init 41 = .ok (.aastore, 1) := by decide +kernel
theorem dX2_init_42 : decode cX2_init 42 = .ok (.iinc 1 1, 3) := by decide +kernel
theorem dX2_init_45 : decode cX2_init 45 = .ok (.goto (-22), 3) := by decide +kernel
theorem dX2_init_48 : decode cX2_init 48 = .ok (.return_, 1) := by decide +kernel
theorem dX2_goThrough_0 : decode cX2_goThrough 0 = .ok (.aload_n 0, 1) := by decide +kernel
theorem dX2_goThrough_1 : decode cX2_goThrough 1 = .ok (.invokevirtual 22, 3) := by decide +kernel
theorem dX2_goThrough_4 : decode cX2_goThrough 4 = .ok (.iconst 0, 1) := by decide +kernel
theorem dX2_goThrough_5 : decode cX2_goThrough 5 = .ok (.istore 5, 2) := by decide +kernel
theorem dX2_goThrough_7 : decode cX2_goThrough 7 = .ok (.iload 5, 2) := by decide +kernel
theorem dX2_goThrough_9 : decode cX2_goThrough 9 = .ok (.aload_n 1, 1) := by decide +kernel
theorem dX2_goThrough_10 : decode cX2_goThrough 10 = .ok (.getfield 25, 3) := by decide +kernel
theorem dX2_goThrough_13 : decode cX2_goThrough 13 = .ok (.if_icmp .ge 49, 3) := by decide +kernel
theorem dX2_goThrough_16 : decode cX2_goThrough 16 = .ok (.aload_n 1, 1) := by decide +kernel
theorem dX2_goThrough_17 : decode cX2_goThrough 17 = .ok (.getfield 31, 3) := by decide +kernel
theorem dX2_goThrough_20 : decode cX2_goThrough 20 = .ok (.iload 5, 2) := by decide +kernel
theorem dX2_goThrough_22 : decode cX2_goThrough 22 = .ok (.iaload, 1) := by decide +kernel
theorem dX2_goThrough_23 : decode cX2_goThrough 23 = .ok (.istore 6, 2) := by decide +kernel
theorem dX2_goThrough_25 : decode cX2_goThrough 25 = .ok (.aload_n 1, 1) := by decide +kernel
theorem dX2_goThrough_26 : decode cX2_goThrough 26 = .ok (.iload 6, 2) := by decide +kernel
theorem dX2_goThrough_28 : decode cX2_goThrough 28 = .ok (.iconst 1, 1) := by decide +kernel
theorem dX2_goThrough_29 : decode cX2_goThrough 29 = .ok (.invokevirtual 34, 3) := by decide +kernel
theorem dX2_goThrough_32 : decode cX2_goThrough 32 = .ok (.iload_n 2, 1) := by decide +kernel
theorem dX2_goThrough_33 : decode cX2_goThrough 33 = .ok (.if_icmp .le 4, 3) := by decide +kernel
theorem dX2_goThrough_36 : decode cX2_goThrough 36 = .ok (.return_, 1) := by decide +kernel
theorem dX2_goThrough_37 : decode cX2_goThrough 37 = .ok (.aload_n 1, 1) := by decide +kernel
theorem dX2_goThrough_38 : decode cX2_goThrough 38 = .ok (.iload 6, 2) := by decide +kernel
theorem dX2_goThrough_40 : decode cX2_goThrough 40 = .ok (.iload_n 3, 1) := by decide +kernel
theorem dX2_goThrough_41 : decode cX2_goThrough 41 = .ok (.invokevirtual 38, 3) := by decide +kernel
theorem dX2_goThrough_44 : decode cX2_goThrough 44 = .ok (.ifCond .eq 12, 3) := by decide +kernel
theorem dX2_goThrough_47 : decode cX2_goThrough 47 = .ok (.aload_n 0, 1) := by decide +kernel
theorem dX2_goThrough_48 : decode cX2_goThrough 48 = .ok (.aload_n 1, 1) := by decide +kernel
theorem dX2_goThrough_49 : decode cX2_goThrough 49 = .ok (.iload 6, 2) := by decide +kernel
theorem dX2_goThrough_51 : decode cX2_goThrough 51 = .ok (.iload 4, 2) := by decide +kernel
theorem dX2_goThrough_53 : decode cX2_goThrough 53 = .ok (.invokevirtual 42, 3) := by decide +kernel
theorem dX2_goThrough_56 : decode cX2_goThrough 56 = .ok (.iinc 5 1, 3) := by decide +kernel
theorem dX2_goThrough_59 : decode cX2_goThrough 59 = .ok (.goto (-52), 3) := by decide +kernel
theorem dX2_goThrough_62 : decode cX2_goThrough 62 = .ok (.return_, 1) := by decide +kernel
theorem dX2_find_0 : decode cX2_find 0 = .ok (.iconst 0, 1) := by decide +kernel
theorem dX2_find_1 : decode cX2_find 1 = .ok (.istore_n 2, 1) := by decide +kernel
theorem dX2_find_2 : decode cX2_find 2 = .ok (.iload_n 2, 1) := by decide +kernel
theorem dX2_find_3 : decode cX2_find 3 = .ok (.aload_n 0, 1) := by decide +kernel
theorem dX2_find_4 : decode cX2_find 4 = .ok (.getfield 46, 3) := by decide +kernel
theorem dX2_find_7 : decode cX2_find 7 = .ok (.if_icmp .ge 41, 3) := by decide +kernel
theorem dX2_find_10 : decode cX2_find 10 = .ok (.aload_n 0, 1) := by decide +kernel
theorem dX2_find_11 : decode cX2_find 11 = .ok (.getfield 11, 3) := by decide +kernel
theorem dX2_find_14 : decode cX2_find 14 = .ok (.iload_n 2, 1) := by decide +kernel
theorem dX2_find_15 : decode cX2_find 15 = .ok (.aaload, 1) := by decide +kernel
theorem dX2_find_16 : decode cX2_find 16 = .ok (.getfield 47, 3) := by decide +kernel
theorem dX2_find_19 : decode cX2_find 19 = .ok (.ifCond .eq 23, 3) := by decide +kernel
theorem dX2_find_22 : decode cX2_find 22 = .ok (.aload_n 0, 1) := by decide +kernel
theorem dX2_find_23 : decode cX2_find 23 = .ok (.getfield 11, 3) := by decide +kernel
theorem dX2_find_26 : decode cX2_find 26 = .ok (.iload_n 2, 1) := by decide +kernel
theorem dX2_find_27 : decode cX2_find 27 = .ok (.aaload, 1) := by decide +kernel
theorem dX2_find_28 : decode cX2_find 28 = .ok (.getfield 51, 3) := by decide +kernel
theorem dX2_find_31 : decode cX2_find 31 = .ok (.iload_n 1, 1) := by decide +kernel
theorem dX2_find_32 : decode cX2_find 32 = .ok (.if_icmp .ne 10, 3) := by decide +kernel
theorem dX2_find_35 : decode cX2_find 35 = .ok (.aload_n 0, 1) := by decide +kernel
theorem dX2_find_36 : decode cX2_find 36 = .ok (.getfield 11, 3) := by decide +kernel
theorem dX2_find_39 : decode cX2_find 39 = .ok (.iload_n 2, 1) := by decide +kernel
theorem dX2_find_40 : decode cX2_find 40 = .ok (.aaload, 1) := by decide +kernel
theorem dX2_find_41 : decode cX2_find 41 = .ok (.areturn, 1) := by decide +kernel
theorem dX2_find_42 : decode cX2_find 42 = .ok (.iinc 2 1, 3) := by decide +kernel
theorem dX2_find_45 : decode cX2_find 45 = .ok (.goto (-43), 3) := by decide +kernel
theorem dX2_find_48 : decode cX2_find 48 = .ok (.aconst_null, 1) := by decide +kernel
theorem dX2_find_49 : decode cX2_find 49 = .ok (.areturn, 1) := by decide +kernel
theorem dX2_eldestOver_0 : decode cX2_eldestOver 0 = .ok (.iconst 0, 1) := by decide +kernel
theorem dX2_eldestOver_1 : decode cX2_eldestOver 1 = .ok (.istore_n 3, 1) := by decide +kernel
theorem dX2_eldestOver_2 : decode cX2_eldestOver 2 = .ok (.iload_n 3, 1) := by decide +kernel
theorem dX2_eldestOver_3 : decode cX2_eldestOver 3 = .ok (.aload_n 0, 1) := by decide +kernel
theorem dX2_eldestOver_4 : decode cX2_eldestOver 4 = .ok (.getfield 46, 3) := by decide +kernel
theorem dX2_eldestOver_7 : decode cX2_eldestOver 7 = .ok (.if_icmp .ge 30, 3) := by decide +kernel
theorem dX2_eldestOver_10 : decode cX2_eldestOver 10 = .ok (.aload_n 0, 1) := by decide +kernel
theorem dX2_eldestOver_11 : decode cX2_eldestOver 11 = .ok (.getfield 11, 3) := by decide +kernel
theorem dX2_eldestOver_14 : decode cX2_eldestOver 14 = .ok (.iload_n 3, 1) := by decide +kernel
theorem dX2_eldestOver_15 : decode cX2_eldestOver 15 = .ok (.aaload, 1) := by decide +kernel
theorem dX2_eldestOver_16 : decode cX2_eldestOver 16 = .ok (.iload_n 1, 1) := by decide +kernel
theorem dX2_eldestOver_17 : decode cX2_eldestOver 17 = .ok (.iload_n 2, 1) := by decide +kernel
theorem dX2_eldestOver_18 : decode cX2_eldestOver 18 = .ok (.invokevirtual 54, 3) := by decide +kernel
theorem dX2_eldestOver_21 : decode cX2_eldestOver 21 = .ok (.ifCond .eq 10, 3) := by decide +kernel
theorem dX2_eldestOver_24 : decode cX2_eldestOver 24 = .ok (.aload_n 0, 1) := by decide +kernel
theorem dX2_eldestOver_25 : decode cX2_eldestOver 25 = .ok (.getfield 11, 3) := by decide +kernel
theorem dX2_eldestOver_28 : decode cX2_eldestOver 28 = .ok (.iload_n 3, 1) := by decide +kernel
theorem dX2_eldestOver_29 : decode cX2_eldestOver 29 = .ok (.aaload, 1) := by decide +kernel
theorem dX2_eldestOver_30 : decode cX2_eldestOver 30 = .ok (.areturn, 1) := by decide +kernel
theorem dX2_eldestOver_31 : decode cX2_eldestOver 31 = .ok (.iinc 3 1, 3) := by decide +kernel
theorem dX2_eldestOver_34 : decode cX2_eldestOver 34 = .ok (.goto (-32), 3) := by decide +kernel
theorem dX2_eldestOver_37 : decode cX2_eldestOver 37 = .ok (.aconst_null, 1) := by decide +kernel
theorem dX2_eldestOver_38 : decode cX2_eldestOver 38 = .ok (.areturn, 1) := by decide +kernel
theorem dX2_holderOver_0 : decode cX2_holderOver 0 = .ok (.aload_n 0, 1) := by decide +kernel
theorem dX2_holderOver_1 : decode cX2_holderOver 1 = .ok (.iload_n 1, 1) := by decide +kernel
theorem dX2_holderOver_2 : decode cX2_holderOver 2 = .ok (.iload_n 2, 1) := by decide +kernel
theorem dX2_holderOver_3 : decode cX2_holderOver 3 = .ok (.invokevirtual 57, 3) := by decide +kernel
theorem dX2_holderOver_6 : decode cX2_holderOver 6 = .ok (.astore_n 3, 1) := by decide +kernel
theorem dX2_holderOver_7 : decode cX2_holderOver 7 = .ok (.aload_n 3, 1) := by decide +kernel
theorem dX2_holderOver_8 : decode cX2_holderOver 8 = .ok (.ifnonnull 8, 3) := by decide +kernel
theorem dX2_holderOver_11 : decode cX2_holderOver 11 = .ok (.bipush (-4), 2) := by decide +kernel
theorem dX2_holderOver_13 : decode cX2_holderOver 13 = .ok (.goto 7, 3) := by decide +kernel
theorem dX2_holderOver_16 : decode cX2_holderOver 16 = .ok (.aload_n 3, 1) := by decide +kernel
theorem dX2_holderOver_17 : decode cX2_holderOver 17 = .ok (.getfield 61, 3) := by decide +kernel
theorem dX2_holderOver_20 : decode cX2_holderOver 20 = .ok (.ireturn, 1) := by decide +kernel
theorem dX2_countOver_0 : decode cX2_countOver 0 = .ok (.iconst 0, 1) := by decide +kernel
theorem dX2_countOver_1 : decode cX2_countOver 1 = .ok (.istore_n 3, 1) := by decide +kernel
theorem dX2_countOver_2 : decode cX2_countOver 2 = .ok (.iconst 0, 1) := by decide +kernel
theorem dX2_countOver_3 : decode cX2_countOver 3 = .ok (.istore 4, 2) := by decide +kernel
theorem dX2_countOver_5 : decode cX2_countOver 5 = .ok (.iload 4, 2) := by decide +kernel
theorem dX2_countOver_7 : decode cX2_countOver 7 = .ok (.aload_n 0, 1) := by decide +kernel
theorem dX2_countOver_8 : decode cX2_countOver 8 = .ok (.getfield 46, 3) := by decide +kernel
theorem dX2_countOver_11 : decode cX2_countOver 11 = .ok (.if_icmp .ge 27, 3) := by decide +kernel
theorem dX2_countOver_14 : decode cX2_countOver 14 = .ok (.aload_n 0, 1) := by decide +kernel
theorem dX2_countOver_15 : decode cX2_countOver 15 = .ok (.getfield 11, 3) := by decide +kernel
theorem dX2_countOver_18 : decode cX2_countOver 18 = .ok (.iload 4, 2) := by decide +kernel
theorem dX2_countOver_20 : decode cX2_countOver 20 = .ok (.aaload, 1) := by decide +kernel
theorem dX2_countOver_21 : decode cX2_countOver 21 = .ok (.iload_n 1, 1) := by decide +kernel
theorem dX2_countOver_22 : decode cX2_countOver 22 = .ok (.iload_n 2, 1) := by decide +kernel
theorem dX2_countOver_23 : decode cX2_countOver 23 = .ok (.invokevirtual 54, 3) := by decide +kernel
theorem dX2_countOver_26 : decode cX2_countOver 26 = .ok (.ifCond .eq 6, 3) := by decide +kernel
theorem dX2_countOver_29 : decode cX2_countOver 29 = .ok (.iinc 3 1, 3) := by decide +kernel
theorem dX2_countOver_32 : decode cX2_countOver 32 = .ok (.iinc 4 1, 3) := by decide +kernel
theorem dX2_countOver_35 : decode cX2_countOver 35 = .ok (.goto (-30), 3) := by decide +kernel
theorem dX2_countOver_38 : decode cX2_countOver 38 = .ok (.iload_n 3, 1) := by decide +kernel
theorem dX2_countOver_39 : decode cX2_countOver 39 = .ok (.ireturn, 1) := by decide +kernel
theorem dX2_countOwned_0 : decode cX2_countOwned 0 = .ok (.iconst 0, 1) := by decide +kernel
theorem dX2_countOwned_1 : decode cX2_countOwned 1 = .ok (.istore_n 2, 1) := by decide +kernel
theorem dX2_countOwned_2 : decode cX2_countOwned 2 = .ok (.aload_n 1, 1) := by decide +kernel
theorem dX2_countOwned_3 : decode cX2_countOwned 3 = .ok (.getfield 64, 3) := by decide +kernel
theorem dX2_countOwned_6 : decode cX2_countOwned 6 = .ok (.istore_n 3, 1) := by decide +kernel
theorem dX2_countOwned_7 : decode cX2_countOwned 7 = .ok (.iload_n 3, 1) := by decide +kernel
theorem dX2_countOwned_8 : decode cX2_countOwned 8 = .ok (.aload_n 1, 1) := by decide +kernel
theorem dX2_countOwned_9 : decode cX2_countOwned 9 = .ok (.getfield 67, 3) := by decide +kernel
theorem dX2_countOwned_12 : decode cX2_countOwned 12 = .ok (.if_icmp .gt 40, 3) := by decide +kernel
theorem dX2_countOwned_15 : decode cX2_countOwned 15 = .ok (.aload_n 0, 1) := by decide +kernel
theorem dX2_countOwned_16 : decode cX2_countOwned 16 = .ok (.aload_n 1, 1) := by decide +kernel
theorem dX2_countOwned_17 : decode cX2_countOwned 17 = .ok (.getfield 70, 3) := by decide +kernel
theorem dX2_countOwned_20 : decode cX2_countOwned 20 = .ok (.iload_n 3, 1) := by decide +kernel
theorem dX2_countOwned_21 : decode cX2_countOwned 21 = .ok (.invokevirtual 57, 3) := by decide +kernel
theorem dX2_countOwned_24 : decode cX2_countOwned 24 = .ok (.astore 4, 2) := by decide +kernel
theorem dX2_countOwned_26 : decode cX2_countOwned 26 = .ok (.aload 4, 2) := by decide +kernel
theorem dX2_countOwned_28 : decode cX2_countOwned 28 = .ok (.ifnull 18, 3) := by decide +kernel
theorem dX2_countOwned_31 : decode cX2_countOwned 31 = .ok (.aload 4, 2) := by decide +kernel
theorem dX2_countOwned_33 : decode cX2_countOwned 33 = .ok (.getfield 51, 3) := by decide +kernel
theorem dX2_countOwned_36 : decode cX2_countOwned 36 = .ok (.aload_n 1, 1) := by decide +kernel
theorem dX2_countOwned_37 : decode cX2_countOwned 37 = .ok (.getfield 51, 3) := by decide +kernel
theorem dX2_countOwned_40 : decode cX2_countOwned 40 = .ok (.if_icmp .ne 6, 3) := by decide +kernel
theorem dX2_countOwned_43 : decode cX2_countOwned 43 = .ok (.iinc 2 1, 3) := by decide +kernel
theorem dX2_countOwned_46 : decode cX2_countOwned 46 = .ok (.iinc 3 1, 3) := by decide +kernel
theorem dX2_countOwned_49 : decode cX2_countOwned 49 = .ok (.goto (-42), 3) := by decide +kernel
theorem dX2_countOwned_52 : decode cX2_countOwned 52 = .ok (.iload_n 2, 1) := by decide +kernel
theorem dX2_countOwned_53 : decode cX2_countOwned 53 = .ok (.ireturn, 1) := by decide +kernel
theorem dX2_clear_0 : decode cX2_clear 0 = .ok (.aload_n 0, 1) := by decide +kernel
theorem dX2_clear_1 : decode cX2_clear 1 = .ok (.iconst 0, 1) := by decide +kernel
theorem dX2_clear_2 : decode cX2_clear 2 = .ok (.putfield 46, 3) := by decide +kernel
theorem dX2_clear_5 : decode cX2_clear 5 = .ok (.iconst 0, 1) := by decide +kernel
theorem dX2_clear_6 : decode cX2_clear 6 = .ok (.istore_n 1, 1) := by decide +kernel
theorem dX2_clear_7 : decode cX2_clear 7 = .ok (.iload_n 1, 1) := by decide +kernel
theorem dX2_clear_8 : decode cX2_clear 8 = .ok (.aload_n 0, 1) := by decide +kernel
theorem dX2_clear_9 : decode cX2_clear 9 = .ok (.getfield 17, 3) := by decide +kernel
theorem dX2_clear_12 : decode cX2_clear 12 = .ok (.arraylength, 1) := by decide +kernel
theorem dX2_clear_13 : decode cX2_clear 13 = .ok (.if_icmp .ge 16, 3) := by decide +kernel
theorem dX2_clear_16 : decode cX2_clear 16 = .ok (.aload_n 0, 1) := by decide +kernel
theorem dX2_clear_17 : decode cX2_clear 17 = .ok (.getfield 17, 3) := by decide +kernel
theorem dX2_clear_20 : decode cX2_clear 20 = .ok (.iload_n 1, 1) := by decide +kernel
theorem dX2_clear_21 : decode cX2_clear 21 = .ok (.iconst 0, 1) := by decide +kernel
theorem dX2_clear_22 : decode cX2_clear 22 = .ok (.iastore, 1) := by decide +kernel
theorem dX2_clear_23 : decode cX2_clear 23 = .ok (.iinc 1 1, 3) := by decide +kernel
theorem dX2_clear_26 : decode cX2_clear 26 = .ok (.goto (-19), 3) := by decide +kernel
theorem dX2_clear_29 : decode cX2_clear 29 = .ok (.return_, 1) := by decide +kernel
theorem dX2_apply_0 : decode cX2_apply 0 = .ok (.aload_n 1, 1) := by decide +kernel
theorem dX2_apply_1 : decode cX2_apply 1 = .ok (.iload_n 2, 1) := by decide +kernel
theorem dX2_apply_2 : decode cX2_apply 2 = .ok (.iconst 0, 1) := by decide +kernel
theorem dX2_apply_3 : decode cX2_apply 3 = .ok (.invokevirtual 34, 3) := by decide +kernel
theorem dX2_apply_6 : decode cX2_apply 6 = .ok (.istore 4, 2) := by decide +kernel
theorem dX2_apply_8 : decode cX2_apply 8 = .ok (.iload 4, 2) := by decide +kernel
theorem dX2_apply_10 : decode cX2_apply 10 = .ok (.ifCond .ne 12, 3) := by decide +kernel
theorem dX2_apply_13 : decode cX2_apply 13 = .ok (.aload_n 0, 1) := by decide +kernel
theorem dX2_apply_14 : decode cX2_apply 14 = .ok (.aload_n 1, 1) := by decide +kernel
theorem dX2_apply_15 : decode cX2_apply 15 = .ok (.iload_n 2, 1) := by decide +kernel
theorem dX2_apply_16 : decode cX2_apply 16 = .ok (.invokevirtual 73, 3) := by decide +kernel
theorem dX2_apply_19 : decode cX2_apply 19 = .ok (.goto 63, 3) := by decide +kernel
theorem dX2_apply_22 : decode cX2_apply 22 = .ok (.iload 4, 2) := by decide +kernel
theorem dX2_apply_24 : decode cX2_apply 24 = .ok (.bipush 6, 2) := by decide +kernel
theorem dX2_apply_26 : decode cX2_apply 26 = .ok (.if_icmp .ne 30, 3) := by decide +kernel
theorem dX2_apply_29 : decode cX2_apply 29 = .ok (.aload_n 0, 1) := by decide +kernel
theorem dX2_apply_30 : decode cX2_apply 30 = .ok (.aload_n 1, 1) := by decide +kernel
theorem dX2_apply_31 : decode cX2_apply 31 = .ok (.iload_n 2, 1) := by decide +kernel
theorem dX2_apply_32 : decode cX2_apply 32 = .ok (.iconst 4, 1) := by decide +kernel
theorem dX2_apply_33 : decode cX2_apply 33 = .ok (.invokevirtual 34, 3) := by decide +kernel
theorem dX2_apply_36 : decode cX2_apply 36 = .ok (.aload_n 1, 1) := by decide +kernel
theorem dX2_apply_37 : decode cX2_apply 37 = .ok (.iload_n 2, 1) := by decide +kernel
theorem dX2_apply_38 : decode cX2_apply 38 = .ok (.bipush 6, 2) := by decide +kernel
theorem dX2_apply_40 : decode cX2_apply 40 = .ok (.invokevirtual 34, 3) := by decide +kernel
theorem dX2_apply_43 : decode cX2_apply 43 = .ok (.aload_n 1, 1) := by decide +kernel
theorem dX2_apply_44 : decode cX2_apply 44 = .ok (.iload_n 2, 1) := by decide +kernel
theorem dX2_apply_45 : decode cX2_apply 45 = .ok (.bipush 8, 2) := by decide +kernel
theorem dX2_apply_47 : decode cX2_apply 47 = .ok (.invokevirtual 34, 3) := by decide +kernel
theorem dX2_apply_50 : decode cX2_apply 50 = .ok (.invokevirtual 77, 3) := by decide +kernel
theorem dX2_apply_53 : decode cX2_apply 53 = .ok (.goto 29, 3) := by decide +kernel
theorem dX2_apply_56 : decode cX2_apply 56 = .ok (.aload_n 0, 1) := by decide +kernel
theorem dX2_apply_57 : decode cX2_apply 57 = .ok (.aload_n 1, 1) := by decide +kernel
theorem dX2_apply_58 : decode cX2_apply 58 = .ok (.iload_n 2, 1) := by decide +kernel
theorem dX2_apply_59 : decode cX2_apply 59 = .ok (.bipush 9, 2) := by decide +kernel
theorem dX2_apply_61 : decode cX2_apply 61 = .ok (.invokevirtual 34, 3) := by decide +kernel
theorem dX2_apply_64 : decode cX2_apply 64 = .ok (.invokevirtual 81, 3) := by decide +kernel
theorem dX2_apply_67 : decode cX2_apply 67 = .ok (.astore 5, 2) := by decide +kernel
theorem dX2_apply_69 : decode cX2_apply 69 = .ok (.aload 5, 2) := by decide +kernel
theorem dX2_apply_71 : decode cX2_apply 71 = .ok (.ifnull 11, 3) := by decide +kernel
theorem dX2_apply_74 : decode cX2_apply 74 = .ok (.aload 5, 2) := by decide +kernel
theorem dX2_apply_76 : decode cX2_apply 76 = .ok (.aload_n 1, 1) := by decide +kernel
theorem dX2_apply_77 : decode cX2_apply 77 = .ok (.iload_n 2, 1) := by decide +kernel
theorem dX2_apply_78 : decode cX2_apply 78 = .ok (.iload_n 3, 1) := by decide +kernel
theorem dX2_apply_79 : decode cX2_apply 79 = .ok (.invokevirtual 85, 3) := by decide +kernel
theorem dX2_apply_82 : decode cX2_apply 82 = .ok (.return_, 1) := by decide +kernel
theorem dX2_addClaim_0 : decode cX2_addClaim 0 = .ok (.aload_n 0, 1) := by decide +kernel
theorem dX2_addClaim_1 : decode cX2_addClaim 1 = .ok (.getfield 46, 3) := by decide +kernel
theorem dX2_addClaim_4 : decode cX2_addClaim 4 = .ok (.bipush 20, 2) := by decide +kernel
theorem dX2_addClaim_6 : decode cX2_addClaim 6 = .ok (.if_icmp .ge 27, 3) := by decide +kernel
theorem dX2_addClaim_9 : decode cX2_addClaim 9 = .ok (.aload_n 0, 1) := by decide +kernel
theorem dX2_addClaim_10 : decode cX2_addClaim 10 = .ok (.getfield 11, 3) := by decide +kernel
theorem dX2_addClaim_13 : decode cX2_addClaim 13 = .ok (.aload_n 0, 1) := by decide +kernel
theorem dX2_addClaim_14 : decode cX2_addClaim 14 = .ok (.getfield 46, 3) := by decide +kernel
theorem dX2_addClaim_17 : decode cX2_addClaim 17 = .ok (.aaload, 1) := by decide +kernel
theorem dX2_addClaim_18 : decode cX2_addClaim 18 = .ok (.aload_n 1, 1) := by decide +kernel
theorem dX2_addClaim_19 : decode cX2_addClaim 19 = .ok (.iload_n 2, 1) := by decide +kernel
theorem dX2_addClaim_20 : decode cX2_addClaim 20 = .ok (.invokevirtual 88, 3) := by decide +kernel
theorem dX2_addClaim_23 : decode cX2_addClaim 23 = .ok (.aload_n 0, 1) := by decide +kernel
theorem dX2_addClaim_24 : decode cX2_addClaim 24 = .ok (.dup, 1) := by decide +kernel
theorem dX2_addClaim_25 : decode cX2_addClaim 25 = .ok (.getfield 46, 3) := by decide +kernel
theorem dX2_addClaim_28 : decode cX2_addClaim 28 = .ok (.iconst 1, 1) := by decide +kernel
theorem dX2_addClaim_29 : decode cX2_addClaim 29 = .ok (.iadd, 1) := by decide +kernel
theorem dX2_addClaim_30 : decode cX2_addClaim 30 = .ok (.putfield 46, 3) := by decide +kernel
theorem dX2_addClaim_33 : decode cX2_addClaim 33 = .ok (.return_, 1) := by decide +kernel
theorem dX2_bringOre_0 : decode cX2_bringOre 0 = .ok (.aload_n 0, 1) := by decide +kernel
theorem dX2_bringOre_1 : decode cX2_bringOre 1 = .ok (.iload_n 1, 1) := by decide +kernel
theorem dX2_bringOre_2 : decode cX2_bringOre 2 = .ok (.iload_n 2, 1) := by decide +kernel
theorem dX2_bringOre_3 : decode cX2_bringOre 3 = .ok (.invokevirtual 57, 3) := by decide +kernel
theorem dX2_bringOre_6 : decode cX2_bringOre 6 = .ok (.astore 4, 2) := by decide +kernel
theorem dX2_bringOre_8 : decode cX2_bringOre 8 = .ok (.aload 4, 2) := by decide +kernel
theorem dX2_bringOre_10 : decode cX2_bringOre 10 = .ok (.ifnonnull 18, 3) := by decide +kernel
theorem dX2_bringOre_13 : decode cX2_bringOre 13 = .ok (.aload_n 0, 1) := by decide +kernel
theorem dX2_bringOre_14 : decode cX2_bringOre 14 = .ok (.getfield 17, 3) := by decide +kernel
theorem dX2_bringOre_17 : decode cX2_bringOre 17 = .ok (.bipush 10, 2) := by decide +kernel
theorem dX2_bringOre_19 : decode cX2_bringOre 19 = .ok (.dup2, 1) := by decide +kernel
theorem dX2_bringOre_20 : decode cX2_bringOre 20 = .ok (.iaload, 1) := by decide +kernel
theorem dX2_bringOre_21 : decode cX2_bringOre 21 = .ok (.iload_n 3, 1) := by decide +kernel
theorem dX2_bringOre_22 : decode cX2_bringOre 22 = .ok (.bipush 24, 2) := by decide +kernel
theorem dX2_bringOre_24 : decode cX2_bringOre 24 = .ok (.imul, 1) := by decide +kernel
theorem dX2_bringOre_25 : decode cX2_bringOre 25 = .ok (.iadd, 1) := by decide +kernel
theorem dX2_bringOre_26 : decode cX2_bringOre 26 = .ok (.iastore, 1) := by decide +kernel
theorem dX2_bringOre_27 : decode cX2_bringOre 27 = .ok (.return_, 1) := by decide +kernel
theorem dX2_bringOre_28 : decode cX2_bringOre 28 = .ok (.iconst 0, 1) := by decide +kernel
theorem dX2_bringOre_29 : decode cX2_bringOre 29 = .ok (.istore 5, 2) := by decide +kernel
theorem dX2_bringOre_31 : decode cX2_bringOre 31 = .ok (.iload 5, 2) := by decide +kernel
theorem dX2_bringOre_33 : decode cX2_bringOre 33 = .ok (.bipush 10, 2) := by decide +kernel
theorem dX2_bringOre_35 : decode cX2_bringOre 35 = .ok (.if_icmp .ge 29, 3) := by decide +kernel
theorem dX2_bringOre_38 : decode cX2_bringOre 38 = .ok (.aload_n 0, 1) := by decide +kernel
theorem dX2_bringOre_39 : decode cX2_bringOre 39 = .ok (.getfield 17, 3) := by decide +kernel
theorem dX2_bringOre_42 : decode cX2_bringOre 42 = .ok (.iload 5, 2) := by decide +kernel
theorem dX2_bringOre_44 : decode cX2_bringOre 44 = .ok (.dup2, 1) := by decide +kernel
theorem dX2_bringOre_45 : decode cX2_bringOre 45 = .ok (.iaload, 1) := by decide +kernel
theorem dX2_bringOre_46 : decode cX2_bringOre 46 = .ok (.iload_n 3, 1) := by decide +kernel
theorem dX2_bringOre_47 : decode cX2_bringOre 47 = .ok (.aload 4, 2) := by decide +kernel
theorem dX2_bringOre_49 : decode cX2_bringOre 49 = .ok (.getfield 91, 3) := by decide +kernel
theorem dX2_bringOre_52 : decode cX2_bringOre 52 = .ok (.iload 5, 2) := by decide +kernel
theorem dX2_bringOre_54 : decode cX2_bringOre 54 = .ok (.iaload, 1) := by decide +kernel
theorem dX2_bringOre_55 : decode cX2_bringOre 55 = .ok (.imul, 1) := by decide +kernel
theorem dX2_bringOre_56 : decode cX2_bringOre 56 = .ok (.iadd, 1) := by decide +kernel
theorem dX2_bringOre_57 : decode cX2_bringOre 57 = .ok (.iastore, 1) := by decide +kernel
theorem dX2_bringOre_58 : decode cX2_bringOre 58 = .ok (.iinc 5 1, 3) := by decide +kernel
theorem dX2_bringOre_61 : decode cX2_bringOre 61 = .ok (.goto (-30), 3) := by decide +kernel
theorem dX2_bringOre_64 : decode cX2_bringOre 64 = .ok (.return_, 1) := by decide +kernel
end
section
theorem dX3_init_0 : decode cX3_init 0 = .ok (.aload_n 0, 1) := by decide +kernel
theorem dX3_init_1 : decode cX3_init 1 = .ok (.invokespecial 3, 3) := by decide +kernel
theorem dX3_init_4 : decode cX3_init 4 = .ok (.aload_n 0, 1) := by decide +kernel
theorem dX3_init_5 : decode cX3_init 5 = .ok (.new 9, 3) := by decide +kernel
theorem dX3_init_8 : decode cX3_init 8 = .ok (.dup, 1) := by decide +kernel
theorem dX3_init_9 : decode cX3_init 9 = .ok (.invokespecial 11, 3) := by decide +kernel
theorem dX3_init_12 : decode cX3_init 12 = .ok (.putfield 12, 3) := by decide +kernel
theorem dX3_init_15 : decode cX3_init 15 = .ok (.aload_n 0, 1) := by decide +kernel
theorem dX3_init_16 : decode cX3_init 16 = .ok (.new 9, 3) := by decide +kernel
theorem dX3_init_19 : decode cX3_init 19 = .ok (.dup, 1) := by decide +kernel
theorem dX3_init_20 : decode cX3_init 20 = .ok (.invokespecial 11, 3) := by decide +kernel
theorem dX3_init_23 : decode cX3_init 23 = .ok (.putfield 16, 3) := by decide +kernel
theorem dX3_init_26 : decode cX3_init 26 = .ok (.aload_n 0, 1) := by decide +kernel
theorem dX3_init_27 : decode cX3_init 27 = .ok (.iconst 0, 1) := by decide +kernel
theorem dX3_init_28 : decode cX3_init 28 = .ok (.putfield 19, 3) := by decide +kernel
theorem dX3_init_31 : decode cX3_init 31 = .ok (.aload_n 0, 1) := by decide +kernel
theorem dX3_init_32 : decode cX3_init 32 = .ok (.iconst 5, 1) := by decide +kernel
theorem dX3_init_33 : decode cX3_init 33 = .ok (.putfield 23, 3) := by decide +kernel
theorem dX3_init_36 : decode cX3_init 36 = .ok (.aload_n 0, 1) := by decide +kernel
theorem dX3_init_37 : decode cX3_init 37 = .ok (.bipush 10, 2) := by decide +kernel
theorem dX3_init_39 : decode cX3_init 39 = .ok (.putfield 27, 3) := by decide +kernel
theorem dX3_init_42 : decode cX3_init 42 = .ok (.aload_n 0, 1) := by decide +kernel
theorem dX3_init_43 : decode cX3_init 43 = .ok (.new 30, 3) := by decide +kernel
theorem dX3_init_46 : decode cX3_init 46 = .ok (.dup, 1) := by decide +kernel
theorem dX3_init_47 : decode cX3_init 47 = .ok (.invokespecial 32, 3) := by decide +kernel
theorem dX3_init_50 : decode cX3_init 50 = .ok (.putfield 33, 3) := by decide +kernel
theorem dX3_init_53 : decode cX3_init 53 = .ok (.aload_n 0, 1) := by decide +kernel
theorem dX3_init_54 : decode cX3_init 54 = .ok (.sipush 240, 3) := by decide +kernel
theorem dX3_init_57 : decode cX3_init 57 = .ok (.newarray .int, 2) := by decide +kernel
theorem dX3_init_59 : decode cX3_init 59 = .ok (.putfield 37, 3) := by decide +kernel
theorem dX3_init_62 : decode cX3_init 62 = .ok (.return_, 1) := by decide +kernel
theorem dX3_day_0 : decode cX3_day 0 = .ok (.iload_n 1, 1) := by decide +kernel
theorem dX3_day_1 : decode cX3_day 1 = .ok (.iconst 0, 1) := by decide +kernel
theorem dX3_day_2 : decode cX3_day 2 = .ok (.bipush 100, 2) := by decide +kernel
theorem dX3_day_4 : decode cX3_day 4 = .ok (.invokestatic 41, 3) := by decide +kernel
theorem dX3_day_7 : decode cX3_day 7 = .ok (.ifCond .eq 18, 3) := by decide +kernel
theorem dX3_day_10 : decode cX3_day 10 = .ok (.aload_n 0, 1) := by decide +kernel
theorem dX3_day_11 : decode cX3_day 11 = .ok (.getfield 12, 3) := by decide +kernel
theorem dX3_day_14 : decode cX3_day 14 = .ok (.getfield 45, 3) := by decide +kernel
theorem dX3_day_17 : decode cX3_day 17 = .ok (.iload_n 1, 1) := by decide +kernel
theorem dX3_day_18 : decode cX3_day 18 = .ok (.iadd, 1) := by decide +kernel
theorem dX3_day_19 : decode cX3_day 19 = .ok (.sipush 999, 3) := by decide +kernel
theorem dX3_day_22 : decode cX3_day 22 = .ok (.if_icmp .le 5, 3) := by decide +kernel
theorem dX3_day_25 : decode cX3_day 25 = .ok (.iconst (-1), 1) := by decide +kernel
theorem dX3_day_26 : decode cX3_day 26 = .ok (.ireturn, 1) := by decide +kernel
theorem dX3_day_27 : decode cX3_day 27 = .ok (.aload_n 0, 1) := by decide +kernel
theorem dX3_day_28 : decode cX3_day 28 = .ok (.getfield 12, 3) := by decide +kernel
theorem dX3_day_31 : decode cX3_day 31 = .ok (.dup, 1) := by decide +kernel
theorem dX3_day_32 : decode cX3_day 32 = .ok (.getfield 45, 3) := by decide +kernel
theorem dX3_day_35 : decode cX3_day 35 = .ok (.iload_n 1, 1) := by decide +kernel
theorem dX3_day_36 : decode cX3_day 36 = .ok (.iadd, 1) := by decide +kernel
theorem dX3_day_37 : decode cX3_day 37 = .ok (.putfield 45, 3) := by decide +kernel
theorem dX3_day_40 : decode cX3_day 40 = .ok (.aload_n 0, 1) := by decide +kernel
theorem dX3_day_41 : decode cX3_day 41 = .ok (.getfield 12, 3) := by decide +kernel
theorem dX3_day_44 : decode cX3_day 44 = .ok (.getfield 45, 3) := by decide +kernel
theorem dX3_day_47 : decode cX3_day 47 = .ok (.ireturn, 1) := by decide +kernel
theorem dX3_rule_0 : decode cX3_rule 0 = .ok (.iload_n 1, 1) := by decide +kernel
theorem dX3_rule_1 : decode cX3_rule 1 = .ok (.ifCond .ne 25, 3) := by decide +kernel
theorem dX3_rule_4 : decode cX3_rule 4 = .ok (.iload_n 2, 1) := by decide +kernel
theorem dX3_rule_5 : decode cX3_rule 5 = .ok (.iconst 1, 1) := by decide +kernel
theorem dX3_rule_6 : decode cX3_rule 6 = .ok (.bipush 10, 2) := by decide +kernel
theorem dX3_rule_8 : decode cX3_rule 8 = .ok (.invokestatic 41, 3) := by decide +kernel
theorem dX3_rule_11 : decode cX3_rule 11 = .ok (.ifCond .eq 15, 3) := by decide +kernel
theorem dX3_rule_14 : decode cX3_rule 14 = .ok (.aload_n 0, 1) := by decide +kernel
theorem dX3_rule_15 : decode cX3_rule 15 = .ok (.getfield 23, 3) := by decide +kernel
theorem dX3_rule_18 : decode cX3_rule 18 = .ok (.istore_n 3, 1) := by decide +kernel
theorem dX3_rule_19 : decode cX3_rule 19 = .ok (.aload_n 0, 1) := by decide +kernel
theorem dX3_rule_20 : decode cX3_rule 20 = .ok (.iload_n 2, 1) := by decide +kernel
theorem dX3_rule_21 : decode cX3_rule 21 = .ok (.putfield 23, 3) := by decide +kernel
theorem dX3_rule_24 : decode cX3_rule 24 = .ok (.iload_n 3, 1) := by decide +kernel
theorem dX3_rule_25 : decode cX3_rule 25 = .ok (.ireturn, 1) := by decide +kernel
theorem dX3_rule_26 : decode cX3_rule 26 = .ok (.iload_n 1, 1) := by decide +kernel
theorem dX3_rule_27 : decode cX3_rule 27 = .ok (.iconst 1, 1) := by decide +kernel
theorem dX3_rule_28 : decode cX3_rule 28 = .ok (.if_icmp .ne 25, 3) := by decide +kernel
theorem dX3_rule_31 : decode cX3_rule 31 = .ok (.iload_n 2, 1) := by decide +kernel
theorem dX3_rule_32 : decode cX3_rule 32 = .ok (.iconst 1, 1) := by decide +kernel
theorem dX3_rule_33 : decode cX3_rule 33 = .ok (.bipush 30, 2) := by decide +kernel
theorem dX3_rule_35 : decode cX3_rule 35 = .ok (.invokestatic 41, 3) := by decide +kernel
theorem dX3_rule_38 : decode cX3_rule 38 = .ok (.ifCond .eq 15, 3) := by decide +kernel
theorem dX3_rule_41 : decode cX3_rule 41 = .ok (.aload_n 0, 1) := by decide +kernel
theorem dX3_rule_42 : decode cX3_rule 42 = .ok (.getfield 27, 3) := by decide +kernel
theorem dX3_rule_45 : decode cX3_rule 45 = .ok (.istore_n 3, 1) := by decide +kernel
theorem dX3_rule_46 : decode cX3_rule 46 = .ok (.aload_n 0, 1) := by decide +kernel
theorem dX3_rule_47 : decode cX3_rule 47 = .ok (.iload_n 2, 1) := by decide +kernel
theorem dX3_rule_48 : decode cX3_rule 48 = .ok (.putfield 27, 3) := by decide +kernel
theorem dX3_rule_51 : decode cX3_rule 51 = .ok (.iload_n 3, 1) := by decide +kernel
theorem dX3_rule_52 : decode cX3_rule 52 = .ok (.ireturn, 1) := by decide +kernel
theorem dX3_rule_53 : decode cX3_rule 53 = .ok (.iconst (-1), 1) := by decide +kernel
theorem dX3_rule_54 : decode cX3_rule 54 = .ok (.ireturn, 1) := by decide +kernel
theorem dX3_stake_0 : decode cX3_stake 0 = .ok (.aload_n 0, 1) := by decide +kernel
theorem dX3_stake_1 : decode cX3_stake 1 = .ok (.iload_n 1, 1) := by decide +kernel
theorem dX3_stake_2 : decode cX3_stake 2 = .ok (.invokevirtual 48, 3) := by decide +kernel
theorem dX3_stake_5 : decode cX3_stake 5 = .ok (.ifCond .eq 25, 3) := by decide +kernel
theorem dX3_stake_8 : decode cX3_stake 8 = .ok (.iload_n 2, 1) := by decide +kernel
theorem dX3_stake_9 : decode cX3_stake 9 = .ok (.invokestatic 52, 3) := by decide +kernel
theorem dX3_stake_12 : decode cX3_stake 12 = .ok (.ifCond .eq 18, 3) := by decide +kernel
theorem dX3_stake_15 : decode cX3_stake 15 = .ok (.iload_n 3, 1) := by decide +kernel
theorem dX3_stake_16 : decode cX3_stake 16 = .ok (.invokestatic 55, 3) := by decide +kernel
theorem dX3_stake_19 : decode cX3_stake 19 = .ok (.ifCond .eq 11, 3) := by decide +kernel
theorem dX3_stake_22 : decode cX3_stake 22 = .ok (.iload 4, 2) := by decide +kernel
theorem dX3_stake_24 : decode cX3_stake 24 = .ok (.invokestatic 58, 3) := by decide +kernel
theorem dX3_stake_27 : decode cX3_stake 27 = .ok (.ifCond .ne 5, 3) := by decide +kernel
theorem dX3_stake_30 : decode cX3_stake 30 = .ok (.iconst (-1), 1) := by decide +kernel
theorem dX3_stake_31 : decode cX3_stake 31 = .ok (.ireturn, 1) := by decide +kernel
theorem dX3_stake_32 : decode cX3_stake 32 = .ok (.aload_n 0, 1) := by decide +kernel
theorem dX3_stake_33 : decode cX3_stake 33 = .ok (.getfield 12, 3) := by decide +kernel
theorem dX3_stake_36 : decode cX3_stake 36 = .ok (.invokevirtual 61, 3) := by decide +kernel
theorem dX3_stake_39 : decode cX3_stake 39 = .ok (.ifCond .ne 15, 3) := by decide +kernel
theorem dX3_stake_42 : decode cX3_stake 42 = .ok (.aload_n 0, 1) := by decide +kernel
theorem dX3_stake_43 : decode cX3_stake 43 = .ok (.getfield 12, 3) := by decide +kernel
theorem dX3_stake_46 : decode cX3_stake 46 = .ok (.getfield 65, 3) := by decide +kernel
theorem dX3_stake_49 : decode cX3_stake 49 = .ok (.bipush 20, 2) := by decide +kernel
theorem dX3_stake_51 : decode cX3_stake 51 = .ok (.if_icmp .lt 6, 3) := by decide +kernel
theorem dX3_stake_54 : decode cX3_stake 54 = .ok (.bipush (-2), 2) := by decide +kernel
theorem dX3_stake_56 : decode cX3_stake 56 = .ok (.ireturn, 1) := by decide +kernel
theorem dX3_stake_57 : decode cX3_stake 57 = .ok (.aload_n 0, 1) := by decide +kernel
theorem dX3_stake_58 : decode cX3_stake 58 = .ok (.getfield 12, 3) := by decide +kernel
theorem dX3_stake_61 : decode cX3_stake 61 = .ok (.iconst 0, 1) := by decide +kernel
theorem dX3_stake_62 : decode cX3_stake 62 = .ok (.iload_n 1, 1) := by decide +kernel
theorem dX3_stake_63 : decode cX3_stake 63 = .ok (.iload_n 2, 1) := by decide +kernel
theorem dX3_stake_64 : decode cX3_stake 64 = .ok (.invokevirtual 68, 3) := by decide +kernel
theorem dX3_stake_67 : decode cX3_stake 67 = .ok (.istore 5, 2) := by decide +kernel
theorem dX3_stake_69 : decode cX3_stake 69 = .ok (.aload_n 0, 1) := by decide +kernel
theorem dX3_stake_70 : decode cX3_stake 70 = .ok (.getfield 12, 3) := by decide +kernel
theorem dX3_stake_73 : decode cX3_stake 73 = .ok (.iload 5, 2) := by decide +kernel
theorem dX3_stake_75 : decode cX3_stake 75 = .ok (.bipush 9, 2) := by decide +kernel
theorem dX3_stake_77 : decode cX3_stake 77 = .ok (.iload 5, 2) := by decide +kernel
theorem dX3_stake_79 : decode cX3_stake 79 = .ok (.invokevirtual 72, 3) := by decide +kernel
theorem dX3_stake_82 : decode cX3_stake 82 = .ok (.aload_n 0, 1) := by decide +kernel
theorem dX3_stake_83 : decode cX3_stake 83 = .ok (.getfield 12, 3) := by decide +kernel
theorem dX3_stake_86 : decode cX3_stake 86 = .ok (.iload 5, 2) := by decide +kernel
theorem dX3_stake_88 : decode cX3_stake 88 = .ok (.iconst 5, 1) := by decide +kernel
theorem dX3_stake_89 : decode cX3_stake 89 = .ok (.iload 4, 2) := by decide +kernel
theorem dX3_stake_91 : decode cX3_stake 91 = .ok (.invokevirtual 72, 3) := by decide +kernel
theorem dX3_stake_94 : decode cX3_stake 94 = .ok (.aload_n 0, 1) := by decide +kernel
theorem dX3_stake_95 : decode cX3_stake 95 = .ok (.getfield 12, 3) := by decide +kernel
theorem dX3_stake_98 : decode cX3_stake 98 = .ok (.iload 5, 2) := by decide +kernel
theorem dX3_stake_100 : decode cX3_stake 100 = .ok (.iload_n 3, 1) := by decide +kernel
theorem dX3_stake_101 : decode cX3_stake 101 = .ok (.aload_n 0, 1) := by decide +kernel
theorem dX3_stake_102 : decode cX3_stake 102 = .ok (.getfield 23, 3) := by decide +kernel
theorem dX3_stake_105 : decode cX3_stake 105 = .ok (.isub, 1) := by decide +kernel
theorem dX3_stake_106 : decode cX3_stake 106 = .ok (.iconst 0, 1) := by decide +kernel
theorem dX3_stake_107 : decode cX3_stake 107 = .ok (.invokestatic 76, 3) := by decide +kernel
theorem dX3_stake_110 : decode cX3_stake 110 = .ok (.iload_n 3, 1) := by decide +kernel
theorem dX3_stake_111 : decode cX3_stake 111 = .ok (.aload_n 0, 1) := by decide +kernel
theorem dX3_stake_112 : decode cX3_stake 112 = .ok (.getfield 23, 3) := by decide +kernel
theorem dX3_stake_115 : decode cX3_stake 115 = .ok (.iadd, 1) := by decide +kernel
theorem dX3_stake_116 : decode cX3_stake 116 = .ok (.bipush 59, 2) := by decide +kernel
theorem dX3_stake_118 : decode cX3_stake 118 = .ok (.invokestatic 82, 3) := by decide +kernel
theorem dX3_stake_121 : decode cX3_stake 121 = .ok (.invokevirtual 85, 3) := by decide +kernel
theorem dX3_stake_124 : decode cX3_stake 124 = .ok (.aload_n 0, 1) := by decide +kernel
theorem dX3_stake_125 : decode cX3_stake 125 = .ok (.getfield 12, 3) := by decide +kernel
theorem dX3_stake_128 : decode cX3_stake 128 = .ok (.dup, 1) := by decide +kernel
theorem dX3_stake_129 : decode cX3_stake 129 = .ok (.getfield 65, 3) := by decide +kernel
theorem dX3_stake_132 : decode cX3_stake 132 = .ok (.iconst 1, 1) := by decide +kernel
theorem dX3_stake_133 : decode cX3_stake 133 = .ok (.iadd, 1) := by decide +kernel
theorem dX3_stake_134 : decode cX3_stake 134 = .ok (.putfield 65, 3) := by decide +kernel
theorem dX3_stake_137 : decode cX3_stake 137 = .ok (.iload 5, 2) := by decide +kernel
theorem dX3_stake_139 : decode cX3_stake 139 = .ok (.ireturn, 1) := by decide +kernel
theorem dX3_work_0 : decode cX3_work 0 = .ok (.aload_n 0, 1) := by decide +kernel
theorem dX3_work_1 : decode cX3_work 1 = .ok (.iconst 1, 1) := by decide +kernel
theorem dX3_work_2 : decode cX3_work 2 = .ok (.iload_n 1, 1) := by decide +kernel
theorem dX3_work_3 : decode cX3_work 3 = .ok (.iload_n 2, 1) := by decide +kernel
theorem dX3_work_4 : decode cX3_work 4 = .ok (.invokevirtual 88, 3) := by decide +kernel
theorem dX3_work_7 : decode cX3_work 7 = .ok (.istore_n 3, 1) := by decide +kernel
theorem dX3_work_8 : decode cX3_work 8 = .ok (.iload_n 3, 1) := by decide +kernel
theorem dX3_work_9 : decode cX3_work 9 = .ok (.ifCond .ge 7, 3) := by decide +kernel
theorem dX3_work_12 : decode cX3_work 12 = .ok (.iload_n 3, 1) := by decide +kernel
theorem dX3_work_13 : decode cX3_work 13 = .ok (.goto 13, 3) := by decide +kernel
theorem dX3_work_16 : decode cX3_work 16 = .ok (.aload_n 0, 1) := by decide +kernel
theorem dX3_work_17 : decode cX3_work 17 = .ok (.getfield 12, 3) := by decide +kernel
theorem dX3_work_20 : decode cX3_work 20 = .ok (.iconst 1, 1) := by decide +kernel
theorem dX3_work_21 : decode cX3_work 21 = .ok (.iload_n 1, 1) := by decide +kernel
theorem dX3_work_22 : decode cX3_work 22 = .ok (.iload_n 2, 1) := by decide +kernel
theorem dX3_work_23 : decode cX3_work 23 = .ok (.invokevirtual 92, 3) := by decide +kernel
theorem dX3_work_26 : decode cX3_work 26 = .ok (.ireturn, 1) := by decide +kernel
theorem dX3_nick_0 : decode cX3_nick 0 = .ok (.aload_n 0, 1) := by decide +kernel
theorem dX3_nick_1 : decode cX3_nick 1 = .ok (.iload_n 3, 1) := by decide +kernel
theorem dX3_nick_2 : decode cX3_nick 2 = .ok (.invokestatic 58, 3) := by decide +kernel
theorem dX3_nick_5 : decode cX3_nick 5 = .ok (.iload_n 1, 1) := by decide +kernel
theorem dX3_nick_6 : decode cX3_nick 6 = .ok (.iload_n 2, 1) := by decide +kernel
theorem dX3_nick_7 : decode cX3_nick 7 = .ok (.invokevirtual 88, 3) := by decide +kernel
theorem dX3_nick_10 : decode cX3_nick 10 = .ok (.istore 4, 2) := by decide +kernel
theorem dX3_nick_12 : decode cX3_nick 12 = .ok (.iload 4, 2) := by decide +kernel
theorem dX3_nick_14 : decode cX3_nick 14 = .ok (.ifCond .ge 6, 3) := by decide +kernel
theorem dX3_nick_17 : decode cX3_nick 17 = .ok (.iload 4, 2) := by decide +kernel
theorem dX3_nick_19 : decode cX3_nick 19 = .ok (.ireturn, 1) := by decide +kernel
theorem dX3_nick_20 : decode cX3_nick 20 = .ok (.aload_n 0, 1) := by decide +kernel
theorem dX3_nick_21 : decode cX3_nick 21 = .ok (.getfield 12, 3) := by decide +kernel
theorem dX3_nick_24 : decode cX3_nick 24 = .ok (.iconst 2, 1) := by decide +kernel
theorem dX3_nick_25 : decode cX3_nick 25 = .ok (.iload_n 1, 1) := by decide +kernel
theorem dX3_nick_26 : decode cX3_nick 26 = .ok (.iload_n 2, 1) := by decide +kernel
theorem dX3_nick_27 : decode cX3_nick 27 = .ok (.invokevirtual 92, 3) := by decide +kernel
theorem dX3_nick_30 : decode cX3_nick 30 = .ok (.istore 5, 2) := by decide +kernel
theorem dX3_nick_32 : decode cX3_nick 32 = .ok (.aload_n 0, 1) := by decide +kernel
theorem dX3_nick_33 : decode cX3_nick 33 = .ok (.getfield 12, 3) := by decide +kernel
theorem dX3_nick_36 : decode cX3_nick 36 = .ok (.iload 5, 2) := by decide +kernel
theorem dX3_nick_38 : decode cX3_nick 38 = .ok (.iconst 5, 1) := by decide +kernel
theorem dX3_nick_39 : decode cX3_nick 39 = .ok (.iload_n 3, 1) := by decide +kernel
theorem dX3_nick_40 : decode cX3_nick 40 = .ok (.invokevirtual 72, 3) := by decide +kernel
theorem dX3_nick_43 : decode cX3_nick 43 = .ok (.iload 5, 2) := by decide +kernel
theorem dX3_nick_45 : decode cX3_nick 45 = .ok (.ireturn, 1) := by decide +kernel
theorem dX3_give_0 : decode cX3_give 0 = .ok (.aload_n 0, 1) := by decide +kernel
theorem dX3_give_1 : decode cX3_give 1 = .ok (.iconst 1, 1) := by decide +kernel
theorem dX3_give_2 : decode cX3_give 2 = .ok (.iload_n 1, 1) := by decide +kernel
theorem dX3_give_3 : decode cX3_give 3 = .ok (.iload_n 2, 1) := by decide +kernel
theorem dX3_give_4 : decode cX3_give 4 = .ok (.invokevirtual 88, 3) := by decide +kernel
theorem dX3_give_7 : decode cX3_give 7 = .ok (.istore_n 3, 1) := by decide +kernel
theorem dX3_give_8 : decode cX3_give 8 = .ok (.iload_n 3, 1) := by decide +kernel
theorem dX3_give_9 : decode cX3_give 9 = .ok (.ifCond .ge 7, 3) := by decide +kernel
theorem dX3_give_12 : decode cX3_give 12 = .ok (.iload_n 3, 1) := by decide +kernel
theorem dX3_give_13 : decode cX3_give 13 = .ok (.goto 13, 3) := by decide +kernel
theorem dX3_give_16 : decode cX3_give 16 = .ok (.aload_n 0, 1) := by decide +kernel
theorem dX3_give_17 : decode cX3_give 17 = .ok (.getfield 12, 3) := by decide +kernel
theorem dX3_give_20 : decode cX3_give 20 = .ok (.iconst 3, 1) := by decide +kernel
theorem dX3_give_21 : decode cX3_give 21 = .ok (.iload_n 1, 1) := by decide +kernel
theorem dX3_give_22 : decode cX3_give 22 = .ok (.iload_n 2, 1) := by decide +kernel
theorem dX3_give_23 : decode cX3_give 23 = .ok (.invokevirtual 92, 3) := by decide +kernel
theorem dX3_give_26 : decode cX3_give 26 = .ok (.ireturn, 1) := by decide +kernel
theorem dX3_view_0 : decode cX3_view 0 = .ok (.aload_n 0, 1) := by decide +kernel
theorem dX3_view_1 : decode cX3_view 1 = .ok (.iload_n 3, 1) := by decide +kernel
theorem dX3_view_2 : decode cX3_view 2 = .ok (.invokestatic 55, 3) := by decide +kernel
theorem dX3_view_5 : decode cX3_view 5 = .ok (.ifCond .eq 21, 3) := by decide +kernel
theorem dX3_view_8 : decode cX3_view 8 = .ok (.iload 4, 2) := by decide +kernel
theorem dX3_view_10 : decode cX3_view 10 = .ok (.invokestatic 55, 3) := by decide +kernel
theorem dX3_view_13 : decode cX3_view 13 = .ok (.ifCond .eq 13, 3) := by decide +kernel
theorem dX3_view_16 : decode cX3_view 16 = .ok (.iload_n 3, 1) := by decide +kernel
theorem dX3_view_17 : decode cX3_view 17 = .ok (.iload 4, 2) := by decide +kernel
theorem dX3_view_19 : decode cX3_view 19 = .ok (.if_icmp .gt 7, 3) := by decide +kernel
theorem dX3_view_22 : decode cX3_view 22 = .ok (.iconst 1, 1) := by decide +kernel
theorem dX3_view_23 : decode cX3_view 23 = .ok (.goto 4, 3) := by decide +kernel
theorem dX3_view_26 : decode cX3_view 26 = .ok (.iconst 0, 1) := by decide +kernel
theorem dX3_view_27 : decode cX3_view 27 = .ok (.iload_n 1, 1) := by decide +kernel
theorem dX3_view_28 : decode cX3_view 28 = .ok (.iload_n 2, 1) := by decide +kernel
theorem dX3_view_29 : decode cX3_view 29 = .ok (.invokevirtual 88, 3) := by decide +kernel
theorem dX3_view_32 : decode cX3_view 32 = .ok (.istore 5, 2) := by decide +kernel
theorem dX3_view_34 : decode cX3_view 34 = .ok (.iload 5, 2) := by decide +kernel
theorem dX3_view_36 : decode cX3_view 36 = .ok (.ifCond .ge 6, 3) := by decide +kernel
theorem dX3_view_39 : decode cX3_view 39 = .ok (.iload 5, 2) := by decide +kernel
theorem dX3_view_41 : decode cX3_view 41 = .ok (.ireturn, 1) := by decide +kernel
theorem dX3_view_42 : decode cX3_view 42 = .ok (.aload_n 0, 1) := by decide +kernel
theorem dX3_view_43 : decode cX3_view 43 = .ok (.getfield 12, 3) := by decide +kernel
theorem dX3_view_46 : decode cX3_view 46 = .ok (.iconst 4, 1) := by decide +kernel
theorem dX3_view_47 : decode cX3_view 47 = .ok (.iload_n 1, 1) := by decide +kernel
theorem dX3_view_48 : decode cX3_view 48 = .ok (.iload_n 2, 1) := by decide +kernel
theorem dX3_view_49 : decode cX3_view 49 = .ok (.invokevirtual 92, 3) := by decide +kernel
theorem dX3_view_52 : decode cX3_view 52 = .ok (.istore 6, 2) := by decide +kernel
theorem dX3_view_54 : decode cX3_view 54 = .ok (.aload_n 0, 1) := by decide +kernel
theorem dX3_view_55 : decode cX3_view 55 = .ok (.getfield 12, 3) := by decide +kernel
theorem dX3_view_58 : decode cX3_view 58 = .ok (.iload 6, 2) := by decide +kernel
theorem dX3_view_60 : decode cX3_view 60 = .ok (.iload_n 3, 1) := by decide +kernel
theorem dX3_view_61 : decode cX3_view 61 = .ok (.iload 4, 2) := by decide +kernel
theorem dX3_view_63 : decode cX3_view 63 = .ok (.invokevirtual 85, 3) := by decide +kernel
theorem dX3_view_66 : decode cX3_view 66 = .ok (.iload 6, 2) := by decide +kernel
theorem dX3_view_68 : decode cX3_view 68 = .ok (.ireturn, 1) := by decide +kernel
theorem dX3_sell_0 : decode cX3_sell 0 = .ok (.iload_n 3, 1) := by decide +kernel
theorem dX3_sell_1 : decode cX3_sell 1 = .ok (.invokestatic 58, 3) := by decide +kernel
theorem dX3_sell_4 : decode cX3_sell 4 = .ok (.ifCond .eq 32, 3) := by decide +kernel
theorem dX3_sell_7 : decode cX3_sell 7 = .ok (.iload 4, 2) := by decide +kernel
theorem dX3_sell_9 : decode cX3_sell 9 = .ok (.invokestatic 58, 3) := by decide +kernel
theorem dX3_sell_12 : decode cX3_sell 12 = .ok (.ifCond .eq 24, 3) := by decide +kernel
theorem dX3_sell_15 : decode cX3_sell 15 = .ok (.iload_n 3, 1) := by decide +kernel
theorem dX3_sell_16 : decode cX3_sell 16 = .ok (.iload 4, 2) := by decide +kernel
theorem dX3_sell_18 : decode cX3_sell 18 = .ok (.if_icmp .eq 18, 3) := by decide +kernel
theorem dX3_sell_21 : decode cX3_sell 21 = .ok (.iload 5, 2) := by decide +kernel
theorem dX3_sell_23 : decode cX3_sell 23 = .ok (.iconst 1, 1) := by decide +kernel
theorem dX3_sell_24 : decode cX3_sell 24 = .ok (.bipush 24, 2) := by decide +kernel
theorem dX3_sell_26 : decode cX3_sell 26 = .ok (.invokestatic 41, 3) := by decide +kernel
theorem dX3_sell_29 : decode cX3_sell 29 = .ok (.ifCond .eq 7, 3) := by decide +kernel
theorem dX3_sell_32 : decode cX3_sell 32 = .ok (.iconst 1, 1) := by decide +kernel
theorem dX3_sell_33 : decode cX3_sell 33 = .ok (.goto 4, 3) := by decide +kernel
theorem dX3_sell_36 : decode cX3_sell 36 = .ok (.iconst 0, 1) := by decide +kernel
theorem dX3_sell_37 : decode cX3_sell 37 = .ok (.istore 6, 2) := by decide +kernel
theorem dX3_sell_39 : decode cX3_sell 39 = .ok (.aload_n 0, 1) := by decide +kernel
theorem dX3_sell_40 : decode cX3_sell 40 = .ok (.iload 6, 2) := by decide +kernel
theorem dX3_sell_42 : decode cX3_sell 42 = .ok (.iload_n 1, 1) := by decide +kernel
theorem dX3_sell_43 : decode cX3_sell 43 = .ok (.iload_n 2, 1) := by decide +kernel
theorem dX3_sell_44 : decode cX3_sell 44 = .ok (.invokevirtual 88, 3) := by decide +kernel
theorem dX3_sell_47 : decode cX3_sell 47 = .ok (.istore 7, 2) := by decide +kernel
theorem dX3_sell_49 : decode cX3_sell 49 = .ok (.iload 7, 2) := by decide +kernel
theorem dX3_sell_51 : decode cX3_sell 51 = .ok (.ifCond .ge 6, 3) := by decide +kernel
theorem dX3_sell_54 : decode cX3_sell 54 = .ok (.iload 7, 2) := by decide +kernel
theorem dX3_sell_56 : decode cX3_sell 56 = .ok (.ireturn, 1) := by decide +kernel
theorem dX3_sell_57 : decode cX3_sell 57 = .ok (.aload_n 0, 1) := by decide +kernel
theorem dX3_sell_58 : decode cX3_sell 58 = .ok (.getfield 12, 3) := by decide +kernel
theorem dX3_sell_61 : decode cX3_sell 61 = .ok (.iconst 5, 1) := by decide +kernel
theorem dX3_sell_62 : decode cX3_sell 62 = .ok (.iload_n 1, 1) := by decide +kernel
theorem dX3_sell_63 : decode cX3_sell 63 = .ok (.iload_n 2, 1) := by decide +kernel
theorem dX3_sell_64 : decode cX3_sell 64 = .ok (.invokevirtual 92, 3) := by decide +kernel
theorem dX3_sell_67 : decode cX3_sell 67 = .ok (.istore 8, 2) := by decide +kernel
theorem dX3_sell_69 : decode cX3_sell 69 = .ok (.aload_n 0, 1) := by decide +kernel
theorem dX3_sell_70 : decode cX3_sell 70 = .ok (.getfield 12, 3) := by decide +kernel
theorem dX3_sell_73 : decode cX3_sell 73 = .ok (.iload 8, 2) := by decide +kernel
theorem dX3_sell_75 : decode cX3_sell 75 = .ok (.iconst 5, 1) := by decide +kernel
theorem dX3_sell_76 : decode cX3_sell 76 = .ok (.iload_n 3, 1) := by decide +kernel
theorem dX3_sell_77 : decode cX3_sell 77 = .ok (.invokevirtual 72, 3) := by decide +kernel
theorem dX3_sell_80 : decode cX3_sell 80 = .ok (.aload_n 0, 1) := by decide +kernel
theorem dX3_sell_81 : decode cX3_sell 81 = .ok (.getfield 12, 3) := by decide +kernel
theorem dX3_sell_84 : decode cX3_sell 84 = .ok (.iload 8, 2) := by decide +kernel
theorem dX3_sell_86 : decode cX3_sell 86 = .ok (.bipush 10, 2) := by decide +kernel
theorem dX3_sell_88 : decode cX3_sell 88 = .ok (.iload 4, 2) := by decide +kernel
theorem dX3_sell_90 : decode cX3_sell 90 = .ok (.invokevirtual 72, 3) := by decide +kernel
theorem dX3_sell_93 : decode cX3_sell 93 = .ok (.aload_n 0, 1) := by decide +kernel
theorem dX3_sell_94 : decode cX3_sell 94 = .ok (.getfield 12, 3) := by decide +kernel
theorem dX3_sell_97 : decode cX3_sell 97 = .ok (.iload 8, 2) := by decide +kernel
theorem dX3_sell_99 : decode cX3_sell 99 = .ok (.bipush 8, 2) := by decide +kernel
theorem dX3_sell_101 : decode cX3_sell 101 = .ok (.iload 5, 2) := by decide +kernel
theorem dX3_sell_103 : decode cX3_sell 103 = .ok (.invokevirtual 72, 3) := by decide +kernel
theorem dX3_sell_106 : decode cX3_sell 106 = .ok (.iload 8, 2) := by decide +kernel
theorem dX3_sell_108 : decode cX3_sell 108 = .ok (.ireturn, 1) := by decide +kernel
theorem dX3_dig_0 : decode cX3_dig 0 = .ok (.aload_n 0, 1) := by decide +kernel
theorem dX3_dig_1 : decode cX3_dig 1 = .ok (.iload_n 1, 1) := by decide +kernel
theorem dX3_dig_2 : decode cX3_dig 2 = .ok (.invokevirtual 48, 3) := by decide +kernel
theorem dX3_dig_5 : decode cX3_dig 5 = .ok (.ifCond .eq 29, 3) := by decide +kernel
theorem dX3_dig_8 : decode cX3_dig 8 = .ok (.iload_n 2, 1) := by decide +kernel
theorem dX3_dig_9 : decode cX3_dig 9 = .ok (.invokestatic 52, 3) := by decide +kernel
theorem dX3_dig_12 : decode cX3_dig 12 = .ok (.ifCond .eq 22, 3) := by decide +kernel
theorem dX3_dig_15 : decode cX3_dig 15 = .ok (.iload_n 3, 1) := by decide +kernel
theorem dX3_dig_16 : decode cX3_dig 16 = .ok (.invokestatic 55, 3) := by decide +kernel
theorem dX3_dig_19 : decode cX3_dig 19 = .ok (.ifCond .eq 15, 3) := by decide +kernel
theorem dX3_dig_22 : decode cX3_dig 22 = .ok (.iload 4, 2) := by decide +kernel
theorem dX3_dig_24 : decode cX3_dig 24 = .ok (.iconst 1, 1) := by decide +kernel
theorem dX3_dig_25 : decode cX3_dig 25 = .ok (.sipush 1000, 3) := by decide +kernel
theorem dX3_dig_28 : decode cX3_dig 28 = .ok (.invokestatic 41, 3) := by decide +kernel
theorem dX3_dig_31 : decode cX3_dig 31 = .ok (.ifCond .ne 5, 3) := by decide +kernel
theorem dX3_dig_34 : decode cX3_dig 34 = .ok (.iconst (-1), 1) := by decide +kernel
theorem dX3_dig_35 : decode cX3_dig 35 = .ok (.ireturn, 1) := by decide +kernel
theorem dX3_dig_36 : decode cX3_dig 36 = .ok (.aload_n 0, 1) := by decide +kernel
theorem dX3_dig_37 : decode cX3_dig 37 = .ok (.getfield 12, 3) := by decide +kernel
theorem dX3_dig_40 : decode cX3_dig 40 = .ok (.invokevirtual 61, 3) := by decide +kernel
theorem dX3_dig_43 : decode cX3_dig 43 = .ok (.ifCond .eq 6, 3) := by decide +kernel
theorem dX3_dig_46 : decode cX3_dig 46 = .ok (.bipush (-2), 2) := by decide +kernel
theorem dX3_dig_48 : decode cX3_dig 48 = .ok (.ireturn, 1) := by decide +kernel
theorem dX3_dig_49 : decode cX3_dig 49 = .ok (.aload_n 0, 1) := by decide +kernel
theorem dX3_dig_50 : decode cX3_dig 50 = .ok (.getfield 12, 3) := by decide +kernel
theorem dX3_dig_53 : decode cX3_dig 53 = .ok (.bipush 6, 2) := by decide +kernel
theorem dX3_dig_55 : decode cX3_dig 55 = .ok (.iload_n 1, 1) := by decide +kernel
theorem dX3_dig_56 : decode cX3_dig 56 = .ok (.iload_n 2, 1) := by decide +kernel
theorem dX3_dig_57 : decode cX3_dig 57 = .ok (.invokevirtual 68, 3) := by decide +kernel
theorem dX3_dig_60 : decode cX3_dig 60 = .ok (.istore 5, 2) := by decide +kernel
theorem dX3_dig_62 : decode cX3_dig 62 = .ok (.aload_n 0, 1) := by decide +kernel
theorem dX3_dig_63 : decode cX3_dig 63 = .ok (.getfield 12, 3) := by decide +kernel
theorem dX3_dig_66 : decode cX3_dig 66 = .ok (.iload 5, 2) := by decide +kernel
theorem dX3_dig_68 : decode cX3_dig 68 = .ok (.iload_n 3, 1) := by decide +kernel
theorem dX3_dig_69 : decode cX3_dig 69 = .ok (.iload_n 3, 1) := by decide +kernel
theorem dX3_dig_70 : decode cX3_dig 70 = .ok (.invokevirtual 85, 3) := by decide +kernel
theorem dX3_dig_73 : decode cX3_dig 73 = .ok (.aload_n 0, 1) := by decide +kernel
theorem dX3_dig_74 : decode cX3_dig 74 = .ok (.getfield 12, 3) := by decide +kernel
theorem dX3_dig_77 : decode cX3_dig 77 = .ok (.iload 5, 2) := by decide +kernel
theorem dX3_dig_79 : decode cX3_dig 79 = .ok (.bipush 8, 2) := by decide +kernel
theorem dX3_dig_81 : decode cX3_dig 81 = .ok (.iload 4, 2) := by decide +kernel
theorem dX3_dig_83 : decode cX3_dig 83 = .ok (.invokevirtual 72, 3) := by decide +kernel
theorem dX3_dig_86 : decode cX3_dig 86 = .ok (.iload 5, 2) := by decide +kernel
theorem dX3_dig_88 : decode cX3_dig 88 = .ok (.ireturn, 1) := by decide +kernel
theorem dX3_withdraw_0 : decode cX3_withdraw 0 = .ok (.aload_n 0, 1) := by decide +kernel
theorem dX3_withdraw_1 : decode cX3_withdraw 1 = .ok (.getfield 12, 3) := by decide +kernel
theorem dX3_withdraw_4 : decode cX3_withdraw 4 = .ok (.iload_n 1, 1) := by decide +kernel
theorem dX3_withdraw_5 : decode cX3_withdraw 5 = .ok (.invokevirtual 95, 3) := by decide +kernel
theorem dX3_withdraw_8 : decode cX3_withdraw 8 = .ok (.ifCond .ne 5, 3) := by decide +kernel
theorem dX3_withdraw_11 : decode cX3_withdraw 11 = .ok (.iconst (-1), 1) := by decide +kernel
theorem dX3_withdraw_12 : decode cX3_withdraw 12 = .ok (.ireturn, 1) := by decide +kernel
theorem dX3_withdraw_13 : decode cX3_withdraw 13 = .ok (.aload_n 0, 1) := by decide +kernel
theorem dX3_withdraw_14 : decode cX3_withdraw 14 = .ok (.getfield 12, 3) := by decide +kernel
theorem dX3_withdraw_17 : decode cX3_withdraw 17 = .ok (.iload_n 1, 1) := by decide +kernel
theorem dX3_withdraw_18 : decode cX3_withdraw 18 = .ok (.invokevirtual 98, 3) := by decide +kernel
theorem dX3_withdraw_21 : decode cX3_withdraw 21 = .ok (.ifCond .eq 6, 3) := by decide +kernel
theorem dX3_withdraw_24 : decode cX3_withdraw 24 = .ok (.bipush (-5), 2) := by decide +kernel
theorem dX3_withdraw_26 : decode cX3_withdraw 26 = .ok (.ireturn, 1) := by decide +kernel
theorem dX3_withdraw_27 : decode cX3_withdraw 27 = .ok (.aload_n 0, 1) := by decide +kernel
theorem dX3_withdraw_28 : decode cX3_withdraw 28 = .ok (.getfield 12, 3) := by decide +kernel
theorem dX3_withdraw_31 : decode cX3_withdraw 31 = .ok (.iload_n 1, 1) := by decide +kernel
theorem dX3_withdraw_32 : decode cX3_withdraw 32 = .ok (.iconst 3, 1) := by decide +kernel
theorem dX3_withdraw_33 : decode cX3_withdraw 33 = .ok (.aload_n 0, 1) := by decide +kernel
theorem dX3_withdraw_34 : decode cX3_withdraw 34 = .ok (.getfield 12, 3) := by decide +kernel
theorem dX3_withdraw_37 : decode cX3_withdraw 37 = .ok (.getfield 45, 3) := by decide +kernel
theorem dX3_withdraw_40 : decode cX3_withdraw 40 = .ok (.invokevirtual 72, 3) := by decide +kernel
theorem dX3_withdraw_43 : decode cX3_withdraw 43 = .ok (.iconst 1, 1) := by decide +kernel
theorem dX3_withdraw_44 : decode cX3_withdraw 44 = .ok (.ireturn, 1) := by decide +kernel
theorem dX3_fact_0 : decode cX3_fact 0 = .ok (.aload_n 0, 1) := by decide +kernel
theorem dX3_fact_1 : decode cX3_fact 1 = .ok (.getfield 12, 3) := by decide +kernel
theorem dX3_fact_4 : decode cX3_fact 4 = .ok (.iload_n 1, 1) := by decide +kernel
theorem dX3_fact_5 : decode cX3_fact 5 = .ok (.invokevirtual 95, 3) := by decide +kernel
theorem dX3_fact_8 : decode cX3_fact 8 = .ok (.ifCond .eq 13, 3) := by decide +kernel
theorem dX3_fact_11 : decode cX3_fact 11 = .ok (.iload_n 2, 1) := by decide +kernel
theorem dX3_fact_12 : decode cX3_fact 12 = .ok (.iconst 0, 1) := by decide +kernel
theorem dX3_fact_13 : decode cX3_fact 13 = .ok (.bipush 9, 2) := by decide +kernel
theorem dX3_fact_15 : decode cX3_fact 15 = .ok (.invokestatic 41, 3) := by decide +kernel
theorem dX3_fact_18 : decode cX3_fact 18 = .ok (.ifCond .ne 5, 3) := by decide +kernel
theorem dX3_fact_21 : decode cX3_fact 21 = .ok (.iconst (-1), 1) := by decide +kernel
theorem dX3_fact_22 : decode cX3_fact 22 = .ok (.ireturn, 1) := by decide +kernel
theorem dX3_fact_23 : decode cX3_fact 23 = .ok (.aload_n 0, 1) := by decide +kernel
theorem dX3_fact_24 : decode cX3_fact 24 = .ok (.getfield 12, 3) := by decide +kernel
theorem dX3_fact_27 : decode cX3_fact 27 = .ok (.iload_n 1, 1) := by decide +kernel
theorem dX3_fact_28 : decode cX3_fact 28 = .ok (.iload_n 2, 1) := by decide +kernel
theorem dX3_fact_29 : decode cX3_fact 29 = .ok (.invokevirtual 101, 3) := by decide +kernel
theorem dX3_fact_32 : decode cX3_fact 32 = .ok (.ireturn, 1) := by decide +kernel
theorem dX3_owner_0 : decode cX3_owner 0 = .ok (.iload_n 1, 1) := by decide +kernel
theorem dX3_owner_1 : decode cX3_owner 1 = .ok (.invokestatic 52, 3) := by decide +kernel
theorem dX3_owner_4 : decode cX3_owner 4 = .ok (.ifCond .eq 19, 3) := by decide +kernel
theorem dX3_owner_7 : decode cX3_owner 7 = .ok (.iload_n 2, 1) := by decide +kernel
theorem dX3_owner_8 : decode cX3_owner 8 = .ok (.invokestatic 55, 3) := by decide +kernel
theorem dX3_owner_11 : decode cX3_owner 11 = .ok (.ifCond .eq 12, 3) := by decide +kernel
theorem dX3_owner_14 : decode cX3_owner 14 = .ok (.iload_n 3, 1) := by decide +kernel
theorem dX3_owner_15 : decode cX3_owner 15 = .ok (.iload 4, 2) := by decide +kernel
theorem dX3_owner_17 : decode cX3_owner 17 = .ok (.invokestatic 104, 3) := by decide +kernel
theorem dX3_owner_20 : decode cX3_owner 20 = .ok (.ifCond .ne 5, 3) := by decide +kernel
theorem dX3_owner_23 : decode cX3_owner 23 = .ok (.iconst (-1), 1) := by decide +kernel
theorem dX3_owner_24 : decode cX3_owner 24 = .ok (.ireturn, 1) := by decide +kernel
theorem dX3_owner_25 : decode cX3_owner 25 = .ok (.aload_n 0, 1) := by decide +kernel
theorem dX3_owner_26 : decode cX3_owner 26 = .ok (.iload_n 3, 1) := by decide +kernel
theorem dX3_owner_27 : decode cX3_owner 27 = .ok (.iload 4, 2) := by decide +kernel
theorem dX3_owner_29 : decode cX3_owner 29 = .ok (.invokevirtual 108, 3) := by decide +kernel
theorem dX3_owner_32 : decode cX3_owner 32 = .ok (.aload_n 0, 1) := by decide +kernel
theorem dX3_owner_33 : decode cX3_owner 33 = .ok (.getfield 33, 3) := by decide +kernel
theorem dX3_owner_36 : decode cX3_owner 36 = .ok (.iload_n 1, 1) := by decide +kernel
theorem dX3_owner_37 : decode cX3_owner 37 = .ok (.iload_n 2, 1) := by decide +kernel
theorem dX3_owner_38 : decode cX3_owner 38 = .ok (.invokevirtual 112, 3) := by decide +kernel
theorem dX3_owner_41 : decode cX3_owner 41 = .ok (.ireturn, 1) := by decide +kernel
theorem dX3_claim_0 : decode cX3_claim 0 = .ok (.iload_n 1, 1) := by decide +kernel
theorem dX3_claim_1 : decode cX3_claim 1 = .ok (.invokestatic 52, 3) := by decide +kernel
theorem dX3_claim_4 : decode cX3_claim 4 = .ok (.ifCond .eq 19, 3) := by decide +kernel
theorem dX3_claim_7 : decode cX3_claim 7 = .ok (.iload_n 2, 1) := by decide +kernel
theorem dX3_claim_8 : decode cX3_claim 8 = .ok (.invokestatic 55, 3) := by decide +kernel
theorem dX3_claim_11 : decode cX3_claim 11 = .ok (.ifCond .eq 12, 3) := by decide +kernel
theorem dX3_claim_14 : decode cX3_claim 14 = .ok (.iload_n 3, 1) := by decide +kernel
theorem dX3_claim_15 : decode cX3_claim 15 = .ok (.iload 4, 2) := by decide +kernel
theorem dX3_claim_17 : decode cX3_claim 17 = .ok (.invokestatic 104, 3) := by decide +kernel
theorem dX3_claim_20 : decode cX3_claim 20 = .ok (.ifCond .ne 5, 3) := by decide +kernel
theorem dX3_claim_23 : decode cX3_claim 23 = .ok (.iconst (-1), 1) := by decide +kernel
theorem dX3_claim_24 : decode cX3_claim 24 = .ok (.ireturn, 1) := by decide +kernel
theorem dX3_claim_25 : decode cX3_claim 25 = .ok (.aload_n 0, 1) := by decide +kernel
theorem dX3_claim_26 : decode cX3_claim 26 = .ok (.iload_n 3, 1) := by decide +kernel
theorem dX3_claim_27 : decode cX3_claim 27 = .ok (.iload 4, 2) := by decide +kernel
theorem dX3_claim_29 : decode cX3_claim 29 = .ok (.invokevirtual 108, 3) := by decide +kernel
theorem dX3_claim_32 : decode cX3_claim 32 = .ok (.aload_n 0, 1) := by decide +kernel
theorem dX3_claim_33 : decode cX3_claim 33 = .ok (.getfield 33, 3) := by decide +kernel
theorem dX3_claim_36 : decode cX3_claim 36 = .ok (.iload_n 1, 1) := by decide +kernel
theorem dX3_claim_37 : decode cX3_claim 37 = .ok (.iload_n 2, 1) := by decide +kernel
end
section
theorem dX3_claim_38 : decode cX3_claim 38 = .ok (.invokevirtual 115, 3) := by decide +kernel
theorem dX3_claim_41 : decode cX3_claim 41 = .ok (.astore 5, 2) := by decide +kernel
theorem dX3_claim_43 : decode cX3_claim 43 = .ok (.aload 5, 2) := by decide +kernel
theorem dX3_claim_45 : decode cX3_claim 45 = .ok (.ifnonnull 8, 3) := by decide +kernel
theorem dX3_claim_48 : decode cX3_claim 48 = .ok (.bipush (-4), 2) := by decide +kernel
theorem dX3_claim_50 : decode cX3_claim 50 = .ok (.goto 8, 3) := by decide +kernel
theorem dX3_claim_53 : decode cX3_claim 53 = .ok (.aload 5, 2) := by decide +kernel
theorem dX3_claim_55 : decode cX3_claim 55 = .ok (.getfield 119, 3) := by decide +kernel
theorem dX3_claim_58 : decode cX3_claim 58 = .ok (.ireturn, 1) := by decide +kernel
theorem dX3_of_0 : decode cX3_of 0 = .ok (.aload_n 0, 1) := by decide +kernel
theorem dX3_of_1 : decode cX3_of 1 = .ok (.getfield 12, 3) := by decide +kernel
theorem dX3_of_4 : decode cX3_of 4 = .ok (.iload_n 1, 1) := by decide +kernel
theorem dX3_of_5 : decode cX3_of 5 = .ok (.invokevirtual 95, 3) := by decide +kernel
theorem dX3_of_8 : decode cX3_of 8 = .ok (.ifCond .eq 22, 3) := by decide +kernel
theorem dX3_of_11 : decode cX3_of 11 = .ok (.iload_n 3, 1) := by decide +kernel
theorem dX3_of_12 : decode cX3_of 12 = .ok (.iload 4, 2) := by decide +kernel
theorem dX3_of_14 : decode cX3_of 14 = .ok (.invokestatic 104, 3) := by decide +kernel
theorem dX3_of_17 : decode cX3_of 17 = .ok (.ifCond .eq 13, 3) := by decide +kernel
theorem dX3_of_20 : decode cX3_of 20 = .ok (.iload_n 2, 1) := by decide +kernel
theorem dX3_of_21 : decode cX3_of 21 = .ok (.iconst 0, 1) := by decide +kernel
theorem dX3_of_22 : decode cX3_of 22 = .ok (.bipush 6, 2) := by decide +kernel
theorem dX3_of_24 : decode cX3_of 24 = .ok (.invokestatic 41, 3) := by decide +kernel
theorem dX3_of_27 : decode cX3_of 27 = .ok (.ifCond .ne 5, 3) := by decide +kernel
theorem dX3_of_30 : decode cX3_of 30 = .ok (.iconst (-1), 1) := by decide +kernel
theorem dX3_of_31 : decode cX3_of 31 = .ok (.ireturn, 1) := by decide +kernel
theorem dX3_of_32 : decode cX3_of 32 = .ok (.aload_n 0, 1) := by decide +kernel
theorem dX3_of_33 : decode cX3_of 33 = .ok (.getfield 12, 3) := by decide +kernel
theorem dX3_of_36 : decode cX3_of 36 = .ok (.iload_n 1, 1) := by decide +kernel
theorem dX3_of_37 : decode cX3_of 37 = .ok (.invokevirtual 124, 3) := by decide +kernel
theorem dX3_of_40 : decode cX3_of 40 = .ok (.ifCond .ne 6, 3) := by decide +kernel
theorem dX3_of_43 : decode cX3_of 43 = .ok (.bipush (-3), 2) := by decide +kernel
theorem dX3_of_45 : decode cX3_of 45 = .ok (.ireturn, 1) := by decide +kernel
theorem dX3_of_46 : decode cX3_of 46 = .ok (.aload_n 0, 1) := by decide +kernel
theorem dX3_of_47 : decode cX3_of 47 = .ok (.iload_n 3, 1) := by decide +kernel
theorem dX3_of_48 : decode cX3_of 48 = .ok (.iload 4, 2) := by decide +kernel
theorem dX3_of_50 : decode cX3_of 50 = .ok (.invokevirtual 108, 3) := by decide +kernel
theorem dX3_of_53 : decode cX3_of 53 = .ok (.aload_n 0, 1) := by decide +kernel
theorem dX3_of_54 : decode cX3_of 54 = .ok (.getfield 33, 3) := by decide +kernel
theorem dX3_of_57 : decode cX3_of 57 = .ok (.iload_n 1, 1) := by decide +kernel
theorem dX3_of_58 : decode cX3_of 58 = .ok (.invokevirtual 127, 3) := by decide +kernel
theorem dX3_of_61 : decode cX3_of 61 = .ok (.astore 5, 2) := by decide +kernel
theorem dX3_of_63 : decode cX3_of 63 = .ok (.aload 5, 2) := by decide +kernel
theorem dX3_of_65 : decode cX3_of 65 = .ok (.ifnonnull 8, 3) := by decide +kernel
theorem dX3_of_68 : decode cX3_of 68 = .ok (.bipush (-4), 2) := by decide +kernel
theorem dX3_of_70 : decode cX3_of 70 = .ok (.goto 11, 3) := by decide +kernel
theorem dX3_of_73 : decode cX3_of 73 = .ok (.aload_n 0, 1) := by decide +kernel
theorem dX3_of_74 : decode cX3_of 74 = .ok (.aload 5, 2) := by decide +kernel
theorem dX3_of_76 : decode cX3_of 76 = .ok (.iload_n 2, 1) := by decide +kernel
theorem dX3_of_77 : decode cX3_of 77 = .ok (.iload_n 3, 1) := by decide +kernel
theorem dX3_of_78 : decode cX3_of 78 = .ok (.invokevirtual 131, 3) := by decide +kernel
theorem dX3_of_81 : decode cX3_of 81 = .ok (.ireturn, 1) := by decide +kernel
theorem dX3_share_0 : decode cX3_share 0 = .ok (.aload_n 0, 1) := by decide +kernel
theorem dX3_share_1 : decode cX3_share 1 = .ok (.getfield 12, 3) := by decide +kernel
theorem dX3_share_4 : decode cX3_share 4 = .ok (.iload_n 1, 1) := by decide +kernel
theorem dX3_share_5 : decode cX3_share 5 = .ok (.invokevirtual 95, 3) := by decide +kernel
theorem dX3_share_8 : decode cX3_share 8 = .ok (.ifCond .eq 19, 3) := by decide +kernel
theorem dX3_share_11 : decode cX3_share 11 = .ok (.iload_n 2, 1) := by decide +kernel
theorem dX3_share_12 : decode cX3_share 12 = .ok (.invokestatic 58, 3) := by decide +kernel
theorem dX3_share_15 : decode cX3_share 15 = .ok (.ifCond .eq 12, 3) := by decide +kernel
theorem dX3_share_18 : decode cX3_share 18 = .ok (.iload_n 3, 1) := by decide +kernel
theorem dX3_share_19 : decode cX3_share 19 = .ok (.iload 4, 2) := by decide +kernel
theorem dX3_share_21 : decode cX3_share 21 = .ok (.invokestatic 104, 3) := by decide +kernel
theorem dX3_share_24 : decode cX3_share 24 = .ok (.ifCond .ne 5, 3) := by decide +kernel
theorem dX3_share_27 : decode cX3_share 27 = .ok (.iconst (-1), 1) := by decide +kernel
theorem dX3_share_28 : decode cX3_share 28 = .ok (.ireturn, 1) := by decide +kernel
theorem dX3_share_29 : decode cX3_share 29 = .ok (.aload_n 0, 1) := by decide +kernel
theorem dX3_share_30 : decode cX3_share 30 = .ok (.getfield 12, 3) := by decide +kernel
theorem dX3_share_33 : decode cX3_share 33 = .ok (.iload_n 1, 1) := by decide +kernel
theorem dX3_share_34 : decode cX3_share 34 = .ok (.invokevirtual 124, 3) := by decide +kernel
theorem dX3_share_37 : decode cX3_share 37 = .ok (.ifCond .ne 6, 3) := by decide +kernel
theorem dX3_share_40 : decode cX3_share 40 = .ok (.bipush (-3), 2) := by decide +kernel
theorem dX3_share_42 : decode cX3_share 42 = .ok (.ireturn, 1) := by decide +kernel
theorem dX3_share_43 : decode cX3_share 43 = .ok (.aload_n 0, 1) := by decide +kernel
theorem dX3_share_44 : decode cX3_share 44 = .ok (.iload_n 3, 1) := by decide +kernel
theorem dX3_share_45 : decode cX3_share 45 = .ok (.iload 4, 2) := by decide +kernel
theorem dX3_share_47 : decode cX3_share 47 = .ok (.invokevirtual 108, 3) := by decide +kernel
theorem dX3_share_50 : decode cX3_share 50 = .ok (.aload_n 0, 1) := by decide +kernel
theorem dX3_share_51 : decode cX3_share 51 = .ok (.getfield 33, 3) := by decide +kernel
theorem dX3_share_54 : decode cX3_share 54 = .ok (.iload_n 1, 1) := by decide +kernel
theorem dX3_share_55 : decode cX3_share 55 = .ok (.invokevirtual 127, 3) := by decide +kernel
theorem dX3_share_58 : decode cX3_share 58 = .ok (.astore 5, 2) := by decide +kernel
theorem dX3_share_60 : decode cX3_share 60 = .ok (.aload 5, 2) := by decide +kernel
theorem dX3_share_62 : decode cX3_share 62 = .ok (.ifnonnull 8, 3) := by decide +kernel
theorem dX3_share_65 : decode cX3_share 65 = .ok (.bipush (-4), 2) := by decide +kernel
theorem dX3_share_67 : decode cX3_share 67 = .ok (.goto 10, 3) := by decide +kernel
theorem dX3_share_70 : decode cX3_share 70 = .ok (.aload 5, 2) := by decide +kernel
theorem dX3_share_72 : decode cX3_share 72 = .ok (.getfield 135, 3) := by decide +kernel
theorem dX3_share_75 : decode cX3_share 75 = .ok (.iload_n 2, 1) := by decide +kernel
theorem dX3_share_76 : decode cX3_share 76 = .ok (.iaload, 1) := by decide +kernel
theorem dX3_share_77 : decode cX3_share 77 = .ok (.ireturn, 1) := by decide +kernel
theorem dX3_feet_0 : decode cX3_feet 0 = .ok (.iload_n 1, 1) := by decide +kernel
theorem dX3_feet_1 : decode cX3_feet 1 = .ok (.invokestatic 58, 3) := by decide +kernel
theorem dX3_feet_4 : decode cX3_feet 4 = .ok (.ifCond .eq 11, 3) := by decide +kernel
theorem dX3_feet_7 : decode cX3_feet 7 = .ok (.iload_n 2, 1) := by decide +kernel
theorem dX3_feet_8 : decode cX3_feet 8 = .ok (.iload_n 3, 1) := by decide +kernel
theorem dX3_feet_9 : decode cX3_feet 9 = .ok (.invokestatic 104, 3) := by decide +kernel
theorem dX3_feet_12 : decode cX3_feet 12 = .ok (.ifCond .ne 5, 3) := by decide +kernel
theorem dX3_feet_15 : decode cX3_feet 15 = .ok (.iconst (-1), 1) := by decide +kernel
theorem dX3_feet_16 : decode cX3_feet 16 = .ok (.ireturn, 1) := by decide +kernel
theorem dX3_feet_17 : decode cX3_feet 17 = .ok (.aload_n 0, 1) := by decide +kernel
theorem dX3_feet_18 : decode cX3_feet 18 = .ok (.iload_n 2, 1) := by decide +kernel
theorem dX3_feet_19 : decode cX3_feet 19 = .ok (.iload_n 3, 1) := by decide +kernel
theorem dX3_feet_20 : decode cX3_feet 20 = .ok (.invokevirtual 108, 3) := by decide +kernel
theorem dX3_feet_23 : decode cX3_feet 23 = .ok (.iconst 0, 1) := by decide +kernel
theorem dX3_feet_24 : decode cX3_feet 24 = .ok (.istore 4, 2) := by decide +kernel
theorem dX3_feet_26 : decode cX3_feet 26 = .ok (.iconst 0, 1) := by decide +kernel
theorem dX3_feet_27 : decode cX3_feet 27 = .ok (.istore 5, 2) := by decide +kernel
theorem dX3_feet_29 : decode cX3_feet 29 = .ok (.iload 5, 2) := by decide +kernel
theorem dX3_feet_31 : decode cX3_feet 31 = .ok (.iconst 4, 1) := by decide +kernel
theorem dX3_feet_32 : decode cX3_feet 32 = .ok (.if_icmp .ge 43, 3) := by decide +kernel
theorem dX3_feet_35 : decode cX3_feet 35 = .ok (.iconst 0, 1) := by decide +kernel
theorem dX3_feet_36 : decode cX3_feet 36 = .ok (.istore 6, 2) := by decide +kernel
theorem dX3_feet_38 : decode cX3_feet 38 = .ok (.iload 6, 2) := by decide +kernel
theorem dX3_feet_40 : decode cX3_feet 40 = .ok (.bipush 60, 2) := by decide +kernel
theorem dX3_feet_42 : decode cX3_feet 42 = .ok (.if_icmp .ge 27, 3) := by decide +kernel
theorem dX3_feet_45 : decode cX3_feet 45 = .ok (.aload_n 0, 1) := by decide +kernel
theorem dX3_feet_46 : decode cX3_feet 46 = .ok (.getfield 33, 3) := by decide +kernel
theorem dX3_feet_49 : decode cX3_feet 49 = .ok (.iload 5, 2) := by decide +kernel
theorem dX3_feet_51 : decode cX3_feet 51 = .ok (.iload 6, 2) := by decide +kernel
theorem dX3_feet_53 : decode cX3_feet 53 = .ok (.invokevirtual 112, 3) := by decide +kernel
theorem dX3_feet_56 : decode cX3_feet 56 = .ok (.iload_n 1, 1) := by decide +kernel
theorem dX3_feet_57 : decode cX3_feet 57 = .ok (.if_icmp .ne 6, 3) := by decide +kernel
theorem dX3_feet_60 : decode cX3_feet 60 = .ok (.iinc 4 1, 3) := by decide +kernel
theorem dX3_feet_63 : decode cX3_feet 63 = .ok (.iinc 6 1, 3) := by decide +kernel
theorem dX3_feet_66 : decode cX3_feet 66 = .ok (.goto (-28), 3) := by decide +kernel
theorem dX3_feet_69 : decode cX3_feet 69 = .ok (.iinc 5 1, 3) := by decide +kernel
theorem dX3_feet_72 : decode cX3_feet 72 = .ok (.goto (-43), 3) := by decide +kernel
theorem dX3_feet_75 : decode cX3_feet 75 = .ok (.iload 4, 2) := by decide +kernel
theorem dX3_feet_77 : decode cX3_feet 77 = .ok (.ireturn, 1) := by decide +kernel
theorem dX3_contested_0 : decode cX3_contested 0 = .ok (.iload_n 1, 1) := by decide +kernel
theorem dX3_contested_1 : decode cX3_contested 1 = .ok (.invokestatic 52, 3) := by decide +kernel
theorem dX3_contested_4 : decode cX3_contested 4 = .ok (.ifCond .eq 11, 3) := by decide +kernel
theorem dX3_contested_7 : decode cX3_contested 7 = .ok (.iload_n 2, 1) := by decide +kernel
theorem dX3_contested_8 : decode cX3_contested 8 = .ok (.iload_n 3, 1) := by decide +kernel
theorem dX3_contested_9 : decode cX3_contested 9 = .ok (.invokestatic 104, 3) := by decide +kernel
theorem dX3_contested_12 : decode cX3_contested 12 = .ok (.ifCond .ne 5, 3) := by decide +kernel
theorem dX3_contested_15 : decode cX3_contested 15 = .ok (.iconst (-1), 1) := by decide +kernel
theorem dX3_contested_16 : decode cX3_contested 16 = .ok (.ireturn, 1) := by decide +kernel
theorem dX3_contested_17 : decode cX3_contested 17 = .ok (.aload_n 0, 1) := by decide +kernel
theorem dX3_contested_18 : decode cX3_contested 18 = .ok (.iload_n 2, 1) := by decide +kernel
theorem dX3_contested_19 : decode cX3_contested 19 = .ok (.iload_n 3, 1) := by decide +kernel
theorem dX3_contested_20 : decode cX3_contested 20 = .ok (.invokevirtual 108, 3) := by decide +kernel
theorem dX3_contested_23 : decode cX3_contested 23 = .ok (.iconst 0, 1) := by decide +kernel
theorem dX3_contested_24 : decode cX3_contested 24 = .ok (.istore 4, 2) := by decide +kernel
theorem dX3_contested_26 : decode cX3_contested 26 = .ok (.iconst 0, 1) := by decide +kernel
theorem dX3_contested_27 : decode cX3_contested 27 = .ok (.istore 5, 2) := by decide +kernel
theorem dX3_contested_29 : decode cX3_contested 29 = .ok (.iload 5, 2) := by decide +kernel
theorem dX3_contested_31 : decode cX3_contested 31 = .ok (.bipush 60, 2) := by decide +kernel
theorem dX3_contested_33 : decode cX3_contested 33 = .ok (.if_icmp .ge 26, 3) := by decide +kernel
theorem dX3_contested_36 : decode cX3_contested 36 = .ok (.aload_n 0, 1) := by decide +kernel
theorem dX3_contested_37 : decode cX3_contested 37 = .ok (.getfield 33, 3) := by decide +kernel
theorem dX3_contested_40 : decode cX3_contested 40 = .ok (.iload_n 1, 1) := by decide +kernel
theorem dX3_contested_41 : decode cX3_contested 41 = .ok (.iload 5, 2) := by decide +kernel
theorem dX3_contested_43 : decode cX3_contested 43 = .ok (.invokevirtual 138, 3) := by decide +kernel
theorem dX3_contested_46 : decode cX3_contested 46 = .ok (.iconst 2, 1) := by decide +kernel
theorem dX3_contested_47 : decode cX3_contested 47 = .ok (.if_icmp .lt 6, 3) := by decide +kernel
theorem dX3_contested_50 : decode cX3_contested 50 = .ok (.iinc 4 1, 3) := by decide +kernel
theorem dX3_contested_53 : decode cX3_contested 53 = .ok (.iinc 5 1, 3) := by decide +kernel
theorem dX3_contested_56 : decode cX3_contested 56 = .ok (.goto (-27), 3) := by decide +kernel
theorem dX3_contested_59 : decode cX3_contested 59 = .ok (.iload 4, 2) := by decide +kernel
theorem dX3_contested_61 : decode cX3_contested 61 = .ok (.ireturn, 1) := by decide +kernel
theorem dX3_dug_0 : decode cX3_dug 0 = .ok (.iload_n 1, 1) := by decide +kernel
theorem dX3_dug_1 : decode cX3_dug 1 = .ok (.iconst 0, 1) := by decide +kernel
theorem dX3_dug_2 : decode cX3_dug 2 = .ok (.bipush 10, 2) := by decide +kernel
theorem dX3_dug_4 : decode cX3_dug 4 = .ok (.invokestatic 41, 3) := by decide +kernel
theorem dX3_dug_7 : decode cX3_dug 7 = .ok (.ifCond .eq 11, 3) := by decide +kernel
theorem dX3_dug_10 : decode cX3_dug 10 = .ok (.iload_n 2, 1) := by decide +kernel
theorem dX3_dug_11 : decode cX3_dug 11 = .ok (.iload_n 3, 1) := by decide +kernel
theorem dX3_dug_12 : decode cX3_dug 12 = .ok (.invokestatic 104, 3) := by decide +kernel
theorem dX3_dug_15 : decode cX3_dug 15 = .ok (.ifCond .ne 5, 3) := by decide +kernel
theorem dX3_dug_18 : decode cX3_dug 18 = .ok (.iconst (-1), 1) := by decide +kernel
theorem dX3_dug_19 : decode cX3_dug 19 = .ok (.ireturn, 1) := by decide +kernel
theorem dX3_dug_20 : decode cX3_dug 20 = .ok (.aload_n 0, 1) := by decide +kernel
theorem dX3_dug_21 : decode cX3_dug 21 = .ok (.iload_n 2, 1) := by decide +kernel
theorem dX3_dug_22 : decode cX3_dug 22 = .ok (.iload_n 3, 1) := by decide +kernel
theorem dX3_dug_23 : decode cX3_dug 23 = .ok (.invokevirtual 108, 3) := by decide +kernel
theorem dX3_dug_26 : decode cX3_dug 26 = .ok (.aload_n 0, 1) := by decide +kernel
theorem dX3_dug_27 : decode cX3_dug 27 = .ok (.getfield 33, 3) := by decide +kernel
theorem dX3_dug_30 : decode cX3_dug 30 = .ok (.getfield 141, 3) := by decide +kernel
theorem dX3_dug_33 : decode cX3_dug 33 = .ok (.iload_n 1, 1) := by decide +kernel
theorem dX3_dug_34 : decode cX3_dug 34 = .ok (.iaload, 1) := by decide +kernel
theorem dX3_dug_35 : decode cX3_dug 35 = .ok (.ireturn, 1) := by decide +kernel
theorem dX3_due_0 : decode cX3_due 0 = .ok (.iload_n 1, 1) := by decide +kernel
theorem dX3_due_1 : decode cX3_due 1 = .ok (.invokestatic 58, 3) := by decide +kernel
theorem dX3_due_4 : decode cX3_due 4 = .ok (.ifCond .eq 11, 3) := by decide +kernel
theorem dX3_due_7 : decode cX3_due 7 = .ok (.iload_n 2, 1) := by decide +kernel
theorem dX3_due_8 : decode cX3_due 8 = .ok (.iload_n 3, 1) := by decide +kernel
theorem dX3_due_9 : decode cX3_due 9 = .ok (.invokestatic 104, 3) := by decide +kernel
theorem dX3_due_12 : decode cX3_due 12 = .ok (.ifCond .ne 5, 3) := by decide +kernel
theorem dX3_due_15 : decode cX3_due 15 = .ok (.iconst (-1), 1) := by decide +kernel
theorem dX3_due_16 : decode cX3_due 16 = .ok (.ireturn, 1) := by decide +kernel
theorem dX3_due_17 : decode cX3_due 17 = .ok (.aload_n 0, 1) := by decide +kernel
theorem dX3_due_18 : decode cX3_due 18 = .ok (.iload_n 2, 1) := by decide +kernel
theorem dX3_due_19 : decode cX3_due 19 = .ok (.iload_n 3, 1) := by decide +kernel
theorem dX3_due_20 : decode cX3_due 20 = .ok (.invokevirtual 108, 3) := by decide +kernel
theorem dX3_due_23 : decode cX3_due 23 = .ok (.aload_n 0, 1) := by decide +kernel
theorem dX3_due_24 : decode cX3_due 24 = .ok (.getfield 33, 3) := by decide +kernel
theorem dX3_due_27 : decode cX3_due 27 = .ok (.getfield 141, 3) := by decide +kernel
theorem dX3_due_30 : decode cX3_due 30 = .ok (.iload_n 1, 1) := by decide +kernel
theorem dX3_due_31 : decode cX3_due 31 = .ok (.iaload, 1) := by decide +kernel
theorem dX3_due_32 : decode cX3_due 32 = .ok (.sipush 240, 3) := by decide +kernel
theorem dX3_due_35 : decode cX3_due 35 = .ok (.idiv, 1) := by decide +kernel
theorem dX3_due_36 : decode cX3_due 36 = .ok (.ireturn, 1) := by decide +kernel
theorem dX3_changed_0 : decode cX3_changed 0 = .ok (.iload_n 1, 1) := by decide +kernel
theorem dX3_changed_1 : decode cX3_changed 1 = .ok (.iload_n 2, 1) := by decide +kernel
theorem dX3_changed_2 : decode cX3_changed 2 = .ok (.invokestatic 104, 3) := by decide +kernel
theorem dX3_changed_5 : decode cX3_changed 5 = .ok (.ifCond .eq 10, 3) := by decide +kernel
theorem dX3_changed_8 : decode cX3_changed 8 = .ok (.iload_n 3, 1) := by decide +kernel
theorem dX3_changed_9 : decode cX3_changed 9 = .ok (.invokestatic 144, 3) := by decide +kernel
theorem dX3_changed_12 : decode cX3_changed 12 = .ok (.ifCond .ne 5, 3) := by decide +kernel
theorem dX3_changed_15 : decode cX3_changed 15 = .ok (.iconst (-1), 1) := by decide +kernel
theorem dX3_changed_16 : decode cX3_changed 16 = .ok (.ireturn, 1) := by decide +kernel
theorem dX3_changed_17 : decode cX3_changed 17 = .ok (.aload_n 0, 1) := by decide +kernel
theorem dX3_changed_18 : decode cX3_changed 18 = .ok (.iload_n 1, 1) := by decide +kernel
theorem dX3_changed_19 : decode cX3_changed 19 = .ok (.iload_n 2, 1) := by decide +kernel
theorem dX3_changed_20 : decode cX3_changed 20 = .ok (.invokevirtual 108, 3) := by decide +kernel
theorem dX3_changed_23 : decode cX3_changed 23 = .ok (.aload_n 0, 1) := by decide +kernel
theorem dX3_changed_24 : decode cX3_changed 24 = .ok (.invokevirtual 147, 3) := by decide +kernel
theorem dX3_changed_27 : decode cX3_changed 27 = .ok (.aload_n 0, 1) := by decide +kernel
theorem dX3_changed_28 : decode cX3_changed 28 = .ok (.iload_n 1, 1) := by decide +kernel
theorem dX3_changed_29 : decode cX3_changed 29 = .ok (.iload_n 3, 1) := by decide +kernel
theorem dX3_changed_30 : decode cX3_changed 30 = .ok (.invokevirtual 108, 3) := by decide +kernel
theorem dX3_changed_33 : decode cX3_changed 33 = .ok (.iconst 0, 1) := by decide +kernel
theorem dX3_changed_34 : decode cX3_changed 34 = .ok (.istore 4, 2) := by decide +kernel
theorem dX3_changed_36 : decode cX3_changed 36 = .ok (.iconst 0, 1) := by decide +kernel
theorem dX3_changed_37 : decode cX3_changed 37 = .ok (.istore 5, 2) := by decide +kernel
theorem dX3_changed_39 : decode cX3_changed 39 = .ok (.iload 5, 2) := by decide +kernel
theorem dX3_changed_41 : decode cX3_changed 41 = .ok (.aload_n 0, 1) := by decide +kernel
theorem dX3_changed_42 : decode cX3_changed 42 = .ok (.getfield 37, 3) := by decide +kernel
theorem dX3_changed_45 : decode cX3_changed 45 = .ok (.arraylength, 1) := by decide +kernel
theorem dX3_changed_46 : decode cX3_changed 46 = .ok (.if_icmp .ge 39, 3) := by decide +kernel
theorem dX3_changed_49 : decode cX3_changed 49 = .ok (.aload_n 0, 1) := by decide +kernel
theorem dX3_changed_50 : decode cX3_changed 50 = .ok (.getfield 37, 3) := by decide +kernel
theorem dX3_changed_53 : decode cX3_changed 53 = .ok (.iload 5, 2) := by decide +kernel
theorem dX3_changed_55 : decode cX3_changed 55 = .ok (.iaload, 1) := by decide +kernel
theorem dX3_changed_56 : decode cX3_changed 56 = .ok (.aload_n 0, 1) := by decide +kernel
theorem dX3_changed_57 : decode cX3_changed 57 = .ok (.getfield 33, 3) := by decide +kernel
theorem dX3_changed_60 : decode cX3_changed 60 = .ok (.iload 5, 2) := by decide +kernel
theorem dX3_changed_62 : decode cX3_changed 62 = .ok (.bipush 60, 2) := by decide +kernel
theorem dX3_changed_64 : decode cX3_changed 64 = .ok (.idiv, 1) := by decide +kernel
theorem dX3_changed_65 : decode cX3_changed 65 = .ok (.iload 5, 2) := by decide +kernel
theorem dX3_changed_67 : decode cX3_changed 67 = .ok (.bipush 60, 2) := by decide +kernel
theorem dX3_changed_69 : decode cX3_changed 69 = .ok (.irem, 1) := by decide +kernel
theorem dX3_changed_70 : decode cX3_changed 70 = .ok (.invokevirtual 112, 3) := by decide +kernel
theorem dX3_changed_73 : decode cX3_changed 73 = .ok (.if_icmp .eq 6, 3) := by decide +kernel
theorem dX3_changed_76 : decode cX3_changed 76 = .ok (.iinc 4 1, 3) := by decide +kernel
theorem dX3_changed_79 : decode cX3_changed 79 = .ok (.iinc 5 1, 3) := by decide +kernel
theorem dX3_changed_82 : decode cX3_changed 82 = .ok (.goto (-43), 3) := by decide +kernel
theorem dX3_changed_85 : decode cX3_changed 85 = .ok (.iload 4, 2) := by decide +kernel
theorem dX3_changed_87 : decode cX3_changed 87 = .ok (.ireturn, 1) := by decide +kernel
theorem dX3_many_0 : decode cX3_many 0 = .ok (.iload_n 1, 1) := by decide +kernel
theorem dX3_many_1 : decode cX3_many 1 = .ok (.tableswitch 81 0 5 #[39, 47, 55, 63, 71, 76], 39) := by decide +kernel
theorem dX3_many_40 : decode cX3_many 40 = .ok (.aload_n 0, 1) := by decide +kernel
theorem dX3_many_41 : decode cX3_many 41 = .ok (.getfield 12, 3) := by decide +kernel
theorem dX3_many_44 : decode cX3_many 44 = .ok (.getfield 150, 3) := by decide +kernel
theorem dX3_many_47 : decode cX3_many 47 = .ok (.ireturn, 1) := by decide +kernel
theorem dX3_many_48 : decode cX3_many 48 = .ok (.aload_n 0, 1) := by decide +kernel
theorem dX3_many_49 : decode cX3_many 49 = .ok (.getfield 12, 3) := by decide +kernel
theorem dX3_many_52 : decode cX3_many 52 = .ok (.getfield 65, 3) := by decide +kernel
theorem dX3_many_55 : decode cX3_many 55 = .ok (.ireturn, 1) := by decide +kernel
theorem dX3_many_56 : decode cX3_many 56 = .ok (.aload_n 0, 1) := by decide +kernel
theorem dX3_many_57 : decode cX3_many 57 = .ok (.getfield 12, 3) := by decide +kernel
theorem dX3_many_60 : decode cX3_many 60 = .ok (.invokevirtual 153, 3) := by decide +kernel
theorem dX3_many_63 : decode cX3_many 63 = .ok (.ireturn, 1) := by decide +kernel
theorem dX3_many_64 : decode cX3_many 64 = .ok (.aload_n 0, 1) := by decide +kernel
theorem dX3_many_65 : decode cX3_many 65 = .ok (.getfield 12, 3) := by decide +kernel
theorem dX3_many_68 : decode cX3_many 68 = .ok (.getfield 45, 3) := by decide +kernel
theorem dX3_many_71 : decode cX3_many 71 = .ok (.ireturn, 1) := by decide +kernel
theorem dX3_many_72 : decode cX3_many 72 = .ok (.aload_n 0, 1) := by decide +kernel
theorem dX3_many_73 : decode cX3_many 73 = .ok (.getfield 23, 3) := by decide +kernel
theorem dX3_many_76 : decode cX3_many 76 = .ok (.ireturn, 1) := by decide +kernel
theorem dX3_many_77 : decode cX3_many 77 = .ok (.aload_n 0, 1) := by decide +kernel
theorem dX3_many_78 : decode cX3_many 78 = .ok (.getfield 27, 3) := by decide +kernel
theorem dX3_many_81 : decode cX3_many 81 = .ok (.ireturn, 1) := by decide +kernel
theorem dX3_many_82 : decode cX3_many 82 = .ok (.iconst (-1), 1) := by decide +kernel
theorem dX3_many_83 : decode cX3_many 83 = .ok (.ireturn, 1) := by decide +kernel
theorem dX3_keep_0 : decode cX3_keep 0 = .ok (.aload_n 0, 1) := by decide +kernel
theorem dX3_keep_1 : decode cX3_keep 1 = .ok (.getfield 16, 3) := by decide +kernel
theorem dX3_keep_4 : decode cX3_keep 4 = .ok (.aload_n 0, 1) := by decide +kernel
theorem dX3_keep_5 : decode cX3_keep 5 = .ok (.getfield 12, 3) := by decide +kernel
theorem dX3_keep_8 : decode cX3_keep 8 = .ok (.invokevirtual 157, 3) := by decide +kernel
theorem dX3_keep_11 : decode cX3_keep 11 = .ok (.aload_n 0, 1) := by decide +kernel
theorem dX3_keep_12 : decode cX3_keep 12 = .ok (.iconst 1, 1) := by decide +kernel
theorem dX3_keep_13 : decode cX3_keep 13 = .ok (.putfield 19, 3) := by decide +kernel
theorem dX3_keep_16 : decode cX3_keep 16 = .ok (.iconst 1, 1) := by decide +kernel
theorem dX3_keep_17 : decode cX3_keep 17 = .ok (.ireturn, 1) := by decide +kernel
theorem dX3_back_0 : decode cX3_back 0 = .ok (.aload_n 0, 1) := by decide +kernel
theorem dX3_back_1 : decode cX3_back 1 = .ok (.getfield 19, 3) := by decide +kernel
theorem dX3_back_4 : decode cX3_back 4 = .ok (.ifCond .ne 6, 3) := by decide +kernel
theorem dX3_back_7 : decode cX3_back 7 = .ok (.bipush (-4), 2) := by decide +kernel
theorem dX3_back_9 : decode cX3_back 9 = .ok (.ireturn, 1) := by decide +kernel
theorem dX3_back_10 : decode cX3_back 10 = .ok (.aload_n 0, 1) := by decide +kernel
theorem dX3_back_11 : decode cX3_back 11 = .ok (.getfield 12, 3) := by decide +kernel
theorem dX3_back_14 : decode cX3_back 14 = .ok (.aload_n 0, 1) := by decide +kernel
theorem dX3_back_15 : decode cX3_back 15 = .ok (.getfield 16, 3) := by decide +kernel
theorem dX3_back_18 : decode cX3_back 18 = .ok (.invokevirtual 157, 3) := by decide +kernel
theorem dX3_back_21 : decode cX3_back 21 = .ok (.iconst 1, 1) := by decide +kernel
theorem dX3_back_22 : decode cX3_back 22 = .ok (.ireturn, 1) := by decide +kernel
theorem dX3_isWithin_0 : decode cX3_isWithin 0 = .ok (.iload_n 0, 1) := by decide +kernel
theorem dX3_isWithin_1 : decode cX3_isWithin 1 = .ok (.iload_n 1, 1) := by decide +kernel
theorem dX3_isWithin_2 : decode cX3_isWithin 2 = .ok (.if_icmp .lt 12, 3) := by decide +kernel
theorem dX3_isWithin_5 : decode cX3_isWithin 5 = .ok (.iload_n 0, 1) := by decide +kernel
theorem dX3_isWithin_6 : decode cX3_isWithin 6 = .ok (.iload_n 2, 1) := by decide +kernel
theorem dX3_isWithin_7 : decode cX3_isWithin 7 = .ok (.if_icmp .gt 7, 3) := by decide +kernel
theorem dX3_isWithin_10 : decode cX3_isWithin 10 = .ok (.iconst 1, 1) := by decide +kernel
theorem dX3_isWithin_11 : decode cX3_isWithin 11 = .ok (.goto 4, 3) := by decide +kernel
theorem dX3_isWithin_14 : decode cX3_isWithin 14 = .ok (.iconst 0, 1) := by decide +kernel
theorem dX3_isWithin_15 : decode cX3_isWithin 15 = .ok (.ireturn, 1) := by decide +kernel
theorem dX3_isVein_0 : decode cX3_isVein 0 = .ok (.iload_n 0, 1) := by decide +kernel
theorem dX3_isVein_1 : decode cX3_isVein 1 = .ok (.iconst 0, 1) := by decide +kernel
theorem dX3_isVein_2 : decode cX3_isVein 2 = .ok (.iconst 3, 1) := by decide +kernel
theorem dX3_isVein_3 : decode cX3_isVein 3 = .ok (.invokestatic 41, 3) := by decide +kernel
theorem dX3_isVein_6 : decode cX3_isVein 6 = .ok (.ireturn, 1) := by decide +kernel
theorem dX3_isFoot_0 : decode cX3_isFoot 0 = .ok (.iload_n 0, 1) := by decide +kernel
theorem dX3_isFoot_1 : decode cX3_isFoot 1 = .ok (.iconst 0, 1) := by decide +kernel
theorem dX3_isFoot_2 : decode cX3_isFoot 2 = .ok (.bipush 59, 2) := by decide +kernel
theorem dX3_isFoot_4 : decode cX3_isFoot 4 = .ok (.invokestatic 41, 3) := by decide +kernel
theorem dX3_isFoot_7 : decode cX3_isFoot 7 = .ok (.ireturn, 1) := by decide +kernel
theorem dX3_isMiner_0 : decode cX3_isMiner 0 = .ok (.iload_n 0, 1) := by decide +kernel
theorem dX3_isMiner_1 : decode cX3_isMiner 1 = .ok (.iconst 0, 1) := by decide +kernel
theorem dX3_isMiner_2 : decode cX3_isMiner 2 = .ok (.bipush 9, 2) := by decide +kernel
theorem dX3_isMiner_4 : decode cX3_isMiner 4 = .ok (.invokestatic 41, 3) := by decide +kernel
theorem dX3_isMiner_7 : decode cX3_isMiner 7 = .ok (.ireturn, 1) := by decide +kernel
theorem dX3_isDay_0 : decode cX3_isDay 0 = .ok (.iload_n 0, 1) := by decide +kernel
theorem dX3_isDay_1 : decode cX3_isDay 1 = .ok (.iconst 0, 1) := by decide +kernel
theorem dX3_isDay_2 : decode cX3_isDay 2 = .ok (.sipush 999, 3) := by decide +kernel
theorem dX3_isDay_5 : decode cX3_isDay 5 = .ok (.invokestatic 41, 3) := by decide +kernel
theorem dX3_isDay_8 : decode cX3_isDay 8 = .ok (.ireturn, 1) := by decide +kernel
theorem dX3_areDays_0 : decode cX3_areDays 0 = .ok (.iload_n 0, 1) := by decide +kernel
theorem dX3_areDays_1 : decode cX3_areDays 1 = .ok (.invokestatic 144, 3) := by decide +kernel
theorem dX3_areDays_4 : decode cX3_areDays 4 = .ok (.ifCond .eq 14, 3) := by decide +kernel
theorem dX3_areDays_7 : decode cX3_areDays 7 = .ok (.iload_n 1, 1) := by decide +kernel
theorem dX3_areDays_8 : decode cX3_areDays 8 = .ok (.invokestatic 144, 3) := by decide +kernel
theorem dX3_areDays_11 : decode cX3_areDays 11 = .ok (.ifCond .eq 7, 3) := by decide +kernel
theorem dX3_areDays_14 : decode cX3_areDays 14 = .ok (.iconst 1, 1) := by decide +kernel
theorem dX3_areDays_15 : decode cX3_areDays 15 = .ok (.goto 4, 3) := by decide +kernel
theorem dX3_areDays_18 : decode cX3_areDays 18 = .ok (.iconst 0, 1) := by decide +kernel
theorem dX3_areDays_19 : decode cX3_areDays 19 = .ok (.ireturn, 1) := by decide +kernel
theorem dX3_isPast_0 : decode cX3_isPast 0 = .ok (.iload_n 1, 1) := by decide +kernel
theorem dX3_isPast_1 : decode cX3_isPast 1 = .ok (.iconst 0, 1) := by decide +kernel
theorem dX3_isPast_2 : decode cX3_isPast 2 = .ok (.aload_n 0, 1) := by decide +kernel
theorem dX3_isPast_3 : decode cX3_isPast 3 = .ok (.getfield 12, 3) := by decide +kernel
theorem dX3_isPast_6 : decode cX3_isPast 6 = .ok (.getfield 45, 3) := by decide +kernel
theorem dX3_isPast_9 : decode cX3_isPast 9 = .ok (.invokestatic 41, 3) := by decide +kernel
theorem dX3_isPast_12 : decode cX3_isPast 12 = .ok (.ireturn, 1) := by decide +kernel
theorem dX3_refusalOfClaim_0 : decode cX3_refusalOfClaim 0 = .ok (.iload_n 1, 1) := by decide +kernel
theorem dX3_refusalOfClaim_1 : decode cX3_refusalOfClaim 1 = .ok (.ifCond .eq 22, 3) := by decide +kernel
theorem dX3_refusalOfClaim_4 : decode cX3_refusalOfClaim 4 = .ok (.aload_n 0, 1) := by decide +kernel
theorem dX3_refusalOfClaim_5 : decode cX3_refusalOfClaim 5 = .ok (.iload_n 2, 1) := by decide +kernel
theorem dX3_refusalOfClaim_6 : decode cX3_refusalOfClaim 6 = .ok (.invokevirtual 48, 3) := by decide +kernel
theorem dX3_refusalOfClaim_9 : decode cX3_refusalOfClaim 9 = .ok (.ifCond .eq 14, 3) := by decide +kernel
theorem dX3_refusalOfClaim_12 : decode cX3_refusalOfClaim 12 = .ok (.aload_n 0, 1) := by decide +kernel
theorem dX3_refusalOfClaim_13 : decode cX3_refusalOfClaim 13 = .ok (.getfield 12, 3) := by decide +kernel
theorem dX3_refusalOfClaim_16 : decode cX3_refusalOfClaim 16 = .ok (.iload_n 3, 1) := by decide +kernel
theorem dX3_refusalOfClaim_17 : decode cX3_refusalOfClaim 17 = .ok (.invokevirtual 95, 3) := by decide +kernel
theorem dX3_refusalOfClaim_20 : decode cX3_refusalOfClaim 20 = .ok (.ifCond .ne 5, 3) := by decide +kernel
theorem dX3_refusalOfClaim_23 : decode cX3_refusalOfClaim 23 = .ok (.iconst (-1), 1) := by decide +kernel
theorem dX3_refusalOfClaim_24 : decode cX3_refusalOfClaim 24 = .ok (.ireturn, 1) := by decide +kernel
theorem dX3_refusalOfClaim_25 : decode cX3_refusalOfClaim 25 = .ok (.aload_n 0, 1) := by decide +kernel
theorem dX3_refusalOfClaim_26 : decode cX3_refusalOfClaim 26 = .ok (.getfield 12, 3) := by decide +kernel
theorem dX3_refusalOfClaim_29 : decode cX3_refusalOfClaim 29 = .ok (.iload_n 3, 1) := by decide +kernel
theorem dX3_refusalOfClaim_30 : decode cX3_refusalOfClaim 30 = .ok (.invokevirtual 124, 3) := by decide +kernel
theorem dX3_refusalOfClaim_33 : decode cX3_refusalOfClaim 33 = .ok (.ifCond .ne 6, 3) := by decide +kernel
theorem dX3_refusalOfClaim_36 : decode cX3_refusalOfClaim 36 = .ok (.bipush (-3), 2) := by decide +kernel
theorem dX3_refusalOfClaim_38 : decode cX3_refusalOfClaim 38 = .ok (.ireturn, 1) := by decide +kernel
theorem dX3_refusalOfClaim_39 : decode cX3_refusalOfClaim 39 = .ok (.aload_n 0, 1) := by decide +kernel
theorem dX3_refusalOfClaim_40 : decode cX3_refusalOfClaim 40 = .ok (.getfield 12, 3) := by decide +kernel
theorem dX3_refusalOfClaim_43 : decode cX3_refusalOfClaim 43 = .ok (.invokevirtual 61, 3) := by decide +kernel
theorem dX3_refusalOfClaim_46 : decode cX3_refusalOfClaim 46 = .ok (.ifCond .eq 8, 3) := by decide +kernel
theorem dX3_refusalOfClaim_49 : decode cX3_refusalOfClaim 49 = .ok (.bipush (-2), 2) := by decide +kernel
theorem dX3_refusalOfClaim_51 : decode cX3_refusalOfClaim 51 = .ok (.goto 4, 3) := by decide +kernel
theorem dX3_refusalOfClaim_54 : decode cX3_refusalOfClaim 54 = .ok (.iconst 0, 1) := by decide +kernel
theorem dX3_refusalOfClaim_55 : decode cX3_refusalOfClaim 55 = .ok (.ireturn, 1) := by decide +kernel
theorem dX3_goThrough_0 : decode cX3_goThrough 0 = .ok (.aload_n 0, 1) := by decide +kernel
theorem dX3_goThrough_1 : decode cX3_goThrough 1 = .ok (.getfield 33, 3) := by decide +kernel
theorem dX3_goThrough_4 : decode cX3_goThrough 4 = .ok (.aload_n 0, 1) := by decide +kernel
theorem dX3_goThrough_5 : decode cX3_goThrough 5 = .ok (.getfield 12, 3) := by decide +kernel
theorem dX3_goThrough_8 : decode cX3_goThrough 8 = .ok (.iload_n 1, 1) := by decide +kernel
theorem dX3_goThrough_9 : decode cX3_goThrough 9 = .ok (.iload_n 2, 1) := by decide +kernel
theorem dX3_goThrough_10 : decode cX3_goThrough 10 = .ok (.aload_n 0, 1) := by decide +kernel
theorem dX3_goThrough_11 : decode cX3_goThrough 11 = .ok (.getfield 27, 3) := by decide +kernel
theorem dX3_goThrough_14 : decode cX3_goThrough 14 = .ok (.invokevirtual 161, 3) := by decide +kernel
theorem dX3_goThrough_17 : decode cX3_goThrough 17 = .ok (.return_, 1) := by decide +kernel
theorem dX3_noteHolders_0 : decode cX3_noteHolders 0 = .ok (.iconst 0, 1) := by decide +kernel
theorem dX3_noteHolders_1 : decode cX3_noteHolders 1 = .ok (.istore_n 1, 1) := by decide +kernel
theorem dX3_noteHolders_2 : decode cX3_noteHolders 2 = .ok (.iload_n 1, 1) := by decide +kernel
theorem dX3_noteHolders_3 : decode cX3_noteHolders 3 = .ok (.aload_n 0, 1) := by decide +kernel
theorem dX3_noteHolders_4 : decode cX3_noteHolders 4 = .ok (.getfield 37, 3) := by decide +kernel
theorem dX3_noteHolders_7 : decode cX3_noteHolders 7 = .ok (.arraylength, 1) := by decide +kernel
theorem dX3_noteHolders_8 : decode cX3_noteHolders 8 = .ok (.if_icmp .ge 30, 3) := by decide +kernel
theorem dX3_noteHolders_11 : decode cX3_noteHolders 11 = .ok (.aload_n 0, 1) := by decide +kernel
theorem dX3_noteHolders_12 : decode cX3_noteHolders 12 = .ok (.getfield 37, 3) := by decide +kernel
theorem dX3_noteHolders_15 : decode cX3_noteHolders 15 = .ok (.iload_n 1, 1) := by decide +kernel
theorem dX3_noteHolders_16 : decode cX3_noteHolders 16 = .ok (.aload_n 0, 1) := by decide +kernel
theorem dX3_noteHolders_17 : decode cX3_noteHolders 17 = .ok (.getfield 33, 3) := by decide +kernel
theorem dX3_noteHolders_20 : decode cX3_noteHolders 20 = .ok (.iload_n 1, 1) := by decide +kernel
theorem dX3_noteHolders_21 : decode cX3_noteHolders 21 = .ok (.bipush 60, 2) := by decide +kernel
theorem dX3_noteHolders_23 : decode cX3_noteHolders 23 = .ok (.idiv, 1) := by decide +kernel
theorem dX3_noteHolders_24 : decode cX3_noteHolders 24 = .ok (.iload_n 1, 1) := by decide +kernel
theorem dX3_noteHolders_25 : decode cX3_noteHolders 25 = .ok (.bipush 60, 2) := by decide +kernel
theorem dX3_noteHolders_27 : decode cX3_noteHolders 27 = .ok (.irem, 1) := by decide +kernel
theorem dX3_noteHolders_28 : decode cX3_noteHolders 28 = .ok (.invokevirtual 112, 3) := by decide +kernel
theorem dX3_noteHolders_31 : decode cX3_noteHolders 31 = .ok (.iastore, 1) := by decide +kernel
theorem dX3_noteHolders_32 : decode cX3_noteHolders 32 = .ok (.iinc 1 1, 3) := by decide +kernel
theorem dX3_noteHolders_35 : decode cX3_noteHolders 35 = .ok (.goto (-33), 3) := by decide +kernel
theorem dX3_noteHolders_38 : decode cX3_noteHolders 38 = .ok (.return_, 1) := by decide +kernel
theorem dX3_tellOf_0 : decode cX3_tellOf 0 = .ok (.iload_n 2, 1) := by decide +kernel
theorem dX3_tellOf_1 : decode cX3_tellOf 1 = .ok (.tableswitch 82 0 5 #[39, 44, 49, 54, 59, 77], 39) := by decide +kernel
theorem dX3_tellOf_40 : decode cX3_tellOf 40 = .ok (.aload_n 1, 1) := by decide +kernel
theorem dX3_tellOf_41 : decode cX3_tellOf 41 = .ok (.getfield 164, 3) := by decide +kernel
theorem dX3_tellOf_44 : decode cX3_tellOf 44 = .ok (.ireturn, 1) := by decide +kernel
theorem dX3_tellOf_45 : decode cX3_tellOf 45 = .ok (.aload_n 1, 1) := by decide +kernel
theorem dX3_tellOf_46 : decode cX3_tellOf 46 = .ok (.getfield 167, 3) := by decide +kernel
theorem dX3_tellOf_49 : decode cX3_tellOf 49 = .ok (.ireturn, 1) := by decide +kernel
theorem dX3_tellOf_50 : decode cX3_tellOf 50 = .ok (.aload_n 1, 1) := by decide +kernel
theorem dX3_tellOf_51 : decode cX3_tellOf 51 = .ok (.getfield 170, 3) := by decide +kernel
theorem dX3_tellOf_54 : decode cX3_tellOf 54 = .ok (.ireturn, 1) := by decide +kernel
theorem dX3_tellOf_55 : decode cX3_tellOf 55 = .ok (.aload_n 1, 1) := by decide +kernel
theorem dX3_tellOf_56 : decode cX3_tellOf 56 = .ok (.getfield 173, 3) := by decide +kernel
theorem dX3_tellOf_59 : decode cX3_tellOf 59 = .ok (.ireturn, 1) := by decide +kernel
theorem dX3_tellOf_60 : decode cX3_tellOf 60 = .ok (.aload_n 1, 1) := by decide +kernel
theorem dX3_tellOf_61 : decode cX3_tellOf 61 = .ok (.iload_n 3, 1) := by decide +kernel
theorem dX3_tellOf_62 : decode cX3_tellOf 62 = .ok (.aload_n 0, 1) := by decide +kernel
theorem dX3_tellOf_63 : decode cX3_tellOf 63 = .ok (.getfield 27, 3) := by decide +kernel
theorem dX3_tellOf_66 : decode cX3_tellOf 66 = .ok (.invokevirtual 176, 3) := by decide +kernel
theorem dX3_tellOf_69 : decode cX3_tellOf 69 = .ok (.ifCond .eq 7, 3) := by decide +kernel
theorem dX3_tellOf_72 : decode cX3_tellOf 72 = .ok (.iconst 1, 1) := by decide +kernel
theorem dX3_tellOf_73 : decode cX3_tellOf 73 = .ok (.goto 4, 3) := by decide +kernel
theorem dX3_tellOf_76 : decode cX3_tellOf 76 = .ok (.iconst 0, 1) := by decide +kernel
theorem dX3_tellOf_77 : decode cX3_tellOf 77 = .ok (.ireturn, 1) := by decide +kernel
theorem dX3_tellOf_78 : decode cX3_tellOf 78 = .ok (.aload_n 1, 1) := by decide +kernel
theorem dX3_tellOf_79 : decode cX3_tellOf 79 = .ok (.getfield 179, 3) := by decide +kernel
theorem dX3_tellOf_82 : decode cX3_tellOf 82 = .ok (.ireturn, 1) := by decide +kernel
theorem dX3_tellOf_83 : decode cX3_tellOf 83 = .ok (.aload_n 0, 1) := by decide +kernel
theorem dX3_tellOf_84 : decode cX3_tellOf 84 = .ok (.getfield 33, 3) := by decide +kernel
theorem dX3_tellOf_87 : decode cX3_tellOf 87 = .ok (.aload_n 1, 1) := by decide +kernel
theorem dX3_tellOf_88 : decode cX3_tellOf 88 = .ok (.invokevirtual 182, 3) := by decide +kernel
theorem dX3_tellOf_91 : decode cX3_tellOf 91 = .ok (.ireturn, 1) := by decide +kernel
end
section
theorem dX4_init_0 : decode cX4_init 0 = .ok (.aload_n 0, 1) := by decide +kernel
theorem dX4_init_1 : decode cX4_init 1 = .ok (.invokespecial 1, 3) := by decide +kernel
theorem dX4_init_4 : decode cX4_init 4 = .ok (.aload_n 0, 1) := by decide +kernel
theorem dX4_init_5 : decode cX4_init 5 = .ok (.iconst 5, 1) := by decide +kernel
theorem dX4_init_6 : decode cX4_init 6 = .ok (.putfield 7, 3) := by decide +kernel
theorem dX4_init_9 : decode cX4_init 9 = .ok (.aload_n 0, 1) := by decide +kernel
theorem dX4_init_10 : decode cX4_init 10 = .ok (.bipush 10, 2) := by decide +kernel
theorem dX4_init_12 : decode cX4_init 12 = .ok (.putfield 13, 3) := by decide +kernel
theorem dX4_init_15 : decode cX4_init 15 = .ok (.aload_n 0, 1) := by decide +kernel
theorem dX4_init_16 : decode cX4_init 16 = .ok (.bipush 90, 2) := by decide +kernel
theorem dX4_init_18 : decode cX4_init 18 = .ok (.newarray .int, 2) := by decide +kernel
theorem dX4_init_20 : decode cX4_init 20 = .ok (.putfield 16, 3) := by decide +kernel
theorem dX4_init_23 : decode cX4_init 23 = .ok (.aload_n 0, 1) := by decide +kernel
theorem dX4_init_24 : decode cX4_init 24 = .ok (.bipush 90, 2) := by decide +kernel
theorem dX4_init_26 : decode cX4_init 26 = .ok (.newarray .int, 2) := by decide +kernel
theorem dX4_init_28 : decode cX4_init 28 = .ok (.putfield 20, 3) := by decide +kernel
theorem dX4_init_31 : decode cX4_init 31 = .ok (.aload_n 0, 1) := by decide +kernel
theorem dX4_init_32 : decode cX4_init 32 = .ok (.bipush 90, 2) := by decide +kernel
theorem dX4_init_34 : decode cX4_init 34 = .ok (.newarray .int, 2) := by decide +kernel
theorem dX4_init_36 : decode cX4_init 36 = .ok (.putfield 23, 3) := by decide +kernel
theorem dX4_init_39 : decode cX4_init 39 = .ok (.aload_n 0, 1) := by decide +kernel
theorem dX4_init_40 : decode cX4_init 40 = .ok (.bipush 90, 2) := by decide +kernel
theorem dX4_init_42 : decode cX4_init 42 = .ok (.newarray .int, 2) := by decide +kernel
theorem dX4_init_44 : decode cX4_init 44 = .ok (.putfield 26, 3) := by decide +kernel
theorem dX4_init_47 : decode cX4_init 47 = .ok (.aload_n 0, 1) := by decide +kernel
theorem dX4_init_48 : decode cX4_init 48 = .ok (.bipush 90, 2) := by decide +kernel
theorem dX4_init_50 : decode cX4_init 50 = .ok (.newarray .int, 2) := by decide +kernel
theorem dX4_init_52 : decode cX4_init 52 = .ok (.putfield 29, 3) := by decide +kernel
theorem dX4_init_55 : decode cX4_init 55 = .ok (.aload_n 0, 1) := by decide +kernel
theorem dX4_init_56 : decode cX4_init 56 = .ok (.bipush 90, 2) := by decide +kernel
theorem dX4_init_58 : decode cX4_init 58 = .ok (.newarray .int, 2) := by decide +kernel
theorem dX4_init_60 : decode cX4_init 60 = .ok (.putfield 32, 3) := by decide +kernel
theorem dX4_init_63 : decode cX4_init 63 = .ok (.aload_n 0, 1) := by decide +kernel
theorem dX4_init_64 : decode cX4_init 64 = .ok (.bipush 90, 2) := by decide +kernel
theorem dX4_init_66 : decode cX4_init 66 = .ok (.newarray .int, 2) := by decide +kernel
theorem dX4_init_68 : decode cX4_init 68 = .ok (.putfield 35, 3) := by decide +kernel
theorem dX4_init_71 : decode cX4_init 71 = .ok (.aload_n 0, 1) := by decide +kernel
theorem dX4_init_72 : decode cX4_init 72 = .ok (.bipush 90, 2) := by decide +kernel
theorem dX4_init_74 : decode cX4_init 74 = .ok (.newarray .int, 2) := by decide +kernel
theorem dX4_init_76 : decode cX4_init 76 = .ok (.putfield 38, 3) := by decide +kernel
theorem dX4_init_79 : decode cX4_init 79 = .ok (.aload_n 0, 1) := by decide +kernel
theorem dX4_init_80 : decode cX4_init 80 = .ok (.bipush 90, 2) := by decide +kernel
theorem dX4_init_82 : decode cX4_init 82 = .ok (.newarray .int, 2) := by decide +kernel
theorem dX4_init_84 : decode cX4_init 84 = .ok (.putfield 41, 3) := by decide +kernel
theorem dX4_init_87 : decode cX4_init 87 = .ok (.aload_n 0, 1) := by decide +kernel
theorem dX4_init_88 : decode cX4_init 88 = .ok (.bipush 90, 2) := by decide +kernel
theorem dX4_init_90 : decode cX4_init 90 = .ok (.newarray .int, 2) := by decide +kernel
theorem dX4_init_92 : decode cX4_init 92 = .ok (.putfield 44, 3) := by decide +kernel
theorem dX4_init_95 : decode cX4_init 95 = .ok (.aload_n 0, 1) := by decide +kernel
theorem dX4_init_96 : decode cX4_init 96 = .ok (.bipush 90, 2) := by decide +kernel
theorem dX4_init_98 : decode cX4_init 98 = .ok (.newarray .int, 2) := by decide +kernel
theorem dX4_init_100 : decode cX4_init 100 = .ok (.putfield 47, 3) := by decide +kernel
theorem dX4_init_103 : decode cX4_init 103 = .ok (.aload_n 0, 1) := by decide +kernel
theorem dX4_init_104 : decode cX4_init 104 = .ok (.iconst 3, 1) := by decide +kernel
theorem dX4_init_105 : decode cX4_init 105 = .ok (.newarray .int, 2) := by decide +kernel
theorem dX4_init_107 : decode cX4_init 107 = .ok (.putfield 50, 3) := by decide +kernel
theorem dX4_init_110 : decode cX4_init 110 = .ok (.aload_n 0, 1) := by decide +kernel
theorem dX4_init_111 : decode cX4_init 111 = .ok (.sipush 990, 3) := by decide +kernel
theorem dX4_init_114 : decode cX4_init 114 = .ok (.newarray .int, 2) := by decide +kernel
theorem dX4_init_116 : decode cX4_init 116 = .ok (.putfield 53, 3) := by decide +kernel
theorem dX4_init_119 : decode cX4_init 119 = .ok (.aload_n 0, 1) := by decide +kernel
theorem dX4_init_120 : decode cX4_init 120 = .ok (.bipush 90, 2) := by decide +kernel
theorem dX4_init_122 : decode cX4_init 122 = .ok (.newarray .boolean, 2) := by decide +kernel
theorem dX4_init_124 : decode cX4_init 124 = .ok (.putfield 56, 3) := by decide +kernel
theorem dX4_init_127 : decode cX4_init 127 = .ok (.aload_n 0, 1) := by decide +kernel
theorem dX4_init_128 : decode cX4_init 128 = .ok (.bipush 90, 2) := by decide +kernel
theorem dX4_init_130 : decode cX4_init 130 = .ok (.newarray .int, 2) := by decide +kernel
theorem dX4_init_132 : decode cX4_init 132 = .ok (.putfield 60, 3) := by decide +kernel
theorem dX4_init_135 : decode cX4_init 135 = .ok (.aload_n 0, 1) := by decide +kernel
theorem dX4_init_136 : decode cX4_init 136 = .ok (.sipush 900, 3) := by decide +kernel
theorem dX4_init_139 : decode cX4_init 139 = .ok (.newarray .int, 2) := by decide +kernel
theorem dX4_init_141 : decode cX4_init 141 = .ok (.putfield 63, 3) := by decide +kernel
theorem dX4_init_144 : decode cX4_init 144 = .ok (.aload_n 0, 1) := by decide +kernel
theorem dX4_init_145 : decode cX4_init 145 = .ok (.bipush 90, 2) := by decide +kernel
theorem dX4_init_147 : decode cX4_init 147 = .ok (.newarray .int, 2) := by decide +kernel
theorem dX4_init_149 : decode cX4_init 149 = .ok (.putfield 66, 3) := by decide +kernel
theorem dX4_init_152 : decode cX4_init 152 = .ok (.aload_n 0, 1) := by decide +kernel
theorem dX4_init_153 : decode cX4_init 153 = .ok (.bipush 90, 2) := by decide +kernel
theorem dX4_init_155 : decode cX4_init 155 = .ok (.newarray .int, 2) := by decide +kernel
theorem dX4_init_157 : decode cX4_init 157 = .ok (.putfield 69, 3) := by decide +kernel
theorem dX4_init_160 : decode cX4_init 160 = .ok (.aload_n 0, 1) := by decide +kernel
theorem dX4_init_161 : decode cX4_init 161 = .ok (.bipush 90, 2) := by decide +kernel
theorem dX4_init_163 : decode cX4_init 163 = .ok (.newarray .int, 2) := by decide +kernel
theorem dX4_init_165 : decode cX4_init 165 = .ok (.putfield 72, 3) := by decide +kernel
theorem dX4_init_168 : decode cX4_init 168 = .ok (.aload_n 0, 1) := by decide +kernel
theorem dX4_init_169 : decode cX4_init 169 = .ok (.bipush 90, 2) := by decide +kernel
theorem dX4_init_171 : decode cX4_init 171 = .ok (.newarray .int, 2) := by decide +kernel
theorem dX4_init_173 : decode cX4_init 173 = .ok (.putfield 75, 3) := by decide +kernel
theorem dX4_init_176 : decode cX4_init 176 = .ok (.aload_n 0, 1) := by decide +kernel
theorem dX4_init_177 : decode cX4_init 177 = .ok (.bipush 90, 2) := by decide +kernel
theorem dX4_init_179 : decode cX4_init 179 = .ok (.newarray .int, 2) := by decide +kernel
theorem dX4_init_181 : decode cX4_init 181 = .ok (.putfield 78, 3) := by decide +kernel
theorem dX4_init_184 : decode cX4_init 184 = .ok (.aload_n 0, 1) := by decide +kernel
theorem dX4_init_185 : decode cX4_init 185 = .ok (.bipush 90, 2) := by decide +kernel
theorem dX4_init_187 : decode cX4_init 187 = .ok (.newarray .int, 2) := by decide +kernel
theorem dX4_init_189 : decode cX4_init 189 = .ok (.putfield 81, 3) := by decide +kernel
theorem dX4_init_192 : decode cX4_init 192 = .ok (.aload_n 0, 1) := by decide +kernel
theorem dX4_init_193 : decode cX4_init 193 = .ok (.bipush 90, 2) := by decide +kernel
theorem dX4_init_195 : decode cX4_init 195 = .ok (.newarray .int, 2) := by decide +kernel
theorem dX4_init_197 : decode cX4_init 197 = .ok (.putfield 84, 3) := by decide +kernel
theorem dX4_init_200 : decode cX4_init 200 = .ok (.aload_n 0, 1) := by decide +kernel
theorem dX4_init_201 : decode cX4_init 201 = .ok (.bipush 11, 2) := by decide +kernel
theorem dX4_init_203 : decode cX4_init 203 = .ok (.newarray .int, 2) := by decide +kernel
theorem dX4_init_205 : decode cX4_init 205 = .ok (.putfield 87, 3) := by decide +kernel
theorem dX4_init_208 : decode cX4_init 208 = .ok (.aload_n 0, 1) := by decide +kernel
theorem dX4_init_209 : decode cX4_init 209 = .ok (.sipush 240, 3) := by decide +kernel
theorem dX4_init_212 : decode cX4_init 212 = .ok (.newarray .int, 2) := by decide +kernel
theorem dX4_init_214 : decode cX4_init 214 = .ok (.putfield 90, 3) := by decide +kernel
theorem dX4_init_217 : decode cX4_init 217 = .ok (.return_, 1) := by decide +kernel
theorem dX4_in_0 : decode cX4_in 0 = .ok (.iload_n 0, 1) := by decide +kernel
theorem dX4_in_1 : decode cX4_in 1 = .ok (.iload_n 1, 1) := by decide +kernel
theorem dX4_in_2 : decode cX4_in 2 = .ok (.if_icmp .lt 12, 3) := by decide +kernel
theorem dX4_in_5 : decode cX4_in 5 = .ok (.iload_n 0, 1) := by decide +kernel
theorem dX4_in_6 : decode cX4_in 6 = .ok (.iload_n 2, 1) := by decide +kernel
theorem dX4_in_7 : decode cX4_in 7 = .ok (.if_icmp .gt 7, 3) := by decide +kernel
theorem dX4_in_10 : decode cX4_in 10 = .ok (.iconst 1, 1) := by decide +kernel
theorem dX4_in_11 : decode cX4_in 11 = .ok (.goto 4, 3) := by decide +kernel
theorem dX4_in_14 : decode cX4_in 14 = .ok (.iconst 0, 1) := by decide +kernel
theorem dX4_in_15 : decode cX4_in 15 = .ok (.ireturn, 1) := by decide +kernel
theorem dX4_isMiner_0 : decode cX4_isMiner 0 = .ok (.iload_n 0, 1) := by decide +kernel
theorem dX4_isMiner_1 : decode cX4_isMiner 1 = .ok (.iconst 0, 1) := by decide +kernel
theorem dX4_isMiner_2 : decode cX4_isMiner 2 = .ok (.bipush 9, 2) := by decide +kernel
theorem dX4_isMiner_4 : decode cX4_isMiner 4 = .ok (.invokestatic 93, 3) := by decide +kernel
theorem dX4_isMiner_7 : decode cX4_isMiner 7 = .ok (.ireturn, 1) := by decide +kernel
theorem dX4_isVein_0 : decode cX4_isVein 0 = .ok (.iload_n 0, 1) := by decide +kernel
theorem dX4_isVein_1 : decode cX4_isVein 1 = .ok (.iconst 0, 1) := by decide +kernel
theorem dX4_isVein_2 : decode cX4_isVein 2 = .ok (.iconst 3, 1) := by decide +kernel
theorem dX4_isVein_3 : decode cX4_isVein 3 = .ok (.invokestatic 93, 3) := by decide +kernel
theorem dX4_isVein_6 : decode cX4_isVein 6 = .ok (.ireturn, 1) := by decide +kernel
theorem dX4_isFoot_0 : decode cX4_isFoot 0 = .ok (.iload_n 0, 1) := by decide +kernel
theorem dX4_isFoot_1 : decode cX4_isFoot 1 = .ok (.iconst 0, 1) := by decide +kernel
theorem dX4_isFoot_2 : decode cX4_isFoot 2 = .ok (.bipush 59, 2) := by decide +kernel
theorem dX4_isFoot_4 : decode cX4_isFoot 4 = .ok (.invokestatic 93, 3) := by decide +kernel
theorem dX4_isFoot_7 : decode cX4_isFoot 7 = .ok (.ireturn, 1) := by decide +kernel
theorem dX4_isDay_0 : decode cX4_isDay 0 = .ok (.iload_n 0, 1) := by decide +kernel
theorem dX4_isDay_1 : decode cX4_isDay 1 = .ok (.iconst 0, 1) := by decide +kernel
theorem dX4_isDay_2 : decode cX4_isDay 2 = .ok (.sipush 999, 3) := by decide +kernel
theorem dX4_isDay_5 : decode cX4_isDay 5 = .ok (.invokestatic 93, 3) := by decide +kernel
theorem dX4_isDay_8 : decode cX4_isDay 8 = .ok (.ireturn, 1) := by decide +kernel
theorem dX4_isFact_0 : decode cX4_isFact 0 = .ok (.iload_n 1, 1) := by decide +kernel
theorem dX4_isFact_1 : decode cX4_isFact 1 = .ok (.iconst 0, 1) := by decide +kernel
theorem dX4_isFact_2 : decode cX4_isFact 2 = .ok (.aload_n 0, 1) := by decide +kernel
theorem dX4_isFact_3 : decode cX4_isFact 3 = .ok (.getfield 97, 3) := by decide +kernel
theorem dX4_isFact_6 : decode cX4_isFact 6 = .ok (.iconst 1, 1) := by decide +kernel
theorem dX4_isFact_7 : decode cX4_isFact 7 = .ok (.isub, 1) := by decide +kernel
theorem dX4_isFact_8 : decode cX4_isFact 8 = .ok (.invokestatic 93, 3) := by decide +kernel
theorem dX4_isFact_11 : decode cX4_isFact 11 = .ok (.ireturn, 1) := by decide +kernel
theorem dX4_day_0 : decode cX4_day 0 = .ok (.iload_n 1, 1) := by decide +kernel
theorem dX4_day_1 : decode cX4_day 1 = .ok (.iconst 0, 1) := by decide +kernel
theorem dX4_day_2 : decode cX4_day 2 = .ok (.bipush 100, 2) := by decide +kernel
theorem dX4_day_4 : decode cX4_day 4 = .ok (.invokestatic 93, 3) := by decide +kernel
theorem dX4_day_7 : decode cX4_day 7 = .ok (.ifCond .eq 15, 3) := by decide +kernel
theorem dX4_day_10 : decode cX4_day 10 = .ok (.aload_n 0, 1) := by decide +kernel
theorem dX4_day_11 : decode cX4_day 11 = .ok (.getfield 100, 3) := by decide +kernel
theorem dX4_day_14 : decode cX4_day 14 = .ok (.iload_n 1, 1) := by decide +kernel
theorem dX4_day_15 : decode cX4_day 15 = .ok (.iadd, 1) := by decide +kernel
theorem dX4_day_16 : decode cX4_day 16 = .ok (.sipush 999, 3) := by decide +kernel
theorem dX4_day_19 : decode cX4_day 19 = .ok (.if_icmp .le 5, 3) := by decide +kernel
theorem dX4_day_22 : decode cX4_day 22 = .ok (.iconst (-1), 1) := by decide +kernel
theorem dX4_day_23 : decode cX4_day 23 = .ok (.ireturn, 1) := by decide +kernel
theorem dX4_day_24 : decode cX4_day 24 = .ok (.aload_n 0, 1) := by decide +kernel
theorem dX4_day_25 : decode cX4_day 25 = .ok (.dup, 1) := by decide +kernel
theorem dX4_day_26 : decode cX4_day 26 = .ok (.getfield 100, 3) := by decide +kernel
theorem dX4_day_29 : decode cX4_day 29 = .ok (.iload_n 1, 1) := by decide +kernel
theorem dX4_day_30 : decode cX4_day 30 = .ok (.iadd, 1) := by decide +kernel
theorem dX4_day_31 : decode cX4_day 31 = .ok (.putfield 100, 3) := by decide +kernel
theorem dX4_day_34 : decode cX4_day 34 = .ok (.aload_n 0, 1) := by decide +kernel
theorem dX4_day_35 : decode cX4_day 35 = .ok (.getfield 100, 3) := by decide +kernel
theorem dX4_day_38 : decode cX4_day 38 = .ok (.ireturn, 1) := by decide +kernel
theorem dX4_rule_0 : decode cX4_rule 0 = .ok (.iload_n 1, 1) := by decide +kernel
theorem dX4_rule_1 : decode cX4_rule 1 = .ok (.iconst 0, 1) := by decide +kernel
theorem dX4_rule_2 : decode cX4_rule 2 = .ok (.iconst 1, 1) := by decide +kernel
theorem dX4_rule_3 : decode cX4_rule 3 = .ok (.invokestatic 93, 3) := by decide +kernel
theorem dX4_rule_6 : decode cX4_rule 6 = .ok (.ifCond .eq 22, 3) := by decide +kernel
theorem dX4_rule_9 : decode cX4_rule 9 = .ok (.iload_n 2, 1) := by decide +kernel
theorem dX4_rule_10 : decode cX4_rule 10 = .ok (.iconst 1, 1) := by decide +kernel
theorem dX4_rule_11 : decode cX4_rule 11 = .ok (.iload_n 1, 1) := by decide +kernel
theorem dX4_rule_12 : decode cX4_rule 12 = .ok (.ifCond .ne 8, 3) := by decide +kernel
theorem dX4_rule_15 : decode cX4_rule 15 = .ok (.bipush 10, 2) := by decide +kernel
theorem dX4_rule_17 : decode cX4_rule 17 = .ok (.goto 5, 3) := by decide +kernel
theorem dX4_rule_20 : decode cX4_rule 20 = .ok (.bipush 30, 2) := by decide +kernel
theorem dX4_rule_22 : decode cX4_rule 22 = .ok (.invokestatic 93, 3) := by decide +kernel
theorem dX4_rule_25 : decode cX4_rule 25 = .ok (.ifCond .ne 5, 3) := by decide +kernel
theorem dX4_rule_28 : decode cX4_rule 28 = .ok (.iconst (-1), 1) := by decide +kernel
theorem dX4_rule_29 : decode cX4_rule 29 = .ok (.ireturn, 1) := by decide +kernel
theorem dX4_rule_30 : decode cX4_rule 30 = .ok (.iload_n 1, 1) := by decide +kernel
theorem dX4_rule_31 : decode cX4_rule 31 = .ok (.ifCond .ne 10, 3) := by decide +kernel
theorem dX4_rule_34 : decode cX4_rule 34 = .ok (.aload_n 0, 1) := by decide +kernel
theorem dX4_rule_35 : decode cX4_rule 35 = .ok (.getfield 7, 3) := by decide +kernel
theorem dX4_rule_38 : decode cX4_rule 38 = .ok (.goto 7, 3) := by decide +kernel
theorem dX4_rule_41 : decode cX4_rule 41 = .ok (.aload_n 0, 1) := by decide +kernel
theorem dX4_rule_42 : decode cX4_rule 42 = .ok (.getfield 13, 3) := by decide +kernel
theorem dX4_rule_45 : decode cX4_rule 45 = .ok (.istore_n 3, 1) := by decide +kernel
theorem dX4_rule_46 : decode cX4_rule 46 = .ok (.aload_n 0, 1) := by decide +kernel
theorem dX4_rule_47 : decode cX4_rule 47 = .ok (.iload_n 1, 1) := by decide +kernel
theorem dX4_rule_48 : decode cX4_rule 48 = .ok (.ifCond .ne 7, 3) := by decide +kernel
theorem dX4_rule_51 : decode cX4_rule 51 = .ok (.iload_n 2, 1) := by decide +kernel
theorem dX4_rule_52 : decode cX4_rule 52 = .ok (.goto 7, 3) := by decide +kernel
theorem dX4_rule_55 : decode cX4_rule 55 = .ok (.aload_n 0, 1) := by decide +kernel
theorem dX4_rule_56 : decode cX4_rule 56 = .ok (.getfield 7, 3) := by decide +kernel
theorem dX4_rule_59 : decode cX4_rule 59 = .ok (.putfield 7, 3) := by decide +kernel
theorem dX4_rule_62 : decode cX4_rule 62 = .ok (.aload_n 0, 1) := by decide +kernel
theorem dX4_rule_63 : decode cX4_rule 63 = .ok (.iload_n 1, 1) := by decide +kernel
theorem dX4_rule_64 : decode cX4_rule 64 = .ok (.iconst 1, 1) := by decide +kernel
theorem dX4_rule_65 : decode cX4_rule 65 = .ok (.if_icmp .ne 7, 3) := by decide +kernel
theorem dX4_rule_68 : decode cX4_rule 68 = .ok (.iload_n 2, 1) := by decide +kernel
theorem dX4_rule_69 : decode cX4_rule 69 = .ok (.goto 7, 3) := by decide +kernel
theorem dX4_rule_72 : decode cX4_rule 72 = .ok (.aload_n 0, 1) := by decide +kernel
theorem dX4_rule_73 : decode cX4_rule 73 = .ok (.getfield 13, 3) := by decide +kernel
theorem dX4_rule_76 : decode cX4_rule 76 = .ok (.putfield 13, 3) := by decide +kernel
theorem dX4_rule_79 : decode cX4_rule 79 = .ok (.iload_n 3, 1) := by decide +kernel
theorem dX4_rule_80 : decode cX4_rule 80 = .ok (.ireturn, 1) := by decide +kernel
theorem dX4_tell_0 : decode cX4_tell 0 = .ok (.aload_n 0, 1) := by decide +kernel
theorem dX4_tell_1 : decode cX4_tell 1 = .ok (.getfield 16, 3) := by decide +kernel
theorem dX4_tell_4 : decode cX4_tell 4 = .ok (.aload_n 0, 1) := by decide +kernel
theorem dX4_tell_5 : decode cX4_tell 5 = .ok (.getfield 97, 3) := by decide +kernel
theorem dX4_tell_8 : decode cX4_tell 8 = .ok (.iload_n 1, 1) := by decide +kernel
theorem dX4_tell_9 : decode cX4_tell 9 = .ok (.iastore, 1) := by decide +kernel
theorem dX4_tell_10 : decode cX4_tell 10 = .ok (.aload_n 0, 1) := by decide +kernel
theorem dX4_tell_11 : decode cX4_tell 11 = .ok (.getfield 20, 3) := by decide +kernel
theorem dX4_tell_14 : decode cX4_tell 14 = .ok (.aload_n 0, 1) := by decide +kernel
theorem dX4_tell_15 : decode cX4_tell 15 = .ok (.getfield 97, 3) := by decide +kernel
theorem dX4_tell_18 : decode cX4_tell 18 = .ok (.iload_n 2, 1) := by decide +kernel
theorem dX4_tell_19 : decode cX4_tell 19 = .ok (.iastore, 1) := by decide +kernel
theorem dX4_tell_20 : decode cX4_tell 20 = .ok (.aload_n 0, 1) := by decide +kernel
theorem dX4_tell_21 : decode cX4_tell 21 = .ok (.getfield 23, 3) := by decide +kernel
theorem dX4_tell_24 : decode cX4_tell 24 = .ok (.aload_n 0, 1) := by decide +kernel
theorem dX4_tell_25 : decode cX4_tell 25 = .ok (.getfield 97, 3) := by decide +kernel
theorem dX4_tell_28 : decode cX4_tell 28 = .ok (.aload_n 0, 1) := by decide +kernel
theorem dX4_tell_29 : decode cX4_tell 29 = .ok (.getfield 100, 3) := by decide +kernel
theorem dX4_tell_32 : decode cX4_tell 32 = .ok (.iastore, 1) := by decide +kernel
theorem dX4_tell_33 : decode cX4_tell 33 = .ok (.aload_n 0, 1) := by decide +kernel
theorem dX4_tell_34 : decode cX4_tell 34 = .ok (.getfield 26, 3) := by decide +kernel
theorem dX4_tell_37 : decode cX4_tell 37 = .ok (.aload_n 0, 1) := by decide +kernel
theorem dX4_tell_38 : decode cX4_tell 38 = .ok (.getfield 97, 3) := by decide +kernel
theorem dX4_tell_41 : decode cX4_tell 41 = .ok (.bipush (-4), 2) := by decide +kernel
theorem dX4_tell_43 : decode cX4_tell 43 = .ok (.iastore, 1) := by decide +kernel
theorem dX4_tell_44 : decode cX4_tell 44 = .ok (.aload_n 0, 1) := by decide +kernel
theorem dX4_tell_45 : decode cX4_tell 45 = .ok (.getfield 47, 3) := by decide +kernel
theorem dX4_tell_48 : decode cX4_tell 48 = .ok (.aload_n 0, 1) := by decide +kernel
theorem dX4_tell_49 : decode cX4_tell 49 = .ok (.getfield 97, 3) := by decide +kernel
theorem dX4_tell_52 : decode cX4_tell 52 = .ok (.iload_n 3, 1) := by decide +kernel
theorem dX4_tell_53 : decode cX4_tell 53 = .ok (.iastore, 1) := by decide +kernel
theorem dX4_tell_54 : decode cX4_tell 54 = .ok (.aload_n 0, 1) := by decide +kernel
theorem dX4_tell_55 : decode cX4_tell 55 = .ok (.getfield 29, 3) := by decide +kernel
theorem dX4_tell_58 : decode cX4_tell 58 = .ok (.aload_n 0, 1) := by decide +kernel
theorem dX4_tell_59 : decode cX4_tell 59 = .ok (.getfield 97, 3) := by decide +kernel
theorem dX4_tell_62 : decode cX4_tell 62 = .ok (.iload_n 3, 1) := by decide +kernel
theorem dX4_tell_63 : decode cX4_tell 63 = .ok (.ifCond .lt 12, 3) := by decide +kernel
theorem dX4_tell_66 : decode cX4_tell 66 = .ok (.aload_n 0, 1) := by decide +kernel
theorem dX4_tell_67 : decode cX4_tell 67 = .ok (.getfield 29, 3) := by decide +kernel
theorem dX4_tell_70 : decode cX4_tell 70 = .ok (.iload_n 3, 1) := by decide +kernel
theorem dX4_tell_71 : decode cX4_tell 71 = .ok (.iaload, 1) := by decide +kernel
theorem dX4_tell_72 : decode cX4_tell 72 = .ok (.goto 4, 3) := by decide +kernel
theorem dX4_tell_75 : decode cX4_tell 75 = .ok (.iconst 0, 1) := by decide +kernel
theorem dX4_tell_76 : decode cX4_tell 76 = .ok (.iastore, 1) := by decide +kernel
theorem dX4_tell_77 : decode cX4_tell 77 = .ok (.aload_n 0, 1) := by decide +kernel
theorem dX4_tell_78 : decode cX4_tell 78 = .ok (.getfield 32, 3) := by decide +kernel
theorem dX4_tell_81 : decode cX4_tell 81 = .ok (.aload_n 0, 1) := by decide +kernel
theorem dX4_tell_82 : decode cX4_tell 82 = .ok (.getfield 97, 3) := by decide +kernel
theorem dX4_tell_85 : decode cX4_tell 85 = .ok (.iload 4, 2) := by decide +kernel
theorem dX4_tell_87 : decode cX4_tell 87 = .ok (.iastore, 1) := by decide +kernel
theorem dX4_tell_88 : decode cX4_tell 88 = .ok (.aload_n 0, 1) := by decide +kernel
theorem dX4_tell_89 : decode cX4_tell 89 = .ok (.getfield 35, 3) := by decide +kernel
theorem dX4_tell_92 : decode cX4_tell 92 = .ok (.aload_n 0, 1) := by decide +kernel
theorem dX4_tell_93 : decode cX4_tell 93 = .ok (.getfield 97, 3) := by decide +kernel
theorem dX4_tell_96 : decode cX4_tell 96 = .ok (.bipush (-4), 2) := by decide +kernel
theorem dX4_tell_98 : decode cX4_tell 98 = .ok (.iastore, 1) := by decide +kernel
theorem dX4_tell_99 : decode cX4_tell 99 = .ok (.aload_n 0, 1) := by decide +kernel
theorem dX4_tell_100 : decode cX4_tell 100 = .ok (.getfield 38, 3) := by decide +kernel
theorem dX4_tell_103 : decode cX4_tell 103 = .ok (.aload_n 0, 1) := by decide +kernel
theorem dX4_tell_104 : decode cX4_tell 104 = .ok (.getfield 97, 3) := by decide +kernel
theorem dX4_tell_107 : decode cX4_tell 107 = .ok (.bipush (-4), 2) := by decide +kernel
theorem dX4_tell_109 : decode cX4_tell 109 = .ok (.iastore, 1) := by decide +kernel
theorem dX4_tell_110 : decode cX4_tell 110 = .ok (.aload_n 0, 1) := by decide +kernel
theorem dX4_tell_111 : decode cX4_tell 111 = .ok (.getfield 41, 3) := by decide +kernel
theorem dX4_tell_114 : decode cX4_tell 114 = .ok (.aload_n 0, 1) := by decide +kernel
theorem dX4_tell_115 : decode cX4_tell 115 = .ok (.getfield 97, 3) := by decide +kernel
theorem dX4_tell_118 : decode cX4_tell 118 = .ok (.bipush (-4), 2) := by decide +kernel
theorem dX4_tell_120 : decode cX4_tell 120 = .ok (.iastore, 1) := by decide +kernel
theorem dX4_tell_121 : decode cX4_tell 121 = .ok (.aload_n 0, 1) := by decide +kernel
theorem dX4_tell_122 : decode cX4_tell 122 = .ok (.getfield 44, 3) := by decide +kernel
theorem dX4_tell_125 : decode cX4_tell 125 = .ok (.aload_n 0, 1) := by decide +kernel
theorem dX4_tell_126 : decode cX4_tell 126 = .ok (.getfield 97, 3) := by decide +kernel
theorem dX4_tell_129 : decode cX4_tell 129 = .ok (.iconst 0, 1) := by decide +kernel
theorem dX4_tell_130 : decode cX4_tell 130 = .ok (.iastore, 1) := by decide +kernel
theorem dX4_tell_131 : decode cX4_tell 131 = .ok (.aload_n 0, 1) := by decide +kernel
theorem dX4_tell_132 : decode cX4_tell 132 = .ok (.dup, 1) := by decide +kernel
theorem dX4_tell_133 : decode cX4_tell 133 = .ok (.getfield 97, 3) := by decide +kernel
theorem dX4_tell_136 : decode cX4_tell 136 = .ok (.iconst 1, 1) := by decide +kernel
theorem dX4_tell_137 : decode cX4_tell 137 = .ok (.iadd, 1) := by decide +kernel
theorem dX4_tell_138 : decode cX4_tell 138 = .ok (.putfield 97, 3) := by decide +kernel
theorem dX4_tell_141 : decode cX4_tell 141 = .ok (.aload_n 0, 1) := by decide +kernel
theorem dX4_tell_142 : decode cX4_tell 142 = .ok (.getfield 97, 3) := by decide +kernel
theorem dX4_tell_145 : decode cX4_tell 145 = .ok (.iconst 1, 1) := by decide +kernel
theorem dX4_tell_146 : decode cX4_tell 146 = .ok (.isub, 1) := by decide +kernel
theorem dX4_tell_147 : decode cX4_tell 147 = .ok (.ireturn, 1) := by decide +kernel
theorem dX4_stake_0 : decode cX4_stake 0 = .ok (.iload_n 1, 1) := by decide +kernel
theorem dX4_stake_1 : decode cX4_stake 1 = .ok (.iconst 0, 1) := by decide +kernel
theorem dX4_stake_2 : decode cX4_stake 2 = .ok (.aload_n 0, 1) := by decide +kernel
theorem dX4_stake_3 : decode cX4_stake 3 = .ok (.getfield 100, 3) := by decide +kernel
theorem dX4_stake_6 : decode cX4_stake 6 = .ok (.invokestatic 93, 3) := by decide +kernel
theorem dX4_stake_9 : decode cX4_stake 9 = .ok (.ifCond .eq 25, 3) := by decide +kernel
theorem dX4_stake_12 : decode cX4_stake 12 = .ok (.iload_n 2, 1) := by decide +kernel
theorem dX4_stake_13 : decode cX4_stake 13 = .ok (.invokestatic 103, 3) := by decide +kernel
theorem dX4_stake_16 : decode cX4_stake 16 = .ok (.ifCond .eq 18, 3) := by decide +kernel
theorem dX4_stake_19 : decode cX4_stake 19 = .ok (.iload_n 3, 1) := by decide +kernel
theorem dX4_stake_20 : decode cX4_stake 20 = .ok (.invokestatic 107, 3) := by decide +kernel
theorem dX4_stake_23 : decode cX4_stake 23 = .ok (.ifCond .eq 11, 3) := by decide +kernel
theorem dX4_stake_26 : decode cX4_stake 26 = .ok (.iload 4, 2) := by decide +kernel
theorem dX4_stake_28 : decode cX4_stake 28 = .ok (.invokestatic 110, 3) := by decide +kernel
theorem dX4_stake_31 : decode cX4_stake 31 = .ok (.ifCond .ne 5, 3) := by decide +kernel
theorem dX4_stake_34 : decode cX4_stake 34 = .ok (.iconst (-1), 1) := by decide +kernel
theorem dX4_stake_35 : decode cX4_stake 35 = .ok (.ireturn, 1) := by decide +kernel
theorem dX4_stake_36 : decode cX4_stake 36 = .ok (.aload_n 0, 1) := by decide +kernel
theorem dX4_stake_37 : decode cX4_stake 37 = .ok (.getfield 97, 3) := by decide +kernel
theorem dX4_stake_40 : decode cX4_stake 40 = .ok (.bipush 90, 2) := by decide +kernel
theorem dX4_stake_42 : decode cX4_stake 42 = .ok (.if_icmp .eq 12, 3) := by decide +kernel
theorem dX4_stake_45 : decode cX4_stake 45 = .ok (.aload_n 0, 1) := by decide +kernel
theorem dX4_stake_46 : decode cX4_stake 46 = .ok (.getfield 113, 3) := by decide +kernel
theorem dX4_stake_49 : decode cX4_stake 49 = .ok (.bipush 20, 2) := by decide +kernel
theorem dX4_stake_51 : decode cX4_stake 51 = .ok (.if_icmp .ne 6, 3) := by decide +kernel
theorem dX4_stake_54 : decode cX4_stake 54 = .ok (.bipush (-2), 2) := by decide +kernel
theorem dX4_stake_56 : decode cX4_stake 56 = .ok (.ireturn, 1) := by decide +kernel
theorem dX4_stake_57 : decode cX4_stake 57 = .ok (.aload_n 0, 1) := by decide +kernel
theorem dX4_stake_58 : decode cX4_stake 58 = .ok (.iconst 0, 1) := by decide +kernel
theorem dX4_stake_59 : decode cX4_stake 59 = .ok (.iload_n 1, 1) := by decide +kernel
theorem dX4_stake_60 : decode cX4_stake 60 = .ok (.bipush (-4), 2) := by decide +kernel
theorem dX4_stake_62 : decode cX4_stake 62 = .ok (.iload 4, 2) := by decide +kernel
theorem dX4_stake_64 : decode cX4_stake 64 = .ok (.invokevirtual 116, 3) := by decide +kernel
theorem dX4_stake_67 : decode cX4_stake 67 = .ok (.istore 5, 2) := by decide +kernel
theorem dX4_stake_69 : decode cX4_stake 69 = .ok (.aload_n 0, 1) := by decide +kernel
theorem dX4_stake_70 : decode cX4_stake 70 = .ok (.getfield 47, 3) := by decide +kernel
theorem dX4_stake_73 : decode cX4_stake 73 = .ok (.iload 5, 2) := by decide +kernel
theorem dX4_stake_75 : decode cX4_stake 75 = .ok (.iload 5, 2) := by decide +kernel
theorem dX4_stake_77 : decode cX4_stake 77 = .ok (.iastore, 1) := by decide +kernel
theorem dX4_stake_78 : decode cX4_stake 78 = .ok (.aload_n 0, 1) := by decide +kernel
theorem dX4_stake_79 : decode cX4_stake 79 = .ok (.getfield 29, 3) := by decide +kernel
theorem dX4_stake_82 : decode cX4_stake 82 = .ok (.iload 5, 2) := by decide +kernel
theorem dX4_stake_84 : decode cX4_stake 84 = .ok (.iload_n 2, 1) := by decide +kernel
theorem dX4_stake_85 : decode cX4_stake 85 = .ok (.iastore, 1) := by decide +kernel
theorem dX4_stake_86 : decode cX4_stake 86 = .ok (.aload_n 0, 1) := by decide +kernel
theorem dX4_stake_87 : decode cX4_stake 87 = .ok (.getfield 38, 3) := by decide +kernel
theorem dX4_stake_90 : decode cX4_stake 90 = .ok (.iload 5, 2) := by decide +kernel
theorem dX4_stake_92 : decode cX4_stake 92 = .ok (.iload_n 3, 1) := by decide +kernel
theorem dX4_stake_93 : decode cX4_stake 93 = .ok (.aload_n 0, 1) := by decide +kernel
theorem dX4_stake_94 : decode cX4_stake 94 = .ok (.getfield 7, 3) := by decide +kernel
theorem dX4_stake_97 : decode cX4_stake 97 = .ok (.isub, 1) := by decide +kernel
theorem dX4_stake_98 : decode cX4_stake 98 = .ok (.ifCond .ge 7, 3) := by decide +kernel
theorem dX4_stake_101 : decode cX4_stake 101 = .ok (.iconst 0, 1) := by decide +kernel
theorem dX4_stake_102 : decode cX4_stake 102 = .ok (.goto 9, 3) := by decide +kernel
theorem dX4_stake_105 : decode cX4_stake 105 = .ok (.iload_n 3, 1) := by decide +kernel
theorem dX4_stake_106 : decode cX4_stake 106 = .ok (.aload_n 0, 1) := by decide +kernel
theorem dX4_stake_107 : decode cX4_stake 107 = .ok (.getfield 7, 3) := by decide +kernel
theorem dX4_stake_110 : decode cX4_stake 110 = .ok (.isub, 1) := by decide +kernel
theorem dX4_stake_111 : decode cX4_stake 111 = .ok (.iastore, 1) := by decide +kernel
theorem dX4_stake_112 : decode cX4_stake 112 = .ok (.aload_n 0, 1) := by decide +kernel
theorem dX4_stake_113 : decode cX4_stake 113 = .ok (.getfield 41, 3) := by decide +kernel
theorem dX4_stake_116 : decode cX4_stake 116 = .ok (.iload 5, 2) := by decide +kernel
theorem dX4_stake_118 : decode cX4_stake 118 = .ok (.iload_n 3, 1) := by decide +kernel
theorem dX4_stake_119 : decode cX4_stake 119 = .ok (.aload_n 0, 1) := by decide +kernel
theorem dX4_stake_120 : decode cX4_stake 120 = .ok (.getfield 7, 3) := by decide +kernel
theorem dX4_stake_123 : decode cX4_stake 123 = .ok (.iadd, 1) := by decide +kernel
theorem dX4_stake_124 : decode cX4_stake 124 = .ok (.bipush 59, 2) := by decide +kernel
theorem dX4_stake_126 : decode cX4_stake 126 = .ok (.if_icmp .le 8, 3) := by decide +kernel
theorem dX4_stake_129 : decode cX4_stake 129 = .ok (.bipush 59, 2) := by decide +kernel
theorem dX4_stake_131 : decode cX4_stake 131 = .ok (.goto 9, 3) := by decide +kernel
theorem dX4_stake_134 : decode cX4_stake 134 = .ok (.iload_n 3, 1) := by decide +kernel
theorem dX4_stake_135 : decode cX4_stake 135 = .ok (.aload_n 0, 1) := by decide +kernel
theorem dX4_stake_136 : decode cX4_stake 136 = .ok (.getfield 7, 3) := by decide +kernel
theorem dX4_stake_139 : decode cX4_stake 139 = .ok (.iadd, 1) := by decide +kernel
theorem dX4_stake_140 : decode cX4_stake 140 = .ok (.iastore, 1) := by decide +kernel
theorem dX4_stake_141 : decode cX4_stake 141 = .ok (.aload_n 0, 1) := by decide +kernel
theorem dX4_stake_142 : decode cX4_stake 142 = .ok (.dup, 1) := by decide +kernel
theorem dX4_stake_143 : decode cX4_stake 143 = .ok (.getfield 113, 3) := by decide +kernel
theorem dX4_stake_146 : decode cX4_stake 146 = .ok (.iconst 1, 1) := by decide +kernel
theorem dX4_stake_147 : decode cX4_stake 147 = .ok (.iadd, 1) := by decide +kernel
theorem dX4_stake_148 : decode cX4_stake 148 = .ok (.putfield 113, 3) := by decide +kernel
theorem dX4_stake_151 : decode cX4_stake 151 = .ok (.iload 5, 2) := by decide +kernel
theorem dX4_stake_153 : decode cX4_stake 153 = .ok (.ireturn, 1) := by decide +kernel
theorem dX4_wrong_0 : decode cX4_wrong 0 = .ok (.iload_n 1, 1) := by decide +kernel
theorem dX4_wrong_1 : decode cX4_wrong 1 = .ok (.iconst 0, 1) := by decide +kernel
theorem dX4_wrong_2 : decode cX4_wrong 2 = .ok (.aload_n 0, 1) := by decide +kernel
theorem dX4_wrong_3 : decode cX4_wrong 3 = .ok (.getfield 100, 3) := by decide +kernel
theorem dX4_wrong_6 : decode cX4_wrong 6 = .ok (.invokestatic 93, 3) := by decide +kernel
theorem dX4_wrong_9 : decode cX4_wrong 9 = .ok (.ifCond .eq 15, 3) := by decide +kernel
theorem dX4_wrong_12 : decode cX4_wrong 12 = .ok (.aload_n 0, 1) := by decide +kernel
theorem dX4_wrong_13 : decode cX4_wrong 13 = .ok (.iload_n 2, 1) := by decide +kernel
theorem dX4_wrong_14 : decode cX4_wrong 14 = .ok (.invokevirtual 120, 3) := by decide +kernel
theorem dX4_wrong_17 : decode cX4_wrong 17 = .ok (.ifCond .eq 7, 3) := by decide +kernel
theorem dX4_wrong_20 : decode cX4_wrong 20 = .ok (.iload_n 3, 1) := by decide +kernel
theorem dX4_wrong_21 : decode cX4_wrong 21 = .ok (.ifCond .ne 5, 3) := by decide +kernel
theorem dX4_wrong_24 : decode cX4_wrong 24 = .ok (.iconst (-1), 1) := by decide +kernel
theorem dX4_wrong_25 : decode cX4_wrong 25 = .ok (.ireturn, 1) := by decide +kernel
theorem dX4_wrong_26 : decode cX4_wrong 26 = .ok (.aload_n 0, 1) := by decide +kernel
theorem dX4_wrong_27 : decode cX4_wrong 27 = .ok (.getfield 16, 3) := by decide +kernel
theorem dX4_wrong_30 : decode cX4_wrong 30 = .ok (.iload_n 2, 1) := by decide +kernel
theorem dX4_wrong_31 : decode cX4_wrong 31 = .ok (.iaload, 1) := by decide +kernel
theorem dX4_wrong_32 : decode cX4_wrong 32 = .ok (.ifCond .eq 6, 3) := by decide +kernel
theorem dX4_wrong_35 : decode cX4_wrong 35 = .ok (.bipush (-3), 2) := by decide +kernel
theorem dX4_wrong_37 : decode cX4_wrong 37 = .ok (.ireturn, 1) := by decide +kernel
theorem dX4_wrong_38 : decode cX4_wrong 38 = .ok (.aload_n 0, 1) := by decide +kernel
theorem dX4_wrong_39 : decode cX4_wrong 39 = .ok (.getfield 97, 3) := by decide +kernel
theorem dX4_wrong_42 : decode cX4_wrong 42 = .ok (.bipush 90, 2) := by decide +kernel
theorem dX4_wrong_44 : decode cX4_wrong 44 = .ok (.if_icmp .ne 8, 3) := by decide +kernel
theorem dX4_wrong_47 : decode cX4_wrong 47 = .ok (.bipush (-2), 2) := by decide +kernel
theorem dX4_wrong_49 : decode cX4_wrong 49 = .ok (.goto 4, 3) := by decide +kernel
theorem dX4_wrong_52 : decode cX4_wrong 52 = .ok (.iconst 0, 1) := by decide +kernel
theorem dX4_wrong_53 : decode cX4_wrong 53 = .ok (.ireturn, 1) := by decide +kernel
theorem dX4_work_0 : decode cX4_work 0 = .ok (.aload_n 0, 1) := by decide +kernel
theorem dX4_work_1 : decode cX4_work 1 = .ok (.iload_n 1, 1) := by decide +kernel
theorem dX4_work_2 : decode cX4_work 2 = .ok (.iload_n 2, 1) := by decide +kernel
theorem dX4_work_3 : decode cX4_work 3 = .ok (.iconst 1, 1) := by decide +kernel
theorem dX4_work_4 : decode cX4_work 4 = .ok (.invokevirtual 123, 3) := by decide +kernel
theorem dX4_work_7 : decode cX4_work 7 = .ok (.istore_n 3, 1) := by decide +kernel
theorem dX4_work_8 : decode cX4_work 8 = .ok (.iload_n 3, 1) := by decide +kernel
theorem dX4_work_9 : decode cX4_work 9 = .ok (.ifCond .ge 7, 3) := by decide +kernel
theorem dX4_work_12 : decode cX4_work 12 = .ok (.iload_n 3, 1) := by decide +kernel
theorem dX4_work_13 : decode cX4_work 13 = .ok (.goto 12, 3) := by decide +kernel
theorem dX4_work_16 : decode cX4_work 16 = .ok (.aload_n 0, 1) := by decide +kernel
theorem dX4_work_17 : decode cX4_work 17 = .ok (.iconst 1, 1) := by decide +kernel
theorem dX4_work_18 : decode cX4_work 18 = .ok (.iload_n 1, 1) := by decide +kernel
theorem dX4_work_19 : decode cX4_work 19 = .ok (.iload_n 2, 1) := by decide +kernel
theorem dX4_work_20 : decode cX4_work 20 = .ok (.bipush (-4), 2) := by decide +kernel
theorem dX4_work_22 : decode cX4_work 22 = .ok (.invokevirtual 116, 3) := by decide +kernel
theorem dX4_work_25 : decode cX4_work 25 = .ok (.ireturn, 1) := by decide +kernel
theorem dX4_nick_0 : decode cX4_nick 0 = .ok (.aload_n 0, 1) := by decide +kernel
theorem dX4_nick_1 : decode cX4_nick 1 = .ok (.iload_n 1, 1) := by decide +kernel
theorem dX4_nick_2 : decode cX4_nick 2 = .ok (.iload_n 2, 1) := by decide +kernel
theorem dX4_nick_3 : decode cX4_nick 3 = .ok (.iload_n 3, 1) := by decide +kernel
theorem dX4_nick_4 : decode cX4_nick 4 = .ok (.invokestatic 110, 3) := by decide +kernel
theorem dX4_nick_7 : decode cX4_nick 7 = .ok (.invokevirtual 123, 3) := by decide +kernel
theorem dX4_nick_10 : decode cX4_nick 10 = .ok (.istore 4, 2) := by decide +kernel
theorem dX4_nick_12 : decode cX4_nick 12 = .ok (.iload 4, 2) := by decide +kernel
theorem dX4_nick_14 : decode cX4_nick 14 = .ok (.ifCond .ge 8, 3) := by decide +kernel
theorem dX4_nick_17 : decode cX4_nick 17 = .ok (.iload 4, 2) := by decide +kernel
theorem dX4_nick_19 : decode cX4_nick 19 = .ok (.goto 11, 3) := by decide +kernel
theorem dX4_nick_22 : decode cX4_nick 22 = .ok (.aload_n 0, 1) := by decide +kernel
theorem dX4_nick_23 : decode cX4_nick 23 = .ok (.iconst 2, 1) := by decide +kernel
theorem dX4_nick_24 : decode cX4_nick 24 = .ok (.iload_n 1, 1) := by decide +kernel
theorem dX4_nick_25 : decode cX4_nick 25 = .ok (.iload_n 2, 1) := by decide +kernel
theorem dX4_nick_26 : decode cX4_nick 26 = .ok (.iload_n 3, 1) := by decide +kernel
theorem dX4_nick_27 : decode cX4_nick 27 = .ok (.invokevirtual 116, 3) := by decide +kernel
theorem dX4_nick_30 : decode cX4_nick 30 = .ok (.ireturn, 1) := by decide +kernel
theorem dX4_give_0 : decode cX4_give 0 = .ok (.aload_n 0, 1) := by decide +kernel
theorem dX4_give_1 : decode cX4_give 1 = .ok (.iload_n 1, 1) := by decide +kernel
theorem dX4_give_2 : decode cX4_give 2 = .ok (.iload_n 2, 1) := by decide +kernel
theorem dX4_give_3 : decode cX4_give 3 = .ok (.iconst 1, 1) := by decide +kernel
theorem dX4_give_4 : decode cX4_give 4 = .ok (.invokevirtual 123, 3) := by decide +kernel
theorem dX4_give_7 : decode cX4_give 7 = .ok (.istore_n 3, 1) := by decide +kernel
theorem dX4_give_8 : decode cX4_give 8 = .ok (.iload_n 3, 1) := by decide +kernel
theorem dX4_give_9 : decode cX4_give 9 = .ok (.ifCond .ge 7, 3) := by decide +kernel
theorem dX4_give_12 : decode cX4_give 12 = .ok (.iload_n 3, 1) := by decide +kernel
theorem dX4_give_13 : decode cX4_give 13 = .ok (.goto 12, 3) := by decide +kernel
theorem dX4_give_16 : decode cX4_give 16 = .ok (.aload_n 0, 1) := by decide +kernel
theorem dX4_give_17 : decode cX4_give 17 = .ok (.iconst 3, 1) := by decide +kernel
theorem dX4_give_18 : decode cX4_give 18 = .ok (.iload_n 1, 1) := by decide +kernel
theorem dX4_give_19 : decode cX4_give 19 = .ok (.iload_n 2, 1) := by decide +kernel
theorem dX4_give_20 : decode cX4_give 20 = .ok (.bipush (-4), 2) := by decide +kernel
theorem dX4_give_22 : decode cX4_give 22 = .ok (.invokevirtual 116, 3) := by decide +kernel
theorem dX4_give_25 : decode cX4_give 25 = .ok (.ireturn, 1) := by decide +kernel
theorem dX4_view_0 : decode cX4_view 0 = .ok (.aload_n 0, 1) := by decide +kernel
theorem dX4_view_1 : decode cX4_view 1 = .ok (.iload_n 1, 1) := by decide +kernel
theorem dX4_view_2 : decode cX4_view 2 = .ok (.iload_n 2, 1) := by decide +kernel
theorem dX4_view_3 : decode cX4_view 3 = .ok (.iload_n 3, 1) := by decide +kernel
theorem dX4_view_4 : decode cX4_view 4 = .ok (.invokestatic 107, 3) := by decide +kernel
theorem dX4_view_7 : decode cX4_view 7 = .ok (.ifCond .eq 21, 3) := by decide +kernel
theorem dX4_view_10 : decode cX4_view 10 = .ok (.iload 4, 2) := by decide +kernel
theorem dX4_view_12 : decode cX4_view 12 = .ok (.invokestatic 107, 3) := by decide +kernel
theorem dX4_view_15 : decode cX4_view 15 = .ok (.ifCond .eq 13, 3) := by decide +kernel
theorem dX4_view_18 : decode cX4_view 18 = .ok (.iload_n 3, 1) := by decide +kernel
theorem dX4_view_19 : decode cX4_view 19 = .ok (.iload 4, 2) := by decide +kernel
theorem dX4_view_21 : decode cX4_view 21 = .ok (.if_icmp .gt 7, 3) := by decide +kernel
theorem dX4_view_24 : decode cX4_view 24 = .ok (.iconst 1, 1) := by decide +kernel
theorem dX4_view_25 : decode cX4_view 25 = .ok (.goto 4, 3) := by decide +kernel
theorem dX4_view_28 : decode cX4_view 28 = .ok (.iconst 0, 1) := by decide +kernel
theorem dX4_view_29 : decode cX4_view 29 = .ok (.invokevirtual 123, 3) := by decide +kernel
theorem dX4_view_32 : decode cX4_view 32 = .ok (.istore 5, 2) := by decide +kernel
theorem dX4_view_34 : decode cX4_view 34 = .ok (.iload 5, 2) := by decide +kernel
theorem dX4_view_36 : decode cX4_view 36 = .ok (.ifCond .ge 6, 3) := by decide +kernel
theorem dX4_view_39 : decode cX4_view 39 = .ok (.iload 5, 2) := by decide +kernel
theorem dX4_view_41 : decode cX4_view 41 = .ok (.ireturn, 1) := by decide +kernel
theorem dX4_view_42 : decode cX4_view 42 = .ok (.aload_n 0, 1) := by decide +kernel
theorem dX4_view_43 : decode cX4_view 43 = .ok (.iconst 4, 1) := by decide +kernel
theorem dX4_view_44 : decode cX4_view 44 = .ok (.iload_n 1, 1) := by decide +kernel
theorem dX4_view_45 : decode cX4_view 45 = .ok (.iload_n 2, 1) := by decide +kernel
theorem dX4_view_46 : decode cX4_view 46 = .ok (.bipush (-4), 2) := by decide +kernel
theorem dX4_view_48 : decode cX4_view 48 = .ok (.invokevirtual 116, 3) := by decide +kernel
theorem dX4_view_51 : decode cX4_view 51 = .ok (.istore 6, 2) := by decide +kernel
end
section
theorem dX4_view_53 : decode cX4_view 53 = .ok (.aload_n 0, 1) := by decide +kernel
theorem dX4_view_54 : decode cX4_view 54 = .ok (.getfield 38, 3) := by decide +kernel
theorem dX4_view_57 : decode cX4_view 57 = .ok (.iload 6, 2) := by decide +kernel
theorem dX4_view_59 : decode cX4_view 59 = .ok (.iload_n 3, 1) := by decide +kernel
theorem dX4_view_60 : decode cX4_view 60 = .ok (.iastore, 1) := by decide +kernel
theorem dX4_view_61 : decode cX4_view 61 = .ok (.aload_n 0, 1) := by decide +kernel
theorem dX4_view_62 : decode cX4_view 62 = .ok (.getfield 41, 3) := by decide +kernel
theorem dX4_view_65 : decode cX4_view 65 = .ok (.iload 6, 2) := by decide +kernel
theorem dX4_view_67 : decode cX4_view 67 = .ok (.iload 4, 2) := by decide +kernel
theorem dX4_view_69 : decode cX4_view 69 = .ok (.iastore, 1) := by decide +kernel
theorem dX4_view_70 : decode cX4_view 70 = .ok (.iload 6, 2) := by decide +kernel
theorem dX4_view_72 : decode cX4_view 72 = .ok (.ireturn, 1) := by decide +kernel
theorem dX4_sell_0 : decode cX4_sell 0 = .ok (.aload_n 0, 1) := by decide +kernel
theorem dX4_sell_1 : decode cX4_sell 1 = .ok (.iload_n 1, 1) := by decide +kernel
theorem dX4_sell_2 : decode cX4_sell 2 = .ok (.iload_n 2, 1) := by decide +kernel
theorem dX4_sell_3 : decode cX4_sell 3 = .ok (.iload_n 3, 1) := by decide +kernel
theorem dX4_sell_4 : decode cX4_sell 4 = .ok (.invokestatic 110, 3) := by decide +kernel
theorem dX4_sell_7 : decode cX4_sell 7 = .ok (.ifCond .eq 32, 3) := by decide +kernel
theorem dX4_sell_10 : decode cX4_sell 10 = .ok (.iload 4, 2) := by decide +kernel
theorem dX4_sell_12 : decode cX4_sell 12 = .ok (.invokestatic 110, 3) := by decide +kernel
theorem dX4_sell_15 : decode cX4_sell 15 = .ok (.ifCond .eq 24, 3) := by decide +kernel
theorem dX4_sell_18 : decode cX4_sell 18 = .ok (.iload_n 3, 1) := by decide +kernel
theorem dX4_sell_19 : decode cX4_sell 19 = .ok (.iload 4, 2) := by decide +kernel
theorem dX4_sell_21 : decode cX4_sell 21 = .ok (.if_icmp .eq 18, 3) := by decide +kernel
theorem dX4_sell_24 : decode cX4_sell 24 = .ok (.iload 5, 2) := by decide +kernel
theorem dX4_sell_26 : decode cX4_sell 26 = .ok (.iconst 1, 1) := by decide +kernel
theorem dX4_sell_27 : decode cX4_sell 27 = .ok (.bipush 24, 2) := by decide +kernel
theorem dX4_sell_29 : decode cX4_sell 29 = .ok (.invokestatic 93, 3) := by decide +kernel
theorem dX4_sell_32 : decode cX4_sell 32 = .ok (.ifCond .eq 7, 3) := by decide +kernel
theorem dX4_sell_35 : decode cX4_sell 35 = .ok (.iconst 1, 1) := by decide +kernel
theorem dX4_sell_36 : decode cX4_sell 36 = .ok (.goto 4, 3) := by decide +kernel
theorem dX4_sell_39 : decode cX4_sell 39 = .ok (.iconst 0, 1) := by decide +kernel
theorem dX4_sell_40 : decode cX4_sell 40 = .ok (.invokevirtual 123, 3) := by decide +kernel
theorem dX4_sell_43 : decode cX4_sell 43 = .ok (.istore 6, 2) := by decide +kernel
theorem dX4_sell_45 : decode cX4_sell 45 = .ok (.iload 6, 2) := by decide +kernel
theorem dX4_sell_47 : decode cX4_sell 47 = .ok (.ifCond .ge 6, 3) := by decide +kernel
theorem dX4_sell_50 : decode cX4_sell 50 = .ok (.iload 6, 2) := by decide +kernel
theorem dX4_sell_52 : decode cX4_sell 52 = .ok (.ireturn, 1) := by decide +kernel
theorem dX4_sell_53 : decode cX4_sell 53 = .ok (.aload_n 0, 1) := by decide +kernel
theorem dX4_sell_54 : decode cX4_sell 54 = .ok (.iconst 5, 1) := by decide +kernel
theorem dX4_sell_55 : decode cX4_sell 55 = .ok (.iload_n 1, 1) := by decide +kernel
theorem dX4_sell_56 : decode cX4_sell 56 = .ok (.iload_n 2, 1) := by decide +kernel
theorem dX4_sell_57 : decode cX4_sell 57 = .ok (.iload_n 3, 1) := by decide +kernel
theorem dX4_sell_58 : decode cX4_sell 58 = .ok (.invokevirtual 116, 3) := by decide +kernel
theorem dX4_sell_61 : decode cX4_sell 61 = .ok (.istore 7, 2) := by decide +kernel
theorem dX4_sell_63 : decode cX4_sell 63 = .ok (.aload_n 0, 1) := by decide +kernel
theorem dX4_sell_64 : decode cX4_sell 64 = .ok (.getfield 35, 3) := by decide +kernel
theorem dX4_sell_67 : decode cX4_sell 67 = .ok (.iload 7, 2) := by decide +kernel
theorem dX4_sell_69 : decode cX4_sell 69 = .ok (.iload 4, 2) := by decide +kernel
theorem dX4_sell_71 : decode cX4_sell 71 = .ok (.iastore, 1) := by decide +kernel
theorem dX4_sell_72 : decode cX4_sell 72 = .ok (.aload_n 0, 1) := by decide +kernel
theorem dX4_sell_73 : decode cX4_sell 73 = .ok (.getfield 44, 3) := by decide +kernel
theorem dX4_sell_76 : decode cX4_sell 76 = .ok (.iload 7, 2) := by decide +kernel
theorem dX4_sell_78 : decode cX4_sell 78 = .ok (.iload 5, 2) := by decide +kernel
theorem dX4_sell_80 : decode cX4_sell 80 = .ok (.iastore, 1) := by decide +kernel
theorem dX4_sell_81 : decode cX4_sell 81 = .ok (.iload 7, 2) := by decide +kernel
theorem dX4_sell_83 : decode cX4_sell 83 = .ok (.ireturn, 1) := by decide +kernel
theorem dX4_dig_0 : decode cX4_dig 0 = .ok (.iload_n 1, 1) := by decide +kernel
theorem dX4_dig_1 : decode cX4_dig 1 = .ok (.iconst 0, 1) := by decide +kernel
theorem dX4_dig_2 : decode cX4_dig 2 = .ok (.aload_n 0, 1) := by decide +kernel
theorem dX4_dig_3 : decode cX4_dig 3 = .ok (.getfield 100, 3) := by decide +kernel
theorem dX4_dig_6 : decode cX4_dig 6 = .ok (.invokestatic 93, 3) := by decide +kernel
theorem dX4_dig_9 : decode cX4_dig 9 = .ok (.ifCond .eq 29, 3) := by decide +kernel
theorem dX4_dig_12 : decode cX4_dig 12 = .ok (.iload_n 2, 1) := by decide +kernel
theorem dX4_dig_13 : decode cX4_dig 13 = .ok (.invokestatic 103, 3) := by decide +kernel
theorem dX4_dig_16 : decode cX4_dig 16 = .ok (.ifCond .eq 22, 3) := by decide +kernel
theorem dX4_dig_19 : decode cX4_dig 19 = .ok (.iload_n 3, 1) := by decide +kernel
theorem dX4_dig_20 : decode cX4_dig 20 = .ok (.invokestatic 107, 3) := by decide +kernel
theorem dX4_dig_23 : decode cX4_dig 23 = .ok (.ifCond .eq 15, 3) := by decide +kernel
theorem dX4_dig_26 : decode cX4_dig 26 = .ok (.iload 4, 2) := by decide +kernel
theorem dX4_dig_28 : decode cX4_dig 28 = .ok (.iconst 1, 1) := by decide +kernel
theorem dX4_dig_29 : decode cX4_dig 29 = .ok (.sipush 1000, 3) := by decide +kernel
theorem dX4_dig_32 : decode cX4_dig 32 = .ok (.invokestatic 93, 3) := by decide +kernel
theorem dX4_dig_35 : decode cX4_dig 35 = .ok (.ifCond .ne 5, 3) := by decide +kernel
theorem dX4_dig_38 : decode cX4_dig 38 = .ok (.iconst (-1), 1) := by decide +kernel
theorem dX4_dig_39 : decode cX4_dig 39 = .ok (.ireturn, 1) := by decide +kernel
theorem dX4_dig_40 : decode cX4_dig 40 = .ok (.aload_n 0, 1) := by decide +kernel
theorem dX4_dig_41 : decode cX4_dig 41 = .ok (.getfield 97, 3) := by decide +kernel
theorem dX4_dig_44 : decode cX4_dig 44 = .ok (.bipush 90, 2) := by decide +kernel
theorem dX4_dig_46 : decode cX4_dig 46 = .ok (.if_icmp .ne 6, 3) := by decide +kernel
theorem dX4_dig_49 : decode cX4_dig 49 = .ok (.bipush (-2), 2) := by decide +kernel
theorem dX4_dig_51 : decode cX4_dig 51 = .ok (.ireturn, 1) := by decide +kernel
theorem dX4_dig_52 : decode cX4_dig 52 = .ok (.aload_n 0, 1) := by decide +kernel
theorem dX4_dig_53 : decode cX4_dig 53 = .ok (.bipush 6, 2) := by decide +kernel
theorem dX4_dig_55 : decode cX4_dig 55 = .ok (.iload_n 1, 1) := by decide +kernel
theorem dX4_dig_56 : decode cX4_dig 56 = .ok (.bipush (-4), 2) := by decide +kernel
theorem dX4_dig_58 : decode cX4_dig 58 = .ok (.bipush (-4), 2) := by decide +kernel
theorem dX4_dig_60 : decode cX4_dig 60 = .ok (.invokevirtual 116, 3) := by decide +kernel
theorem dX4_dig_63 : decode cX4_dig 63 = .ok (.istore 5, 2) := by decide +kernel
theorem dX4_dig_65 : decode cX4_dig 65 = .ok (.aload_n 0, 1) := by decide +kernel
theorem dX4_dig_66 : decode cX4_dig 66 = .ok (.getfield 29, 3) := by decide +kernel
theorem dX4_dig_69 : decode cX4_dig 69 = .ok (.iload 5, 2) := by decide +kernel
theorem dX4_dig_71 : decode cX4_dig 71 = .ok (.iload_n 2, 1) := by decide +kernel
theorem dX4_dig_72 : decode cX4_dig 72 = .ok (.iastore, 1) := by decide +kernel
theorem dX4_dig_73 : decode cX4_dig 73 = .ok (.aload_n 0, 1) := by decide +kernel
theorem dX4_dig_74 : decode cX4_dig 74 = .ok (.getfield 38, 3) := by decide +kernel
theorem dX4_dig_77 : decode cX4_dig 77 = .ok (.iload 5, 2) := by decide +kernel
theorem dX4_dig_79 : decode cX4_dig 79 = .ok (.iload_n 3, 1) := by decide +kernel
theorem dX4_dig_80 : decode cX4_dig 80 = .ok (.iastore, 1) := by decide +kernel
theorem dX4_dig_81 : decode cX4_dig 81 = .ok (.aload_n 0, 1) := by decide +kernel
theorem dX4_dig_82 : decode cX4_dig 82 = .ok (.getfield 41, 3) := by decide +kernel
theorem dX4_dig_85 : decode cX4_dig 85 = .ok (.iload 5, 2) := by decide +kernel
theorem dX4_dig_87 : decode cX4_dig 87 = .ok (.iload_n 3, 1) := by decide +kernel
theorem dX4_dig_88 : decode cX4_dig 88 = .ok (.iastore, 1) := by decide +kernel
theorem dX4_dig_89 : decode cX4_dig 89 = .ok (.aload_n 0, 1) := by decide +kernel
theorem dX4_dig_90 : decode cX4_dig 90 = .ok (.getfield 44, 3) := by decide +kernel
theorem dX4_dig_93 : decode cX4_dig 93 = .ok (.iload 5, 2) := by decide +kernel
theorem dX4_dig_95 : decode cX4_dig 95 = .ok (.iload 4, 2) := by decide +kernel
theorem dX4_dig_97 : decode cX4_dig 97 = .ok (.iastore, 1) := by decide +kernel
theorem dX4_dig_98 : decode cX4_dig 98 = .ok (.iload 5, 2) := by decide +kernel
theorem dX4_dig_100 : decode cX4_dig 100 = .ok (.ireturn, 1) := by decide +kernel
theorem dX4_withdraw_0 : decode cX4_withdraw 0 = .ok (.aload_n 0, 1) := by decide +kernel
theorem dX4_withdraw_1 : decode cX4_withdraw 1 = .ok (.iload_n 1, 1) := by decide +kernel
theorem dX4_withdraw_2 : decode cX4_withdraw 2 = .ok (.invokevirtual 120, 3) := by decide +kernel
theorem dX4_withdraw_5 : decode cX4_withdraw 5 = .ok (.ifCond .ne 5, 3) := by decide +kernel
theorem dX4_withdraw_8 : decode cX4_withdraw 8 = .ok (.iconst (-1), 1) := by decide +kernel
theorem dX4_withdraw_9 : decode cX4_withdraw 9 = .ok (.ireturn, 1) := by decide +kernel
theorem dX4_withdraw_10 : decode cX4_withdraw 10 = .ok (.aload_n 0, 1) := by decide +kernel
theorem dX4_withdraw_11 : decode cX4_withdraw 11 = .ok (.getfield 26, 3) := by decide +kernel
theorem dX4_withdraw_14 : decode cX4_withdraw 14 = .ok (.iload_n 1, 1) := by decide +kernel
theorem dX4_withdraw_15 : decode cX4_withdraw 15 = .ok (.iaload, 1) := by decide +kernel
theorem dX4_withdraw_16 : decode cX4_withdraw 16 = .ok (.bipush (-4), 2) := by decide +kernel
theorem dX4_withdraw_18 : decode cX4_withdraw 18 = .ok (.if_icmp .eq 6, 3) := by decide +kernel
theorem dX4_withdraw_21 : decode cX4_withdraw 21 = .ok (.bipush (-5), 2) := by decide +kernel
theorem dX4_withdraw_23 : decode cX4_withdraw 23 = .ok (.ireturn, 1) := by decide +kernel
theorem dX4_withdraw_24 : decode cX4_withdraw 24 = .ok (.aload_n 0, 1) := by decide +kernel
theorem dX4_withdraw_25 : decode cX4_withdraw 25 = .ok (.getfield 26, 3) := by decide +kernel
theorem dX4_withdraw_28 : decode cX4_withdraw 28 = .ok (.iload_n 1, 1) := by decide +kernel
theorem dX4_withdraw_29 : decode cX4_withdraw 29 = .ok (.aload_n 0, 1) := by decide +kernel
theorem dX4_withdraw_30 : decode cX4_withdraw 30 = .ok (.getfield 100, 3) := by decide +kernel
theorem dX4_withdraw_33 : decode cX4_withdraw 33 = .ok (.iastore, 1) := by decide +kernel
theorem dX4_withdraw_34 : decode cX4_withdraw 34 = .ok (.iconst 1, 1) := by decide +kernel
theorem dX4_withdraw_35 : decode cX4_withdraw 35 = .ok (.ireturn, 1) := by decide +kernel
theorem dX4_fact_0 : decode cX4_fact 0 = .ok (.aload_n 0, 1) := by decide +kernel
theorem dX4_fact_1 : decode cX4_fact 1 = .ok (.iload_n 1, 1) := by decide +kernel
theorem dX4_fact_2 : decode cX4_fact 2 = .ok (.invokevirtual 120, 3) := by decide +kernel
theorem dX4_fact_5 : decode cX4_fact 5 = .ok (.ifCond .eq 13, 3) := by decide +kernel
theorem dX4_fact_8 : decode cX4_fact 8 = .ok (.iload_n 2, 1) := by decide +kernel
theorem dX4_fact_9 : decode cX4_fact 9 = .ok (.iconst 0, 1) := by decide +kernel
theorem dX4_fact_10 : decode cX4_fact 10 = .ok (.bipush 9, 2) := by decide +kernel
theorem dX4_fact_12 : decode cX4_fact 12 = .ok (.invokestatic 93, 3) := by decide +kernel
theorem dX4_fact_15 : decode cX4_fact 15 = .ok (.ifCond .ne 5, 3) := by decide +kernel
theorem dX4_fact_18 : decode cX4_fact 18 = .ok (.iconst (-1), 1) := by decide +kernel
theorem dX4_fact_19 : decode cX4_fact 19 = .ok (.ireturn, 1) := by decide +kernel
theorem dX4_fact_20 : decode cX4_fact 20 = .ok (.iload_n 2, 1) := by decide +kernel
theorem dX4_fact_21 : decode cX4_fact 21 = .ok (.tableswitch 114 0 8 #[51, 58, 65, 72, 79, 86, 93, 100, 107], 51) := by decide +kernel
theorem dX4_fact_72 : decode cX4_fact 72 = .ok (.aload_n 0, 1) := by decide +kernel
theorem dX4_fact_73 : decode cX4_fact 73 = .ok (.getfield 16, 3) := by decide +kernel
theorem dX4_fact_76 : decode cX4_fact 76 = .ok (.iload_n 1, 1) := by decide +kernel
theorem dX4_fact_77 : decode cX4_fact 77 = .ok (.iaload, 1) := by decide +kernel
theorem dX4_fact_78 : decode cX4_fact 78 = .ok (.ireturn, 1) := by decide +kernel
theorem dX4_fact_79 : decode cX4_fact 79 = .ok (.aload_n 0, 1) := by decide +kernel
theorem dX4_fact_80 : decode cX4_fact 80 = .ok (.getfield 20, 3) := by decide +kernel
theorem dX4_fact_83 : decode cX4_fact 83 = .ok (.iload_n 1, 1) := by decide +kernel
theorem dX4_fact_84 : decode cX4_fact 84 = .ok (.iaload, 1) := by decide +kernel
theorem dX4_fact_85 : decode cX4_fact 85 = .ok (.ireturn, 1) := by decide +kernel
theorem dX4_fact_86 : decode cX4_fact 86 = .ok (.aload_n 0, 1) := by decide +kernel
theorem dX4_fact_87 : decode cX4_fact 87 = .ok (.getfield 23, 3) := by decide +kernel
theorem dX4_fact_90 : decode cX4_fact 90 = .ok (.iload_n 1, 1) := by decide +kernel
theorem dX4_fact_91 : decode cX4_fact 91 = .ok (.iaload, 1) := by decide +kernel
theorem dX4_fact_92 : decode cX4_fact 92 = .ok (.ireturn, 1) := by decide +kernel
theorem dX4_fact_93 : decode cX4_fact 93 = .ok (.aload_n 0, 1) := by decide +kernel
theorem dX4_fact_94 : decode cX4_fact 94 = .ok (.getfield 26, 3) := by decide +kernel
theorem dX4_fact_97 : decode cX4_fact 97 = .ok (.iload_n 1, 1) := by decide +kernel
theorem dX4_fact_98 : decode cX4_fact 98 = .ok (.iaload, 1) := by decide +kernel
theorem dX4_fact_99 : decode cX4_fact 99 = .ok (.ireturn, 1) := by decide +kernel
theorem dX4_fact_100 : decode cX4_fact 100 = .ok (.aload_n 0, 1) := by decide +kernel
theorem dX4_fact_101 : decode cX4_fact 101 = .ok (.getfield 29, 3) := by decide +kernel
theorem dX4_fact_104 : decode cX4_fact 104 = .ok (.iload_n 1, 1) := by decide +kernel
theorem dX4_fact_105 : decode cX4_fact 105 = .ok (.iaload, 1) := by decide +kernel
theorem dX4_fact_106 : decode cX4_fact 106 = .ok (.ireturn, 1) := by decide +kernel
theorem dX4_fact_107 : decode cX4_fact 107 = .ok (.aload_n 0, 1) := by decide +kernel
theorem dX4_fact_108 : decode cX4_fact 108 = .ok (.getfield 32, 3) := by decide +kernel
theorem dX4_fact_111 : decode cX4_fact 111 = .ok (.iload_n 1, 1) := by decide +kernel
theorem dX4_fact_112 : decode cX4_fact 112 = .ok (.iaload, 1) := by decide +kernel
theorem dX4_fact_113 : decode cX4_fact 113 = .ok (.ireturn, 1) := by decide +kernel
theorem dX4_fact_114 : decode cX4_fact 114 = .ok (.aload_n 0, 1) := by decide +kernel
theorem dX4_fact_115 : decode cX4_fact 115 = .ok (.getfield 38, 3) := by decide +kernel
theorem dX4_fact_118 : decode cX4_fact 118 = .ok (.iload_n 1, 1) := by decide +kernel
theorem dX4_fact_119 : decode cX4_fact 119 = .ok (.iaload, 1) := by decide +kernel
theorem dX4_fact_120 : decode cX4_fact 120 = .ok (.ireturn, 1) := by decide +kernel
theorem dX4_fact_121 : decode cX4_fact 121 = .ok (.aload_n 0, 1) := by decide +kernel
theorem dX4_fact_122 : decode cX4_fact 122 = .ok (.getfield 41, 3) := by decide +kernel
theorem dX4_fact_125 : decode cX4_fact 125 = .ok (.iload_n 1, 1) := by decide +kernel
theorem dX4_fact_126 : decode cX4_fact 126 = .ok (.iaload, 1) := by decide +kernel
theorem dX4_fact_127 : decode cX4_fact 127 = .ok (.ireturn, 1) := by decide +kernel
theorem dX4_fact_128 : decode cX4_fact 128 = .ok (.aload_n 0, 1) := by decide +kernel
theorem dX4_fact_129 : decode cX4_fact 129 = .ok (.getfield 44, 3) := by decide +kernel
theorem dX4_fact_132 : decode cX4_fact 132 = .ok (.iload_n 1, 1) := by decide +kernel
theorem dX4_fact_133 : decode cX4_fact 133 = .ok (.iaload, 1) := by decide +kernel
theorem dX4_fact_134 : decode cX4_fact 134 = .ok (.ireturn, 1) := by decide +kernel
theorem dX4_fact_135 : decode cX4_fact 135 = .ok (.aload_n 0, 1) := by decide +kernel
theorem dX4_fact_136 : decode cX4_fact 136 = .ok (.getfield 47, 3) := by decide +kernel
theorem dX4_fact_139 : decode cX4_fact 139 = .ok (.iload_n 1, 1) := by decide +kernel
theorem dX4_fact_140 : decode cX4_fact 140 = .ok (.iaload, 1) := by decide +kernel
theorem dX4_fact_141 : decode cX4_fact 141 = .ok (.ireturn, 1) := by decide +kernel
theorem dX4_isKnown_0 : decode cX4_isKnown 0 = .ok (.aload_n 0, 1) := by decide +kernel
theorem dX4_isKnown_1 : decode cX4_isKnown 1 = .ok (.getfield 23, 3) := by decide +kernel
theorem dX4_isKnown_4 : decode cX4_isKnown 4 = .ok (.iload_n 1, 1) := by decide +kernel
theorem dX4_isKnown_5 : decode cX4_isKnown 5 = .ok (.iaload, 1) := by decide +kernel
theorem dX4_isKnown_6 : decode cX4_isKnown 6 = .ok (.iload_n 2, 1) := by decide +kernel
theorem dX4_isKnown_7 : decode cX4_isKnown 7 = .ok (.if_icmp .gt 28, 3) := by decide +kernel
theorem dX4_isKnown_10 : decode cX4_isKnown 10 = .ok (.aload_n 0, 1) := by decide +kernel
theorem dX4_isKnown_11 : decode cX4_isKnown 11 = .ok (.getfield 26, 3) := by decide +kernel
theorem dX4_isKnown_14 : decode cX4_isKnown 14 = .ok (.iload_n 1, 1) := by decide +kernel
theorem dX4_isKnown_15 : decode cX4_isKnown 15 = .ok (.iaload, 1) := by decide +kernel
theorem dX4_isKnown_16 : decode cX4_isKnown 16 = .ok (.bipush (-4), 2) := by decide +kernel
theorem dX4_isKnown_18 : decode cX4_isKnown 18 = .ok (.if_icmp .eq 13, 3) := by decide +kernel
theorem dX4_isKnown_21 : decode cX4_isKnown 21 = .ok (.aload_n 0, 1) := by decide +kernel
theorem dX4_isKnown_22 : decode cX4_isKnown 22 = .ok (.getfield 26, 3) := by decide +kernel
theorem dX4_isKnown_25 : decode cX4_isKnown 25 = .ok (.iload_n 1, 1) := by decide +kernel
theorem dX4_isKnown_26 : decode cX4_isKnown 26 = .ok (.iaload, 1) := by decide +kernel
theorem dX4_isKnown_27 : decode cX4_isKnown 27 = .ok (.iload_n 2, 1) := by decide +kernel
theorem dX4_isKnown_28 : decode cX4_isKnown 28 = .ok (.if_icmp .le 7, 3) := by decide +kernel
theorem dX4_isKnown_31 : decode cX4_isKnown 31 = .ok (.iconst 1, 1) := by decide +kernel
theorem dX4_isKnown_32 : decode cX4_isKnown 32 = .ok (.goto 4, 3) := by decide +kernel
theorem dX4_isKnown_35 : decode cX4_isKnown 35 = .ok (.iconst 0, 1) := by decide +kernel
theorem dX4_isKnown_36 : decode cX4_isKnown 36 = .ok (.ireturn, 1) := by decide +kernel
theorem dX4_go_0 : decode cX4_go 0 = .ok (.iconst 0, 1) := by decide +kernel
theorem dX4_go_1 : decode cX4_go 1 = .ok (.istore_n 3, 1) := by decide +kernel
theorem dX4_go_2 : decode cX4_go 2 = .ok (.iload_n 3, 1) := by decide +kernel
theorem dX4_go_3 : decode cX4_go 3 = .ok (.bipush 90, 2) := by decide +kernel
theorem dX4_go_5 : decode cX4_go 5 = .ok (.if_icmp .ge 16, 3) := by decide +kernel
theorem dX4_go_8 : decode cX4_go 8 = .ok (.aload_n 0, 1) := by decide +kernel
theorem dX4_go_9 : decode cX4_go 9 = .ok (.getfield 56, 3) := by decide +kernel
theorem dX4_go_12 : decode cX4_go 12 = .ok (.iload_n 3, 1) := by decide +kernel
theorem dX4_go_13 : decode cX4_go 13 = .ok (.iconst 0, 1) := by decide +kernel
theorem dX4_go_14 : decode cX4_go 14 = .ok (.bastore, 1) := by decide +kernel
theorem dX4_go_15 : decode cX4_go 15 = .ok (.iinc 3 1, 3) := by decide +kernel
theorem dX4_go_18 : decode cX4_go 18 = .ok (.goto (-16), 3) := by decide +kernel
theorem dX4_go_21 : decode cX4_go 21 = .ok (.iconst 0, 1) := by decide +kernel
theorem dX4_go_22 : decode cX4_go 22 = .ok (.istore_n 3, 1) := by decide +kernel
theorem dX4_go_23 : decode cX4_go 23 = .ok (.iload_n 3, 1) := by decide +kernel
theorem dX4_go_24 : decode cX4_go 24 = .ok (.bipush 11, 2) := by decide +kernel
theorem dX4_go_26 : decode cX4_go 26 = .ok (.if_icmp .ge 16, 3) := by decide +kernel
theorem dX4_go_29 : decode cX4_go 29 = .ok (.aload_n 0, 1) := by decide +kernel
theorem dX4_go_30 : decode cX4_go 30 = .ok (.getfield 87, 3) := by decide +kernel
theorem dX4_go_33 : decode cX4_go 33 = .ok (.iload_n 3, 1) := by decide +kernel
theorem dX4_go_34 : decode cX4_go 34 = .ok (.iconst 0, 1) := by decide +kernel
theorem dX4_go_35 : decode cX4_go 35 = .ok (.iastore, 1) := by decide +kernel
theorem dX4_go_36 : decode cX4_go 36 = .ok (.iinc 3 1, 3) := by decide +kernel
theorem dX4_go_39 : decode cX4_go 39 = .ok (.goto (-16), 3) := by decide +kernel
theorem dX4_go_42 : decode cX4_go 42 = .ok (.iconst (-1), 1) := by decide +kernel
theorem dX4_go_43 : decode cX4_go 43 = .ok (.istore_n 3, 1) := by decide +kernel
theorem dX4_go_44 : decode cX4_go 44 = .ok (.iconst (-1), 1) := by decide +kernel
theorem dX4_go_45 : decode cX4_go 45 = .ok (.istore 4, 2) := by decide +kernel
theorem dX4_go_47 : decode cX4_go 47 = .ok (.iconst 1, 1) := by decide +kernel
theorem dX4_go_48 : decode cX4_go 48 = .ok (.istore 5, 2) := by decide +kernel
theorem dX4_go_50 : decode cX4_go 50 = .ok (.iload 5, 2) := by decide +kernel
theorem dX4_go_52 : decode cX4_go 52 = .ok (.ifCond .eq 150, 3) := by decide +kernel
theorem dX4_go_55 : decode cX4_go 55 = .ok (.iconst (-1), 1) := by decide +kernel
theorem dX4_go_56 : decode cX4_go 56 = .ok (.istore 6, 2) := by decide +kernel
theorem dX4_go_58 : decode cX4_go 58 = .ok (.iconst 0, 1) := by decide +kernel
theorem dX4_go_59 : decode cX4_go 59 = .ok (.istore 7, 2) := by decide +kernel
theorem dX4_go_61 : decode cX4_go 61 = .ok (.iload 7, 2) := by decide +kernel
theorem dX4_go_63 : decode cX4_go 63 = .ok (.aload_n 0, 1) := by decide +kernel
theorem dX4_go_64 : decode cX4_go 64 = .ok (.getfield 97, 3) := by decide +kernel
theorem dX4_go_67 : decode cX4_go 67 = .ok (.if_icmp .ge 97, 3) := by decide +kernel
theorem dX4_go_70 : decode cX4_go 70 = .ok (.aload_n 0, 1) := by decide +kernel
theorem dX4_go_71 : decode cX4_go 71 = .ok (.getfield 20, 3) := by decide +kernel
theorem dX4_go_74 : decode cX4_go 74 = .ok (.iload 7, 2) := by decide +kernel
theorem dX4_go_76 : decode cX4_go 76 = .ok (.iaload, 1) := by decide +kernel
theorem dX4_go_77 : decode cX4_go 77 = .ok (.iload_n 3, 1) := by decide +kernel
theorem dX4_go_78 : decode cX4_go 78 = .ok (.if_icmp .gt 21, 3) := by decide +kernel
theorem dX4_go_81 : decode cX4_go 81 = .ok (.aload_n 0, 1) := by decide +kernel
theorem dX4_go_82 : decode cX4_go 82 = .ok (.getfield 20, 3) := by decide +kernel
theorem dX4_go_85 : decode cX4_go 85 = .ok (.iload 7, 2) := by decide +kernel
theorem dX4_go_87 : decode cX4_go 87 = .ok (.iaload, 1) := by decide +kernel
theorem dX4_go_88 : decode cX4_go 88 = .ok (.iload_n 3, 1) := by decide +kernel
theorem dX4_go_89 : decode cX4_go 89 = .ok (.if_icmp .ne 14, 3) := by decide +kernel
theorem dX4_go_92 : decode cX4_go 92 = .ok (.iload 7, 2) := by decide +kernel
theorem dX4_go_94 : decode cX4_go 94 = .ok (.iload 4, 2) := by decide +kernel
theorem dX4_go_96 : decode cX4_go 96 = .ok (.if_icmp .le 7, 3) := by decide +kernel
theorem dX4_go_99 : decode cX4_go 99 = .ok (.iconst 1, 1) := by decide +kernel
theorem dX4_go_100 : decode cX4_go 100 = .ok (.goto 4, 3) := by decide +kernel
theorem dX4_go_103 : decode cX4_go 103 = .ok (.iconst 0, 1) := by decide +kernel
theorem dX4_go_104 : decode cX4_go 104 = .ok (.istore 8, 2) := by decide +kernel
theorem dX4_go_106 : decode cX4_go 106 = .ok (.iload 8, 2) := by decide +kernel
theorem dX4_go_108 : decode cX4_go 108 = .ok (.ifCond .eq 50, 3) := by decide +kernel
theorem dX4_go_111 : decode cX4_go 111 = .ok (.aload_n 0, 1) := by decide +kernel
theorem dX4_go_112 : decode cX4_go 112 = .ok (.getfield 20, 3) := by decide +kernel
theorem dX4_go_115 : decode cX4_go 115 = .ok (.iload 7, 2) := by decide +kernel
theorem dX4_go_117 : decode cX4_go 117 = .ok (.iaload, 1) := by decide +kernel
theorem dX4_go_118 : decode cX4_go 118 = .ok (.iload_n 1, 1) := by decide +kernel
theorem dX4_go_119 : decode cX4_go 119 = .ok (.if_icmp .gt 39, 3) := by decide +kernel
theorem dX4_go_122 : decode cX4_go 122 = .ok (.aload_n 0, 1) := by decide +kernel
theorem dX4_go_123 : decode cX4_go 123 = .ok (.iload 7, 2) := by decide +kernel
theorem dX4_go_125 : decode cX4_go 125 = .ok (.iload_n 2, 1) := by decide +kernel
theorem dX4_go_126 : decode cX4_go 126 = .ok (.invokevirtual 127, 3) := by decide +kernel
theorem dX4_go_129 : decode cX4_go 129 = .ok (.ifCond .eq 29, 3) := by decide +kernel
theorem dX4_go_132 : decode cX4_go 132 = .ok (.iload 6, 2) := by decide +kernel
theorem dX4_go_134 : decode cX4_go 134 = .ok (.ifCond .lt 20, 3) := by decide +kernel
theorem dX4_go_137 : decode cX4_go 137 = .ok (.aload_n 0, 1) := by decide +kernel
theorem dX4_go_138 : decode cX4_go 138 = .ok (.getfield 20, 3) := by decide +kernel
theorem dX4_go_141 : decode cX4_go 141 = .ok (.iload 7, 2) := by decide +kernel
theorem dX4_go_143 : decode cX4_go 143 = .ok (.iaload, 1) := by decide +kernel
theorem dX4_go_144 : decode cX4_go 144 = .ok (.aload_n 0, 1) := by decide +kernel
theorem dX4_go_145 : decode cX4_go 145 = .ok (.getfield 20, 3) := by decide +kernel
theorem dX4_go_148 : decode cX4_go 148 = .ok (.iload 6, 2) := by decide +kernel
theorem dX4_go_150 : decode cX4_go 150 = .ok (.iaload, 1) := by decide +kernel
theorem dX4_go_151 : decode cX4_go 151 = .ok (.if_icmp .ge 7, 3) := by decide +kernel
theorem dX4_go_154 : decode cX4_go 154 = .ok (.iload 7, 2) := by decide +kernel
theorem dX4_go_156 : decode cX4_go 156 = .ok (.istore 6, 2) := by decide +kernel
theorem dX4_go_158 : decode cX4_go 158 = .ok (.iinc 7 1, 3) := by decide +kernel
theorem dX4_go_161 : decode cX4_go 161 = .ok (.goto (-100), 3) := by decide +kernel
theorem dX4_go_164 : decode cX4_go 164 = .ok (.iload 6, 2) := by decide +kernel
theorem dX4_go_166 : decode cX4_go 166 = .ok (.ifCond .lt 7, 3) := by decide +kernel
theorem dX4_go_169 : decode cX4_go 169 = .ok (.iconst 1, 1) := by decide +kernel
theorem dX4_go_170 : decode cX4_go 170 = .ok (.goto 4, 3) := by decide +kernel
theorem dX4_go_173 : decode cX4_go 173 = .ok (.iconst 0, 1) := by decide +kernel
theorem dX4_go_174 : decode cX4_go 174 = .ok (.istore 5, 2) := by decide +kernel
theorem dX4_go_176 : decode cX4_go 176 = .ok (.iload 5, 2) := by decide +kernel
theorem dX4_go_178 : decode cX4_go 178 = .ok (.ifCond .eq 21, 3) := by decide +kernel
theorem dX4_go_181 : decode cX4_go 181 = .ok (.aload_n 0, 1) := by decide +kernel
theorem dX4_go_182 : decode cX4_go 182 = .ok (.getfield 20, 3) := by decide +kernel
theorem dX4_go_185 : decode cX4_go 185 = .ok (.iload 6, 2) := by decide +kernel
theorem dX4_go_187 : decode cX4_go 187 = .ok (.iaload, 1) := by decide +kernel
theorem dX4_go_188 : decode cX4_go 188 = .ok (.istore_n 3, 1) := by decide +kernel
theorem dX4_go_189 : decode cX4_go 189 = .ok (.iload 6, 2) := by decide +kernel
theorem dX4_go_191 : decode cX4_go 191 = .ok (.istore 4, 2) := by decide +kernel
theorem dX4_go_193 : decode cX4_go 193 = .ok (.aload_n 0, 1) := by decide +kernel
theorem dX4_go_194 : decode cX4_go 194 = .ok (.iload 6, 2) := by decide +kernel
theorem dX4_go_196 : decode cX4_go 196 = .ok (.invokevirtual 131, 3) := by decide +kernel
theorem dX4_go_199 : decode cX4_go 199 = .ok (.goto (-149), 3) := by decide +kernel
theorem dX4_go_202 : decode cX4_go 202 = .ok (.return_, 1) := by decide +kernel
theorem dX4_holds_0 : decode cX4_holds 0 = .ok (.aload_n 0, 1) := by decide +kernel
theorem dX4_holds_1 : decode cX4_holds 1 = .ok (.getfield 60, 3) := by decide +kernel
theorem dX4_holds_4 : decode cX4_holds 4 = .ok (.iload_n 1, 1) := by decide +kernel
theorem dX4_holds_5 : decode cX4_holds 5 = .ok (.iload_n 2, 1) := by decide +kernel
theorem dX4_holds_6 : decode cX4_holds 6 = .ok (.iastore, 1) := by decide +kernel
theorem dX4_holds_7 : decode cX4_holds 7 = .ok (.iconst 0, 1) := by decide +kernel
theorem dX4_holds_8 : decode cX4_holds 8 = .ok (.istore 4, 2) := by decide +kernel
theorem dX4_holds_10 : decode cX4_holds 10 = .ok (.iload 4, 2) := by decide +kernel
theorem dX4_holds_12 : decode cX4_holds 12 = .ok (.bipush 10, 2) := by decide +kernel
theorem dX4_holds_14 : decode cX4_holds 14 = .ok (.if_icmp .ge 33, 3) := by decide +kernel
theorem dX4_holds_17 : decode cX4_holds 17 = .ok (.aload_n 0, 1) := by decide +kernel
theorem dX4_holds_18 : decode cX4_holds 18 = .ok (.getfield 63, 3) := by decide +kernel
theorem dX4_holds_21 : decode cX4_holds 21 = .ok (.bipush 10, 2) := by decide +kernel
theorem dX4_holds_23 : decode cX4_holds 23 = .ok (.iload_n 1, 1) := by decide +kernel
theorem dX4_holds_24 : decode cX4_holds 24 = .ok (.imul, 1) := by decide +kernel
theorem dX4_holds_25 : decode cX4_holds 25 = .ok (.iload 4, 2) := by decide +kernel
theorem dX4_holds_27 : decode cX4_holds 27 = .ok (.iadd, 1) := by decide +kernel
theorem dX4_holds_28 : decode cX4_holds 28 = .ok (.iload 4, 2) := by decide +kernel
theorem dX4_holds_30 : decode cX4_holds 30 = .ok (.iload_n 2, 1) := by decide +kernel
theorem dX4_holds_31 : decode cX4_holds 31 = .ok (.if_icmp .ne 8, 3) := by decide +kernel
theorem dX4_holds_34 : decode cX4_holds 34 = .ok (.bipush 24, 2) := by decide +kernel
theorem dX4_holds_36 : decode cX4_holds 36 = .ok (.goto 4, 3) := by decide +kernel
theorem dX4_holds_39 : decode cX4_holds 39 = .ok (.iconst 0, 1) := by decide +kernel
theorem dX4_holds_40 : decode cX4_holds 40 = .ok (.iastore, 1) := by decide +kernel
theorem dX4_holds_41 : decode cX4_holds 41 = .ok (.iinc 4 1, 3) := by decide +kernel
theorem dX4_holds_44 : decode cX4_holds 44 = .ok (.goto (-34), 3) := by decide +kernel
theorem dX4_holds_47 : decode cX4_holds 47 = .ok (.aload_n 0, 1) := by decide +kernel
theorem dX4_holds_48 : decode cX4_holds 48 = .ok (.getfield 66, 3) := by decide +kernel
theorem dX4_holds_51 : decode cX4_holds 51 = .ok (.iload_n 1, 1) := by decide +kernel
theorem dX4_holds_52 : decode cX4_holds 52 = .ok (.iload_n 3, 1) := by decide +kernel
theorem dX4_holds_53 : decode cX4_holds 53 = .ok (.iastore, 1) := by decide +kernel
theorem dX4_holds_54 : decode cX4_holds 54 = .ok (.aload_n 0, 1) := by decide +kernel
theorem dX4_holds_55 : decode cX4_holds 55 = .ok (.getfield 78, 3) := by decide +kernel
theorem dX4_holds_58 : decode cX4_holds 58 = .ok (.iload_n 1, 1) := by decide +kernel
theorem dX4_holds_59 : decode cX4_holds 59 = .ok (.iconst 0, 1) := by decide +kernel
theorem dX4_holds_60 : decode cX4_holds 60 = .ok (.iastore, 1) := by decide +kernel
theorem dX4_holds_61 : decode cX4_holds 61 = .ok (.return_, 1) := by decide +kernel
theorem dX4_comes_0 : decode cX4_comes 0 = .ok (.aload_n 0, 1) := by decide +kernel
theorem dX4_comes_1 : decode cX4_comes 1 = .ok (.getfield 47, 3) := by decide +kernel
theorem dX4_comes_4 : decode cX4_comes 4 = .ok (.iload_n 1, 1) := by decide +kernel
theorem dX4_comes_5 : decode cX4_comes 5 = .ok (.iaload, 1) := by decide +kernel
theorem dX4_comes_6 : decode cX4_comes 6 = .ok (.istore_n 2, 1) := by decide +kernel
theorem dX4_comes_7 : decode cX4_comes 7 = .ok (.aload_n 0, 1) := by decide +kernel
theorem dX4_comes_8 : decode cX4_comes 8 = .ok (.getfield 20, 3) := by decide +kernel
theorem dX4_comes_11 : decode cX4_comes 11 = .ok (.iload_n 1, 1) := by decide +kernel
theorem dX4_comes_12 : decode cX4_comes 12 = .ok (.iaload, 1) := by decide +kernel
theorem dX4_comes_13 : decode cX4_comes 13 = .ok (.istore_n 3, 1) := by decide +kernel
theorem dX4_comes_14 : decode cX4_comes 14 = .ok (.aload_n 0, 1) := by decide +kernel
theorem dX4_comes_15 : decode cX4_comes 15 = .ok (.getfield 16, 3) := by decide +kernel
theorem dX4_comes_18 : decode cX4_comes 18 = .ok (.iload_n 1, 1) := by decide +kernel
theorem dX4_comes_19 : decode cX4_comes 19 = .ok (.iaload, 1) := by decide +kernel
theorem dX4_comes_20 : decode cX4_comes 20 = .ok (.lookupswitch 82 #[(0, 28), (6, 74)], 28) := by decide +kernel
theorem dX4_comes_48 : decode cX4_comes 48 = .ok (.aload_n 0, 1) := by decide +kernel
theorem dX4_comes_49 : decode cX4_comes 49 = .ok (.getfield 56, 3) := by decide +kernel
theorem dX4_comes_52 : decode cX4_comes 52 = .ok (.iload_n 2, 1) := by decide +kernel
theorem dX4_comes_53 : decode cX4_comes 53 = .ok (.iconst 1, 1) := by decide +kernel
theorem dX4_comes_54 : decode cX4_comes 54 = .ok (.bastore, 1) := by decide +kernel
theorem dX4_comes_55 : decode cX4_comes 55 = .ok (.aload_n 0, 1) := by decide +kernel
theorem dX4_comes_56 : decode cX4_comes 56 = .ok (.getfield 69, 3) := by decide +kernel
theorem dX4_comes_59 : decode cX4_comes 59 = .ok (.iload_n 2, 1) := by decide +kernel
theorem dX4_comes_60 : decode cX4_comes 60 = .ok (.aload_n 0, 1) := by decide +kernel
theorem dX4_comes_61 : decode cX4_comes 61 = .ok (.getfield 38, 3) := by decide +kernel
theorem dX4_comes_64 : decode cX4_comes 64 = .ok (.iload_n 1, 1) := by decide +kernel
theorem dX4_comes_65 : decode cX4_comes 65 = .ok (.iaload, 1) := by decide +kernel
theorem dX4_comes_66 : decode cX4_comes 66 = .ok (.iastore, 1) := by decide +kernel
theorem dX4_comes_67 : decode cX4_comes 67 = .ok (.aload_n 0, 1) := by decide +kernel
theorem dX4_comes_68 : decode cX4_comes 68 = .ok (.getfield 72, 3) := by decide +kernel
theorem dX4_comes_71 : decode cX4_comes 71 = .ok (.iload_n 2, 1) := by decide +kernel
theorem dX4_comes_72 : decode cX4_comes 72 = .ok (.aload_n 0, 1) := by decide +kernel
theorem dX4_comes_73 : decode cX4_comes 73 = .ok (.getfield 41, 3) := by decide +kernel
theorem dX4_comes_76 : decode cX4_comes 76 = .ok (.iload_n 1, 1) := by decide +kernel
theorem dX4_comes_77 : decode cX4_comes 77 = .ok (.iaload, 1) := by decide +kernel
theorem dX4_comes_78 : decode cX4_comes 78 = .ok (.iastore, 1) := by decide +kernel
theorem dX4_comes_79 : decode cX4_comes 79 = .ok (.aload_n 0, 1) := by decide +kernel
theorem dX4_comes_80 : decode cX4_comes 80 = .ok (.iload_n 2, 1) := by decide +kernel
theorem dX4_comes_81 : decode cX4_comes 81 = .ok (.aload_n 0, 1) := by decide +kernel
theorem dX4_comes_82 : decode cX4_comes 82 = .ok (.getfield 32, 3) := by decide +kernel
theorem dX4_comes_85 : decode cX4_comes 85 = .ok (.iload_n 1, 1) := by decide +kernel
theorem dX4_comes_86 : decode cX4_comes 86 = .ok (.iaload, 1) := by decide +kernel
theorem dX4_comes_87 : decode cX4_comes 87 = .ok (.iload_n 3, 1) := by decide +kernel
theorem dX4_comes_88 : decode cX4_comes 88 = .ok (.invokevirtual 135, 3) := by decide +kernel
theorem dX4_comes_91 : decode cX4_comes 91 = .ok (.goto 27, 3) := by decide +kernel
theorem dX4_comes_94 : decode cX4_comes 94 = .ok (.aload_n 0, 1) := by decide +kernel
theorem dX4_comes_95 : decode cX4_comes 95 = .ok (.iload_n 1, 1) := by decide +kernel
theorem dX4_comes_96 : decode cX4_comes 96 = .ok (.invokevirtual 139, 3) := by decide +kernel
theorem dX4_comes_99 : decode cX4_comes 99 = .ok (.goto 19, 3) := by decide +kernel
theorem dX4_comes_102 : decode cX4_comes 102 = .ok (.aload_n 0, 1) := by decide +kernel
theorem dX4_comes_103 : decode cX4_comes 103 = .ok (.getfield 56, 3) := by decide +kernel
theorem dX4_comes_106 : decode cX4_comes 106 = .ok (.iload_n 2, 1) := by decide +kernel
theorem dX4_comes_107 : decode cX4_comes 107 = .ok (.baload, 1) := by decide +kernel
theorem dX4_comes_108 : decode cX4_comes 108 = .ok (.ifCond .eq 10, 3) := by decide +kernel
theorem dX4_comes_111 : decode cX4_comes 111 = .ok (.aload_n 0, 1) := by decide +kernel
theorem dX4_comes_112 : decode cX4_comes 112 = .ok (.iload_n 1, 1) := by decide +kernel
theorem dX4_comes_113 : decode cX4_comes 113 = .ok (.iload_n 2, 1) := by decide +kernel
theorem dX4_comes_114 : decode cX4_comes 114 = .ok (.iload_n 3, 1) := by decide +kernel
theorem dX4_comes_115 : decode cX4_comes 115 = .ok (.invokevirtual 142, 3) := by decide +kernel
theorem dX4_comes_118 : decode cX4_comes 118 = .ok (.return_, 1) := by decide +kernel
theorem dX4_comesTo_0 : decode cX4_comesTo 0 = .ok (.aload_n 0, 1) := by decide +kernel
theorem dX4_comesTo_1 : decode cX4_comesTo 1 = .ok (.getfield 16, 3) := by decide +kernel
theorem dX4_comesTo_4 : decode cX4_comesTo 4 = .ok (.iload_n 1, 1) := by decide +kernel
theorem dX4_comesTo_5 : decode cX4_comesTo 5 = .ok (.iaload, 1) := by decide +kernel
theorem dX4_comesTo_6 : decode cX4_comesTo 6 = .ok (.tableswitch 99 1 4 #[30, 47, 62, 72], 30) := by decide +kernel
theorem dX4_comesTo_36 : decode cX4_comesTo 36 = .ok (.aload_n 0, 1) := by decide +kernel
theorem dX4_comesTo_37 : decode cX4_comesTo 37 = .ok (.getfield 66, 3) := by decide +kernel
theorem dX4_comesTo_40 : decode cX4_comesTo 40 = .ok (.iload_n 2, 1) := by decide +kernel
theorem dX4_comesTo_41 : decode cX4_comesTo 41 = .ok (.iload_n 3, 1) := by decide +kernel
theorem dX4_comesTo_42 : decode cX4_comesTo 42 = .ok (.iastore, 1) := by decide +kernel
theorem dX4_comesTo_43 : decode cX4_comesTo 43 = .ok (.aload_n 0, 1) := by decide +kernel
theorem dX4_comesTo_44 : decode cX4_comesTo 44 = .ok (.getfield 78, 3) := by decide +kernel
theorem dX4_comesTo_47 : decode cX4_comesTo 47 = .ok (.iload_n 2, 1) := by decide +kernel
theorem dX4_comesTo_48 : decode cX4_comesTo 48 = .ok (.iconst 0, 1) := by decide +kernel
theorem dX4_comesTo_49 : decode cX4_comesTo 49 = .ok (.iastore, 1) := by decide +kernel
theorem dX4_comesTo_50 : decode cX4_comesTo 50 = .ok (.goto 130, 3) := by decide +kernel
theorem dX4_comesTo_53 : decode cX4_comesTo 53 = .ok (.aload_n 0, 1) := by decide +kernel
theorem dX4_comesTo_54 : decode cX4_comesTo 54 = .ok (.iload_n 2, 1) := by decide +kernel
theorem dX4_comesTo_55 : decode cX4_comesTo 55 = .ok (.aload_n 0, 1) := by decide +kernel
theorem dX4_comesTo_56 : decode cX4_comesTo 56 = .ok (.getfield 32, 3) := by decide +kernel
theorem dX4_comesTo_59 : decode cX4_comesTo 59 = .ok (.iload_n 1, 1) := by decide +kernel
theorem dX4_comesTo_60 : decode cX4_comesTo 60 = .ok (.iaload, 1) := by decide +kernel
theorem dX4_comesTo_61 : decode cX4_comesTo 61 = .ok (.iload_n 3, 1) := by decide +kernel
theorem dX4_comesTo_62 : decode cX4_comesTo 62 = .ok (.invokevirtual 145, 3) := by decide +kernel
theorem dX4_comesTo_65 : decode cX4_comesTo 65 = .ok (.goto 115, 3) := by decide +kernel
theorem dX4_comesTo_68 : decode cX4_comesTo 68 = .ok (.aload_n 0, 1) := by decide +kernel
theorem dX4_comesTo_69 : decode cX4_comesTo 69 = .ok (.getfield 56, 3) := by decide +kernel
theorem dX4_comesTo_72 : decode cX4_comesTo 72 = .ok (.iload_n 2, 1) := by decide +kernel
theorem dX4_comesTo_73 : decode cX4_comesTo 73 = .ok (.iconst 0, 1) := by decide +kernel
theorem dX4_comesTo_74 : decode cX4_comesTo 74 = .ok (.bastore, 1) := by decide +kernel
theorem dX4_comesTo_75 : decode cX4_comesTo 75 = .ok (.goto 105, 3) := by decide +kernel
theorem dX4_comesTo_78 : decode cX4_comesTo 78 = .ok (.aload_n 0, 1) := by decide +kernel
theorem dX4_comesTo_79 : decode cX4_comesTo 79 = .ok (.getfield 69, 3) := by decide +kernel
theorem dX4_comesTo_82 : decode cX4_comesTo 82 = .ok (.iload_n 2, 1) := by decide +kernel
theorem dX4_comesTo_83 : decode cX4_comesTo 83 = .ok (.aload_n 0, 1) := by decide +kernel
theorem dX4_comesTo_84 : decode cX4_comesTo 84 = .ok (.getfield 38, 3) := by decide +kernel
theorem dX4_comesTo_87 : decode cX4_comesTo 87 = .ok (.iload_n 1, 1) := by decide +kernel
theorem dX4_comesTo_88 : decode cX4_comesTo 88 = .ok (.iaload, 1) := by decide +kernel
theorem dX4_comesTo_89 : decode cX4_comesTo 89 = .ok (.iastore, 1) := by decide +kernel
theorem dX4_comesTo_90 : decode cX4_comesTo 90 = .ok (.aload_n 0, 1) := by decide +kernel
theorem dX4_comesTo_91 : decode cX4_comesTo 91 = .ok (.getfield 72, 3) := by decide +kernel
theorem dX4_comesTo_94 : decode cX4_comesTo 94 = .ok (.iload_n 2, 1) := by decide +kernel
theorem dX4_comesTo_95 : decode cX4_comesTo 95 = .ok (.aload_n 0, 1) := by decide +kernel
theorem dX4_comesTo_96 : decode cX4_comesTo 96 = .ok (.getfield 41, 3) := by decide +kernel
theorem dX4_comesTo_99 : decode cX4_comesTo 99 = .ok (.iload_n 1, 1) := by decide +kernel
theorem dX4_comesTo_100 : decode cX4_comesTo 100 = .ok (.iaload, 1) := by decide +kernel
theorem dX4_comesTo_101 : decode cX4_comesTo 101 = .ok (.iastore, 1) := by decide +kernel
theorem dX4_comesTo_102 : decode cX4_comesTo 102 = .ok (.goto 78, 3) := by decide +kernel
theorem dX4_comesTo_105 : decode cX4_comesTo 105 = .ok (.aload_n 0, 1) := by decide +kernel
theorem dX4_comesTo_106 : decode cX4_comesTo 106 = .ok (.getfield 63, 3) := by decide +kernel
theorem dX4_comesTo_109 : decode cX4_comesTo 109 = .ok (.bipush 10, 2) := by decide +kernel
theorem dX4_comesTo_111 : decode cX4_comesTo 111 = .ok (.iload_n 2, 1) := by decide +kernel
theorem dX4_comesTo_112 : decode cX4_comesTo 112 = .ok (.imul, 1) := by decide +kernel
theorem dX4_comesTo_113 : decode cX4_comesTo 113 = .ok (.aload_n 0, 1) := by decide +kernel
theorem dX4_comesTo_114 : decode cX4_comesTo 114 = .ok (.getfield 32, 3) := by decide +kernel
theorem dX4_comesTo_117 : decode cX4_comesTo 117 = .ok (.iload_n 1, 1) := by decide +kernel
theorem dX4_comesTo_118 : decode cX4_comesTo 118 = .ok (.iaload, 1) := by decide +kernel
theorem dX4_comesTo_119 : decode cX4_comesTo 119 = .ok (.iadd, 1) := by decide +kernel
theorem dX4_comesTo_120 : decode cX4_comesTo 120 = .ok (.iaload, 1) := by decide +kernel
theorem dX4_comesTo_121 : decode cX4_comesTo 121 = .ok (.aload_n 0, 1) := by decide +kernel
theorem dX4_comesTo_122 : decode cX4_comesTo 122 = .ok (.getfield 44, 3) := by decide +kernel
theorem dX4_comesTo_125 : decode cX4_comesTo 125 = .ok (.iload_n 1, 1) := by decide +kernel
theorem dX4_comesTo_126 : decode cX4_comesTo 126 = .ok (.iaload, 1) := by decide +kernel
theorem dX4_comesTo_127 : decode cX4_comesTo 127 = .ok (.if_icmp .lt 53, 3) := by decide +kernel
theorem dX4_comesTo_130 : decode cX4_comesTo 130 = .ok (.aload_n 0, 1) := by decide +kernel
theorem dX4_comesTo_131 : decode cX4_comesTo 131 = .ok (.getfield 63, 3) := by decide +kernel
theorem dX4_comesTo_134 : decode cX4_comesTo 134 = .ok (.bipush 10, 2) := by decide +kernel
end
section
theorem dX4_comesTo_136 : decode cX4_comesTo 136 = .ok (.iload_n 2, 1) := by decide +kernel
theorem dX4_comesTo_137 : decode cX4_comesTo 137 = .ok (.imul, 1) := by decide +kernel
theorem dX4_comesTo_138 : decode cX4_comesTo 138 = .ok (.aload_n 0, 1) := by decide +kernel
theorem dX4_comesTo_139 : decode cX4_comesTo 139 = .ok (.getfield 32, 3) := by decide +kernel
theorem dX4_comesTo_142 : decode cX4_comesTo 142 = .ok (.iload_n 1, 1) := by decide +kernel
theorem dX4_comesTo_143 : decode cX4_comesTo 143 = .ok (.iaload, 1) := by decide +kernel
theorem dX4_comesTo_144 : decode cX4_comesTo 144 = .ok (.iadd, 1) := by decide +kernel
theorem dX4_comesTo_145 : decode cX4_comesTo 145 = .ok (.dup2, 1) := by decide +kernel
theorem dX4_comesTo_146 : decode cX4_comesTo 146 = .ok (.iaload, 1) := by decide +kernel
theorem dX4_comesTo_147 : decode cX4_comesTo 147 = .ok (.aload_n 0, 1) := by decide +kernel
theorem dX4_comesTo_148 : decode cX4_comesTo 148 = .ok (.getfield 44, 3) := by decide +kernel
theorem dX4_comesTo_151 : decode cX4_comesTo 151 = .ok (.iload_n 1, 1) := by decide +kernel
theorem dX4_comesTo_152 : decode cX4_comesTo 152 = .ok (.iaload, 1) := by decide +kernel
theorem dX4_comesTo_153 : decode cX4_comesTo 153 = .ok (.isub, 1) := by decide +kernel
theorem dX4_comesTo_154 : decode cX4_comesTo 154 = .ok (.iastore, 1) := by decide +kernel
theorem dX4_comesTo_155 : decode cX4_comesTo 155 = .ok (.aload_n 0, 1) := by decide +kernel
theorem dX4_comesTo_156 : decode cX4_comesTo 156 = .ok (.getfield 63, 3) := by decide +kernel
theorem dX4_comesTo_159 : decode cX4_comesTo 159 = .ok (.bipush 10, 2) := by decide +kernel
theorem dX4_comesTo_161 : decode cX4_comesTo 161 = .ok (.iload_n 2, 1) := by decide +kernel
theorem dX4_comesTo_162 : decode cX4_comesTo 162 = .ok (.imul, 1) := by decide +kernel
theorem dX4_comesTo_163 : decode cX4_comesTo 163 = .ok (.aload_n 0, 1) := by decide +kernel
theorem dX4_comesTo_164 : decode cX4_comesTo 164 = .ok (.getfield 35, 3) := by decide +kernel
theorem dX4_comesTo_167 : decode cX4_comesTo 167 = .ok (.iload_n 1, 1) := by decide +kernel
theorem dX4_comesTo_168 : decode cX4_comesTo 168 = .ok (.iaload, 1) := by decide +kernel
theorem dX4_comesTo_169 : decode cX4_comesTo 169 = .ok (.iadd, 1) := by decide +kernel
theorem dX4_comesTo_170 : decode cX4_comesTo 170 = .ok (.dup2, 1) := by decide +kernel
theorem dX4_comesTo_171 : decode cX4_comesTo 171 = .ok (.iaload, 1) := by decide +kernel
theorem dX4_comesTo_172 : decode cX4_comesTo 172 = .ok (.aload_n 0, 1) := by decide +kernel
theorem dX4_comesTo_173 : decode cX4_comesTo 173 = .ok (.getfield 44, 3) := by decide +kernel
theorem dX4_comesTo_176 : decode cX4_comesTo 176 = .ok (.iload_n 1, 1) := by decide +kernel
theorem dX4_comesTo_177 : decode cX4_comesTo 177 = .ok (.iaload, 1) := by decide +kernel
theorem dX4_comesTo_178 : decode cX4_comesTo 178 = .ok (.iadd, 1) := by decide +kernel
theorem dX4_comesTo_179 : decode cX4_comesTo 179 = .ok (.iastore, 1) := by decide +kernel
theorem dX4_comesTo_180 : decode cX4_comesTo 180 = .ok (.return_, 1) := by decide +kernel
theorem dX4_nicked_0 : decode cX4_nicked 0 = .ok (.iload_n 3, 1) := by decide +kernel
theorem dX4_nicked_1 : decode cX4_nicked 1 = .ok (.aload_n 0, 1) := by decide +kernel
theorem dX4_nicked_2 : decode cX4_nicked 2 = .ok (.getfield 66, 3) := by decide +kernel
theorem dX4_nicked_5 : decode cX4_nicked 5 = .ok (.iload_n 1, 1) := by decide +kernel
theorem dX4_nicked_6 : decode cX4_nicked 6 = .ok (.iaload, 1) := by decide +kernel
theorem dX4_nicked_7 : decode cX4_nicked 7 = .ok (.isub, 1) := by decide +kernel
theorem dX4_nicked_8 : decode cX4_nicked 8 = .ok (.aload_n 0, 1) := by decide +kernel
theorem dX4_nicked_9 : decode cX4_nicked 9 = .ok (.getfield 13, 3) := by decide +kernel
theorem dX4_nicked_12 : decode cX4_nicked 12 = .ok (.if_icmp .le 13, 3) := by decide +kernel
theorem dX4_nicked_15 : decode cX4_nicked 15 = .ok (.iload_n 2, 1) := by decide +kernel
theorem dX4_nicked_16 : decode cX4_nicked 16 = .ok (.aload_n 0, 1) := by decide +kernel
theorem dX4_nicked_17 : decode cX4_nicked 17 = .ok (.getfield 60, 3) := by decide +kernel
theorem dX4_nicked_20 : decode cX4_nicked 20 = .ok (.iload_n 1, 1) := by decide +kernel
theorem dX4_nicked_21 : decode cX4_nicked 21 = .ok (.iaload, 1) := by decide +kernel
theorem dX4_nicked_22 : decode cX4_nicked 22 = .ok (.if_icmp .ne 4, 3) := by decide +kernel
theorem dX4_nicked_25 : decode cX4_nicked 25 = .ok (.return_, 1) := by decide +kernel
theorem dX4_nicked_26 : decode cX4_nicked 26 = .ok (.aload_n 0, 1) := by decide +kernel
theorem dX4_nicked_27 : decode cX4_nicked 27 = .ok (.getfield 78, 3) := by decide +kernel
theorem dX4_nicked_30 : decode cX4_nicked 30 = .ok (.iload_n 1, 1) := by decide +kernel
theorem dX4_nicked_31 : decode cX4_nicked 31 = .ok (.iaload, 1) := by decide +kernel
theorem dX4_nicked_32 : decode cX4_nicked 32 = .ok (.ifCond .le 33, 3) := by decide +kernel
theorem dX4_nicked_35 : decode cX4_nicked 35 = .ok (.aload_n 0, 1) := by decide +kernel
theorem dX4_nicked_36 : decode cX4_nicked 36 = .ok (.getfield 75, 3) := by decide +kernel
theorem dX4_nicked_39 : decode cX4_nicked 39 = .ok (.iload_n 1, 1) := by decide +kernel
theorem dX4_nicked_40 : decode cX4_nicked 40 = .ok (.iaload, 1) := by decide +kernel
theorem dX4_nicked_41 : decode cX4_nicked 41 = .ok (.iload_n 2, 1) := by decide +kernel
theorem dX4_nicked_42 : decode cX4_nicked 42 = .ok (.if_icmp .ne 16, 3) := by decide +kernel
theorem dX4_nicked_45 : decode cX4_nicked 45 = .ok (.iload_n 3, 1) := by decide +kernel
theorem dX4_nicked_46 : decode cX4_nicked 46 = .ok (.aload_n 0, 1) := by decide +kernel
theorem dX4_nicked_47 : decode cX4_nicked 47 = .ok (.getfield 81, 3) := by decide +kernel
theorem dX4_nicked_50 : decode cX4_nicked 50 = .ok (.iload_n 1, 1) := by decide +kernel
theorem dX4_nicked_51 : decode cX4_nicked 51 = .ok (.iaload, 1) := by decide +kernel
theorem dX4_nicked_52 : decode cX4_nicked 52 = .ok (.isub, 1) := by decide +kernel
theorem dX4_nicked_53 : decode cX4_nicked 53 = .ok (.bipush 10, 2) := by decide +kernel
theorem dX4_nicked_55 : decode cX4_nicked 55 = .ok (.if_icmp .le 10, 3) := by decide +kernel
theorem dX4_nicked_58 : decode cX4_nicked 58 = .ok (.aload_n 0, 1) := by decide +kernel
theorem dX4_nicked_59 : decode cX4_nicked 59 = .ok (.getfield 78, 3) := by decide +kernel
theorem dX4_nicked_62 : decode cX4_nicked 62 = .ok (.iload_n 1, 1) := by decide +kernel
theorem dX4_nicked_63 : decode cX4_nicked 63 = .ok (.iconst 0, 1) := by decide +kernel
theorem dX4_nicked_64 : decode cX4_nicked 64 = .ok (.iastore, 1) := by decide +kernel
theorem dX4_nicked_65 : decode cX4_nicked 65 = .ok (.aload_n 0, 1) := by decide +kernel
theorem dX4_nicked_66 : decode cX4_nicked 66 = .ok (.getfield 78, 3) := by decide +kernel
theorem dX4_nicked_69 : decode cX4_nicked 69 = .ok (.iload_n 1, 1) := by decide +kernel
theorem dX4_nicked_70 : decode cX4_nicked 70 = .ok (.iaload, 1) := by decide +kernel
theorem dX4_nicked_71 : decode cX4_nicked 71 = .ok (.ifCond .le 14, 3) := by decide +kernel
theorem dX4_nicked_74 : decode cX4_nicked 74 = .ok (.aload_n 0, 1) := by decide +kernel
theorem dX4_nicked_75 : decode cX4_nicked 75 = .ok (.getfield 84, 3) := by decide +kernel
theorem dX4_nicked_78 : decode cX4_nicked 78 = .ok (.iload_n 1, 1) := by decide +kernel
theorem dX4_nicked_79 : decode cX4_nicked 79 = .ok (.iaload, 1) := by decide +kernel
theorem dX4_nicked_80 : decode cX4_nicked 80 = .ok (.iload_n 3, 1) := by decide +kernel
theorem dX4_nicked_81 : decode cX4_nicked 81 = .ok (.if_icmp .ne 4, 3) := by decide +kernel
theorem dX4_nicked_84 : decode cX4_nicked 84 = .ok (.return_, 1) := by decide +kernel
theorem dX4_nicked_85 : decode cX4_nicked 85 = .ok (.aload_n 0, 1) := by decide +kernel
theorem dX4_nicked_86 : decode cX4_nicked 86 = .ok (.getfield 81, 3) := by decide +kernel
theorem dX4_nicked_89 : decode cX4_nicked 89 = .ok (.iload_n 1, 1) := by decide +kernel
theorem dX4_nicked_90 : decode cX4_nicked 90 = .ok (.aload_n 0, 1) := by decide +kernel
theorem dX4_nicked_91 : decode cX4_nicked 91 = .ok (.getfield 78, 3) := by decide +kernel
theorem dX4_nicked_94 : decode cX4_nicked 94 = .ok (.iload_n 1, 1) := by decide +kernel
theorem dX4_nicked_95 : decode cX4_nicked 95 = .ok (.iaload, 1) := by decide +kernel
theorem dX4_nicked_96 : decode cX4_nicked 96 = .ok (.ifCond .ne 7, 3) := by decide +kernel
theorem dX4_nicked_99 : decode cX4_nicked 99 = .ok (.iload_n 3, 1) := by decide +kernel
theorem dX4_nicked_100 : decode cX4_nicked 100 = .ok (.goto 9, 3) := by decide +kernel
theorem dX4_nicked_103 : decode cX4_nicked 103 = .ok (.aload_n 0, 1) := by decide +kernel
theorem dX4_nicked_104 : decode cX4_nicked 104 = .ok (.getfield 81, 3) := by decide +kernel
theorem dX4_nicked_107 : decode cX4_nicked 107 = .ok (.iload_n 1, 1) := by decide +kernel
theorem dX4_nicked_108 : decode cX4_nicked 108 = .ok (.iaload, 1) := by decide +kernel
theorem dX4_nicked_109 : decode cX4_nicked 109 = .ok (.iastore, 1) := by decide +kernel
theorem dX4_nicked_110 : decode cX4_nicked 110 = .ok (.aload_n 0, 1) := by decide +kernel
theorem dX4_nicked_111 : decode cX4_nicked 111 = .ok (.getfield 84, 3) := by decide +kernel
theorem dX4_nicked_114 : decode cX4_nicked 114 = .ok (.iload_n 1, 1) := by decide +kernel
theorem dX4_nicked_115 : decode cX4_nicked 115 = .ok (.iload_n 3, 1) := by decide +kernel
theorem dX4_nicked_116 : decode cX4_nicked 116 = .ok (.iastore, 1) := by decide +kernel
theorem dX4_nicked_117 : decode cX4_nicked 117 = .ok (.aload_n 0, 1) := by decide +kernel
theorem dX4_nicked_118 : decode cX4_nicked 118 = .ok (.getfield 75, 3) := by decide +kernel
theorem dX4_nicked_121 : decode cX4_nicked 121 = .ok (.iload_n 1, 1) := by decide +kernel
theorem dX4_nicked_122 : decode cX4_nicked 122 = .ok (.iload_n 2, 1) := by decide +kernel
theorem dX4_nicked_123 : decode cX4_nicked 123 = .ok (.iastore, 1) := by decide +kernel
theorem dX4_nicked_124 : decode cX4_nicked 124 = .ok (.aload_n 0, 1) := by decide +kernel
theorem dX4_nicked_125 : decode cX4_nicked 125 = .ok (.getfield 78, 3) := by decide +kernel
theorem dX4_nicked_128 : decode cX4_nicked 128 = .ok (.iload_n 1, 1) := by decide +kernel
theorem dX4_nicked_129 : decode cX4_nicked 129 = .ok (.dup2, 1) := by decide +kernel
theorem dX4_nicked_130 : decode cX4_nicked 130 = .ok (.iaload, 1) := by decide +kernel
theorem dX4_nicked_131 : decode cX4_nicked 131 = .ok (.iconst 1, 1) := by decide +kernel
theorem dX4_nicked_132 : decode cX4_nicked 132 = .ok (.iadd, 1) := by decide +kernel
theorem dX4_nicked_133 : decode cX4_nicked 133 = .ok (.iastore, 1) := by decide +kernel
theorem dX4_nicked_134 : decode cX4_nicked 134 = .ok (.aload_n 0, 1) := by decide +kernel
theorem dX4_nicked_135 : decode cX4_nicked 135 = .ok (.getfield 78, 3) := by decide +kernel
theorem dX4_nicked_138 : decode cX4_nicked 138 = .ok (.iload_n 1, 1) := by decide +kernel
theorem dX4_nicked_139 : decode cX4_nicked 139 = .ok (.iaload, 1) := by decide +kernel
theorem dX4_nicked_140 : decode cX4_nicked 140 = .ok (.iconst 3, 1) := by decide +kernel
theorem dX4_nicked_141 : decode cX4_nicked 141 = .ok (.if_icmp .ne 10, 3) := by decide +kernel
theorem dX4_nicked_144 : decode cX4_nicked 144 = .ok (.aload_n 0, 1) := by decide +kernel
theorem dX4_nicked_145 : decode cX4_nicked 145 = .ok (.iload_n 1, 1) := by decide +kernel
theorem dX4_nicked_146 : decode cX4_nicked 146 = .ok (.iload_n 2, 1) := by decide +kernel
theorem dX4_nicked_147 : decode cX4_nicked 147 = .ok (.iload_n 3, 1) := by decide +kernel
theorem dX4_nicked_148 : decode cX4_nicked 148 = .ok (.invokevirtual 135, 3) := by decide +kernel
theorem dX4_nicked_151 : decode cX4_nicked 151 = .ok (.return_, 1) := by decide +kernel
theorem dX4_ownerOf_0 : decode cX4_ownerOf 0 = .ok (.iconst (-1), 1) := by decide +kernel
theorem dX4_ownerOf_1 : decode cX4_ownerOf 1 = .ok (.istore_n 3, 1) := by decide +kernel
theorem dX4_ownerOf_2 : decode cX4_ownerOf 2 = .ok (.iconst 0, 1) := by decide +kernel
theorem dX4_ownerOf_3 : decode cX4_ownerOf 3 = .ok (.istore 4, 2) := by decide +kernel
theorem dX4_ownerOf_5 : decode cX4_ownerOf 5 = .ok (.iload 4, 2) := by decide +kernel
theorem dX4_ownerOf_7 : decode cX4_ownerOf 7 = .ok (.aload_n 0, 1) := by decide +kernel
theorem dX4_ownerOf_8 : decode cX4_ownerOf 8 = .ok (.getfield 97, 3) := by decide +kernel
theorem dX4_ownerOf_11 : decode cX4_ownerOf 11 = .ok (.if_icmp .ge 91, 3) := by decide +kernel
theorem dX4_ownerOf_14 : decode cX4_ownerOf 14 = .ok (.aload_n 0, 1) := by decide +kernel
theorem dX4_ownerOf_15 : decode cX4_ownerOf 15 = .ok (.getfield 56, 3) := by decide +kernel
theorem dX4_ownerOf_18 : decode cX4_ownerOf 18 = .ok (.iload 4, 2) := by decide +kernel
theorem dX4_ownerOf_20 : decode cX4_ownerOf 20 = .ok (.baload, 1) := by decide +kernel
theorem dX4_ownerOf_21 : decode cX4_ownerOf 21 = .ok (.ifCond .eq 40, 3) := by decide +kernel
theorem dX4_ownerOf_24 : decode cX4_ownerOf 24 = .ok (.aload_n 0, 1) := by decide +kernel
theorem dX4_ownerOf_25 : decode cX4_ownerOf 25 = .ok (.getfield 29, 3) := by decide +kernel
theorem dX4_ownerOf_28 : decode cX4_ownerOf 28 = .ok (.iload 4, 2) := by decide +kernel
theorem dX4_ownerOf_30 : decode cX4_ownerOf 30 = .ok (.iaload, 1) := by decide +kernel
theorem dX4_ownerOf_31 : decode cX4_ownerOf 31 = .ok (.iload_n 1, 1) := by decide +kernel
theorem dX4_ownerOf_32 : decode cX4_ownerOf 32 = .ok (.if_icmp .ne 29, 3) := by decide +kernel
theorem dX4_ownerOf_35 : decode cX4_ownerOf 35 = .ok (.iload_n 2, 1) := by decide +kernel
theorem dX4_ownerOf_36 : decode cX4_ownerOf 36 = .ok (.aload_n 0, 1) := by decide +kernel
theorem dX4_ownerOf_37 : decode cX4_ownerOf 37 = .ok (.getfield 69, 3) := by decide +kernel
theorem dX4_ownerOf_40 : decode cX4_ownerOf 40 = .ok (.iload 4, 2) := by decide +kernel
theorem dX4_ownerOf_42 : decode cX4_ownerOf 42 = .ok (.iaload, 1) := by decide +kernel
theorem dX4_ownerOf_43 : decode cX4_ownerOf 43 = .ok (.if_icmp .lt 18, 3) := by decide +kernel
theorem dX4_ownerOf_46 : decode cX4_ownerOf 46 = .ok (.iload_n 2, 1) := by decide +kernel
theorem dX4_ownerOf_47 : decode cX4_ownerOf 47 = .ok (.aload_n 0, 1) := by decide +kernel
theorem dX4_ownerOf_48 : decode cX4_ownerOf 48 = .ok (.getfield 72, 3) := by decide +kernel
theorem dX4_ownerOf_51 : decode cX4_ownerOf 51 = .ok (.iload 4, 2) := by decide +kernel
theorem dX4_ownerOf_53 : decode cX4_ownerOf 53 = .ok (.iaload, 1) := by decide +kernel
theorem dX4_ownerOf_54 : decode cX4_ownerOf 54 = .ok (.if_icmp .gt 7, 3) := by decide +kernel
theorem dX4_ownerOf_57 : decode cX4_ownerOf 57 = .ok (.iconst 1, 1) := by decide +kernel
theorem dX4_ownerOf_58 : decode cX4_ownerOf 58 = .ok (.goto 4, 3) := by decide +kernel
theorem dX4_ownerOf_61 : decode cX4_ownerOf 61 = .ok (.iconst 0, 1) := by decide +kernel
theorem dX4_ownerOf_62 : decode cX4_ownerOf 62 = .ok (.istore 5, 2) := by decide +kernel
theorem dX4_ownerOf_64 : decode cX4_ownerOf 64 = .ok (.iload 5, 2) := by decide +kernel
theorem dX4_ownerOf_66 : decode cX4_ownerOf 66 = .ok (.ifCond .eq 28, 3) := by decide +kernel
theorem dX4_ownerOf_69 : decode cX4_ownerOf 69 = .ok (.iload_n 3, 1) := by decide +kernel
theorem dX4_ownerOf_70 : decode cX4_ownerOf 70 = .ok (.ifCond .lt 19, 3) := by decide +kernel
theorem dX4_ownerOf_73 : decode cX4_ownerOf 73 = .ok (.aload_n 0, 1) := by decide +kernel
theorem dX4_ownerOf_74 : decode cX4_ownerOf 74 = .ok (.getfield 20, 3) := by decide +kernel
theorem dX4_ownerOf_77 : decode cX4_ownerOf 77 = .ok (.iload 4, 2) := by decide +kernel
theorem dX4_ownerOf_79 : decode cX4_ownerOf 79 = .ok (.iaload, 1) := by decide +kernel
theorem dX4_ownerOf_80 : decode cX4_ownerOf 80 = .ok (.aload_n 0, 1) := by decide +kernel
theorem dX4_ownerOf_81 : decode cX4_ownerOf 81 = .ok (.getfield 20, 3) := by decide +kernel
theorem dX4_ownerOf_84 : decode cX4_ownerOf 84 = .ok (.iload_n 3, 1) := by decide +kernel
theorem dX4_ownerOf_85 : decode cX4_ownerOf 85 = .ok (.iaload, 1) := by decide +kernel
theorem dX4_ownerOf_86 : decode cX4_ownerOf 86 = .ok (.if_icmp .ge 8, 3) := by decide +kernel
theorem dX4_ownerOf_89 : decode cX4_ownerOf 89 = .ok (.iload 4, 2) := by decide +kernel
theorem dX4_ownerOf_91 : decode cX4_ownerOf 91 = .ok (.goto 4, 3) := by decide +kernel
theorem dX4_ownerOf_94 : decode cX4_ownerOf 94 = .ok (.iload_n 3, 1) := by decide +kernel
theorem dX4_ownerOf_95 : decode cX4_ownerOf 95 = .ok (.istore_n 3, 1) := by decide +kernel
theorem dX4_ownerOf_96 : decode cX4_ownerOf 96 = .ok (.iinc 4 1, 3) := by decide +kernel
theorem dX4_ownerOf_99 : decode cX4_ownerOf 99 = .ok (.goto (-94), 3) := by decide +kernel
theorem dX4_ownerOf_102 : decode cX4_ownerOf 102 = .ok (.iload_n 3, 1) := by decide +kernel
theorem dX4_ownerOf_103 : decode cX4_ownerOf 103 = .ok (.ireturn, 1) := by decide +kernel
theorem dX4_digs_0 : decode cX4_digs 0 = .ok (.aload_n 0, 1) := by decide +kernel
theorem dX4_digs_1 : decode cX4_digs 1 = .ok (.aload_n 0, 1) := by decide +kernel
theorem dX4_digs_2 : decode cX4_digs 2 = .ok (.getfield 29, 3) := by decide +kernel
theorem dX4_digs_5 : decode cX4_digs 5 = .ok (.iload_n 1, 1) := by decide +kernel
theorem dX4_digs_6 : decode cX4_digs 6 = .ok (.iaload, 1) := by decide +kernel
theorem dX4_digs_7 : decode cX4_digs 7 = .ok (.aload_n 0, 1) := by decide +kernel
theorem dX4_digs_8 : decode cX4_digs 8 = .ok (.getfield 38, 3) := by decide +kernel
theorem dX4_digs_11 : decode cX4_digs 11 = .ok (.iload_n 1, 1) := by decide +kernel
theorem dX4_digs_12 : decode cX4_digs 12 = .ok (.iaload, 1) := by decide +kernel
theorem dX4_digs_13 : decode cX4_digs 13 = .ok (.invokevirtual 148, 3) := by decide +kernel
theorem dX4_digs_16 : decode cX4_digs 16 = .ok (.istore_n 2, 1) := by decide +kernel
theorem dX4_digs_17 : decode cX4_digs 17 = .ok (.iload_n 2, 1) := by decide +kernel
theorem dX4_digs_18 : decode cX4_digs 18 = .ok (.ifCond .ge 23, 3) := by decide +kernel
theorem dX4_digs_21 : decode cX4_digs 21 = .ok (.aload_n 0, 1) := by decide +kernel
theorem dX4_digs_22 : decode cX4_digs 22 = .ok (.getfield 87, 3) := by decide +kernel
theorem dX4_digs_25 : decode cX4_digs 25 = .ok (.bipush 10, 2) := by decide +kernel
theorem dX4_digs_27 : decode cX4_digs 27 = .ok (.dup2, 1) := by decide +kernel
theorem dX4_digs_28 : decode cX4_digs 28 = .ok (.iaload, 1) := by decide +kernel
theorem dX4_digs_29 : decode cX4_digs 29 = .ok (.bipush 24, 2) := by decide +kernel
theorem dX4_digs_31 : decode cX4_digs 31 = .ok (.aload_n 0, 1) := by decide +kernel
theorem dX4_digs_32 : decode cX4_digs 32 = .ok (.getfield 44, 3) := by decide +kernel
theorem dX4_digs_35 : decode cX4_digs 35 = .ok (.iload_n 1, 1) := by decide +kernel
theorem dX4_digs_36 : decode cX4_digs 36 = .ok (.iaload, 1) := by decide +kernel
theorem dX4_digs_37 : decode cX4_digs 37 = .ok (.imul, 1) := by decide +kernel
theorem dX4_digs_38 : decode cX4_digs 38 = .ok (.iadd, 1) := by decide +kernel
theorem dX4_digs_39 : decode cX4_digs 39 = .ok (.iastore, 1) := by decide +kernel
theorem dX4_digs_40 : decode cX4_digs 40 = .ok (.return_, 1) := by decide +kernel
theorem dX4_digs_41 : decode cX4_digs 41 = .ok (.iconst 0, 1) := by decide +kernel
theorem dX4_digs_42 : decode cX4_digs 42 = .ok (.istore_n 3, 1) := by decide +kernel
theorem dX4_digs_43 : decode cX4_digs 43 = .ok (.iload_n 3, 1) := by decide +kernel
theorem dX4_digs_44 : decode cX4_digs 44 = .ok (.bipush 10, 2) := by decide +kernel
theorem dX4_digs_46 : decode cX4_digs 46 = .ok (.if_icmp .ge 36, 3) := by decide +kernel
theorem dX4_digs_49 : decode cX4_digs 49 = .ok (.aload_n 0, 1) := by decide +kernel
theorem dX4_digs_50 : decode cX4_digs 50 = .ok (.getfield 87, 3) := by decide +kernel
theorem dX4_digs_53 : decode cX4_digs 53 = .ok (.iload_n 3, 1) := by decide +kernel
theorem dX4_digs_54 : decode cX4_digs 54 = .ok (.dup2, 1) := by decide +kernel
theorem dX4_digs_55 : decode cX4_digs 55 = .ok (.iaload, 1) := by decide +kernel
theorem dX4_digs_56 : decode cX4_digs 56 = .ok (.aload_n 0, 1) := by decide +kernel
theorem dX4_digs_57 : decode cX4_digs 57 = .ok (.getfield 63, 3) := by decide +kernel
theorem dX4_digs_60 : decode cX4_digs 60 = .ok (.bipush 10, 2) := by decide +kernel
theorem dX4_digs_62 : decode cX4_digs 62 = .ok (.iload_n 2, 1) := by decide +kernel
theorem dX4_digs_63 : decode cX4_digs 63 = .ok (.imul, 1) := by decide +kernel
theorem dX4_digs_64 : decode cX4_digs 64 = .ok (.iload_n 3, 1) := by decide +kernel
theorem dX4_digs_65 : decode cX4_digs 65 = .ok (.iadd, 1) := by decide +kernel
theorem dX4_digs_66 : decode cX4_digs 66 = .ok (.iaload, 1) := by decide +kernel
theorem dX4_digs_67 : decode cX4_digs 67 = .ok (.aload_n 0, 1) := by decide +kernel
theorem dX4_digs_68 : decode cX4_digs 68 = .ok (.getfield 44, 3) := by decide +kernel
theorem dX4_digs_71 : decode cX4_digs 71 = .ok (.iload_n 1, 1) := by decide +kernel
theorem dX4_digs_72 : decode cX4_digs 72 = .ok (.iaload, 1) := by decide +kernel
theorem dX4_digs_73 : decode cX4_digs 73 = .ok (.imul, 1) := by decide +kernel
theorem dX4_digs_74 : decode cX4_digs 74 = .ok (.iadd, 1) := by decide +kernel
theorem dX4_digs_75 : decode cX4_digs 75 = .ok (.iastore, 1) := by decide +kernel
theorem dX4_digs_76 : decode cX4_digs 76 = .ok (.iinc 3 1, 3) := by decide +kernel
theorem dX4_digs_79 : decode cX4_digs 79 = .ok (.goto (-36), 3) := by decide +kernel
theorem dX4_digs_82 : decode cX4_digs 82 = .ok (.return_, 1) := by decide +kernel
theorem dX4_owner_0 : decode cX4_owner 0 = .ok (.aload_n 0, 1) := by decide +kernel
theorem dX4_owner_1 : decode cX4_owner 1 = .ok (.iload_n 1, 1) := by decide +kernel
theorem dX4_owner_2 : decode cX4_owner 2 = .ok (.iload_n 2, 1) := by decide +kernel
theorem dX4_owner_3 : decode cX4_owner 3 = .ok (.iload_n 3, 1) := by decide +kernel
theorem dX4_owner_4 : decode cX4_owner 4 = .ok (.iload 4, 2) := by decide +kernel
theorem dX4_owner_6 : decode cX4_owner 6 = .ok (.invokevirtual 152, 3) := by decide +kernel
theorem dX4_owner_9 : decode cX4_owner 9 = .ok (.istore 5, 2) := by decide +kernel
theorem dX4_owner_11 : decode cX4_owner 11 = .ok (.iload 5, 2) := by decide +kernel
theorem dX4_owner_13 : decode cX4_owner 13 = .ok (.ifCond .ge 8, 3) := by decide +kernel
theorem dX4_owner_16 : decode cX4_owner 16 = .ok (.iload 5, 2) := by decide +kernel
theorem dX4_owner_18 : decode cX4_owner 18 = .ok (.goto 10, 3) := by decide +kernel
theorem dX4_owner_21 : decode cX4_owner 21 = .ok (.aload_n 0, 1) := by decide +kernel
theorem dX4_owner_22 : decode cX4_owner 22 = .ok (.getfield 60, 3) := by decide +kernel
theorem dX4_owner_25 : decode cX4_owner 25 = .ok (.iload 5, 2) := by decide +kernel
theorem dX4_owner_27 : decode cX4_owner 27 = .ok (.iaload, 1) := by decide +kernel
theorem dX4_owner_28 : decode cX4_owner 28 = .ok (.ireturn, 1) := by decide +kernel
theorem dX4_claim_0 : decode cX4_claim 0 = .ok (.iload_n 1, 1) := by decide +kernel
theorem dX4_claim_1 : decode cX4_claim 1 = .ok (.invokestatic 103, 3) := by decide +kernel
theorem dX4_claim_4 : decode cX4_claim 4 = .ok (.ifCond .eq 25, 3) := by decide +kernel
theorem dX4_claim_7 : decode cX4_claim 7 = .ok (.iload_n 2, 1) := by decide +kernel
theorem dX4_claim_8 : decode cX4_claim 8 = .ok (.invokestatic 107, 3) := by decide +kernel
theorem dX4_claim_11 : decode cX4_claim 11 = .ok (.ifCond .eq 18, 3) := by decide +kernel
theorem dX4_claim_14 : decode cX4_claim 14 = .ok (.iload_n 3, 1) := by decide +kernel
theorem dX4_claim_15 : decode cX4_claim 15 = .ok (.invokestatic 155, 3) := by decide +kernel
theorem dX4_claim_18 : decode cX4_claim 18 = .ok (.ifCond .eq 11, 3) := by decide +kernel
theorem dX4_claim_21 : decode cX4_claim 21 = .ok (.iload 4, 2) := by decide +kernel
theorem dX4_claim_23 : decode cX4_claim 23 = .ok (.invokestatic 155, 3) := by decide +kernel
theorem dX4_claim_26 : decode cX4_claim 26 = .ok (.ifCond .ne 5, 3) := by decide +kernel
theorem dX4_claim_29 : decode cX4_claim 29 = .ok (.iconst (-1), 1) := by decide +kernel
theorem dX4_claim_30 : decode cX4_claim 30 = .ok (.ireturn, 1) := by decide +kernel
theorem dX4_claim_31 : decode cX4_claim 31 = .ok (.aload_n 0, 1) := by decide +kernel
theorem dX4_claim_32 : decode cX4_claim 32 = .ok (.iload_n 3, 1) := by decide +kernel
theorem dX4_claim_33 : decode cX4_claim 33 = .ok (.iload 4, 2) := by decide +kernel
theorem dX4_claim_35 : decode cX4_claim 35 = .ok (.invokevirtual 158, 3) := by decide +kernel
theorem dX4_claim_38 : decode cX4_claim 38 = .ok (.aload_n 0, 1) := by decide +kernel
theorem dX4_claim_39 : decode cX4_claim 39 = .ok (.iload_n 1, 1) := by decide +kernel
theorem dX4_claim_40 : decode cX4_claim 40 = .ok (.iload_n 2, 1) := by decide +kernel
theorem dX4_claim_41 : decode cX4_claim 41 = .ok (.invokevirtual 148, 3) := by decide +kernel
theorem dX4_claim_44 : decode cX4_claim 44 = .ok (.istore 5, 2) := by decide +kernel
theorem dX4_claim_46 : decode cX4_claim 46 = .ok (.iload 5, 2) := by decide +kernel
theorem dX4_claim_48 : decode cX4_claim 48 = .ok (.ifCond .ge 8, 3) := by decide +kernel
theorem dX4_claim_51 : decode cX4_claim 51 = .ok (.bipush (-4), 2) := by decide +kernel
theorem dX4_claim_53 : decode cX4_claim 53 = .ok (.goto 5, 3) := by decide +kernel
theorem dX4_claim_56 : decode cX4_claim 56 = .ok (.iload 5, 2) := by decide +kernel
theorem dX4_claim_58 : decode cX4_claim 58 = .ok (.ireturn, 1) := by decide +kernel
theorem dX4_owned_0 : decode cX4_owned 0 = .ok (.iconst 0, 1) := by decide +kernel
theorem dX4_owned_1 : decode cX4_owned 1 = .ok (.istore_n 2, 1) := by decide +kernel
theorem dX4_owned_2 : decode cX4_owned 2 = .ok (.iconst 0, 1) := by decide +kernel
theorem dX4_owned_3 : decode cX4_owned 3 = .ok (.istore_n 3, 1) := by decide +kernel
theorem dX4_owned_4 : decode cX4_owned 4 = .ok (.iload_n 3, 1) := by decide +kernel
theorem dX4_owned_5 : decode cX4_owned 5 = .ok (.bipush 60, 2) := by decide +kernel
theorem dX4_owned_7 : decode cX4_owned 7 = .ok (.if_icmp .ge 32, 3) := by decide +kernel
theorem dX4_owned_10 : decode cX4_owned 10 = .ok (.iload_n 2, 1) := by decide +kernel
theorem dX4_owned_11 : decode cX4_owned 11 = .ok (.aload_n 0, 1) := by decide +kernel
theorem dX4_owned_12 : decode cX4_owned 12 = .ok (.aload_n 0, 1) := by decide +kernel
theorem dX4_owned_13 : decode cX4_owned 13 = .ok (.getfield 29, 3) := by decide +kernel
theorem dX4_owned_16 : decode cX4_owned 16 = .ok (.iload_n 1, 1) := by decide +kernel
theorem dX4_owned_17 : decode cX4_owned 17 = .ok (.iaload, 1) := by decide +kernel
theorem dX4_owned_18 : decode cX4_owned 18 = .ok (.iload_n 3, 1) := by decide +kernel
theorem dX4_owned_19 : decode cX4_owned 19 = .ok (.invokevirtual 148, 3) := by decide +kernel
theorem dX4_owned_22 : decode cX4_owned 22 = .ok (.iload_n 1, 1) := by decide +kernel
theorem dX4_owned_23 : decode cX4_owned 23 = .ok (.if_icmp .ne 7, 3) := by decide +kernel
theorem dX4_owned_26 : decode cX4_owned 26 = .ok (.iconst 1, 1) := by decide +kernel
theorem dX4_owned_27 : decode cX4_owned 27 = .ok (.goto 4, 3) := by decide +kernel
theorem dX4_owned_30 : decode cX4_owned 30 = .ok (.iconst 0, 1) := by decide +kernel
theorem dX4_owned_31 : decode cX4_owned 31 = .ok (.iadd, 1) := by decide +kernel
theorem dX4_owned_32 : decode cX4_owned 32 = .ok (.istore_n 2, 1) := by decide +kernel
theorem dX4_owned_33 : decode cX4_owned 33 = .ok (.iinc 3 1, 3) := by decide +kernel
theorem dX4_owned_36 : decode cX4_owned 36 = .ok (.goto (-32), 3) := by decide +kernel
theorem dX4_owned_39 : decode cX4_owned 39 = .ok (.iload_n 2, 1) := by decide +kernel
theorem dX4_owned_40 : decode cX4_owned 40 = .ok (.ireturn, 1) := by decide +kernel
theorem dX4_of_0 : decode cX4_of 0 = .ok (.aload_n 0, 1) := by decide +kernel
theorem dX4_of_1 : decode cX4_of 1 = .ok (.iload_n 1, 1) := by decide +kernel
theorem dX4_of_2 : decode cX4_of 2 = .ok (.invokevirtual 120, 3) := by decide +kernel
theorem dX4_of_5 : decode cX4_of 5 = .ok (.ifCond .eq 28, 3) := by decide +kernel
theorem dX4_of_8 : decode cX4_of 8 = .ok (.iload_n 3, 1) := by decide +kernel
theorem dX4_of_9 : decode cX4_of 9 = .ok (.invokestatic 155, 3) := by decide +kernel
theorem dX4_of_12 : decode cX4_of 12 = .ok (.ifCond .eq 21, 3) := by decide +kernel
theorem dX4_of_15 : decode cX4_of 15 = .ok (.iload 4, 2) := by decide +kernel
theorem dX4_of_17 : decode cX4_of 17 = .ok (.invokestatic 155, 3) := by decide +kernel
theorem dX4_of_20 : decode cX4_of 20 = .ok (.ifCond .eq 13, 3) := by decide +kernel
theorem dX4_of_23 : decode cX4_of 23 = .ok (.iload_n 2, 1) := by decide +kernel
theorem dX4_of_24 : decode cX4_of 24 = .ok (.iconst 0, 1) := by decide +kernel
theorem dX4_of_25 : decode cX4_of 25 = .ok (.bipush 6, 2) := by decide +kernel
theorem dX4_of_27 : decode cX4_of 27 = .ok (.invokestatic 93, 3) := by decide +kernel
theorem dX4_of_30 : decode cX4_of 30 = .ok (.ifCond .ne 5, 3) := by decide +kernel
theorem dX4_of_33 : decode cX4_of 33 = .ok (.iconst (-1), 1) := by decide +kernel
theorem dX4_of_34 : decode cX4_of 34 = .ok (.ireturn, 1) := by decide +kernel
theorem dX4_of_35 : decode cX4_of 35 = .ok (.aload_n 0, 1) := by decide +kernel
theorem dX4_of_36 : decode cX4_of 36 = .ok (.getfield 16, 3) := by decide +kernel
theorem dX4_of_39 : decode cX4_of 39 = .ok (.iload_n 1, 1) := by decide +kernel
theorem dX4_of_40 : decode cX4_of 40 = .ok (.iaload, 1) := by decide +kernel
theorem dX4_of_41 : decode cX4_of 41 = .ok (.ifCond .eq 6, 3) := by decide +kernel
theorem dX4_of_44 : decode cX4_of 44 = .ok (.bipush (-3), 2) := by decide +kernel
theorem dX4_of_46 : decode cX4_of 46 = .ok (.ireturn, 1) := by decide +kernel
theorem dX4_of_47 : decode cX4_of 47 = .ok (.aload_n 0, 1) := by decide +kernel
theorem dX4_of_48 : decode cX4_of 48 = .ok (.iload_n 3, 1) := by decide +kernel
theorem dX4_of_49 : decode cX4_of 49 = .ok (.iload 4, 2) := by decide +kernel
theorem dX4_of_51 : decode cX4_of 51 = .ok (.invokevirtual 158, 3) := by decide +kernel
theorem dX4_of_54 : decode cX4_of 54 = .ok (.aload_n 0, 1) := by decide +kernel
theorem dX4_of_55 : decode cX4_of 55 = .ok (.getfield 56, 3) := by decide +kernel
theorem dX4_of_58 : decode cX4_of 58 = .ok (.iload_n 1, 1) := by decide +kernel
theorem dX4_of_59 : decode cX4_of 59 = .ok (.baload, 1) := by decide +kernel
theorem dX4_of_60 : decode cX4_of 60 = .ok (.ifCond .ne 6, 3) := by decide +kernel
theorem dX4_of_63 : decode cX4_of 63 = .ok (.bipush (-4), 2) := by decide +kernel
theorem dX4_of_65 : decode cX4_of 65 = .ok (.ireturn, 1) := by decide +kernel
theorem dX4_of_66 : decode cX4_of 66 = .ok (.iload_n 2, 1) := by decide +kernel
theorem dX4_of_67 : decode cX4_of 67 = .ok (.tableswitch 93 0 5 #[37, 44, 51, 58, 65, 86], 37) := by decide +kernel
theorem dX4_of_104 : decode cX4_of 104 = .ok (.aload_n 0, 1) := by decide +kernel
theorem dX4_of_105 : decode cX4_of 105 = .ok (.getfield 60, 3) := by decide +kernel
theorem dX4_of_108 : decode cX4_of 108 = .ok (.iload_n 1, 1) := by decide +kernel
theorem dX4_of_109 : decode cX4_of 109 = .ok (.iaload, 1) := by decide +kernel
theorem dX4_of_110 : decode cX4_of 110 = .ok (.ireturn, 1) := by decide +kernel
theorem dX4_of_111 : decode cX4_of 111 = .ok (.aload_n 0, 1) := by decide +kernel
theorem dX4_of_112 : decode cX4_of 112 = .ok (.getfield 69, 3) := by decide +kernel
theorem dX4_of_115 : decode cX4_of 115 = .ok (.iload_n 1, 1) := by decide +kernel
theorem dX4_of_116 : decode cX4_of 116 = .ok (.iaload, 1) := by decide +kernel
theorem dX4_of_117 : decode cX4_of 117 = .ok (.ireturn, 1) := by decide +kernel
theorem dX4_of_118 : decode cX4_of 118 = .ok (.aload_n 0, 1) := by decide +kernel
theorem dX4_of_119 : decode cX4_of 119 = .ok (.getfield 72, 3) := by decide +kernel
theorem dX4_of_122 : decode cX4_of 122 = .ok (.iload_n 1, 1) := by decide +kernel
theorem dX4_of_123 : decode cX4_of 123 = .ok (.iaload, 1) := by decide +kernel
theorem dX4_of_124 : decode cX4_of 124 = .ok (.ireturn, 1) := by decide +kernel
theorem dX4_of_125 : decode cX4_of 125 = .ok (.aload_n 0, 1) := by decide +kernel
theorem dX4_of_126 : decode cX4_of 126 = .ok (.getfield 66, 3) := by decide +kernel
theorem dX4_of_129 : decode cX4_of 129 = .ok (.iload_n 1, 1) := by decide +kernel
theorem dX4_of_130 : decode cX4_of 130 = .ok (.iaload, 1) := by decide +kernel
theorem dX4_of_131 : decode cX4_of 131 = .ok (.ireturn, 1) := by decide +kernel
theorem dX4_of_132 : decode cX4_of 132 = .ok (.iload_n 3, 1) := by decide +kernel
theorem dX4_of_133 : decode cX4_of 133 = .ok (.aload_n 0, 1) := by decide +kernel
theorem dX4_of_134 : decode cX4_of 134 = .ok (.getfield 66, 3) := by decide +kernel
theorem dX4_of_137 : decode cX4_of 137 = .ok (.iload_n 1, 1) := by decide +kernel
theorem dX4_of_138 : decode cX4_of 138 = .ok (.iaload, 1) := by decide +kernel
theorem dX4_of_139 : decode cX4_of 139 = .ok (.isub, 1) := by decide +kernel
theorem dX4_of_140 : decode cX4_of 140 = .ok (.aload_n 0, 1) := by decide +kernel
theorem dX4_of_141 : decode cX4_of 141 = .ok (.getfield 13, 3) := by decide +kernel
theorem dX4_of_144 : decode cX4_of 144 = .ok (.if_icmp .le 7, 3) := by decide +kernel
theorem dX4_of_147 : decode cX4_of 147 = .ok (.iconst 1, 1) := by decide +kernel
theorem dX4_of_148 : decode cX4_of 148 = .ok (.goto 4, 3) := by decide +kernel
theorem dX4_of_151 : decode cX4_of 151 = .ok (.iconst 0, 1) := by decide +kernel
theorem dX4_of_152 : decode cX4_of 152 = .ok (.ireturn, 1) := by decide +kernel
theorem dX4_of_153 : decode cX4_of 153 = .ok (.aload_n 0, 1) := by decide +kernel
theorem dX4_of_154 : decode cX4_of 154 = .ok (.getfield 78, 3) := by decide +kernel
theorem dX4_of_157 : decode cX4_of 157 = .ok (.iload_n 1, 1) := by decide +kernel
theorem dX4_of_158 : decode cX4_of 158 = .ok (.iaload, 1) := by decide +kernel
theorem dX4_of_159 : decode cX4_of 159 = .ok (.ireturn, 1) := by decide +kernel
theorem dX4_of_160 : decode cX4_of 160 = .ok (.aload_n 0, 1) := by decide +kernel
theorem dX4_of_161 : decode cX4_of 161 = .ok (.iload_n 1, 1) := by decide +kernel
theorem dX4_of_162 : decode cX4_of 162 = .ok (.invokevirtual 162, 3) := by decide +kernel
theorem dX4_of_165 : decode cX4_of 165 = .ok (.ireturn, 1) := by decide +kernel
theorem dX4_share_0 : decode cX4_share 0 = .ok (.aload_n 0, 1) := by decide +kernel
theorem dX4_share_1 : decode cX4_share 1 = .ok (.iload_n 1, 1) := by decide +kernel
theorem dX4_share_2 : decode cX4_share 2 = .ok (.invokevirtual 120, 3) := by decide +kernel
theorem dX4_share_5 : decode cX4_share 5 = .ok (.ifCond .eq 25, 3) := by decide +kernel
theorem dX4_share_8 : decode cX4_share 8 = .ok (.iload_n 2, 1) := by decide +kernel
theorem dX4_share_9 : decode cX4_share 9 = .ok (.invokestatic 110, 3) := by decide +kernel
theorem dX4_share_12 : decode cX4_share 12 = .ok (.ifCond .eq 18, 3) := by decide +kernel
theorem dX4_share_15 : decode cX4_share 15 = .ok (.iload_n 3, 1) := by decide +kernel
theorem dX4_share_16 : decode cX4_share 16 = .ok (.invokestatic 155, 3) := by decide +kernel
theorem dX4_share_19 : decode cX4_share 19 = .ok (.ifCond .eq 11, 3) := by decide +kernel
theorem dX4_share_22 : decode cX4_share 22 = .ok (.iload 4, 2) := by decide +kernel
theorem dX4_share_24 : decode cX4_share 24 = .ok (.invokestatic 155, 3) := by decide +kernel
theorem dX4_share_27 : decode cX4_share 27 = .ok (.ifCond .ne 5, 3) := by decide +kernel
theorem dX4_share_30 : decode cX4_share 30 = .ok (.iconst (-1), 1) := by decide +kernel
theorem dX4_share_31 : decode cX4_share 31 = .ok (.ireturn, 1) := by decide +kernel
theorem dX4_share_32 : decode cX4_share 32 = .ok (.aload_n 0, 1) := by decide +kernel
theorem dX4_share_33 : decode cX4_share 33 = .ok (.getfield 16, 3) := by decide +kernel
theorem dX4_share_36 : decode cX4_share 36 = .ok (.iload_n 1, 1) := by decide +kernel
theorem dX4_share_37 : decode cX4_share 37 = .ok (.iaload, 1) := by decide +kernel
theorem dX4_share_38 : decode cX4_share 38 = .ok (.ifCond .eq 6, 3) := by decide +kernel
theorem dX4_share_41 : decode cX4_share 41 = .ok (.bipush (-3), 2) := by decide +kernel
theorem dX4_share_43 : decode cX4_share 43 = .ok (.ireturn, 1) := by decide +kernel
theorem dX4_share_44 : decode cX4_share 44 = .ok (.aload_n 0, 1) := by decide +kernel
theorem dX4_share_45 : decode cX4_share 45 = .ok (.iload_n 3, 1) := by decide +kernel
theorem dX4_share_46 : decode cX4_share 46 = .ok (.iload 4, 2) := by decide +kernel
theorem dX4_share_48 : decode cX4_share 48 = .ok (.invokevirtual 158, 3) := by decide +kernel
theorem dX4_share_51 : decode cX4_share 51 = .ok (.aload_n 0, 1) := by decide +kernel
theorem dX4_share_52 : decode cX4_share 52 = .ok (.getfield 56, 3) := by decide +kernel
theorem dX4_share_55 : decode cX4_share 55 = .ok (.iload_n 1, 1) := by decide +kernel
theorem dX4_share_56 : decode cX4_share 56 = .ok (.baload, 1) := by decide +kernel
theorem dX4_share_57 : decode cX4_share 57 = .ok (.ifCond .eq 17, 3) := by decide +kernel
theorem dX4_share_60 : decode cX4_share 60 = .ok (.aload_n 0, 1) := by decide +kernel
theorem dX4_share_61 : decode cX4_share 61 = .ok (.getfield 63, 3) := by decide +kernel
theorem dX4_share_64 : decode cX4_share 64 = .ok (.bipush 10, 2) := by decide +kernel
theorem dX4_share_66 : decode cX4_share 66 = .ok (.iload_n 1, 1) := by decide +kernel
theorem dX4_share_67 : decode cX4_share 67 = .ok (.imul, 1) := by decide +kernel
theorem dX4_share_68 : decode cX4_share 68 = .ok (.iload_n 2, 1) := by decide +kernel
theorem dX4_share_69 : decode cX4_share 69 = .ok (.iadd, 1) := by decide +kernel
theorem dX4_share_70 : decode cX4_share 70 = .ok (.iaload, 1) := by decide +kernel
theorem dX4_share_71 : decode cX4_share 71 = .ok (.goto 5, 3) := by decide +kernel
theorem dX4_share_74 : decode cX4_share 74 = .ok (.bipush (-4), 2) := by decide +kernel
theorem dX4_share_76 : decode cX4_share 76 = .ok (.ireturn, 1) := by decide +kernel
theorem dX4_feet_0 : decode cX4_feet 0 = .ok (.iload_n 1, 1) := by decide +kernel
theorem dX4_feet_1 : decode cX4_feet 1 = .ok (.invokestatic 110, 3) := by decide +kernel
theorem dX4_feet_4 : decode cX4_feet 4 = .ok (.ifCond .eq 17, 3) := by decide +kernel
theorem dX4_feet_7 : decode cX4_feet 7 = .ok (.iload_n 2, 1) := by decide +kernel
theorem dX4_feet_8 : decode cX4_feet 8 = .ok (.invokestatic 155, 3) := by decide +kernel
theorem dX4_feet_11 : decode cX4_feet 11 = .ok (.ifCond .eq 10, 3) := by decide +kernel
theorem dX4_feet_14 : decode cX4_feet 14 = .ok (.iload_n 3, 1) := by decide +kernel
theorem dX4_feet_15 : decode cX4_feet 15 = .ok (.invokestatic 155, 3) := by decide +kernel
theorem dX4_feet_18 : decode cX4_feet 18 = .ok (.ifCond .ne 5, 3) := by decide +kernel
theorem dX4_feet_21 : decode cX4_feet 21 = .ok (.iconst (-1), 1) := by decide +kernel
theorem dX4_feet_22 : decode cX4_feet 22 = .ok (.ireturn, 1) := by decide +kernel
theorem dX4_feet_23 : decode cX4_feet 23 = .ok (.aload_n 0, 1) := by decide +kernel
theorem dX4_feet_24 : decode cX4_feet 24 = .ok (.iload_n 2, 1) := by decide +kernel
theorem dX4_feet_25 : decode cX4_feet 25 = .ok (.iload_n 3, 1) := by decide +kernel
theorem dX4_feet_26 : decode cX4_feet 26 = .ok (.invokevirtual 158, 3) := by decide +kernel
theorem dX4_feet_29 : decode cX4_feet 29 = .ok (.iconst 0, 1) := by decide +kernel
theorem dX4_feet_30 : decode cX4_feet 30 = .ok (.istore 4, 2) := by decide +kernel
theorem dX4_feet_32 : decode cX4_feet 32 = .ok (.iconst 0, 1) := by decide +kernel
theorem dX4_feet_33 : decode cX4_feet 33 = .ok (.istore 5, 2) := by decide +kernel
theorem dX4_feet_35 : decode cX4_feet 35 = .ok (.iload 5, 2) := by decide +kernel
theorem dX4_feet_37 : decode cX4_feet 37 = .ok (.iconst 4, 1) := by decide +kernel
theorem dX4_feet_38 : decode cX4_feet 38 = .ok (.if_icmp .ge 61, 3) := by decide +kernel
theorem dX4_feet_41 : decode cX4_feet 41 = .ok (.iconst 0, 1) := by decide +kernel
theorem dX4_feet_42 : decode cX4_feet 42 = .ok (.istore 6, 2) := by decide +kernel
theorem dX4_feet_44 : decode cX4_feet 44 = .ok (.iload 6, 2) := by decide +kernel
theorem dX4_feet_46 : decode cX4_feet 46 = .ok (.bipush 60, 2) := by decide +kernel
theorem dX4_feet_48 : decode cX4_feet 48 = .ok (.if_icmp .ge 45, 3) := by decide +kernel
theorem dX4_feet_51 : decode cX4_feet 51 = .ok (.aload_n 0, 1) := by decide +kernel
theorem dX4_feet_52 : decode cX4_feet 52 = .ok (.iload 5, 2) := by decide +kernel
theorem dX4_feet_54 : decode cX4_feet 54 = .ok (.iload 6, 2) := by decide +kernel
theorem dX4_feet_56 : decode cX4_feet 56 = .ok (.invokevirtual 148, 3) := by decide +kernel
theorem dX4_feet_59 : decode cX4_feet 59 = .ok (.istore 7, 2) := by decide +kernel
theorem dX4_feet_61 : decode cX4_feet 61 = .ok (.iload 4, 2) := by decide +kernel
theorem dX4_feet_63 : decode cX4_feet 63 = .ok (.iload 7, 2) := by decide +kernel
theorem dX4_feet_65 : decode cX4_feet 65 = .ok (.ifCond .lt 18, 3) := by decide +kernel
theorem dX4_feet_68 : decode cX4_feet 68 = .ok (.aload_n 0, 1) := by decide +kernel
theorem dX4_feet_69 : decode cX4_feet 69 = .ok (.getfield 60, 3) := by decide +kernel
theorem dX4_feet_72 : decode cX4_feet 72 = .ok (.iload 7, 2) := by decide +kernel
theorem dX4_feet_74 : decode cX4_feet 74 = .ok (.iaload, 1) := by decide +kernel
theorem dX4_feet_75 : decode cX4_feet 75 = .ok (.iload_n 1, 1) := by decide +kernel
theorem dX4_feet_76 : decode cX4_feet 76 = .ok (.if_icmp .ne 7, 3) := by decide +kernel
theorem dX4_feet_79 : decode cX4_feet 79 = .ok (.iconst 1, 1) := by decide +kernel
theorem dX4_feet_80 : decode cX4_feet 80 = .ok (.goto 4, 3) := by decide +kernel
theorem dX4_feet_83 : decode cX4_feet 83 = .ok (.iconst 0, 1) := by decide +kernel
theorem dX4_feet_84 : decode cX4_feet 84 = .ok (.iadd, 1) := by decide +kernel
theorem dX4_feet_85 : decode cX4_feet 85 = .ok (.istore 4, 2) := by decide +kernel
theorem dX4_feet_87 : decode cX4_feet 87 = .ok (.iinc 6 1, 3) := by decide +kernel
theorem dX4_feet_90 : decode cX4_feet 90 = .ok (.goto (-46), 3) := by decide +kernel
theorem dX4_feet_93 : decode cX4_feet 93 = .ok (.iinc 5 1, 3) := by decide +kernel
theorem dX4_feet_96 : decode cX4_feet 96 = .ok (.goto (-61), 3) := by decide +kernel
theorem dX4_feet_99 : decode cX4_feet 99 = .ok (.iload 4, 2) := by decide +kernel
theorem dX4_feet_101 : decode cX4_feet 101 = .ok (.ireturn, 1) := by decide +kernel
theorem dX4_contested_0 : decode cX4_contested 0 = .ok (.iload_n 1, 1) := by decide +kernel
theorem dX4_contested_1 : decode cX4_contested 1 = .ok (.invokestatic 103, 3) := by decide +kernel
theorem dX4_contested_4 : decode cX4_contested 4 = .ok (.ifCond .eq 17, 3) := by decide +kernel
end
section
theorem dX4_contested_7 : decode cX4_contested 7 = .ok (.iload_n 2, 1) := by decide +kernel
theorem dX4_contested_8 : decode cX4_contested 8 = .ok (.invokestatic 155, 3) := by decide +kernel
theorem dX4_contested_11 : decode cX4_contested 11 = .ok (.ifCond .eq 10, 3) := by decide +kernel
theorem dX4_contested_14 : decode cX4_contested 14 = .ok (.iload_n 3, 1) := by decide +kernel
theorem dX4_contested_15 : decode cX4_contested 15 = .ok (.invokestatic 155, 3) := by decide +kernel
theorem dX4_contested_18 : decode cX4_contested 18 = .ok (.ifCond .ne 5, 3) := by decide +kernel
theorem dX4_contested_21 : decode cX4_contested 21 = .ok (.iconst (-1), 1) := by decide +kernel
theorem dX4_contested_22 : decode cX4_contested 22 = .ok (.ireturn, 1) := by decide +kernel
theorem dX4_contested_23 : decode cX4_contested 23 = .ok (.aload_n 0, 1) := by decide +kernel
theorem dX4_contested_24 : decode cX4_contested 24 = .ok (.iload_n 2, 1) := by decide +kernel
theorem dX4_contested_25 : decode cX4_contested 25 = .ok (.iload_n 3, 1) := by decide +kernel
theorem dX4_contested_26 : decode cX4_contested 26 = .ok (.invokevirtual 158, 3) := by decide +kernel
theorem dX4_contested_29 : decode cX4_contested 29 = .ok (.iconst 0, 1) := by decide +kernel
theorem dX4_contested_30 : decode cX4_contested 30 = .ok (.istore 4, 2) := by decide +kernel
theorem dX4_contested_32 : decode cX4_contested 32 = .ok (.iconst 0, 1) := by decide +kernel
theorem dX4_contested_33 : decode cX4_contested 33 = .ok (.istore 5, 2) := by decide +kernel
theorem dX4_contested_35 : decode cX4_contested 35 = .ok (.iload 5, 2) := by decide +kernel
theorem dX4_contested_37 : decode cX4_contested 37 = .ok (.bipush 60, 2) := by decide +kernel
theorem dX4_contested_39 : decode cX4_contested 39 = .ok (.if_icmp .ge 101, 3) := by decide +kernel
theorem dX4_contested_42 : decode cX4_contested 42 = .ok (.iconst 0, 1) := by decide +kernel
theorem dX4_contested_43 : decode cX4_contested 43 = .ok (.istore 6, 2) := by decide +kernel
theorem dX4_contested_45 : decode cX4_contested 45 = .ok (.iconst 0, 1) := by decide +kernel
theorem dX4_contested_46 : decode cX4_contested 46 = .ok (.istore 7, 2) := by decide +kernel
theorem dX4_contested_48 : decode cX4_contested 48 = .ok (.iload 7, 2) := by decide +kernel
theorem dX4_contested_50 : decode cX4_contested 50 = .ok (.aload_n 0, 1) := by decide +kernel
theorem dX4_contested_51 : decode cX4_contested 51 = .ok (.getfield 97, 3) := by decide +kernel
theorem dX4_contested_54 : decode cX4_contested 54 = .ok (.if_icmp .ge 64, 3) := by decide +kernel
theorem dX4_contested_57 : decode cX4_contested 57 = .ok (.iload 6, 2) := by decide +kernel
theorem dX4_contested_59 : decode cX4_contested 59 = .ok (.aload_n 0, 1) := by decide +kernel
theorem dX4_contested_60 : decode cX4_contested 60 = .ok (.getfield 56, 3) := by decide +kernel
theorem dX4_contested_63 : decode cX4_contested 63 = .ok (.iload 7, 2) := by decide +kernel
theorem dX4_contested_65 : decode cX4_contested 65 = .ok (.baload, 1) := by decide +kernel
theorem dX4_contested_66 : decode cX4_contested 66 = .ok (.ifCond .eq 42, 3) := by decide +kernel
theorem dX4_contested_69 : decode cX4_contested 69 = .ok (.aload_n 0, 1) := by decide +kernel
theorem dX4_contested_70 : decode cX4_contested 70 = .ok (.getfield 29, 3) := by decide +kernel
theorem dX4_contested_73 : decode cX4_contested 73 = .ok (.iload 7, 2) := by decide +kernel
theorem dX4_contested_75 : decode cX4_contested 75 = .ok (.iaload, 1) := by decide +kernel
theorem dX4_contested_76 : decode cX4_contested 76 = .ok (.iload_n 1, 1) := by decide +kernel
theorem dX4_contested_77 : decode cX4_contested 77 = .ok (.if_icmp .ne 31, 3) := by decide +kernel
theorem dX4_contested_80 : decode cX4_contested 80 = .ok (.iload 5, 2) := by decide +kernel
theorem dX4_contested_82 : decode cX4_contested 82 = .ok (.aload_n 0, 1) := by decide +kernel
theorem dX4_contested_83 : decode cX4_contested 83 = .ok (.getfield 69, 3) := by decide +kernel
theorem dX4_contested_86 : decode cX4_contested 86 = .ok (.iload 7, 2) := by decide +kernel
theorem dX4_contested_88 : decode cX4_contested 88 = .ok (.iaload, 1) := by decide +kernel
theorem dX4_contested_89 : decode cX4_contested 89 = .ok (.if_icmp .lt 19, 3) := by decide +kernel
theorem dX4_contested_92 : decode cX4_contested 92 = .ok (.iload 5, 2) := by decide +kernel
theorem dX4_contested_94 : decode cX4_contested 94 = .ok (.aload_n 0, 1) := by decide +kernel
theorem dX4_contested_95 : decode cX4_contested 95 = .ok (.getfield 72, 3) := by decide +kernel
theorem dX4_contested_98 : decode cX4_contested 98 = .ok (.iload 7, 2) := by decide +kernel
theorem dX4_contested_100 : decode cX4_contested 100 = .ok (.iaload, 1) := by decide +kernel
theorem dX4_contested_101 : decode cX4_contested 101 = .ok (.if_icmp .gt 7, 3) := by decide +kernel
theorem dX4_contested_104 : decode cX4_contested 104 = .ok (.iconst 1, 1) := by decide +kernel
theorem dX4_contested_105 : decode cX4_contested 105 = .ok (.goto 4, 3) := by decide +kernel
theorem dX4_contested_108 : decode cX4_contested 108 = .ok (.iconst 0, 1) := by decide +kernel
theorem dX4_contested_109 : decode cX4_contested 109 = .ok (.iadd, 1) := by decide +kernel
theorem dX4_contested_110 : decode cX4_contested 110 = .ok (.istore 6, 2) := by decide +kernel
theorem dX4_contested_112 : decode cX4_contested 112 = .ok (.iinc 7 1, 3) := by decide +kernel
theorem dX4_contested_115 : decode cX4_contested 115 = .ok (.goto (-67), 3) := by decide +kernel
theorem dX4_contested_118 : decode cX4_contested 118 = .ok (.iload 4, 2) := by decide +kernel
theorem dX4_contested_120 : decode cX4_contested 120 = .ok (.iload 6, 2) := by decide +kernel
theorem dX4_contested_122 : decode cX4_contested 122 = .ok (.iconst 1, 1) := by decide +kernel
theorem dX4_contested_123 : decode cX4_contested 123 = .ok (.if_icmp .le 7, 3) := by decide +kernel
theorem dX4_contested_126 : decode cX4_contested 126 = .ok (.iconst 1, 1) := by decide +kernel
theorem dX4_contested_127 : decode cX4_contested 127 = .ok (.goto 4, 3) := by decide +kernel
theorem dX4_contested_130 : decode cX4_contested 130 = .ok (.iconst 0, 1) := by decide +kernel
theorem dX4_contested_131 : decode cX4_contested 131 = .ok (.iadd, 1) := by decide +kernel
theorem dX4_contested_132 : decode cX4_contested 132 = .ok (.istore 4, 2) := by decide +kernel
theorem dX4_contested_134 : decode cX4_contested 134 = .ok (.iinc 5 1, 3) := by decide +kernel
theorem dX4_contested_137 : decode cX4_contested 137 = .ok (.goto (-102), 3) := by decide +kernel
theorem dX4_contested_140 : decode cX4_contested 140 = .ok (.iload 4, 2) := by decide +kernel
theorem dX4_contested_142 : decode cX4_contested 142 = .ok (.ireturn, 1) := by decide +kernel
theorem dX4_dug_0 : decode cX4_dug 0 = .ok (.iload_n 1, 1) := by decide +kernel
theorem dX4_dug_1 : decode cX4_dug 1 = .ok (.iconst 0, 1) := by decide +kernel
theorem dX4_dug_2 : decode cX4_dug 2 = .ok (.bipush 10, 2) := by decide +kernel
theorem dX4_dug_4 : decode cX4_dug 4 = .ok (.invokestatic 93, 3) := by decide +kernel
theorem dX4_dug_7 : decode cX4_dug 7 = .ok (.ifCond .eq 17, 3) := by decide +kernel
theorem dX4_dug_10 : decode cX4_dug 10 = .ok (.iload_n 2, 1) := by decide +kernel
theorem dX4_dug_11 : decode cX4_dug 11 = .ok (.invokestatic 155, 3) := by decide +kernel
theorem dX4_dug_14 : decode cX4_dug 14 = .ok (.ifCond .eq 10, 3) := by decide +kernel
theorem dX4_dug_17 : decode cX4_dug 17 = .ok (.iload_n 3, 1) := by decide +kernel
theorem dX4_dug_18 : decode cX4_dug 18 = .ok (.invokestatic 155, 3) := by decide +kernel
theorem dX4_dug_21 : decode cX4_dug 21 = .ok (.ifCond .ne 5, 3) := by decide +kernel
theorem dX4_dug_24 : decode cX4_dug 24 = .ok (.iconst (-1), 1) := by decide +kernel
theorem dX4_dug_25 : decode cX4_dug 25 = .ok (.ireturn, 1) := by decide +kernel
theorem dX4_dug_26 : decode cX4_dug 26 = .ok (.aload_n 0, 1) := by decide +kernel
theorem dX4_dug_27 : decode cX4_dug 27 = .ok (.iload_n 2, 1) := by decide +kernel
theorem dX4_dug_28 : decode cX4_dug 28 = .ok (.iload_n 3, 1) := by decide +kernel
theorem dX4_dug_29 : decode cX4_dug 29 = .ok (.invokevirtual 158, 3) := by decide +kernel
theorem dX4_dug_32 : decode cX4_dug 32 = .ok (.aload_n 0, 1) := by decide +kernel
theorem dX4_dug_33 : decode cX4_dug 33 = .ok (.getfield 87, 3) := by decide +kernel
theorem dX4_dug_36 : decode cX4_dug 36 = .ok (.iload_n 1, 1) := by decide +kernel
theorem dX4_dug_37 : decode cX4_dug 37 = .ok (.iaload, 1) := by decide +kernel
theorem dX4_dug_38 : decode cX4_dug 38 = .ok (.ireturn, 1) := by decide +kernel
theorem dX4_due_0 : decode cX4_due 0 = .ok (.iload_n 1, 1) := by decide +kernel
theorem dX4_due_1 : decode cX4_due 1 = .ok (.invokestatic 110, 3) := by decide +kernel
theorem dX4_due_4 : decode cX4_due 4 = .ok (.ifCond .eq 17, 3) := by decide +kernel
theorem dX4_due_7 : decode cX4_due 7 = .ok (.iload_n 2, 1) := by decide +kernel
theorem dX4_due_8 : decode cX4_due 8 = .ok (.invokestatic 155, 3) := by decide +kernel
theorem dX4_due_11 : decode cX4_due 11 = .ok (.ifCond .eq 10, 3) := by decide +kernel
theorem dX4_due_14 : decode cX4_due 14 = .ok (.iload_n 3, 1) := by decide +kernel
theorem dX4_due_15 : decode cX4_due 15 = .ok (.invokestatic 155, 3) := by decide +kernel
theorem dX4_due_18 : decode cX4_due 18 = .ok (.ifCond .ne 5, 3) := by decide +kernel
theorem dX4_due_21 : decode cX4_due 21 = .ok (.iconst (-1), 1) := by decide +kernel
theorem dX4_due_22 : decode cX4_due 22 = .ok (.ireturn, 1) := by decide +kernel
theorem dX4_due_23 : decode cX4_due 23 = .ok (.aload_n 0, 1) := by decide +kernel
theorem dX4_due_24 : decode cX4_due 24 = .ok (.iload_n 2, 1) := by decide +kernel
theorem dX4_due_25 : decode cX4_due 25 = .ok (.iload_n 3, 1) := by decide +kernel
theorem dX4_due_26 : decode cX4_due 26 = .ok (.invokevirtual 158, 3) := by decide +kernel
theorem dX4_due_29 : decode cX4_due 29 = .ok (.aload_n 0, 1) := by decide +kernel
theorem dX4_due_30 : decode cX4_due 30 = .ok (.getfield 87, 3) := by decide +kernel
theorem dX4_due_33 : decode cX4_due 33 = .ok (.iload_n 1, 1) := by decide +kernel
theorem dX4_due_34 : decode cX4_due 34 = .ok (.iaload, 1) := by decide +kernel
theorem dX4_due_35 : decode cX4_due 35 = .ok (.sipush 240, 3) := by decide +kernel
theorem dX4_due_38 : decode cX4_due 38 = .ok (.idiv, 1) := by decide +kernel
theorem dX4_due_39 : decode cX4_due 39 = .ok (.ireturn, 1) := by decide +kernel
theorem dX4_changed_0 : decode cX4_changed 0 = .ok (.iload_n 1, 1) := by decide +kernel
theorem dX4_changed_1 : decode cX4_changed 1 = .ok (.invokestatic 155, 3) := by decide +kernel
theorem dX4_changed_4 : decode cX4_changed 4 = .ok (.ifCond .eq 17, 3) := by decide +kernel
theorem dX4_changed_7 : decode cX4_changed 7 = .ok (.iload_n 2, 1) := by decide +kernel
theorem dX4_changed_8 : decode cX4_changed 8 = .ok (.invokestatic 155, 3) := by decide +kernel
theorem dX4_changed_11 : decode cX4_changed 11 = .ok (.ifCond .eq 10, 3) := by decide +kernel
theorem dX4_changed_14 : decode cX4_changed 14 = .ok (.iload_n 3, 1) := by decide +kernel
theorem dX4_changed_15 : decode cX4_changed 15 = .ok (.invokestatic 155, 3) := by decide +kernel
theorem dX4_changed_18 : decode cX4_changed 18 = .ok (.ifCond .ne 5, 3) := by decide +kernel
theorem dX4_changed_21 : decode cX4_changed 21 = .ok (.iconst (-1), 1) := by decide +kernel
theorem dX4_changed_22 : decode cX4_changed 22 = .ok (.ireturn, 1) := by decide +kernel
theorem dX4_changed_23 : decode cX4_changed 23 = .ok (.aload_n 0, 1) := by decide +kernel
theorem dX4_changed_24 : decode cX4_changed 24 = .ok (.iload_n 1, 1) := by decide +kernel
theorem dX4_changed_25 : decode cX4_changed 25 = .ok (.iload_n 2, 1) := by decide +kernel
theorem dX4_changed_26 : decode cX4_changed 26 = .ok (.invokevirtual 158, 3) := by decide +kernel
theorem dX4_changed_29 : decode cX4_changed 29 = .ok (.iconst 0, 1) := by decide +kernel
theorem dX4_changed_30 : decode cX4_changed 30 = .ok (.istore 4, 2) := by decide +kernel
theorem dX4_changed_32 : decode cX4_changed 32 = .ok (.iload 4, 2) := by decide +kernel
theorem dX4_changed_34 : decode cX4_changed 34 = .ok (.sipush 240, 3) := by decide +kernel
theorem dX4_changed_37 : decode cX4_changed 37 = .ok (.if_icmp .ge 49, 3) := by decide +kernel
theorem dX4_changed_40 : decode cX4_changed 40 = .ok (.aload_n 0, 1) := by decide +kernel
theorem dX4_changed_41 : decode cX4_changed 41 = .ok (.iload 4, 2) := by decide +kernel
theorem dX4_changed_43 : decode cX4_changed 43 = .ok (.bipush 60, 2) := by decide +kernel
theorem dX4_changed_45 : decode cX4_changed 45 = .ok (.idiv, 1) := by decide +kernel
theorem dX4_changed_46 : decode cX4_changed 46 = .ok (.iload 4, 2) := by decide +kernel
theorem dX4_changed_48 : decode cX4_changed 48 = .ok (.bipush 60, 2) := by decide +kernel
theorem dX4_changed_50 : decode cX4_changed 50 = .ok (.irem, 1) := by decide +kernel
theorem dX4_changed_51 : decode cX4_changed 51 = .ok (.invokevirtual 148, 3) := by decide +kernel
theorem dX4_changed_54 : decode cX4_changed 54 = .ok (.istore 5, 2) := by decide +kernel
theorem dX4_changed_56 : decode cX4_changed 56 = .ok (.aload_n 0, 1) := by decide +kernel
theorem dX4_changed_57 : decode cX4_changed 57 = .ok (.getfield 90, 3) := by decide +kernel
theorem dX4_changed_60 : decode cX4_changed 60 = .ok (.iload 4, 2) := by decide +kernel
theorem dX4_changed_62 : decode cX4_changed 62 = .ok (.iload 5, 2) := by decide +kernel
theorem dX4_changed_64 : decode cX4_changed 64 = .ok (.ifCond .ge 8, 3) := by decide +kernel
theorem dX4_changed_67 : decode cX4_changed 67 = .ok (.bipush (-4), 2) := by decide +kernel
theorem dX4_changed_69 : decode cX4_changed 69 = .ok (.goto 10, 3) := by decide +kernel
theorem dX4_changed_72 : decode cX4_changed 72 = .ok (.aload_n 0, 1) := by decide +kernel
theorem dX4_changed_73 : decode cX4_changed 73 = .ok (.getfield 60, 3) := by decide +kernel
theorem dX4_changed_76 : decode cX4_changed 76 = .ok (.iload 5, 2) := by decide +kernel
theorem dX4_changed_78 : decode cX4_changed 78 = .ok (.iaload, 1) := by decide +kernel
theorem dX4_changed_79 : decode cX4_changed 79 = .ok (.iastore, 1) := by decide +kernel
theorem dX4_changed_80 : decode cX4_changed 80 = .ok (.iinc 4 1, 3) := by decide +kernel
theorem dX4_changed_83 : decode cX4_changed 83 = .ok (.goto (-51), 3) := by decide +kernel
theorem dX4_changed_86 : decode cX4_changed 86 = .ok (.aload_n 0, 1) := by decide +kernel
theorem dX4_changed_87 : decode cX4_changed 87 = .ok (.iload_n 1, 1) := by decide +kernel
theorem dX4_changed_88 : decode cX4_changed 88 = .ok (.iload_n 3, 1) := by decide +kernel
theorem dX4_changed_89 : decode cX4_changed 89 = .ok (.invokevirtual 158, 3) := by decide +kernel
theorem dX4_changed_92 : decode cX4_changed 92 = .ok (.iconst 0, 1) := by decide +kernel
theorem dX4_changed_93 : decode cX4_changed 93 = .ok (.istore 4, 2) := by decide +kernel
theorem dX4_changed_95 : decode cX4_changed 95 = .ok (.iconst 0, 1) := by decide +kernel
theorem dX4_changed_96 : decode cX4_changed 96 = .ok (.istore 5, 2) := by decide +kernel
theorem dX4_changed_98 : decode cX4_changed 98 = .ok (.iload 5, 2) := by decide +kernel
theorem dX4_changed_100 : decode cX4_changed 100 = .ok (.sipush 240, 3) := by decide +kernel
theorem dX4_changed_103 : decode cX4_changed 103 = .ok (.if_icmp .ge 62, 3) := by decide +kernel
theorem dX4_changed_106 : decode cX4_changed 106 = .ok (.aload_n 0, 1) := by decide +kernel
theorem dX4_changed_107 : decode cX4_changed 107 = .ok (.iload 5, 2) := by decide +kernel
theorem dX4_changed_109 : decode cX4_changed 109 = .ok (.bipush 60, 2) := by decide +kernel
theorem dX4_changed_111 : decode cX4_changed 111 = .ok (.idiv, 1) := by decide +kernel
theorem dX4_changed_112 : decode cX4_changed 112 = .ok (.iload 5, 2) := by decide +kernel
theorem dX4_changed_114 : decode cX4_changed 114 = .ok (.bipush 60, 2) := by decide +kernel
theorem dX4_changed_116 : decode cX4_changed 116 = .ok (.irem, 1) := by decide +kernel
theorem dX4_changed_117 : decode cX4_changed 117 = .ok (.invokevirtual 148, 3) := by decide +kernel
theorem dX4_changed_120 : decode cX4_changed 120 = .ok (.istore 6, 2) := by decide +kernel
theorem dX4_changed_122 : decode cX4_changed 122 = .ok (.iload 4, 2) := by decide +kernel
theorem dX4_changed_124 : decode cX4_changed 124 = .ok (.aload_n 0, 1) := by decide +kernel
theorem dX4_changed_125 : decode cX4_changed 125 = .ok (.getfield 90, 3) := by decide +kernel
theorem dX4_changed_128 : decode cX4_changed 128 = .ok (.iload 5, 2) := by decide +kernel
theorem dX4_changed_130 : decode cX4_changed 130 = .ok (.iaload, 1) := by decide +kernel
theorem dX4_changed_131 : decode cX4_changed 131 = .ok (.iload 6, 2) := by decide +kernel
theorem dX4_changed_133 : decode cX4_changed 133 = .ok (.ifCond .ge 8, 3) := by decide +kernel
theorem dX4_changed_136 : decode cX4_changed 136 = .ok (.bipush (-4), 2) := by decide +kernel
theorem dX4_changed_138 : decode cX4_changed 138 = .ok (.goto 10, 3) := by decide +kernel
theorem dX4_changed_141 : decode cX4_changed 141 = .ok (.aload_n 0, 1) := by decide +kernel
theorem dX4_changed_142 : decode cX4_changed 142 = .ok (.getfield 60, 3) := by decide +kernel
theorem dX4_changed_145 : decode cX4_changed 145 = .ok (.iload 6, 2) := by decide +kernel
theorem dX4_changed_147 : decode cX4_changed 147 = .ok (.iaload, 1) := by decide +kernel
theorem dX4_changed_148 : decode cX4_changed 148 = .ok (.if_icmp .eq 7, 3) := by decide +kernel
theorem dX4_changed_151 : decode cX4_changed 151 = .ok (.iconst 1, 1) := by decide +kernel
theorem dX4_changed_152 : decode cX4_changed 152 = .ok (.goto 4, 3) := by decide +kernel
theorem dX4_changed_155 : decode cX4_changed 155 = .ok (.iconst 0, 1) := by decide +kernel
theorem dX4_changed_156 : decode cX4_changed 156 = .ok (.iadd, 1) := by decide +kernel
theorem dX4_changed_157 : decode cX4_changed 157 = .ok (.istore 4, 2) := by decide +kernel
theorem dX4_changed_159 : decode cX4_changed 159 = .ok (.iinc 5 1, 3) := by decide +kernel
theorem dX4_changed_162 : decode cX4_changed 162 = .ok (.goto (-64), 3) := by decide +kernel
theorem dX4_changed_165 : decode cX4_changed 165 = .ok (.iload 4, 2) := by decide +kernel
theorem dX4_changed_167 : decode cX4_changed 167 = .ok (.ireturn, 1) := by decide +kernel
theorem dX4_withdrawn_0 : decode cX4_withdrawn 0 = .ok (.iconst 0, 1) := by decide +kernel
theorem dX4_withdrawn_1 : decode cX4_withdrawn 1 = .ok (.istore_n 1, 1) := by decide +kernel
theorem dX4_withdrawn_2 : decode cX4_withdrawn 2 = .ok (.iconst 0, 1) := by decide +kernel
theorem dX4_withdrawn_3 : decode cX4_withdrawn 3 = .ok (.istore_n 2, 1) := by decide +kernel
theorem dX4_withdrawn_4 : decode cX4_withdrawn 4 = .ok (.iload_n 2, 1) := by decide +kernel
theorem dX4_withdrawn_5 : decode cX4_withdrawn 5 = .ok (.aload_n 0, 1) := by decide +kernel
theorem dX4_withdrawn_6 : decode cX4_withdrawn 6 = .ok (.getfield 97, 3) := by decide +kernel
theorem dX4_withdrawn_9 : decode cX4_withdrawn 9 = .ok (.if_icmp .ge 28, 3) := by decide +kernel
theorem dX4_withdrawn_12 : decode cX4_withdrawn 12 = .ok (.iload_n 1, 1) := by decide +kernel
theorem dX4_withdrawn_13 : decode cX4_withdrawn 13 = .ok (.aload_n 0, 1) := by decide +kernel
theorem dX4_withdrawn_14 : decode cX4_withdrawn 14 = .ok (.getfield 26, 3) := by decide +kernel
theorem dX4_withdrawn_17 : decode cX4_withdrawn 17 = .ok (.iload_n 2, 1) := by decide +kernel
theorem dX4_withdrawn_18 : decode cX4_withdrawn 18 = .ok (.iaload, 1) := by decide +kernel
theorem dX4_withdrawn_19 : decode cX4_withdrawn 19 = .ok (.bipush (-4), 2) := by decide +kernel
theorem dX4_withdrawn_21 : decode cX4_withdrawn 21 = .ok (.if_icmp .ne 7, 3) := by decide +kernel
theorem dX4_withdrawn_24 : decode cX4_withdrawn 24 = .ok (.iconst 0, 1) := by decide +kernel
theorem dX4_withdrawn_25 : decode cX4_withdrawn 25 = .ok (.goto 4, 3) := by decide +kernel
theorem dX4_withdrawn_28 : decode cX4_withdrawn 28 = .ok (.iconst 1, 1) := by decide +kernel
theorem dX4_withdrawn_29 : decode cX4_withdrawn 29 = .ok (.iadd, 1) := by decide +kernel
theorem dX4_withdrawn_30 : decode cX4_withdrawn 30 = .ok (.istore_n 1, 1) := by decide +kernel
theorem dX4_withdrawn_31 : decode cX4_withdrawn 31 = .ok (.iinc 2 1, 3) := by decide +kernel
theorem dX4_withdrawn_34 : decode cX4_withdrawn 34 = .ok (.goto (-30), 3) := by decide +kernel
theorem dX4_withdrawn_37 : decode cX4_withdrawn 37 = .ok (.iload_n 1, 1) := by decide +kernel
theorem dX4_withdrawn_38 : decode cX4_withdrawn 38 = .ok (.ireturn, 1) := by decide +kernel
theorem dX4_many_0 : decode cX4_many 0 = .ok (.iload_n 1, 1) := by decide +kernel
theorem dX4_many_1 : decode cX4_many 1 = .ok (.tableswitch 69 0 5 #[39, 44, 49, 54, 59, 64], 39) := by decide +kernel
theorem dX4_many_40 : decode cX4_many 40 = .ok (.aload_n 0, 1) := by decide +kernel
theorem dX4_many_41 : decode cX4_many 41 = .ok (.getfield 97, 3) := by decide +kernel
theorem dX4_many_44 : decode cX4_many 44 = .ok (.ireturn, 1) := by decide +kernel
theorem dX4_many_45 : decode cX4_many 45 = .ok (.aload_n 0, 1) := by decide +kernel
theorem dX4_many_46 : decode cX4_many 46 = .ok (.getfield 113, 3) := by decide +kernel
theorem dX4_many_49 : decode cX4_many 49 = .ok (.ireturn, 1) := by decide +kernel
theorem dX4_many_50 : decode cX4_many 50 = .ok (.aload_n 0, 1) := by decide +kernel
theorem dX4_many_51 : decode cX4_many 51 = .ok (.invokevirtual 166, 3) := by decide +kernel
theorem dX4_many_54 : decode cX4_many 54 = .ok (.ireturn, 1) := by decide +kernel
theorem dX4_many_55 : decode cX4_many 55 = .ok (.aload_n 0, 1) := by decide +kernel
theorem dX4_many_56 : decode cX4_many 56 = .ok (.getfield 100, 3) := by decide +kernel
theorem dX4_many_59 : decode cX4_many 59 = .ok (.ireturn, 1) := by decide +kernel
theorem dX4_many_60 : decode cX4_many 60 = .ok (.aload_n 0, 1) := by decide +kernel
theorem dX4_many_61 : decode cX4_many 61 = .ok (.getfield 7, 3) := by decide +kernel
theorem dX4_many_64 : decode cX4_many 64 = .ok (.ireturn, 1) := by decide +kernel
theorem dX4_many_65 : decode cX4_many 65 = .ok (.aload_n 0, 1) := by decide +kernel
theorem dX4_many_66 : decode cX4_many 66 = .ok (.getfield 13, 3) := by decide +kernel
theorem dX4_many_69 : decode cX4_many 69 = .ok (.ireturn, 1) := by decide +kernel
theorem dX4_many_70 : decode cX4_many 70 = .ok (.iconst (-1), 1) := by decide +kernel
theorem dX4_many_71 : decode cX4_many 71 = .ok (.ireturn, 1) := by decide +kernel
theorem dX4_copy_0 : decode cX4_copy 0 = .ok (.iconst 0, 1) := by decide +kernel
theorem dX4_copy_1 : decode cX4_copy 1 = .ok (.istore 5, 2) := by decide +kernel
theorem dX4_copy_3 : decode cX4_copy 3 = .ok (.iload 5, 2) := by decide +kernel
theorem dX4_copy_5 : decode cX4_copy 5 = .ok (.iload 4, 2) := by decide +kernel
theorem dX4_copy_7 : decode cX4_copy 7 = .ok (.if_icmp .ge 21, 3) := by decide +kernel
theorem dX4_copy_10 : decode cX4_copy 10 = .ok (.aload_n 2, 1) := by decide +kernel
theorem dX4_copy_11 : decode cX4_copy 11 = .ok (.iload_n 3, 1) := by decide +kernel
theorem dX4_copy_12 : decode cX4_copy 12 = .ok (.iload 5, 2) := by decide +kernel
theorem dX4_copy_14 : decode cX4_copy 14 = .ok (.iadd, 1) := by decide +kernel
theorem dX4_copy_15 : decode cX4_copy 15 = .ok (.aload_n 0, 1) := by decide +kernel
theorem dX4_copy_16 : decode cX4_copy 16 = .ok (.iload_n 1, 1) := by decide +kernel
theorem dX4_copy_17 : decode cX4_copy 17 = .ok (.iload 5, 2) := by decide +kernel
theorem dX4_copy_19 : decode cX4_copy 19 = .ok (.iadd, 1) := by decide +kernel
theorem dX4_copy_20 : decode cX4_copy 20 = .ok (.iaload, 1) := by decide +kernel
theorem dX4_copy_21 : decode cX4_copy 21 = .ok (.iastore, 1) := by decide +kernel
theorem dX4_copy_22 : decode cX4_copy 22 = .ok (.iinc 5 1, 3) := by decide +kernel
theorem dX4_copy_25 : decode cX4_copy 25 = .ok (.goto (-22), 3) := by decide +kernel
theorem dX4_copy_28 : decode cX4_copy 28 = .ok (.return_, 1) := by decide +kernel
theorem dX4_keep_0 : decode cX4_keep 0 = .ok (.aload_n 0, 1) := by decide +kernel
theorem dX4_keep_1 : decode cX4_keep 1 = .ok (.iconst 1, 1) := by decide +kernel
theorem dX4_keep_2 : decode cX4_keep 2 = .ok (.putfield 170, 3) := by decide +kernel
theorem dX4_keep_5 : decode cX4_keep 5 = .ok (.aload_n 0, 1) := by decide +kernel
theorem dX4_keep_6 : decode cX4_keep 6 = .ok (.getfield 50, 3) := by decide +kernel
theorem dX4_keep_9 : decode cX4_keep 9 = .ok (.iconst 0, 1) := by decide +kernel
theorem dX4_keep_10 : decode cX4_keep 10 = .ok (.aload_n 0, 1) := by decide +kernel
theorem dX4_keep_11 : decode cX4_keep 11 = .ok (.getfield 100, 3) := by decide +kernel
theorem dX4_keep_14 : decode cX4_keep 14 = .ok (.iastore, 1) := by decide +kernel
theorem dX4_keep_15 : decode cX4_keep 15 = .ok (.aload_n 0, 1) := by decide +kernel
theorem dX4_keep_16 : decode cX4_keep 16 = .ok (.getfield 50, 3) := by decide +kernel
theorem dX4_keep_19 : decode cX4_keep 19 = .ok (.iconst 1, 1) := by decide +kernel
theorem dX4_keep_20 : decode cX4_keep 20 = .ok (.aload_n 0, 1) := by decide +kernel
theorem dX4_keep_21 : decode cX4_keep 21 = .ok (.getfield 97, 3) := by decide +kernel
theorem dX4_keep_24 : decode cX4_keep 24 = .ok (.iastore, 1) := by decide +kernel
theorem dX4_keep_25 : decode cX4_keep 25 = .ok (.aload_n 0, 1) := by decide +kernel
theorem dX4_keep_26 : decode cX4_keep 26 = .ok (.getfield 50, 3) := by decide +kernel
theorem dX4_keep_29 : decode cX4_keep 29 = .ok (.iconst 2, 1) := by decide +kernel
theorem dX4_keep_30 : decode cX4_keep 30 = .ok (.aload_n 0, 1) := by decide +kernel
theorem dX4_keep_31 : decode cX4_keep 31 = .ok (.getfield 113, 3) := by decide +kernel
theorem dX4_keep_34 : decode cX4_keep 34 = .ok (.iastore, 1) := by decide +kernel
theorem dX4_keep_35 : decode cX4_keep 35 = .ok (.aload_n 0, 1) := by decide +kernel
theorem dX4_keep_36 : decode cX4_keep 36 = .ok (.getfield 16, 3) := by decide +kernel
theorem dX4_keep_39 : decode cX4_keep 39 = .ok (.iconst 0, 1) := by decide +kernel
theorem dX4_keep_40 : decode cX4_keep 40 = .ok (.aload_n 0, 1) := by decide +kernel
theorem dX4_keep_41 : decode cX4_keep 41 = .ok (.getfield 53, 3) := by decide +kernel
theorem dX4_keep_44 : decode cX4_keep 44 = .ok (.iconst 0, 1) := by decide +kernel
theorem dX4_keep_45 : decode cX4_keep 45 = .ok (.bipush 90, 2) := by decide +kernel
theorem dX4_keep_47 : decode cX4_keep 47 = .ok (.invokestatic 174, 3) := by decide +kernel
theorem dX4_keep_50 : decode cX4_keep 50 = .ok (.aload_n 0, 1) := by decide +kernel
theorem dX4_keep_51 : decode cX4_keep 51 = .ok (.getfield 20, 3) := by decide +kernel
theorem dX4_keep_54 : decode cX4_keep 54 = .ok (.iconst 0, 1) := by decide +kernel
theorem dX4_keep_55 : decode cX4_keep 55 = .ok (.aload_n 0, 1) := by decide +kernel
theorem dX4_keep_56 : decode cX4_keep 56 = .ok (.getfield 53, 3) := by decide +kernel
theorem dX4_keep_59 : decode cX4_keep 59 = .ok (.bipush 90, 2) := by decide +kernel
theorem dX4_keep_61 : decode cX4_keep 61 = .ok (.bipush 90, 2) := by decide +kernel
theorem dX4_keep_63 : decode cX4_keep 63 = .ok (.invokestatic 174, 3) := by decide +kernel
theorem dX4_keep_66 : decode cX4_keep 66 = .ok (.aload_n 0, 1) := by decide +kernel
theorem dX4_keep_67 : decode cX4_keep 67 = .ok (.getfield 23, 3) := by decide +kernel
theorem dX4_keep_70 : decode cX4_keep 70 = .ok (.iconst 0, 1) := by decide +kernel
theorem dX4_keep_71 : decode cX4_keep 71 = .ok (.aload_n 0, 1) := by decide +kernel
theorem dX4_keep_72 : decode cX4_keep 72 = .ok (.getfield 53, 3) := by decide +kernel
theorem dX4_keep_75 : decode cX4_keep 75 = .ok (.sipush 180, 3) := by decide +kernel
theorem dX4_keep_78 : decode cX4_keep 78 = .ok (.bipush 90, 2) := by decide +kernel
theorem dX4_keep_80 : decode cX4_keep 80 = .ok (.invokestatic 174, 3) := by decide +kernel
theorem dX4_keep_83 : decode cX4_keep 83 = .ok (.aload_n 0, 1) := by decide +kernel
theorem dX4_keep_84 : decode cX4_keep 84 = .ok (.getfield 26, 3) := by decide +kernel
theorem dX4_keep_87 : decode cX4_keep 87 = .ok (.iconst 0, 1) := by decide +kernel
theorem dX4_keep_88 : decode cX4_keep 88 = .ok (.aload_n 0, 1) := by decide +kernel
theorem dX4_keep_89 : decode cX4_keep 89 = .ok (.getfield 53, 3) := by decide +kernel
theorem dX4_keep_92 : decode cX4_keep 92 = .ok (.sipush 270, 3) := by decide +kernel
theorem dX4_keep_95 : decode cX4_keep 95 = .ok (.bipush 90, 2) := by decide +kernel
theorem dX4_keep_97 : decode cX4_keep 97 = .ok (.invokestatic 174, 3) := by decide +kernel
theorem dX4_keep_100 : decode cX4_keep 100 = .ok (.aload_n 0, 1) := by decide +kernel
theorem dX4_keep_101 : decode cX4_keep 101 = .ok (.getfield 29, 3) := by decide +kernel
theorem dX4_keep_104 : decode cX4_keep 104 = .ok (.iconst 0, 1) := by decide +kernel
theorem dX4_keep_105 : decode cX4_keep 105 = .ok (.aload_n 0, 1) := by decide +kernel
theorem dX4_keep_106 : decode cX4_keep 106 = .ok (.getfield 53, 3) := by decide +kernel
theorem dX4_keep_109 : decode cX4_keep 109 = .ok (.sipush 360, 3) := by decide +kernel
theorem dX4_keep_112 : decode cX4_keep 112 = .ok (.bipush 90, 2) := by decide +kernel
theorem dX4_keep_114 : decode cX4_keep 114 = .ok (.invokestatic 174, 3) := by decide +kernel
theorem dX4_keep_117 : decode cX4_keep 117 = .ok (.aload_n 0, 1) := by decide +kernel
theorem dX4_keep_118 : decode cX4_keep 118 = .ok (.getfield 32, 3) := by decide +kernel
theorem dX4_keep_121 : decode cX4_keep 121 = .ok (.iconst 0, 1) := by decide +kernel
theorem dX4_keep_122 : decode cX4_keep 122 = .ok (.aload_n 0, 1) := by decide +kernel
theorem dX4_keep_123 : decode cX4_keep 123 = .ok (.getfield 53, 3) := by decide +kernel
theorem dX4_keep_126 : decode cX4_keep 126 = .ok (.sipush 450, 3) := by decide +kernel
theorem dX4_keep_129 : decode cX4_keep 129 = .ok (.bipush 90, 2) := by decide +kernel
theorem dX4_keep_131 : decode cX4_keep 131 = .ok (.invokestatic 174, 3) := by decide +kernel
theorem dX4_keep_134 : decode cX4_keep 134 = .ok (.aload_n 0, 1) := by decide +kernel
theorem dX4_keep_135 : decode cX4_keep 135 = .ok (.getfield 35, 3) := by decide +kernel
theorem dX4_keep_138 : decode cX4_keep 138 = .ok (.iconst 0, 1) := by decide +kernel
theorem dX4_keep_139 : decode cX4_keep 139 = .ok (.aload_n 0, 1) := by decide +kernel
theorem dX4_keep_140 : decode cX4_keep 140 = .ok (.getfield 53, 3) := by decide +kernel
theorem dX4_keep_143 : decode cX4_keep 143 = .ok (.sipush 540, 3) := by decide +kernel
theorem dX4_keep_146 : decode cX4_keep 146 = .ok (.bipush 90, 2) := by decide +kernel
theorem dX4_keep_148 : decode cX4_keep 148 = .ok (.invokestatic 174, 3) := by decide +kernel
theorem dX4_keep_151 : decode cX4_keep 151 = .ok (.aload_n 0, 1) := by decide +kernel
theorem dX4_keep_152 : decode cX4_keep 152 = .ok (.getfield 38, 3) := by decide +kernel
theorem dX4_keep_155 : decode cX4_keep 155 = .ok (.iconst 0, 1) := by decide +kernel
theorem dX4_keep_156 : decode cX4_keep 156 = .ok (.aload_n 0, 1) := by decide +kernel
theorem dX4_keep_157 : decode cX4_keep 157 = .ok (.getfield 53, 3) := by decide +kernel
theorem dX4_keep_160 : decode cX4_keep 160 = .ok (.sipush 630, 3) := by decide +kernel
theorem dX4_keep_163 : decode cX4_keep 163 = .ok (.bipush 90, 2) := by decide +kernel
theorem dX4_keep_165 : decode cX4_keep 165 = .ok (.invokestatic 174, 3) := by decide +kernel
theorem dX4_keep_168 : decode cX4_keep 168 = .ok (.aload_n 0, 1) := by decide +kernel
theorem dX4_keep_169 : decode cX4_keep 169 = .ok (.getfield 41, 3) := by decide +kernel
theorem dX4_keep_172 : decode cX4_keep 172 = .ok (.iconst 0, 1) := by decide +kernel
theorem dX4_keep_173 : decode cX4_keep 173 = .ok (.aload_n 0, 1) := by decide +kernel
theorem dX4_keep_174 : decode cX4_keep 174 = .ok (.getfield 53, 3) := by decide +kernel
theorem dX4_keep_177 : decode cX4_keep 177 = .ok (.sipush 720, 3) := by decide +kernel
theorem dX4_keep_180 : decode cX4_keep 180 = .ok (.bipush 90, 2) := by decide +kernel
theorem dX4_keep_182 : decode cX4_keep 182 = .ok (.invokestatic 174, 3) := by decide +kernel
theorem dX4_keep_185 : decode cX4_keep 185 = .ok (.aload_n 0, 1) := by decide +kernel
theorem dX4_keep_186 : decode cX4_keep 186 = .ok (.getfield 44, 3) := by decide +kernel
theorem dX4_keep_189 : decode cX4_keep 189 = .ok (.iconst 0, 1) := by decide +kernel
theorem dX4_keep_190 : decode cX4_keep 190 = .ok (.aload_n 0, 1) := by decide +kernel
theorem dX4_keep_191 : decode cX4_keep 191 = .ok (.getfield 53, 3) := by decide +kernel
theorem dX4_keep_194 : decode cX4_keep 194 = .ok (.sipush 810, 3) := by decide +kernel
theorem dX4_keep_197 : decode cX4_keep 197 = .ok (.bipush 90, 2) := by decide +kernel
theorem dX4_keep_199 : decode cX4_keep 199 = .ok (.invokestatic 174, 3) := by decide +kernel
theorem dX4_keep_202 : decode cX4_keep 202 = .ok (.aload_n 0, 1) := by decide +kernel
theorem dX4_keep_203 : decode cX4_keep 203 = .ok (.getfield 47, 3) := by decide +kernel
theorem dX4_keep_206 : decode cX4_keep 206 = .ok (.iconst 0, 1) := by decide +kernel
theorem dX4_keep_207 : decode cX4_keep 207 = .ok (.aload_n 0, 1) := by decide +kernel
theorem dX4_keep_208 : decode cX4_keep 208 = .ok (.getfield 53, 3) := by decide +kernel
theorem dX4_keep_211 : decode cX4_keep 211 = .ok (.sipush 900, 3) := by decide +kernel
theorem dX4_keep_214 : decode cX4_keep 214 = .ok (.bipush 90, 2) := by decide +kernel
theorem dX4_keep_216 : decode cX4_keep 216 = .ok (.invokestatic 174, 3) := by decide +kernel
theorem dX4_keep_219 : decode cX4_keep 219 = .ok (.iconst 1, 1) := by decide +kernel
theorem dX4_keep_220 : decode cX4_keep 220 = .ok (.ireturn, 1) := by decide +kernel
theorem dX4_back_0 : decode cX4_back 0 = .ok (.aload_n 0, 1) := by decide +kernel
theorem dX4_back_1 : decode cX4_back 1 = .ok (.getfield 170, 3) := by decide +kernel
theorem dX4_back_4 : decode cX4_back 4 = .ok (.ifCond .ne 6, 3) := by decide +kernel
theorem dX4_back_7 : decode cX4_back 7 = .ok (.bipush (-4), 2) := by decide +kernel
theorem dX4_back_9 : decode cX4_back 9 = .ok (.ireturn, 1) := by decide +kernel
theorem dX4_back_10 : decode cX4_back 10 = .ok (.aload_n 0, 1) := by decide +kernel
theorem dX4_back_11 : decode cX4_back 11 = .ok (.aload_n 0, 1) := by decide +kernel
theorem dX4_back_12 : decode cX4_back 12 = .ok (.getfield 50, 3) := by decide +kernel
theorem dX4_back_15 : decode cX4_back 15 = .ok (.iconst 0, 1) := by decide +kernel
theorem dX4_back_16 : decode cX4_back 16 = .ok (.iaload, 1) := by decide +kernel
theorem dX4_back_17 : decode cX4_back 17 = .ok (.putfield 100, 3) := by decide +kernel
theorem dX4_back_20 : decode cX4_back 20 = .ok (.aload_n 0, 1) := by decide +kernel
theorem dX4_back_21 : decode cX4_back 21 = .ok (.aload_n 0, 1) := by decide +kernel
theorem dX4_back_22 : decode cX4_back 22 = .ok (.getfield 50, 3) := by decide +kernel
theorem dX4_back_25 : decode cX4_back 25 = .ok (.iconst 1, 1) := by decide +kernel
theorem dX4_back_26 : decode cX4_back 26 = .ok (.iaload, 1) := by decide +kernel
theorem dX4_back_27 : decode cX4_back 27 = .ok (.putfield 97, 3) := by decide +kernel
theorem dX4_back_30 : decode cX4_back 30 = .ok (.aload_n 0, 1) := by decide +kernel
theorem dX4_back_31 : decode cX4_back 31 = .ok (.aload_n 0, 1) := by decide +kernel
theorem dX4_back_32 : decode cX4_back 32 = .ok (.getfield 50, 3) := by decide +kernel
theorem dX4_back_35 : decode cX4_back 35 = .ok (.iconst 2, 1) := by decide +kernel
theorem dX4_back_36 : decode cX4_back 36 = .ok (.iaload, 1) := by decide +kernel
theorem dX4_back_37 : decode cX4_back 37 = .ok (.putfield 113, 3) := by decide +kernel
theorem dX4_back_40 : decode cX4_back 40 = .ok (.aload_n 0, 1) := by decide +kernel
theorem dX4_back_41 : decode cX4_back 41 = .ok (.getfield 53, 3) := by decide +kernel
theorem dX4_back_44 : decode cX4_back 44 = .ok (.iconst 0, 1) := by decide +kernel
theorem dX4_back_45 : decode cX4_back 45 = .ok (.aload_n 0, 1) := by decide +kernel
theorem dX4_back_46 : decode cX4_back 46 = .ok (.getfield 16, 3) := by decide +kernel
theorem dX4_back_49 : decode cX4_back 49 = .ok (.iconst 0, 1) := by decide +kernel
theorem dX4_back_50 : decode cX4_back 50 = .ok (.bipush 90, 2) := by decide +kernel
theorem dX4_back_52 : decode cX4_back 52 = .ok (.invokestatic 174, 3) := by decide +kernel
theorem dX4_back_55 : decode cX4_back 55 = .ok (.aload_n 0, 1) := by decide +kernel
theorem dX4_back_56 : decode cX4_back 56 = .ok (.getfield 53, 3) := by decide +kernel
theorem dX4_back_59 : decode cX4_back 59 = .ok (.bipush 90, 2) := by decide +kernel
theorem dX4_back_61 : decode cX4_back 61 = .ok (.aload_n 0, 1) := by decide +kernel
theorem dX4_back_62 : decode cX4_back 62 = .ok (.getfield 20, 3) := by decide +kernel
theorem dX4_back_65 : decode cX4_back 65 = .ok (.iconst 0, 1) := by decide +kernel
theorem dX4_back_66 : decode cX4_back 66 = .ok (.bipush 90, 2) := by decide +kernel
theorem dX4_back_68 : decode cX4_back 68 = .ok (.invokestatic 174, 3) := by decide +kernel
theorem dX4_back_71 : decode cX4_back 71 = .ok (.aload_n 0, 1) := by decide +kernel
theorem dX4_back_72 : decode cX4_back 72 = .ok (.getfield 53, 3) := by decide +kernel
theorem dX4_back_75 : decode cX4_back 75 = .ok (.sipush 180, 3) := by decide +kernel
theorem dX4_back_78 : decode cX4_back 78 = .ok (.aload_n 0, 1) := by decide +kernel
theorem dX4_back_79 : decode cX4_back 79 = .ok (.getfield 23, 3) := by decide +kernel
theorem dX4_back_82 : decode cX4_back 82 = .ok (.iconst 0, 1) := by decide +kernel
theorem dX4_back_83 : decode cX4_back 83 = .ok (.bipush 90, 2) := by decide +kernel
theorem dX4_back_85 : decode cX4_back 85 = .ok (.invokestatic 174, 3) := by decide +kernel
theorem dX4_back_88 : decode cX4_back 88 = .ok (.aload_n 0, 1) := by decide +kernel
theorem dX4_back_89 : decode cX4_back 89 = .ok (.getfield 53, 3) := by decide +kernel
theorem dX4_back_92 : decode cX4_back 92 = .ok (.sipush 270, 3) := by decide +kernel
theorem dX4_back_95 : decode cX4_back 95 = .ok (.aload_n 0, 1) := by decide +kernel
theorem dX4_back_96 : decode cX4_back 96 = .ok (.getfield 26, 3) := by decide +kernel
theorem dX4_back_99 : decode cX4_back 99 = .ok (.iconst 0, 1) := by decide +kernel
theorem dX4_back_100 : decode cX4_back 100 = .ok (.bipush 90, 2) := by decide +kernel
theorem dX4_back_102 : decode cX4_back 102 = .ok (.invokestatic 174, 3) := by decide +kernel
theorem dX4_back_105 : decode cX4_back 105 = .ok (.aload_n 0, 1) := by decide +kernel
theorem dX4_back_106 : decode cX4_back 106 = .ok (.getfield 53, 3) := by decide +kernel
theorem dX4_back_109 : decode cX4_back 109 = .ok (.sipush 360, 3) := by decide +kernel
theorem dX4_back_112 : decode cX4_back 112 = .ok (.aload_n 0, 1) := by decide +kernel
theorem dX4_back_113 : decode cX4_back 113 = .ok (.getfield 29, 3) := by decide +kernel
theorem dX4_back_116 : decode cX4_back 116 = .ok (.iconst 0, 1) := by decide +kernel
theorem dX4_back_117 : decode cX4_back 117 = .ok (.bipush 90, 2) := by decide +kernel
theorem dX4_back_119 : decode cX4_back 119 = .ok (.invokestatic 174, 3) := by decide +kernel
theorem dX4_back_122 : decode cX4_back 122 = .ok (.aload_n 0, 1) := by decide +kernel
theorem dX4_back_123 : decode cX4_back 123 = .ok (.getfield 53, 3) := by decide +kernel
theorem dX4_back_126 : decode cX4_back 126 = .ok (.sipush 450, 3) := by decide +kernel
theorem dX4_back_129 : decode cX4_back 129 = .ok (.aload_n 0, 1) := by decide +kernel
theorem dX4_back_130 : decode cX4_back 130 = .ok (.getfield 32, 3) := by decide +kernel
theorem dX4_back_133 : decode cX4_back 133 = .ok (.iconst 0, 1) := by decide +kernel
theorem dX4_back_134 : decode cX4_back 134 = .ok (.bipush 90, 2) := by decide +kernel
theorem dX4_back_136 : decode cX4_back 136 = .ok (.invokestatic 174, 3) := by decide +kernel
theorem dX4_back_139 : decode cX4_back 139 = .ok (.aload_n 0, 1) := by decide +kernel
theorem dX4_back_140 : decode cX4_back 140 = .ok (.getfield 53, 3) := by decide +kernel
theorem dX4_back_143 : decode cX4_back 143 = .ok (.sipush 540, 3) := by decide +kernel
theorem dX4_back_146 : decode cX4_back 146 = .ok (.aload_n 0, 1) := by decide +kernel
theorem dX4_back_147 : decode cX4_back 147 = .ok (.getfield 35, 3) := by decide +kernel
theorem dX4_back_150 : decode cX4_back 150 = .ok (.iconst 0, 1) := by decide +kernel
theorem dX4_back_151 : decode cX4_back 151 = .ok (.bipush 90, 2) := by decide +kernel
theorem dX4_back_153 : decode cX4_back 153 = .ok (.invokestatic 174, 3) := by decide +kernel
theorem dX4_back_156 : decode cX4_back 156 = .ok (.aload_n 0, 1) := by decide +kernel
theorem dX4_back_157 : decode cX4_back 157 = .ok (.getfield 53, 3) := by decide +kernel
theorem dX4_back_160 : decode cX4_back 160 = .ok (.sipush 630, 3) := by decide +kernel
theorem dX4_back_163 : decode cX4_back 163 = .ok (.aload_n 0, 1) := by decide +kernel
theorem dX4_back_164 : decode cX4_back 164 = .ok (.getfield 38, 3) := by decide +kernel
theorem dX4_back_167 : decode cX4_back 167 = .ok (.iconst 0, 1) := by decide +kernel
theorem dX4_back_168 : decode cX4_back 168 = .ok (.bipush 90, 2) := by decide +kernel
theorem dX4_back_170 : decode cX4_back 170 = .ok (.invokestatic 174, 3) := by decide +kernel
theorem dX4_back_173 : decode cX4_back 173 = .ok (.aload_n 0, 1) := by decide +kernel
theorem dX4_back_174 : decode cX4_back 174 = .ok (.getfield 53, 3) := by decide +kernel
theorem dX4_back_177 : decode cX4_back 177 = .ok (.sipush 720, 3) := by decide +kernel
theorem dX4_back_180 : decode cX4_back 180 = .ok (.aload_n 0, 1) := by decide +kernel
theorem dX4_back_181 : decode cX4_back 181 = .ok (.getfield 41, 3) := by decide +kernel
theorem dX4_back_184 : decode cX4_back 184 = .ok (.iconst 0, 1) := by decide +kernel
theorem dX4_back_185 : decode cX4_back 185 = .ok (.bipush 90, 2) := by decide +kernel
theorem dX4_back_187 : decode cX4_back 187 = .ok (.invokestatic 174, 3) := by decide +kernel
theorem dX4_back_190 : decode cX4_back 190 = .ok (.aload_n 0, 1) := by decide +kernel
theorem dX4_back_191 : decode cX4_back 191 = .ok (.getfield 53, 3) := by decide +kernel
theorem dX4_back_194 : decode cX4_back 194 = .ok (.sipush 810, 3) := by decide +kernel
theorem dX4_back_197 : decode cX4_back 197 = .ok (.aload_n 0, 1) := by decide +kernel
theorem dX4_back_198 : decode cX4_back 198 = .ok (.getfield 44, 3) := by decide +kernel
theorem dX4_back_201 : decode cX4_back 201 = .ok (.iconst 0, 1) := by decide +kernel
theorem dX4_back_202 : decode cX4_back 202 = .ok (.bipush 90, 2) := by decide +kernel
theorem dX4_back_204 : decode cX4_back 204 = .ok (.invokestatic 174, 3) := by decide +kernel
theorem dX4_back_207 : decode cX4_back 207 = .ok (.aload_n 0, 1) := by decide +kernel
theorem dX4_back_208 : decode cX4_back 208 = .ok (.getfield 53, 3) := by decide +kernel
theorem dX4_back_211 : decode cX4_back 211 = .ok (.sipush 900, 3) := by decide +kernel
theorem dX4_back_214 : decode cX4_back 214 = .ok (.aload_n 0, 1) := by decide +kernel
theorem dX4_back_215 : decode cX4_back 215 = .ok (.getfield 47, 3) := by decide +kernel
theorem dX4_back_218 : decode cX4_back 218 = .ok (.iconst 0, 1) := by decide +kernel
theorem dX4_back_219 : decode cX4_back 219 = .ok (.bipush 90, 2) := by decide +kernel
theorem dX4_back_221 : decode cX4_back 221 = .ok (.invokestatic 174, 3) := by decide +kernel
theorem dX4_back_224 : decode cX4_back 224 = .ok (.iconst 1, 1) := by decide +kernel
theorem dX4_back_225 : decode cX4_back 225 = .ok (.ireturn, 1) := by decide +kernel
end
section
theorem dL_law_0 : decode cL_law 0 = .ok (.new 7, 3) := by decide +kernel
theorem dL_law_3 : decode cL_law 3 = .ok (.dup, 1) := by decide +kernel
theorem dL_law_4 : decode cL_law 4 = .ok (.invokespecial 9, 3) := by decide +kernel
theorem dL_law_7 : decode cL_law 7 = .ok (.astore_n 1, 1) := by decide +kernel
theorem dL_law_8 : decode cL_law 8 = .ok (.new 10, 3) := by decide +kernel
theorem dL_law_11 : decode cL_law 11 = .ok (.dup, 1) := by decide +kernel
theorem dL_law_12 : decode cL_law 12 = .ok (.invokespecial 12, 3) := by decide +kernel
theorem dL_law_15 : decode cL_law 15 = .ok (.astore_n 2, 1) := by decide +kernel
theorem dL_law_16 : decode cL_law 16 = .ok (.iconst 0, 1) := by decide +kernel
theorem dL_law_17 : decode cL_law 17 = .ok (.istore_n 3, 1) := by decide +kernel
theorem dL_law_18 : decode cL_law 18 = .ok (.iload_n 3, 1) := by decide +kernel
theorem dL_law_19 : decode cL_law 19 = .ok (.aload_n 0, 1) := by decide +kernel
theorem dL_law_20 : decode cL_law 20 = .ok (.arraylength, 1) := by decide +kernel
theorem dL_law_21 : decode cL_law 21 = .ok (.bipush 6, 2) := by decide +kernel
theorem dL_law_23 : decode cL_law 23 = .ok (.isub, 1) := by decide +kernel
theorem dL_law_24 : decode cL_law 24 = .ok (.if_icmp .gt 1041, 3) := by decide +kernel
theorem dL_law_27 : decode cL_law 27 = .ok (.aload_n 0, 1) := by decide +kernel
theorem dL_law_28 : decode cL_law 28 = .ok (.iload_n 3, 1) := by decide +kernel
theorem dL_law_29 : decode cL_law 29 = .ok (.iaload, 1) := by decide +kernel
theorem dL_law_30 : decode cL_law 30 = .ok (.bipush 31, 2) := by decide +kernel
theorem dL_law_32 : decode cL_law 32 = .ok (.iand, 1) := by decide +kernel
theorem dL_law_33 : decode cL_law 33 = .ok (.tableswitch 1026 0 22 #[107, 130, 163, 216, 249, 292, 325, 378, 441, 494, 517, 550, 603, 656, 709, 762, 805, 848, 891, 934, 977, 1000, 1013], 107) := by decide +kernel
theorem dL_law_140 : decode cL_law 140 = .ok (.aload_n 1, 1) := by decide +kernel
theorem dL_law_141 : decode cL_law 141 = .ok (.aload_n 0, 1) := by decide +kernel
theorem dL_law_142 : decode cL_law 142 = .ok (.iload_n 3, 1) := by decide +kernel
theorem dL_law_143 : decode cL_law 143 = .ok (.iconst 1, 1) := by decide +kernel
theorem dL_law_144 : decode cL_law 144 = .ok (.iadd, 1) := by decide +kernel
theorem dL_law_145 : decode cL_law 145 = .ok (.iaload, 1) := by decide +kernel
theorem dL_law_146 : decode cL_law 146 = .ok (.invokevirtual 13, 3) := by decide +kernel
theorem dL_law_149 : decode cL_law 149 = .ok (.aload_n 2, 1) := by decide +kernel
theorem dL_law_150 : decode cL_law 150 = .ok (.aload_n 0, 1) := by decide +kernel
theorem dL_law_151 : decode cL_law 151 = .ok (.iload_n 3, 1) := by decide +kernel
theorem dL_law_152 : decode cL_law 152 = .ok (.iconst 1, 1) := by decide +kernel
theorem dL_law_153 : decode cL_law 153 = .ok (.iadd, 1) := by decide +kernel
theorem dL_law_154 : decode cL_law 154 = .ok (.iaload, 1) := by decide +kernel
theorem dL_law_155 : decode cL_law 155 = .ok (.invokevirtual 17, 3) := by decide +kernel
theorem dL_law_158 : decode cL_law 158 = .ok (.if_icmp .eq 901, 3) := by decide +kernel
theorem dL_law_161 : decode cL_law 161 = .ok (.iconst 0, 1) := by decide +kernel
theorem dL_law_162 : decode cL_law 162 = .ok (.ireturn, 1) := by decide +kernel
theorem dL_law_163 : decode cL_law 163 = .ok (.aload_n 1, 1) := by decide +kernel
theorem dL_law_164 : decode cL_law 164 = .ok (.aload_n 0, 1) := by decide +kernel
theorem dL_law_165 : decode cL_law 165 = .ok (.iload_n 3, 1) := by decide +kernel
theorem dL_law_166 : decode cL_law 166 = .ok (.iconst 1, 1) := by decide +kernel
theorem dL_law_167 : decode cL_law 167 = .ok (.iadd, 1) := by decide +kernel
theorem dL_law_168 : decode cL_law 168 = .ok (.iaload, 1) := by decide +kernel
theorem dL_law_169 : decode cL_law 169 = .ok (.aload_n 0, 1) := by decide +kernel
theorem dL_law_170 : decode cL_law 170 = .ok (.iload_n 3, 1) := by decide +kernel
theorem dL_law_171 : decode cL_law 171 = .ok (.iconst 2, 1) := by decide +kernel
theorem dL_law_172 : decode cL_law 172 = .ok (.iadd, 1) := by decide +kernel
theorem dL_law_173 : decode cL_law 173 = .ok (.iaload, 1) := by decide +kernel
theorem dL_law_174 : decode cL_law 174 = .ok (.invokevirtual 18, 3) := by decide +kernel
theorem dL_law_177 : decode cL_law 177 = .ok (.aload_n 2, 1) := by decide +kernel
theorem dL_law_178 : decode cL_law 178 = .ok (.aload_n 0, 1) := by decide +kernel
theorem dL_law_179 : decode cL_law 179 = .ok (.iload_n 3, 1) := by decide +kernel
theorem dL_law_180 : decode cL_law 180 = .ok (.iconst 1, 1) := by decide +kernel
theorem dL_law_181 : decode cL_law 181 = .ok (.iadd, 1) := by decide +kernel
theorem dL_law_182 : decode cL_law 182 = .ok (.iaload, 1) := by decide +kernel
theorem dL_law_183 : decode cL_law 183 = .ok (.aload_n 0, 1) := by decide +kernel
theorem dL_law_184 : decode cL_law 184 = .ok (.iload_n 3, 1) := by decide +kernel
theorem dL_law_185 : decode cL_law 185 = .ok (.iconst 2, 1) := by decide +kernel
theorem dL_law_186 : decode cL_law 186 = .ok (.iadd, 1) := by decide +kernel
theorem dL_law_187 : decode cL_law 187 = .ok (.iaload, 1) := by decide +kernel
theorem dL_law_188 : decode cL_law 188 = .ok (.invokevirtual 22, 3) := by decide +kernel
theorem dL_law_191 : decode cL_law 191 = .ok (.if_icmp .eq 868, 3) := by decide +kernel
theorem dL_law_194 : decode cL_law 194 = .ok (.iconst 0, 1) := by decide +kernel
theorem dL_law_195 : decode cL_law 195 = .ok (.ireturn, 1) := by decide +kernel
theorem dL_law_196 : decode cL_law 196 = .ok (.aload_n 1, 1) := by decide +kernel
theorem dL_law_197 : decode cL_law 197 = .ok (.aload_n 0, 1) := by decide +kernel
theorem dL_law_198 : decode cL_law 198 = .ok (.iload_n 3, 1) := by decide +kernel
theorem dL_law_199 : decode cL_law 199 = .ok (.iconst 1, 1) := by decide +kernel
theorem dL_law_200 : decode cL_law 200 = .ok (.iadd, 1) := by decide +kernel
theorem dL_law_201 : decode cL_law 201 = .ok (.iaload, 1) := by decide +kernel
theorem dL_law_202 : decode cL_law 202 = .ok (.aload_n 0, 1) := by decide +kernel
theorem dL_law_203 : decode cL_law 203 = .ok (.iload_n 3, 1) := by decide +kernel
theorem dL_law_204 : decode cL_law 204 = .ok (.iconst 2, 1) := by decide +kernel
theorem dL_law_205 : decode cL_law 205 = .ok (.iadd, 1) := by decide +kernel
theorem dL_law_206 : decode cL_law 206 = .ok (.iaload, 1) := by decide +kernel
theorem dL_law_207 : decode cL_law 207 = .ok (.aload_n 0, 1) := by decide +kernel
theorem dL_law_208 : decode cL_law 208 = .ok (.iload_n 3, 1) := by decide +kernel
theorem dL_law_209 : decode cL_law 209 = .ok (.iconst 3, 1) := by decide +kernel
theorem dL_law_210 : decode cL_law 210 = .ok (.iadd, 1) := by decide +kernel
theorem dL_law_211 : decode cL_law 211 = .ok (.iaload, 1) := by decide +kernel
theorem dL_law_212 : decode cL_law 212 = .ok (.aload_n 0, 1) := by decide +kernel
theorem dL_law_213 : decode cL_law 213 = .ok (.iload_n 3, 1) := by decide +kernel
theorem dL_law_214 : decode cL_law 214 = .ok (.iconst 4, 1) := by decide +kernel
theorem dL_law_215 : decode cL_law 215 = .ok (.iadd, 1) := by decide +kernel
theorem dL_law_216 : decode cL_law 216 = .ok (.iaload, 1) := by decide +kernel
theorem dL_law_217 : decode cL_law 217 = .ok (.invokevirtual 23, 3) := by decide +kernel
theorem dL_law_220 : decode cL_law 220 = .ok (.aload_n 2, 1) := by decide +kernel
theorem dL_law_221 : decode cL_law 221 = .ok (.aload_n 0, 1) := by decide +kernel
theorem dL_law_222 : decode cL_law 222 = .ok (.iload_n 3, 1) := by decide +kernel
theorem dL_law_223 : decode cL_law 223 = .ok (.iconst 1, 1) := by decide +kernel
theorem dL_law_224 : decode cL_law 224 = .ok (.iadd, 1) := by decide +kernel
theorem dL_law_225 : decode cL_law 225 = .ok (.iaload, 1) := by decide +kernel
theorem dL_law_226 : decode cL_law 226 = .ok (.aload_n 0, 1) := by decide +kernel
theorem dL_law_227 : decode cL_law 227 = .ok (.iload_n 3, 1) := by decide +kernel
theorem dL_law_228 : decode cL_law 228 = .ok (.iconst 2, 1) := by decide +kernel
theorem dL_law_229 : decode cL_law 229 = .ok (.iadd, 1) := by decide +kernel
theorem dL_law_230 : decode cL_law 230 = .ok (.iaload, 1) := by decide +kernel
theorem dL_law_231 : decode cL_law 231 = .ok (.aload_n 0, 1) := by decide +kernel
theorem dL_law_232 : decode cL_law 232 = .ok (.iload_n 3, 1) := by decide +kernel
theorem dL_law_233 : decode cL_law 233 = .ok (.iconst 3, 1) := by decide +kernel
theorem dL_law_234 : decode cL_law 234 = .ok (.iadd, 1) := by decide +kernel
theorem dL_law_235 : decode cL_law 235 = .ok (.iaload, 1) := by decide +kernel
theorem dL_law_236 : decode cL_law 236 = .ok (.aload_n 0, 1) := by decide +kernel
theorem dL_law_237 : decode cL_law 237 = .ok (.iload_n 3, 1) := by decide +kernel
theorem dL_law_238 : decode cL_law 238 = .ok (.iconst 4, 1) := by decide +kernel
theorem dL_law_239 : decode cL_law 239 = .ok (.iadd, 1) := by decide +kernel
theorem dL_law_240 : decode cL_law 240 = .ok (.iaload, 1) := by decide +kernel
theorem dL_law_241 : decode cL_law 241 = .ok (.invokevirtual 27, 3) := by decide +kernel
theorem dL_law_244 : decode cL_law 244 = .ok (.if_icmp .eq 815, 3) := by decide +kernel
theorem dL_law_247 : decode cL_law 247 = .ok (.iconst 0, 1) := by decide +kernel
theorem dL_law_248 : decode cL_law 248 = .ok (.ireturn, 1) := by decide +kernel
theorem dL_law_249 : decode cL_law 249 = .ok (.aload_n 1, 1) := by decide +kernel
theorem dL_law_250 : decode cL_law 250 = .ok (.aload_n 0, 1) := by decide +kernel
theorem dL_law_251 : decode cL_law 251 = .ok (.iload_n 3, 1) := by decide +kernel
theorem dL_law_252 : decode cL_law 252 = .ok (.iconst 1, 1) := by decide +kernel
theorem dL_law_253 : decode cL_law 253 = .ok (.iadd, 1) := by decide +kernel
theorem dL_law_254 : decode cL_law 254 = .ok (.iaload, 1) := by decide +kernel
theorem dL_law_255 : decode cL_law 255 = .ok (.aload_n 0, 1) := by decide +kernel
theorem dL_law_256 : decode cL_law 256 = .ok (.iload_n 3, 1) := by decide +kernel
theorem dL_law_257 : decode cL_law 257 = .ok (.iconst 2, 1) := by decide +kernel
theorem dL_law_258 : decode cL_law 258 = .ok (.iadd, 1) := by decide +kernel
theorem dL_law_259 : decode cL_law 259 = .ok (.iaload, 1) := by decide +kernel
theorem dL_law_260 : decode cL_law 260 = .ok (.invokevirtual 28, 3) := by decide +kernel
theorem dL_law_263 : decode cL_law 263 = .ok (.aload_n 2, 1) := by decide +kernel
theorem dL_law_264 : decode cL_law 264 = .ok (.aload_n 0, 1) := by decide +kernel
theorem dL_law_265 : decode cL_law 265 = .ok (.iload_n 3, 1) := by decide +kernel
theorem dL_law_266 : decode cL_law 266 = .ok (.iconst 1, 1) := by decide +kernel
theorem dL_law_267 : decode cL_law 267 = .ok (.iadd, 1) := by decide +kernel
theorem dL_law_268 : decode cL_law 268 = .ok (.iaload, 1) := by decide +kernel
theorem dL_law_269 : decode cL_law 269 = .ok (.aload_n 0, 1) := by decide +kernel
theorem dL_law_270 : decode cL_law 270 = .ok (.iload_n 3, 1) := by decide +kernel
theorem dL_law_271 : decode cL_law 271 = .ok (.iconst 2, 1) := by decide +kernel
theorem dL_law_272 : decode cL_law 272 = .ok (.iadd, 1) := by decide +kernel
theorem dL_law_273 : decode cL_law 273 = .ok (.iaload, 1) := by decide +kernel
theorem dL_law_274 : decode cL_law 274 = .ok (.invokevirtual 31, 3) := by decide +kernel
theorem dL_law_277 : decode cL_law 277 = .ok (.if_icmp .eq 782, 3) := by decide +kernel
theorem dL_law_280 : decode cL_law 280 = .ok (.iconst 0, 1) := by decide +kernel
theorem dL_law_281 : decode cL_law 281 = .ok (.ireturn, 1) := by decide +kernel
theorem dL_law_282 : decode cL_law 282 = .ok (.aload_n 1, 1) := by decide +kernel
theorem dL_law_283 : decode cL_law 283 = .ok (.aload_n 0, 1) := by decide +kernel
theorem dL_law_284 : decode cL_law 284 = .ok (.iload_n 3, 1) := by decide +kernel
theorem dL_law_285 : decode cL_law 285 = .ok (.iconst 1, 1) := by decide +kernel
theorem dL_law_286 : decode cL_law 286 = .ok (.iadd, 1) := by decide +kernel
theorem dL_law_287 : decode cL_law 287 = .ok (.iaload, 1) := by decide +kernel
theorem dL_law_288 : decode cL_law 288 = .ok (.aload_n 0, 1) := by decide +kernel
theorem dL_law_289 : decode cL_law 289 = .ok (.iload_n 3, 1) := by decide +kernel
theorem dL_law_290 : decode cL_law 290 = .ok (.iconst 2, 1) := by decide +kernel
theorem dL_law_291 : decode cL_law 291 = .ok (.iadd, 1) := by decide +kernel
theorem dL_law_292 : decode cL_law 292 = .ok (.iaload, 1) := by decide +kernel
theorem dL_law_293 : decode cL_law 293 = .ok (.aload_n 0, 1) := by decide +kernel
theorem dL_law_294 : decode cL_law 294 = .ok (.iload_n 3, 1) := by decide +kernel
theorem dL_law_295 : decode cL_law 295 = .ok (.iconst 3, 1) := by decide +kernel
theorem dL_law_296 : decode cL_law 296 = .ok (.iadd, 1) := by decide +kernel
theorem dL_law_297 : decode cL_law 297 = .ok (.iaload, 1) := by decide +kernel
theorem dL_law_298 : decode cL_law 298 = .ok (.invokevirtual 32, 3) := by decide +kernel
theorem dL_law_301 : decode cL_law 301 = .ok (.aload_n 2, 1) := by decide +kernel
theorem dL_law_302 : decode cL_law 302 = .ok (.aload_n 0, 1) := by decide +kernel
theorem dL_law_303 : decode cL_law 303 = .ok (.iload_n 3, 1) := by decide +kernel
theorem dL_law_304 : decode cL_law 304 = .ok (.iconst 1, 1) := by decide +kernel
theorem dL_law_305 : decode cL_law 305 = .ok (.iadd, 1) := by decide +kernel
theorem dL_law_306 : decode cL_law 306 = .ok (.iaload, 1) := by decide +kernel
theorem dL_law_307 : decode cL_law 307 = .ok (.aload_n 0, 1) := by decide +kernel
theorem dL_law_308 : decode cL_law 308 = .ok (.iload_n 3, 1) := by decide +kernel
theorem dL_law_309 : decode cL_law 309 = .ok (.iconst 2, 1) := by decide +kernel
theorem dL_law_310 : decode cL_law 310 = .ok (.iadd, 1) := by decide +kernel
theorem dL_law_311 : decode cL_law 311 = .ok (.iaload, 1) := by decide +kernel
theorem dL_law_312 : decode cL_law 312 = .ok (.aload_n 0, 1) := by decide +kernel
theorem dL_law_313 : decode cL_law 313 = .ok (.iload_n 3, 1) := by decide +kernel
theorem dL_law_314 : decode cL_law 314 = .ok (.iconst 3, 1) := by decide +kernel
theorem dL_law_315 : decode cL_law 315 = .ok (.iadd, 1) := by decide +kernel
theorem dL_law_316 : decode cL_law 316 = .ok (.iaload, 1) := by decide +kernel
theorem dL_law_317 : decode cL_law 317 = .ok (.invokevirtual 36, 3) := by decide +kernel
theorem dL_law_320 : decode cL_law 320 = .ok (.if_icmp .eq 739, 3) := by decide +kernel
theorem dL_law_323 : decode cL_law 323 = .ok (.iconst 0, 1) := by decide +kernel
theorem dL_law_324 : decode cL_law 324 = .ok (.ireturn, 1) := by decide +kernel
theorem dL_law_325 : decode cL_law 325 = .ok (.aload_n 1, 1) := by decide +kernel
theorem dL_law_326 : decode cL_law 326 = .ok (.aload_n 0, 1) := by decide +kernel
theorem dL_law_327 : decode cL_law 327 = .ok (.iload_n 3, 1) := by decide +kernel
theorem dL_law_328 : decode cL_law 328 = .ok (.iconst 1, 1) := by decide +kernel
theorem dL_law_329 : decode cL_law 329 = .ok (.iadd, 1) := by decide +kernel
theorem dL_law_330 : decode cL_law 330 = .ok (.iaload, 1) := by decide +kernel
theorem dL_law_331 : decode cL_law 331 = .ok (.aload_n 0, 1) := by decide +kernel
theorem dL_law_332 : decode cL_law 332 = .ok (.iload_n 3, 1) := by decide +kernel
theorem dL_law_333 : decode cL_law 333 = .ok (.iconst 2, 1) := by decide +kernel
theorem dL_law_334 : decode cL_law 334 = .ok (.iadd, 1) := by decide +kernel
theorem dL_law_335 : decode cL_law 335 = .ok (.iaload, 1) := by decide +kernel
theorem dL_law_336 : decode cL_law 336 = .ok (.invokevirtual 37, 3) := by decide +kernel
theorem dL_law_339 : decode cL_law 339 = .ok (.aload_n 2, 1) := by decide +kernel
theorem dL_law_340 : decode cL_law 340 = .ok (.aload_n 0, 1) := by decide +kernel
theorem dL_law_341 : decode cL_law 341 = .ok (.iload_n 3, 1) := by decide +kernel
theorem dL_law_342 : decode cL_law 342 = .ok (.iconst 1, 1) := by decide +kernel
theorem dL_law_343 : decode cL_law 343 = .ok (.iadd, 1) := by decide +kernel
theorem dL_law_344 : decode cL_law 344 = .ok (.iaload, 1) := by decide +kernel
theorem dL_law_345 : decode cL_law 345 = .ok (.aload_n 0, 1) := by decide +kernel
theorem dL_law_346 : decode cL_law 346 = .ok (.iload_n 3, 1) := by decide +kernel
theorem dL_law_347 : decode cL_law 347 = .ok (.iconst 2, 1) := by decide +kernel
theorem dL_law_348 : decode cL_law 348 = .ok (.iadd, 1) := by decide +kernel
theorem dL_law_349 : decode cL_law 349 = .ok (.iaload, 1) := by decide +kernel
theorem dL_law_350 : decode cL_law 350 = .ok (.invokevirtual 40, 3) := by decide +kernel
theorem dL_law_353 : decode cL_law 353 = .ok (.if_icmp .eq 706, 3) := by decide +kernel
theorem dL_law_356 : decode cL_law 356 = .ok (.iconst 0, 1) := by decide +kernel
theorem dL_law_357 : decode cL_law 357 = .ok (.ireturn, 1) := by decide +kernel
theorem dL_law_358 : decode cL_law 358 = .ok (.aload_n 1, 1) := by decide +kernel
theorem dL_law_359 : decode cL_law 359 = .ok (.aload_n 0, 1) := by decide +kernel
theorem dL_law_360 : decode cL_law 360 = .ok (.iload_n 3, 1) := by decide +kernel
theorem dL_law_361 : decode cL_law 361 = .ok (.iconst 1, 1) := by decide +kernel
theorem dL_law_362 : decode cL_law 362 = .ok (.iadd, 1) := by decide +kernel
theorem dL_law_363 : decode cL_law 363 = .ok (.iaload, 1) := by decide +kernel
theorem dL_law_364 : decode cL_law 364 = .ok (.aload_n 0, 1) := by decide +kernel
theorem dL_law_365 : decode cL_law 365 = .ok (.iload_n 3, 1) := by decide +kernel
theorem dL_law_366 : decode cL_law 366 = .ok (.iconst 2, 1) := by decide +kernel
theorem dL_law_367 : decode cL_law 367 = .ok (.iadd, 1) := by decide +kernel
theorem dL_law_368 : decode cL_law 368 = .ok (.iaload, 1) := by decide +kernel
theorem dL_law_369 : decode cL_law 369 = .ok (.aload_n 0, 1) := by decide +kernel
theorem dL_law_370 : decode cL_law 370 = .ok (.iload_n 3, 1) := by decide +kernel
theorem dL_law_371 : decode cL_law 371 = .ok (.iconst 3, 1) := by decide +kernel
theorem dL_law_372 : decode cL_law 372 = .ok (.iadd, 1) := by decide +kernel
theorem dL_law_373 : decode cL_law 373 = .ok (.iaload, 1) := by decide +kernel
theorem dL_law_374 : decode cL_law 374 = .ok (.aload_n 0, 1) := by decide +kernel
theorem dL_law_375 : decode cL_law 375 = .ok (.iload_n 3, 1) := by decide +kernel
theorem dL_law_376 : decode cL_law 376 = .ok (.iconst 4, 1) := by decide +kernel
theorem dL_law_377 : decode cL_law 377 = .ok (.iadd, 1) := by decide +kernel
theorem dL_law_378 : decode cL_law 378 = .ok (.iaload, 1) := by decide +kernel
theorem dL_law_379 : decode cL_law 379 = .ok (.invokevirtual 41, 3) := by decide +kernel
theorem dL_law_382 : decode cL_law 382 = .ok (.aload_n 2, 1) := by decide +kernel
theorem dL_law_383 : decode cL_law 383 = .ok (.aload_n 0, 1) := by decide +kernel
theorem dL_law_384 : decode cL_law 384 = .ok (.iload_n 3, 1) := by decide +kernel
theorem dL_law_385 : decode cL_law 385 = .ok (.iconst 1, 1) := by decide +kernel
theorem dL_law_386 : decode cL_law 386 = .ok (.iadd, 1) := by decide +kernel
theorem dL_law_387 : decode cL_law 387 = .ok (.iaload, 1) := by decide +kernel
theorem dL_law_388 : decode cL_law 388 = .ok (.aload_n 0, 1) := by decide +kernel
theorem dL_law_389 : decode cL_law 389 = .ok (.iload_n 3, 1) := by decide +kernel
theorem dL_law_390 : decode cL_law 390 = .ok (.iconst 2, 1) := by decide +kernel
theorem dL_law_391 : decode cL_law 391 = .ok (.iadd, 1) := by decide +kernel
theorem dL_law_392 : decode cL_law 392 = .ok (.iaload, 1) := by decide +kernel
theorem dL_law_393 : decode cL_law 393 = .ok (.aload_n 0, 1) := by decide +kernel
theorem dL_law_394 : decode cL_law 394 = .ok (.iload_n 3, 1) := by decide +kernel
theorem dL_law_395 : decode cL_law 395 = .ok (.iconst 3, 1) := by decide +kernel
theorem dL_law_396 : decode cL_law 396 = .ok (.iadd, 1) := by decide +kernel
theorem dL_law_397 : decode cL_law 397 = .ok (.iaload, 1) := by decide +kernel
theorem dL_law_398 : decode cL_law 398 = .ok (.aload_n 0, 1) := by decide +kernel
theorem dL_law_399 : decode cL_law 399 = .ok (.iload_n 3, 1) := by decide +kernel
theorem dL_law_400 : decode cL_law 400 = .ok (.iconst 4, 1) := by decide +kernel
theorem dL_law_401 : decode cL_law 401 = .ok (.iadd, 1) := by decide +kernel
theorem dL_law_402 : decode cL_law 402 = .ok (.iaload, 1) := by decide +kernel
theorem dL_law_403 : decode cL_law 403 = .ok (.invokevirtual 44, 3) := by decide +kernel
theorem dL_law_406 : decode cL_law 406 = .ok (.if_icmp .eq 653, 3) := by decide +kernel
theorem dL_law_409 : decode cL_law 409 = .ok (.iconst 0, 1) := by decide +kernel
theorem dL_law_410 : decode cL_law 410 = .ok (.ireturn, 1) := by decide +kernel
theorem dL_law_411 : decode cL_law 411 = .ok (.aload_n 1, 1) := by decide +kernel
theorem dL_law_412 : decode cL_law 412 = .ok (.aload_n 0, 1) := by decide +kernel
theorem dL_law_413 : decode cL_law 413 = .ok (.iload_n 3, 1) := by decide +kernel
theorem dL_law_414 : decode cL_law 414 = .ok (.iconst 1, 1) := by decide +kernel
theorem dL_law_415 : decode cL_law 415 = .ok (.iadd, 1) := by decide +kernel
theorem dL_law_416 : decode cL_law 416 = .ok (.iaload, 1) := by decide +kernel
theorem dL_law_417 : decode cL_law 417 = .ok (.aload_n 0, 1) := by decide +kernel
theorem dL_law_418 : decode cL_law 418 = .ok (.iload_n 3, 1) := by decide +kernel
theorem dL_law_419 : decode cL_law 419 = .ok (.iconst 2, 1) := by decide +kernel
theorem dL_law_420 : decode cL_law 420 = .ok (.iadd, 1) := by decide +kernel
theorem dL_law_421 : decode cL_law 421 = .ok (.iaload, 1) := by decide +kernel
theorem dL_law_422 : decode cL_law 422 = .ok (.aload_n 0, 1) := by decide +kernel
theorem dL_law_423 : decode cL_law 423 = .ok (.iload_n 3, 1) := by decide +kernel
theorem dL_law_424 : decode cL_law 424 = .ok (.iconst 3, 1) := by decide +kernel
theorem dL_law_425 : decode cL_law 425 = .ok (.iadd, 1) := by decide +kernel
theorem dL_law_426 : decode cL_law 426 = .ok (.iaload, 1) := by decide +kernel
theorem dL_law_427 : decode cL_law 427 = .ok (.aload_n 0, 1) := by decide +kernel
theorem dL_law_428 : decode cL_law 428 = .ok (.iload_n 3, 1) := by decide +kernel
theorem dL_law_429 : decode cL_law 429 = .ok (.iconst 4, 1) := by decide +kernel
theorem dL_law_430 : decode cL_law 430 = .ok (.iadd, 1) := by decide +kernel
theorem dL_law_431 : decode cL_law 431 = .ok (.iaload, 1) := by decide +kernel
theorem dL_law_432 : decode cL_law 432 = .ok (.aload_n 0, 1) := by decide +kernel
theorem dL_law_433 : decode cL_law 433 = .ok (.iload_n 3, 1) := by decide +kernel
theorem dL_law_434 : decode cL_law 434 = .ok (.iconst 5, 1) := by decide +kernel
theorem dL_law_435 : decode cL_law 435 = .ok (.iadd, 1) := by decide +kernel
theorem dL_law_436 : decode cL_law 436 = .ok (.iaload, 1) := by decide +kernel
theorem dL_law_437 : decode cL_law 437 = .ok (.invokevirtual 45, 3) := by decide +kernel
theorem dL_law_440 : decode cL_law 440 = .ok (.aload_n 2, 1) := by decide +kernel
theorem dL_law_441 : decode cL_law 441 = .ok (.aload_n 0, 1) := by decide +kernel
theorem dL_law_442 : decode cL_law 442 = .ok (.iload_n 3, 1) := by decide +kernel
theorem dL_law_443 : decode cL_law 443 = .ok (.iconst 1, 1) := by decide +kernel
theorem dL_law_444 : decode cL_law 444 = .ok (.iadd, 1) := by decide +kernel
theorem dL_law_445 : decode cL_law 445 = .ok (.iaload, 1) := by decide +kernel
theorem dL_law_446 : decode cL_law 446 = .ok (.aload_n 0, 1) := by decide +kernel
theorem dL_law_447 : decode cL_law 447 = .ok (.iload_n 3, 1) := by decide +kernel
theorem dL_law_448 : decode cL_law 448 = .ok (.iconst 2, 1) := by decide +kernel
theorem dL_law_449 : decode cL_law 449 = .ok (.iadd, 1) := by decide +kernel
theorem dL_law_450 : decode cL_law 450 = .ok (.iaload, 1) := by decide +kernel
theorem dL_law_451 : decode cL_law 451 = .ok (.aload_n 0, 1) := by decide +kernel
theorem dL_law_452 : decode cL_law 452 = .ok (.iload_n 3, 1) := by decide +kernel
theorem dL_law_453 : decode cL_law 453 = .ok (.iconst 3, 1) := by decide +kernel
theorem dL_law_454 : decode cL_law 454 = .ok (.iadd, 1) := by decide +kernel
theorem dL_law_455 : decode cL_law 455 = .ok (.iaload, 1) := by decide +kernel
theorem dL_law_456 : decode cL_law 456 = .ok (.aload_n 0, 1) := by decide +kernel
theorem dL_law_457 : decode cL_law 457 = .ok (.iload_n 3, 1) := by decide +kernel
theorem dL_law_458 : decode cL_law 458 = .ok (.iconst 4, 1) := by decide +kernel
theorem dL_law_459 : decode cL_law 459 = .ok (.iadd, 1) := by decide +kernel
theorem dL_law_460 : decode cL_law 460 = .ok (.iaload, 1) := by decide +kernel
theorem dL_law_461 : decode cL_law 461 = .ok (.aload_n 0, 1) := by decide +kernel
theorem dL_law_462 : decode cL_law 462 = .ok (.iload_n 3, 1) := by decide +kernel
theorem dL_law_463 : decode cL_law 463 = .ok (.iconst 5, 1) := by decide +kernel
theorem dL_law_464 : decode cL_law 464 = .ok (.iadd, 1) := by decide +kernel
theorem dL_law_465 : decode cL_law 465 = .ok (.iaload, 1) := by decide +kernel
theorem dL_law_466 : decode cL_law 466 = .ok (.invokevirtual 49, 3) := by decide +kernel
theorem dL_law_469 : decode cL_law 469 = .ok (.if_icmp .eq 590, 3) := by decide +kernel
theorem dL_law_472 : decode cL_law 472 = .ok (.iconst 0, 1) := by decide +kernel
theorem dL_law_473 : decode cL_law 473 = .ok (.ireturn, 1) := by decide +kernel
theorem dL_law_474 : decode cL_law 474 = .ok (.aload_n 1, 1) := by decide +kernel
theorem dL_law_475 : decode cL_law 475 = .ok (.aload_n 0, 1) := by decide +kernel
theorem dL_law_476 : decode cL_law 476 = .ok (.iload_n 3, 1) := by decide +kernel
theorem dL_law_477 : decode cL_law 477 = .ok (.iconst 1, 1) := by decide +kernel
theorem dL_law_478 : decode cL_law 478 = .ok (.iadd, 1) := by decide +kernel
theorem dL_law_479 : decode cL_law 479 = .ok (.iaload, 1) := by decide +kernel
theorem dL_law_480 : decode cL_law 480 = .ok (.aload_n 0, 1) := by decide +kernel
theorem dL_law_481 : decode cL_law 481 = .ok (.iload_n 3, 1) := by decide +kernel
theorem dL_law_482 : decode cL_law 482 = .ok (.iconst 2, 1) := by decide +kernel
theorem dL_law_483 : decode cL_law 483 = .ok (.iadd, 1) := by decide +kernel
theorem dL_law_484 : decode cL_law 484 = .ok (.iaload, 1) := by decide +kernel
theorem dL_law_485 : decode cL_law 485 = .ok (.aload_n 0, 1) := by decide +kernel
theorem dL_law_486 : decode cL_law 486 = .ok (.iload_n 3, 1) := by decide +kernel
theorem dL_law_487 : decode cL_law 487 = .ok (.iconst 3, 1) := by decide +kernel
theorem dL_law_488 : decode cL_law 488 = .ok (.iadd, 1) := by decide +kernel
theorem dL_law_489 : decode cL_law 489 = .ok (.iaload, 1) := by decide +kernel
theorem dL_law_490 : decode cL_law 490 = .ok (.aload_n 0, 1) := by decide +kernel
theorem dL_law_491 : decode cL_law 491 = .ok (.iload_n 3, 1) := by decide +kernel
theorem dL_law_492 : decode cL_law 492 = .ok (.iconst 4, 1) := by decide +kernel
theorem dL_law_493 : decode cL_law 493 = .ok (.iadd, 1) := by decide +kernel
theorem dL_law_494 : decode cL_law 494 = .ok (.iaload, 1) := by decide +kernel
theorem dL_law_495 : decode cL_law 495 = .ok (.invokevirtual 50, 3) := by decide +kernel
theorem dL_law_498 : decode cL_law 498 = .ok (.aload_n 2, 1) := by decide +kernel
theorem dL_law_499 : decode cL_law 499 = .ok (.aload_n 0, 1) := by decide +kernel
theorem dL_law_500 : decode cL_law 500 = .ok (.iload_n 3, 1) := by decide +kernel
theorem dL_law_501 : decode cL_law 501 = .ok (.iconst 1, 1) := by decide +kernel
theorem dL_law_502 : decode cL_law 502 = .ok (.iadd, 1) := by decide +kernel
theorem dL_law_503 : decode cL_law 503 = .ok (.iaload, 1) := by decide +kernel
theorem dL_law_504 : decode cL_law 504 = .ok (.aload_n 0, 1) := by decide +kernel
theorem dL_law_505 : decode cL_law 505 = .ok (.iload_n 3, 1) := by decide +kernel
theorem dL_law_506 : decode cL_law 506 = .ok (.iconst 2, 1) := by decide +kernel
theorem dL_law_507 : decode cL_law 507 = .ok (.iadd, 1) := by decide +kernel
theorem dL_law_508 : decode cL_law 508 = .ok (.iaload, 1) := by decide +kernel
theorem dL_law_509 : decode cL_law 509 = .ok (.aload_n 0, 1) := by decide +kernel
theorem dL_law_510 : decode cL_law 510 = .ok (.iload_n 3, 1) := by decide +kernel
theorem dL_law_511 : decode cL_law 511 = .ok (.iconst 3, 1) := by decide +kernel
theorem dL_law_512 : decode cL_law 512 = .ok (.iadd, 1) := by decide +kernel
theorem dL_law_513 : decode cL_law 513 = .ok (.iaload, 1) := by decide +kernel
theorem dL_law_514 : decode cL_law 514 = .ok (.aload_n 0, 1) := by decide +kernel
theorem dL_law_515 : decode cL_law 515 = .ok (.iload_n 3, 1) := by decide +kernel
theorem dL_law_516 : decode cL_law 516 = .ok (.iconst 4, 1) := by decide +kernel
theorem dL_law_517 : decode cL_law 517 = .ok (.iadd, 1) := by decide +kernel
theorem dL_law_518 : decode cL_law 518 = .ok (.iaload, 1) := by decide +kernel
theorem dL_law_519 : decode cL_law 519 = .ok (.invokevirtual 53, 3) := by decide +kernel
theorem dL_law_522 : decode cL_law 522 = .ok (.if_icmp .eq 537, 3) := by decide +kernel
theorem dL_law_525 : decode cL_law 525 = .ok (.iconst 0, 1) := by decide +kernel
theorem dL_law_526 : decode cL_law 526 = .ok (.ireturn, 1) := by decide +kernel
theorem dL_law_527 : decode cL_law 527 = .ok (.aload_n 1, 1) := by decide +kernel
theorem dL_law_528 : decode cL_law 528 = .ok (.aload_n 0, 1) := by decide +kernel
theorem dL_law_529 : decode cL_law 529 = .ok (.iload_n 3, 1) := by decide +kernel
theorem dL_law_530 : decode cL_law 530 = .ok (.iconst 1, 1) := by decide +kernel
theorem dL_law_531 : decode cL_law 531 = .ok (.iadd, 1) := by decide +kernel
theorem dL_law_532 : decode cL_law 532 = .ok (.iaload, 1) := by decide +kernel
theorem dL_law_533 : decode cL_law 533 = .ok (.invokevirtual 54, 3) := by decide +kernel
theorem dL_law_536 : decode cL_law 536 = .ok (.aload_n 2, 1) := by decide +kernel
theorem dL_law_537 : decode cL_law 537 = .ok (.aload_n 0, 1) := by decide +kernel
theorem dL_law_538 : decode cL_law 538 = .ok (.iload_n 3, 1) := by decide +kernel
theorem dL_law_539 : decode cL_law 539 = .ok (.iconst 1, 1) := by decide +kernel
theorem dL_law_540 : decode cL_law 540 = .ok (.iadd, 1) := by decide +kernel
theorem dL_law_541 : decode cL_law 541 = .ok (.iaload, 1) := by decide +kernel
theorem dL_law_542 : decode cL_law 542 = .ok (.invokevirtual 57, 3) := by decide +kernel
theorem dL_law_545 : decode cL_law 545 = .ok (.if_icmp .eq 514, 3) := by decide +kernel
theorem dL_law_548 : decode cL_law 548 = .ok (.iconst 0, 1) := by decide +kernel
theorem dL_law_549 : decode cL_law 549 = .ok (.ireturn, 1) := by decide +kernel
theorem dL_law_550 : decode cL_law 550 = .ok (.aload_n 1, 1) := by decide +kernel
theorem dL_law_551 : decode cL_law 551 = .ok (.aload_n 0, 1) := by decide +kernel
theorem dL_law_552 : decode cL_law 552 = .ok (.iload_n 3, 1) := by decide +kernel
theorem dL_law_553 : decode cL_law 553 = .ok (.iconst 1, 1) := by decide +kernel
theorem dL_law_554 : decode cL_law 554 = .ok (.iadd, 1) := by decide +kernel
theorem dL_law_555 : decode cL_law 555 = .ok (.iaload, 1) := by decide +kernel
theorem dL_law_556 : decode cL_law 556 = .ok (.aload_n 0, 1) := by decide +kernel
theorem dL_law_557 : decode cL_law 557 = .ok (.iload_n 3, 1) := by decide +kernel
theorem dL_law_558 : decode cL_law 558 = .ok (.iconst 2, 1) := by decide +kernel
theorem dL_law_559 : decode cL_law 559 = .ok (.iadd, 1) := by decide +kernel
theorem dL_law_560 : decode cL_law 560 = .ok (.iaload, 1) := by decide +kernel
theorem dL_law_561 : decode cL_law 561 = .ok (.invokevirtual 58, 3) := by decide +kernel
theorem dL_law_564 : decode cL_law 564 = .ok (.aload_n 2, 1) := by decide +kernel
theorem dL_law_565 : decode cL_law 565 = .ok (.aload_n 0, 1) := by decide +kernel
theorem dL_law_566 : decode cL_law 566 = .ok (.iload_n 3, 1) := by decide +kernel
theorem dL_law_567 : decode cL_law 567 = .ok (.iconst 1, 1) := by decide +kernel
theorem dL_law_568 : decode cL_law 568 = .ok (.iadd, 1) := by decide +kernel
theorem dL_law_569 : decode cL_law 569 = .ok (.iaload, 1) := by decide +kernel
theorem dL_law_570 : decode cL_law 570 = .ok (.aload_n 0, 1) := by decide +kernel
theorem dL_law_571 : decode cL_law 571 = .ok (.iload_n 3, 1) := by decide +kernel
theorem dL_law_572 : decode cL_law 572 = .ok (.iconst 2, 1) := by decide +kernel
theorem dL_law_573 : decode cL_law 573 = .ok (.iadd, 1) := by decide +kernel
theorem dL_law_574 : decode cL_law 574 = .ok (.iaload, 1) := by decide +kernel
theorem dL_law_575 : decode cL_law 575 = .ok (.invokevirtual 61, 3) := by decide +kernel
theorem dL_law_578 : decode cL_law 578 = .ok (.if_icmp .eq 481, 3) := by decide +kernel
theorem dL_law_581 : decode cL_law 581 = .ok (.iconst 0, 1) := by decide +kernel
theorem dL_law_582 : decode cL_law 582 = .ok (.ireturn, 1) := by decide +kernel
theorem dL_law_583 : decode cL_law 583 = .ok (.aload_n 1, 1) := by decide +kernel
theorem dL_law_584 : decode cL_law 584 = .ok (.aload_n 0, 1) := by decide +kernel
theorem dL_law_585 : decode cL_law 585 = .ok (.iload_n 3, 1) := by decide +kernel
theorem dL_law_586 : decode cL_law 586 = .ok (.iconst 1, 1) := by decide +kernel
theorem dL_law_587 : decode cL_law 587 = .ok (.iadd, 1) := by decide +kernel
end
section
theorem dL_law_588 : decode cL_law 588 = .ok (.iaload, 1) := by decide +kernel
theorem dL_law_589 : decode cL_law 589 = .ok (.aload_n 0, 1) := by decide +kernel
theorem dL_law_590 : decode cL_law 590 = .ok (.iload_n 3, 1) := by decide +kernel
theorem dL_law_591 : decode cL_law 591 = .ok (.iconst 2, 1) := by decide +kernel
theorem dL_law_592 : decode cL_law 592 = .ok (.iadd, 1) := by decide +kernel
theorem dL_law_593 : decode cL_law 593 = .ok (.iaload, 1) := by decide +kernel
theorem dL_law_594 : decode cL_law 594 = .ok (.aload_n 0, 1) := by decide +kernel
theorem dL_law_595 : decode cL_law 595 = .ok (.iload_n 3, 1) := by decide +kernel
theorem dL_law_596 : decode cL_law 596 = .ok (.iconst 3, 1) := by decide +kernel
theorem dL_law_597 : decode cL_law 597 = .ok (.iadd, 1) := by decide +kernel
theorem dL_law_598 : decode cL_law 598 = .ok (.iaload, 1) := by decide +kernel
theorem dL_law_599 : decode cL_law 599 = .ok (.aload_n 0, 1) := by decide +kernel
theorem dL_law_600 : decode cL_law 600 = .ok (.iload_n 3, 1) := by decide +kernel
theorem dL_law_601 : decode cL_law 601 = .ok (.iconst 4, 1) := by decide +kernel
theorem dL_law_602 : decode cL_law 602 = .ok (.iadd, 1) := by decide +kernel
theorem dL_law_603 : decode cL_law 603 = .ok (.iaload, 1) := by decide +kernel
theorem dL_law_604 : decode cL_law 604 = .ok (.invokevirtual 62, 3) := by decide +kernel
theorem dL_law_607 : decode cL_law 607 = .ok (.aload_n 2, 1) := by decide +kernel
theorem dL_law_608 : decode cL_law 608 = .ok (.aload_n 0, 1) := by decide +kernel
theorem dL_law_609 : decode cL_law 609 = .ok (.iload_n 3, 1) := by decide +kernel
theorem dL_law_610 : decode cL_law 610 = .ok (.iconst 1, 1) := by decide +kernel
theorem dL_law_611 : decode cL_law 611 = .ok (.iadd, 1) := by decide +kernel
theorem dL_law_612 : decode cL_law 612 = .ok (.iaload, 1) := by decide +kernel
theorem dL_law_613 : decode cL_law 613 = .ok (.aload_n 0, 1) := by decide +kernel
theorem dL_law_614 : decode cL_law 614 = .ok (.iload_n 3, 1) := by decide +kernel
theorem dL_law_615 : decode cL_law 615 = .ok (.iconst 2, 1) := by decide +kernel
theorem dL_law_616 : decode cL_law 616 = .ok (.iadd, 1) := by decide +kernel
theorem dL_law_617 : decode cL_law 617 = .ok (.iaload, 1) := by decide +kernel
theorem dL_law_618 : decode cL_law 618 = .ok (.aload_n 0, 1) := by decide +kernel
theorem dL_law_619 : decode cL_law 619 = .ok (.iload_n 3, 1) := by decide +kernel
theorem dL_law_620 : decode cL_law 620 = .ok (.iconst 3, 1) := by decide +kernel
theorem dL_law_621 : decode cL_law 621 = .ok (.iadd, 1) := by decide +kernel
theorem dL_law_622 : decode cL_law 622 = .ok (.iaload, 1) := by decide +kernel
theorem dL_law_623 : decode cL_law 623 = .ok (.aload_n 0, 1) := by decide +kernel
theorem dL_law_624 : decode cL_law 624 = .ok (.iload_n 3, 1) := by decide +kernel
theorem dL_law_625 : decode cL_law 625 = .ok (.iconst 4, 1) := by decide +kernel
theorem dL_law_626 : decode cL_law 626 = .ok (.iadd, 1) := by decide +kernel
theorem dL_law_627 : decode cL_law 627 = .ok (.iaload, 1) := by decide +kernel
theorem dL_law_628 : decode cL_law 628 = .ok (.invokevirtual 65, 3) := by decide +kernel
theorem dL_law_631 : decode cL_law 631 = .ok (.if_icmp .eq 428, 3) := by decide +kernel
theorem dL_law_634 : decode cL_law 634 = .ok (.iconst 0, 1) := by decide +kernel
theorem dL_law_635 : decode cL_law 635 = .ok (.ireturn, 1) := by decide +kernel
theorem dL_law_636 : decode cL_law 636 = .ok (.aload_n 1, 1) := by decide +kernel
theorem dL_law_637 : decode cL_law 637 = .ok (.aload_n 0, 1) := by decide +kernel
theorem dL_law_638 : decode cL_law 638 = .ok (.iload_n 3, 1) := by decide +kernel
theorem dL_law_639 : decode cL_law 639 = .ok (.iconst 1, 1) := by decide +kernel
theorem dL_law_640 : decode cL_law 640 = .ok (.iadd, 1) := by decide +kernel
theorem dL_law_641 : decode cL_law 641 = .ok (.iaload, 1) := by decide +kernel
theorem dL_law_642 : decode cL_law 642 = .ok (.aload_n 0, 1) := by decide +kernel
theorem dL_law_643 : decode cL_law 643 = .ok (.iload_n 3, 1) := by decide +kernel
theorem dL_law_644 : decode cL_law 644 = .ok (.iconst 2, 1) := by decide +kernel
theorem dL_law_645 : decode cL_law 645 = .ok (.iadd, 1) := by decide +kernel
theorem dL_law_646 : decode cL_law 646 = .ok (.iaload, 1) := by decide +kernel
theorem dL_law_647 : decode cL_law 647 = .ok (.aload_n 0, 1) := by decide +kernel
theorem dL_law_648 : decode cL_law 648 = .ok (.iload_n 3, 1) := by decide +kernel
theorem dL_law_649 : decode cL_law 649 = .ok (.iconst 3, 1) := by decide +kernel
theorem dL_law_650 : decode cL_law 650 = .ok (.iadd, 1) := by decide +kernel
theorem dL_law_651 : decode cL_law 651 = .ok (.iaload, 1) := by decide +kernel
theorem dL_law_652 : decode cL_law 652 = .ok (.aload_n 0, 1) := by decide +kernel
theorem dL_law_653 : decode cL_law 653 = .ok (.iload_n 3, 1) := by decide +kernel
theorem dL_law_654 : decode cL_law 654 = .ok (.iconst 4, 1) := by decide +kernel
theorem dL_law_655 : decode cL_law 655 = .ok (.iadd, 1) := by decide +kernel
theorem dL_law_656 : decode cL_law 656 = .ok (.iaload, 1) := by decide +kernel
theorem dL_law_657 : decode cL_law 657 = .ok (.invokevirtual 66, 3) := by decide +kernel
theorem dL_law_660 : decode cL_law 660 = .ok (.aload_n 2, 1) := by decide +kernel
theorem dL_law_661 : decode cL_law 661 = .ok (.aload_n 0, 1) := by decide +kernel
theorem dL_law_662 : decode cL_law 662 = .ok (.iload_n 3, 1) := by decide +kernel
theorem dL_law_663 : decode cL_law 663 = .ok (.iconst 1, 1) := by decide +kernel
theorem dL_law_664 : decode cL_law 664 = .ok (.iadd, 1) := by decide +kernel
theorem dL_law_665 : decode cL_law 665 = .ok (.iaload, 1) := by decide +kernel
theorem dL_law_666 : decode cL_law 666 = .ok (.aload_n 0, 1) := by decide +kernel
theorem dL_law_667 : decode cL_law 667 = .ok (.iload_n 3, 1) := by decide +kernel
theorem dL_law_668 : decode cL_law 668 = .ok (.iconst 2, 1) := by decide +kernel
theorem dL_law_669 : decode cL_law 669 = .ok (.iadd, 1) := by decide +kernel
theorem dL_law_670 : decode cL_law 670 = .ok (.iaload, 1) := by decide +kernel
theorem dL_law_671 : decode cL_law 671 = .ok (.aload_n 0, 1) := by decide +kernel
theorem dL_law_672 : decode cL_law 672 = .ok (.iload_n 3, 1) := by decide +kernel
theorem dL_law_673 : decode cL_law 673 = .ok (.iconst 3, 1) := by decide +kernel
theorem dL_law_674 : decode cL_law 674 = .ok (.iadd, 1) := by decide +kernel
theorem dL_law_675 : decode cL_law 675 = .ok (.iaload, 1) := by decide +kernel
theorem dL_law_676 : decode cL_law 676 = .ok (.aload_n 0, 1) := by decide +kernel
theorem dL_law_677 : decode cL_law 677 = .ok (.iload_n 3, 1) := by decide +kernel
theorem dL_law_678 : decode cL_law 678 = .ok (.iconst 4, 1) := by decide +kernel
theorem dL_law_679 : decode cL_law 679 = .ok (.iadd, 1) := by decide +kernel
theorem dL_law_680 : decode cL_law 680 = .ok (.iaload, 1) := by decide +kernel
theorem dL_law_681 : decode cL_law 681 = .ok (.invokevirtual 69, 3) := by decide +kernel
theorem dL_law_684 : decode cL_law 684 = .ok (.if_icmp .eq 375, 3) := by decide +kernel
theorem dL_law_687 : decode cL_law 687 = .ok (.iconst 0, 1) := by decide +kernel
theorem dL_law_688 : decode cL_law 688 = .ok (.ireturn, 1) := by decide +kernel
theorem dL_law_689 : decode cL_law 689 = .ok (.aload_n 1, 1) := by decide +kernel
theorem dL_law_690 : decode cL_law 690 = .ok (.aload_n 0, 1) := by decide +kernel
theorem dL_law_691 : decode cL_law 691 = .ok (.iload_n 3, 1) := by decide +kernel
theorem dL_law_692 : decode cL_law 692 = .ok (.iconst 1, 1) := by decide +kernel
theorem dL_law_693 : decode cL_law 693 = .ok (.iadd, 1) := by decide +kernel
theorem dL_law_694 : decode cL_law 694 = .ok (.iaload, 1) := by decide +kernel
theorem dL_law_695 : decode cL_law 695 = .ok (.aload_n 0, 1) := by decide +kernel
theorem dL_law_696 : decode cL_law 696 = .ok (.iload_n 3, 1) := by decide +kernel
theorem dL_law_697 : decode cL_law 697 = .ok (.iconst 2, 1) := by decide +kernel
theorem dL_law_698 : decode cL_law 698 = .ok (.iadd, 1) := by decide +kernel
theorem dL_law_699 : decode cL_law 699 = .ok (.iaload, 1) := by decide +kernel
theorem dL_law_700 : decode cL_law 700 = .ok (.aload_n 0, 1) := by decide +kernel
theorem dL_law_701 : decode cL_law 701 = .ok (.iload_n 3, 1) := by decide +kernel
theorem dL_law_702 : decode cL_law 702 = .ok (.iconst 3, 1) := by decide +kernel
theorem dL_law_703 : decode cL_law 703 = .ok (.iadd, 1) := by decide +kernel
theorem dL_law_704 : decode cL_law 704 = .ok (.iaload, 1) := by decide +kernel
theorem dL_law_705 : decode cL_law 705 = .ok (.aload_n 0, 1) := by decide +kernel
theorem dL_law_706 : decode cL_law 706 = .ok (.iload_n 3, 1) := by decide +kernel
theorem dL_law_707 : decode cL_law 707 = .ok (.iconst 4, 1) := by decide +kernel
theorem dL_law_708 : decode cL_law 708 = .ok (.iadd, 1) := by decide +kernel
theorem dL_law_709 : decode cL_law 709 = .ok (.iaload, 1) := by decide +kernel
theorem dL_law_710 : decode cL_law 710 = .ok (.invokevirtual 70, 3) := by decide +kernel
theorem dL_law_713 : decode cL_law 713 = .ok (.aload_n 2, 1) := by decide +kernel
theorem dL_law_714 : decode cL_law 714 = .ok (.aload_n 0, 1) := by decide +kernel
theorem dL_law_715 : decode cL_law 715 = .ok (.iload_n 3, 1) := by decide +kernel
theorem dL_law_716 : decode cL_law 716 = .ok (.iconst 1, 1) := by decide +kernel
theorem dL_law_717 : decode cL_law 717 = .ok (.iadd, 1) := by decide +kernel
theorem dL_law_718 : decode cL_law 718 = .ok (.iaload, 1) := by decide +kernel
theorem dL_law_719 : decode cL_law 719 = .ok (.aload_n 0, 1) := by decide +kernel
theorem dL_law_720 : decode cL_law 720 = .ok (.iload_n 3, 1) := by decide +kernel
theorem dL_law_721 : decode cL_law 721 = .ok (.iconst 2, 1) := by decide +kernel
theorem dL_law_722 : decode cL_law 722 = .ok (.iadd, 1) := by decide +kernel
theorem dL_law_723 : decode cL_law 723 = .ok (.iaload, 1) := by decide +kernel
theorem dL_law_724 : decode cL_law 724 = .ok (.aload_n 0, 1) := by decide +kernel
theorem dL_law_725 : decode cL_law 725 = .ok (.iload_n 3, 1) := by decide +kernel
theorem dL_law_726 : decode cL_law 726 = .ok (.iconst 3, 1) := by decide +kernel
theorem dL_law_727 : decode cL_law 727 = .ok (.iadd, 1) := by decide +kernel
theorem dL_law_728 : decode cL_law 728 = .ok (.iaload, 1) := by decide +kernel
theorem dL_law_729 : decode cL_law 729 = .ok (.aload_n 0, 1) := by decide +kernel
theorem dL_law_730 : decode cL_law 730 = .ok (.iload_n 3, 1) := by decide +kernel
theorem dL_law_731 : decode cL_law 731 = .ok (.iconst 4, 1) := by decide +kernel
theorem dL_law_732 : decode cL_law 732 = .ok (.iadd, 1) := by decide +kernel
theorem dL_law_733 : decode cL_law 733 = .ok (.iaload, 1) := by decide +kernel
theorem dL_law_734 : decode cL_law 734 = .ok (.invokevirtual 73, 3) := by decide +kernel
theorem dL_law_737 : decode cL_law 737 = .ok (.if_icmp .eq 322, 3) := by decide +kernel
theorem dL_law_740 : decode cL_law 740 = .ok (.iconst 0, 1) := by decide +kernel
theorem dL_law_741 : decode cL_law 741 = .ok (.ireturn, 1) := by decide +kernel
theorem dL_law_742 : decode cL_law 742 = .ok (.aload_n 1, 1) := by decide +kernel
theorem dL_law_743 : decode cL_law 743 = .ok (.aload_n 0, 1) := by decide +kernel
theorem dL_law_744 : decode cL_law 744 = .ok (.iload_n 3, 1) := by decide +kernel
theorem dL_law_745 : decode cL_law 745 = .ok (.iconst 1, 1) := by decide +kernel
theorem dL_law_746 : decode cL_law 746 = .ok (.iadd, 1) := by decide +kernel
theorem dL_law_747 : decode cL_law 747 = .ok (.iaload, 1) := by decide +kernel
theorem dL_law_748 : decode cL_law 748 = .ok (.aload_n 0, 1) := by decide +kernel
theorem dL_law_749 : decode cL_law 749 = .ok (.iload_n 3, 1) := by decide +kernel
theorem dL_law_750 : decode cL_law 750 = .ok (.iconst 2, 1) := by decide +kernel
theorem dL_law_751 : decode cL_law 751 = .ok (.iadd, 1) := by decide +kernel
theorem dL_law_752 : decode cL_law 752 = .ok (.iaload, 1) := by decide +kernel
theorem dL_law_753 : decode cL_law 753 = .ok (.aload_n 0, 1) := by decide +kernel
theorem dL_law_754 : decode cL_law 754 = .ok (.iload_n 3, 1) := by decide +kernel
theorem dL_law_755 : decode cL_law 755 = .ok (.iconst 3, 1) := by decide +kernel
theorem dL_law_756 : decode cL_law 756 = .ok (.iadd, 1) := by decide +kernel
theorem dL_law_757 : decode cL_law 757 = .ok (.iaload, 1) := by decide +kernel
theorem dL_law_758 : decode cL_law 758 = .ok (.aload_n 0, 1) := by decide +kernel
theorem dL_law_759 : decode cL_law 759 = .ok (.iload_n 3, 1) := by decide +kernel
theorem dL_law_760 : decode cL_law 760 = .ok (.iconst 4, 1) := by decide +kernel
theorem dL_law_761 : decode cL_law 761 = .ok (.iadd, 1) := by decide +kernel
theorem dL_law_762 : decode cL_law 762 = .ok (.iaload, 1) := by decide +kernel
theorem dL_law_763 : decode cL_law 763 = .ok (.invokevirtual 74, 3) := by decide +kernel
theorem dL_law_766 : decode cL_law 766 = .ok (.aload_n 2, 1) := by decide +kernel
theorem dL_law_767 : decode cL_law 767 = .ok (.aload_n 0, 1) := by decide +kernel
theorem dL_law_768 : decode cL_law 768 = .ok (.iload_n 3, 1) := by decide +kernel
theorem dL_law_769 : decode cL_law 769 = .ok (.iconst 1, 1) := by decide +kernel
theorem dL_law_770 : decode cL_law 770 = .ok (.iadd, 1) := by decide +kernel
theorem dL_law_771 : decode cL_law 771 = .ok (.iaload, 1) := by decide +kernel
theorem dL_law_772 : decode cL_law 772 = .ok (.aload_n 0, 1) := by decide +kernel
theorem dL_law_773 : decode cL_law 773 = .ok (.iload_n 3, 1) := by decide +kernel
theorem dL_law_774 : decode cL_law 774 = .ok (.iconst 2, 1) := by decide +kernel
theorem dL_law_775 : decode cL_law 775 = .ok (.iadd, 1) := by decide +kernel
theorem dL_law_776 : decode cL_law 776 = .ok (.iaload, 1) := by decide +kernel
theorem dL_law_777 : decode cL_law 777 = .ok (.aload_n 0, 1) := by decide +kernel
theorem dL_law_778 : decode cL_law 778 = .ok (.iload_n 3, 1) := by decide +kernel
theorem dL_law_779 : decode cL_law 779 = .ok (.iconst 3, 1) := by decide +kernel
theorem dL_law_780 : decode cL_law 780 = .ok (.iadd, 1) := by decide +kernel
theorem dL_law_781 : decode cL_law 781 = .ok (.iaload, 1) := by decide +kernel
theorem dL_law_782 : decode cL_law 782 = .ok (.aload_n 0, 1) := by decide +kernel
theorem dL_law_783 : decode cL_law 783 = .ok (.iload_n 3, 1) := by decide +kernel
theorem dL_law_784 : decode cL_law 784 = .ok (.iconst 4, 1) := by decide +kernel
theorem dL_law_785 : decode cL_law 785 = .ok (.iadd, 1) := by decide +kernel
theorem dL_law_786 : decode cL_law 786 = .ok (.iaload, 1) := by decide +kernel
theorem dL_law_787 : decode cL_law 787 = .ok (.invokevirtual 77, 3) := by decide +kernel
theorem dL_law_790 : decode cL_law 790 = .ok (.if_icmp .eq 269, 3) := by decide +kernel
theorem dL_law_793 : decode cL_law 793 = .ok (.iconst 0, 1) := by decide +kernel
theorem dL_law_794 : decode cL_law 794 = .ok (.ireturn, 1) := by decide +kernel
theorem dL_law_795 : decode cL_law 795 = .ok (.aload_n 1, 1) := by decide +kernel
theorem dL_law_796 : decode cL_law 796 = .ok (.aload_n 0, 1) := by decide +kernel
theorem dL_law_797 : decode cL_law 797 = .ok (.iload_n 3, 1) := by decide +kernel
theorem dL_law_798 : decode cL_law 798 = .ok (.iconst 1, 1) := by decide +kernel
theorem dL_law_799 : decode cL_law 799 = .ok (.iadd, 1) := by decide +kernel
theorem dL_law_800 : decode cL_law 800 = .ok (.iaload, 1) := by decide +kernel
theorem dL_law_801 : decode cL_law 801 = .ok (.aload_n 0, 1) := by decide +kernel
theorem dL_law_802 : decode cL_law 802 = .ok (.iload_n 3, 1) := by decide +kernel
theorem dL_law_803 : decode cL_law 803 = .ok (.iconst 2, 1) := by decide +kernel
theorem dL_law_804 : decode cL_law 804 = .ok (.iadd, 1) := by decide +kernel
theorem dL_law_805 : decode cL_law 805 = .ok (.iaload, 1) := by decide +kernel
theorem dL_law_806 : decode cL_law 806 = .ok (.aload_n 0, 1) := by decide +kernel
theorem dL_law_807 : decode cL_law 807 = .ok (.iload_n 3, 1) := by decide +kernel
theorem dL_law_808 : decode cL_law 808 = .ok (.iconst 3, 1) := by decide +kernel
theorem dL_law_809 : decode cL_law 809 = .ok (.iadd, 1) := by decide +kernel
theorem dL_law_810 : decode cL_law 810 = .ok (.iaload, 1) := by decide +kernel
theorem dL_law_811 : decode cL_law 811 = .ok (.invokevirtual 78, 3) := by decide +kernel
theorem dL_law_814 : decode cL_law 814 = .ok (.aload_n 2, 1) := by decide +kernel
theorem dL_law_815 : decode cL_law 815 = .ok (.aload_n 0, 1) := by decide +kernel
theorem dL_law_816 : decode cL_law 816 = .ok (.iload_n 3, 1) := by decide +kernel
theorem dL_law_817 : decode cL_law 817 = .ok (.iconst 1, 1) := by decide +kernel
theorem dL_law_818 : decode cL_law 818 = .ok (.iadd, 1) := by decide +kernel
theorem dL_law_819 : decode cL_law 819 = .ok (.iaload, 1) := by decide +kernel
theorem dL_law_820 : decode cL_law 820 = .ok (.aload_n 0, 1) := by decide +kernel
theorem dL_law_821 : decode cL_law 821 = .ok (.iload_n 3, 1) := by decide +kernel
theorem dL_law_822 : decode cL_law 822 = .ok (.iconst 2, 1) := by decide +kernel
theorem dL_law_823 : decode cL_law 823 = .ok (.iadd, 1) := by decide +kernel
theorem dL_law_824 : decode cL_law 824 = .ok (.iaload, 1) := by decide +kernel
theorem dL_law_825 : decode cL_law 825 = .ok (.aload_n 0, 1) := by decide +kernel
theorem dL_law_826 : decode cL_law 826 = .ok (.iload_n 3, 1) := by decide +kernel
theorem dL_law_827 : decode cL_law 827 = .ok (.iconst 3, 1) := by decide +kernel
theorem dL_law_828 : decode cL_law 828 = .ok (.iadd, 1) := by decide +kernel
theorem dL_law_829 : decode cL_law 829 = .ok (.iaload, 1) := by decide +kernel
theorem dL_law_830 : decode cL_law 830 = .ok (.invokevirtual 81, 3) := by decide +kernel
theorem dL_law_833 : decode cL_law 833 = .ok (.if_icmp .eq 226, 3) := by decide +kernel
theorem dL_law_836 : decode cL_law 836 = .ok (.iconst 0, 1) := by decide +kernel
theorem dL_law_837 : decode cL_law 837 = .ok (.ireturn, 1) := by decide +kernel
theorem dL_law_838 : decode cL_law 838 = .ok (.aload_n 1, 1) := by decide +kernel
theorem dL_law_839 : decode cL_law 839 = .ok (.aload_n 0, 1) := by decide +kernel
theorem dL_law_840 : decode cL_law 840 = .ok (.iload_n 3, 1) := by decide +kernel
theorem dL_law_841 : decode cL_law 841 = .ok (.iconst 1, 1) := by decide +kernel
theorem dL_law_842 : decode cL_law 842 = .ok (.iadd, 1) := by decide +kernel
theorem dL_law_843 : decode cL_law 843 = .ok (.iaload, 1) := by decide +kernel
theorem dL_law_844 : decode cL_law 844 = .ok (.aload_n 0, 1) := by decide +kernel
theorem dL_law_845 : decode cL_law 845 = .ok (.iload_n 3, 1) := by decide +kernel
theorem dL_law_846 : decode cL_law 846 = .ok (.iconst 2, 1) := by decide +kernel
theorem dL_law_847 : decode cL_law 847 = .ok (.iadd, 1) := by decide +kernel
theorem dL_law_848 : decode cL_law 848 = .ok (.iaload, 1) := by decide +kernel
theorem dL_law_849 : decode cL_law 849 = .ok (.aload_n 0, 1) := by decide +kernel
theorem dL_law_850 : decode cL_law 850 = .ok (.iload_n 3, 1) := by decide +kernel
theorem dL_law_851 : decode cL_law 851 = .ok (.iconst 3, 1) := by decide +kernel
theorem dL_law_852 : decode cL_law 852 = .ok (.iadd, 1) := by decide +kernel
theorem dL_law_853 : decode cL_law 853 = .ok (.iaload, 1) := by decide +kernel
theorem dL_law_854 : decode cL_law 854 = .ok (.invokevirtual 82, 3) := by decide +kernel
theorem dL_law_857 : decode cL_law 857 = .ok (.aload_n 2, 1) := by decide +kernel
theorem dL_law_858 : decode cL_law 858 = .ok (.aload_n 0, 1) := by decide +kernel
theorem dL_law_859 : decode cL_law 859 = .ok (.iload_n 3, 1) := by decide +kernel
theorem dL_law_860 : decode cL_law 860 = .ok (.iconst 1, 1) := by decide +kernel
theorem dL_law_861 : decode cL_law 861 = .ok (.iadd, 1) := by decide +kernel
theorem dL_law_862 : decode cL_law 862 = .ok (.iaload, 1) := by decide +kernel
theorem dL_law_863 : decode cL_law 863 = .ok (.aload_n 0, 1) := by decide +kernel
theorem dL_law_864 : decode cL_law 864 = .ok (.iload_n 3, 1) := by decide +kernel
theorem dL_law_865 : decode cL_law 865 = .ok (.iconst 2, 1) := by decide +kernel
theorem dL_law_866 : decode cL_law 866 = .ok (.iadd, 1) := by decide +kernel
theorem dL_law_867 : decode cL_law 867 = .ok (.iaload, 1) := by decide +kernel
theorem dL_law_868 : decode cL_law 868 = .ok (.aload_n 0, 1) := by decide +kernel
theorem dL_law_869 : decode cL_law 869 = .ok (.iload_n 3, 1) := by decide +kernel
theorem dL_law_870 : decode cL_law 870 = .ok (.iconst 3, 1) := by decide +kernel
theorem dL_law_871 : decode cL_law 871 = .ok (.iadd, 1) := by decide +kernel
theorem dL_law_872 : decode cL_law 872 = .ok (.iaload, 1) := by decide +kernel
theorem dL_law_873 : decode cL_law 873 = .ok (.invokevirtual 85, 3) := by decide +kernel
theorem dL_law_876 : decode cL_law 876 = .ok (.if_icmp .eq 183, 3) := by decide +kernel
theorem dL_law_879 : decode cL_law 879 = .ok (.iconst 0, 1) := by decide +kernel
theorem dL_law_880 : decode cL_law 880 = .ok (.ireturn, 1) := by decide +kernel
theorem dL_law_881 : decode cL_law 881 = .ok (.aload_n 1, 1) := by decide +kernel
theorem dL_law_882 : decode cL_law 882 = .ok (.aload_n 0, 1) := by decide +kernel
theorem dL_law_883 : decode cL_law 883 = .ok (.iload_n 3, 1) := by decide +kernel
theorem dL_law_884 : decode cL_law 884 = .ok (.iconst 1, 1) := by decide +kernel
theorem dL_law_885 : decode cL_law 885 = .ok (.iadd, 1) := by decide +kernel
theorem dL_law_886 : decode cL_law 886 = .ok (.iaload, 1) := by decide +kernel
theorem dL_law_887 : decode cL_law 887 = .ok (.aload_n 0, 1) := by decide +kernel
theorem dL_law_888 : decode cL_law 888 = .ok (.iload_n 3, 1) := by decide +kernel
theorem dL_law_889 : decode cL_law 889 = .ok (.iconst 2, 1) := by decide +kernel
theorem dL_law_890 : decode cL_law 890 = .ok (.iadd, 1) := by decide +kernel
theorem dL_law_891 : decode cL_law 891 = .ok (.iaload, 1) := by decide +kernel
theorem dL_law_892 : decode cL_law 892 = .ok (.aload_n 0, 1) := by decide +kernel
theorem dL_law_893 : decode cL_law 893 = .ok (.iload_n 3, 1) := by decide +kernel
theorem dL_law_894 : decode cL_law 894 = .ok (.iconst 3, 1) := by decide +kernel
theorem dL_law_895 : decode cL_law 895 = .ok (.iadd, 1) := by decide +kernel
theorem dL_law_896 : decode cL_law 896 = .ok (.iaload, 1) := by decide +kernel
theorem dL_law_897 : decode cL_law 897 = .ok (.invokevirtual 86, 3) := by decide +kernel
theorem dL_law_900 : decode cL_law 900 = .ok (.aload_n 2, 1) := by decide +kernel
theorem dL_law_901 : decode cL_law 901 = .ok (.aload_n 0, 1) := by decide +kernel
theorem dL_law_902 : decode cL_law 902 = .ok (.iload_n 3, 1) := by decide +kernel
theorem dL_law_903 : decode cL_law 903 = .ok (.iconst 1, 1) := by decide +kernel
theorem dL_law_904 : decode cL_law 904 = .ok (.iadd, 1) := by decide +kernel
theorem dL_law_905 : decode cL_law 905 = .ok (.iaload, 1) := by decide +kernel
theorem dL_law_906 : decode cL_law 906 = .ok (.aload_n 0, 1) := by decide +kernel
theorem dL_law_907 : decode cL_law 907 = .ok (.iload_n 3, 1) := by decide +kernel
theorem dL_law_908 : decode cL_law 908 = .ok (.iconst 2, 1) := by decide +kernel
theorem dL_law_909 : decode cL_law 909 = .ok (.iadd, 1) := by decide +kernel
theorem dL_law_910 : decode cL_law 910 = .ok (.iaload, 1) := by decide +kernel
theorem dL_law_911 : decode cL_law 911 = .ok (.aload_n 0, 1) := by decide +kernel
theorem dL_law_912 : decode cL_law 912 = .ok (.iload_n 3, 1) := by decide +kernel
theorem dL_law_913 : decode cL_law 913 = .ok (.iconst 3, 1) := by decide +kernel
theorem dL_law_914 : decode cL_law 914 = .ok (.iadd, 1) := by decide +kernel
theorem dL_law_915 : decode cL_law 915 = .ok (.iaload, 1) := by decide +kernel
theorem dL_law_916 : decode cL_law 916 = .ok (.invokevirtual 89, 3) := by decide +kernel
theorem dL_law_919 : decode cL_law 919 = .ok (.if_icmp .eq 140, 3) := by decide +kernel
theorem dL_law_922 : decode cL_law 922 = .ok (.iconst 0, 1) := by decide +kernel
theorem dL_law_923 : decode cL_law 923 = .ok (.ireturn, 1) := by decide +kernel
theorem dL_law_924 : decode cL_law 924 = .ok (.aload_n 1, 1) := by decide +kernel
theorem dL_law_925 : decode cL_law 925 = .ok (.aload_n 0, 1) := by decide +kernel
theorem dL_law_926 : decode cL_law 926 = .ok (.iload_n 3, 1) := by decide +kernel
theorem dL_law_927 : decode cL_law 927 = .ok (.iconst 1, 1) := by decide +kernel
theorem dL_law_928 : decode cL_law 928 = .ok (.iadd, 1) := by decide +kernel
theorem dL_law_929 : decode cL_law 929 = .ok (.iaload, 1) := by decide +kernel
theorem dL_law_930 : decode cL_law 930 = .ok (.aload_n 0, 1) := by decide +kernel
theorem dL_law_931 : decode cL_law 931 = .ok (.iload_n 3, 1) := by decide +kernel
theorem dL_law_932 : decode cL_law 932 = .ok (.iconst 2, 1) := by decide +kernel
theorem dL_law_933 : decode cL_law 933 = .ok (.iadd, 1) := by decide +kernel
theorem dL_law_934 : decode cL_law 934 = .ok (.iaload, 1) := by decide +kernel
theorem dL_law_935 : decode cL_law 935 = .ok (.aload_n 0, 1) := by decide +kernel
theorem dL_law_936 : decode cL_law 936 = .ok (.iload_n 3, 1) := by decide +kernel
theorem dL_law_937 : decode cL_law 937 = .ok (.iconst 3, 1) := by decide +kernel
theorem dL_law_938 : decode cL_law 938 = .ok (.iadd, 1) := by decide +kernel
theorem dL_law_939 : decode cL_law 939 = .ok (.iaload, 1) := by decide +kernel
theorem dL_law_940 : decode cL_law 940 = .ok (.invokevirtual 90, 3) := by decide +kernel
theorem dL_law_943 : decode cL_law 943 = .ok (.aload_n 2, 1) := by decide +kernel
theorem dL_law_944 : decode cL_law 944 = .ok (.aload_n 0, 1) := by decide +kernel
theorem dL_law_945 : decode cL_law 945 = .ok (.iload_n 3, 1) := by decide +kernel
theorem dL_law_946 : decode cL_law 946 = .ok (.iconst 1, 1) := by decide +kernel
theorem dL_law_947 : decode cL_law 947 = .ok (.iadd, 1) := by decide +kernel
theorem dL_law_948 : decode cL_law 948 = .ok (.iaload, 1) := by decide +kernel
theorem dL_law_949 : decode cL_law 949 = .ok (.aload_n 0, 1) := by decide +kernel
theorem dL_law_950 : decode cL_law 950 = .ok (.iload_n 3, 1) := by decide +kernel
theorem dL_law_951 : decode cL_law 951 = .ok (.iconst 2, 1) := by decide +kernel
theorem dL_law_952 : decode cL_law 952 = .ok (.iadd, 1) := by decide +kernel
theorem dL_law_953 : decode cL_law 953 = .ok (.iaload, 1) := by decide +kernel
theorem dL_law_954 : decode cL_law 954 = .ok (.aload_n 0, 1) := by decide +kernel
theorem dL_law_955 : decode cL_law 955 = .ok (.iload_n 3, 1) := by decide +kernel
theorem dL_law_956 : decode cL_law 956 = .ok (.iconst 3, 1) := by decide +kernel
theorem dL_law_957 : decode cL_law 957 = .ok (.iadd, 1) := by decide +kernel
theorem dL_law_958 : decode cL_law 958 = .ok (.iaload, 1) := by decide +kernel
theorem dL_law_959 : decode cL_law 959 = .ok (.invokevirtual 93, 3) := by decide +kernel
theorem dL_law_962 : decode cL_law 962 = .ok (.if_icmp .eq 97, 3) := by decide +kernel
theorem dL_law_965 : decode cL_law 965 = .ok (.iconst 0, 1) := by decide +kernel
theorem dL_law_966 : decode cL_law 966 = .ok (.ireturn, 1) := by decide +kernel
theorem dL_law_967 : decode cL_law 967 = .ok (.aload_n 1, 1) := by decide +kernel
theorem dL_law_968 : decode cL_law 968 = .ok (.aload_n 0, 1) := by decide +kernel
theorem dL_law_969 : decode cL_law 969 = .ok (.iload_n 3, 1) := by decide +kernel
theorem dL_law_970 : decode cL_law 970 = .ok (.iconst 1, 1) := by decide +kernel
theorem dL_law_971 : decode cL_law 971 = .ok (.iadd, 1) := by decide +kernel
theorem dL_law_972 : decode cL_law 972 = .ok (.iaload, 1) := by decide +kernel
theorem dL_law_973 : decode cL_law 973 = .ok (.aload_n 0, 1) := by decide +kernel
theorem dL_law_974 : decode cL_law 974 = .ok (.iload_n 3, 1) := by decide +kernel
theorem dL_law_975 : decode cL_law 975 = .ok (.iconst 2, 1) := by decide +kernel
theorem dL_law_976 : decode cL_law 976 = .ok (.iadd, 1) := by decide +kernel
theorem dL_law_977 : decode cL_law 977 = .ok (.iaload, 1) := by decide +kernel
theorem dL_law_978 : decode cL_law 978 = .ok (.aload_n 0, 1) := by decide +kernel
theorem dL_law_979 : decode cL_law 979 = .ok (.iload_n 3, 1) := by decide +kernel
theorem dL_law_980 : decode cL_law 980 = .ok (.iconst 3, 1) := by decide +kernel
theorem dL_law_981 : decode cL_law 981 = .ok (.iadd, 1) := by decide +kernel
theorem dL_law_982 : decode cL_law 982 = .ok (.iaload, 1) := by decide +kernel
theorem dL_law_983 : decode cL_law 983 = .ok (.invokevirtual 94, 3) := by decide +kernel
theorem dL_law_986 : decode cL_law 986 = .ok (.aload_n 2, 1) := by decide +kernel
theorem dL_law_987 : decode cL_law 987 = .ok (.aload_n 0, 1) := by decide +kernel
theorem dL_law_988 : decode cL_law 988 = .ok (.iload_n 3, 1) := by decide +kernel
theorem dL_law_989 : decode cL_law 989 = .ok (.iconst 1, 1) := by decide +kernel
theorem dL_law_990 : decode cL_law 990 = .ok (.iadd, 1) := by decide +kernel
theorem dL_law_991 : decode cL_law 991 = .ok (.iaload, 1) := by decide +kernel
theorem dL_law_992 : decode cL_law 992 = .ok (.aload_n 0, 1) := by decide +kernel
theorem dL_law_993 : decode cL_law 993 = .ok (.iload_n 3, 1) := by decide +kernel
theorem dL_law_994 : decode cL_law 994 = .ok (.iconst 2, 1) := by decide +kernel
theorem dL_law_995 : decode cL_law 995 = .ok (.iadd, 1) := by decide +kernel
theorem dL_law_996 : decode cL_law 996 = .ok (.iaload, 1) := by decide +kernel
theorem dL_law_997 : decode cL_law 997 = .ok (.aload_n 0, 1) := by decide +kernel
theorem dL_law_998 : decode cL_law 998 = .ok (.iload_n 3, 1) := by decide +kernel
theorem dL_law_999 : decode cL_law 999 = .ok (.iconst 3, 1) := by decide +kernel
theorem dL_law_1000 : decode cL_law 1000 = .ok (.iadd, 1) := by decide +kernel
theorem dL_law_1001 : decode cL_law 1001 = .ok (.iaload, 1) := by decide +kernel
theorem dL_law_1002 : decode cL_law 1002 = .ok (.invokevirtual 97, 3) := by decide +kernel
theorem dL_law_1005 : decode cL_law 1005 = .ok (.if_icmp .eq 54, 3) := by decide +kernel
theorem dL_law_1008 : decode cL_law 1008 = .ok (.iconst 0, 1) := by decide +kernel
theorem dL_law_1009 : decode cL_law 1009 = .ok (.ireturn, 1) := by decide +kernel
theorem dL_law_1010 : decode cL_law 1010 = .ok (.aload_n 1, 1) := by decide +kernel
theorem dL_law_1011 : decode cL_law 1011 = .ok (.aload_n 0, 1) := by decide +kernel
theorem dL_law_1012 : decode cL_law 1012 = .ok (.iload_n 3, 1) := by decide +kernel
theorem dL_law_1013 : decode cL_law 1013 = .ok (.iconst 1, 1) := by decide +kernel
theorem dL_law_1014 : decode cL_law 1014 = .ok (.iadd, 1) := by decide +kernel
theorem dL_law_1015 : decode cL_law 1015 = .ok (.iaload, 1) := by decide +kernel
theorem dL_law_1016 : decode cL_law 1016 = .ok (.invokevirtual 98, 3) := by decide +kernel
theorem dL_law_1019 : decode cL_law 1019 = .ok (.aload_n 2, 1) := by decide +kernel
theorem dL_law_1020 : decode cL_law 1020 = .ok (.aload_n 0, 1) := by decide +kernel
theorem dL_law_1021 : decode cL_law 1021 = .ok (.iload_n 3, 1) := by decide +kernel
theorem dL_law_1022 : decode cL_law 1022 = .ok (.iconst 1, 1) := by decide +kernel
theorem dL_law_1023 : decode cL_law 1023 = .ok (.iadd, 1) := by decide +kernel
theorem dL_law_1024 : decode cL_law 1024 = .ok (.iaload, 1) := by decide +kernel
theorem dL_law_1025 : decode cL_law 1025 = .ok (.invokevirtual 101, 3) := by decide +kernel
theorem dL_law_1028 : decode cL_law 1028 = .ok (.if_icmp .eq 31, 3) := by decide +kernel
theorem dL_law_1031 : decode cL_law 1031 = .ok (.iconst 0, 1) := by decide +kernel
theorem dL_law_1032 : decode cL_law 1032 = .ok (.ireturn, 1) := by decide +kernel
theorem dL_law_1033 : decode cL_law 1033 = .ok (.aload_n 1, 1) := by decide +kernel
theorem dL_law_1034 : decode cL_law 1034 = .ok (.invokevirtual 102, 3) := by decide +kernel
theorem dL_law_1037 : decode cL_law 1037 = .ok (.aload_n 2, 1) := by decide +kernel
theorem dL_law_1038 : decode cL_law 1038 = .ok (.invokevirtual 106, 3) := by decide +kernel
theorem dL_law_1041 : decode cL_law 1041 = .ok (.if_icmp .eq 18, 3) := by decide +kernel
theorem dL_law_1044 : decode cL_law 1044 = .ok (.iconst 0, 1) := by decide +kernel
theorem dL_law_1045 : decode cL_law 1045 = .ok (.ireturn, 1) := by decide +kernel
theorem dL_law_1046 : decode cL_law 1046 = .ok (.aload_n 1, 1) := by decide +kernel
theorem dL_law_1047 : decode cL_law 1047 = .ok (.invokevirtual 107, 3) := by decide +kernel
theorem dL_law_1050 : decode cL_law 1050 = .ok (.aload_n 2, 1) := by decide +kernel
theorem dL_law_1051 : decode cL_law 1051 = .ok (.invokevirtual 110, 3) := by decide +kernel
theorem dL_law_1054 : decode cL_law 1054 = .ok (.if_icmp .eq 5, 3) := by decide +kernel
theorem dL_law_1057 : decode cL_law 1057 = .ok (.iconst 0, 1) := by decide +kernel
theorem dL_law_1058 : decode cL_law 1058 = .ok (.ireturn, 1) := by decide +kernel
theorem dL_law_1059 : decode cL_law 1059 = .ok (.iinc 3 6, 3) := by decide +kernel
theorem dL_law_1062 : decode cL_law 1062 = .ok (.goto (-1044), 3) := by decide +kernel
theorem dL_law_1065 : decode cL_law 1065 = .ok (.iconst 1, 1) := by decide +kernel
theorem dL_law_1066 : decode cL_law 1066 = .ok (.ireturn, 1) := by decide +kernel
end
section
/-! The layer zv: the machine at a place, with its locals, its stack and a world of cells; all rows of the methods are over it -/
abbrev zKx : Type := Program × Launch × Env × Room × State × MethodId × Array Value × List Frame × Method × Code × va_G × (Nat → Prop) × Heap × Nat × Nat × (State → Prop)
abbrev zTy : Type := ClassId × ClassId × ClassId
def zv_isNest : Cond → Bool
  | .fieldLinkNest .. => true
  | .methodLinkNest .. => true
  | _ => false
theorem zv_nest_all : zv_nest.all zv_isNest = true := rfl
theorem zv_nest_warm {w : Cond} (h : zv_isNest w = true) {s U : State} (hW : s.WarmedH U.vm) (hZ : va_Nw w s) : va_Nw w U := by
  cases w <;> first | exact va_Nw.warmF hW hZ | exact va_Nw.warmM hW hZ | (simp [zv_isNest] at h)
theorem zv_nest_same {w : Cond} (h : zv_isNest w = true) {u U : State} (e : u.vm = U.vm) (hZ : va_Nw w u) : va_Nw w U := by
  cases w <;> first | exact va_Nw.same rfl e hZ | (simp [zv_isNest] at h)
def zv_nst (U : State) : Prop := ∀ w ∈ zv_nest, va_Nw w U
theorem zv_nst.warm {s U : State} (hW : s.WarmedH U.vm) (h : zv_nst s) : zv_nst U := fun w hw => zv_nest_warm (List.all_eq_true.mp zv_nest_all w hw) hW (h w hw)
theorem zv_nst.same {s U : State} (e : s.vm = U.vm) (h : zv_nst s) : zv_nst U := fun w hw => zv_nest_same (List.all_eq_true.mp zv_nest_all w hw) e (h w hw)
def zv_tys (ty : zTy) : List (ClassId × FieldType) := [(ty.1, .int), (ty.2.1, .boolean), (ty.2.2, .object "VeinCourt$Claim")]
def zv_K (D : va_G) (ty : zTy) (U : State) : Prop := va_K D vwCl (zv_tys ty) U ∧ zv_nst U
theorem zv_K.warm {D : va_G} {ty : zTy} {s U : State} (hW : s.WarmedH U.vm) (h : zv_K D ty s) : zv_K D ty U := ⟨va_K.moved hW.alike h.1, h.2.warm hW⟩
theorem zv_K.call {D : va_G} {ty : zTy} {U : State} {g : JFrame} {mk : MethodId} {a : Array Value} (h : zv_K D ty U) : zv_K D ty (U.calling g mk a) := ⟨va_K.moved (u := U) (U := U.calling g mk a) (Vm.Alike.refl U.vm) h.1, zv_nst.same (s := U) (U := U.calling g mk a) rfl h.2⟩
/-- the locals by their places, all of one word -/
def zv_l (ls : Array Slot) (lv : List (Option Value)) : Prop := ls.size = lv.length ∧ lv_wf ls ∧ ∀ (i : Nat) (v : Value), lv[i]? = some (some v) → v.category = 1 ∧ ls[i]? = some (.val v)
theorem zv_l.at {ls : Array Slot} {lv : List (Option Value)} (h : zv_l ls lv) {i : Nat} {v : Value} (hi : lv[i]? = some (some v)) : ls[i]? = some (.val v) := (h.2.2 i v hi).2
theorem zv_l.store {ls : Array Slot} {lv : List (Option Value)} (h : zv_l ls lv) {i : Nat} {v : Value} (hi : i < lv.length) (hc : v.category = 1) : ∃ l : List (Nat × Value), lv_has ls lv.length l ∧ ∀ ls' : Array Slot, lv_has ls' lv.length ((i, v) :: l.filter (fun q => !(q.1 == i) && !(q.1 + 1 == i && q.2.category == 2))) → zv_l ls' (lv.set i (some v)) := by
  refine ⟨(List.range lv.length).filterMap (fun j => (lv[j]?.join).map (fun x => (j, x))), ⟨h.1, h.2.1, fun q hq => ?_⟩, fun ls' h' => ⟨by rw [List.length_set]; exact h'.1, h'.2.1, fun j x hj => ?_⟩⟩
  · obtain ⟨j, -, e⟩ := List.mem_filterMap.mp hq
    cases hx : lv[j]? with
    | none => rw [hx] at e; simp at e
    | some o =>
      cases o with
      | none => rw [hx] at e; simp at e
      | some x =>
        rw [hx] at e
        simp at e
        subst e
        exact (h.2.2 j x hx).2
  · by_cases hji : j = i
    · subst hji
      rw [List.getElem?_set_self hi] at hj
      cases hj
      exact ⟨hc, h'.2.2 (j, v) List.mem_cons_self⟩
    · rw [List.getElem?_set_ne (Ne.symm hji)] at hj
      obtain ⟨c1, -⟩ := h.2.2 j x hj
      refine ⟨c1, h'.2.2 (j, x) (List.mem_cons_of_mem _ (List.mem_filter.mpr ⟨List.mem_filterMap.mpr ⟨j, List.mem_range.mpr ?_, ?_⟩, ?_⟩))⟩
      · exact (List.getElem?_eq_some_iff.mp hj).1
      · rw [hj]; rfl
      · simp [hji, c1]
def zv_one (av : List Value) : Prop := ∀ v ∈ av, v.category = 1
theorem zv_sl : ∀ (av : List Value), zv_one av → lg_sl av = av.map Slot.val
  | [], _ => rfl
  | v :: av, h => by
    have ih := zv_sl av (fun x hx => h x (List.mem_cons_of_mem _ hx))
    have hv := h v List.mem_cons_self
    unfold lg_sl at ih ⊢
    rw [List.flatMap_cons, ih, if_neg (by omega)]
    rfl
theorem zv_args : ∀ (av : List Value) (n i : Nat) (v : Value), zv_one av → av[i]? = some v → (n + i, v) ∈ lv_args n av
  | [], n, i, v, _, h => by simp at h
  | x :: av, n, 0, v, h1, h => by
    simp at h
    subst h
    exact List.mem_cons_self
  | x :: av, n, i + 1, v, h1, h => by
    have hv := h1 x List.mem_cons_self
    simp at h
    have ih := zv_args av (n + 1) i v (fun y hy => h1 y (List.mem_cons_of_mem _ hy)) h
    unfold lv_args
    rw [if_neg (by omega), show n + (i + 1) = n + 1 + i by omega]
    exact List.mem_cons_of_mem _ ih
theorem zv_entry {av : List Value} {n : Nat} (h1 : zv_one av) (hn : av.length ≤ n) : zv_l ((lg_sl av ++ List.replicate (n - (lg_sl av).length) Slot.unset).toArray) (av.map some ++ List.replicate (n - av.length) none) := by
  have hl : (lg_sl av).length = av.length := by rw [zv_sl av h1, List.length_map]
  obtain ⟨e1, e2, e3⟩ := lv_entry av (n := n) (by omega)
  refine ⟨by rw [e1]; simp; omega, e2, fun i v hi => ?_⟩
  by_cases hi2 : i < av.length
  · rw [List.getElem?_append_left (by rw [List.length_map]; exact hi2), List.getElem?_map] at hi
    cases hx : av[i]? with
    | none => rw [hx] at hi; cases hi
    | some x =>
      rw [hx] at hi
      cases hi
      have := zv_args av 0 i v h1 hx
      rw [Nat.zero_add] at this
      exact ⟨h1 v (List.mem_of_getElem? hx), e3 (i, v) this⟩
  · rw [List.getElem?_append_right (by rw [List.length_map]; omega), List.getElem?_replicate] at hi
    split at hi <;> cases hi
/-- the machine at pc, with these locals, this stack, this world -/
def zv (k : zKx) (pc : Nat) (lv : List (Option Value)) (st : List Value) (ws : va_W) : Prop := match k with
  | (p, l, e, R, s, m, args, below, meth, c, D, A, H0, cells, slots, Q) => ∀ (H : Heap) (locs : List Loc) (ls : Array Slot), va_P D vwCl ws H → va_D A ws → va_S A H0 H locs → zv_l ls lv → W p l e R s m args below meth c H locs cells slots Q (F0 m pc ls st)
/-- what holds in a method's body -/
def zv_ok (k : zKx) (l0 : Launch) (D0 : va_G) (R0 : Room) (cc : ByteArray) (nL : Nat) (own : String) (ty : zTy) : Prop := match k with
  | (p, l, _, R, s, m, args, _, meth, c, D, A, H0, cells, slots, _) => l = l0 ∧ D = D0 ∧ R = R0 ∧ p.tables.exec = Jvm.exec ∧ c.code = cc ∧ c.maxLocals = nL ∧ s.vm.findClass own = some m.cls ∧ (∀ w ∈ zT, w.before args s = true) ∧ zv_K D ty s ∧ (∀ q, H0.size ≤ q → A q) ∧ meth.locks = false ∧ cells ≤ R.cells ∧ slots ≤ R.slots
def zv_qc (D : va_G) (post : Option Value → va_W → Prop) (A : Nat → Prop) : Array Value → State → Outcome → State → Prop := fun _ st oc t => (∃ (v : Option Value) (w' : va_W), oc = .returned v ∧ post v w' ∧ va_P D vwCl w' t.heap ∧ va_D A w') ∧ va_F A st t
def zv_pc (D : va_G) (ty : zTy) (av : List Value) (w : va_W) (sz : Nat) : Array Value → State → Prop := va_Pc av (fun U => U.heap.size = sz ∧ va_P D vwCl w U.heap ∧ zv_K D ty U ∧ va_D (fun _ => True) w)
/-- a contract: from any state that holds the world w, the method returns v with the world w', and post v w' -/
def zv_ct (l : Launch) (D : va_G) (ty : zTy) (y : MethodName) (cc : ByteArray) (maxL : Nat) (ret : Option FieldType) (rm : Room) (av : List Value) (w : va_W) (post : Option Value → va_W → Prop) : Prop :=
  ∀ sz : Nat, Met l y (Cond.code y cc maxL ret :: zT) rm (zv_pc D ty av w sz) (zv_qc D post (va_A w sz)) 0 0 (va_A w sz)
def zv_rt (k : zKx) (ret : Option FieldType) (post : Option Value → va_W → Prop) : Prop := match k with
  | (_, _, _, _, s, _, args, below, meth, _, D, A, H0, cells, slots, Q) => meth.sig.returnType = ret ∧ H0 = s.heap ∧ Q = MQ below (zv_qc D post A) args s cells slots A
theorem zv_blind {D : va_G} {ty : zTy} {av : List Value} {w : va_W} {sz : Nat} : FrameBlind (zv_pc D ty av w sz) := fun a U g mk q => by
  obtain ⟨q0, q1, qP, qK, qD⟩ := q
  exact ⟨q0, q1, qP, qK.call, qD⟩
theorem zv_open {l : Launch} {D : va_G} {ty : zTy} {y : MethodName} {cc : ByteArray} {maxL : Nat} {ret : Option FieldType} {rm : Room} {av : List Value} {w : va_W} {post : Option Value → va_W → Prop} (hy : plainName y.cls = true) (hr0 : rm.cells = 0) (hr1 : rm.slots = 0) (lv : List (Option Value)) (h1 : zv_one av) (hn : av.length ≤ maxL) (hlv : av.map some ++ List.replicate (maxL - av.length) none = lv)
    (body : ∀ k : zKx, zv_ok k l D rm cc maxL y.cls ty → zv_rt k ret post → zv k 0 lv [] w) : zv_ct l D ty y cc maxL ret rm av w post := by
  intro sz
  refine Met.ofW (cc := cc) (maxL := maxL) (ret := ret) hy rfl ?_
  intro p e s m args below meth c s₁ B hml hv
  obtain ⟨rfl, hsz, hP, hK, hD0⟩ := hv
  have hts := atoms_spec (ws := Cond.code y cc maxL ret :: zT) B.pre
  subst hsz
  rw [lg_entry_eq]
  have hD := hD0.self (sz := s.heap.size)
  refine body (p, l, e, rm, s, m, av.toArray, below, meth, c, D, va_A w s.heap.size, s.heap, 0, 0, MQ below (zv_qc D post (va_A w s.heap.size)) av.toArray s 0 0 (va_A w s.heap.size)) ⟨rfl, rfl, rfl, B.exec, B.bytes, hml, findClass_of_methodNamed B.named, fun x hx => hts x (List.mem_cons_of_mem _ hx), hK, fun q h => Or.inr h, B.notSynchronized, Nat.zero_le _, Nat.zero_le _⟩ ⟨B.returns, rfl, rfl⟩ s.heap [] _ hP hD va_S.rf ?_
  subst hlv
  exact zv_entry h1 hn
section ZV
variable {k : zKx} {l : Launch} {D : va_G} {R : Room} {cc : ByteArray} {nL : Nat} {own : String} {ty : zTy} {pc : Nat} {lv : List (Option Value)} {st : List Value} {ws : va_W}
/-- the same place, said otherwise -/
theorem zv_eq {pc2 : Nat} {lv2 : List (Option Value)} {st2 : List Value} {ws2 : va_W} (h1 : pc = pc2) (h2 : lv = lv2) (h3 : st = st2) (h4 : ws = ws2) (kk : zv k pc2 lv2 st2 ws2) : zv k pc lv st ws := by subst h1; subst h2; subst h3; subst h4; exact kk
theorem zv_ws {ws2 : va_W} (h : ws = ws2) (kk : zv k pc lv st ws2) : zv k pc lv st ws := by subst h; exact kk
theorem zv_topi {x : Int32} (y : Int32) (h : x = y) (kk : zv k pc lv (.int y :: st) ws) : zv k pc lv (.int x :: st) ws := by subst h; exact kk
theorem zv_lv (i : Nat) {v v2 : Value} (h : v = v2) {lv2 : List (Option Value)} (hl : lv2 = lv) (kk : zv k pc lv2 st ws) : zv k pc lv st ws := by subst hl; exact kk
theorem zv_iconst (K : zv_ok k l D R cc nL own ty) {n : Int} (v : Int32) (pc2 : Nat) (hd : decode cc pc = .ok (.iconst n, 1)) (hp : pc + 1 = pc2) (hv : Int32.ofInt n = v) (kk : zv k pc2 lv (.int v :: st) ws) : zv k pc lv (st) ws := by
  subst hp
  obtain ⟨p, l', e, R', s, m, args, below, meth, c, D', A, H0, cells, slots, Q⟩ := k
  obtain ⟨rfl, rfl, rfl, hx, hb, hml, hown, hts, hK, hA, hlk, hcl, hsl⟩ := K
  intro H locs ls hP hD hS hl
  exact lv_iconst hx hb hd hv (kk H locs ls hP hD hS hl)
theorem zv_bipush (K : zv_ok k l D R cc nL own ty) {n : Int} (v : Int32) (pc2 : Nat) (hd : decode cc pc = .ok (.bipush n, 2)) (hp : pc + 2 = pc2) (hv : (Int8.ofInt n).toInt32 = v) (kk : zv k pc2 lv (.int v :: st) ws) : zv k pc lv (st) ws := by
  subst hp
  obtain ⟨p, l', e, R', s, m, args, below, meth, c, D', A, H0, cells, slots, Q⟩ := k
  obtain ⟨rfl, rfl, rfl, hx, hb, hml, hown, hts, hK, hA, hlk, hcl, hsl⟩ := K
  intro H locs ls hP hD hS hl
  exact lv_bipush hx hb hd hv (kk H locs ls hP hD hS hl)
theorem zv_sipush (K : zv_ok k l D R cc nL own ty) {n : Int} (v : Int32) (pc2 : Nat) (hd : decode cc pc = .ok (.sipush n, 3)) (hp : pc + 3 = pc2) (hv : (Int16.ofInt n).toInt32 = v) (kk : zv k pc2 lv (.int v :: st) ws) : zv k pc lv (st) ws := by
  subst hp
  obtain ⟨p, l', e, R', s, m, args, below, meth, c, D', A, H0, cells, slots, Q⟩ := k
  obtain ⟨rfl, rfl, rfl, hx, hb, hml, hown, hts, hK, hA, hlk, hcl, hsl⟩ := K
  intro H locs ls hP hD hS hl
  exact lv_sipush hx hb hd hv (kk H locs ls hP hD hS hl)
theorem zv_iload_n (K : zv_ok k l D R cc nL own ty) {q : Fin 4} {x : Int32} (pc2 : Nat) (hd : decode cc pc = .ok (.iload_n q, 1)) (hp : pc + 1 = pc2) (h : lv[(q : Nat)]? = some (some (.int x))) (kk : zv k pc2 lv (.int x :: st) ws) : zv k pc lv (st) ws := by
  subst hp
  obtain ⟨p, l', e, R', s, m, args, below, meth, c, D', A, H0, cells, slots, Q⟩ := k
  obtain ⟨rfl, rfl, rfl, hx, hb, hml, hown, hts, hK, hA, hlk, hcl, hsl⟩ := K
  intro H locs ls hP hD hS hl
  exact lv_iload_n hx hb hd rfl (hl.at h) (kk H locs ls hP hD hS hl)
theorem zv_iload (K : zv_ok k l D R cc nL own ty) {i : Nat} {x : Int32} (pc2 : Nat) (hd : decode cc pc = .ok (.iload i, 2)) (hp : pc + 2 = pc2) (h : lv[i]? = some (some (.int x))) (kk : zv k pc2 lv (.int x :: st) ws) : zv k pc lv (st) ws := by
  subst hp
  obtain ⟨p, l', e, R', s, m, args, below, meth, c, D', A, H0, cells, slots, Q⟩ := k
  obtain ⟨rfl, rfl, rfl, hx, hb, hml, hown, hts, hK, hA, hlk, hcl, hsl⟩ := K
  intro H locs ls hP hD hS hl
  exact lv_iload hx hb hd (hl.at h) (kk H locs ls hP hD hS hl)
theorem zv_aload_n (K : zv_ok k l D R cc nL own ty) {q : Fin 4} {x : Nat} (pc2 : Nat) (hd : decode cc pc = .ok (.aload_n q, 1)) (hp : pc + 1 = pc2) (h : lv[(q : Nat)]? = some (some (.ref x))) (kk : zv k pc2 lv (.ref x :: st) ws) : zv k pc lv (st) ws := by
  subst hp
  obtain ⟨p, l', e, R', s, m, args, below, meth, c, D', A, H0, cells, slots, Q⟩ := k
  obtain ⟨rfl, rfl, rfl, hx, hb, hml, hown, hts, hK, hA, hlk, hcl, hsl⟩ := K
  intro H locs ls hP hD hS hl
  exact lv_aload_n hx hb hd rfl (hl.at h) (kk H locs ls hP hD hS hl)
theorem zv_aload (K : zv_ok k l D R cc nL own ty) {i : Nat} {x : Nat} (pc2 : Nat) (hd : decode cc pc = .ok (.aload i, 2)) (hp : pc + 2 = pc2) (h : lv[i]? = some (some (.ref x))) (kk : zv k pc2 lv (.ref x :: st) ws) : zv k pc lv (st) ws := by
  subst hp
  obtain ⟨p, l', e, R', s, m, args, below, meth, c, D', A, H0, cells, slots, Q⟩ := k
  obtain ⟨rfl, rfl, rfl, hx, hb, hml, hown, hts, hK, hA, hlk, hcl, hsl⟩ := K
  intro H locs ls hP hD hS hl
  exact lv_aload hx hb hd (hl.at h) (kk H locs ls hP hD hS hl)
theorem zv_aload_nN (K : zv_ok k l D R cc nL own ty) {q : Fin 4} (pc2 : Nat) (hd : decode cc pc = .ok (.aload_n q, 1)) (hp : pc + 1 = pc2) (h : lv[(q : Nat)]? = some (some .null)) (kk : zv k pc2 lv (.null :: st) ws) : zv k pc lv (st) ws := by
  subst hp
  obtain ⟨p, l', e, R', s, m, args, below, meth, c, D', A, H0, cells, slots, Q⟩ := k
  obtain ⟨rfl, rfl, rfl, hx, hb, hml, hown, hts, hK, hA, hlk, hcl, hsl⟩ := K
  intro H locs ls hP hD hS hl
  exact lv_aload_nN hx hb hd rfl (hl.at h) (kk H locs ls hP hD hS hl)
theorem zv_aloadN (K : zv_ok k l D R cc nL own ty) {i : Nat} (pc2 : Nat) (hd : decode cc pc = .ok (.aload i, 2)) (hp : pc + 2 = pc2) (h : lv[i]? = some (some .null)) (kk : zv k pc2 lv (.null :: st) ws) : zv k pc lv (st) ws := by
  subst hp
  obtain ⟨p, l', e, R', s, m, args, below, meth, c, D', A, H0, cells, slots, Q⟩ := k
  obtain ⟨rfl, rfl, rfl, hx, hb, hml, hown, hts, hK, hA, hlk, hcl, hsl⟩ := K
  intro H locs ls hP hD hS hl
  exact lv_aloadN hx hb hd (hl.at h) (kk H locs ls hP hD hS hl)
theorem zv_istore_n (K : zv_ok k l D R cc nL own ty) {q : Fin 4} {x : Int32} (lv2 : List (Option Value)) (pc2 : Nat) (hd : decode cc pc = .ok (.istore_n q, 1)) (hp : pc + 1 = pc2) (hs : lv.set (q : Nat) (some (.int x)) = lv2) (hi : (q : Nat) < lv.length) (kk : zv k pc2 lv2 st ws) : zv k pc lv (.int x :: st) ws := by
  subst hp
  obtain ⟨p, l', e, R', s, m, args, below, meth, c, D', A, H0, cells, slots, Q⟩ := k
  obtain ⟨rfl, rfl, rfl, hx, hb, hml, hown, hts, hK, hA, hlk, hcl, hsl⟩ := K
  intro H locs ls hP hD hS hl
  subst hs
  obtain ⟨ll, h1, h2⟩ := hl.store (i := (q : Nat)) (v := .int x) hi rfl
  exact lv_istore_n hx hb hd rfl h1 hi rfl (fun ls2 h3 => kk H locs ls2 hP hD hS (h2 ls2 h3))
theorem zv_astore_n (K : zv_ok k l D R cc nL own ty) {q : Fin 4} {x : Nat} (lv2 : List (Option Value)) (pc2 : Nat) (hd : decode cc pc = .ok (.astore_n q, 1)) (hp : pc + 1 = pc2) (hs : lv.set (q : Nat) (some (.ref x)) = lv2) (hi : (q : Nat) < lv.length) (kk : zv k pc2 lv2 st ws) : zv k pc lv (.ref x :: st) ws := by
  subst hp
  obtain ⟨p, l', e, R', s, m, args, below, meth, c, D', A, H0, cells, slots, Q⟩ := k
  obtain ⟨rfl, rfl, rfl, hx, hb, hml, hown, hts, hK, hA, hlk, hcl, hsl⟩ := K
  intro H locs ls hP hD hS hl
  subst hs
  obtain ⟨ll, h1, h2⟩ := hl.store (i := (q : Nat)) (v := .ref x) hi rfl
  exact lv_astore_n hx hb hd rfl h1 hi rfl (fun ls2 h3 => kk H locs ls2 hP hD hS (h2 ls2 h3))
theorem zv_astore_nN (K : zv_ok k l D R cc nL own ty) {q : Fin 4} (lv2 : List (Option Value)) (pc2 : Nat) (hd : decode cc pc = .ok (.astore_n q, 1)) (hp : pc + 1 = pc2) (hs : lv.set (q : Nat) (some (.null)) = lv2) (hi : (q : Nat) < lv.length) (kk : zv k pc2 lv2 st ws) : zv k pc lv (.null :: st) ws := by
  subst hp
  obtain ⟨p, l', e, R', s, m, args, below, meth, c, D', A, H0, cells, slots, Q⟩ := k
  obtain ⟨rfl, rfl, rfl, hx, hb, hml, hown, hts, hK, hA, hlk, hcl, hsl⟩ := K
  intro H locs ls hP hD hS hl
  subst hs
  obtain ⟨ll, h1, h2⟩ := hl.store (i := (q : Nat)) (v := .null) hi rfl
  exact lv_astore_nN hx hb hd rfl h1 hi rfl (fun ls2 h3 => kk H locs ls2 hP hD hS (h2 ls2 h3))
theorem zv_istore (K : zv_ok k l D R cc nL own ty) {i : Nat} {x : Int32} (lv2 : List (Option Value)) (pc2 : Nat) (hd : decode cc pc = .ok (.istore i, 2)) (hp : pc + 2 = pc2) (hs : lv.set i (some (.int x)) = lv2) (hi : i < lv.length) (kk : zv k pc2 lv2 st ws) : zv k pc lv (.int x :: st) ws := by
  subst hp
  obtain ⟨p, l', e, R', s, m, args, below, meth, c, D', A, H0, cells, slots, Q⟩ := k
  obtain ⟨rfl, rfl, rfl, hx, hb, hml, hown, hts, hK, hA, hlk, hcl, hsl⟩ := K
  intro H locs ls hP hD hS hl
  subst hs
  obtain ⟨ll, h1, h2⟩ := hl.store (i := i) (v := .int x) hi rfl
  exact lv_istore hx hb hd h1 hi rfl (fun ls2 h3 => kk H locs ls2 hP hD hS (h2 ls2 h3))
theorem zv_astore (K : zv_ok k l D R cc nL own ty) {i : Nat} {x : Nat} (lv2 : List (Option Value)) (pc2 : Nat) (hd : decode cc pc = .ok (.astore i, 2)) (hp : pc + 2 = pc2) (hs : lv.set i (some (.ref x)) = lv2) (hi : i < lv.length) (kk : zv k pc2 lv2 st ws) : zv k pc lv (.ref x :: st) ws := by
  subst hp
  obtain ⟨p, l', e, R', s, m, args, below, meth, c, D', A, H0, cells, slots, Q⟩ := k
  obtain ⟨rfl, rfl, rfl, hx, hb, hml, hown, hts, hK, hA, hlk, hcl, hsl⟩ := K
  intro H locs ls hP hD hS hl
  subst hs
  obtain ⟨ll, h1, h2⟩ := hl.store (i := i) (v := .ref x) hi rfl
  exact lv_astore hx hb hd h1 hi rfl (fun ls2 h3 => kk H locs ls2 hP hD hS (h2 ls2 h3))
theorem zv_astoreN (K : zv_ok k l D R cc nL own ty) {i : Nat} (lv2 : List (Option Value)) (pc2 : Nat) (hd : decode cc pc = .ok (.astore i, 2)) (hp : pc + 2 = pc2) (hs : lv.set i (some (.null)) = lv2) (hi : i < lv.length) (kk : zv k pc2 lv2 st ws) : zv k pc lv (.null :: st) ws := by
  subst hp
  obtain ⟨p, l', e, R', s, m, args, below, meth, c, D', A, H0, cells, slots, Q⟩ := k
  obtain ⟨rfl, rfl, rfl, hx, hb, hml, hown, hts, hK, hA, hlk, hcl, hsl⟩ := K
  intro H locs ls hP hD hS hl
  subst hs
  obtain ⟨ll, h1, h2⟩ := hl.store (i := i) (v := .null) hi rfl
  exact lv_astoreN hx hb hd h1 hi rfl (fun ls2 h3 => kk H locs ls2 hP hD hS (h2 ls2 h3))
theorem zv_iinc (K : zv_ok k l D R cc nL own ty) {i : Nat} {n : Int} {x : Int32} (y : Int32) (lv2 : List (Option Value)) (pc2 : Nat) (hd : decode cc pc = .ok (.iinc i n, 3)) (hp : pc + 3 = pc2) (h : lv[i]? = some (some (.int x))) (hv : x + Int32.ofInt n = y) (hs : lv.set i (some (.int y)) = lv2) (kk : zv k pc2 lv2 st ws) : zv k pc lv st ws := by
  subst hp
  subst hs
  obtain ⟨p, l', e, R', s, m, args, below, meth, c, D', A, H0, cells, slots, Q⟩ := k
  obtain ⟨rfl, rfl, rfl, hx, hb, hml, hown, hts, hK, hA, hlk, hcl, hsl⟩ := K
  intro H locs ls hP hD hS hl
  have hi : i < lv.length := (List.getElem?_eq_some_iff.mp h).1
  obtain ⟨ll, h1, h2⟩ := hl.store (i := i) (v := .int y) hi rfl
  obtain ⟨c1, c2⟩ := hl.2.2 i _ h
  obtain ⟨l3, h4, h5⟩ := hl.store (i := i) (v := .int y) hi rfl
  have hh : lv_has ls lv.length ((i, .int x) :: ll) := ⟨h1.1, h1.2.1, fun q hq => by
    rcases List.mem_cons.mp hq with e1 | e1
    · rw [e1]; exact c2
    · exact h1.2.2 q e1⟩
  refine lv_iinc (k := 0) hx hb hd hh rfl hv hi rfl (fun ls2 h3 => kk H locs ls2 hP hD hS (h2 ls2 ?_))
  simpa using h3
theorem zv_iadd (K : zv_ok k l D R cc nL own ty) {x y : Int32} (pc2 : Nat) (hd : decode cc pc = .ok (.iadd, 1)) (hp : pc + 1 = pc2) (kk : zv k pc2 lv (.int (x + y) :: st) ws) : zv k pc lv (.int y :: .int x :: st) ws := by
  subst hp
  obtain ⟨p, l', e, R', s, m, args, below, meth, c, D', A, H0, cells, slots, Q⟩ := k
  obtain ⟨rfl, rfl, rfl, hx, hb, hml, hown, hts, hK, hA, hlk, hcl, hsl⟩ := K
  intro H locs ls hP hD hS hl
  exact lv_iadd hx hb hd (kk H locs ls hP hD hS hl)
theorem zv_isub (K : zv_ok k l D R cc nL own ty) {x y : Int32} (pc2 : Nat) (hd : decode cc pc = .ok (.isub, 1)) (hp : pc + 1 = pc2) (kk : zv k pc2 lv (.int (x - y) :: st) ws) : zv k pc lv (.int y :: .int x :: st) ws := by
  subst hp
  obtain ⟨p, l', e, R', s, m, args, below, meth, c, D', A, H0, cells, slots, Q⟩ := k
  obtain ⟨rfl, rfl, rfl, hx, hb, hml, hown, hts, hK, hA, hlk, hcl, hsl⟩ := K
  intro H locs ls hP hD hS hl
  exact lv_isub hx hb hd (kk H locs ls hP hD hS hl)
theorem zv_imul (K : zv_ok k l D R cc nL own ty) {x y : Int32} (pc2 : Nat) (hd : decode cc pc = .ok (.imul, 1)) (hp : pc + 1 = pc2) (kk : zv k pc2 lv (.int (x * y) :: st) ws) : zv k pc lv (.int y :: .int x :: st) ws := by
  subst hp
  obtain ⟨p, l', e, R', s, m, args, below, meth, c, D', A, H0, cells, slots, Q⟩ := k
  obtain ⟨rfl, rfl, rfl, hx, hb, hml, hown, hts, hK, hA, hlk, hcl, hsl⟩ := K
  intro H locs ls hP hD hS hl
  exact lv_imul hx hb hd (kk H locs ls hP hD hS hl)
theorem zv_iand (K : zv_ok k l D R cc nL own ty) {x y : Int32} (pc2 : Nat) (hd : decode cc pc = .ok (.iand, 1)) (hp : pc + 1 = pc2) (kk : zv k pc2 lv (.int (x &&& y) :: st) ws) : zv k pc lv (.int y :: .int x :: st) ws := by
  subst hp
  obtain ⟨p, l', e, R', s, m, args, below, meth, c, D', A, H0, cells, slots, Q⟩ := k
  obtain ⟨rfl, rfl, rfl, hx, hb, hml, hown, hts, hK, hA, hlk, hcl, hsl⟩ := K
  intro H locs ls hP hD hS hl
  exact lv_iand hx hb hd (kk H locs ls hP hD hS hl)
theorem zv_idiv (K : zv_ok k l D R cc nL own ty) {x y : Int32} (pc2 : Nat) (hd : decode cc pc = .ok (.idiv, 1)) (hp : pc + 1 = pc2) (hne : ¬ y = 0) (kk : zv k pc2 lv (.int (x / y) :: st) ws) : zv k pc lv (.int y :: .int x :: st) ws := by
  subst hp
  obtain ⟨p, l', e, R', s, m, args, below, meth, c, D', A, H0, cells, slots, Q⟩ := k
  obtain ⟨rfl, rfl, rfl, hx, hb, hml, hown, hts, hK, hA, hlk, hcl, hsl⟩ := K
  intro H locs ls hP hD hS hl
  exact lv_idiv hx hb hd hne (kk H locs ls hP hD hS hl)
theorem zv_irem (K : zv_ok k l D R cc nL own ty) {x y : Int32} (pc2 : Nat) (hd : decode cc pc = .ok (.irem, 1)) (hp : pc + 1 = pc2) (hne : ¬ y = 0) (kk : zv k pc2 lv (.int (x - x / y * y) :: st) ws) : zv k pc lv (.int y :: .int x :: st) ws := by
  subst hp
  obtain ⟨p, l', e, R', s, m, args, below, meth, c, D', A, H0, cells, slots, Q⟩ := k
  obtain ⟨rfl, rfl, rfl, hx, hb, hml, hown, hts, hK, hA, hlk, hcl, hsl⟩ := K
  intro H locs ls hP hD hS hl
  exact lv_irem hx hb hd hne (kk H locs ls hP hD hS hl)
theorem zv_dup (K : zv_ok k l D R cc nL own ty) {v : Value} (pc2 : Nat) (hd : decode cc pc = .ok (.dup, 1)) (hp : pc + 1 = pc2) (hv : v.category = 1) (kk : zv k pc2 lv (v :: v :: st) ws) : zv k pc lv (v :: st) ws := by
  subst hp
  obtain ⟨p, l', e, R', s, m, args, below, meth, c, D', A, H0, cells, slots, Q⟩ := k
  obtain ⟨rfl, rfl, rfl, hx, hb, hml, hown, hts, hK, hA, hlk, hcl, hsl⟩ := K
  intro H locs ls hP hD hS hl
  exact lv_dup hx hb hd hv (kk H locs ls hP hD hS hl)
theorem zv_dup2 (K : zv_ok k l D R cc nL own ty) {v u : Value} (pc2 : Nat) (hd : decode cc pc = .ok (.dup2, 1)) (hp : pc + 1 = pc2) (hv : v.category = 1) (hu : u.category = 1) (kk : zv k pc2 lv (v :: u :: v :: u :: st) ws) : zv k pc lv (v :: u :: st) ws := by
  subst hp
  obtain ⟨p, l', e, R', s, m, args, below, meth, c, D', A, H0, cells, slots, Q⟩ := k
  obtain ⟨rfl, rfl, rfl, hx, hb, hml, hown, hts, hK, hA, hlk, hcl, hsl⟩ := K
  intro H locs ls hP hD hS hl
  exact lv_dup2_11 hx hb hd hv hu (kk H locs ls hP hD hS hl)
theorem zv_null (K : zv_ok k l D R cc nL own ty)  (pc2 : Nat) (hd : decode cc pc = .ok (.aconst_null, 1)) (hp : pc + 1 = pc2) (kk : zv k pc2 lv (.null :: st) ws) : zv k pc lv (st) ws := by
  subst hp
  obtain ⟨p, l', e, R', s, m, args, below, meth, c, D', A, H0, cells, slots, Q⟩ := k
  obtain ⟨rfl, rfl, rfl, hx, hb, hml, hown, hts, hK, hA, hlk, hcl, hsl⟩ := K
  intro H locs ls hP hD hS hl
  exact lv_null hx hb hd (kk H locs ls hP hD hS hl)
theorem zv_goto (K : zv_ok k l D R cc nL own ty) {off : Int} (tgt : Nat) (hd : decode cc pc = .ok (.goto off, 3)) (ht : (pc : Int) + off = (tgt : Int)) (kk : zv k tgt lv st ws) : zv k pc lv st ws := by
  obtain ⟨p, l', e, R', s, m, args, below, meth, c, D', A, H0, cells, slots, Q⟩ := k
  obtain ⟨rfl, rfl, rfl, hx, hb, hml, hown, hts, hK, hA, hlk, hcl, hsl⟩ := K
  intro H locs ls hP hD hS hl
  exact lv_goto hx hb hd ht (kk H locs ls hP hD hS hl)
theorem zv_if_eq (K : zv_ok k l D R cc nL own ty) {x : Int32} {off : Int} (tgt pc2 : Nat) (hd : decode cc pc = .ok (.ifCond .eq off, 3)) (ht : (pc : Int) + off = (tgt : Int)) (hp : pc + 3 = pc2) (kt : x = 0 → zv k tgt lv st ws) (kf : ¬ x = 0 → zv k pc2 lv st ws) : zv k pc lv (.int x :: st) ws := by
  subst hp
  obtain ⟨p, l', e, R', s, m, args, below, meth, c, D', A, H0, cells, slots, Q⟩ := k
  obtain ⟨rfl, rfl, rfl, hx, hb, hml, hown, hts, hK, hA, hlk, hcl, hsl⟩ := K
  intro H locs ls hP hD hS hl
  exact lv_if_eq hx hb hd ht (fun h => kt h H locs ls hP hD hS hl) (fun h => kf h H locs ls hP hD hS hl)
theorem zv_icmp_eq (K : zv_ok k l D R cc nL own ty) {x y : Int32} {off : Int} (tgt pc2 : Nat) (hd : decode cc pc = .ok (.if_icmp .eq off, 3)) (ht : (pc : Int) + off = (tgt : Int)) (hp : pc + 3 = pc2) (kt : x = y → zv k tgt lv st ws) (kf : ¬ x = y → zv k pc2 lv st ws) : zv k pc lv (.int y :: .int x :: st) ws := by
  subst hp
  obtain ⟨p, l', e, R', s, m, args, below, meth, c, D', A, H0, cells, slots, Q⟩ := k
  obtain ⟨rfl, rfl, rfl, hx, hb, hml, hown, hts, hK, hA, hlk, hcl, hsl⟩ := K
  intro H locs ls hP hD hS hl
  exact lv_icmp_eq hx hb hd ht (fun h => kt h H locs ls hP hD hS hl) (fun h => kf h H locs ls hP hD hS hl)
theorem zv_if_ne (K : zv_ok k l D R cc nL own ty) {x : Int32} {off : Int} (tgt pc2 : Nat) (hd : decode cc pc = .ok (.ifCond .ne off, 3)) (ht : (pc : Int) + off = (tgt : Int)) (hp : pc + 3 = pc2) (kt : ¬ x = 0 → zv k tgt lv st ws) (kf : x = 0 → zv k pc2 lv st ws) : zv k pc lv (.int x :: st) ws := by
  subst hp
  obtain ⟨p, l', e, R', s, m, args, below, meth, c, D', A, H0, cells, slots, Q⟩ := k
  obtain ⟨rfl, rfl, rfl, hx, hb, hml, hown, hts, hK, hA, hlk, hcl, hsl⟩ := K
  intro H locs ls hP hD hS hl
  exact lv_if_ne hx hb hd ht (fun h => kt h H locs ls hP hD hS hl) (fun h => kf h H locs ls hP hD hS hl)
theorem zv_icmp_ne (K : zv_ok k l D R cc nL own ty) {x y : Int32} {off : Int} (tgt pc2 : Nat) (hd : decode cc pc = .ok (.if_icmp .ne off, 3)) (ht : (pc : Int) + off = (tgt : Int)) (hp : pc + 3 = pc2) (kt : ¬ x = y → zv k tgt lv st ws) (kf : x = y → zv k pc2 lv st ws) : zv k pc lv (.int y :: .int x :: st) ws := by
  subst hp
  obtain ⟨p, l', e, R', s, m, args, below, meth, c, D', A, H0, cells, slots, Q⟩ := k
  obtain ⟨rfl, rfl, rfl, hx, hb, hml, hown, hts, hK, hA, hlk, hcl, hsl⟩ := K
  intro H locs ls hP hD hS hl
  exact lv_icmp_ne hx hb hd ht (fun h => kt h H locs ls hP hD hS hl) (fun h => kf h H locs ls hP hD hS hl)
theorem zv_if_lt (K : zv_ok k l D R cc nL own ty) {x : Int32} {off : Int} (tgt pc2 : Nat) (hd : decode cc pc = .ok (.ifCond .lt off, 3)) (ht : (pc : Int) + off = (tgt : Int)) (hp : pc + 3 = pc2) (kt : x < 0 → zv k tgt lv st ws) (kf : ¬ x < 0 → zv k pc2 lv st ws) : zv k pc lv (.int x :: st) ws := by
  subst hp
  obtain ⟨p, l', e, R', s, m, args, below, meth, c, D', A, H0, cells, slots, Q⟩ := k
  obtain ⟨rfl, rfl, rfl, hx, hb, hml, hown, hts, hK, hA, hlk, hcl, hsl⟩ := K
  intro H locs ls hP hD hS hl
  exact lv_if_lt hx hb hd ht (fun h => kt h H locs ls hP hD hS hl) (fun h => kf h H locs ls hP hD hS hl)
theorem zv_icmp_lt (K : zv_ok k l D R cc nL own ty) {x y : Int32} {off : Int} (tgt pc2 : Nat) (hd : decode cc pc = .ok (.if_icmp .lt off, 3)) (ht : (pc : Int) + off = (tgt : Int)) (hp : pc + 3 = pc2) (kt : x < y → zv k tgt lv st ws) (kf : ¬ x < y → zv k pc2 lv st ws) : zv k pc lv (.int y :: .int x :: st) ws := by
  subst hp
  obtain ⟨p, l', e, R', s, m, args, below, meth, c, D', A, H0, cells, slots, Q⟩ := k
  obtain ⟨rfl, rfl, rfl, hx, hb, hml, hown, hts, hK, hA, hlk, hcl, hsl⟩ := K
  intro H locs ls hP hD hS hl
  exact lv_icmp_lt hx hb hd ht (fun h => kt h H locs ls hP hD hS hl) (fun h => kf h H locs ls hP hD hS hl)
theorem zv_if_ge (K : zv_ok k l D R cc nL own ty) {x : Int32} {off : Int} (tgt pc2 : Nat) (hd : decode cc pc = .ok (.ifCond .ge off, 3)) (ht : (pc : Int) + off = (tgt : Int)) (hp : pc + 3 = pc2) (kt : 0 ≤ x → zv k tgt lv st ws) (kf : ¬ 0 ≤ x → zv k pc2 lv st ws) : zv k pc lv (.int x :: st) ws := by
  subst hp
  obtain ⟨p, l', e, R', s, m, args, below, meth, c, D', A, H0, cells, slots, Q⟩ := k
  obtain ⟨rfl, rfl, rfl, hx, hb, hml, hown, hts, hK, hA, hlk, hcl, hsl⟩ := K
  intro H locs ls hP hD hS hl
  exact lv_if_ge hx hb hd ht (fun h => kt h H locs ls hP hD hS hl) (fun h => kf h H locs ls hP hD hS hl)
theorem zv_icmp_ge (K : zv_ok k l D R cc nL own ty) {x y : Int32} {off : Int} (tgt pc2 : Nat) (hd : decode cc pc = .ok (.if_icmp .ge off, 3)) (ht : (pc : Int) + off = (tgt : Int)) (hp : pc + 3 = pc2) (kt : y ≤ x → zv k tgt lv st ws) (kf : ¬ y ≤ x → zv k pc2 lv st ws) : zv k pc lv (.int y :: .int x :: st) ws := by
  subst hp
  obtain ⟨p, l', e, R', s, m, args, below, meth, c, D', A, H0, cells, slots, Q⟩ := k
  obtain ⟨rfl, rfl, rfl, hx, hb, hml, hown, hts, hK, hA, hlk, hcl, hsl⟩ := K
  intro H locs ls hP hD hS hl
  exact lv_icmp_ge hx hb hd ht (fun h => kt h H locs ls hP hD hS hl) (fun h => kf h H locs ls hP hD hS hl)
theorem zv_if_gt (K : zv_ok k l D R cc nL own ty) {x : Int32} {off : Int} (tgt pc2 : Nat) (hd : decode cc pc = .ok (.ifCond .gt off, 3)) (ht : (pc : Int) + off = (tgt : Int)) (hp : pc + 3 = pc2) (kt : 0 < x → zv k tgt lv st ws) (kf : ¬ 0 < x → zv k pc2 lv st ws) : zv k pc lv (.int x :: st) ws := by
  subst hp
  obtain ⟨p, l', e, R', s, m, args, below, meth, c, D', A, H0, cells, slots, Q⟩ := k
  obtain ⟨rfl, rfl, rfl, hx, hb, hml, hown, hts, hK, hA, hlk, hcl, hsl⟩ := K
  intro H locs ls hP hD hS hl
  exact lv_if_gt hx hb hd ht (fun h => kt h H locs ls hP hD hS hl) (fun h => kf h H locs ls hP hD hS hl)
theorem zv_icmp_gt (K : zv_ok k l D R cc nL own ty) {x y : Int32} {off : Int} (tgt pc2 : Nat) (hd : decode cc pc = .ok (.if_icmp .gt off, 3)) (ht : (pc : Int) + off = (tgt : Int)) (hp : pc + 3 = pc2) (kt : y < x → zv k tgt lv st ws) (kf : ¬ y < x → zv k pc2 lv st ws) : zv k pc lv (.int y :: .int x :: st) ws := by
  subst hp
  obtain ⟨p, l', e, R', s, m, args, below, meth, c, D', A, H0, cells, slots, Q⟩ := k
  obtain ⟨rfl, rfl, rfl, hx, hb, hml, hown, hts, hK, hA, hlk, hcl, hsl⟩ := K
  intro H locs ls hP hD hS hl
  exact lv_icmp_gt hx hb hd ht (fun h => kt h H locs ls hP hD hS hl) (fun h => kf h H locs ls hP hD hS hl)
theorem zv_if_le (K : zv_ok k l D R cc nL own ty) {x : Int32} {off : Int} (tgt pc2 : Nat) (hd : decode cc pc = .ok (.ifCond .le off, 3)) (ht : (pc : Int) + off = (tgt : Int)) (hp : pc + 3 = pc2) (kt : x ≤ 0 → zv k tgt lv st ws) (kf : ¬ x ≤ 0 → zv k pc2 lv st ws) : zv k pc lv (.int x :: st) ws := by
  subst hp
  obtain ⟨p, l', e, R', s, m, args, below, meth, c, D', A, H0, cells, slots, Q⟩ := k
  obtain ⟨rfl, rfl, rfl, hx, hb, hml, hown, hts, hK, hA, hlk, hcl, hsl⟩ := K
  intro H locs ls hP hD hS hl
  exact lv_if_le hx hb hd ht (fun h => kt h H locs ls hP hD hS hl) (fun h => kf h H locs ls hP hD hS hl)
theorem zv_icmp_le (K : zv_ok k l D R cc nL own ty) {x y : Int32} {off : Int} (tgt pc2 : Nat) (hd : decode cc pc = .ok (.if_icmp .le off, 3)) (ht : (pc : Int) + off = (tgt : Int)) (hp : pc + 3 = pc2) (kt : x ≤ y → zv k tgt lv st ws) (kf : ¬ x ≤ y → zv k pc2 lv st ws) : zv k pc lv (.int y :: .int x :: st) ws := by
  subst hp
  obtain ⟨p, l', e, R', s, m, args, below, meth, c, D', A, H0, cells, slots, Q⟩ := k
  obtain ⟨rfl, rfl, rfl, hx, hb, hml, hown, hts, hK, hA, hlk, hcl, hsl⟩ := K
  intro H locs ls hP hD hS hl
  exact lv_icmp_le hx hb hd ht (fun h => kt h H locs ls hP hD hS hl) (fun h => kf h H locs ls hP hD hS hl)
theorem zv_ifnonnull (K : zv_ok k l D R cc nL own ty) {x : Nat} {off : Int} (tgt : Nat) (hd : decode cc pc = .ok (.ifnonnull off, 3)) (ht : (pc : Int) + off = (tgt : Int)) (kk : zv k tgt lv st ws) : zv k pc lv (.ref x :: st) ws := by
  obtain ⟨p, l', e, R', s, m, args, below, meth, c, D', A, H0, cells, slots, Q⟩ := k
  obtain ⟨rfl, rfl, rfl, hx, hb, hml, hown, hts, hK, hA, hlk, hcl, hsl⟩ := K
  intro H locs ls hP hD hS hl
  exact lv_ifnonnull hx hb hd ht (kk H locs ls hP hD hS hl)
theorem zv_ifnonnullN (K : zv_ok k l D R cc nL own ty) {off : Int} (pc2 : Nat) (hd : decode cc pc = .ok (.ifnonnull off, 3)) (hp : pc + 3 = pc2) (kk : zv k pc2 lv st ws) : zv k pc lv (.null :: st) ws := by
  subst hp
  obtain ⟨p, l', e, R', s, m, args, below, meth, c, D', A, H0, cells, slots, Q⟩ := k
  obtain ⟨rfl, rfl, rfl, hx, hb, hml, hown, hts, hK, hA, hlk, hcl, hsl⟩ := K
  intro H locs ls hP hD hS hl
  exact lv_ifnonnullN hx hb hd (kk H locs ls hP hD hS hl)
theorem zv_ifnull (K : zv_ok k l D R cc nL own ty) {x : Nat} {off : Int} (pc2 : Nat) (hd : decode cc pc = .ok (.ifnull off, 3)) (hp : pc + 3 = pc2) (kk : zv k pc2 lv st ws) : zv k pc lv (.ref x :: st) ws := by
  subst hp
  obtain ⟨p, l', e, R', s, m, args, below, meth, c, D', A, H0, cells, slots, Q⟩ := k
  obtain ⟨rfl, rfl, rfl, hx, hb, hml, hown, hts, hK, hA, hlk, hcl, hsl⟩ := K
  intro H locs ls hP hD hS hl
  exact lv_ifnull hx hb hd (kk H locs ls hP hD hS hl)
theorem zv_ifnullN (K : zv_ok k l D R cc nL own ty) {off : Int} (tgt : Nat) (hd : decode cc pc = .ok (.ifnull off, 3)) (ht : (pc : Int) + off = (tgt : Int)) (kk : zv k tgt lv st ws) : zv k pc lv (.null :: st) ws := by
  obtain ⟨p, l', e, R', s, m, args, below, meth, c, D', A, H0, cells, slots, Q⟩ := k
  obtain ⟨rfl, rfl, rfl, hx, hb, hml, hown, hts, hK, hA, hlk, hcl, hsl⟩ := K
  intro H locs ls hP hD hS hl
  exact lv_ifnullN hx hb hd ht (kk H locs ls hP hD hS hl)
theorem zv_lookup (K : zv_ok k l D R cc nL own ty) {dflt : Int} {ps : Array (Int × Int)} {len : Nat} {x : Int32} {off : Int} (tgt : Nat) (hd : decode cc pc = .ok (.lookupswitch dflt ps, len)) (hq : (ps.toList.zip (ps.toList.drop 1)).all (fun (a, next) => a.1 < next.1) = true) (ho : Op.lookupswitch.offset ps.toList dflt x.toInt = off) (ht : (pc : Int) + off = (tgt : Int)) (kk : zv k tgt lv st ws) : zv k pc lv (.int x :: st) ws := by
  obtain ⟨p, l', e, R', s, m, args, below, meth, c, D', A, H0, cells, slots, Q⟩ := k
  obtain ⟨rfl, rfl, rfl, hx, hb, hml, hown, hts, hK, hA, hlk, hcl, hsl⟩ := K
  intro H locs ls hP hD hS hl
  exact lv_lookup hx hb hd hq ho ht (kk H locs ls hP hD hS hl)
theorem zv_tableOut (K : zv_ok k l D R cc nL own ty) {dflt lo hi : Int} {offs : Array Int} {len : Nat} {x : Int32} (tgt : Nat) (hd : decode cc pc = .ok (.tableswitch dflt lo hi offs, len)) (h : x.toInt < lo ∨ hi < x.toInt) (ht : (pc : Int) + dflt = (tgt : Int)) (kk : zv k tgt lv st ws) : zv k pc lv (.int x :: st) ws := by
  obtain ⟨p, l', e, R', s, m, args, below, meth, c, D', A, H0, cells, slots, Q⟩ := k
  obtain ⟨rfl, rfl, rfl, hx, hb, hml, hown, hts, hK, hA, hlk, hcl, hsl⟩ := K
  intro H locs ls hP hD hS hl
  exact lv_tableOut hx hb hd h ht (kk H locs ls hP hD hS hl)
theorem zv_tableIn (K : zv_ok k l D R cc nL own ty) {dflt lo hi : Int} {offs : Array Int} {len : Nat} {x : Int32} {off : Int} (tgt : Nat) (hd : decode cc pc = .ok (.tableswitch dflt lo hi offs, len)) (h1 : ¬ x.toInt < lo) (h2 : ¬ hi < x.toInt) (ho : offs[(x.toInt - lo).toNat]? = some off) (ht : (pc : Int) + off = (tgt : Int)) (kk : zv k tgt lv st ws) : zv k pc lv (.int x :: st) ws := by
  obtain ⟨p, l', e, R', s, m, args, below, meth, c, D', A, H0, cells, slots, Q⟩ := k
  obtain ⟨rfl, rfl, rfl, hx, hb, hml, hown, hts, hK, hA, hlk, hcl, hsl⟩ := K
  intro H locs ls hP hD hS hl
  exact lv_tableIn hx hb hd h1 h2 ho ht (kk H locs ls hP hD hS hl)
theorem zv_get (K : zv_ok k l D R cc nL own ty) {C : String} {T : u_T} {N ci idx : Nat} {a : Nat} {fs : List Value} {v : Value} (q0 f pc2 : Nat) (hd : decode cc pc = .ok (.getfield idx, 3)) (hp : pc + 3 = pc2) (hin : ∀ w ∈ u_ws C T N, w ∈ zT) (he : ws[q0]? = some (a, .inr (ci, fs))) (hc : vwCl[ci]? = some (C, T, N)) (hf : f < N) (hlk2 : Cond.fieldLink own idx (T f).1 (T f).2.1 (T f).2.2.1 ∈ zT) (hv : fs[f]? = some v) (kk : zv k pc2 lv (v :: st) ws) : zv k pc lv (.ref a :: st) ws := by
  subst hp
  obtain ⟨p, l', e, R', s, m, args, below, meth, c, D', A, H0, cells, slots, Q⟩ := k
  obtain ⟨rfl, rfl, rfl, hx, hb, hml, hown, hts, hK, hA, hlk, hcl, hsl⟩ := K
  intro H locs ls hP hD hS hl
  exact va_get hx hb hts hin hown hK.1 hP q0 he hc f hf (hts _ hlk2) (fun _ h9 => h9) hv hd (kk H locs ls hP hD hS hl)
theorem zv_getN (K : zv_ok k l D R cc nL own ty) {host : String} {C : String} {T : u_T} {N ci idx : Nat} {a : Nat} {fs : List Value} {v : Value} (q0 f pc2 : Nat) (hd : decode cc pc = .ok (.getfield idx, 3)) (hp : pc + 3 = pc2) (hin : ∀ w ∈ u_ws C T N, w ∈ zT) (he : ws[q0]? = some (a, .inr (ci, fs))) (hc : vwCl[ci]? = some (C, T, N)) (hf : f < N) (hlk2 : Cond.fieldLinkNest own idx (T f).1 (T f).2.1 (T f).2.2.1 host ∈ zv_nest) (hv : fs[f]? = some v) (kk : zv k pc2 lv (v :: st) ws) : zv k pc lv (.ref a :: st) ws := by
  subst hp
  obtain ⟨p, l', e, R', s, m, args, below, meth, c, D', A, H0, cells, slots, Q⟩ := k
  obtain ⟨rfl, rfl, rfl, hx, hb, hml, hown, hts, hK, hA, hlk, hcl, hsl⟩ := K
  intro H locs ls hP hD hS hl
  exact va_getN hx hb hts hin hown hK.1 hP q0 he hc f hf (va_Nw.use rfl (hK.2 _ hlk2)) (fun _ h9 => h9) hv hd (kk H locs ls hP hD hS hl)
theorem zv_put (K : zv_ok k l D R cc nL own ty) {C : String} {T : u_T} {N ci idx : Nat} {a : Nat} {fs : List Value} {v : Value} (q0 f pc2 : Nat) (ws2 : va_W) {t0 : FieldType} {t1 : Nat → FieldType} (hd : decode cc pc = .ok (.putfield idx, 3)) (hp : pc + 3 = pc2) (hin : ∀ w ∈ u_ws C T N, w ∈ zT) (hty : ∀ k, k < N → parseFieldDescriptor (T k).2.2.1 = some (t1 k)) (hnm : ∀ a, a < N → ∀ b, b < N → a ≠ b → (T a).2.1 ≠ (T b).2.1) (he : ws[q0]? = some (a, .inr (ci, fs))) (hc : vwCl[ci]? = some (C, T, N)) (hf : f < N) (hlk2 : Cond.fieldLink own idx (T f).1 (T f).2.1 (T f).2.2.1 ∈ zT) (hfin : (T f).2.2.2 = false) (ht0 : parseFieldDescriptor (T f).2.2.1 = some t0) (hn : narrow t0 v = v) (hfit : fits t0 v = true) (hfl : f < fs.length) (hw2 : ws.set q0 (a, .inr (ci, fs.set f v)) = ws2) (kk : zv k pc2 lv st ws2) : zv k pc lv (v :: .ref a :: st) ws := by
  subst hp
  subst hw2
  obtain ⟨p, l', e, R', s, m, args, below, meth, c, D', A, H0, cells, slots, Q⟩ := k
  obtain ⟨rfl, rfl, rfl, hx, hb, hml, hown, hts, hK, hA, hlk, hcl, hsl⟩ := K
  intro H locs ls hP hD hS hl
  exact va_put hx hb hts hin t1 hty hnm hown hK.1 hP hD hS q0 he hc f hf (hts _ hlk2) (fun _ h9 => h9) hfin ht0 hn hfit hfl hd (fun H1 locs1 hP1 hD1 hS1 => kk H1 locs1 ls hP1 hD1 hS1 hl)
theorem zv_putN (K : zv_ok k l D R cc nL own ty) {host : String} {C : String} {T : u_T} {N ci idx : Nat} {a : Nat} {fs : List Value} {v : Value} (q0 f pc2 : Nat) (ws2 : va_W) {t0 : FieldType} {t1 : Nat → FieldType} (hd : decode cc pc = .ok (.putfield idx, 3)) (hp : pc + 3 = pc2) (hin : ∀ w ∈ u_ws C T N, w ∈ zT) (hty : ∀ k, k < N → parseFieldDescriptor (T k).2.2.1 = some (t1 k)) (hnm : ∀ a, a < N → ∀ b, b < N → a ≠ b → (T a).2.1 ≠ (T b).2.1) (he : ws[q0]? = some (a, .inr (ci, fs))) (hc : vwCl[ci]? = some (C, T, N)) (hf : f < N) (hlk2 : Cond.fieldLinkNest own idx (T f).1 (T f).2.1 (T f).2.2.1 host ∈ zv_nest) (hfin : (T f).2.2.2 = false) (ht0 : parseFieldDescriptor (T f).2.2.1 = some t0) (hn : narrow t0 v = v) (hfit : fits t0 v = true) (hfl : f < fs.length) (hw2 : ws.set q0 (a, .inr (ci, fs.set f v)) = ws2) (kk : zv k pc2 lv st ws2) : zv k pc lv (v :: .ref a :: st) ws := by
  subst hp
  subst hw2
  obtain ⟨p, l', e, R', s, m, args, below, meth, c, D', A, H0, cells, slots, Q⟩ := k
  obtain ⟨rfl, rfl, rfl, hx, hb, hml, hown, hts, hK, hA, hlk, hcl, hsl⟩ := K
  intro H locs ls hP hD hS hl
  exact va_putN hx hb hts hin t1 hty hnm hown hK.1 hP hD hS q0 he hc f hf (va_Nw.use rfl (hK.2 _ hlk2)) (fun _ h9 => h9) hfin ht0 hn hfit hfl hd (fun H1 locs1 hP1 hD1 hS1 => kk H1 locs1 ls hP1 hD1 hS1 hl)
theorem zv_ix {x : Int32} {i n : Nat} (hi : x = nI i) (h : i < n) (hn : n < 2 ^ 31) : vp_in x n ∧ x.toNatClampNeg = i := by
  subst hi
  exact ⟨vp_in_nI h hn, nI_clamp (Nat.lt_trans h hn)⟩
theorem zv_iald (K : zv_ok k l D R cc nL own ty) {a n : Nat} {F : Nat → Int32} {x : Int32} (q0 i pc2 : Nat) (hd : decode cc pc = .ok (.iaload, 1)) (hp : pc + 1 = pc2) (ha : ws[q0]? = some (a, .inl (ty.1, n, .inl F))) (hi : x = nI i) (hlt : i < n) (hn : n < 2 ^ 31) (kk : zv k pc2 lv (.int (F i) :: st) ws) : zv k pc lv (.int x :: .ref a :: st) ws := by
  subst hp
  obtain ⟨h1, h2⟩ := zv_ix hi hlt hn
  obtain ⟨p, l', e, R', s, m, args, below, meth, c, D', A, H0, cells, slots, Q⟩ := k
  obtain ⟨rfl, rfl, rfl, hx, hb, hml, hown, hts, hK, hA, hlk, hcl, hsl⟩ := K
  intro H locs ls hP hD hS hl
  exact va_iald hx hb hK.1 hP q0 0 ha rfl h1 hd (by rw [h2]; exact kk H locs ls hP hD hS hl)
theorem zv_zald (K : zv_ok k l D R cc nL own ty) {a n : Nat} {F : Nat → Int32} {x : Int32} (q0 i pc2 : Nat) (hd : decode cc pc = .ok (.baload, 1)) (hp : pc + 1 = pc2) (ha : ws[q0]? = some (a, .inl (ty.2.1, n, .inl F))) (hi : x = nI i) (hlt : i < n) (hn : n < 2 ^ 31) (kk : zv k pc2 lv (.int (F i) :: st) ws) : zv k pc lv (.int x :: .ref a :: st) ws := by
  subst hp
  obtain ⟨h1, h2⟩ := zv_ix hi hlt hn
  obtain ⟨p, l', e, R', s, m, args, below, meth, c, D', A, H0, cells, slots, Q⟩ := k
  obtain ⟨rfl, rfl, rfl, hx, hb, hml, hown, hts, hK, hA, hlk, hcl, hsl⟩ := K
  intro H locs ls hP hD hS hl
  exact va_zald hx hb hK.1 hP q0 1 ha rfl h1 hd (by rw [h2]; exact kk H locs ls hP hD hS hl)
theorem zv_aald (K : zv_ok k l D R cc nL own ty) {a n : Nat} {F : Nat → Option Nat} {x : Int32} (q0 i pc2 : Nat) {b : Nat} (hd : decode cc pc = .ok (.aaload, 1)) (hp : pc + 1 = pc2) (ha : ws[q0]? = some (a, .inl (ty.2.2, n, .inr (.inr (.inr (.inr F)))))) (hi : x = nI i) (hlt : i < n) (hn : n < 2 ^ 31) (hF : F i = some b) (kk : zv k pc2 lv (.ref b :: st) ws) : zv k pc lv (.int x :: .ref a :: st) ws := by
  subst hp
  obtain ⟨h1, h2⟩ := zv_ix hi hlt hn
  obtain ⟨p, l', e, R', s, m, args, below, meth, c, D', A, H0, cells, slots, Q⟩ := k
  obtain ⟨rfl, rfl, rfl, hx, hb, hml, hown, hts, hK, hA, hlk, hcl, hsl⟩ := K
  intro H locs ls hP hD hS hl
  exact va_aldq hx hb hK.1 hP q0 2 ha rfl h1 hd (by rw [h2, hF]; exact kk H locs ls hP hD hS hl)
theorem zv_iast (K : zv_ok k l D R cc nL own ty) {a n : Nat} {F : Nat → Int32} {x z : Int32} (q0 i pc2 : Nat) (ws2 : va_W) (hd : decode cc pc = .ok (.iastore, 1)) (hp : pc + 1 = pc2) (ha : ws[q0]? = some (a, .inl (ty.1, n, .inl F))) (hi : x = nI i) (hlt : i < n) (hn : n < 2 ^ 31) (hw2 : ws.set q0 (a, .inl (ty.1, n, .inl (upd F i z))) = ws2) (kk : zv k pc2 lv st ws2) : zv k pc lv (.int z :: .int x :: .ref a :: st) ws := by
  subst hp
  obtain ⟨h1, h2⟩ := zv_ix hi hlt hn
  subst hw2
  obtain ⟨p, l', e, R', s, m, args, below, meth, c, D', A, H0, cells, slots, Q⟩ := k
  obtain ⟨rfl, rfl, rfl, hx, hb, hml, hown, hts, hK, hA, hlk, hcl, hsl⟩ := K
  intro H locs ls hP hD hS hl
  refine va_iast hx hb hK.1 hP hD hS q0 0 ha rfl h1 hd (fun H1 locs1 hP1 hD1 hS1 => ?_)
  rw [h2] at hP1 hD1
  exact kk H1 locs1 ls hP1 hD1 hS1 hl
theorem zv_zast (K : zv_ok k l D R cc nL own ty) {a n : Nat} {F : Nat → Int32} {x z : Int32} (q0 i pc2 : Nat) (ws2 : va_W) (hd : decode cc pc = .ok (.bastore, 1)) (hp : pc + 1 = pc2) (ha : ws[q0]? = some (a, .inl (ty.2.1, n, .inl F))) (hi : x = nI i) (hlt : i < n) (hn : n < 2 ^ 31) (hz : vp_nar .boolean z = z) (hw2 : ws.set q0 (a, .inl (ty.2.1, n, .inl (upd F i z))) = ws2) (kk : zv k pc2 lv st ws2) : zv k pc lv (.int z :: .int x :: .ref a :: st) ws := by
  subst hp
  obtain ⟨h1, h2⟩ := zv_ix hi hlt hn
  subst hw2
  obtain ⟨p, l', e, R', s, m, args, below, meth, c, D', A, H0, cells, slots, Q⟩ := k
  obtain ⟨rfl, rfl, rfl, hx, hb, hml, hown, hts, hK, hA, hlk, hcl, hsl⟩ := K
  intro H locs ls hP hD hS hl
  refine va_zast hx hb hK.1 hP hD hS q0 1 ha rfl h1 hd (fun H1 locs1 hP1 hD1 hS1 => ?_)
  rw [h2, hz] at hP1 hD1
  exact kk H1 locs1 ls hP1 hD1 hS1 hl
theorem zv_alen (K : zv_ok k l D R cc nL own ty) {a n : Nat} {F : Nat → Int32} (q0 pc2 : Nat) (v : Int32) (hd : decode cc pc = .ok (.arraylength, 1)) (hp : pc + 1 = pc2) (ha : ws[q0]? = some (a, .inl (ty.1, n, .inl F))) (hv : Int32.ofNat n = v) (kk : zv k pc2 lv (.int v :: st) ws) : zv k pc lv (.ref a :: st) ws := by
  subst hp
  obtain ⟨p, l', e, R', s, m, args, below, meth, c, D', A, H0, cells, slots, Q⟩ := k
  obtain ⟨rfl, rfl, rfl, hx, hb, hml, hown, hts, hK, hA, hlk, hcl, hsl⟩ := K
  intro H locs ls hP hD hS hl
  exact va_alen hx hb hK.1 hP q0 0 ha rfl hv hd (kk H locs ls hP hD hS hl)
variable {post : Option Value → va_W → Prop}
theorem zv_iret (K : zv_ok k l D R cc nL own ty) (T : zv_rt k (some .int) post) {v : Int32} (hd : decode cc pc = .ok (.ireturn, 1)) (hp : post (some (.int v)) ws) : zv k pc lv [.int v] ws := by
  obtain ⟨p, l', e, R', s, m, args, below, meth, c, D', A, H0, cells, slots, Q⟩ := k
  obtain ⟨rfl, rfl, rfl, hx, hb, hml, hown, hts, hK, hA, hlk, hcl, hsl⟩ := K
  obtain ⟨hr, rfl, rfl⟩ := T
  intro H locs ls hP hD hS hl
  exact W.iret hx hb hr (fun t ht hW => ⟨⟨_, ws, rfl, hp, by rw [ht]; exact hP, hD⟩, hS.F ht⟩) hS.2.2 hd hlk
theorem zv_zret (K : zv_ok k l D R cc nL own ty) (T : zv_rt k (some .boolean) post) {v : Int32} (hd : decode cc pc = .ok (.ireturn, 1)) (hn : narrow .boolean (.int v) = .int v) (hp : post (some (.int v)) ws) : zv k pc lv [.int v] ws := by
  obtain ⟨p, l', e, R', s, m, args, below, meth, c, D', A, H0, cells, slots, Q⟩ := k
  obtain ⟨rfl, rfl, rfl, hx, hb, hml, hown, hts, hK, hA, hlk, hcl, hsl⟩ := K
  obtain ⟨hr, rfl, rfl⟩ := T
  intro H locs ls hP hD hS hl
  exact W.zret hx hb hr hn (fun t ht hW => ⟨⟨_, ws, rfl, hp, by rw [ht]; exact hP, hD⟩, hS.F ht⟩) hS.2.2 hd hlk
theorem zv_vret (K : zv_ok k l D R cc nL own ty) (T : zv_rt k none post) (hd : decode cc pc = .ok (.return_, 1)) (hp : post none ws) : zv k pc lv [] ws := by
  obtain ⟨p, l', e, R', s, m, args, below, meth, c, D', A, H0, cells, slots, Q⟩ := k
  obtain ⟨rfl, rfl, rfl, hx, hb, hml, hown, hts, hK, hA, hlk, hcl, hsl⟩ := K
  obtain ⟨hr, rfl, rfl⟩ := T
  intro H locs ls hP hD hS hl
  exact W.vret hx hb hr (fun t ht hW => ⟨⟨_, ws, rfl, hp, by rw [ht]; exact hP, hD⟩, hS.F ht⟩) hS.2.2 hd hlk
theorem zv_aret (K : zv_ok k l D R cc nL own ty) {C : String} (T : zv_rt k (some (.object C)) post) {v : Value} (hd : decode cc pc = .ok (.areturn, 1)) (hv : v = .null ∨ ∃ a, v = .ref a) (hp : post (some v) ws) : zv k pc lv [v] ws := by
  obtain ⟨p, l', e, R', s, m, args, below, meth, c, D', A, H0, cells, slots, Q⟩ := k
  obtain ⟨rfl, rfl, rfl, hx, hb, hml, hown, hts, hK, hA, hlk, hcl, hsl⟩ := K
  obtain ⟨hr, rfl, rfl⟩ := T
  intro H locs ls hP hD hS hl
  exact W.aret hx hb hr (Or.inl ⟨_, rfl⟩) hv (fun t ht hW => ⟨⟨_, ws, rfl, hp, by rw [ht]; exact hP, hD⟩, hS.F ht⟩) hS.2.2 hd hlk
theorem zv_A {A : Nat → Prop} {H0 H : Heap} {locs : List Loc} {w : va_W} (hD : va_D A w) (hS : va_S A H0 H locs) (hA : ∀ q, H0.size ≤ q → A q) : ∀ q, va_A w H.size q → A q := by
  intro q h
  rcases h with ⟨i, e, h⟩ | h
  · exact hD.2 i (q, e) h
  · exact hA q (Nat.le_trans hS.1 h)
theorem zv_after {p : Program} {l : Launch} {e : Env} {R : Room} {s : State} {m : MethodId} {args : Array Value} {below : List Frame} {meth : Method} {c : Code} {H : Heap} {locs : List Loc} {cells slots : Nat} {Q : State → Prop} {D : va_G} {A : Nat → Prop} {H0 : Heap} {ls : Array Slot} {st0 rest : List Value} {a : Array Value} {w : va_W} (hl : zv_l ls lv) (hD : va_D A w) (hS : va_S A H0 H locs) (hA : ∀ q, H0.size ≤ q → A q)
    (hr : va_Run p l e R s m args below meth c H locs cells slots 0 0 (F0 m pc ls st0) rest (zv_qc D post (va_A w H.size) a) (va_A w H.size))
    (kk : ∀ (v : Option Value) (w' : va_W), post v w' → zv (p, l, e, R, s, m, args, below, meth, c, D, A, H0, cells, slots, Q) (pc + 3) lv (v.toList ++ rest) w') : W p l e R s m args below meth c H locs cells slots Q (F0 m pc ls st0) := by
  intro T hT X
  obtain ⟨v, st₀, t, T', L, h0, X', hL, e1, e2, ⟨⟨v', w', hv, hp, hP', hD'⟩, hz, hk⟩, st⟩ := hr T hT X
  cases hv
  rw [h0] at hz hk
  have hF := zv_A hD hS hA
  obtain ⟨t2, a1, b1⟩ := kk v w' hp T'.heap (locs ++ L) ls (by rw [e1]; exact hP') (hD'.weaken (fun _ _ _ h => hF _ h))
    ⟨Nat.le_trans hS.1 (by rw [e1]; exact hz), fun q h1 h2 => by rw [e1, hk q (Nat.lt_of_lt_of_le h1 hS.1) (fun z => h2 (hF q z))]; exact hS.2.1 q h1 h2, fun q hq => by
      rcases List.mem_append.mp hq with h | h
      · exact hS.2.2 q h
      · exact hF _ (hL q h)⟩ hl T' rfl X'
  exact ⟨t2, st t2 a1, b1⟩
theorem zv_cV (K : zv_ok k l D R cc nL own ty) {y : MethodName} {bytes : ByteArray} {maxL idx : Nat} {ret : Option FieldType} {rm : Room} {b ci q0 : Nat} {C : String} {T : u_T} {N : Nat} {fs : List Value} {As rest : List Value} (n pc2 : Nat) (hM : zv_ct l D ty y bytes maxL ret rm (.ref b :: As) ws post) (hd : decode cc pc = .ok (.invokevirtual idx, 3)) (hp : pc + 3 = pc2) (w1 : Cond.methodLink own idx y ∈ zT) (w2 : Cond.instanceMethod y ∈ zT) (w3 : Cond.selects C y y ∈ zT) (w4 : Cond.initialized C ∈ zT) (w5 : Cond.code y bytes maxL ret ∈ zT) (hrm : rm.cells = 0 ∧ rm.slots = 0) (hy : y.cls = C ∧ y.cls ≠ "java/lang/invoke/MethodHandle" ∧ y.cls ≠ "java/lang/invoke/VarHandle" ∧ (parseMethodDescriptor y.desc).map (fun d => d.parameters.length) = some n) (hR : rm.frames + 1 ≤ R.frames ∧ 8 + (maxL + 11) + rm.locals ≤ R.locals) (he : ws[q0]? = some (b, .inr (ci, fs))) (hc : vwCl[ci]? = some (C, T, N)) (hn : As.length = n) (hst : As.reverse ++ .ref b :: rest = st) (hcat : (rest.map fun v => v.category).sum ≤ 8) (hlen : lv.length = nL)
    (kk : ∀ (v : Option Value) (w' : va_W), post v w' → zv k pc2 lv (v.toList ++ rest) w') : zv k pc lv st ws := by
  subst hp
  subst hst
  obtain ⟨p, l', e, R', s, m, args, below, meth, c, D', A, H0, cells, slots, Q⟩ := k
  obtain ⟨rfl, rfl, rfl, hx, hb, hml, hown, hts, hK, hA, hlk, hcl, hsl⟩ := K
  intro H locs ls hP hD hS hl
  have hG : GoodIn zT (wsV own idx C y (Cond.code y bytes maxL ret :: zT)) := by
    intro w hw
    have hm : w ∈ zT := by
      simp only [wsV, List.mem_append, List.mem_cons, List.not_mem_nil, or_false] at hw
      rcases hw with (rfl | rfl | rfl | rfl) | rfl | h <;> assumption
    exact ⟨hm, zT_good _ hm⟩
  refine zv_after hl hD hS hA (va_runV (As := As) (rest := rest) ⟨hx, hb, hml, hown, hts⟩ (hM H.size) (cwV n hts hG rfl hrm.1 hrm.2 hy hR) ⟨zv_blind, va_recv hK.1 hP hc he, fun U hU hW => ⟨rfl, by rw [hU], by rw [hU]; exact hP, hK.warm hW, hD.weaken (fun _ _ _ _ => trivial)⟩⟩ rfl hn (hl.1.trans hlen) rfl (lv_room hcat) hd ⟨hcl, hsl⟩) kk
theorem zv_cS (K : zv_ok k l D R cc nL own ty) {y : MethodName} {bytes : ByteArray} {maxL idx : Nat} {ret : Option FieldType} {rm : Room} {As rest : List Value} (n pc2 : Nat) (hM : zv_ct l D ty y bytes maxL ret rm As ws post) (hd : decode cc pc = .ok (.invokestatic idx, 3)) (hp : pc + 3 = pc2) (w1 : Cond.methodLink own idx y ∈ zT) (w2 : Cond.static y ∈ zT) (w4 : Cond.initialized y.cls ∈ zT) (w5 : Cond.code y bytes maxL ret ∈ zT) (hrm : rm.cells = 0 ∧ rm.slots = 0) (hy : y.cls ≠ "java/lang/invoke/MethodHandle" ∧ y.cls ≠ "java/lang/invoke/VarHandle" ∧ (parseMethodDescriptor y.desc).map (fun d => d.parameters.length) = some n) (hR : rm.frames + 1 ≤ R.frames ∧ 8 + (maxL + 11) + rm.locals ≤ R.locals) (hn : As.length = n) (hst : As.reverse ++ rest = st) (hcat : (rest.map fun v => v.category).sum ≤ 8) (hlen : lv.length = nL)
    (kk : ∀ (v : Option Value) (w' : va_W), post v w' → zv k pc2 lv (v.toList ++ rest) w') : zv k pc lv st ws := by
  subst hp
  subst hst
  obtain ⟨p, l', e, R', s, m, args, below, meth, c, D', A, H0, cells, slots, Q⟩ := k
  obtain ⟨rfl, rfl, rfl, hx, hb, hml, hown, hts, hK, hA, hlk, hcl, hsl⟩ := K
  intro H locs ls hP hD hS hl
  have hG : GoodIn zT (va_wsS own idx y (Cond.code y bytes maxL ret :: zT)) := by
    intro w hw
    have hm : w ∈ zT := by
      simp only [va_wsS, List.mem_append, List.mem_cons, List.not_mem_nil, or_false] at hw
      rcases hw with (rfl | rfl | rfl) | rfl | h <;> assumption
    exact ⟨hm, zT_good _ hm⟩
  refine zv_after hl hD hS hA (va_runS (As := As) (rest := rest) ⟨hx, hb, hml, hown, hts⟩ (hM H.size) (va_cwS n hts hG rfl hrm.1 hrm.2 hy hR) ⟨zv_blind, fun U hU hW => ⟨rfl, by rw [hU], by rw [hU]; exact hP, hK.warm hW, hD.weaken (fun _ _ _ _ => trivial)⟩⟩ rfl hn (hl.1.trans hlen) rfl (lv_room hcat) hd ⟨hcl, hsl⟩) kk
theorem zv_cSN (K : zv_ok k l D R cc nL own ty) {y : MethodName} {bytes : ByteArray} {maxL idx : Nat} {ret : Option FieldType} {rm : Room} {host : String} {As rest : List Value} (n pc2 : Nat) (hM : zv_ct l D ty y bytes maxL ret rm As ws post) (hd : decode cc pc = .ok (.invokestatic idx, 3)) (hp : pc + 3 = pc2) (w1 : Cond.methodLinkNest own idx y host ∈ zv_nest) (w2 : Cond.static y ∈ zT) (w4 : Cond.initialized y.cls ∈ zT) (w5 : Cond.code y bytes maxL ret ∈ zT) (hrm : rm.cells = 0 ∧ rm.slots = 0) (hy : y.cls ≠ "java/lang/invoke/MethodHandle" ∧ y.cls ≠ "java/lang/invoke/VarHandle" ∧ (parseMethodDescriptor y.desc).map (fun d => d.parameters.length) = some n) (hR : rm.frames + 1 ≤ R.frames ∧ 8 + (maxL + 11) + rm.locals ≤ R.locals) (hn : As.length = n) (hst : As.reverse ++ rest = st) (hcat : (rest.map fun v => v.category).sum ≤ 8) (hlen : lv.length = nL)
    (kk : ∀ (v : Option Value) (w' : va_W), post v w' → zv k pc2 lv (v.toList ++ rest) w') : zv k pc lv st ws := by
  subst hp
  subst hst
  obtain ⟨p, l', e, R', s, m, args, below, meth, c, D', A, H0, cells, slots, Q⟩ := k
  obtain ⟨rfl, rfl, rfl, hx, hb, hml, hown, hts, hK, hA, hlk, hcl, hsl⟩ := K
  intro H locs ls hP hD hS hl
  have hG : GoodIn zT (Cond.code y bytes maxL ret :: zT) := by
    intro w hw
    have hm : w ∈ zT := by
      rcases List.mem_cons.mp hw with rfl | h <;> assumption
    exact ⟨hm, zT_good _ hm⟩
  refine zv_after hl hD hS hA (va_runSN (As := As) (rest := rest) ⟨hx, hb, hml, hown, hts⟩ (hM H.size) ⟨va_cnB n hts hG rfl hrm.1 hrm.2 (hK.2 _ w1) (hts _ w4) hy hR, hts _ w2, trivial⟩ ⟨zv_blind, fun U hU hW => ⟨rfl, by rw [hU], by rw [hU]; exact hP, hK.warm hW, hD.weaken (fun _ _ _ _ => trivial)⟩⟩ rfl hn (hl.1.trans hlen) rfl (lv_room hcat) hd ⟨hcl, hsl⟩) kk
theorem zv_mmax (K : zv_ok k l D R cc nL own ty) {x y : Int32} {idx : Nat} (pc2 : Nat) (hd : decode cc pc = .ok (.invokestatic idx, 3)) (hp : pc + 3 = pc2) (w1 : Cond.methodLink own idx Lib.Math.max.name ∈ zT) (w2 : Cond.static Lib.Math.max.name ∈ zT) (w3 : Cond.initialized "java/lang/Math" ∈ zT) (w4 : Cond.code Lib.Math.max.name Lib.Math.max.code 2 (some .int) ∈ zT) (hf : 1 ≤ R.frames) (hlo : (st.map fun v => v.category).sum + 13 ≤ R.locals) (hlen : lv.length = nL) (kk : zv k pc2 lv (.int (if x < y then y else x) :: st) ws) : zv k pc lv (.int y :: .int x :: st) ws := by
  subst hp
  obtain ⟨p, l', e, R', s, m, args, below, meth, c, D', A, H0, cells, slots, Q⟩ := k
  obtain ⟨rfl, rfl, rfl, hx, hb, hml, hown, hts, hK, hA, hlk, hcl, hsl⟩ := K
  intro H locs ls hP hD hS hl
  exact va_mmax hx hb (hml.trans (hlen.symm.trans hl.1.symm)) hown (hts _ w1) (hts _ w2) (hts _ w3) (hts _ w4) hf hlo hcl hsl hd (kk H locs ls hP hD hS hl)
theorem zv_mmin (K : zv_ok k l D R cc nL own ty) {x y : Int32} {idx : Nat} (pc2 : Nat) (hd : decode cc pc = .ok (.invokestatic idx, 3)) (hp : pc + 3 = pc2) (w1 : Cond.methodLink own idx Lib.Math.min.name ∈ zT) (w2 : Cond.static Lib.Math.min.name ∈ zT) (w3 : Cond.initialized "java/lang/Math" ∈ zT) (w4 : Cond.code Lib.Math.min.name Lib.Math.min.code 2 (some .int) ∈ zT) (hf : 1 ≤ R.frames) (hlo : (st.map fun v => v.category).sum + 13 ≤ R.locals) (hlen : lv.length = nL) (kk : zv k pc2 lv (.int (if y < x then y else x) :: st) ws) : zv k pc lv (.int y :: .int x :: st) ws := by
  subst hp
  obtain ⟨p, l', e, R', s, m, args, below, meth, c, D', A, H0, cells, slots, Q⟩ := k
  obtain ⟨rfl, rfl, rfl, hx, hb, hml, hown, hts, hK, hA, hlk, hcl, hsl⟩ := K
  intro H locs ls hP hD hS hl
  exact va_mmin hx hb (hml.trans (hlen.symm.trans hl.1.symm)) hown (hts _ w1) (hts _ w2) (hts _ w3) (hts _ w4) hf hlo hcl hsl hd (kk H locs ls hP hD hS hl)
theorem zv_copy (K : zv_ok k l D R cc nL own ty) {a0 a1 n0 n1 : Nat} {F G : Nat → Int32} {idx : Nat} {sp dp n : Int32} (q0 q1 pc2 : Nat) (ws2 : va_W) (hd : decode cc pc = .ok (.invokestatic idx, 3)) (hp : pc + 3 = pc2) (w1 : Cond.methodLink own idx arraycopyName ∈ zT) (w2 : Cond.native arraycopyName ∈ zT) (w3 : Cond.static arraycopyName ∈ zT) (w4 : Cond.initialized "java/lang/System" ∈ zT) (ha0 : ws[q0]? = some (a0, .inl (ty.1, n0, .inl F))) (ha1 : ws[q1]? = some (a1, .inl (ty.1, n1, .inl G))) (h1 : ¬ sp < 0) (h2 : ¬ dp < 0) (h3 : ¬ n < 0) (h4 : sp.toNatClampNeg + n.toNatClampNeg ≤ n0) (h5 : dp.toNatClampNeg + n.toNatClampNeg ≤ n1) (hf : 1 ≤ R.frames) (hlo : (st.map fun v => v.category).sum + (nativeFrameWords "java/lang/System" "arraycopy" 5 + 11) ≤ R.locals) (hlen : lv.length = nL) (hw2 : ws.set q1 (a1, .inl (ty.1, n1, .inl (va_cpy F G sp.toNatClampNeg dp.toNatClampNeg n.toNatClampNeg))) = ws2) (kk : zv k pc2 lv st ws2) : zv k pc lv (.int n :: .int dp :: .ref a1 :: .int sp :: .ref a0 :: st) ws := by
  subst hp
  subst hw2
  obtain ⟨p, l', e, R', s, m, args, below, meth, c, D', A, H0, cells, slots, Q⟩ := k
  obtain ⟨rfl, rfl, rfl, hx, hb, hml, hown, hts, hK, hA, hlk, hcl, hsl⟩ := K
  intro H locs ls hP hD hS hl
  exact va_copyi (ty := .int) hx hb (hml.trans (hlen.symm.trans hl.1.symm)) hown (hts _ w1) (hts _ w2) (hts _ w3) (hts _ w4) hK.1 hP hD hS q0 q1 0 0 ha0 ha1 rfl rfl rfl h1 h2 h3 h4 h5 (fun _ _ => rfl) hf hlo hd (fun H1 locs1 hP1 hD1 hS1 => kk H1 locs1 ls hP1 hD1 hS1 hl)
end ZV
end
section
/-! the worlds: the court's cells by their numbers, the model's by its slots -/
abbrev zC : Type := (Nat → Nat → Int32) × (Nat → Nat → Int32)
abbrev zM : Type := (Nat → Int32) × (Nat → Nat → Int32)
def zu (f : Nat → Nat → Int32) (j i : Nat) (v : Int32) : Nat → Nat → Int32 := fun j2 => if j2 = j then upd (f j) i v else f j2
def zO (σ : zC) (j f : Nat) (v : Int32) : zC := (zu σ.1 j f v, σ.2)
def zF (σ : zC) (j i : Nat) (v : Int32) : zC := (σ.1, zu σ.2 j i v)
def zFa (σ : zC) (j : Nat) (g : Nat → Int32) : zC := (σ.1, fun j2 => if j2 = j then g else σ.2 j2)
theorem zu_ne {f : Nat → Nat → Int32} {j i : Nat} {v : Int32} {j2 : Nat} (h : j2 ≠ j) : zu f j i v j2 = f j2 := by simp [zu, h]
theorem zu_eq {f : Nat → Nat → Int32} {j i : Nat} {v : Int32} : zu f j i v j = upd (f j) i v := by simp [zu]
def zcl (a : Nat → Nat) (σ : zC) (j : Nat) : List Value := [.int (σ.1 (j + 11) 0), .int (σ.1 (j + 11) 1), .int (σ.1 (j + 11) 2), .int (σ.1 (j + 11) 3), .int (σ.1 (j + 11) 4), .int (σ.1 (j + 11) 5), .int (σ.1 (j + 11) 6), .int (σ.1 (j + 11) 7), .int (σ.1 (j + 11) 8), .int (σ.1 (j + 11) 9), .int (σ.1 (j + 11) 10), .ref (a (j + 31))]
def zcE (a : Nat → Nat) (ty : zTy) (σ : zC) (j : Nat) : va_E := match j with
  | 0 => .inr (3, [.ref (a 1), .ref (a 2), .int (σ.1 0 2), .int (σ.1 0 3), .int (σ.1 0 4), .ref (a 3), .ref (a 10)])
  | 1 => .inr (0, [.int (σ.1 1 0), .int (σ.1 1 1), .int (σ.1 1 2), .ref (a 4), .ref (a 5)])
  | 2 => .inr (0, [.int (σ.1 2 0), .int (σ.1 2 1), .int (σ.1 2 2), .ref (a 6), .ref (a 7)])
  | 3 => .inr (2, [.int (σ.1 3 0), .ref (a 8), .ref (a 9)])
  | 4 => .inl (ty.1, 990, .inl (σ.2 4))
  | 5 => .inl (ty.1, 90, .inl (σ.2 5))
  | 6 => .inl (ty.1, 990, .inl (σ.2 6))
  | 7 => .inl (ty.1, 90, .inl (σ.2 7))
  | 8 => .inl (ty.2.2, 20, .inr (.inr (.inr (.inr (fun i => some (a (i + 11)))))))
  | 9 => .inl (ty.1, 11, .inl (σ.2 9))
  | 10 => .inl (ty.1, 240, .inl (σ.2 10))
  | j + 11 => if j < 20 then .inr (1, zcl a σ j) else .inl (ty.1, 10, .inl (σ.2 (j + 11)))
def zc (a : Nat → Nat) (ty : zTy) (σ : zC) : va_W := (List.range 51).map (fun j => (a j, zcE a ty σ j))
theorem zc_at {a : Nat → Nat} {ty : zTy} {σ : zC} {j : Nat} (hj : j < 51) : (zc a ty σ)[j]? = some (a j, zcE a ty σ j) := by
  unfold zc
  rw [List.getElem?_map, List.getElem?_range hj]
  rfl
theorem zcE_cl {a : Nat → Nat} {ty : zTy} {σ : zC} {j : Nat} (hj : j < 20) : zcE a ty σ (j + 11) = .inr (1, zcl a σ j) := by
  show (if j < 20 then _ else _) = _
  rw [if_pos hj]
theorem zcE_sh {a : Nat → Nat} {ty : zTy} {σ : zC} {j : Nat} : zcE a ty σ (j + 31) = .inl (ty.1, 10, .inl (σ.2 (j + 31))) := by
  have h : zcE a ty σ ((j + 20) + 11) = if j + 20 < 20 then .inr (1, zcl a σ (j + 20)) else .inl (ty.1, 10, .inl (σ.2 (j + 20 + 11))) := rfl
  rw [if_neg (by omega)] at h
  exact h
theorem zc_cl {a : Nat → Nat} {ty : zTy} {σ : zC} {j : Nat} (hj : j < 20) : (zc a ty σ)[j + 11]? = some (a (j + 11), .inr (1, zcl a σ j)) := by rw [zc_at (by omega), zcE_cl hj]
theorem zc_sh {a : Nat → Nat} {ty : zTy} {σ : zC} {j : Nat} (hj : j < 20) : (zc a ty σ)[j + 31]? = some (a (j + 31), .inl (ty.1, 10, .inl (σ.2 (j + 31)))) := by rw [zc_at (by omega), zcE_sh]
theorem zcE_congr {a : Nat → Nat} {ty : zTy} {σ ρ : zC} {j : Nat} (h1 : σ.1 j = ρ.1 j) (h2 : σ.2 j = ρ.2 j) : zcE a ty σ j = zcE a ty ρ j := by
  match j, h1, h2 with
  | 0, h1, h2 => simp only [zcE, h1, h2]
  | 1, h1, h2 => simp only [zcE, h1, h2]
  | 2, h1, h2 => simp only [zcE, h1, h2]
  | 3, h1, h2 => simp only [zcE, h1, h2]
  | 4, h1, h2 => simp only [zcE, h1, h2]
  | 5, h1, h2 => simp only [zcE, h1, h2]
  | 6, h1, h2 => simp only [zcE, h1, h2]
  | 7, h1, h2 => simp only [zcE, h1, h2]
  | 8, h1, h2 => simp only [zcE, h1, h2]
  | 9, h1, h2 => simp only [zcE, h1, h2]
  | 10, h1, h2 => simp only [zcE, h1, h2]
  | j + 11, h1, h2 => simp only [zcE, zcl, h1, h2]
theorem zc_set {a : Nat → Nat} {ty : zTy} {σ ρ : zC} {j : Nat} {e : va_E} (hj : j < 51) (he : zcE a ty ρ j = e) (ho : ∀ j2, j2 ≠ j → σ.1 j2 = ρ.1 j2 ∧ σ.2 j2 = ρ.2 j2) : (zc a ty σ).set j (a j, e) = zc a ty ρ := by
  apply List.ext_getElem?
  intro j2
  by_cases h2 : j2 < 51
  · rw [zc_at h2]
    by_cases h : j2 = j
    · subst h
      rw [List.getElem?_set_self (by simp [zc]; exact h2), he]
    · rw [List.getElem?_set_ne (Ne.symm h), zc_at h2, zcE_congr (ho j2 h).1 (ho j2 h).2]
  · rw [List.getElem?_eq_none (by simp [zc]; omega), List.getElem?_eq_none (by simp [zc]; omega)]
theorem zc_O {a : Nat → Nat} {ty : zTy} {σ : zC} (j f : Nat) {v : Int32} {e : va_E} (hj : j < 51) (he : zcE a ty (zO σ j f v) j = e) : (zc a ty σ).set j (a j, e) = zc a ty (zO σ j f v) := zc_set hj he (fun j2 h => ⟨(zu_ne h).symm, rfl⟩)
theorem zc_F {a : Nat → Nat} {ty : zTy} {σ : zC} (j i : Nat) {v : Int32} {e : va_E} (hj : j < 51) (he : zcE a ty (zF σ j i v) j = e) : (zc a ty σ).set j (a j, e) = zc a ty (zF σ j i v) := zc_set hj he (fun j2 h => ⟨rfl, (zu_ne h).symm⟩)
theorem zc_Fa {a : Nat → Nat} {ty : zTy} {σ : zC} (j : Nat) {g : Nat → Int32} {e : va_E} (hj : j < 51) (he : zcE a ty (zFa σ j g) j = e) : (zc a ty σ).set j (a j, e) = zc a ty (zFa σ j g) := zc_set hj he (fun j2 h => ⟨rfl, by simp [zFa, h]⟩)
theorem zc_Fs {a : Nat → Nat} {ty : zTy} {σ : zC} {j i : Nat} {v : Int32} (hj : j < 20) : (zc a ty σ).set (j + 31) (a (j + 31), .inl (ty.1, 10, .inl (upd (σ.2 (j + 31)) i v))) = zc a ty (zF σ (j + 31) i v) := zc_F _ _ (by omega) (by rw [zcE_sh]; simp [zF, zu])
theorem zc_Oc0 {a : Nat → Nat} {ty : zTy} {σ : zC} {j : Nat} {v : Int32} (hj : j < 20) : (zc a ty σ).set (j + 11) (a (j + 11), .inr (1, (zcl a σ j).set 0 (.int v))) = zc a ty (zO σ (j + 11) 0 v) := zc_O _ _ (by omega) (by rw [zcE_cl hj]; simp [zcl, zO, zu, upd])
theorem zc_Oc1 {a : Nat → Nat} {ty : zTy} {σ : zC} {j : Nat} {v : Int32} (hj : j < 20) : (zc a ty σ).set (j + 11) (a (j + 11), .inr (1, (zcl a σ j).set 1 (.int v))) = zc a ty (zO σ (j + 11) 1 v) := zc_O _ _ (by omega) (by rw [zcE_cl hj]; simp [zcl, zO, zu, upd])
theorem zc_Oc2 {a : Nat → Nat} {ty : zTy} {σ : zC} {j : Nat} {v : Int32} (hj : j < 20) : (zc a ty σ).set (j + 11) (a (j + 11), .inr (1, (zcl a σ j).set 2 (.int v))) = zc a ty (zO σ (j + 11) 2 v) := zc_O _ _ (by omega) (by rw [zcE_cl hj]; simp [zcl, zO, zu, upd])
theorem zc_Oc3 {a : Nat → Nat} {ty : zTy} {σ : zC} {j : Nat} {v : Int32} (hj : j < 20) : (zc a ty σ).set (j + 11) (a (j + 11), .inr (1, (zcl a σ j).set 3 (.int v))) = zc a ty (zO σ (j + 11) 3 v) := zc_O _ _ (by omega) (by rw [zcE_cl hj]; simp [zcl, zO, zu, upd])
theorem zc_Oc4 {a : Nat → Nat} {ty : zTy} {σ : zC} {j : Nat} {v : Int32} (hj : j < 20) : (zc a ty σ).set (j + 11) (a (j + 11), .inr (1, (zcl a σ j).set 4 (.int v))) = zc a ty (zO σ (j + 11) 4 v) := zc_O _ _ (by omega) (by rw [zcE_cl hj]; simp [zcl, zO, zu, upd])
theorem zc_Oc5 {a : Nat → Nat} {ty : zTy} {σ : zC} {j : Nat} {v : Int32} (hj : j < 20) : (zc a ty σ).set (j + 11) (a (j + 11), .inr (1, (zcl a σ j).set 5 (.int v))) = zc a ty (zO σ (j + 11) 5 v) := zc_O _ _ (by omega) (by rw [zcE_cl hj]; simp [zcl, zO, zu, upd])
theorem zc_Oc6 {a : Nat → Nat} {ty : zTy} {σ : zC} {j : Nat} {v : Int32} (hj : j < 20) : (zc a ty σ).set (j + 11) (a (j + 11), .inr (1, (zcl a σ j).set 6 (.int v))) = zc a ty (zO σ (j + 11) 6 v) := zc_O _ _ (by omega) (by rw [zcE_cl hj]; simp [zcl, zO, zu, upd])
theorem zc_Oc7 {a : Nat → Nat} {ty : zTy} {σ : zC} {j : Nat} {v : Int32} (hj : j < 20) : (zc a ty σ).set (j + 11) (a (j + 11), .inr (1, (zcl a σ j).set 7 (.int v))) = zc a ty (zO σ (j + 11) 7 v) := zc_O _ _ (by omega) (by rw [zcE_cl hj]; simp [zcl, zO, zu, upd])
theorem zc_Oc8 {a : Nat → Nat} {ty : zTy} {σ : zC} {j : Nat} {v : Int32} (hj : j < 20) : (zc a ty σ).set (j + 11) (a (j + 11), .inr (1, (zcl a σ j).set 8 (.int v))) = zc a ty (zO σ (j + 11) 8 v) := zc_O _ _ (by omega) (by rw [zcE_cl hj]; simp [zcl, zO, zu, upd])
theorem zc_Oc9 {a : Nat → Nat} {ty : zTy} {σ : zC} {j : Nat} {v : Int32} (hj : j < 20) : (zc a ty σ).set (j + 11) (a (j + 11), .inr (1, (zcl a σ j).set 9 (.int v))) = zc a ty (zO σ (j + 11) 9 v) := zc_O _ _ (by omega) (by rw [zcE_cl hj]; simp [zcl, zO, zu, upd])
theorem zc_Oc10 {a : Nat → Nat} {ty : zTy} {σ : zC} {j : Nat} {v : Int32} (hj : j < 20) : (zc a ty σ).set (j + 11) (a (j + 11), .inr (1, (zcl a σ j).set 10 (.int v))) = zc a ty (zO σ (j + 11) 10 v) := zc_O _ _ (by omega) (by rw [zcE_cl hj]; simp [zcl, zO, zu, upd])
def zmf (b : Nat → Nat) (τ : zM) : List Value := [.int (τ.1 0), .int (τ.1 1), .int (τ.1 2), .int (τ.1 3), .int (τ.1 4), .ref (b 5), .ref (b 6), .ref (b 7), .ref (b 8), .ref (b 9), .ref (b 10), .ref (b 11), .ref (b 12), .ref (b 13), .ref (b 14), .ref (b 15), .int (τ.1 16), .ref (b 17), .ref (b 18), .ref (b 19), .ref (b 20), .ref (b 21), .ref (b 22), .ref (b 23), .ref (b 24), .ref (b 25), .ref (b 26), .ref (b 27), .ref (b 28), .ref (b 29), .ref (b 30)]
def zmE (b : Nat → Nat) (ty : zTy) (τ : zM) (j : Nat) : va_E := match j with
  | 0 => .inr (4, zmf b τ)
  | 5 => .inl (ty.1, 90, .inl (τ.2 5))
  | 6 => .inl (ty.1, 90, .inl (τ.2 6))
  | 7 => .inl (ty.1, 90, .inl (τ.2 7))
  | 8 => .inl (ty.1, 90, .inl (τ.2 8))
  | 9 => .inl (ty.1, 90, .inl (τ.2 9))
  | 10 => .inl (ty.1, 90, .inl (τ.2 10))
  | 11 => .inl (ty.1, 90, .inl (τ.2 11))
  | 12 => .inl (ty.1, 90, .inl (τ.2 12))
  | 13 => .inl (ty.1, 90, .inl (τ.2 13))
  | 14 => .inl (ty.1, 90, .inl (τ.2 14))
  | 15 => .inl (ty.1, 90, .inl (τ.2 15))
  | 17 => .inl (ty.1, 3, .inl (τ.2 17))
  | 18 => .inl (ty.1, 990, .inl (τ.2 18))
  | 19 => .inl (ty.2.1, 90, .inl (τ.2 19))
  | 20 => .inl (ty.1, 90, .inl (τ.2 20))
  | 21 => .inl (ty.1, 900, .inl (τ.2 21))
  | 22 => .inl (ty.1, 90, .inl (τ.2 22))
  | 23 => .inl (ty.1, 90, .inl (τ.2 23))
  | 24 => .inl (ty.1, 90, .inl (τ.2 24))
  | 25 => .inl (ty.1, 90, .inl (τ.2 25))
  | 26 => .inl (ty.1, 90, .inl (τ.2 26))
  | 27 => .inl (ty.1, 90, .inl (τ.2 27))
  | 28 => .inl (ty.1, 90, .inl (τ.2 28))
  | 29 => .inl (ty.1, 11, .inl (τ.2 29))
  | 30 => .inl (ty.1, 240, .inl (τ.2 30))
  | j => .inl (ty.1, 0, .inl (τ.2 j))
def zmI : List Nat := [0, 5, 6, 7, 8, 9, 10, 11, 12, 13, 14, 15, 17, 18, 19, 20, 21, 22, 23, 24, 25, 26, 27, 28, 29, 30]
def zm (b : Nat → Nat) (ty : zTy) (τ : zM) : va_W := zmI.map (fun j => (b j, zmE b ty τ j))
def zmO (τ : zM) (f : Nat) (v : Int32) : zM := (upd τ.1 f v, τ.2)
def zmF (τ : zM) (j i : Nat) (v : Int32) : zM := (τ.1, zu τ.2 j i v)
def zmFa (τ : zM) (j : Nat) (g : Nat → Int32) : zM := (τ.1, fun j2 => if j2 = j then g else τ.2 j2)
theorem zm_at {b : Nat → Nat} {ty : zTy} {τ : zM} {p j : Nat} (h : zmI[p]? = some j) : (zm b ty τ)[p]? = some (b j, zmE b ty τ j) := by
  unfold zm
  rw [List.getElem?_map, h]
  rfl
theorem zmI_nd : ∀ (p q j : Nat), zmI[p]? = some j → zmI[q]? = some j → p = q := fun p q j h1 h2 => va_nd_inj zmI (by decide) p q j h1 h2
theorem zm_set {b : Nat → Nat} {ty : zTy} {τ ρ : zM} {p j : Nat} {e : va_E} (h : zmI[p]? = some j) (he : zmE b ty ρ j = e) (ho : ∀ j2, j2 ≠ j → j2 ∈ zmI → zmE b ty τ j2 = zmE b ty ρ j2) : (zm b ty τ).set p (b j, e) = zm b ty ρ := by
  apply List.ext_getElem?
  intro q
  by_cases hq : q = p
  · subst hq
    rw [List.getElem?_set_self (by simp [zm]; exact (List.getElem?_eq_some_iff.mp h).1), zm_at h, he]
  · rw [List.getElem?_set_ne (Ne.symm hq)]
    cases hj : zmI[q]? with
    | none =>
      have hl : zmI.length ≤ q := List.getElem?_eq_none_iff.mp hj
      rw [List.getElem?_eq_none (by simp [zm]; exact hl), List.getElem?_eq_none (by simp [zm]; exact hl)]
    | some j2 =>
      rw [zm_at hj, zm_at hj, ho j2 (fun e2 => hq (zmI_nd q p j (by rw [hj, e2]) h)) (List.mem_of_getElem? hj)]
theorem zmE_congr {b : Nat → Nat} {ty : zTy} {τ ρ : zM} {j : Nat} (h0 : j ≠ 0) (h1 : τ.2 j = ρ.2 j) : zmE b ty τ j = zmE b ty ρ j := by
  unfold zmE
  split <;> first | (exact absurd rfl h0) | simp only [h1]
theorem zm_O {b : Nat → Nat} {ty : zTy} {τ : zM} (f : Nat) {v : Int32} {e : va_E} (he : zmE b ty (zmO τ f v) 0 = e) : (zm b ty τ).set 0 (b 0, e) = zm b ty (zmO τ f v) := zm_set rfl he (fun j2 h _ => zmE_congr h rfl)
theorem zm_F {b : Nat → Nat} {ty : zTy} {τ : zM} {p : Nat} (j i : Nat) {v : Int32} {e : va_E} (h : zmI[p]? = some j) (h0 : j ≠ 0) (he : zmE b ty (zmF τ j i v) j = e) : (zm b ty τ).set p (b j, e) = zm b ty (zmF τ j i v) := zm_set h he (fun j2 h2 _ => by
  by_cases hz : j2 = 0
  · subst hz; rfl
  · exact zmE_congr hz (zu_ne h2).symm)
theorem zm_O0 {b : Nat → Nat} {ty : zTy} {τ : zM} {v : Int32} : (zm b ty τ).set 0 (b 0, .inr (4, (zmf b τ).set 0 (.int v))) = zm b ty (zmO τ 0 v) := zm_O 0 rfl
theorem zm_O1 {b : Nat → Nat} {ty : zTy} {τ : zM} {v : Int32} : (zm b ty τ).set 0 (b 0, .inr (4, (zmf b τ).set 1 (.int v))) = zm b ty (zmO τ 1 v) := zm_O 1 rfl
theorem zm_O2 {b : Nat → Nat} {ty : zTy} {τ : zM} {v : Int32} : (zm b ty τ).set 0 (b 0, .inr (4, (zmf b τ).set 2 (.int v))) = zm b ty (zmO τ 2 v) := zm_O 2 rfl
theorem zm_O3 {b : Nat → Nat} {ty : zTy} {τ : zM} {v : Int32} : (zm b ty τ).set 0 (b 0, .inr (4, (zmf b τ).set 3 (.int v))) = zm b ty (zmO τ 3 v) := zm_O 3 rfl
theorem zm_O4 {b : Nat → Nat} {ty : zTy} {τ : zM} {v : Int32} : (zm b ty τ).set 0 (b 0, .inr (4, (zmf b τ).set 4 (.int v))) = zm b ty (zmO τ 4 v) := zm_O 4 rfl
theorem zm_O16 {b : Nat → Nat} {ty : zTy} {τ : zM} {v : Int32} : (zm b ty τ).set 0 (b 0, .inr (4, (zmf b τ).set 16 (.int v))) = zm b ty (zmO τ 16 v) := zm_O 16 rfl
def zB (P : Prop) [Decidable P] : Int32 := if P then 1 else 0
theorem zB_t {P : Prop} [Decidable P] (h : P) : zB P = 1 := if_pos h
theorem zB_f {P : Prop} [Decidable P] (h : ¬ P) : zB P = 0 := if_neg h
theorem zB_n0 {P : Prop} [Decidable P] (h : ¬ zB P = 0) : P := by
  by_cases hP : P
  · exact hP
  · exact absurd (zB_f hP) h
theorem zB_0 {P : Prop} [Decidable P] (h : zB P = 0) : ¬ P := fun hP => by rw [zB_t hP] at h; exact absurd h (by decide)
theorem zB_nar {P : Prop} [Decidable P] : narrow .boolean (.int (zB P)) = .int (zB P) := by
  by_cases hP : P
  · rw [zB_t hP]; rfl
  · rw [zB_f hP]; rfl
theorem zB_vp {P : Prop} [Decidable P] : vp_nar .boolean (zB P) = zB P := by
  by_cases hP : P
  · rw [zB_t hP]; rfl
  · rw [zB_f hP]; rfl
theorem zB_nle {P : Prop} [Decidable P] : ¬ zB P < 0 := by
  by_cases hP : P
  · rw [zB_t hP]; decide
  · rw [zB_f hP]; decide
theorem zB_iff {P Q : Prop} [Decidable P] [Decidable Q] (h : P ↔ Q) : zB P = zB Q := by
  by_cases hP : P
  · rw [zB_t hP, zB_t (h.mp hP)]
  · rw [zB_f hP, zB_f (fun q => hP (h.mpr q))]
section ZW
variable {k : zKx} {l : Launch} {D : va_G} {R : Room} {cc : ByteArray} {nL : Nat} {own : String} {ty : zTy} {pc : Nat} {lv : List (Option Value)} {st : List Value} {ws : va_W}
theorem zv_ifB_eq (K : zv_ok k l D R cc nL own ty) {P : Prop} [Decidable P] {off : Int} (tgt pc2 : Nat) (hd : decode cc pc = .ok (.ifCond .eq off, 3)) (ht : (pc : Int) + off = (tgt : Int)) (hp : pc + 3 = pc2) (kt : ¬ P → zv k tgt lv st ws) (kf : P → zv k pc2 lv st ws) : zv k pc lv (.int (zB P) :: st) ws := zv_if_eq K tgt pc2 hd ht hp (fun h => kt (zB_0 h)) (fun h => kf (zB_n0 h))
theorem zv_ifB_ne (K : zv_ok k l D R cc nL own ty) {P : Prop} [Decidable P] {off : Int} (tgt pc2 : Nat) (hd : decode cc pc = .ok (.ifCond .ne off, 3)) (ht : (pc : Int) + off = (tgt : Int)) (hp : pc + 3 = pc2) (kt : P → zv k tgt lv st ws) (kf : ¬ P → zv k pc2 lv st ws) : zv k pc lv (.int (zB P) :: st) ws := zv_if_ne K tgt pc2 hd ht hp (fun h => kt (zB_n0 h)) (fun h => kf (zB_0 h))
/-- the model's own fields -/
theorem zm_get (K : zv_ok k l D R cc nL own ty) {b : Nat → Nat} {τ : zM} {v : Value} {idx : Nat} (f pc2 : Nat) (hd : decode cc pc = .ok (.getfield idx, 3)) (hp : pc + 3 = pc2) (hf : f < 31) (hlk2 : Cond.fieldLink own idx (TX4 f).1 (TX4 f).2.1 (TX4 f).2.2.1 ∈ zT) (hv : (zmf b τ)[f]? = some v) (kk : zv k pc2 lv (v :: st) (zm b ty τ)) : zv k pc lv (.ref (b 0) :: st) (zm b ty τ) := zv_get K 0 f pc2 hd hp zy_X4 (zm_at (j := 0) rfl) rfl hf hlk2 hv kk
theorem zm_put (K : zv_ok k l D R cc nL own ty) {b : Nat → Nat} {τ : zM} {v : Value} {idx : Nat} (f pc2 : Nat) (ρ : zM) {t0 : FieldType} (hd : decode cc pc = .ok (.putfield idx, 3)) (hp : pc + 3 = pc2) (hf : f < 31) (hlk2 : Cond.fieldLink own idx (TX4 f).1 (TX4 f).2.1 (TX4 f).2.2.1 ∈ zT) (hfin : (TX4 f).2.2.2 = false) (ht0 : parseFieldDescriptor (TX4 f).2.2.1 = some t0) (hn : narrow t0 v = v) (hfit : fits t0 v = true) (hw2 : (zm b ty τ).set 0 (b 0, .inr (4, (zmf b τ).set f v)) = zm b ty ρ) (kk : zv k pc2 lv st (zm b ty ρ)) : zv k pc lv (v :: .ref (b 0) :: st) (zm b ty τ) := zv_put K 0 f pc2 _ hd hp zy_X4 tyX4_ok nmX4 (zm_at (j := 0) rfl) rfl hf hlk2 hfin ht0 hn hfit hf hw2 kk
/-- the court's fields: of the cell j -/
theorem zc_get (K : zv_ok k l D R cc nL own ty) {a : Nat → Nat} {σ : zC} {C : String} {T : u_T} {N ci idx : Nat} {fs : List Value} {v : Value} (j f pc2 : Nat) (hd : decode cc pc = .ok (.getfield idx, 3)) (hp : pc + 3 = pc2) (hin : ∀ w ∈ u_ws C T N, w ∈ zT) (he : (zc a ty σ)[j]? = some (a j, .inr (ci, fs))) (hc : vwCl[ci]? = some (C, T, N)) (hf : f < N) (hlk2 : Cond.fieldLink own idx (T f).1 (T f).2.1 (T f).2.2.1 ∈ zT) (hv : fs[f]? = some v) (kk : zv k pc2 lv (v :: st) (zc a ty σ)) : zv k pc lv (.ref (a j) :: st) (zc a ty σ) := zv_get K j f pc2 hd hp hin he hc hf hlk2 hv kk
end ZW
end
section
abbrev zR (n m : Nat) : Room := { frames := n, cells := 0, slots := 0, locals := m }
theorem zh_yX0_has : yX0_has.cls = RX0 ∧ yX0_has.cls ≠ "java/lang/invoke/MethodHandle" ∧ yX0_has.cls ≠ "java/lang/invoke/VarHandle" ∧ (parseMethodDescriptor yX0_has.desc).map (fun d => d.parameters.length) = some 1 := by decide +kernel
theorem zh_yX0_isFull : yX0_isFull.cls = RX0 ∧ yX0_isFull.cls ≠ "java/lang/invoke/MethodHandle" ∧ yX0_isFull.cls ≠ "java/lang/invoke/VarHandle" ∧ (parseMethodDescriptor yX0_isFull.desc).map (fun d => d.parameters.length) = some 0 := by decide +kernel
theorem zh_yX0_isStake : yX0_isStake.cls = RX0 ∧ yX0_isStake.cls ≠ "java/lang/invoke/MethodHandle" ∧ yX0_isStake.cls ≠ "java/lang/invoke/VarHandle" ∧ (parseMethodDescriptor yX0_isStake.desc).map (fun d => d.parameters.length) = some 1 := by decide +kernel
theorem zh_yX0_isWithdrawn : yX0_isWithdrawn.cls = RX0 ∧ yX0_isWithdrawn.cls ≠ "java/lang/invoke/MethodHandle" ∧ yX0_isWithdrawn.cls ≠ "java/lang/invoke/VarHandle" ∧ (parseMethodDescriptor yX0_isWithdrawn.desc).map (fun d => d.parameters.length) = some 1 := by decide +kernel
theorem zh_yX0_isKnown : yX0_isKnown.cls = RX0 ∧ yX0_isKnown.cls ≠ "java/lang/invoke/MethodHandle" ∧ yX0_isKnown.cls ≠ "java/lang/invoke/VarHandle" ∧ (parseMethodDescriptor yX0_isKnown.desc).map (fun d => d.parameters.length) = some 2 := by decide +kernel
theorem zh_yX0_countWithdrawn : yX0_countWithdrawn.cls = RX0 ∧ yX0_countWithdrawn.cls ≠ "java/lang/invoke/MethodHandle" ∧ yX0_countWithdrawn.cls ≠ "java/lang/invoke/VarHandle" ∧ (parseMethodDescriptor yX0_countWithdrawn.desc).map (fun d => d.parameters.length) = some 0 := by decide +kernel
theorem zh_yX0_get : yX0_get.cls = RX0 ∧ yX0_get.cls ≠ "java/lang/invoke/MethodHandle" ∧ yX0_get.cls ≠ "java/lang/invoke/VarHandle" ∧ (parseMethodDescriptor yX0_get.desc).map (fun d => d.parameters.length) = some 2 := by decide +kernel
theorem zh_yX0_put : yX0_put.cls = RX0 ∧ yX0_put.cls ≠ "java/lang/invoke/MethodHandle" ∧ yX0_put.cls ≠ "java/lang/invoke/VarHandle" ∧ (parseMethodDescriptor yX0_put.desc).map (fun d => d.parameters.length) = some 3 := by decide +kernel
theorem zh_yX0_putFeet : yX0_putFeet.cls = RX0 ∧ yX0_putFeet.cls ≠ "java/lang/invoke/MethodHandle" ∧ yX0_putFeet.cls ≠ "java/lang/invoke/VarHandle" ∧ (parseMethodDescriptor yX0_putFeet.desc).map (fun d => d.parameters.length) = some 3 := by decide +kernel
theorem zh_yX0_appendOf : yX0_appendOf.cls = RX0 ∧ yX0_appendOf.cls ≠ "java/lang/invoke/MethodHandle" ∧ yX0_appendOf.cls ≠ "java/lang/invoke/VarHandle" ∧ (parseMethodDescriptor yX0_appendOf.desc).map (fun d => d.parameters.length) = some 3 := by decide +kernel
theorem zh_yX0_append : yX0_append.cls = RX0 ∧ yX0_append.cls ≠ "java/lang/invoke/MethodHandle" ∧ yX0_append.cls ≠ "java/lang/invoke/VarHandle" ∧ (parseMethodDescriptor yX0_append.desc).map (fun d => d.parameters.length) = some 3 := by decide +kernel
theorem zh_yX0_setInOrder : yX0_setInOrder.cls = RX0 ∧ yX0_setInOrder.cls ≠ "java/lang/invoke/MethodHandle" ∧ yX0_setInOrder.cls ≠ "java/lang/invoke/VarHandle" ∧ (parseMethodDescriptor yX0_setInOrder.desc).map (fun d => d.parameters.length) = some 2 := by decide +kernel
theorem zh_yX0_copyFrom : yX0_copyFrom.cls = RX0 ∧ yX0_copyFrom.cls ≠ "java/lang/invoke/MethodHandle" ∧ yX0_copyFrom.cls ≠ "java/lang/invoke/VarHandle" ∧ (parseMethodDescriptor yX0_copyFrom.desc).map (fun d => d.parameters.length) = some 1 := by decide +kernel
theorem zh_yX1_begin : yX1_begin.cls = RX1 ∧ yX1_begin.cls ≠ "java/lang/invoke/MethodHandle" ∧ yX1_begin.cls ≠ "java/lang/invoke/VarHandle" ∧ (parseMethodDescriptor yX1_begin.desc).map (fun d => d.parameters.length) = some 2 := by decide +kernel
theorem zh_yX1_turn : yX1_turn.cls = RX1 ∧ yX1_turn.cls ≠ "java/lang/invoke/MethodHandle" ∧ yX1_turn.cls ≠ "java/lang/invoke/VarHandle" ∧ (parseMethodDescriptor yX1_turn.desc).map (fun d => d.parameters.length) = some 3 := by decide +kernel
theorem zh_yX1_isOver : yX1_isOver.cls = RX1 ∧ yX1_isOver.cls ≠ "java/lang/invoke/MethodHandle" ∧ yX1_isOver.cls ≠ "java/lang/invoke/VarHandle" ∧ (parseMethodDescriptor yX1_isOver.desc).map (fun d => d.parameters.length) = some 2 := by decide +kernel
theorem zh_yX1_isIdle : yX1_isIdle.cls = RX1 ∧ yX1_isIdle.cls ≠ "java/lang/invoke/MethodHandle" ∧ yX1_isIdle.cls ≠ "java/lang/invoke/VarHandle" ∧ (parseMethodDescriptor yX1_isIdle.desc).map (fun d => d.parameters.length) = some 2 := by decide +kernel
theorem zh_yX1_setFeet : yX1_setFeet.cls = RX1 ∧ yX1_setFeet.cls ≠ "java/lang/invoke/MethodHandle" ∧ yX1_setFeet.cls ≠ "java/lang/invoke/VarHandle" ∧ (parseMethodDescriptor yX1_setFeet.desc).map (fun d => d.parameters.length) = some 2 := by decide +kernel
theorem zh_yX1_setWorked : yX1_setWorked.cls = RX1 ∧ yX1_setWorked.cls ≠ "java/lang/invoke/MethodHandle" ∧ yX1_setWorked.cls ≠ "java/lang/invoke/VarHandle" ∧ (parseMethodDescriptor yX1_setWorked.desc).map (fun d => d.parameters.length) = some 1 := by decide +kernel
theorem zh_yX1_passTo : yX1_passTo.cls = RX1 ∧ yX1_passTo.cls ≠ "java/lang/invoke/MethodHandle" ∧ yX1_passTo.cls ≠ "java/lang/invoke/VarHandle" ∧ (parseMethodDescriptor yX1_passTo.desc).map (fun d => d.parameters.length) = some 2 := by decide +kernel
theorem zh_yX1_takeNick : yX1_takeNick.cls = RX1 ∧ yX1_takeNick.cls ≠ "java/lang/invoke/MethodHandle" ∧ yX1_takeNick.cls ≠ "java/lang/invoke/VarHandle" ∧ (parseMethodDescriptor yX1_takeNick.desc).map (fun d => d.parameters.length) = some 3 := by decide +kernel
theorem zh_yX1_addNick : yX1_addNick.cls = RX1 ∧ yX1_addNick.cls ≠ "java/lang/invoke/MethodHandle" ∧ yX1_addNick.cls ≠ "java/lang/invoke/VarHandle" ∧ (parseMethodDescriptor yX1_addNick.desc).map (fun d => d.parameters.length) = some 2 := by decide +kernel
theorem zh_yX1_moveShares : yX1_moveShares.cls = RX1 ∧ yX1_moveShares.cls ≠ "java/lang/invoke/MethodHandle" ∧ yX1_moveShares.cls ≠ "java/lang/invoke/VarHandle" ∧ (parseMethodDescriptor yX1_moveShares.desc).map (fun d => d.parameters.length) = some 3 := by decide +kernel
theorem zh_yX2_goThrough : yX2_goThrough.cls = RX2 ∧ yX2_goThrough.cls ≠ "java/lang/invoke/MethodHandle" ∧ yX2_goThrough.cls ≠ "java/lang/invoke/VarHandle" ∧ (parseMethodDescriptor yX2_goThrough.desc).map (fun d => d.parameters.length) = some 4 := by decide +kernel
theorem zh_yX2_find : yX2_find.cls = RX2 ∧ yX2_find.cls ≠ "java/lang/invoke/MethodHandle" ∧ yX2_find.cls ≠ "java/lang/invoke/VarHandle" ∧ (parseMethodDescriptor yX2_find.desc).map (fun d => d.parameters.length) = some 1 := by decide +kernel
theorem zh_yX2_eldestOver : yX2_eldestOver.cls = RX2 ∧ yX2_eldestOver.cls ≠ "java/lang/invoke/MethodHandle" ∧ yX2_eldestOver.cls ≠ "java/lang/invoke/VarHandle" ∧ (parseMethodDescriptor yX2_eldestOver.desc).map (fun d => d.parameters.length) = some 2 := by decide +kernel
theorem zh_yX2_holderOver : yX2_holderOver.cls = RX2 ∧ yX2_holderOver.cls ≠ "java/lang/invoke/MethodHandle" ∧ yX2_holderOver.cls ≠ "java/lang/invoke/VarHandle" ∧ (parseMethodDescriptor yX2_holderOver.desc).map (fun d => d.parameters.length) = some 2 := by decide +kernel
theorem zh_yX2_countOver : yX2_countOver.cls = RX2 ∧ yX2_countOver.cls ≠ "java/lang/invoke/MethodHandle" ∧ yX2_countOver.cls ≠ "java/lang/invoke/VarHandle" ∧ (parseMethodDescriptor yX2_countOver.desc).map (fun d => d.parameters.length) = some 2 := by decide +kernel
theorem zh_yX2_countOwned : yX2_countOwned.cls = RX2 ∧ yX2_countOwned.cls ≠ "java/lang/invoke/MethodHandle" ∧ yX2_countOwned.cls ≠ "java/lang/invoke/VarHandle" ∧ (parseMethodDescriptor yX2_countOwned.desc).map (fun d => d.parameters.length) = some 1 := by decide +kernel
theorem zh_yX2_clear : yX2_clear.cls = RX2 ∧ yX2_clear.cls ≠ "java/lang/invoke/MethodHandle" ∧ yX2_clear.cls ≠ "java/lang/invoke/VarHandle" ∧ (parseMethodDescriptor yX2_clear.desc).map (fun d => d.parameters.length) = some 0 := by decide +kernel
theorem zh_yX2_apply : yX2_apply.cls = RX2 ∧ yX2_apply.cls ≠ "java/lang/invoke/MethodHandle" ∧ yX2_apply.cls ≠ "java/lang/invoke/VarHandle" ∧ (parseMethodDescriptor yX2_apply.desc).map (fun d => d.parameters.length) = some 3 := by decide +kernel
theorem zh_yX2_addClaim : yX2_addClaim.cls = RX2 ∧ yX2_addClaim.cls ≠ "java/lang/invoke/MethodHandle" ∧ yX2_addClaim.cls ≠ "java/lang/invoke/VarHandle" ∧ (parseMethodDescriptor yX2_addClaim.desc).map (fun d => d.parameters.length) = some 2 := by decide +kernel
theorem zh_yX2_bringOre : yX2_bringOre.cls = RX2 ∧ yX2_bringOre.cls ≠ "java/lang/invoke/MethodHandle" ∧ yX2_bringOre.cls ≠ "java/lang/invoke/VarHandle" ∧ (parseMethodDescriptor yX2_bringOre.desc).map (fun d => d.parameters.length) = some 3 := by decide +kernel
theorem zh_yX3_day : yX3_day.cls = RX3 ∧ yX3_day.cls ≠ "java/lang/invoke/MethodHandle" ∧ yX3_day.cls ≠ "java/lang/invoke/VarHandle" ∧ (parseMethodDescriptor yX3_day.desc).map (fun d => d.parameters.length) = some 1 := by decide +kernel
theorem zh_yX3_rule : yX3_rule.cls = RX3 ∧ yX3_rule.cls ≠ "java/lang/invoke/MethodHandle" ∧ yX3_rule.cls ≠ "java/lang/invoke/VarHandle" ∧ (parseMethodDescriptor yX3_rule.desc).map (fun d => d.parameters.length) = some 2 := by decide +kernel
theorem zh_yX3_stake : yX3_stake.cls = RX3 ∧ yX3_stake.cls ≠ "java/lang/invoke/MethodHandle" ∧ yX3_stake.cls ≠ "java/lang/invoke/VarHandle" ∧ (parseMethodDescriptor yX3_stake.desc).map (fun d => d.parameters.length) = some 4 := by decide +kernel
theorem zh_yX3_work : yX3_work.cls = RX3 ∧ yX3_work.cls ≠ "java/lang/invoke/MethodHandle" ∧ yX3_work.cls ≠ "java/lang/invoke/VarHandle" ∧ (parseMethodDescriptor yX3_work.desc).map (fun d => d.parameters.length) = some 2 := by decide +kernel
theorem zh_yX3_nick : yX3_nick.cls = RX3 ∧ yX3_nick.cls ≠ "java/lang/invoke/MethodHandle" ∧ yX3_nick.cls ≠ "java/lang/invoke/VarHandle" ∧ (parseMethodDescriptor yX3_nick.desc).map (fun d => d.parameters.length) = some 3 := by decide +kernel
theorem zh_yX3_give : yX3_give.cls = RX3 ∧ yX3_give.cls ≠ "java/lang/invoke/MethodHandle" ∧ yX3_give.cls ≠ "java/lang/invoke/VarHandle" ∧ (parseMethodDescriptor yX3_give.desc).map (fun d => d.parameters.length) = some 2 := by decide +kernel
theorem zh_yX3_view : yX3_view.cls = RX3 ∧ yX3_view.cls ≠ "java/lang/invoke/MethodHandle" ∧ yX3_view.cls ≠ "java/lang/invoke/VarHandle" ∧ (parseMethodDescriptor yX3_view.desc).map (fun d => d.parameters.length) = some 4 := by decide +kernel
theorem zh_yX3_sell : yX3_sell.cls = RX3 ∧ yX3_sell.cls ≠ "java/lang/invoke/MethodHandle" ∧ yX3_sell.cls ≠ "java/lang/invoke/VarHandle" ∧ (parseMethodDescriptor yX3_sell.desc).map (fun d => d.parameters.length) = some 5 := by decide +kernel
theorem zh_yX3_dig : yX3_dig.cls = RX3 ∧ yX3_dig.cls ≠ "java/lang/invoke/MethodHandle" ∧ yX3_dig.cls ≠ "java/lang/invoke/VarHandle" ∧ (parseMethodDescriptor yX3_dig.desc).map (fun d => d.parameters.length) = some 4 := by decide +kernel
theorem zh_yX3_withdraw : yX3_withdraw.cls = RX3 ∧ yX3_withdraw.cls ≠ "java/lang/invoke/MethodHandle" ∧ yX3_withdraw.cls ≠ "java/lang/invoke/VarHandle" ∧ (parseMethodDescriptor yX3_withdraw.desc).map (fun d => d.parameters.length) = some 1 := by decide +kernel
theorem zh_yX3_fact : yX3_fact.cls = RX3 ∧ yX3_fact.cls ≠ "java/lang/invoke/MethodHandle" ∧ yX3_fact.cls ≠ "java/lang/invoke/VarHandle" ∧ (parseMethodDescriptor yX3_fact.desc).map (fun d => d.parameters.length) = some 2 := by decide +kernel
theorem zh_yX3_owner : yX3_owner.cls = RX3 ∧ yX3_owner.cls ≠ "java/lang/invoke/MethodHandle" ∧ yX3_owner.cls ≠ "java/lang/invoke/VarHandle" ∧ (parseMethodDescriptor yX3_owner.desc).map (fun d => d.parameters.length) = some 4 := by decide +kernel
theorem zh_yX3_claim : yX3_claim.cls = RX3 ∧ yX3_claim.cls ≠ "java/lang/invoke/MethodHandle" ∧ yX3_claim.cls ≠ "java/lang/invoke/VarHandle" ∧ (parseMethodDescriptor yX3_claim.desc).map (fun d => d.parameters.length) = some 4 := by decide +kernel
theorem zh_yX3_of : yX3_of.cls = RX3 ∧ yX3_of.cls ≠ "java/lang/invoke/MethodHandle" ∧ yX3_of.cls ≠ "java/lang/invoke/VarHandle" ∧ (parseMethodDescriptor yX3_of.desc).map (fun d => d.parameters.length) = some 4 := by decide +kernel
theorem zh_yX3_share : yX3_share.cls = RX3 ∧ yX3_share.cls ≠ "java/lang/invoke/MethodHandle" ∧ yX3_share.cls ≠ "java/lang/invoke/VarHandle" ∧ (parseMethodDescriptor yX3_share.desc).map (fun d => d.parameters.length) = some 4 := by decide +kernel
theorem zh_yX3_feet : yX3_feet.cls = RX3 ∧ yX3_feet.cls ≠ "java/lang/invoke/MethodHandle" ∧ yX3_feet.cls ≠ "java/lang/invoke/VarHandle" ∧ (parseMethodDescriptor yX3_feet.desc).map (fun d => d.parameters.length) = some 3 := by decide +kernel
theorem zh_yX3_contested : yX3_contested.cls = RX3 ∧ yX3_contested.cls ≠ "java/lang/invoke/MethodHandle" ∧ yX3_contested.cls ≠ "java/lang/invoke/VarHandle" ∧ (parseMethodDescriptor yX3_contested.desc).map (fun d => d.parameters.length) = some 3 := by decide +kernel
theorem zh_yX3_dug : yX3_dug.cls = RX3 ∧ yX3_dug.cls ≠ "java/lang/invoke/MethodHandle" ∧ yX3_dug.cls ≠ "java/lang/invoke/VarHandle" ∧ (parseMethodDescriptor yX3_dug.desc).map (fun d => d.parameters.length) = some 3 := by decide +kernel
theorem zh_yX3_due : yX3_due.cls = RX3 ∧ yX3_due.cls ≠ "java/lang/invoke/MethodHandle" ∧ yX3_due.cls ≠ "java/lang/invoke/VarHandle" ∧ (parseMethodDescriptor yX3_due.desc).map (fun d => d.parameters.length) = some 3 := by decide +kernel
theorem zh_yX3_changed : yX3_changed.cls = RX3 ∧ yX3_changed.cls ≠ "java/lang/invoke/MethodHandle" ∧ yX3_changed.cls ≠ "java/lang/invoke/VarHandle" ∧ (parseMethodDescriptor yX3_changed.desc).map (fun d => d.parameters.length) = some 3 := by decide +kernel
theorem zh_yX3_many : yX3_many.cls = RX3 ∧ yX3_many.cls ≠ "java/lang/invoke/MethodHandle" ∧ yX3_many.cls ≠ "java/lang/invoke/VarHandle" ∧ (parseMethodDescriptor yX3_many.desc).map (fun d => d.parameters.length) = some 1 := by decide +kernel
theorem zh_yX3_keep : yX3_keep.cls = RX3 ∧ yX3_keep.cls ≠ "java/lang/invoke/MethodHandle" ∧ yX3_keep.cls ≠ "java/lang/invoke/VarHandle" ∧ (parseMethodDescriptor yX3_keep.desc).map (fun d => d.parameters.length) = some 0 := by decide +kernel
theorem zh_yX3_back : yX3_back.cls = RX3 ∧ yX3_back.cls ≠ "java/lang/invoke/MethodHandle" ∧ yX3_back.cls ≠ "java/lang/invoke/VarHandle" ∧ (parseMethodDescriptor yX3_back.desc).map (fun d => d.parameters.length) = some 0 := by decide +kernel
theorem zh_yX3_isWithin : yX3_isWithin.cls ≠ "java/lang/invoke/MethodHandle" ∧ yX3_isWithin.cls ≠ "java/lang/invoke/VarHandle" ∧ (parseMethodDescriptor yX3_isWithin.desc).map (fun d => d.parameters.length) = some 3 := by decide +kernel
theorem zh_yX3_isVein : yX3_isVein.cls ≠ "java/lang/invoke/MethodHandle" ∧ yX3_isVein.cls ≠ "java/lang/invoke/VarHandle" ∧ (parseMethodDescriptor yX3_isVein.desc).map (fun d => d.parameters.length) = some 1 := by decide +kernel
theorem zh_yX3_isFoot : yX3_isFoot.cls ≠ "java/lang/invoke/MethodHandle" ∧ yX3_isFoot.cls ≠ "java/lang/invoke/VarHandle" ∧ (parseMethodDescriptor yX3_isFoot.desc).map (fun d => d.parameters.length) = some 1 := by decide +kernel
theorem zh_yX3_isMiner : yX3_isMiner.cls ≠ "java/lang/invoke/MethodHandle" ∧ yX3_isMiner.cls ≠ "java/lang/invoke/VarHandle" ∧ (parseMethodDescriptor yX3_isMiner.desc).map (fun d => d.parameters.length) = some 1 := by decide +kernel
theorem zh_yX3_isDay : yX3_isDay.cls ≠ "java/lang/invoke/MethodHandle" ∧ yX3_isDay.cls ≠ "java/lang/invoke/VarHandle" ∧ (parseMethodDescriptor yX3_isDay.desc).map (fun d => d.parameters.length) = some 1 := by decide +kernel
theorem zh_yX3_areDays : yX3_areDays.cls ≠ "java/lang/invoke/MethodHandle" ∧ yX3_areDays.cls ≠ "java/lang/invoke/VarHandle" ∧ (parseMethodDescriptor yX3_areDays.desc).map (fun d => d.parameters.length) = some 2 := by decide +kernel
theorem zh_yX3_isPast : yX3_isPast.cls = RX3 ∧ yX3_isPast.cls ≠ "java/lang/invoke/MethodHandle" ∧ yX3_isPast.cls ≠ "java/lang/invoke/VarHandle" ∧ (parseMethodDescriptor yX3_isPast.desc).map (fun d => d.parameters.length) = some 1 := by decide +kernel
theorem zh_yX3_refusalOfClaim : yX3_refusalOfClaim.cls = RX3 ∧ yX3_refusalOfClaim.cls ≠ "java/lang/invoke/MethodHandle" ∧ yX3_refusalOfClaim.cls ≠ "java/lang/invoke/VarHandle" ∧ (parseMethodDescriptor yX3_refusalOfClaim.desc).map (fun d => d.parameters.length) = some 3 := by decide +kernel
theorem zh_yX3_goThrough : yX3_goThrough.cls = RX3 ∧ yX3_goThrough.cls ≠ "java/lang/invoke/MethodHandle" ∧ yX3_goThrough.cls ≠ "java/lang/invoke/VarHandle" ∧ (parseMethodDescriptor yX3_goThrough.desc).map (fun d => d.parameters.length) = some 2 := by decide +kernel
theorem zh_yX3_noteHolders : yX3_noteHolders.cls = RX3 ∧ yX3_noteHolders.cls ≠ "java/lang/invoke/MethodHandle" ∧ yX3_noteHolders.cls ≠ "java/lang/invoke/VarHandle" ∧ (parseMethodDescriptor yX3_noteHolders.desc).map (fun d => d.parameters.length) = some 0 := by decide +kernel
theorem zh_yX3_tellOf : yX3_tellOf.cls = RX3 ∧ yX3_tellOf.cls ≠ "java/lang/invoke/MethodHandle" ∧ yX3_tellOf.cls ≠ "java/lang/invoke/VarHandle" ∧ (parseMethodDescriptor yX3_tellOf.desc).map (fun d => d.parameters.length) = some 3 := by decide +kernel
theorem zh_yX4_in : yX4_in.cls ≠ "java/lang/invoke/MethodHandle" ∧ yX4_in.cls ≠ "java/lang/invoke/VarHandle" ∧ (parseMethodDescriptor yX4_in.desc).map (fun d => d.parameters.length) = some 3 := by decide +kernel
theorem zh_yX4_isMiner : yX4_isMiner.cls ≠ "java/lang/invoke/MethodHandle" ∧ yX4_isMiner.cls ≠ "java/lang/invoke/VarHandle" ∧ (parseMethodDescriptor yX4_isMiner.desc).map (fun d => d.parameters.length) = some 1 := by decide +kernel
theorem zh_yX4_isVein : yX4_isVein.cls ≠ "java/lang/invoke/MethodHandle" ∧ yX4_isVein.cls ≠ "java/lang/invoke/VarHandle" ∧ (parseMethodDescriptor yX4_isVein.desc).map (fun d => d.parameters.length) = some 1 := by decide +kernel
theorem zh_yX4_isFoot : yX4_isFoot.cls ≠ "java/lang/invoke/MethodHandle" ∧ yX4_isFoot.cls ≠ "java/lang/invoke/VarHandle" ∧ (parseMethodDescriptor yX4_isFoot.desc).map (fun d => d.parameters.length) = some 1 := by decide +kernel
theorem zh_yX4_isDay : yX4_isDay.cls ≠ "java/lang/invoke/MethodHandle" ∧ yX4_isDay.cls ≠ "java/lang/invoke/VarHandle" ∧ (parseMethodDescriptor yX4_isDay.desc).map (fun d => d.parameters.length) = some 1 := by decide +kernel
theorem zh_yX4_isFact : yX4_isFact.cls = RX4 ∧ yX4_isFact.cls ≠ "java/lang/invoke/MethodHandle" ∧ yX4_isFact.cls ≠ "java/lang/invoke/VarHandle" ∧ (parseMethodDescriptor yX4_isFact.desc).map (fun d => d.parameters.length) = some 1 := by decide +kernel
theorem zh_yX4_day : yX4_day.cls = RX4 ∧ yX4_day.cls ≠ "java/lang/invoke/MethodHandle" ∧ yX4_day.cls ≠ "java/lang/invoke/VarHandle" ∧ (parseMethodDescriptor yX4_day.desc).map (fun d => d.parameters.length) = some 1 := by decide +kernel
theorem zh_yX4_rule : yX4_rule.cls = RX4 ∧ yX4_rule.cls ≠ "java/lang/invoke/MethodHandle" ∧ yX4_rule.cls ≠ "java/lang/invoke/VarHandle" ∧ (parseMethodDescriptor yX4_rule.desc).map (fun d => d.parameters.length) = some 2 := by decide +kernel
theorem zh_yX4_tell : yX4_tell.cls = RX4 ∧ yX4_tell.cls ≠ "java/lang/invoke/MethodHandle" ∧ yX4_tell.cls ≠ "java/lang/invoke/VarHandle" ∧ (parseMethodDescriptor yX4_tell.desc).map (fun d => d.parameters.length) = some 4 := by decide +kernel
theorem zh_yX4_stake : yX4_stake.cls = RX4 ∧ yX4_stake.cls ≠ "java/lang/invoke/MethodHandle" ∧ yX4_stake.cls ≠ "java/lang/invoke/VarHandle" ∧ (parseMethodDescriptor yX4_stake.desc).map (fun d => d.parameters.length) = some 4 := by decide +kernel
theorem zh_yX4_wrong : yX4_wrong.cls = RX4 ∧ yX4_wrong.cls ≠ "java/lang/invoke/MethodHandle" ∧ yX4_wrong.cls ≠ "java/lang/invoke/VarHandle" ∧ (parseMethodDescriptor yX4_wrong.desc).map (fun d => d.parameters.length) = some 3 := by decide +kernel
theorem zh_yX4_work : yX4_work.cls = RX4 ∧ yX4_work.cls ≠ "java/lang/invoke/MethodHandle" ∧ yX4_work.cls ≠ "java/lang/invoke/VarHandle" ∧ (parseMethodDescriptor yX4_work.desc).map (fun d => d.parameters.length) = some 2 := by decide +kernel
theorem zh_yX4_nick : yX4_nick.cls = RX4 ∧ yX4_nick.cls ≠ "java/lang/invoke/MethodHandle" ∧ yX4_nick.cls ≠ "java/lang/invoke/VarHandle" ∧ (parseMethodDescriptor yX4_nick.desc).map (fun d => d.parameters.length) = some 3 := by decide +kernel
theorem zh_yX4_give : yX4_give.cls = RX4 ∧ yX4_give.cls ≠ "java/lang/invoke/MethodHandle" ∧ yX4_give.cls ≠ "java/lang/invoke/VarHandle" ∧ (parseMethodDescriptor yX4_give.desc).map (fun d => d.parameters.length) = some 2 := by decide +kernel
theorem zh_yX4_view : yX4_view.cls = RX4 ∧ yX4_view.cls ≠ "java/lang/invoke/MethodHandle" ∧ yX4_view.cls ≠ "java/lang/invoke/VarHandle" ∧ (parseMethodDescriptor yX4_view.desc).map (fun d => d.parameters.length) = some 4 := by decide +kernel
theorem zh_yX4_sell : yX4_sell.cls = RX4 ∧ yX4_sell.cls ≠ "java/lang/invoke/MethodHandle" ∧ yX4_sell.cls ≠ "java/lang/invoke/VarHandle" ∧ (parseMethodDescriptor yX4_sell.desc).map (fun d => d.parameters.length) = some 5 := by decide +kernel
theorem zh_yX4_dig : yX4_dig.cls = RX4 ∧ yX4_dig.cls ≠ "java/lang/invoke/MethodHandle" ∧ yX4_dig.cls ≠ "java/lang/invoke/VarHandle" ∧ (parseMethodDescriptor yX4_dig.desc).map (fun d => d.parameters.length) = some 4 := by decide +kernel
theorem zh_yX4_withdraw : yX4_withdraw.cls = RX4 ∧ yX4_withdraw.cls ≠ "java/lang/invoke/MethodHandle" ∧ yX4_withdraw.cls ≠ "java/lang/invoke/VarHandle" ∧ (parseMethodDescriptor yX4_withdraw.desc).map (fun d => d.parameters.length) = some 1 := by decide +kernel
theorem zh_yX4_fact : yX4_fact.cls = RX4 ∧ yX4_fact.cls ≠ "java/lang/invoke/MethodHandle" ∧ yX4_fact.cls ≠ "java/lang/invoke/VarHandle" ∧ (parseMethodDescriptor yX4_fact.desc).map (fun d => d.parameters.length) = some 2 := by decide +kernel
theorem zh_yX4_isKnown : yX4_isKnown.cls = RX4 ∧ yX4_isKnown.cls ≠ "java/lang/invoke/MethodHandle" ∧ yX4_isKnown.cls ≠ "java/lang/invoke/VarHandle" ∧ (parseMethodDescriptor yX4_isKnown.desc).map (fun d => d.parameters.length) = some 2 := by decide +kernel
theorem zh_yX4_go : yX4_go.cls = RX4 ∧ yX4_go.cls ≠ "java/lang/invoke/MethodHandle" ∧ yX4_go.cls ≠ "java/lang/invoke/VarHandle" ∧ (parseMethodDescriptor yX4_go.desc).map (fun d => d.parameters.length) = some 2 := by decide +kernel
theorem zh_yX4_holds : yX4_holds.cls = RX4 ∧ yX4_holds.cls ≠ "java/lang/invoke/MethodHandle" ∧ yX4_holds.cls ≠ "java/lang/invoke/VarHandle" ∧ (parseMethodDescriptor yX4_holds.desc).map (fun d => d.parameters.length) = some 3 := by decide +kernel
theorem zh_yX4_comes : yX4_comes.cls = RX4 ∧ yX4_comes.cls ≠ "java/lang/invoke/MethodHandle" ∧ yX4_comes.cls ≠ "java/lang/invoke/VarHandle" ∧ (parseMethodDescriptor yX4_comes.desc).map (fun d => d.parameters.length) = some 1 := by decide +kernel
theorem zh_yX4_comesTo : yX4_comesTo.cls = RX4 ∧ yX4_comesTo.cls ≠ "java/lang/invoke/MethodHandle" ∧ yX4_comesTo.cls ≠ "java/lang/invoke/VarHandle" ∧ (parseMethodDescriptor yX4_comesTo.desc).map (fun d => d.parameters.length) = some 3 := by decide +kernel
theorem zh_yX4_nicked : yX4_nicked.cls = RX4 ∧ yX4_nicked.cls ≠ "java/lang/invoke/MethodHandle" ∧ yX4_nicked.cls ≠ "java/lang/invoke/VarHandle" ∧ (parseMethodDescriptor yX4_nicked.desc).map (fun d => d.parameters.length) = some 3 := by decide +kernel
theorem zh_yX4_ownerOf : yX4_ownerOf.cls = RX4 ∧ yX4_ownerOf.cls ≠ "java/lang/invoke/MethodHandle" ∧ yX4_ownerOf.cls ≠ "java/lang/invoke/VarHandle" ∧ (parseMethodDescriptor yX4_ownerOf.desc).map (fun d => d.parameters.length) = some 2 := by decide +kernel
theorem zh_yX4_digs : yX4_digs.cls = RX4 ∧ yX4_digs.cls ≠ "java/lang/invoke/MethodHandle" ∧ yX4_digs.cls ≠ "java/lang/invoke/VarHandle" ∧ (parseMethodDescriptor yX4_digs.desc).map (fun d => d.parameters.length) = some 1 := by decide +kernel
theorem zh_yX4_owner : yX4_owner.cls = RX4 ∧ yX4_owner.cls ≠ "java/lang/invoke/MethodHandle" ∧ yX4_owner.cls ≠ "java/lang/invoke/VarHandle" ∧ (parseMethodDescriptor yX4_owner.desc).map (fun d => d.parameters.length) = some 4 := by decide +kernel
theorem zh_yX4_claim : yX4_claim.cls = RX4 ∧ yX4_claim.cls ≠ "java/lang/invoke/MethodHandle" ∧ yX4_claim.cls ≠ "java/lang/invoke/VarHandle" ∧ (parseMethodDescriptor yX4_claim.desc).map (fun d => d.parameters.length) = some 4 := by decide +kernel
theorem zh_yX4_owned : yX4_owned.cls = RX4 ∧ yX4_owned.cls ≠ "java/lang/invoke/MethodHandle" ∧ yX4_owned.cls ≠ "java/lang/invoke/VarHandle" ∧ (parseMethodDescriptor yX4_owned.desc).map (fun d => d.parameters.length) = some 1 := by decide +kernel
theorem zh_yX4_of : yX4_of.cls = RX4 ∧ yX4_of.cls ≠ "java/lang/invoke/MethodHandle" ∧ yX4_of.cls ≠ "java/lang/invoke/VarHandle" ∧ (parseMethodDescriptor yX4_of.desc).map (fun d => d.parameters.length) = some 4 := by decide +kernel
theorem zh_yX4_share : yX4_share.cls = RX4 ∧ yX4_share.cls ≠ "java/lang/invoke/MethodHandle" ∧ yX4_share.cls ≠ "java/lang/invoke/VarHandle" ∧ (parseMethodDescriptor yX4_share.desc).map (fun d => d.parameters.length) = some 4 := by decide +kernel
theorem zh_yX4_feet : yX4_feet.cls = RX4 ∧ yX4_feet.cls ≠ "java/lang/invoke/MethodHandle" ∧ yX4_feet.cls ≠ "java/lang/invoke/VarHandle" ∧ (parseMethodDescriptor yX4_feet.desc).map (fun d => d.parameters.length) = some 3 := by decide +kernel
theorem zh_yX4_contested : yX4_contested.cls = RX4 ∧ yX4_contested.cls ≠ "java/lang/invoke/MethodHandle" ∧ yX4_contested.cls ≠ "java/lang/invoke/VarHandle" ∧ (parseMethodDescriptor yX4_contested.desc).map (fun d => d.parameters.length) = some 3 := by decide +kernel
theorem zh_yX4_dug : yX4_dug.cls = RX4 ∧ yX4_dug.cls ≠ "java/lang/invoke/MethodHandle" ∧ yX4_dug.cls ≠ "java/lang/invoke/VarHandle" ∧ (parseMethodDescriptor yX4_dug.desc).map (fun d => d.parameters.length) = some 3 := by decide +kernel
theorem zh_yX4_due : yX4_due.cls = RX4 ∧ yX4_due.cls ≠ "java/lang/invoke/MethodHandle" ∧ yX4_due.cls ≠ "java/lang/invoke/VarHandle" ∧ (parseMethodDescriptor yX4_due.desc).map (fun d => d.parameters.length) = some 3 := by decide +kernel
theorem zh_yX4_changed : yX4_changed.cls = RX4 ∧ yX4_changed.cls ≠ "java/lang/invoke/MethodHandle" ∧ yX4_changed.cls ≠ "java/lang/invoke/VarHandle" ∧ (parseMethodDescriptor yX4_changed.desc).map (fun d => d.parameters.length) = some 3 := by decide +kernel
theorem zh_yX4_withdrawn : yX4_withdrawn.cls = RX4 ∧ yX4_withdrawn.cls ≠ "java/lang/invoke/MethodHandle" ∧ yX4_withdrawn.cls ≠ "java/lang/invoke/VarHandle" ∧ (parseMethodDescriptor yX4_withdrawn.desc).map (fun d => d.parameters.length) = some 0 := by decide +kernel
theorem zh_yX4_many : yX4_many.cls = RX4 ∧ yX4_many.cls ≠ "java/lang/invoke/MethodHandle" ∧ yX4_many.cls ≠ "java/lang/invoke/VarHandle" ∧ (parseMethodDescriptor yX4_many.desc).map (fun d => d.parameters.length) = some 1 := by decide +kernel
theorem zh_yX4_copy : yX4_copy.cls ≠ "java/lang/invoke/MethodHandle" ∧ yX4_copy.cls ≠ "java/lang/invoke/VarHandle" ∧ (parseMethodDescriptor yX4_copy.desc).map (fun d => d.parameters.length) = some 5 := by decide +kernel
theorem zh_yX4_keep : yX4_keep.cls = RX4 ∧ yX4_keep.cls ≠ "java/lang/invoke/MethodHandle" ∧ yX4_keep.cls ≠ "java/lang/invoke/VarHandle" ∧ (parseMethodDescriptor yX4_keep.desc).map (fun d => d.parameters.length) = some 0 := by decide +kernel
theorem zh_yX4_back : yX4_back.cls = RX4 ∧ yX4_back.cls ≠ "java/lang/invoke/MethodHandle" ∧ yX4_back.cls ≠ "java/lang/invoke/VarHandle" ∧ (parseMethodDescriptor yX4_back.desc).map (fun d => d.parameters.length) = some 0 := by decide +kernel
section ZC
variable {k : zKx} {l : Launch} {D : va_G} {R : Room} {cc : ByteArray} {nL : Nat} {own : String} {ty : zTy} {pc : Nat} {lv : List (Option Value)} {st : List Value} {ws : va_W}
theorem zv_cV1 {ws2 : va_W} {r : Value} (K : zv_ok k l D R cc nL own ty) {y : MethodName} {bytes : ByteArray} {maxL idx : Nat} {ret : Option FieldType} {rm : Room} {b ci q0 : Nat} {C : String} {T : u_T} {N : Nat} {fs : List Value} {As rest : List Value} (n pc2 : Nat) (hM : zv_ct l D ty y bytes maxL ret rm (.ref b :: As) ws (fun v w' => v = some r ∧ w' = ws2)) (hd : decode cc pc = .ok (.invokevirtual idx, 3)) (hp : pc + 3 = pc2) (w1 : Cond.methodLink own idx y ∈ zT) (w2 : Cond.instanceMethod y ∈ zT) (w3 : Cond.selects C y y ∈ zT) (w4 : Cond.initialized C ∈ zT) (w5 : Cond.code y bytes maxL ret ∈ zT) (hrm : rm.cells = 0 ∧ rm.slots = 0) (hy : y.cls = C ∧ y.cls ≠ "java/lang/invoke/MethodHandle" ∧ y.cls ≠ "java/lang/invoke/VarHandle" ∧ (parseMethodDescriptor y.desc).map (fun d => d.parameters.length) = some n) (hR : rm.frames + 1 ≤ R.frames ∧ 8 + (maxL + 11) + rm.locals ≤ R.locals) (he : ws[q0]? = some (b, .inr (ci, fs))) (hc : vwCl[ci]? = some (C, T, N)) (hn : As.length = n) (hst : As.reverse ++ .ref b :: rest = st) (hcat : (rest.map fun v => v.category).sum ≤ 8) (hlen : lv.length = nL) (kk : zv k pc2 lv (r :: rest) ws2) : zv k pc lv st ws := zv_cV K n pc2 hM hd hp w1 w2 w3 w4 w5 hrm hy hR he hc hn hst hcat hlen (fun v w2 h => by obtain ⟨rfl, rfl⟩ := h; exact kk)
theorem zv_cV0 {ws2 : va_W} (K : zv_ok k l D R cc nL own ty) {y : MethodName} {bytes : ByteArray} {maxL idx : Nat} {ret : Option FieldType} {rm : Room} {b ci q0 : Nat} {C : String} {T : u_T} {N : Nat} {fs : List Value} {As rest : List Value} (n pc2 : Nat) (hM : zv_ct l D ty y bytes maxL ret rm (.ref b :: As) ws (fun v w' => v = none ∧ w' = ws2)) (hd : decode cc pc = .ok (.invokevirtual idx, 3)) (hp : pc + 3 = pc2) (w1 : Cond.methodLink own idx y ∈ zT) (w2 : Cond.instanceMethod y ∈ zT) (w3 : Cond.selects C y y ∈ zT) (w4 : Cond.initialized C ∈ zT) (w5 : Cond.code y bytes maxL ret ∈ zT) (hrm : rm.cells = 0 ∧ rm.slots = 0) (hy : y.cls = C ∧ y.cls ≠ "java/lang/invoke/MethodHandle" ∧ y.cls ≠ "java/lang/invoke/VarHandle" ∧ (parseMethodDescriptor y.desc).map (fun d => d.parameters.length) = some n) (hR : rm.frames + 1 ≤ R.frames ∧ 8 + (maxL + 11) + rm.locals ≤ R.locals) (he : ws[q0]? = some (b, .inr (ci, fs))) (hc : vwCl[ci]? = some (C, T, N)) (hn : As.length = n) (hst : As.reverse ++ .ref b :: rest = st) (hcat : (rest.map fun v => v.category).sum ≤ 8) (hlen : lv.length = nL) (kk : zv k pc2 lv rest ws2) : zv k pc lv st ws := zv_cV K n pc2 hM hd hp w1 w2 w3 w4 w5 hrm hy hR he hc hn hst hcat hlen (fun v w2 h => by obtain ⟨rfl, rfl⟩ := h; exact kk)
theorem zv_cS1 {ws2 : va_W} {r : Value} (K : zv_ok k l D R cc nL own ty) {y : MethodName} {bytes : ByteArray} {maxL idx : Nat} {ret : Option FieldType} {rm : Room} {As rest : List Value} (n pc2 : Nat) (hM : zv_ct l D ty y bytes maxL ret rm As ws (fun v w' => v = some r ∧ w' = ws2)) (hd : decode cc pc = .ok (.invokestatic idx, 3)) (hp : pc + 3 = pc2) (w1 : Cond.methodLink own idx y ∈ zT) (w2 : Cond.static y ∈ zT) (w4 : Cond.initialized y.cls ∈ zT) (w5 : Cond.code y bytes maxL ret ∈ zT) (hrm : rm.cells = 0 ∧ rm.slots = 0) (hy : y.cls ≠ "java/lang/invoke/MethodHandle" ∧ y.cls ≠ "java/lang/invoke/VarHandle" ∧ (parseMethodDescriptor y.desc).map (fun d => d.parameters.length) = some n) (hR : rm.frames + 1 ≤ R.frames ∧ 8 + (maxL + 11) + rm.locals ≤ R.locals) (hn : As.length = n) (hst : As.reverse ++ rest = st) (hcat : (rest.map fun v => v.category).sum ≤ 8) (hlen : lv.length = nL) (kk : zv k pc2 lv (r :: rest) ws2) : zv k pc lv st ws := zv_cS K n pc2 hM hd hp w1 w2 w4 w5 hrm hy hR hn hst hcat hlen (fun v w2 h => by obtain ⟨rfl, rfl⟩ := h; exact kk)
theorem zv_cS0 {ws2 : va_W} (K : zv_ok k l D R cc nL own ty) {y : MethodName} {bytes : ByteArray} {maxL idx : Nat} {ret : Option FieldType} {rm : Room} {As rest : List Value} (n pc2 : Nat) (hM : zv_ct l D ty y bytes maxL ret rm As ws (fun v w' => v = none ∧ w' = ws2)) (hd : decode cc pc = .ok (.invokestatic idx, 3)) (hp : pc + 3 = pc2) (w1 : Cond.methodLink own idx y ∈ zT) (w2 : Cond.static y ∈ zT) (w4 : Cond.initialized y.cls ∈ zT) (w5 : Cond.code y bytes maxL ret ∈ zT) (hrm : rm.cells = 0 ∧ rm.slots = 0) (hy : y.cls ≠ "java/lang/invoke/MethodHandle" ∧ y.cls ≠ "java/lang/invoke/VarHandle" ∧ (parseMethodDescriptor y.desc).map (fun d => d.parameters.length) = some n) (hR : rm.frames + 1 ≤ R.frames ∧ 8 + (maxL + 11) + rm.locals ≤ R.locals) (hn : As.length = n) (hst : As.reverse ++ rest = st) (hcat : (rest.map fun v => v.category).sum ≤ 8) (hlen : lv.length = nL) (kk : zv k pc2 lv rest ws2) : zv k pc lv st ws := zv_cS K n pc2 hM hd hp w1 w2 w4 w5 hrm hy hR hn hst hcat hlen (fun v w2 h => by obtain ⟨rfl, rfl⟩ := h; exact kk)
theorem zv_cSN1 {ws2 : va_W} {r : Value} (K : zv_ok k l D R cc nL own ty) {y : MethodName} {bytes : ByteArray} {maxL idx : Nat} {ret : Option FieldType} {rm : Room} {host : String} {As rest : List Value} (n pc2 : Nat) (hM : zv_ct l D ty y bytes maxL ret rm As ws (fun v w' => v = some r ∧ w' = ws2)) (hd : decode cc pc = .ok (.invokestatic idx, 3)) (hp : pc + 3 = pc2) (w1 : Cond.methodLinkNest own idx y host ∈ zv_nest) (w2 : Cond.static y ∈ zT) (w4 : Cond.initialized y.cls ∈ zT) (w5 : Cond.code y bytes maxL ret ∈ zT) (hrm : rm.cells = 0 ∧ rm.slots = 0) (hy : y.cls ≠ "java/lang/invoke/MethodHandle" ∧ y.cls ≠ "java/lang/invoke/VarHandle" ∧ (parseMethodDescriptor y.desc).map (fun d => d.parameters.length) = some n) (hR : rm.frames + 1 ≤ R.frames ∧ 8 + (maxL + 11) + rm.locals ≤ R.locals) (hn : As.length = n) (hst : As.reverse ++ rest = st) (hcat : (rest.map fun v => v.category).sum ≤ 8) (hlen : lv.length = nL) (kk : zv k pc2 lv (r :: rest) ws2) : zv k pc lv st ws := zv_cSN K n pc2 hM hd hp w1 w2 w4 w5 hrm hy hR hn hst hcat hlen (fun v w2 h => by obtain ⟨rfl, rfl⟩ := h; exact kk)
theorem zv_cSN0 {ws2 : va_W} (K : zv_ok k l D R cc nL own ty) {y : MethodName} {bytes : ByteArray} {maxL idx : Nat} {ret : Option FieldType} {rm : Room} {host : String} {As rest : List Value} (n pc2 : Nat) (hM : zv_ct l D ty y bytes maxL ret rm As ws (fun v w' => v = none ∧ w' = ws2)) (hd : decode cc pc = .ok (.invokestatic idx, 3)) (hp : pc + 3 = pc2) (w1 : Cond.methodLinkNest own idx y host ∈ zv_nest) (w2 : Cond.static y ∈ zT) (w4 : Cond.initialized y.cls ∈ zT) (w5 : Cond.code y bytes maxL ret ∈ zT) (hrm : rm.cells = 0 ∧ rm.slots = 0) (hy : y.cls ≠ "java/lang/invoke/MethodHandle" ∧ y.cls ≠ "java/lang/invoke/VarHandle" ∧ (parseMethodDescriptor y.desc).map (fun d => d.parameters.length) = some n) (hR : rm.frames + 1 ≤ R.frames ∧ 8 + (maxL + 11) + rm.locals ≤ R.locals) (hn : As.length = n) (hst : As.reverse ++ rest = st) (hcat : (rest.map fun v => v.category).sum ≤ 8) (hlen : lv.length = nL) (kk : zv k pc2 lv rest ws2) : zv k pc lv st ws := zv_cSN K n pc2 hM hd hp w1 w2 w4 w5 hrm hy hR hn hst hcat hlen (fun v w2 h => by obtain ⟨rfl, rfl⟩ := h; exact kk)
end ZC
theorem zle {n m : Nat} (h : Nat.ble n m = true) : n ≤ m := Nat.le_of_ble_eq_true h
theorem zlt {n m : Nat} (h : Nat.ble (n + 1) m = true) : n < m := Nat.le_of_ble_eq_true h
theorem zi11 (f c : Nat) : nI f * 11 + nI c = nI (f * 11 + c) := by rw [show (11 : Int32) = nI 11 from rfl, pk_mul, nI_add]
theorem zi10 (f c : Nat) : 10 * nI f + nI c = nI (10 * f + c) := by rw [show (10 : Int32) = nI 10 from rfl, pk_mul, nI_add]
end
section
theorem z_wf {α : Type} (μ : α → Nat) {Q : α → Prop} (h : ∀ x, (∀ y, μ y < μ x → Q y) → Q x) : ∀ x, Q x := by
  have key : ∀ n x, μ x < n → Q x := by
    intro n
    induction n with
    | zero => intro x hx; exact absurd hx (Nat.not_lt_zero _)
    | succ n ih => intro x hx; exact h x (fun y hy => ih y (by omega))
  exact fun x => key (μ x + 1) x (Nat.lt_succ_self _)
theorem z_lt {c m : Nat} (h : ¬ nI c ≤ nI m) (hm : m < 2 ^ 31) : m < c := Nat.lt_of_not_le (fun q => h (nI_le q hm))
theorem z_ge {c m : Nat} (h : nI c ≤ nI m) (hc : c < 2 ^ 31) (hm : m < 2 ^ 31) : c ≤ m := (nI_leI hc hm).mp h
theorem z_pos {m : Nat} (h : ¬ nI m ≤ 0) : 0 < m := by
  rcases Nat.eq_zero_or_pos m with q | q
  · subst q; exact absurd (show nI 0 ≤ 0 by decide) h
  · exact q
theorem z_zero {m : Nat} (h : nI m ≤ 0) (hm : m < 2 ^ 31) : m = 0 := by
  rcases Nat.eq_zero_or_pos m with q | q
  · exact q
  · exact absurd h (nI_nle q hm)
theorem z_sub1 {m : Nat} (h : 0 < m) : nI m - 1 = nI (m - 1) := by
  obtain ⟨n, rfl⟩ : ∃ n, m = n + 1 := ⟨m - 1, by omega⟩
  exact nI_pred n
theorem z_dec {m : Nat} (h : 0 < m) : nI m + Int32.ofInt (-1) = nI (m - 1) := by
  obtain ⟨n, rfl⟩ : ∃ n, m = n + 1 := ⟨m - 1, by omega⟩
  exact pk_m1 n
theorem z_inc (m : Nat) : nI m + Int32.ofInt 1 = nI (m + 1) := nI_1 m
/-- an int between 0 and n (not reached) is a number -/
theorem z_nat {x : Int32} {n : Nat} (h0 : 0 ≤ x) (h1 : x < nI n) (hn : n < 2 ^ 31) : ∃ j : Nat, j < n ∧ x = nI j := by
  obtain ⟨j, hj, rfl⟩ := nI_of (x := x) (fun q => by rw [Int32.lt_iff_toInt_lt] at q; rw [Int32.le_iff_toInt_le] at h0; omega)
  exact ⟨j, (nI_ltI hj hn).mp h1, rfl⟩
theorem z_nat2 {x : Int32} {n : Nat} (h0 : 0 ≤ x) (h1 : x ≤ nI n) (hn : n < 2 ^ 31) : ∃ j : Nat, j ≤ n ∧ x = nI j := by
  obtain ⟨j, hj, rfl⟩ := nI_of (x := x) (fun q => by rw [Int32.lt_iff_toInt_lt] at q; rw [Int32.le_iff_toInt_le] at h0; omega)
  exact ⟨j, (nI_leI hj hn).mp h1, rfl⟩
theorem zFa_self (σ : zC) (j : Nat) : zFa σ j (σ.2 j) = σ := by
  unfold zFa
  refine Prod.ext rfl (funext fun j2 => ?_)
  show (if j2 = j then σ.2 j else σ.2 j2) = σ.2 j2
  by_cases h : j2 = j
  · subst h; simp
  · simp [h]
theorem zF_Fa (σ : zC) (j i : Nat) (G : Nat → Int32) (v : Int32) : zF (zFa σ j G) j i v = zFa σ j (upd G i v) := by
  unfold zF zFa
  refine Prod.ext rfl (funext fun j2 => ?_)
  show zu (fun j2 => if j2 = j then G else σ.2 j2) j i v j2 = if j2 = j then upd G i v else σ.2 j2
  by_cases h : j2 = j
  · subst h; simp [zu]
  · simp [zu, h]
theorem zFa_rd (σ : zC) (j : Nat) (G : Nat → Int32) : (zFa σ j G).2 j = G := by simp [zFa]
theorem zFa_Fa (σ : zC) (j : Nat) (G G2 : Nat → Int32) : zFa (zFa σ j G) j G2 = zFa σ j G2 := by
  unfold zFa
  refine Prod.ext rfl (funext fun j2 => ?_)
  show (if j2 = j then G2 else if j2 = j then G else σ.2 j2) = if j2 = j then G2 else σ.2 j2
  by_cases h : j2 = j <;> simp [h]
end
section
def zg (σ : zC) (f c : Nat) : Int32 := σ.2 4 (f * 11 + c)
def zp (σ : zC) (f c : Nat) (v : Int32) : zC := zF σ 4 (f * 11 + c) v
theorem z_nlt {a b : Int32} (h : ¬ a < b) : b ≤ a := by rw [Int32.le_iff_toInt_le]; rw [Int32.lt_iff_toInt_lt] at h; omega
theorem z_nle {a b : Int32} (h : ¬ a ≤ b) : b < a := by rw [Int32.lt_iff_toInt_lt]; rw [Int32.le_iff_toInt_le] at h; omega
theorem z_ltn {a b : Int32} (h : a < b) : ¬ b ≤ a := by rw [Int32.le_iff_toInt_le]; rw [Int32.lt_iff_toInt_lt] at h; omega
theorem z_len {a b : Int32} (h : a ≤ b) : ¬ b < a := by rw [Int32.lt_iff_toInt_lt]; rw [Int32.le_iff_toInt_le] at h; omega
set_option maxHeartbeats 4000000 in
set_option maxRecDepth 100000 in
theorem kX3_isWithin (l : Launch) (D : va_G) (ty : zTy) (ws : va_W) (x p q : Int32) : zv_ct l D ty yX3_isWithin cX3_isWithin 3 (some .boolean) (zR 0 0) [.int x, .int p, .int q] (ws) (fun v_ w_ => v_ = some (.int (zB (p ≤ x ∧ x ≤ q))) ∧ w_ = ws) := by
  refine zv_open (by decide) rfl rfl [some (.int x), some (.int p), some (.int q)] (by simp [zv_one, Value.category]) (zle rfl) rfl ?_
  intro k K T
  refine zv_iload_n K 1 dX3_isWithin_0 rfl rfl ?_
  refine zv_iload_n K 2 dX3_isWithin_1 rfl rfl ?_
  refine zv_icmp_lt K 14 5 dX3_isWithin_2 (by decide) rfl (fun h1 => ?_) (fun h1 => ?_)
  · skip
    refine zv_iconst K 0 15 dX3_isWithin_14 rfl (by decide) ?_
    exact zv_zret K T dX3_isWithin_15 rfl (⟨congrArg (fun z => some (Value.int z)) (Eq.symm (zB_f (by simp only [Int32.lt_iff_toInt_lt, Int32.le_iff_toInt_le] at *; omega))), rfl⟩)
  · skip
    refine zv_iload_n K 6 dX3_isWithin_5 rfl rfl ?_
    refine zv_iload_n K 7 dX3_isWithin_6 rfl rfl ?_
    refine zv_icmp_gt K 14 10 dX3_isWithin_7 (by decide) rfl (fun h2 => ?_) (fun h2 => ?_)
    · skip
      refine zv_iconst K 0 15 dX3_isWithin_14 rfl (by decide) ?_
      exact zv_zret K T dX3_isWithin_15 rfl (⟨congrArg (fun z => some (Value.int z)) (Eq.symm (zB_f (by simp only [Int32.lt_iff_toInt_lt, Int32.le_iff_toInt_le] at *; omega))), rfl⟩)
    · skip
      refine zv_iconst K 1 11 dX3_isWithin_10 rfl (by decide) ?_
      refine zv_goto K 15 dX3_isWithin_11 (by decide) ?_
      exact zv_zret K T dX3_isWithin_15 rfl (⟨congrArg (fun z => some (Value.int z)) (Eq.symm (zB_t (by simp only [Int32.lt_iff_toInt_lt, Int32.le_iff_toInt_le] at *; omega))), rfl⟩)

set_option maxHeartbeats 4000000 in
set_option maxRecDepth 100000 in
theorem kX3_isVein (l : Launch) (D : va_G) (ty : zTy) (ws : va_W) (x : Int32) : zv_ct l D ty yX3_isVein cX3_isVein 1 (some .boolean) (zR 1 22) [.int x] (ws) (fun v_ w_ => v_ = some (.int (zB (0 ≤ x ∧ x ≤ 3))) ∧ w_ = ws) := by
  refine zv_open (by decide) rfl rfl [some (.int x)] (by simp [zv_one, Value.category]) (zle rfl) rfl ?_
  intro k K T
  refine zv_iload_n K 1 dX3_isVein_0 rfl rfl ?_
  refine zv_iconst K 0 2 dX3_isVein_1 rfl (by decide) ?_
  refine zv_iconst K 3 3 dX3_isVein_2 rfl (by decide) ?_
  refine zv_cS1 K (As := [.int x, .int 0, .int 3]) (rest := []) 3 6 (kX3_isWithin l D ty (ws) x 0 3) dX3_isVein_3 rfl zw_1_145 zw_1_146 zw_1_1 zw_1_147 ⟨rfl, rfl⟩ zh_yX3_isWithin ⟨by decide, by decide⟩ rfl rfl (zle rfl) rfl ?_
  exact zv_zret K T dX3_isVein_6 zB_nar (⟨rfl, rfl⟩)

set_option maxHeartbeats 4000000 in
set_option maxRecDepth 100000 in
theorem kX3_isFoot (l : Launch) (D : va_G) (ty : zTy) (ws : va_W) (x : Int32) : zv_ct l D ty yX3_isFoot cX3_isFoot 1 (some .boolean) (zR 1 22) [.int x] (ws) (fun v_ w_ => v_ = some (.int (zB (0 ≤ x ∧ x ≤ 59))) ∧ w_ = ws) := by
  refine zv_open (by decide) rfl rfl [some (.int x)] (by simp [zv_one, Value.category]) (zle rfl) rfl ?_
  intro k K T
  refine zv_iload_n K 1 dX3_isFoot_0 rfl rfl ?_
  refine zv_iconst K 0 2 dX3_isFoot_1 rfl (by decide) ?_
  refine zv_bipush K 59 4 dX3_isFoot_2 rfl (by decide) ?_
  refine zv_cS1 K (As := [.int x, .int 0, .int 59]) (rest := []) 3 7 (kX3_isWithin l D ty (ws) x 0 59) dX3_isFoot_4 rfl zw_1_145 zw_1_146 zw_1_1 zw_1_147 ⟨rfl, rfl⟩ zh_yX3_isWithin ⟨by decide, by decide⟩ rfl rfl (zle rfl) rfl ?_
  exact zv_zret K T dX3_isFoot_7 zB_nar (⟨rfl, rfl⟩)

set_option maxHeartbeats 4000000 in
set_option maxRecDepth 100000 in
theorem kX3_isMiner (l : Launch) (D : va_G) (ty : zTy) (ws : va_W) (x : Int32) : zv_ct l D ty yX3_isMiner cX3_isMiner 1 (some .boolean) (zR 1 22) [.int x] (ws) (fun v_ w_ => v_ = some (.int (zB (0 ≤ x ∧ x ≤ 9))) ∧ w_ = ws) := by
  refine zv_open (by decide) rfl rfl [some (.int x)] (by simp [zv_one, Value.category]) (zle rfl) rfl ?_
  intro k K T
  refine zv_iload_n K 1 dX3_isMiner_0 rfl rfl ?_
  refine zv_iconst K 0 2 dX3_isMiner_1 rfl (by decide) ?_
  refine zv_bipush K 9 4 dX3_isMiner_2 rfl (by decide) ?_
  refine zv_cS1 K (As := [.int x, .int 0, .int 9]) (rest := []) 3 7 (kX3_isWithin l D ty (ws) x 0 9) dX3_isMiner_4 rfl zw_1_145 zw_1_146 zw_1_1 zw_1_147 ⟨rfl, rfl⟩ zh_yX3_isWithin ⟨by decide, by decide⟩ rfl rfl (zle rfl) rfl ?_
  exact zv_zret K T dX3_isMiner_7 zB_nar (⟨rfl, rfl⟩)

set_option maxHeartbeats 4000000 in
set_option maxRecDepth 100000 in
theorem kX3_isDay (l : Launch) (D : va_G) (ty : zTy) (ws : va_W) (x : Int32) : zv_ct l D ty yX3_isDay cX3_isDay 1 (some .boolean) (zR 1 22) [.int x] (ws) (fun v_ w_ => v_ = some (.int (zB (0 ≤ x ∧ x ≤ 999))) ∧ w_ = ws) := by
  refine zv_open (by decide) rfl rfl [some (.int x)] (by simp [zv_one, Value.category]) (zle rfl) rfl ?_
  intro k K T
  refine zv_iload_n K 1 dX3_isDay_0 rfl rfl ?_
  refine zv_iconst K 0 2 dX3_isDay_1 rfl (by decide) ?_
  refine zv_sipush K 999 5 dX3_isDay_2 rfl (by decide) ?_
  refine zv_cS1 K (As := [.int x, .int 0, .int 999]) (rest := []) 3 8 (kX3_isWithin l D ty (ws) x 0 999) dX3_isDay_5 rfl zw_1_145 zw_1_146 zw_1_1 zw_1_147 ⟨rfl, rfl⟩ zh_yX3_isWithin ⟨by decide, by decide⟩ rfl rfl (zle rfl) rfl ?_
  exact zv_zret K T dX3_isDay_8 zB_nar (⟨rfl, rfl⟩)

set_option maxHeartbeats 4000000 in
set_option maxRecDepth 100000 in
theorem kX3_areDays (l : Launch) (D : va_G) (ty : zTy) (ws : va_W) (x y : Int32) : zv_ct l D ty yX3_areDays cX3_areDays 2 (some .boolean) (zR 2 42) [.int x, .int y] (ws) (fun v_ w_ => v_ = some (.int (zB ((0 ≤ x ∧ x ≤ 999) ∧ (0 ≤ y ∧ y ≤ 999)))) ∧ w_ = ws) := by
  refine zv_open (by decide) rfl rfl [some (.int x), some (.int y)] (by simp [zv_one, Value.category]) (zle rfl) rfl ?_
  intro k K T
  refine zv_iload_n K 1 dX3_areDays_0 rfl rfl ?_
  refine zv_cS1 K (As := [.int x]) (rest := []) 1 4 (kX3_isDay l D ty (ws) x) dX3_areDays_1 rfl zw_2_21 zw_2_22 zw_1_1 zw_2_23 ⟨rfl, rfl⟩ zh_yX3_isDay ⟨by decide, by decide⟩ rfl rfl (zle rfl) rfl ?_
  refine zv_ifB_eq K 18 7 dX3_areDays_4 (by decide) rfl (fun h1 => ?_) (fun h1 => ?_)
  · skip
    refine zv_iconst K 0 19 dX3_areDays_18 rfl (by decide) ?_
    exact zv_zret K T dX3_areDays_19 rfl (⟨congrArg (fun z => some (Value.int z)) (Eq.symm (zB_f (by first | exact ⟨by assumption, by assumption⟩ | (intro q; first | exact absurd q.1 (by assumption) | exact absurd q.2 (by assumption))))), rfl⟩)
  · skip
    refine zv_iload_n K 8 dX3_areDays_7 rfl rfl ?_
    refine zv_cS1 K (As := [.int y]) (rest := []) 1 11 (kX3_isDay l D ty (ws) y) dX3_areDays_8 rfl zw_2_21 zw_2_22 zw_1_1 zw_2_23 ⟨rfl, rfl⟩ zh_yX3_isDay ⟨by decide, by decide⟩ rfl rfl (zle rfl) rfl ?_
    refine zv_ifB_eq K 18 14 dX3_areDays_11 (by decide) rfl (fun h2 => ?_) (fun h2 => ?_)
    · skip
      refine zv_iconst K 0 19 dX3_areDays_18 rfl (by decide) ?_
      exact zv_zret K T dX3_areDays_19 rfl (⟨congrArg (fun z => some (Value.int z)) (Eq.symm (zB_f (by first | exact ⟨by assumption, by assumption⟩ | (intro q; first | exact absurd q.1 (by assumption) | exact absurd q.2 (by assumption))))), rfl⟩)
    · skip
      refine zv_iconst K 1 15 dX3_areDays_14 rfl (by decide) ?_
      refine zv_goto K 19 dX3_areDays_15 (by decide) ?_
      exact zv_zret K T dX3_areDays_19 rfl (⟨congrArg (fun z => some (Value.int z)) (Eq.symm (zB_t (by first | exact ⟨by assumption, by assumption⟩ | (intro q; first | exact absurd q.1 (by assumption) | exact absurd q.2 (by assumption))))), rfl⟩)

set_option maxHeartbeats 4000000 in
set_option maxRecDepth 100000 in
theorem kX0_has (l : Launch) (D : va_G) (ty : zTy) (a : Nat → Nat) (σ : zC) (x : Int32) : zv_ct l D ty yX0_has cX0_has 2 (some .boolean) (zR 0 0) [.ref (a 1), .int x] (zc a ty σ) (fun v_ w_ => v_ = some (.int (zB (0 ≤ x ∧ x < σ.1 1 1))) ∧ w_ = zc a ty σ) := by
  refine zv_open (by decide) rfl rfl [some (.ref (a 1)), some (.int x)] (by simp [zv_one, Value.category]) (zle rfl) rfl ?_
  intro k K T
  refine zv_iload_n K 1 dX0_has_0 rfl rfl ?_
  refine zv_if_lt K 16 4 dX0_has_1 (by decide) rfl (fun h1 => ?_) (fun h1 => ?_)
  · skip
    refine zv_iconst K 0 17 dX0_has_16 rfl (by decide) ?_
    exact zv_zret K T dX0_has_17 rfl (⟨congrArg (fun z => some (Value.int z)) (Eq.symm (zB_f (by simp only [Int32.lt_iff_toInt_lt, Int32.le_iff_toInt_le] at *; omega))), rfl⟩)
  · skip
    refine zv_iload_n K 5 dX0_has_4 rfl rfl ?_
    refine zv_aload_n K 6 dX0_has_5 rfl rfl ?_
    refine zv_get (v := .int (σ.1 1 1)) (C := RX0) (T := TX0) (N := 5) K 1 1 9 dX0_has_6 rfl zy_X0 (zc_at (j := 1) (by decide)) rfl (by decide) zw_1_24 rfl ?_
    refine zv_icmp_ge K 16 12 dX0_has_9 (by decide) rfl (fun h2 => ?_) (fun h2 => ?_)
    · skip
      refine zv_iconst K 0 17 dX0_has_16 rfl (by decide) ?_
      exact zv_zret K T dX0_has_17 rfl (⟨congrArg (fun z => some (Value.int z)) (Eq.symm (zB_f (by simp only [Int32.lt_iff_toInt_lt, Int32.le_iff_toInt_le] at *; omega))), rfl⟩)
    · skip
      refine zv_iconst K 1 13 dX0_has_12 rfl (by decide) ?_
      refine zv_goto K 17 dX0_has_13 (by decide) ?_
      exact zv_zret K T dX0_has_17 rfl (⟨congrArg (fun z => some (Value.int z)) (Eq.symm (zB_t (by simp only [Int32.lt_iff_toInt_lt, Int32.le_iff_toInt_le] at *; omega))), rfl⟩)

set_option maxHeartbeats 4000000 in
set_option maxRecDepth 100000 in
theorem kX0_isFull (l : Launch) (D : va_G) (ty : zTy) (a : Nat → Nat) (σ : zC) : zv_ct l D ty yX0_isFull cX0_isFull 1 (some .boolean) (zR 0 0) [.ref (a 1)] (zc a ty σ) (fun v_ w_ => v_ = some (.int (zB (90 ≤ σ.1 1 1))) ∧ w_ = zc a ty σ) := by
  refine zv_open (by decide) rfl rfl [some (.ref (a 1))] (by simp [zv_one, Value.category]) (zle rfl) rfl ?_
  intro k K T
  refine zv_aload_n K 1 dX0_isFull_0 rfl rfl ?_
  refine zv_get (v := .int (σ.1 1 1)) (C := RX0) (T := TX0) (N := 5) K 1 1 4 dX0_isFull_1 rfl zy_X0 (zc_at (j := 1) (by decide)) rfl (by decide) zw_1_24 rfl ?_
  refine zv_bipush K 90 6 dX0_isFull_4 rfl (by decide) ?_
  refine zv_icmp_lt K 13 9 dX0_isFull_6 (by decide) rfl (fun h1 => ?_) (fun h1 => ?_)
  · skip
    refine zv_iconst K 0 14 dX0_isFull_13 rfl (by decide) ?_
    exact zv_zret K T dX0_isFull_14 rfl (⟨congrArg (fun z => some (Value.int z)) (Eq.symm (zB_f (by simp only [Int32.lt_iff_toInt_lt, Int32.le_iff_toInt_le] at *; omega))), rfl⟩)
  · skip
    refine zv_iconst K 1 10 dX0_isFull_9 rfl (by decide) ?_
    refine zv_goto K 14 dX0_isFull_10 (by decide) ?_
    exact zv_zret K T dX0_isFull_14 rfl (⟨congrArg (fun z => some (Value.int z)) (Eq.symm (zB_t (by simp only [Int32.lt_iff_toInt_lt, Int32.le_iff_toInt_le] at *; omega))), rfl⟩)

set_option maxHeartbeats 4000000 in
set_option maxRecDepth 100000 in
theorem kX0_get (l : Launch) (D : va_G) (ty : zTy) (a : Nat → Nat) (σ : zC) (x y : Int32) (f c : Nat) (hx : x = nI f) (hy : y = nI c) (hf : f < 90) (hc : c < 11) : zv_ct l D ty yX0_get cX0_get 3 (some .int) (zR 0 0) [.ref (a 1), .int x, .int y] (zc a ty σ) (fun v_ w_ => v_ = some (.int (zg σ f c)) ∧ w_ = zc a ty σ) := by
  refine zv_open (by decide) rfl rfl [some (.ref (a 1)), some (.int x), some (.int y)] (by simp [zv_one, Value.category]) (zle rfl) rfl ?_
  intro k K T
  refine zv_aload_n K 1 dX0_get_0 rfl rfl ?_
  refine zv_get (v := .ref (a 4)) (C := RX0) (T := TX0) (N := 5) K 1 3 4 dX0_get_1 rfl zy_X0 (zc_at (j := 1) (by decide)) rfl (by decide) zw_1_29 rfl ?_
  refine zv_iload_n K 5 dX0_get_4 rfl rfl ?_
  refine zv_bipush K 11 7 dX0_get_5 rfl (by decide) ?_
  refine zv_imul K 8 dX0_get_7 rfl ?_
  refine zv_iload_n K 9 dX0_get_8 rfl rfl ?_
  refine zv_iadd K 10 dX0_get_9 rfl ?_
  refine zv_iald (F := σ.2 4) K 4 (f * 11 + c) 11 dX0_get_10 rfl (zc_at (j := 4) (by decide)) (by rw [hx, hy]; exact zi11 f c) (by omega) (by decide) ?_
  exact zv_iret K T dX0_get_11 (⟨rfl, rfl⟩)

set_option maxHeartbeats 4000000 in
set_option maxRecDepth 100000 in
theorem kX0_put (l : Launch) (D : va_G) (ty : zTy) (a : Nat → Nat) (σ : zC) (x y v : Int32) (f c : Nat) (hx : x = nI f) (hy : y = nI c) (hf : f < 90) (hc : c < 11) : zv_ct l D ty yX0_put cX0_put 4 none (zR 0 0) [.ref (a 1), .int x, .int y, .int v] (zc a ty σ) (fun v_ w_ => v_ = none ∧ w_ = zc a ty (zp σ f c v)) := by
  refine zv_open (by decide) rfl rfl [some (.ref (a 1)), some (.int x), some (.int y), some (.int v)] (by simp [zv_one, Value.category]) (zle rfl) rfl ?_
  intro k K T
  refine zv_aload_n K 1 dX0_put_0 rfl rfl ?_
  refine zv_get (v := .ref (a 4)) (C := RX0) (T := TX0) (N := 5) K 1 3 4 dX0_put_1 rfl zy_X0 (zc_at (j := 1) (by decide)) rfl (by decide) zw_1_29 rfl ?_
  refine zv_iload_n K 5 dX0_put_4 rfl rfl ?_
  refine zv_bipush K 11 7 dX0_put_5 rfl (by decide) ?_
  refine zv_imul K 8 dX0_put_7 rfl ?_
  refine zv_iload_n K 9 dX0_put_8 rfl rfl ?_
  refine zv_iadd K 10 dX0_put_9 rfl ?_
  refine zv_iload_n K 11 dX0_put_10 rfl rfl ?_
  refine zv_iast K 4 (f * 11 + c) 12 (zc a ty (zF σ 4 (f * 11 + c) v)) dX0_put_11 rfl (zc_at (j := 4) (by decide)) (by rw [hx, hy]; exact zi11 f c) (by omega) (by decide) (zc_F 4 (f * 11 + c) (by decide) rfl) ?_
  exact zv_vret K T dX0_put_12 (⟨rfl, rfl⟩)

set_option maxHeartbeats 4000000 in
set_option maxRecDepth 100000 in
theorem kX0_isStake (l : Launch) (D : va_G) (ty : zTy) (a : Nat → Nat) (σ : zC) (x : Int32) (f : Nat) (hx : x = nI f) (hf : f < 90) : zv_ct l D ty yX0_isStake cX0_isStake 2 (some .boolean) (zR 1 22) [.ref (a 1), .int x] (zc a ty σ) (fun v_ w_ => v_ = some (.int (zB (zg σ f 0 = 0))) ∧ w_ = zc a ty σ) := by
  refine zv_open (by decide) rfl rfl [some (.ref (a 1)), some (.int x)] (by simp [zv_one, Value.category]) (zle rfl) rfl ?_
  intro k K T
  refine zv_aload_n K 1 dX0_isStake_0 rfl rfl ?_
  refine zv_iload_n K 2 dX0_isStake_1 rfl rfl ?_
  refine zv_iconst K 0 3 dX0_isStake_2 rfl (by decide) ?_
  refine zv_cV1 K (q0 := 1) (As := [.int x, .int 0]) (rest := []) 2 6 (kX0_get l D ty a σ x 0 f 0 hx rfl hf (by decide)) dX0_isStake_3 rfl zw_1_185 zw_1_186 zw_1_187 zw_1_2 zw_1_188 ⟨rfl, rfl⟩ zh_yX0_get ⟨by decide, by decide⟩ (zc_at (j := 1) (by decide)) rfl rfl rfl (zle rfl) rfl ?_
  refine zv_if_ne K 13 9 dX0_isStake_6 (by decide) rfl (fun h1 => ?_) (fun h1 => ?_)
  · skip
    refine zv_iconst K 0 14 dX0_isStake_13 rfl (by decide) ?_
    exact zv_zret K T dX0_isStake_14 rfl (⟨congrArg (fun z => some (Value.int z)) (Eq.symm (zB_f (by assumption))), rfl⟩)
  · skip
    refine zv_iconst K 1 10 dX0_isStake_9 rfl (by decide) ?_
    refine zv_goto K 14 dX0_isStake_10 (by decide) ?_
    exact zv_zret K T dX0_isStake_14 rfl (⟨congrArg (fun z => some (Value.int z)) (Eq.symm (zB_t (by assumption))), rfl⟩)

set_option maxHeartbeats 4000000 in
set_option maxRecDepth 100000 in
theorem kX0_isWithdrawn (l : Launch) (D : va_G) (ty : zTy) (a : Nat → Nat) (σ : zC) (x : Int32) (f : Nat) (hx : x = nI f) (hf : f < 90) : zv_ct l D ty yX0_isWithdrawn cX0_isWithdrawn 2 (some .boolean) (zR 1 22) [.ref (a 1), .int x] (zc a ty σ) (fun v_ w_ => v_ = some (.int (zB (¬ zg σ f 3 = -4))) ∧ w_ = zc a ty σ) := by
  refine zv_open (by decide) rfl rfl [some (.ref (a 1)), some (.int x)] (by simp [zv_one, Value.category]) (zle rfl) rfl ?_
  intro k K T
  refine zv_aload_n K 1 dX0_isWithdrawn_0 rfl rfl ?_
  refine zv_iload_n K 2 dX0_isWithdrawn_1 rfl rfl ?_
  refine zv_iconst K 3 3 dX0_isWithdrawn_2 rfl (by decide) ?_
  refine zv_cV1 K (q0 := 1) (As := [.int x, .int 3]) (rest := []) 2 6 (kX0_get l D ty a σ x 3 f 3 hx rfl hf (by decide)) dX0_isWithdrawn_3 rfl zw_1_185 zw_1_186 zw_1_187 zw_1_2 zw_1_188 ⟨rfl, rfl⟩ zh_yX0_get ⟨by decide, by decide⟩ (zc_at (j := 1) (by decide)) rfl rfl rfl (zle rfl) rfl ?_
  refine zv_bipush K (-4) 8 dX0_isWithdrawn_6 rfl (by decide) ?_
  refine zv_icmp_eq K 15 11 dX0_isWithdrawn_8 (by decide) rfl (fun h1 => ?_) (fun h1 => ?_)
  · skip
    refine zv_iconst K 0 16 dX0_isWithdrawn_15 rfl (by decide) ?_
    exact zv_zret K T dX0_isWithdrawn_16 rfl (⟨congrArg (fun z => some (Value.int z)) (Eq.symm (zB_f (by first | assumption | (intro h; exact h (by assumption))))), rfl⟩)
  · skip
    refine zv_iconst K 1 12 dX0_isWithdrawn_11 rfl (by decide) ?_
    refine zv_goto K 16 dX0_isWithdrawn_12 (by decide) ?_
    exact zv_zret K T dX0_isWithdrawn_16 rfl (⟨congrArg (fun z => some (Value.int z)) (Eq.symm (zB_t (by first | assumption | (intro h; exact h (by assumption))))), rfl⟩)

set_option maxHeartbeats 4000000 in
set_option maxRecDepth 100000 in
theorem kX0_isKnown (l : Launch) (D : va_G) (ty : zTy) (a : Nat → Nat) (σ : zC) (x : Int32) (f : Nat) (hx : x = nI f) (hf : f < 90) (y : Int32) : zv_ct l D ty yX0_isKnown cX0_isKnown 4 (some .boolean) (zR 2 43) [.ref (a 1), .int x, .int y] (zc a ty σ) (fun v_ w_ => v_ = some (.int (zB (zg σ f 2 ≤ y ∧ ¬ (¬ zg σ f 3 = -4 ∧ zg σ f 3 ≤ y)))) ∧ w_ = zc a ty σ) := by
  refine zv_open (by decide) rfl rfl [some (.ref (a 1)), some (.int x), some (.int y), none] (by simp [zv_one, Value.category]) (zle rfl) rfl ?_
  intro k K T
  refine zv_aload_n K 1 dX0_isKnown_0 rfl rfl ?_
  refine zv_iload_n K 2 dX0_isKnown_1 rfl rfl ?_
  refine zv_cV1 K (q0 := 1) (As := [.int x]) (rest := []) 1 5 (kX0_isWithdrawn l D ty a σ x f hx hf) dX0_isKnown_2 rfl zw_2_41 zw_2_6 zw_2_7 zw_1_2 zw_2_8 ⟨rfl, rfl⟩ zh_yX0_isWithdrawn ⟨by decide, by decide⟩ (zc_at (j := 1) (by decide)) rfl rfl rfl (zle rfl) rfl ?_
  refine zv_ifB_eq K 22 8 dX0_isKnown_5 (by decide) rfl (fun h1 => ?_) (fun h1 => ?_)
  · skip
    refine zv_iconst K 0 23 dX0_isKnown_22 rfl (by decide) ?_
    refine zv_istore_n K [some (.ref (a 1)), some (.int x), some (.int y), some (.int 0)] 24 dX0_isKnown_23 rfl rfl (zlt rfl) ?_
    refine zv_aload_n K 25 dX0_isKnown_24 rfl rfl ?_
    refine zv_iload_n K 26 dX0_isKnown_25 rfl rfl ?_
    refine zv_iconst K 2 27 dX0_isKnown_26 rfl (by decide) ?_
    refine zv_cV1 K (q0 := 1) (As := [.int x, .int 2]) (rest := []) 2 30 (kX0_get l D ty a σ x 2 f 2 hx rfl hf (by decide)) dX0_isKnown_27 rfl zw_1_185 zw_1_186 zw_1_187 zw_1_2 zw_1_188 ⟨rfl, rfl⟩ zh_yX0_get ⟨by decide, by decide⟩ (zc_at (j := 1) (by decide)) rfl rfl rfl (zle rfl) rfl ?_
    refine zv_iload_n K 31 dX0_isKnown_30 rfl rfl ?_
    refine zv_icmp_gt K 42 34 dX0_isKnown_31 (by decide) rfl (fun h2 => ?_) (fun h2 => ?_)
    · skip
      refine zv_iconst K 0 43 dX0_isKnown_42 rfl (by decide) ?_
      exact zv_zret K T dX0_isKnown_43 rfl (⟨congrArg (fun z => some (Value.int z)) (Eq.symm (zB_f (by simp_all [z_ltn, z_nlt, z_nle, z_len]))), rfl⟩)
    · skip
      refine zv_iload_n K 35 dX0_isKnown_34 rfl rfl ?_
      refine zv_if_ne K 42 38 dX0_isKnown_35 (by decide) rfl (fun h3 => ?_) (fun h3 => ?_)
      · skip
        refine zv_iconst K 0 43 dX0_isKnown_42 rfl (by decide) ?_
        exact zv_zret K T dX0_isKnown_43 rfl (⟨congrArg (fun z => some (Value.int z)) (Eq.symm (zB_f (by simp_all [z_ltn, z_nlt, z_nle, z_len]))), rfl⟩)
      · skip
        refine zv_iconst K 1 39 dX0_isKnown_38 rfl (by decide) ?_
        refine zv_goto K 43 dX0_isKnown_39 (by decide) ?_
        exact zv_zret K T dX0_isKnown_43 rfl (⟨congrArg (fun z => some (Value.int z)) (Eq.symm (zB_t (by simp_all [z_ltn, z_nlt, z_nle, z_len]))), rfl⟩)
  · skip
    refine zv_aload_n K 9 dX0_isKnown_8 rfl rfl ?_
    refine zv_iload_n K 10 dX0_isKnown_9 rfl rfl ?_
    refine zv_iconst K 3 11 dX0_isKnown_10 rfl (by decide) ?_
    refine zv_cV1 K (q0 := 1) (As := [.int x, .int 3]) (rest := []) 2 14 (kX0_get l D ty a σ x 3 f 3 hx rfl hf (by decide)) dX0_isKnown_11 rfl zw_1_185 zw_1_186 zw_1_187 zw_1_2 zw_1_188 ⟨rfl, rfl⟩ zh_yX0_get ⟨by decide, by decide⟩ (zc_at (j := 1) (by decide)) rfl rfl rfl (zle rfl) rfl ?_
    refine zv_iload_n K 15 dX0_isKnown_14 rfl rfl ?_
    refine zv_icmp_gt K 22 18 dX0_isKnown_15 (by decide) rfl (fun h4 => ?_) (fun h4 => ?_)
    · skip
      refine zv_iconst K 0 23 dX0_isKnown_22 rfl (by decide) ?_
      refine zv_istore_n K [some (.ref (a 1)), some (.int x), some (.int y), some (.int 0)] 24 dX0_isKnown_23 rfl rfl (zlt rfl) ?_
      refine zv_aload_n K 25 dX0_isKnown_24 rfl rfl ?_
      refine zv_iload_n K 26 dX0_isKnown_25 rfl rfl ?_
      refine zv_iconst K 2 27 dX0_isKnown_26 rfl (by decide) ?_
      refine zv_cV1 K (q0 := 1) (As := [.int x, .int 2]) (rest := []) 2 30 (kX0_get l D ty a σ x 2 f 2 hx rfl hf (by decide)) dX0_isKnown_27 rfl zw_1_185 zw_1_186 zw_1_187 zw_1_2 zw_1_188 ⟨rfl, rfl⟩ zh_yX0_get ⟨by decide, by decide⟩ (zc_at (j := 1) (by decide)) rfl rfl rfl (zle rfl) rfl ?_
      refine zv_iload_n K 31 dX0_isKnown_30 rfl rfl ?_
      refine zv_icmp_gt K 42 34 dX0_isKnown_31 (by decide) rfl (fun h5 => ?_) (fun h5 => ?_)
      · skip
        refine zv_iconst K 0 43 dX0_isKnown_42 rfl (by decide) ?_
        exact zv_zret K T dX0_isKnown_43 rfl (⟨congrArg (fun z => some (Value.int z)) (Eq.symm (zB_f (by simp_all [z_ltn, z_nlt, z_nle, z_len]))), rfl⟩)
      · skip
        refine zv_iload_n K 35 dX0_isKnown_34 rfl rfl ?_
        refine zv_if_ne K 42 38 dX0_isKnown_35 (by decide) rfl (fun h6 => ?_) (fun h6 => ?_)
        · skip
          refine zv_iconst K 0 43 dX0_isKnown_42 rfl (by decide) ?_
          exact zv_zret K T dX0_isKnown_43 rfl (⟨congrArg (fun z => some (Value.int z)) (Eq.symm (zB_f (by simp_all [z_ltn, z_nlt, z_nle, z_len]))), rfl⟩)
        · skip
          refine zv_iconst K 1 39 dX0_isKnown_38 rfl (by decide) ?_
          refine zv_goto K 43 dX0_isKnown_39 (by decide) ?_
          exact zv_zret K T dX0_isKnown_43 rfl (⟨congrArg (fun z => some (Value.int z)) (Eq.symm (zB_t (by simp_all [z_ltn, z_nlt, z_nle, z_len]))), rfl⟩)
    · skip
      refine zv_iconst K 1 19 dX0_isKnown_18 rfl (by decide) ?_
      refine zv_goto K 23 dX0_isKnown_19 (by decide) ?_
      refine zv_istore_n K [some (.ref (a 1)), some (.int x), some (.int y), some (.int 1)] 24 dX0_isKnown_23 rfl rfl (zlt rfl) ?_
      refine zv_aload_n K 25 dX0_isKnown_24 rfl rfl ?_
      refine zv_iload_n K 26 dX0_isKnown_25 rfl rfl ?_
      refine zv_iconst K 2 27 dX0_isKnown_26 rfl (by decide) ?_
      refine zv_cV1 K (q0 := 1) (As := [.int x, .int 2]) (rest := []) 2 30 (kX0_get l D ty a σ x 2 f 2 hx rfl hf (by decide)) dX0_isKnown_27 rfl zw_1_185 zw_1_186 zw_1_187 zw_1_2 zw_1_188 ⟨rfl, rfl⟩ zh_yX0_get ⟨by decide, by decide⟩ (zc_at (j := 1) (by decide)) rfl rfl rfl (zle rfl) rfl ?_
      refine zv_iload_n K 31 dX0_isKnown_30 rfl rfl ?_
      refine zv_icmp_gt K 42 34 dX0_isKnown_31 (by decide) rfl (fun h7 => ?_) (fun h7 => ?_)
      · skip
        refine zv_iconst K 0 43 dX0_isKnown_42 rfl (by decide) ?_
        exact zv_zret K T dX0_isKnown_43 rfl (⟨congrArg (fun z => some (Value.int z)) (Eq.symm (zB_f (by simp_all [z_ltn, z_nlt, z_nle, z_len]))), rfl⟩)
      · skip
        refine zv_iload_n K 35 dX0_isKnown_34 rfl rfl ?_
        refine zv_if_ne K 42 38 dX0_isKnown_35 (by decide) rfl (fun h8 => ?_) (fun h8 => ?_)
        · skip
          refine zv_iconst K 0 43 dX0_isKnown_42 rfl (by decide) ?_
          exact zv_zret K T dX0_isKnown_43 rfl (⟨congrArg (fun z => some (Value.int z)) (Eq.symm (zB_f (by simp_all [z_ltn, z_nlt, z_nle, z_len]))), rfl⟩)
        · skip
          refine zv_iconst K 1 39 dX0_isKnown_38 rfl (by decide) ?_
          refine zv_goto K 43 dX0_isKnown_39 (by decide) ?_
          exact zv_zret K T dX0_isKnown_43 rfl (⟨congrArg (fun z => some (Value.int z)) (Eq.symm (zB_t (by simp_all [z_ltn, z_nlt, z_nle, z_len]))), rfl⟩)

set_option maxHeartbeats 4000000 in
set_option maxRecDepth 100000 in
theorem kX0_putFeet (l : Launch) (D : va_G) (ty : zTy) (a : Nat → Nat) (σ : zC) (x p q : Int32) (f : Nat) (hx : x = nI f) (hf : f < 90) : zv_ct l D ty yX0_putFeet cX0_putFeet 4 none (zR 1 23) [.ref (a 1), .int x, .int p, .int q] (zc a ty σ) (fun v_ w_ => v_ = none ∧ w_ = zc a ty (zp (zp σ f 6 p) f 7 q)) := by
  refine zv_open (by decide) rfl rfl [some (.ref (a 1)), some (.int x), some (.int p), some (.int q)] (by simp [zv_one, Value.category]) (zle rfl) rfl ?_
  intro k K T
  refine zv_aload_n K 1 dX0_putFeet_0 rfl rfl ?_
  refine zv_iload_n K 2 dX0_putFeet_1 rfl rfl ?_
  refine zv_bipush K 6 4 dX0_putFeet_2 rfl (by decide) ?_
  refine zv_iload_n K 5 dX0_putFeet_4 rfl rfl ?_
  refine zv_cV0 K (q0 := 1) (As := [.int x, .int 6, .int p]) (rest := []) 3 8 (kX0_put l D ty a σ x 6 p f 6 hx rfl hf (by decide)) dX0_putFeet_5 rfl zw_1_177 zw_1_178 zw_1_179 zw_1_2 zw_1_180 ⟨rfl, rfl⟩ zh_yX0_put ⟨by decide, by decide⟩ (zc_at (j := 1) (by decide)) rfl rfl rfl (zle rfl) rfl ?_
  refine zv_aload_n K 9 dX0_putFeet_8 rfl rfl ?_
  refine zv_iload_n K 10 dX0_putFeet_9 rfl rfl ?_
  refine zv_bipush K 7 12 dX0_putFeet_10 rfl (by decide) ?_
  refine zv_iload_n K 13 dX0_putFeet_12 rfl rfl ?_
  refine zv_cV0 K (q0 := 1) (As := [.int x, .int 7, .int q]) (rest := []) 3 16 (kX0_put l D ty a (zp σ f 6 p) x 7 q f 7 hx rfl hf (by decide)) dX0_putFeet_13 rfl zw_1_177 zw_1_178 zw_1_179 zw_1_2 zw_1_180 ⟨rfl, rfl⟩ zh_yX0_put ⟨by decide, by decide⟩ (zc_at (j := 1) (by decide)) rfl rfl rfl (zle rfl) rfl ?_
  exact zv_vret K T dX0_putFeet_16 (⟨rfl, rfl⟩)

def zins (kf : Int32 → Int32) (ab f : Int32) : Nat → (Nat → Int32) → (Nat → Int32)
  | 0, G => upd G 0 f
  | m + 1, G => if ab < kf (G m) then zins kf ab f m (upd G (m + 1) (G m)) else upd G (m + 1) f
def zky (σ : zC) (x : Int32) : Int32 := zg σ x.toNatClampNeg 1
def zval (G : Nat → Int32) (n : Nat) : Prop := ∀ i, i < n → ∃ f : Nat, f < 90 ∧ G i = nI f
theorem zg_Fa5 (σ : zC) (G : Nat → Int32) (f c : Nat) : zg (zFa σ 5 G) f c = zg σ f c := rfl
theorem zky_nI (σ : zC) {f : Nat} (h : f < 90) : zky σ (nI f) = zg σ f 1 := by unfold zky; rw [nI_clamp (by omega)]
theorem zins_s {kf : Int32 → Int32} {ab f : Int32} {m : Nat} {G : Nat → Int32} (h : 0 < m) : zins kf ab f m G = if ab < kf (G (m - 1)) then zins kf ab f (m - 1) (upd G m (G (m - 1))) else upd G m f := by
  obtain ⟨n, rfl⟩ : ∃ n, m = n + 1 := ⟨m - 1, by omega⟩
  rfl
set_option maxHeartbeats 4000000 in
set_option maxRecDepth 100000 in
theorem kX0_setInOrder_l (l : Launch) (D : va_G) (ty : zTy) (a : Nat → Nat) (σ : zC) (x y : Int32) (Fin : Nat → Int32) {k : zKx} (K : zv_ok k l D (zR 1 22) cX0_setInOrder 4 yX0_setInOrder.cls ty) (T : zv_rt k none (fun v_ w_ => v_ = none ∧ w_ = zc a ty (zFa σ 5 Fin))) : ∀ p : Nat × (Nat → Int32), p.1 < 90 → zval p.2 p.1 → zins (zky σ) y x p.1 p.2 = Fin → zv k 5 [some (.ref (a 1)), some (.int x), some (.int y), some (.int (nI p.1))] [] (zc a ty (zFa σ 5 p.2)) := by
  refine z_wf (fun p : Nat × (Nat → Int32) => p.1) ?_
  intro ⟨m, G⟩ ih hm hG hfin
  replace hm : m < 90 := hm
  replace hG : zval G m := hG
  replace hfin : zins (zky σ) y x m G = Fin := hfin
  show zv k 5 [some (.ref (a 1)), some (.int x), some (.int y), some (.int (nI m))] [] (zc a ty (zFa σ 5 G))
  refine zv_iload_n K 6 dX0_setInOrder_5 rfl rfl ?_
  refine zv_if_le K 46 9 dX0_setInOrder_6 (by decide) rfl (fun hz => ?_) (fun hz => ?_)
  · skip
    refine zv_aload_n K 47 dX0_setInOrder_46 rfl rfl ?_
    refine zv_get (v := .ref (a 5)) (C := RX0) (T := TX0) (N := 5) K 1 4 50 dX0_setInOrder_47 rfl zy_X0 (zc_at (j := 1) (by decide)) rfl (by decide) zw_1_30 rfl ?_
    refine zv_iload_n K 51 dX0_setInOrder_50 rfl rfl ?_
    refine zv_iload_n K 52 dX0_setInOrder_51 rfl rfl ?_
    refine zv_iast K 5 m 53 (zc a ty (zF (zFa σ 5 G) 5 m x)) dX0_setInOrder_52 rfl (zc_at (j := 5) (by decide)) rfl (by omega) (by decide) (zc_F 5 m (by decide) rfl) ?_
    exact zv_vret K T dX0_setInOrder_53 (⟨rfl, congrArg (zc a ty) (by first | (rw [zF_Fa, ← hfin, z_zero hz (by omega)]; rfl) | (rw [zF_Fa, ← hfin, zins_s hpos, if_neg]; rw [eq, zky_nI σ hq]; exact z_len hc))⟩)
  · skip
    have hpos : 0 < m := z_pos hz
    refine zv_aload_n K 10 dX0_setInOrder_9 rfl rfl ?_
    refine zv_aload_n K 11 dX0_setInOrder_10 rfl rfl ?_
    refine zv_get (v := .ref (a 5)) (C := RX0) (T := TX0) (N := 5) K 1 4 14 dX0_setInOrder_11 rfl zy_X0 (zc_at (j := 1) (by decide)) rfl (by decide) zw_1_30 rfl ?_
    refine zv_iload_n K 15 dX0_setInOrder_14 rfl rfl ?_
    refine zv_iconst K 1 16 dX0_setInOrder_15 rfl (by decide) ?_
    refine zv_isub K 17 dX0_setInOrder_16 rfl ?_
    refine zv_iald (F := (zFa σ 5 G).2 5) K 5 (m - 1) 18 dX0_setInOrder_17 rfl (zc_at (j := 5) (by decide)) (z_sub1 hpos) (by omega) (by decide) ?_
    obtain ⟨q, hq, eq⟩ := hG (m - 1) (by omega)
    have eq2 : (zFa σ 5 G).2 5 (m - 1) = nI q := eq
    refine zv_iconst K 1 19 dX0_setInOrder_18 rfl (by decide) ?_
    refine zv_cV1 K (q0 := 1) (As := [.int ((zFa σ 5 G).2 5 (m - 1)), .int 1]) (rest := []) 2 22 (kX0_get l D ty a (zFa σ 5 G) ((zFa σ 5 G).2 5 (m - 1)) 1 q 1 eq rfl hq (by decide)) dX0_setInOrder_19 rfl zw_1_185 zw_1_186 zw_1_187 zw_1_2 zw_1_188 ⟨rfl, rfl⟩ zh_yX0_get ⟨by decide, by decide⟩ (zc_at (j := 1) (by decide)) rfl rfl rfl (zle rfl) rfl ?_
    refine zv_iload_n K 23 dX0_setInOrder_22 rfl rfl ?_
    refine zv_icmp_le K 46 26 dX0_setInOrder_23 (by decide) rfl (fun hc => ?_) (fun hc => ?_)
    · skip
      refine zv_aload_n K 47 dX0_setInOrder_46 rfl rfl ?_
      refine zv_get (v := .ref (a 5)) (C := RX0) (T := TX0) (N := 5) K 1 4 50 dX0_setInOrder_47 rfl zy_X0 (zc_at (j := 1) (by decide)) rfl (by decide) zw_1_30 rfl ?_
      refine zv_iload_n K 51 dX0_setInOrder_50 rfl rfl ?_
      refine zv_iload_n K 52 dX0_setInOrder_51 rfl rfl ?_
      refine zv_iast K 5 m 53 (zc a ty (zF (zFa σ 5 G) 5 m x)) dX0_setInOrder_52 rfl (zc_at (j := 5) (by decide)) rfl (by omega) (by decide) (zc_F 5 m (by decide) rfl) ?_
      exact zv_vret K T dX0_setInOrder_53 (⟨rfl, congrArg (zc a ty) (by first | (rw [zF_Fa, ← hfin, z_zero hz (by omega)]; rfl) | (rw [zF_Fa, ← hfin, zins_s hpos, if_neg]; rw [eq, zky_nI σ hq]; exact z_len hc))⟩)
    · skip
      refine zv_aload_n K 27 dX0_setInOrder_26 rfl rfl ?_
      refine zv_get (v := .ref (a 5)) (C := RX0) (T := TX0) (N := 5) K 1 4 30 dX0_setInOrder_27 rfl zy_X0 (zc_at (j := 1) (by decide)) rfl (by decide) zw_1_30 rfl ?_
      refine zv_iload_n K 31 dX0_setInOrder_30 rfl rfl ?_
      refine zv_aload_n K 32 dX0_setInOrder_31 rfl rfl ?_
      refine zv_get (v := .ref (a 5)) (C := RX0) (T := TX0) (N := 5) K 1 4 35 dX0_setInOrder_32 rfl zy_X0 (zc_at (j := 1) (by decide)) rfl (by decide) zw_1_30 rfl ?_
      refine zv_iload_n K 36 dX0_setInOrder_35 rfl rfl ?_
      refine zv_iconst K 1 37 dX0_setInOrder_36 rfl (by decide) ?_
      refine zv_isub K 38 dX0_setInOrder_37 rfl ?_
      refine zv_iald (F := (zFa σ 5 G).2 5) K 5 (m - 1) 39 dX0_setInOrder_38 rfl (zc_at (j := 5) (by decide)) (z_sub1 hpos) (by omega) (by decide) ?_
      refine zv_iast K 5 m 40 (zc a ty (zF (zFa σ 5 G) 5 m ((zFa σ 5 G).2 5 (m - 1)))) dX0_setInOrder_39 rfl (zc_at (j := 5) (by decide)) rfl (by omega) (by decide) (zc_F 5 m (by decide) rfl) ?_
      refine zv_iinc K (nI (m - 1)) [some (.ref (a 1)), some (.int x), some (.int y), some (.int (nI (m - 1)))] 43 dX0_setInOrder_40 rfl rfl (z_dec hpos) rfl ?_
      refine zv_goto K 5 dX0_setInOrder_43 (by decide) ?_
      refine zv_ws (congrArg (zc a ty) (zF_Fa σ 5 m G _)) ?_
      exact ih (m - 1, upd G m (G (m - 1))) (by show m - 1 < m; omega) (by show m - 1 < 90; omega) (fun i hi => by obtain ⟨f, h1, h2⟩ := hG i (by have : i < m - 1 := hi; omega); exact ⟨f, h1, by show upd G m (G (m - 1)) i = _; rw [upd, if_neg (by have : i < m - 1 := hi; omega)]; exact h2⟩) (by show zins (zky σ) y x (m - 1) (upd G m (G (m - 1))) = Fin; rw [← hfin, zins_s hpos, if_pos]; rw [eq, zky_nI σ hq]; exact z_nle hc)

set_option maxHeartbeats 4000000 in
set_option maxRecDepth 100000 in
theorem kX0_setInOrder (l : Launch) (D : va_G) (ty : zTy) (a : Nat → Nat) (σ : zC) (x y : Int32) (n : Nat) (hn : n < 90) (hc : σ.1 1 1 = nI n) (hG : zval (σ.2 5) n) : zv_ct l D ty yX0_setInOrder cX0_setInOrder 4 none (zR 1 22) [.ref (a 1), .int x, .int y] (zc a ty σ) (fun v_ w_ => v_ = none ∧ w_ = zc a ty (zFa σ 5 (zins (zky σ) y x n (σ.2 5)))) := by
  refine zv_open (by decide) rfl rfl [some (.ref (a 1)), some (.int x), some (.int y), none] (by simp [zv_one, Value.category]) (zle rfl) rfl ?_
  intro k K T
  refine zv_aload_n K 1 dX0_setInOrder_0 rfl rfl ?_
  refine zv_get (v := .int (σ.1 1 1)) (C := RX0) (T := TX0) (N := 5) K 1 1 4 dX0_setInOrder_1 rfl zy_X0 (zc_at (j := 1) (by decide)) rfl (by decide) zw_1_24 rfl ?_
  refine zv_topi (nI n) hc ?_
  refine zv_istore_n K [some (.ref (a 1)), some (.int x), some (.int y), some (.int (nI n))] 5 dX0_setInOrder_4 rfl rfl (zlt rfl) ?_
  refine zv_ws (congrArg (zc a ty) (zFa_self σ 5).symm) ?_
  exact kX0_setInOrder_l l D ty a σ x y _ K T (n, σ.2 5) hn hG rfl

def zfi (n m : Nat) (g : Nat → Int32) : Nat → Int32 := fun i => if n * 11 ≤ i ∧ i < n * 11 + m then -4 else g i
theorem zfi_s (σ : zC) (n m : Nat) (g : Nat → Int32) : zp (zFa σ 4 (zfi n m g)) n m (-4) = zFa σ 4 (zfi n (m + 1) g) := by
  unfold zp
  rw [zF_Fa]
  congr 1
  funext i
  unfold upd zfi
  by_cases h : i = n * 11 + m
  · rw [if_pos h, if_pos (by omega)]
  · rw [if_neg h]
    by_cases h2 : n * 11 ≤ i ∧ i < n * 11 + m
    · rw [if_pos h2, if_pos (by omega)]
    · rw [if_neg h2, if_neg (by omega)]
theorem zfi_0 (n : Nat) (g : Nat → Int32) : zfi n 0 g = g := by
  funext i
  unfold zfi
  rw [if_neg (by omega)]
def zapC (σ : zC) (n : Nat) (kd ab vn : Int32) : zC := zp (zp (zp (zp (zp (zFa σ 4 (zfi n 11 (σ.2 4))) n 0 kd) n 1 ab) n 2 (σ.1 1 0)) n 4 vn) n 8 0
def zap (σ : zC) (n : Nat) (kd ab vn : Int32) : zC := zO (zFa (zapC σ n kd ab vn) 5 (zins (zky (zapC σ n kd ab vn)) ab (nI n) n (σ.2 5))) 1 1 (nI (n + 1))
set_option maxHeartbeats 4000000 in
set_option maxRecDepth 100000 in
theorem kX0_append_l (l : Launch) (D : va_G) (ty : zTy) (a : Nat → Nat) (σ : zC) (kd ab vn : Int32) (n : Nat) (hn : n < 90) (hc : σ.1 1 1 = nI n) (hG : zval (σ.2 5) n) {k : zKx} (K : zv_ok k l D (zR 2 45) cX0_append 6 yX0_append.cls ty) (T : zv_rt k (some .int) (fun v_ w_ => v_ = some (.int (nI n)) ∧ w_ = zc a ty (zap σ n kd ab vn))) : ∀ m : Nat, m ≤ 11 → zv k 9 [some (.ref (a 1)), some (.int kd), some (.int ab), some (.int vn), some (.int (nI n)), some (.int (nI m))] [] (zc a ty (zFa σ 4 (zfi n m (σ.2 4)))) := by
  refine z_wf (fun m : Nat => 11 - m) ?_
  intro m ih hm
  refine zv_iload K 11 dX0_append_9 rfl rfl ?_
  refine zv_bipush K 11 13 dX0_append_11 rfl (by decide) ?_
  refine zv_icmp_ge K 32 16 dX0_append_13 (by decide) rfl (fun hb => ?_) (fun hb => ?_)
  · skip
    have hm2 : m = 11 := by have := z_ge (c := 11) hb (by decide) (by omega); omega
    subst hm2
    refine zv_aload_n K 33 dX0_append_32 rfl rfl ?_
    refine zv_iload K 35 dX0_append_33 rfl rfl ?_
    refine zv_iconst K 0 36 dX0_append_35 rfl (by decide) ?_
    refine zv_iload_n K 37 dX0_append_36 rfl rfl ?_
    refine zv_cV0 K (q0 := 1) (As := [.int (nI n), .int 0, .int kd]) (rest := []) 3 40 (kX0_put l D ty a (zFa σ 4 (zfi n 11 (σ.2 4))) (nI n) 0 kd n 0 rfl rfl hn (by decide)) dX0_append_37 rfl zw_1_177 zw_1_178 zw_1_179 zw_1_2 zw_1_180 ⟨rfl, rfl⟩ zh_yX0_put ⟨by decide, by decide⟩ (zc_at (j := 1) (by decide)) rfl rfl rfl (zle rfl) rfl ?_
    refine zv_aload_n K 41 dX0_append_40 rfl rfl ?_
    refine zv_iload K 43 dX0_append_41 rfl rfl ?_
    refine zv_iconst K 1 44 dX0_append_43 rfl (by decide) ?_
    refine zv_iload_n K 45 dX0_append_44 rfl rfl ?_
    refine zv_cV0 K (q0 := 1) (As := [.int (nI n), .int 1, .int ab]) (rest := []) 3 48 (kX0_put l D ty a (zp (zFa σ 4 (zfi n 11 (σ.2 4))) n 0 kd) (nI n) 1 ab n 1 rfl rfl hn (by decide)) dX0_append_45 rfl zw_1_177 zw_1_178 zw_1_179 zw_1_2 zw_1_180 ⟨rfl, rfl⟩ zh_yX0_put ⟨by decide, by decide⟩ (zc_at (j := 1) (by decide)) rfl rfl rfl (zle rfl) rfl ?_
    refine zv_aload_n K 49 dX0_append_48 rfl rfl ?_
    refine zv_iload K 51 dX0_append_49 rfl rfl ?_
    refine zv_iconst K 2 52 dX0_append_51 rfl (by decide) ?_
    refine zv_aload_n K 53 dX0_append_52 rfl rfl ?_
    refine zv_get (v := .int (σ.1 1 0)) (C := RX0) (T := TX0) (N := 5) K 1 0 56 dX0_append_53 rfl zy_X0 (zc_at (j := 1) (by decide)) rfl (by decide) zw_1_23 rfl ?_
    refine zv_cV0 K (q0 := 1) (As := [.int (nI n), .int 2, .int (σ.1 1 0)]) (rest := []) 3 59 (kX0_put l D ty a (zp (zp (zFa σ 4 (zfi n 11 (σ.2 4))) n 0 kd) n 1 ab) (nI n) 2 (σ.1 1 0) n 2 rfl rfl hn (by decide)) dX0_append_56 rfl zw_1_177 zw_1_178 zw_1_179 zw_1_2 zw_1_180 ⟨rfl, rfl⟩ zh_yX0_put ⟨by decide, by decide⟩ (zc_at (j := 1) (by decide)) rfl rfl rfl (zle rfl) rfl ?_
    refine zv_aload_n K 60 dX0_append_59 rfl rfl ?_
    refine zv_iload K 62 dX0_append_60 rfl rfl ?_
    refine zv_iconst K 4 63 dX0_append_62 rfl (by decide) ?_
    refine zv_iload_n K 64 dX0_append_63 rfl rfl ?_
    refine zv_cV0 K (q0 := 1) (As := [.int (nI n), .int 4, .int vn]) (rest := []) 3 67 (kX0_put l D ty a (zp (zp (zp (zFa σ 4 (zfi n 11 (σ.2 4))) n 0 kd) n 1 ab) n 2 (σ.1 1 0)) (nI n) 4 vn n 4 rfl rfl hn (by decide)) dX0_append_64 rfl zw_1_177 zw_1_178 zw_1_179 zw_1_2 zw_1_180 ⟨rfl, rfl⟩ zh_yX0_put ⟨by decide, by decide⟩ (zc_at (j := 1) (by decide)) rfl rfl rfl (zle rfl) rfl ?_
    refine zv_aload_n K 68 dX0_append_67 rfl rfl ?_
    refine zv_iload K 70 dX0_append_68 rfl rfl ?_
    refine zv_bipush K 8 72 dX0_append_70 rfl (by decide) ?_
    refine zv_iconst K 0 73 dX0_append_72 rfl (by decide) ?_
    refine zv_cV0 K (q0 := 1) (As := [.int (nI n), .int 8, .int 0]) (rest := []) 3 76 (kX0_put l D ty a (zp (zp (zp (zp (zFa σ 4 (zfi n 11 (σ.2 4))) n 0 kd) n 1 ab) n 2 (σ.1 1 0)) n 4 vn) (nI n) 8 0 n 8 rfl rfl hn (by decide)) dX0_append_73 rfl zw_1_177 zw_1_178 zw_1_179 zw_1_2 zw_1_180 ⟨rfl, rfl⟩ zh_yX0_put ⟨by decide, by decide⟩ (zc_at (j := 1) (by decide)) rfl rfl rfl (zle rfl) rfl ?_
    refine zv_aload_n K 77 dX0_append_76 rfl rfl ?_
    refine zv_iload K 79 dX0_append_77 rfl rfl ?_
    refine zv_iload_n K 80 dX0_append_79 rfl rfl ?_
    refine zv_cV0 K (q0 := 1) (As := [.int (nI n), .int ab]) (rest := []) 2 83 (kX0_setInOrder l D ty a (zp (zp (zp (zp (zp (zFa σ 4 (zfi n 11 (σ.2 4))) n 0 kd) n 1 ab) n 2 (σ.1 1 0)) n 4 vn) n 8 0) (nI n) ab n hn hc hG) dX0_append_80 rfl zw_1_181 zw_1_183 zw_p1_1 zw_1_2 zw_1_184 ⟨rfl, rfl⟩ zh_yX0_setInOrder ⟨by decide, by decide⟩ (zc_at (j := 1) (by decide)) rfl rfl rfl (zle rfl) rfl ?_
    refine zv_aload_n K 84 dX0_append_83 rfl rfl ?_
    refine zv_dup K 85 dX0_append_84 rfl rfl ?_
    refine zv_get (v := .int (σ.1 1 1)) (C := RX0) (T := TX0) (N := 5) K 1 1 88 dX0_append_85 rfl zy_X0 (zc_at (j := 1) (by decide)) rfl (by decide) zw_1_24 rfl ?_
    refine zv_topi (nI n) hc ?_
    refine zv_iconst K 1 89 dX0_append_88 rfl (by decide) ?_
    refine zv_iadd K 90 dX0_append_89 rfl ?_
    refine zv_topi (nI (n + 1)) (nI_1 n) ?_
    refine zv_put (C := RX0) (T := TX0) (N := 5) K 1 1 93 (zc a ty (zO (zFa (zp (zp (zp (zp (zp (zFa σ 4 (zfi n 11 (σ.2 4))) n 0 kd) n 1 ab) n 2 (σ.1 1 0)) n 4 vn) n 8 0) 5 (zins (zky (zp (zp (zp (zp (zp (zFa σ 4 (zfi n 11 (σ.2 4))) n 0 kd) n 1 ab) n 2 (σ.1 1 0)) n 4 vn) n 8 0)) ab (nI n) n (σ.2 5))) 1 1 (nI (n + 1)))) dX0_append_90 rfl zy_X0 tyX0_ok nmX0 (zc_at (j := 1) (by decide)) rfl (by decide) zw_1_24 rfl rfl rfl rfl (zlt rfl) (zc_O 1 1 (by decide) rfl) ?_
    refine zv_iload K 95 dX0_append_93 rfl rfl ?_
    exact zv_iret K T dX0_append_95 (⟨rfl, rfl⟩)
  · skip
    have hm11 : m < 11 := z_lt (c := 11) hb (by omega)
    refine zv_aload_n K 17 dX0_append_16 rfl rfl ?_
    refine zv_iload K 19 dX0_append_17 rfl rfl ?_
    refine zv_iload K 21 dX0_append_19 rfl rfl ?_
    refine zv_bipush K (-4) 23 dX0_append_21 rfl (by decide) ?_
    refine zv_cV0 K (q0 := 1) (As := [.int (nI n), .int (nI m), .int (-4)]) (rest := []) 3 26 (kX0_put l D ty a (zFa σ 4 (zfi n m (σ.2 4))) (nI n) (nI m) (-4) n m rfl rfl hn hm11) dX0_append_23 rfl zw_1_177 zw_1_178 zw_1_179 zw_1_2 zw_1_180 ⟨rfl, rfl⟩ zh_yX0_put ⟨by decide, by decide⟩ (zc_at (j := 1) (by decide)) rfl rfl rfl (zle rfl) rfl ?_
    refine zv_iinc K (nI (m + 1)) [some (.ref (a 1)), some (.int kd), some (.int ab), some (.int vn), some (.int (nI n)), some (.int (nI (m + 1)))] 29 dX0_append_26 rfl rfl (z_inc m) rfl ?_
    refine zv_goto K 9 dX0_append_29 (by decide) ?_
    refine zv_ws (congrArg (zc a ty) (zfi_s σ n m _)) ?_
    exact ih (m + 1) (by omega) (by omega)

set_option maxHeartbeats 4000000 in
set_option maxRecDepth 100000 in
theorem kX0_append (l : Launch) (D : va_G) (ty : zTy) (a : Nat → Nat) (σ : zC) (kd ab vn : Int32) (n : Nat) (hn : n < 90) (hc : σ.1 1 1 = nI n) (hG : zval (σ.2 5) n) : zv_ct l D ty yX0_append cX0_append 6 (some .int) (zR 2 45) [.ref (a 1), .int kd, .int ab, .int vn] (zc a ty σ) (fun v_ w_ => v_ = some (.int (nI n)) ∧ w_ = zc a ty (zap σ n kd ab vn)) := by
  refine zv_open (by decide) rfl rfl [some (.ref (a 1)), some (.int kd), some (.int ab), some (.int vn), none, none] (by simp [zv_one, Value.category]) (zle rfl) rfl ?_
  intro k K T
  refine zv_aload_n K 1 dX0_append_0 rfl rfl ?_
  refine zv_get (v := .int (σ.1 1 1)) (C := RX0) (T := TX0) (N := 5) K 1 1 4 dX0_append_1 rfl zy_X0 (zc_at (j := 1) (by decide)) rfl (by decide) zw_1_24 rfl ?_
  refine zv_topi (nI n) hc ?_
  refine zv_istore K [some (.ref (a 1)), some (.int kd), some (.int ab), some (.int vn), some (.int (nI n)), none] 6 dX0_append_4 rfl rfl (zlt rfl) ?_
  refine zv_iconst K 0 7 dX0_append_6 rfl (by decide) ?_
  refine zv_istore K [some (.ref (a 1)), some (.int kd), some (.int ab), some (.int vn), some (.int (nI n)), some (.int 0)] 9 dX0_append_7 rfl rfl (zlt rfl) ?_
  refine zv_ws (congrArg (zc a ty) (show σ = zFa σ 4 (zfi n 0 (σ.2 4)) by rw [zfi_0, zFa_self])) ?_
  exact kX0_append_l l D ty a σ kd ab vn n hn hc hG K T 0 (by decide)

set_option maxHeartbeats 4000000 in
set_option maxRecDepth 100000 in
theorem kX0_appendOf (l : Launch) (D : va_G) (ty : zTy) (a : Nat → Nat) (σ : zC) (kd ab x : Int32) (f n : Nat) (hx : x = nI f) (hf : f < 90) (hn : n < 90) (hc : σ.1 1 1 = nI n) (hG : zval (σ.2 5) n) : zv_ct l D ty yX0_appendOf cX0_appendOf 5 (some .int) (zR 3 70) [.ref (a 1), .int kd, .int ab, .int x] (zc a ty σ) (fun v_ w_ => v_ = some (.int (nI n)) ∧ w_ = zc a ty (zp (zap σ n kd ab (zg σ f 4)) n 9 x)) := by
  refine zv_open (by decide) rfl rfl [some (.ref (a 1)), some (.int kd), some (.int ab), some (.int x), none] (by simp [zv_one, Value.category]) (zle rfl) rfl ?_
  intro k K T
  refine zv_aload_n K 1 dX0_appendOf_0 rfl rfl ?_
  refine zv_iload_n K 2 dX0_appendOf_1 rfl rfl ?_
  refine zv_iload_n K 3 dX0_appendOf_2 rfl rfl ?_
  refine zv_aload_n K 4 dX0_appendOf_3 rfl rfl ?_
  refine zv_iload_n K 5 dX0_appendOf_4 rfl rfl ?_
  refine zv_iconst K 4 6 dX0_appendOf_5 rfl (by decide) ?_
  refine zv_cV1 K (q0 := 1) (As := [.int x, .int 4]) (rest := [.int ab, .int kd, .ref (a 1)]) 2 9 (kX0_get l D ty a σ x 4 f 4 hx rfl hf (by decide)) dX0_appendOf_6 rfl zw_1_185 zw_1_186 zw_1_187 zw_1_2 zw_1_188 ⟨rfl, rfl⟩ zh_yX0_get ⟨by decide, by decide⟩ (zc_at (j := 1) (by decide)) rfl rfl rfl (zle rfl) rfl ?_
  refine zv_cV1 K (q0 := 1) (As := [.int kd, .int ab, .int (zg σ f 4)]) (rest := []) 3 12 (kX0_append l D ty a σ kd ab (zg σ f 4) n hn hc hG) dX0_appendOf_9 rfl zw_1_220 zw_1_174 zw_1_175 zw_1_2 zw_1_176 ⟨rfl, rfl⟩ zh_yX0_append ⟨by decide, by decide⟩ (zc_at (j := 1) (by decide)) rfl rfl rfl (zle rfl) rfl ?_
  refine zv_istore K [some (.ref (a 1)), some (.int kd), some (.int ab), some (.int x), some (.int (nI n))] 14 dX0_appendOf_12 rfl rfl (zlt rfl) ?_
  refine zv_aload_n K 15 dX0_appendOf_14 rfl rfl ?_
  refine zv_iload K 17 dX0_appendOf_15 rfl rfl ?_
  refine zv_bipush K 9 19 dX0_appendOf_17 rfl (by decide) ?_
  refine zv_iload_n K 20 dX0_appendOf_19 rfl rfl ?_
  refine zv_cV0 K (q0 := 1) (As := [.int (nI n), .int 9, .int x]) (rest := []) 3 23 (kX0_put l D ty a (zap σ n kd ab (zg σ f 4)) (nI n) 9 x n 9 rfl rfl hn (by decide)) dX0_appendOf_20 rfl zw_1_177 zw_1_178 zw_1_179 zw_1_2 zw_1_180 ⟨rfl, rfl⟩ zh_yX0_put ⟨by decide, by decide⟩ (zc_at (j := 1) (by decide)) rfl rfl rfl (zle rfl) rfl ?_
  refine zv_iload K 25 dX0_appendOf_23 rfl rfl ?_
  exact zv_iret K T dX0_appendOf_25 (⟨rfl, rfl⟩)

def zct (p : Nat → Bool) : Nat → Nat
  | 0 => 0
  | n + 1 => zct p n + (if p n then 1 else 0)
theorem zct_le (p : Nat → Bool) : ∀ n, zct p n ≤ n
  | 0 => Nat.le_refl 0
  | n + 1 => by
    have h := zct_le p n
    unfold zct
    split <;> omega
theorem zct_t {p : Nat → Bool} {n : Nat} (h : p n = true) : zct p (n + 1) = zct p n + 1 := by simp [zct, h]
theorem zct_f {p : Nat → Bool} {n : Nat} (h : p n = false) : zct p (n + 1) = zct p n := by simp [zct, h]
theorem zct_congr {p q : Nat → Bool} : ∀ {n : Nat}, (∀ i, i < n → p i = q i) → zct p n = zct q n
  | 0, _ => rfl
  | n + 1, h => by unfold zct; rw [zct_congr (fun i hi => h i (by omega)), h n (by omega)]
set_option maxHeartbeats 4000000 in
set_option maxRecDepth 100000 in
theorem kX0_countWithdrawn_l (l : Launch) (D : va_G) (ty : zTy) (a : Nat → Nat) (σ : zC) (n : Nat) (hn : n ≤ 90) (hc : σ.1 1 1 = nI n) {k : zKx} (K : zv_ok k l D (zR 2 43) cX0_countWithdrawn 3 yX0_countWithdrawn.cls ty) (T : zv_rt k (some .int) (fun v_ w_ => v_ = some (.int (nI (zct (fun f => decide (¬ zg σ f 3 = -4)) n))) ∧ w_ = zc a ty σ)) : ∀ m : Nat, m ≤ n → zv k 4 [some (.ref (a 1)), some (.int (nI (zct (fun f => decide (¬ zg σ f 3 = -4)) m))), some (.int (nI m))] [] (zc a ty σ) := by
  refine z_wf (fun m : Nat => n - m) ?_
  intro m ih hm
  refine zv_iload_n K 5 dX0_countWithdrawn_4 rfl rfl ?_
  refine zv_aload_n K 6 dX0_countWithdrawn_5 rfl rfl ?_
  refine zv_get (v := .int (σ.1 1 1)) (C := RX0) (T := TX0) (N := 5) K 1 1 9 dX0_countWithdrawn_6 rfl zy_X0 (zc_at (j := 1) (by decide)) rfl (by decide) zw_1_24 rfl ?_
  refine zv_topi (nI n) hc ?_
  refine zv_icmp_ge K 29 12 dX0_countWithdrawn_9 (by decide) rfl (fun hb => ?_) (fun hb => ?_)
  · skip
    have hm2 : m = n := by have := z_ge hb (by omega) (by omega); omega
    refine zv_iload_n K 30 dX0_countWithdrawn_29 rfl rfl ?_
    exact zv_iret K T dX0_countWithdrawn_30 (⟨by rw [hm2], rfl⟩)
  · skip
    have hlt : m < n := z_lt hb (by omega)
    refine zv_aload_n K 13 dX0_countWithdrawn_12 rfl rfl ?_
    refine zv_iload_n K 14 dX0_countWithdrawn_13 rfl rfl ?_
    refine zv_cV1 K (q0 := 1) (As := [.int (nI m)]) (rest := []) 1 17 (kX0_isWithdrawn l D ty a σ (nI m) m rfl (by omega)) dX0_countWithdrawn_14 rfl zw_2_41 zw_2_6 zw_2_7 zw_1_2 zw_2_8 ⟨rfl, rfl⟩ zh_yX0_isWithdrawn ⟨by decide, by decide⟩ (zc_at (j := 1) (by decide)) rfl rfl rfl (zle rfl) rfl ?_
    refine zv_ifB_eq K 23 20 dX0_countWithdrawn_17 (by decide) rfl (fun hw => ?_) (fun hw => ?_)
    · skip
      refine zv_iinc K (nI (m + 1)) [some (.ref (a 1)), some (.int (nI (zct (fun f => decide (¬ zg σ f 3 = -4)) m))), some (.int (nI (m + 1)))] 26 dX0_countWithdrawn_23 rfl rfl (z_inc m) rfl ?_
      refine zv_goto K 4 dX0_countWithdrawn_26 (by decide) ?_
      refine zv_eq (lv2 := [some (.ref (a 1)), some (.int (nI (zct (fun f => decide (¬ zg σ f 3 = -4)) (m + 1)))), some (.int (nI (m + 1)))]) rfl (by first | rw [zct_t (decide_eq_true hw)] | rw [zct_f (decide_eq_false hw)]) rfl rfl ?_
      exact ih (m + 1) (by omega) (by omega)
    · skip
      refine zv_iinc K (nI ((zct (fun f => decide (¬ zg σ f 3 = -4))) m + 1)) [some (.ref (a 1)), some (.int (nI ((zct (fun f => decide (¬ zg σ f 3 = -4))) m + 1))), some (.int (nI m))] 23 dX0_countWithdrawn_20 rfl rfl (nI_1 _) rfl ?_
      refine zv_iinc K (nI (m + 1)) [some (.ref (a 1)), some (.int (nI ((zct (fun f => decide (¬ zg σ f 3 = -4))) m + 1))), some (.int (nI (m + 1)))] 26 dX0_countWithdrawn_23 rfl rfl (z_inc m) rfl ?_
      refine zv_goto K 4 dX0_countWithdrawn_26 (by decide) ?_
      refine zv_eq (lv2 := [some (.ref (a 1)), some (.int (nI (zct (fun f => decide (¬ zg σ f 3 = -4)) (m + 1)))), some (.int (nI (m + 1)))]) rfl (by first | rw [zct_t (decide_eq_true hw)] | rw [zct_f (decide_eq_false hw)]) rfl rfl ?_
      exact ih (m + 1) (by omega) (by omega)

set_option maxHeartbeats 4000000 in
set_option maxRecDepth 100000 in
theorem kX0_countWithdrawn (l : Launch) (D : va_G) (ty : zTy) (a : Nat → Nat) (σ : zC) (n : Nat) (hn : n ≤ 90) (hc : σ.1 1 1 = nI n) : zv_ct l D ty yX0_countWithdrawn cX0_countWithdrawn 3 (some .int) (zR 2 43) [.ref (a 1)] (zc a ty σ) (fun v_ w_ => v_ = some (.int (nI (zct (fun f => decide (¬ zg σ f 3 = -4)) n))) ∧ w_ = zc a ty σ) := by
  refine zv_open (by decide) rfl rfl [some (.ref (a 1)), none, none] (by simp [zv_one, Value.category]) (zle rfl) rfl ?_
  intro k K T
  refine zv_iconst K 0 1 dX0_countWithdrawn_0 rfl (by decide) ?_
  refine zv_istore_n K [some (.ref (a 1)), some (.int 0), none] 2 dX0_countWithdrawn_1 rfl rfl (zlt rfl) ?_
  refine zv_iconst K 0 3 dX0_countWithdrawn_2 rfl (by decide) ?_
  refine zv_istore_n K [some (.ref (a 1)), some (.int 0), some (.int 0)] 4 dX0_countWithdrawn_3 rfl rfl (zlt rfl) ?_
  exact kX0_countWithdrawn_l l D ty a σ n hn hc K T 0 (Nat.zero_le _)

def zcp1 (σ : zC) : zC := (zFa (zFa (zO (zO (zO σ 1 0 (σ.1 2 0)) 1 1 (σ.1 2 1)) 1 2 (σ.1 2 2)) 4 (va_cpy (σ.2 6) (σ.2 4) 0 0 990)) 5 (va_cpy (σ.2 7) (σ.2 5) 0 0 90))
set_option maxHeartbeats 4000000 in
set_option maxRecDepth 100000 in
theorem kX0_copyFrom1 (l : Launch) (D : va_G) (ty : zTy) (a : Nat → Nat) (σ : zC) : zv_ct l D ty yX0_copyFrom cX0_copyFrom 2 none (zR 1 40) [.ref (a 1), .ref (a 2)] (zc a ty σ) (fun v_ w_ => v_ = none ∧ w_ = zc a ty (zcp1 σ)) := by
  refine zv_open (by decide) rfl rfl [some (.ref (a 1)), some (.ref (a 2))] (by simp [zv_one, Value.category]) (zle rfl) rfl ?_
  intro k K T
  refine zv_aload_n K 1 dX0_copyFrom_0 rfl rfl ?_
  refine zv_aload_n K 2 dX0_copyFrom_1 rfl rfl ?_
  refine zv_get (v := .int (σ.1 2 0)) (C := RX0) (T := TX0) (N := 5) K 2 0 5 dX0_copyFrom_2 rfl zy_X0 (zc_at (j := 2) (by decide)) rfl (by decide) zw_1_23 rfl ?_
  refine zv_put (C := RX0) (T := TX0) (N := 5) K 1 0 8 (zc a ty (zO σ 1 0 (σ.1 2 0))) dX0_copyFrom_5 rfl zy_X0 tyX0_ok nmX0 (zc_at (j := 1) (by decide)) rfl (by decide) zw_1_23 rfl rfl rfl rfl (zlt rfl) (zc_O 1 0 (by decide) rfl) ?_
  refine zv_aload_n K 9 dX0_copyFrom_8 rfl rfl ?_
  refine zv_aload_n K 10 dX0_copyFrom_9 rfl rfl ?_
  refine zv_get (v := .int (σ.1 2 1)) (C := RX0) (T := TX0) (N := 5) K 2 1 13 dX0_copyFrom_10 rfl zy_X0 (zc_at (j := 2) (by decide)) rfl (by decide) zw_1_24 rfl ?_
  refine zv_put (C := RX0) (T := TX0) (N := 5) K 1 1 16 (zc a ty (zO (zO σ 1 0 (σ.1 2 0)) 1 1 (σ.1 2 1))) dX0_copyFrom_13 rfl zy_X0 tyX0_ok nmX0 (zc_at (j := 1) (by decide)) rfl (by decide) zw_1_24 rfl rfl rfl rfl (zlt rfl) (zc_O 1 1 (by decide) rfl) ?_
  refine zv_aload_n K 17 dX0_copyFrom_16 rfl rfl ?_
  refine zv_aload_n K 18 dX0_copyFrom_17 rfl rfl ?_
  refine zv_get (v := .int (σ.1 2 2)) (C := RX0) (T := TX0) (N := 5) K 2 2 21 dX0_copyFrom_18 rfl zy_X0 (zc_at (j := 2) (by decide)) rfl (by decide) zw_1_28 rfl ?_
  refine zv_put (C := RX0) (T := TX0) (N := 5) K 1 2 24 (zc a ty (zO (zO (zO σ 1 0 (σ.1 2 0)) 1 1 (σ.1 2 1)) 1 2 (σ.1 2 2))) dX0_copyFrom_21 rfl zy_X0 tyX0_ok nmX0 (zc_at (j := 1) (by decide)) rfl (by decide) zw_1_28 rfl rfl rfl rfl (zlt rfl) (zc_O 1 2 (by decide) rfl) ?_
  refine zv_aload_n K 25 dX0_copyFrom_24 rfl rfl ?_
  refine zv_get (v := .ref (a 6)) (C := RX0) (T := TX0) (N := 5) K 2 3 28 dX0_copyFrom_25 rfl zy_X0 (zc_at (j := 2) (by decide)) rfl (by decide) zw_1_29 rfl ?_
  refine zv_iconst K 0 29 dX0_copyFrom_28 rfl (by decide) ?_
  refine zv_aload_n K 30 dX0_copyFrom_29 rfl rfl ?_
  refine zv_get (v := .ref (a 4)) (C := RX0) (T := TX0) (N := 5) K 1 3 33 dX0_copyFrom_30 rfl zy_X0 (zc_at (j := 1) (by decide)) rfl (by decide) zw_1_29 rfl ?_
  refine zv_iconst K 0 34 dX0_copyFrom_33 rfl (by decide) ?_
  refine zv_aload_n K 35 dX0_copyFrom_34 rfl rfl ?_
  refine zv_get (v := .ref (a 4)) (C := RX0) (T := TX0) (N := 5) K 1 3 38 dX0_copyFrom_35 rfl zy_X0 (zc_at (j := 1) (by decide)) rfl (by decide) zw_1_29 rfl ?_
  refine zv_alen K 4 39 990 dX0_copyFrom_38 rfl (zc_at (j := 4) (by decide)) rfl ?_
  refine zv_copy (F := σ.2 6) (G := σ.2 4) K 6 4 42 (zc a ty (zFa (zO (zO (zO σ 1 0 (σ.1 2 0)) 1 1 (σ.1 2 1)) 1 2 (σ.1 2 2)) 4 (va_cpy (σ.2 6) (σ.2 4) 0 0 990))) dX0_copyFrom_39 rfl zw_2_175 zw_2_177 zw_2_176 zw_1_7 (zc_at (j := 6) (by decide)) (zc_at (j := 4) (by decide)) (by decide) (by decide) (by decide) (by decide) (by decide) (by decide) (by decide) rfl (zc_Fa 4 (by decide) rfl) ?_
  refine zv_aload_n K 43 dX0_copyFrom_42 rfl rfl ?_
  refine zv_get (v := .ref (a 7)) (C := RX0) (T := TX0) (N := 5) K 2 4 46 dX0_copyFrom_43 rfl zy_X0 (zc_at (j := 2) (by decide)) rfl (by decide) zw_1_30 rfl ?_
  refine zv_iconst K 0 47 dX0_copyFrom_46 rfl (by decide) ?_
  refine zv_aload_n K 48 dX0_copyFrom_47 rfl rfl ?_
  refine zv_get (v := .ref (a 5)) (C := RX0) (T := TX0) (N := 5) K 1 4 51 dX0_copyFrom_48 rfl zy_X0 (zc_at (j := 1) (by decide)) rfl (by decide) zw_1_30 rfl ?_
  refine zv_iconst K 0 52 dX0_copyFrom_51 rfl (by decide) ?_
  refine zv_aload_n K 53 dX0_copyFrom_52 rfl rfl ?_
  refine zv_get (v := .ref (a 5)) (C := RX0) (T := TX0) (N := 5) K 1 4 56 dX0_copyFrom_53 rfl zy_X0 (zc_at (j := 1) (by decide)) rfl (by decide) zw_1_30 rfl ?_
  refine zv_alen K 5 57 90 dX0_copyFrom_56 rfl (zc_at (j := 5) (by decide)) rfl ?_
  refine zv_copy (F := σ.2 7) (G := σ.2 5) K 7 5 60 (zc a ty (zFa (zFa (zO (zO (zO σ 1 0 (σ.1 2 0)) 1 1 (σ.1 2 1)) 1 2 (σ.1 2 2)) 4 (va_cpy (σ.2 6) (σ.2 4) 0 0 990)) 5 (va_cpy (σ.2 7) (σ.2 5) 0 0 90))) dX0_copyFrom_57 rfl zw_2_175 zw_2_177 zw_2_176 zw_1_7 (zc_at (j := 7) (by decide)) (zc_at (j := 5) (by decide)) (by decide) (by decide) (by decide) (by decide) (by decide) (by decide) (by decide) rfl (zc_Fa 5 (by decide) rfl) ?_
  exact zv_vret K T dX0_copyFrom_60 (⟨rfl, rfl⟩)

def zcp2 (σ : zC) : zC := (zFa (zFa (zO (zO (zO σ 2 0 (σ.1 1 0)) 2 1 (σ.1 1 1)) 2 2 (σ.1 1 2)) 6 (va_cpy (σ.2 4) (σ.2 6) 0 0 990)) 7 (va_cpy (σ.2 5) (σ.2 7) 0 0 90))
set_option maxHeartbeats 4000000 in
set_option maxRecDepth 100000 in
theorem kX0_copyFrom2 (l : Launch) (D : va_G) (ty : zTy) (a : Nat → Nat) (σ : zC) : zv_ct l D ty yX0_copyFrom cX0_copyFrom 2 none (zR 1 40) [.ref (a 2), .ref (a 1)] (zc a ty σ) (fun v_ w_ => v_ = none ∧ w_ = zc a ty (zcp2 σ)) := by
  refine zv_open (by decide) rfl rfl [some (.ref (a 2)), some (.ref (a 1))] (by simp [zv_one, Value.category]) (zle rfl) rfl ?_
  intro k K T
  refine zv_aload_n K 1 dX0_copyFrom_0 rfl rfl ?_
  refine zv_aload_n K 2 dX0_copyFrom_1 rfl rfl ?_
  refine zv_get (v := .int (σ.1 1 0)) (C := RX0) (T := TX0) (N := 5) K 1 0 5 dX0_copyFrom_2 rfl zy_X0 (zc_at (j := 1) (by decide)) rfl (by decide) zw_1_23 rfl ?_
  refine zv_put (C := RX0) (T := TX0) (N := 5) K 2 0 8 (zc a ty (zO σ 2 0 (σ.1 1 0))) dX0_copyFrom_5 rfl zy_X0 tyX0_ok nmX0 (zc_at (j := 2) (by decide)) rfl (by decide) zw_1_23 rfl rfl rfl rfl (zlt rfl) (zc_O 2 0 (by decide) rfl) ?_
  refine zv_aload_n K 9 dX0_copyFrom_8 rfl rfl ?_
  refine zv_aload_n K 10 dX0_copyFrom_9 rfl rfl ?_
  refine zv_get (v := .int (σ.1 1 1)) (C := RX0) (T := TX0) (N := 5) K 1 1 13 dX0_copyFrom_10 rfl zy_X0 (zc_at (j := 1) (by decide)) rfl (by decide) zw_1_24 rfl ?_
  refine zv_put (C := RX0) (T := TX0) (N := 5) K 2 1 16 (zc a ty (zO (zO σ 2 0 (σ.1 1 0)) 2 1 (σ.1 1 1))) dX0_copyFrom_13 rfl zy_X0 tyX0_ok nmX0 (zc_at (j := 2) (by decide)) rfl (by decide) zw_1_24 rfl rfl rfl rfl (zlt rfl) (zc_O 2 1 (by decide) rfl) ?_
  refine zv_aload_n K 17 dX0_copyFrom_16 rfl rfl ?_
  refine zv_aload_n K 18 dX0_copyFrom_17 rfl rfl ?_
  refine zv_get (v := .int (σ.1 1 2)) (C := RX0) (T := TX0) (N := 5) K 1 2 21 dX0_copyFrom_18 rfl zy_X0 (zc_at (j := 1) (by decide)) rfl (by decide) zw_1_28 rfl ?_
  refine zv_put (C := RX0) (T := TX0) (N := 5) K 2 2 24 (zc a ty (zO (zO (zO σ 2 0 (σ.1 1 0)) 2 1 (σ.1 1 1)) 2 2 (σ.1 1 2))) dX0_copyFrom_21 rfl zy_X0 tyX0_ok nmX0 (zc_at (j := 2) (by decide)) rfl (by decide) zw_1_28 rfl rfl rfl rfl (zlt rfl) (zc_O 2 2 (by decide) rfl) ?_
  refine zv_aload_n K 25 dX0_copyFrom_24 rfl rfl ?_
  refine zv_get (v := .ref (a 4)) (C := RX0) (T := TX0) (N := 5) K 1 3 28 dX0_copyFrom_25 rfl zy_X0 (zc_at (j := 1) (by decide)) rfl (by decide) zw_1_29 rfl ?_
  refine zv_iconst K 0 29 dX0_copyFrom_28 rfl (by decide) ?_
  refine zv_aload_n K 30 dX0_copyFrom_29 rfl rfl ?_
  refine zv_get (v := .ref (a 6)) (C := RX0) (T := TX0) (N := 5) K 2 3 33 dX0_copyFrom_30 rfl zy_X0 (zc_at (j := 2) (by decide)) rfl (by decide) zw_1_29 rfl ?_
  refine zv_iconst K 0 34 dX0_copyFrom_33 rfl (by decide) ?_
  refine zv_aload_n K 35 dX0_copyFrom_34 rfl rfl ?_
  refine zv_get (v := .ref (a 6)) (C := RX0) (T := TX0) (N := 5) K 2 3 38 dX0_copyFrom_35 rfl zy_X0 (zc_at (j := 2) (by decide)) rfl (by decide) zw_1_29 rfl ?_
  refine zv_alen K 6 39 990 dX0_copyFrom_38 rfl (zc_at (j := 6) (by decide)) rfl ?_
  refine zv_copy (F := σ.2 4) (G := σ.2 6) K 4 6 42 (zc a ty (zFa (zO (zO (zO σ 2 0 (σ.1 1 0)) 2 1 (σ.1 1 1)) 2 2 (σ.1 1 2)) 6 (va_cpy (σ.2 4) (σ.2 6) 0 0 990))) dX0_copyFrom_39 rfl zw_2_175 zw_2_177 zw_2_176 zw_1_7 (zc_at (j := 4) (by decide)) (zc_at (j := 6) (by decide)) (by decide) (by decide) (by decide) (by decide) (by decide) (by decide) (by decide) rfl (zc_Fa 6 (by decide) rfl) ?_
  refine zv_aload_n K 43 dX0_copyFrom_42 rfl rfl ?_
  refine zv_get (v := .ref (a 5)) (C := RX0) (T := TX0) (N := 5) K 1 4 46 dX0_copyFrom_43 rfl zy_X0 (zc_at (j := 1) (by decide)) rfl (by decide) zw_1_30 rfl ?_
  refine zv_iconst K 0 47 dX0_copyFrom_46 rfl (by decide) ?_
  refine zv_aload_n K 48 dX0_copyFrom_47 rfl rfl ?_
  refine zv_get (v := .ref (a 7)) (C := RX0) (T := TX0) (N := 5) K 2 4 51 dX0_copyFrom_48 rfl zy_X0 (zc_at (j := 2) (by decide)) rfl (by decide) zw_1_30 rfl ?_
  refine zv_iconst K 0 52 dX0_copyFrom_51 rfl (by decide) ?_
  refine zv_aload_n K 53 dX0_copyFrom_52 rfl rfl ?_
  refine zv_get (v := .ref (a 7)) (C := RX0) (T := TX0) (N := 5) K 2 4 56 dX0_copyFrom_53 rfl zy_X0 (zc_at (j := 2) (by decide)) rfl (by decide) zw_1_30 rfl ?_
  refine zv_alen K 7 57 90 dX0_copyFrom_56 rfl (zc_at (j := 7) (by decide)) rfl ?_
  refine zv_copy (F := σ.2 5) (G := σ.2 7) K 5 7 60 (zc a ty (zFa (zFa (zO (zO (zO σ 2 0 (σ.1 1 0)) 2 1 (σ.1 1 1)) 2 2 (σ.1 1 2)) 6 (va_cpy (σ.2 4) (σ.2 6) 0 0 990)) 7 (va_cpy (σ.2 5) (σ.2 7) 0 0 90))) dX0_copyFrom_57 rfl zw_2_175 zw_2_177 zw_2_176 zw_1_7 (zc_at (j := 5) (by decide)) (zc_at (j := 7) (by decide)) (by decide) (by decide) (by decide) (by decide) (by decide) (by decide) (by decide) rfl (zc_Fa 7 (by decide) rfl) ?_
  exact zv_vret K T dX0_copyFrom_60 (⟨rfl, rfl⟩)
end
section
/-! one claim's record: its slots r and its shares sh -/
def zCl (σ : zC) (i : Nat) (r sh : Nat → Int32) : zC := (fun j => if j = i + 11 then r else σ.1 j, fun j => if j = i + 31 then sh else σ.2 j)
theorem zCl_self (σ : zC) (i : Nat) : zCl σ i (σ.1 (i + 11)) (σ.2 (i + 31)) = σ := by
  unfold zCl
  refine Prod.ext (funext fun j => ?_) (funext fun j => ?_)
  · show (if j = i + 11 then σ.1 (i + 11) else σ.1 j) = σ.1 j
    by_cases h : j = i + 11
    · subst h; simp
    · simp [h]
  · show (if j = i + 31 then σ.2 (i + 31) else σ.2 j) = σ.2 j
    by_cases h : j = i + 31
    · subst h; simp
    · simp [h]
theorem zCl_1 (σ : zC) (i : Nat) (r sh : Nat → Int32) : (zCl σ i r sh).1 (i + 11) = r := by simp [zCl]
theorem zCl_2 (σ : zC) (i : Nat) (r sh : Nat → Int32) : (zCl σ i r sh).2 (i + 31) = sh := by simp [zCl]
theorem zCl_1n (σ : zC) {i j : Nat} (r sh : Nat → Int32) (h : j ≠ i + 11) : (zCl σ i r sh).1 j = σ.1 j := by simp [zCl, h]
theorem zCl_2n (σ : zC) {i j : Nat} (r sh : Nat → Int32) (h : j ≠ i + 31) : (zCl σ i r sh).2 j = σ.2 j := by simp [zCl, h]
theorem zCl_Cl (σ : zC) (i : Nat) (r sh r2 sh2 : Nat → Int32) : zCl (zCl σ i r sh) i r2 sh2 = zCl σ i r2 sh2 := by
  unfold zCl
  refine Prod.ext (funext fun j => ?_) (funext fun j => ?_)
  · show (if j = i + 11 then r2 else if j = i + 11 then r else σ.1 j) = if j = i + 11 then r2 else σ.1 j
    by_cases h : j = i + 11 <;> simp [h]
  · show (if j = i + 31 then sh2 else if j = i + 31 then sh else σ.2 j) = if j = i + 31 then sh2 else σ.2 j
    by_cases h : j = i + 31 <;> simp [h]
theorem zg_Cl (σ : zC) (i : Nat) (r sh : Nat → Int32) (f c : Nat) : zg (zCl σ i r sh) f c = zg σ f c := by unfold zg; rw [zCl_2n σ r sh (by omega)]
theorem zCl_O (σ : zC) (i : Nat) (r sh : Nat → Int32) (f : Nat) (v : Int32) : zO (zCl σ i r sh) (i + 11) f v = zCl σ i (upd r f v) sh := by
  unfold zO
  refine Prod.ext (funext fun j => ?_) rfl
  show zu (zCl σ i r sh).1 (i + 11) f v j = if j = i + 11 then upd r f v else σ.1 j
  by_cases h : j = i + 11
  · subst h; simp [zu, zCl]
  · simp [zu, zCl, h]
theorem zCl_F (σ : zC) (i : Nat) (r sh : Nat → Int32) (f : Nat) (v : Int32) : zF (zCl σ i r sh) (i + 31) f v = zCl σ i r (upd sh f v) := by
  unfold zF
  refine Prod.ext rfl (funext fun j => ?_)
  show zu (zCl σ i r sh).2 (i + 31) f v j = if j = i + 31 then upd sh f v else σ.2 j
  by_cases h : j = i + 31
  · subst h; simp [zu, zCl]
  · simp [zu, zCl, h]
def zkl (a : Nat → Nat) (i : Nat) (r : Nat → Int32) : List Value := [.int (r 0), .int (r 1), .int (r 2), .int (r 3), .int (r 4), .int (r 5), .int (r 6), .int (r 7), .int (r 8), .int (r 9), .int (r 10), .ref (a (i + 31))]
theorem zkl_eq (a : Nat → Nat) (σ : zC) (i : Nat) (r sh : Nat → Int32) : zcl a (zCl σ i r sh) i = zkl a i r := by unfold zcl zkl; rw [zCl_1]
theorem zk_at {a : Nat → Nat} {ty : zTy} {σ : zC} {i : Nat} {r sh : Nat → Int32} (hi : i < 20) : (zc a ty (zCl σ i r sh))[i + 11]? = some (a (i + 11), .inr (1, zkl a i r)) := by rw [zc_cl hi, zkl_eq]
theorem zk_sat {a : Nat → Nat} {ty : zTy} {σ : zC} {i : Nat} {r sh : Nat → Int32} (hi : i < 20) : (zc a ty (zCl σ i r sh))[i + 31]? = some (a (i + 31), .inl (ty.1, 10, .inl sh)) := by rw [zc_sh hi, zCl_2]
theorem zCl_O0 {a : Nat → Nat} {ty : zTy} {i : Nat} (σ : zC) (r sh : Nat → Int32) (v : Int32) (hi : i < 20) : (zc a ty (zCl σ i r sh)).set (i + 11) (a (i + 11), .inr (1, (zkl a i r).set 0 (.int v))) = zc a ty (zCl σ i (upd r 0 v) sh) := by rw [← zCl_O, ← zc_Oc0 hi, zkl_eq]
theorem zCl_O1 {a : Nat → Nat} {ty : zTy} {i : Nat} (σ : zC) (r sh : Nat → Int32) (v : Int32) (hi : i < 20) : (zc a ty (zCl σ i r sh)).set (i + 11) (a (i + 11), .inr (1, (zkl a i r).set 1 (.int v))) = zc a ty (zCl σ i (upd r 1 v) sh) := by rw [← zCl_O, ← zc_Oc1 hi, zkl_eq]
theorem zCl_O2 {a : Nat → Nat} {ty : zTy} {i : Nat} (σ : zC) (r sh : Nat → Int32) (v : Int32) (hi : i < 20) : (zc a ty (zCl σ i r sh)).set (i + 11) (a (i + 11), .inr (1, (zkl a i r).set 2 (.int v))) = zc a ty (zCl σ i (upd r 2 v) sh) := by rw [← zCl_O, ← zc_Oc2 hi, zkl_eq]
theorem zCl_O3 {a : Nat → Nat} {ty : zTy} {i : Nat} (σ : zC) (r sh : Nat → Int32) (v : Int32) (hi : i < 20) : (zc a ty (zCl σ i r sh)).set (i + 11) (a (i + 11), .inr (1, (zkl a i r).set 3 (.int v))) = zc a ty (zCl σ i (upd r 3 v) sh) := by rw [← zCl_O, ← zc_Oc3 hi, zkl_eq]
theorem zCl_O4 {a : Nat → Nat} {ty : zTy} {i : Nat} (σ : zC) (r sh : Nat → Int32) (v : Int32) (hi : i < 20) : (zc a ty (zCl σ i r sh)).set (i + 11) (a (i + 11), .inr (1, (zkl a i r).set 4 (.int v))) = zc a ty (zCl σ i (upd r 4 v) sh) := by rw [← zCl_O, ← zc_Oc4 hi, zkl_eq]
theorem zCl_O5 {a : Nat → Nat} {ty : zTy} {i : Nat} (σ : zC) (r sh : Nat → Int32) (v : Int32) (hi : i < 20) : (zc a ty (zCl σ i r sh)).set (i + 11) (a (i + 11), .inr (1, (zkl a i r).set 5 (.int v))) = zc a ty (zCl σ i (upd r 5 v) sh) := by rw [← zCl_O, ← zc_Oc5 hi, zkl_eq]
theorem zCl_O6 {a : Nat → Nat} {ty : zTy} {i : Nat} (σ : zC) (r sh : Nat → Int32) (v : Int32) (hi : i < 20) : (zc a ty (zCl σ i r sh)).set (i + 11) (a (i + 11), .inr (1, (zkl a i r).set 6 (.int v))) = zc a ty (zCl σ i (upd r 6 v) sh) := by rw [← zCl_O, ← zc_Oc6 hi, zkl_eq]
theorem zCl_O7 {a : Nat → Nat} {ty : zTy} {i : Nat} (σ : zC) (r sh : Nat → Int32) (v : Int32) (hi : i < 20) : (zc a ty (zCl σ i r sh)).set (i + 11) (a (i + 11), .inr (1, (zkl a i r).set 7 (.int v))) = zc a ty (zCl σ i (upd r 7 v) sh) := by rw [← zCl_O, ← zc_Oc7 hi, zkl_eq]
theorem zCl_O8 {a : Nat → Nat} {ty : zTy} {i : Nat} (σ : zC) (r sh : Nat → Int32) (v : Int32) (hi : i < 20) : (zc a ty (zCl σ i r sh)).set (i + 11) (a (i + 11), .inr (1, (zkl a i r).set 8 (.int v))) = zc a ty (zCl σ i (upd r 8 v) sh) := by rw [← zCl_O, ← zc_Oc8 hi, zkl_eq]
theorem zCl_O9 {a : Nat → Nat} {ty : zTy} {i : Nat} (σ : zC) (r sh : Nat → Int32) (v : Int32) (hi : i < 20) : (zc a ty (zCl σ i r sh)).set (i + 11) (a (i + 11), .inr (1, (zkl a i r).set 9 (.int v))) = zc a ty (zCl σ i (upd r 9 v) sh) := by rw [← zCl_O, ← zc_Oc9 hi, zkl_eq]
theorem zCl_O10 {a : Nat → Nat} {ty : zTy} {i : Nat} (σ : zC) (r sh : Nat → Int32) (v : Int32) (hi : i < 20) : (zc a ty (zCl σ i r sh)).set (i + 11) (a (i + 11), .inr (1, (zkl a i r).set 10 (.int v))) = zc a ty (zCl σ i (upd r 10 v) sh) := by rw [← zCl_O, ← zc_Oc10 hi, zkl_eq]
section ZK
variable {k : zKx} {l : Launch} {D : va_G} {R : Room} {cc : ByteArray} {nL : Nat} {own : String} {ty : zTy} {pc : Nat} {lv : List (Option Value)} {st : List Value} {a : Nat → Nat} {σ : zC} {i : Nat} {r sh : Nat → Int32}
theorem zk_get (K : zv_ok k l D R cc nL own ty) {idx : Nat} {v : Value} (hi : i < 20) (f pc2 : Nat) (hd : decode cc pc = .ok (.getfield idx, 3)) (hp : pc + 3 = pc2) (hf : f < 12) (hlk2 : Cond.fieldLink own idx (TX1 f).1 (TX1 f).2.1 (TX1 f).2.2.1 ∈ zT) (hv : (zkl a i r)[f]? = some v) (kk : zv k pc2 lv (v :: st) (zc a ty (zCl σ i r sh))) : zv k pc lv (.ref (a (i + 11)) :: st) (zc a ty (zCl σ i r sh)) := zv_get K (i + 11) f pc2 hd hp zy_X1 (zk_at hi) rfl hf hlk2 hv kk
theorem zk_getN (K : zv_ok k l D R cc nL own ty) {idx : Nat} {v : Value} {host : String} (hi : i < 20) (f pc2 : Nat) (hd : decode cc pc = .ok (.getfield idx, 3)) (hp : pc + 3 = pc2) (hf : f < 12) (hlk2 : Cond.fieldLinkNest own idx (TX1 f).1 (TX1 f).2.1 (TX1 f).2.2.1 host ∈ zv_nest) (hv : (zkl a i r)[f]? = some v) (kk : zv k pc2 lv (v :: st) (zc a ty (zCl σ i r sh))) : zv k pc lv (.ref (a (i + 11)) :: st) (zc a ty (zCl σ i r sh)) := zv_getN K (i + 11) f pc2 hd hp zy_X1 (zk_at hi) rfl hf hlk2 hv kk
theorem zk_put (K : zv_ok k l D R cc nL own ty) {idx : Nat} {v : Int32} {t0 : FieldType} (hi : i < 20) (f pc2 : Nat) (hd : decode cc pc = .ok (.putfield idx, 3)) (hp : pc + 3 = pc2) (hf : f < 12) (hlk2 : Cond.fieldLink own idx (TX1 f).1 (TX1 f).2.1 (TX1 f).2.2.1 ∈ zT) (hfin : (TX1 f).2.2.2 = false) (ht0 : parseFieldDescriptor (TX1 f).2.2.1 = some t0) (hn : narrow t0 (.int v) = .int v) (hfit : fits t0 (.int v) = true) (hw : ∀ (hi : i < 20), (zc a ty (zCl σ i r sh)).set (i + 11) (a (i + 11), .inr (1, (zkl a i r).set f (.int v))) = zc a ty (zCl σ i (upd r f v) sh)) (kk : zv k pc2 lv st (zc a ty (zCl σ i (upd r f v) sh))) : zv k pc lv (.int v :: .ref (a (i + 11)) :: st) (zc a ty (zCl σ i r sh)) := zv_put K (i + 11) f pc2 _ hd hp zy_X1 tyX1_ok nmX1 (zk_at hi) rfl hf hlk2 hfin ht0 hn hfit hf (hw hi) kk
theorem zk_ald (K : zv_ok k l D R cc nL own ty) {x : Int32} (hi : i < 20) (q pc2 : Nat) (hd : decode cc pc = .ok (.iaload, 1)) (hp : pc + 1 = pc2) (hx : x = nI q) (hq : q < 10) (kk : zv k pc2 lv (.int (sh q) :: st) (zc a ty (zCl σ i r sh))) : zv k pc lv (.int x :: .ref (a (i + 31)) :: st) (zc a ty (zCl σ i r sh)) := zv_iald K (i + 31) q pc2 hd hp (zk_sat hi) hx hq (by decide) kk
theorem zk_ast (K : zv_ok k l D R cc nL own ty) {x z : Int32} (hi : i < 20) (q pc2 : Nat) (hd : decode cc pc = .ok (.iastore, 1)) (hp : pc + 1 = pc2) (hx : x = nI q) (hq : q < 10) (kk : zv k pc2 lv st (zc a ty (zCl σ i r (upd sh q z)))) : zv k pc lv (.int z :: .int x :: .ref (a (i + 31)) :: st) (zc a ty (zCl σ i r sh)) := zv_iast K (i + 31) q pc2 _ hd hp (zk_sat hi) hx hq (by decide) (by rw [← zCl_F, ← zc_Fs hi, zCl_2]) kk
end ZK
/-! what the claim's methods do to a record -/
def rPass (r : Nat → Int32) (m d : Int32) : Nat → Int32 := upd (upd (upd r 5 m) 6 d) 7 0
def sPass (sh : Nat → Int32) (m : Int32) : Nat → Int32 := fun q => if q < 10 then (if nI q = m then 24 else 0) else sh q
def sPassN (n : Nat) (sh : Nat → Int32) (m : Int32) : Nat → Int32 := fun q => if q < n then (if nI q = m then 24 else 0) else sh q
theorem sPassN_s (n : Nat) (sh : Nat → Int32) (m v : Int32) (hv : v = if nI n = m then 24 else 0) : upd (sPassN n sh m) n v = sPassN (n + 1) sh m := by
  funext q
  unfold upd sPassN
  by_cases h : q = n
  · subst h; rw [if_pos rfl, if_pos (Nat.lt_succ_self _), hv]
  · rw [if_neg h]
    by_cases h2 : q < n
    · simp only [if_pos h2, if_pos (show q < n + 1 by omega)]
    · simp only [if_neg h2, if_neg (show ¬ q < n + 1 by omega)]
theorem sPassN_0 (sh : Nat → Int32) (m : Int32) : sPassN 0 sh m = sh := by funext q; simp [sPassN]
def rAdd (r : Nat → Int32) (m d : Int32) : Nat → Int32 := upd (upd (upd (if r 7 = 0 then upd r 9 d else r) 8 m) 10 d) 7 (r 7 + 1)
def rStale (r : Nat → Int32) (m d : Int32) : Nat → Int32 := if ¬ m = r 8 ∨ 10 < d - r 9 then upd r 7 0 else r
/-- a nick: the record, and whether the claim passes -/
def rNick (r : Nat → Int32) (m d idle : Int32) : Nat → Int32 :=
  if m = r 5 ∨ ¬ idle < d - r 6 then r
  else if 0 < rStale r m d 7 ∧ rStale r m d 10 = d then rStale r m d
  else if 3 ≤ rAdd (rStale r m d) m d 7 then rPass (rAdd (rStale r m d) m d) m d
  else rAdd (rStale r m d) m d
def sNick (r sh : Nat → Int32) (m d idle : Int32) : Nat → Int32 :=
  if m = r 5 ∨ ¬ idle < d - r 6 then sh
  else if 0 < rStale r m d 7 ∧ rStale r m d 10 = d then sh
  else if 3 ≤ rAdd (rStale r m d) m d 7 then sPass sh m
  else sh
def sMove (sh : Nat → Int32) (p q : Nat) (n : Int32) : Nat → Int32 := if sh p < n then sh else upd (upd sh p (sh p - n)) q (upd sh p (sh p - n) q + n)
def rOver (r : Nat → Int32) (vn ft : Int32) : Prop := ¬ r 0 = 0 ∧ r 2 = vn ∧ r 3 ≤ ft ∧ ft ≤ r 4
def rBegin (σ : zC) (r : Nat → Int32) (f : Nat) : Nat → Int32 := rPass (upd (upd (upd (upd (upd r 0 1) 1 (nI f)) 2 (zg σ f 4)) 3 (zg σ f 6)) 4 (zg σ f 7)) (zg σ f 5) (zg σ f 1)
/-- a fact of a claim that stands -/
def rTurn (σ : zC) (r : Nat → Int32) (f : Nat) (idle : Int32) : Nat → Int32 :=
  if zg σ f 0 = 1 then upd (upd r 6 (zg σ f 1)) 7 0
  else if zg σ f 0 = 2 then rNick r (zg σ f 5) (zg σ f 1) idle
  else if zg σ f 0 = 3 then upd r 0 0
  else if zg σ f 0 = 4 then upd (upd r 3 (zg σ f 6)) 4 (zg σ f 7)
  else r
def sTurn (σ : zC) (r sh : Nat → Int32) (f : Nat) (idle : Int32) : Nat → Int32 :=
  if zg σ f 0 = 2 then sNick r sh (zg σ f 5) (zg σ f 1) idle
  else if zg σ f 0 = 5 then sMove sh (zg σ f 5).toNatClampNeg (zg σ f 10).toNatClampNeg (zg σ f 8)
  else sh
end
section
set_option maxHeartbeats 4000000 in
set_option maxRecDepth 100000 in
theorem kX1_setFeet (l : Launch) (D : va_G) (ty : zTy) (a : Nat → Nat) (σ : zC) (i : Nat) (hi : i < 20) (r sh : Nat → Int32) (p q : Int32) : zv_ct l D ty yX1_setFeet cX1_setFeet 3 none (zR 0 0) [.ref (a (i + 11)), .int p, .int q] (zc a ty (zCl σ i r sh)) (fun v_ w_ => v_ = none ∧ w_ = zc a ty (zCl σ i (upd (upd r 3 p) 4 q) sh)) := by
  refine zv_open (by decide) rfl rfl [some (.ref (a (i + 11))), some (.int p), some (.int q)] (by simp [zv_one, Value.category]) (zle rfl) rfl ?_
  intro k K T
  refine zv_aload_n K 1 dX1_setFeet_0 rfl rfl ?_
  refine zv_iload_n K 2 dX1_setFeet_1 rfl rfl ?_
  refine zk_put (t0 := .int) K hi 3 5 dX1_setFeet_2 rfl (by decide) zw_1_64 rfl rfl rfl rfl (zCl_O3 _ _ _ _) ?_
  refine zv_aload_n K 6 dX1_setFeet_5 rfl rfl ?_
  refine zv_iload_n K 7 dX1_setFeet_6 rfl rfl ?_
  refine zk_put (t0 := .int) K hi 4 10 dX1_setFeet_7 rfl (by decide) zw_1_67 rfl rfl rfl rfl (zCl_O4 _ _ _ _) ?_
  exact zv_vret K T dX1_setFeet_10 (⟨rfl, rfl⟩)

set_option maxHeartbeats 4000000 in
set_option maxRecDepth 100000 in
theorem kX1_setWorked (l : Launch) (D : va_G) (ty : zTy) (a : Nat → Nat) (σ : zC) (i : Nat) (hi : i < 20) (r sh : Nat → Int32) (d : Int32) : zv_ct l D ty yX1_setWorked cX1_setWorked 2 none (zR 0 0) [.ref (a (i + 11)), .int d] (zc a ty (zCl σ i r sh)) (fun v_ w_ => v_ = none ∧ w_ = zc a ty (zCl σ i (upd (upd r 6 d) 7 0) sh)) := by
  refine zv_open (by decide) rfl rfl [some (.ref (a (i + 11))), some (.int d)] (by simp [zv_one, Value.category]) (zle rfl) rfl ?_
  intro k K T
  refine zv_aload_n K 1 dX1_setWorked_0 rfl rfl ?_
  refine zv_iload_n K 2 dX1_setWorked_1 rfl rfl ?_
  refine zk_put (t0 := .int) K hi 6 5 dX1_setWorked_2 rfl (by decide) zw_1_73 rfl rfl rfl rfl (zCl_O6 _ _ _ _) ?_
  refine zv_aload_n K 6 dX1_setWorked_5 rfl rfl ?_
  refine zv_iconst K 0 7 dX1_setWorked_6 rfl (by decide) ?_
  refine zk_put (t0 := .int) K hi 7 10 dX1_setWorked_7 rfl (by decide) zw_1_75 rfl rfl rfl rfl (zCl_O7 _ _ _ _) ?_
  exact zv_vret K T dX1_setWorked_10 (⟨rfl, rfl⟩)

set_option maxHeartbeats 4000000 in
set_option maxRecDepth 100000 in
theorem kX1_passTo_l (l : Launch) (D : va_G) (ty : zTy) (a : Nat → Nat) (σ : zC) (i : Nat) (hi : i < 20) (r sh : Nat → Int32) (m d : Int32) {k : zKx} (K : zv_ok k l D (zR 1 21) cX1_passTo 4 yX1_passTo.cls ty) (T : zv_rt k none (fun v_ w_ => v_ = none ∧ w_ = zc a ty (zCl σ i (rPass r m d) (sPass sh m)))) : ∀ n : Nat, n ≤ 10 → zv k 7 [some (.ref (a (i + 11))), some (.int m), some (.int d), some (.int (nI n))] [] (zc a ty (zCl σ i (upd r 5 m) (sPassN n sh m))) := by
  refine z_wf (fun n : Nat => 10 - n) ?_
  intro n ih hn
  refine zv_iload_n K 8 dX1_passTo_7 rfl rfl ?_
  refine zv_bipush K 10 10 dX1_passTo_8 rfl (by decide) ?_
  refine zv_icmp_ge K 36 13 dX1_passTo_10 (by decide) rfl (fun hb => ?_) (fun hb => ?_)
  · skip
    have hn2 : n = 10 := by have := z_ge (c := 10) hb (by decide) (by omega); omega
    refine zv_aload_n K 37 dX1_passTo_36 rfl rfl ?_
    refine zv_iload_n K 38 dX1_passTo_37 rfl rfl ?_
    refine zv_cV0 K (q0 := (i + 11)) (As := [.int d]) (rest := []) 1 41 (kX1_setWorked l D ty a σ i hi (upd r 5 m) (sPassN n sh m) d) dX1_passTo_38 rfl zw_2_63 zw_2_65 zw_p1_9 zw_1_4 zw_2_66 ⟨rfl, rfl⟩ zh_yX1_setWorked ⟨by decide, by decide⟩ (zc_cl hi) rfl rfl rfl (zle rfl) rfl ?_
    exact zv_vret K T dX1_passTo_41 (⟨rfl, by subst hn2; rfl⟩)
  · skip
    have hn10 : n < 10 := z_lt (c := 10) hb (by omega)
    refine zv_aload_n K 14 dX1_passTo_13 rfl rfl ?_
    refine zk_get (v := .ref (a (i + 31))) K hi 11 17 dX1_passTo_14 rfl (by decide) zw_1_80 rfl ?_
    refine zv_iload_n K 18 dX1_passTo_17 rfl rfl ?_
    refine zv_iload_n K 19 dX1_passTo_18 rfl rfl ?_
    refine zv_iload_n K 20 dX1_passTo_19 rfl rfl ?_
    refine zv_icmp_ne K 28 23 dX1_passTo_20 (by decide) rfl (fun he => ?_) (fun he => ?_)
    · skip
      refine zv_iconst K 0 29 dX1_passTo_28 rfl (by decide) ?_
      refine zk_ast K hi n 30 dX1_passTo_29 rfl rfl hn10 ?_
      refine zv_iinc K (nI (n + 1)) [some (.ref (a (i + 11))), some (.int m), some (.int d), some (.int (nI (n + 1)))] 33 dX1_passTo_30 rfl rfl (z_inc n) rfl ?_
      refine zv_goto K 7 dX1_passTo_33 (by decide) ?_
      refine zv_ws (congrArg (zc a ty) (congrArg (zCl σ i (upd r 5 m)) (sPassN_s n sh m _ (by first | rw [if_pos he] | rw [if_neg he])))) ?_
      exact ih (n + 1) (by omega) (by omega)
    · skip
      refine zv_bipush K 24 25 dX1_passTo_23 rfl (by decide) ?_
      refine zv_goto K 29 dX1_passTo_25 (by decide) ?_
      refine zk_ast K hi n 30 dX1_passTo_29 rfl rfl hn10 ?_
      refine zv_iinc K (nI (n + 1)) [some (.ref (a (i + 11))), some (.int m), some (.int d), some (.int (nI (n + 1)))] 33 dX1_passTo_30 rfl rfl (z_inc n) rfl ?_
      refine zv_goto K 7 dX1_passTo_33 (by decide) ?_
      refine zv_ws (congrArg (zc a ty) (congrArg (zCl σ i (upd r 5 m)) (sPassN_s n sh m _ (by first | rw [if_pos he] | rw [if_neg he])))) ?_
      exact ih (n + 1) (by omega) (by omega)

set_option maxHeartbeats 4000000 in
set_option maxRecDepth 100000 in
theorem kX1_passTo (l : Launch) (D : va_G) (ty : zTy) (a : Nat → Nat) (σ : zC) (i : Nat) (hi : i < 20) (r sh : Nat → Int32) (m d : Int32) : zv_ct l D ty yX1_passTo cX1_passTo 4 none (zR 1 21) [.ref (a (i + 11)), .int m, .int d] (zc a ty (zCl σ i r sh)) (fun v_ w_ => v_ = none ∧ w_ = zc a ty (zCl σ i (rPass r m d) (sPass sh m))) := by
  refine zv_open (by decide) rfl rfl [some (.ref (a (i + 11))), some (.int m), some (.int d), none] (by simp [zv_one, Value.category]) (zle rfl) rfl ?_
  intro k K T
  refine zv_aload_n K 1 dX1_passTo_0 rfl rfl ?_
  refine zv_iload_n K 2 dX1_passTo_1 rfl rfl ?_
  refine zk_put (t0 := .int) K hi 5 5 dX1_passTo_2 rfl (by decide) zw_1_71 rfl rfl rfl rfl (zCl_O5 _ _ _ _) ?_
  refine zv_iconst K 0 6 dX1_passTo_5 rfl (by decide) ?_
  refine zv_istore_n K [some (.ref (a (i + 11))), some (.int m), some (.int d), some (.int 0)] 7 dX1_passTo_6 rfl rfl (zlt rfl) ?_
  refine zv_ws (congrArg (zc a ty) (congrArg (zCl σ i (upd r 5 m)) (sPassN_0 sh m).symm)) ?_
  exact kX1_passTo_l l D ty a σ i hi r sh m d K T 0 (by decide)

set_option maxHeartbeats 4000000 in
set_option maxRecDepth 100000 in
theorem kX1_begin (l : Launch) (D : va_G) (ty : zTy) (a : Nat → Nat) (σ : zC) (i : Nat) (hi : i < 20) (r sh : Nat → Int32) (x : Int32) (f : Nat) (hx : x = nI f) (hf : f < 90) : zv_ct l D ty yX1_begin cX1_begin 3 none (zR 2 44) [.ref (a (i + 11)), .ref (a 1), .int x] (zc a ty (zCl σ i r sh)) (fun v_ w_ => v_ = none ∧ w_ = zc a ty (zCl σ i (rBegin σ r f) (sPass sh (zg σ f 5)))) := by
  refine zv_open (by decide) rfl rfl [some (.ref (a (i + 11))), some (.ref (a 1)), some (.int x)] (by simp [zv_one, Value.category]) (zle rfl) rfl ?_
  intro k K T
  refine zv_aload_n K 1 dX1_begin_0 rfl rfl ?_
  refine zv_iconst K 1 2 dX1_begin_1 rfl (by decide) ?_
  refine zk_put (t0 := .boolean) K hi 0 5 dX1_begin_2 rfl (by decide) zw_1_57 rfl rfl rfl rfl (zCl_O0 _ _ _ _) ?_
  refine zv_aload_n K 6 dX1_begin_5 rfl rfl ?_
  refine zv_iload_n K 7 dX1_begin_6 rfl rfl ?_
  refine zk_put (t0 := .int) K hi 1 10 dX1_begin_7 rfl (by decide) zw_1_59 rfl rfl rfl rfl (zCl_O1 _ _ _ _) ?_
  refine zv_aload_n K 11 dX1_begin_10 rfl rfl ?_
  refine zv_aload_n K 12 dX1_begin_11 rfl rfl ?_
  refine zv_iload_n K 13 dX1_begin_12 rfl rfl ?_
  refine zv_iconst K 4 14 dX1_begin_13 rfl (by decide) ?_
  refine zv_cV1 K (q0 := 1) (As := [.int x, .int 4]) (rest := [.ref (a (i + 11))]) 2 17 (kX0_get l D ty a (zCl σ i (upd (upd r 0 1) 1 x) sh) x 4 f 4 hx rfl hf (by decide)) dX1_begin_14 rfl zw_2_54 zw_1_186 zw_1_187 zw_1_2 zw_1_188 ⟨rfl, rfl⟩ zh_yX0_get ⟨by decide, by decide⟩ (zc_at (j := 1) (by decide)) rfl rfl rfl (zle rfl) rfl ?_
  refine zv_topi (zg σ f 4) (zg_Cl _ _ _ _ _ _) ?_
  refine zk_put (t0 := .int) K hi 2 20 dX1_begin_17 rfl (by decide) zw_1_62 rfl rfl rfl rfl (zCl_O2 _ _ _ _) ?_
  refine zv_aload_n K 21 dX1_begin_20 rfl rfl ?_
  refine zv_aload_n K 22 dX1_begin_21 rfl rfl ?_
  refine zv_iload_n K 23 dX1_begin_22 rfl rfl ?_
  refine zv_bipush K 6 25 dX1_begin_23 rfl (by decide) ?_
  refine zv_cV1 K (q0 := 1) (As := [.int x, .int 6]) (rest := [.ref (a (i + 11))]) 2 28 (kX0_get l D ty a (zCl σ i (upd (upd (upd r 0 1) 1 x) 2 (zg σ f 4)) sh) x 6 f 6 hx rfl hf (by decide)) dX1_begin_25 rfl zw_2_54 zw_1_186 zw_1_187 zw_1_2 zw_1_188 ⟨rfl, rfl⟩ zh_yX0_get ⟨by decide, by decide⟩ (zc_at (j := 1) (by decide)) rfl rfl rfl (zle rfl) rfl ?_
  refine zv_topi (zg σ f 6) (zg_Cl _ _ _ _ _ _) ?_
  refine zv_aload_n K 29 dX1_begin_28 rfl rfl ?_
  refine zv_iload_n K 30 dX1_begin_29 rfl rfl ?_
  refine zv_bipush K 7 32 dX1_begin_30 rfl (by decide) ?_
  refine zv_cV1 K (q0 := 1) (As := [.int x, .int 7]) (rest := [.int (zg σ f 6), .ref (a (i + 11))]) 2 35 (kX0_get l D ty a (zCl σ i (upd (upd (upd r 0 1) 1 x) 2 (zg σ f 4)) sh) x 7 f 7 hx rfl hf (by decide)) dX1_begin_32 rfl zw_2_54 zw_1_186 zw_1_187 zw_1_2 zw_1_188 ⟨rfl, rfl⟩ zh_yX0_get ⟨by decide, by decide⟩ (zc_at (j := 1) (by decide)) rfl rfl rfl (zle rfl) rfl ?_
  refine zv_topi (zg σ f 7) (zg_Cl _ _ _ _ _ _) ?_
  refine zv_cV0 K (q0 := (i + 11)) (As := [.int (zg σ f 6), .int (zg σ f 7)]) (rest := []) 2 38 (kX1_setFeet l D ty a σ i hi (upd (upd (upd r 0 1) 1 x) 2 (zg σ f 4)) sh (zg σ f 6) (zg σ f 7)) dX1_begin_35 rfl zw_2_55 zw_2_57 zw_p1_7 zw_1_4 zw_2_58 ⟨rfl, rfl⟩ zh_yX1_setFeet ⟨by decide, by decide⟩ (zc_cl hi) rfl rfl rfl (zle rfl) rfl ?_
  refine zv_aload_n K 39 dX1_begin_38 rfl rfl ?_
  refine zv_aload_n K 40 dX1_begin_39 rfl rfl ?_
  refine zv_iload_n K 41 dX1_begin_40 rfl rfl ?_
  refine zv_iconst K 5 42 dX1_begin_41 rfl (by decide) ?_
  refine zv_cV1 K (q0 := 1) (As := [.int x, .int 5]) (rest := [.ref (a (i + 11))]) 2 45 (kX0_get l D ty a (zCl σ i (upd (upd (upd (upd (upd r 0 1) 1 x) 2 (zg σ f 4)) 3 (zg σ f 6)) 4 (zg σ f 7)) sh) x 5 f 5 hx rfl hf (by decide)) dX1_begin_42 rfl zw_2_54 zw_1_186 zw_1_187 zw_1_2 zw_1_188 ⟨rfl, rfl⟩ zh_yX0_get ⟨by decide, by decide⟩ (zc_at (j := 1) (by decide)) rfl rfl rfl (zle rfl) rfl ?_
  refine zv_topi (zg σ f 5) (zg_Cl _ _ _ _ _ _) ?_
  refine zv_aload_n K 46 dX1_begin_45 rfl rfl ?_
  refine zv_iload_n K 47 dX1_begin_46 rfl rfl ?_
  refine zv_iconst K 1 48 dX1_begin_47 rfl (by decide) ?_
  refine zv_cV1 K (q0 := 1) (As := [.int x, .int 1]) (rest := [.int (zg σ f 5), .ref (a (i + 11))]) 2 51 (kX0_get l D ty a (zCl σ i (upd (upd (upd (upd (upd r 0 1) 1 x) 2 (zg σ f 4)) 3 (zg σ f 6)) 4 (zg σ f 7)) sh) x 1 f 1 hx rfl hf (by decide)) dX1_begin_48 rfl zw_2_54 zw_1_186 zw_1_187 zw_1_2 zw_1_188 ⟨rfl, rfl⟩ zh_yX0_get ⟨by decide, by decide⟩ (zc_at (j := 1) (by decide)) rfl rfl rfl (zle rfl) rfl ?_
  refine zv_topi (zg σ f 1) (zg_Cl _ _ _ _ _ _) ?_
  refine zv_cV0 K (q0 := (i + 11)) (As := [.int (zg σ f 5), .int (zg σ f 1)]) (rest := []) 2 54 (kX1_passTo l D ty a σ i hi (upd (upd (upd (upd (upd r 0 1) 1 x) 2 (zg σ f 4)) 3 (zg σ f 6)) 4 (zg σ f 7)) sh (zg σ f 5) (zg σ f 1)) dX1_begin_51 rfl zw_2_59 zw_2_61 zw_p1_8 zw_1_4 zw_2_62 ⟨rfl, rfl⟩ zh_yX1_passTo ⟨by decide, by decide⟩ (zc_cl hi) rfl rfl rfl (zle rfl) rfl ?_
  exact zv_vret K T dX1_begin_54 (⟨rfl, by subst hx; rfl⟩)

set_option maxHeartbeats 4000000 in
set_option maxRecDepth 100000 in
theorem kX1_isIdle (l : Launch) (D : va_G) (ty : zTy) (a : Nat → Nat) (σ : zC) (i : Nat) (hi : i < 20) (r sh : Nat → Int32) (d idle : Int32) : zv_ct l D ty yX1_isIdle cX1_isIdle 3 (some .boolean) (zR 0 0) [.ref (a (i + 11)), .int d, .int idle] (zc a ty (zCl σ i r sh)) (fun v_ w_ => v_ = some (.int (zB (idle < d - r 6))) ∧ w_ = zc a ty (zCl σ i r sh)) := by
  refine zv_open (by decide) rfl rfl [some (.ref (a (i + 11))), some (.int d), some (.int idle)] (by simp [zv_one, Value.category]) (zle rfl) rfl ?_
  intro k K T
  refine zv_iload_n K 1 dX1_isIdle_0 rfl rfl ?_
  refine zv_aload_n K 2 dX1_isIdle_1 rfl rfl ?_
  refine zk_get (v := .int (r 6)) K hi 6 5 dX1_isIdle_2 rfl (by decide) zw_1_73 rfl ?_
  refine zv_isub K 6 dX1_isIdle_5 rfl ?_
  refine zv_iload_n K 7 dX1_isIdle_6 rfl rfl ?_
  refine zv_icmp_le K 14 10 dX1_isIdle_7 (by decide) rfl (fun h1 => ?_) (fun h1 => ?_)
  · skip
    refine zv_iconst K 0 15 dX1_isIdle_14 rfl (by decide) ?_
    exact zv_zret K T dX1_isIdle_15 rfl (⟨congrArg (fun z => some (Value.int z)) (Eq.symm (zB_f (by first | exact z_nle (by assumption) | exact z_len (by assumption)))), rfl⟩)
  · skip
    refine zv_iconst K 1 11 dX1_isIdle_10 rfl (by decide) ?_
    refine zv_goto K 15 dX1_isIdle_11 (by decide) ?_
    exact zv_zret K T dX1_isIdle_15 rfl (⟨congrArg (fun z => some (Value.int z)) (Eq.symm (zB_t (by first | exact z_nle (by assumption) | exact z_len (by assumption)))), rfl⟩)

set_option maxHeartbeats 4000000 in
set_option maxRecDepth 100000 in
theorem kX1_isOver (l : Launch) (D : va_G) (ty : zTy) (a : Nat → Nat) (σ : zC) (i : Nat) (hi : i < 20) (r sh : Nat → Int32) (vn ft : Int32) : zv_ct l D ty yX1_isOver cX1_isOver 3 (some .boolean) (zR 1 22) [.ref (a (i + 11)), .int vn, .int ft] (zc a ty (zCl σ i r sh)) (fun v_ w_ => v_ = some (.int (zB (¬ r 0 = 0 ∧ r 2 = vn ∧ r 3 ≤ ft ∧ ft ≤ r 4))) ∧ w_ = zc a ty (zCl σ i r sh)) := by
  refine zv_open (by decide) rfl rfl [some (.ref (a (i + 11))), some (.int vn), some (.int ft)] (by simp [zv_one, Value.category]) (zle rfl) rfl ?_
  intro k K T
  refine zv_aload_n K 1 dX1_isOver_0 rfl rfl ?_
  refine zk_get (v := .int (r 0)) K hi 0 4 dX1_isOver_1 rfl (by decide) zw_1_57 rfl ?_
  refine zv_if_eq K 34 7 dX1_isOver_4 (by decide) rfl (fun h1 => ?_) (fun h1 => ?_)
  · skip
    refine zv_iconst K 0 35 dX1_isOver_34 rfl (by decide) ?_
    exact zv_zret K T dX1_isOver_35 rfl (⟨congrArg (fun z => some (Value.int z)) (Eq.symm (zB_f (by simp_all))), rfl⟩)
  · skip
    refine zv_aload_n K 8 dX1_isOver_7 rfl rfl ?_
    refine zk_get (v := .int (r 2)) K hi 2 11 dX1_isOver_8 rfl (by decide) zw_1_62 rfl ?_
    refine zv_iload_n K 12 dX1_isOver_11 rfl rfl ?_
    refine zv_icmp_ne K 34 15 dX1_isOver_12 (by decide) rfl (fun h2 => ?_) (fun h2 => ?_)
    · skip
      refine zv_iconst K 0 35 dX1_isOver_34 rfl (by decide) ?_
      exact zv_zret K T dX1_isOver_35 rfl (⟨congrArg (fun z => some (Value.int z)) (Eq.symm (zB_f (by simp_all))), rfl⟩)
    · skip
      refine zv_iload_n K 16 dX1_isOver_15 rfl rfl ?_
      refine zv_aload_n K 17 dX1_isOver_16 rfl rfl ?_
      refine zk_get (v := .int (r 3)) K hi 3 20 dX1_isOver_17 rfl (by decide) zw_1_64 rfl ?_
      refine zv_aload_n K 21 dX1_isOver_20 rfl rfl ?_
      refine zk_get (v := .int (r 4)) K hi 4 24 dX1_isOver_21 rfl (by decide) zw_1_67 rfl ?_
      refine zv_cSN1 K (As := [.int ft, .int (r 3), .int (r 4)]) (rest := []) 3 27 (kX3_isWithin l D ty (zc a ty (zCl σ i r sh)) ft (r 3) (r 4)) dX1_isOver_24 rfl zn_22 zw_1_146 zw_1_1 zw_1_147 ⟨rfl, rfl⟩ zh_yX3_isWithin ⟨by decide, by decide⟩ rfl rfl (zle rfl) rfl ?_
      refine zv_ifB_eq K 34 30 dX1_isOver_27 (by decide) rfl (fun h3 => ?_) (fun h3 => ?_)
      · skip
        refine zv_iconst K 0 35 dX1_isOver_34 rfl (by decide) ?_
        exact zv_zret K T dX1_isOver_35 rfl (⟨congrArg (fun z => some (Value.int z)) (Eq.symm (zB_f (by simp_all))), rfl⟩)
      · skip
        refine zv_iconst K 1 31 dX1_isOver_30 rfl (by decide) ?_
        refine zv_goto K 35 dX1_isOver_31 (by decide) ?_
        exact zv_zret K T dX1_isOver_35 rfl (⟨congrArg (fun z => some (Value.int z)) (Eq.symm (zB_t (by simp_all))), rfl⟩)

set_option maxHeartbeats 4000000 in
set_option maxRecDepth 100000 in
theorem kX1_addNick (l : Launch) (D : va_G) (ty : zTy) (a : Nat → Nat) (σ : zC) (i : Nat) (hi : i < 20) (r sh : Nat → Int32) (m d : Int32) : zv_ct l D ty yX1_addNick cX1_addNick 3 none (zR 0 0) [.ref (a (i + 11)), .int m, .int d] (zc a ty (zCl σ i r sh)) (fun v_ w_ => v_ = none ∧ w_ = zc a ty (zCl σ i (rAdd r m d) sh)) := by
  refine zv_open (by decide) rfl rfl [some (.ref (a (i + 11))), some (.int m), some (.int d)] (by simp [zv_one, Value.category]) (zle rfl) rfl ?_
  intro k K T
  refine zv_aload_n K 1 dX1_addNick_0 rfl rfl ?_
  refine zk_get (v := .int (r 7)) K hi 7 4 dX1_addNick_1 rfl (by decide) zw_1_75 rfl ?_
  refine zv_if_ne K 12 7 dX1_addNick_4 (by decide) rfl (fun hz => ?_) (fun hz => ?_)
  · skip
    refine zv_aload_n K 13 dX1_addNick_12 rfl rfl ?_
    refine zv_iload_n K 14 dX1_addNick_13 rfl rfl ?_
    refine zk_put (t0 := .int) K hi 8 17 dX1_addNick_14 rfl (by decide) zw_1_77 rfl rfl rfl rfl (zCl_O8 _ _ _ _) ?_
    refine zv_aload_n K 18 dX1_addNick_17 rfl rfl ?_
    refine zv_iload_n K 19 dX1_addNick_18 rfl rfl ?_
    refine zk_put (t0 := .int) K hi 10 22 dX1_addNick_19 rfl (by decide) zw_1_79 rfl rfl rfl rfl (zCl_O10 _ _ _ _) ?_
    refine zv_aload_n K 23 dX1_addNick_22 rfl rfl ?_
    refine zv_dup K 24 dX1_addNick_23 rfl rfl ?_
    refine zk_get (v := .int (r 7)) K hi 7 27 dX1_addNick_24 rfl (by decide) zw_1_75 rfl ?_
    refine zv_iconst K 1 28 dX1_addNick_27 rfl (by decide) ?_
    refine zv_iadd K 29 dX1_addNick_28 rfl ?_
    refine zk_put (t0 := .int) K hi 7 32 dX1_addNick_29 rfl (by decide) zw_1_75 rfl rfl rfl rfl (zCl_O7 _ _ _ _) ?_
    exact zv_vret K T dX1_addNick_32 (⟨rfl, congrArg (fun z => zc a ty (zCl σ i z sh)) (by unfold rAdd; first | (rw [if_pos hz]; done) | (rw [if_neg hz]; done) | (rw [if_pos hz]; rfl) | (rw [if_neg hz]; rfl))⟩)
  · skip
    refine zv_aload_n K 8 dX1_addNick_7 rfl rfl ?_
    refine zv_iload_n K 9 dX1_addNick_8 rfl rfl ?_
    refine zk_put (t0 := .int) K hi 9 12 dX1_addNick_9 rfl (by decide) zw_1_78 rfl rfl rfl rfl (zCl_O9 _ _ _ _) ?_
    refine zv_aload_n K 13 dX1_addNick_12 rfl rfl ?_
    refine zv_iload_n K 14 dX1_addNick_13 rfl rfl ?_
    refine zk_put (t0 := .int) K hi 8 17 dX1_addNick_14 rfl (by decide) zw_1_77 rfl rfl rfl rfl (zCl_O8 _ _ _ _) ?_
    refine zv_aload_n K 18 dX1_addNick_17 rfl rfl ?_
    refine zv_iload_n K 19 dX1_addNick_18 rfl rfl ?_
    refine zk_put (t0 := .int) K hi 10 22 dX1_addNick_19 rfl (by decide) zw_1_79 rfl rfl rfl rfl (zCl_O10 _ _ _ _) ?_
    refine zv_aload_n K 23 dX1_addNick_22 rfl rfl ?_
    refine zv_dup K 24 dX1_addNick_23 rfl rfl ?_
    refine zk_get (v := .int (r 7)) K hi 7 27 dX1_addNick_24 rfl (by decide) zw_1_75 rfl ?_
    refine zv_iconst K 1 28 dX1_addNick_27 rfl (by decide) ?_
    refine zv_iadd K 29 dX1_addNick_28 rfl ?_
    refine zk_put (t0 := .int) K hi 7 32 dX1_addNick_29 rfl (by decide) zw_1_75 rfl rfl rfl rfl (zCl_O7 _ _ _ _) ?_
    exact zv_vret K T dX1_addNick_32 (⟨rfl, congrArg (fun z => zc a ty (zCl σ i z sh)) (by unfold rAdd; first | (rw [if_pos hz]; done) | (rw [if_neg hz]; done) | (rw [if_pos hz]; rfl) | (rw [if_neg hz]; rfl))⟩)

set_option maxHeartbeats 4000000 in
set_option maxRecDepth 100000 in
theorem kX1_moveShares (l : Launch) (D : va_G) (ty : zTy) (a : Nat → Nat) (σ : zC) (i : Nat) (hi : i < 20) (r sh : Nat → Int32) (x y n : Int32) (p q : Nat) (hx : x = nI p) (hp : p < 10) (hy : y = nI q) (hq : q < 10) : zv_ct l D ty yX1_moveShares cX1_moveShares 4 none (zR 0 0) [.ref (a (i + 11)), .int x, .int y, .int n] (zc a ty (zCl σ i r sh)) (fun v_ w_ => v_ = none ∧ w_ = zc a ty (zCl σ i r (sMove sh p q n))) := by
  refine zv_open (by decide) rfl rfl [some (.ref (a (i + 11))), some (.int x), some (.int y), some (.int n)] (by simp [zv_one, Value.category]) (zle rfl) rfl ?_
  intro k K T
  refine zv_aload_n K 1 dX1_moveShares_0 rfl rfl ?_
  refine zk_get (v := .ref (a (i + 31))) K hi 11 4 dX1_moveShares_1 rfl (by decide) zw_1_80 rfl ?_
  refine zv_iload_n K 5 dX1_moveShares_4 rfl rfl ?_
  refine zk_ald K hi p 6 dX1_moveShares_5 rfl hx hp ?_
  refine zv_iload_n K 7 dX1_moveShares_6 rfl rfl ?_
  refine zv_icmp_lt K 30 10 dX1_moveShares_7 (by decide) rfl (fun hb => ?_) (fun hb => ?_)
  · skip
    exact zv_vret K T dX1_moveShares_30 (⟨rfl, congrArg (fun z => zc a ty (zCl σ i r z)) (by unfold sMove; first | (rw [if_pos hb]; done) | (rw [if_neg hb]; done))⟩)
  · skip
    refine zv_aload_n K 11 dX1_moveShares_10 rfl rfl ?_
    refine zk_get (v := .ref (a (i + 31))) K hi 11 14 dX1_moveShares_11 rfl (by decide) zw_1_80 rfl ?_
    refine zv_iload_n K 15 dX1_moveShares_14 rfl rfl ?_
    refine zv_dup2 K 16 dX1_moveShares_15 rfl rfl rfl ?_
    refine zk_ald K hi p 17 dX1_moveShares_16 rfl hx hp ?_
    refine zv_iload_n K 18 dX1_moveShares_17 rfl rfl ?_
    refine zv_isub K 19 dX1_moveShares_18 rfl ?_
    refine zk_ast K hi p 20 dX1_moveShares_19 rfl hx hp ?_
    refine zv_aload_n K 21 dX1_moveShares_20 rfl rfl ?_
    refine zk_get (v := .ref (a (i + 31))) K hi 11 24 dX1_moveShares_21 rfl (by decide) zw_1_80 rfl ?_
    refine zv_iload_n K 25 dX1_moveShares_24 rfl rfl ?_
    refine zv_dup2 K 26 dX1_moveShares_25 rfl rfl rfl ?_
    refine zk_ald K hi q 27 dX1_moveShares_26 rfl hy hq ?_
    refine zv_iload_n K 28 dX1_moveShares_27 rfl rfl ?_
    refine zv_iadd K 29 dX1_moveShares_28 rfl ?_
    refine zk_ast K hi q 30 dX1_moveShares_29 rfl hy hq ?_
    exact zv_vret K T dX1_moveShares_30 (⟨rfl, congrArg (fun z => zc a ty (zCl σ i r z)) (by unfold sMove; first | (rw [if_pos hb]; done) | (rw [if_neg hb]; done))⟩)

set_option maxHeartbeats 4000000 in
set_option maxRecDepth 100000 in
theorem kX1_takeNick (l : Launch) (D : va_G) (ty : zTy) (a : Nat → Nat) (σ : zC) (i : Nat) (hi : i < 20) (r sh : Nat → Int32) (m d idle : Int32) : zv_ct l D ty yX1_takeNick cX1_takeNick 4 none (zR 2 44) [.ref (a (i + 11)), .int m, .int d, .int idle] (zc a ty (zCl σ i r sh)) (fun v_ w_ => v_ = none ∧ w_ = zc a ty (zCl σ i (rNick r m d idle) (sNick r sh m d idle))) := by
  refine zv_open (by decide) rfl rfl [some (.ref (a (i + 11))), some (.int m), some (.int d), some (.int idle)] (by simp [zv_one, Value.category]) (zle rfl) rfl ?_
  intro k K T
  refine zv_iload_n K 1 dX1_takeNick_0 rfl rfl ?_
  refine zv_aload_n K 2 dX1_takeNick_1 rfl rfl ?_
  refine zk_get (v := .int (r 5)) K hi 5 5 dX1_takeNick_2 rfl (by decide) zw_1_71 rfl ?_
  refine zv_icmp_eq K 17 8 dX1_takeNick_5 (by decide) rfl (fun h1 => ?_) (fun h1 => ?_)
  · skip
    exact zv_vret K T dX1_takeNick_17 (⟨rfl, by simp only [rNick, sNick, if_pos (show m = r 5 ∨ ¬ idle < d - r 6 from Or.inl h1)]⟩)
  · skip
    refine zv_aload_n K 9 dX1_takeNick_8 rfl rfl ?_
    refine zv_iload_n K 10 dX1_takeNick_9 rfl rfl ?_
    refine zv_iload_n K 11 dX1_takeNick_10 rfl rfl ?_
    refine zv_cV1 K (q0 := (i + 11)) (As := [.int d, .int idle]) (rest := []) 2 14 (kX1_isIdle l D ty a σ i hi r sh d idle) dX1_takeNick_11 rfl zw_2_92 zw_2_93 zw_2_94 zw_1_4 zw_2_95 ⟨rfl, rfl⟩ zh_yX1_isIdle ⟨by decide, by decide⟩ (zc_cl hi) rfl rfl rfl (zle rfl) rfl ?_
    refine zv_ifB_ne K 18 17 dX1_takeNick_14 (by decide) rfl (fun h2 => ?_) (fun h2 => ?_)
    · skip
      refine zv_iload_n K 19 dX1_takeNick_18 rfl rfl ?_
      refine zv_aload_n K 20 dX1_takeNick_19 rfl rfl ?_
      refine zk_get (v := .int (r 8)) K hi 8 23 dX1_takeNick_20 rfl (by decide) zw_1_77 rfl ?_
      refine zv_icmp_ne K 37 26 dX1_takeNick_23 (by decide) rfl (fun h3 => ?_) (fun h3 => ?_)
      · skip
        refine zv_aload_n K 38 dX1_takeNick_37 rfl rfl ?_
        refine zv_iconst K 0 39 dX1_takeNick_38 rfl (by decide) ?_
        refine zk_put (t0 := .int) K hi 7 42 dX1_takeNick_39 rfl (by decide) zw_1_75 rfl rfl rfl rfl (zCl_O7 _ _ _ _) ?_
        refine zv_aload_n K 43 dX1_takeNick_42 rfl rfl ?_
        refine zk_get (v := .int 0) K hi 7 46 dX1_takeNick_43 rfl (by decide) zw_1_75 rfl ?_
        refine zv_if_le K 58 49 dX1_takeNick_46 (by decide) rfl (fun h4 => ?_) (fun h4 => ?_)
        · skip
          refine zv_aload_n K 59 dX1_takeNick_58 rfl rfl ?_
          refine zv_iload_n K 60 dX1_takeNick_59 rfl rfl ?_
          refine zv_iload_n K 61 dX1_takeNick_60 rfl rfl ?_
          refine zv_cV0 K (q0 := (i + 11)) (As := [.int m, .int d]) (rest := []) 2 64 (kX1_addNick l D ty a σ i hi (upd r 7 0) sh m d) dX1_takeNick_61 rfl zw_2_96 zw_2_98 zw_p1_12 zw_1_4 zw_2_99 ⟨rfl, rfl⟩ zh_yX1_addNick ⟨by decide, by decide⟩ (zc_cl hi) rfl rfl rfl (zle rfl) rfl ?_
          refine zv_aload_n K 65 dX1_takeNick_64 rfl rfl ?_
          refine zk_get (v := .int ((rAdd (upd r 7 0) m d) 7)) K hi 7 68 dX1_takeNick_65 rfl (by decide) zw_1_75 rfl ?_
          refine zv_iconst K 3 69 dX1_takeNick_68 rfl (by decide) ?_
          refine zv_icmp_lt K 78 72 dX1_takeNick_69 (by decide) rfl (fun h5 => ?_) (fun h5 => ?_)
          · skip
            exact zv_vret K T dX1_takeNick_78 (⟨rfl, by have c1 : ¬ (m = r 5 ∨ ¬ idle < d - r 6) := fun q => q.elim (fun q => h1 q) (fun q => q h2); have e : rStale r m d = upd r 7 0 := if_pos (Or.inl h3); have c2 : ¬ (0 < (upd r 7 0) 7 ∧ (upd r 7 0) 10 = d) := fun q => z_len h4 q.1; have c3 : ¬ 3 ≤ rAdd (upd r 7 0) m d 7 := z_ltn h5; simp only [rNick, sNick, if_neg c1, e, if_neg c2, if_neg c3]⟩)
          · skip
            refine zv_aload_n K 73 dX1_takeNick_72 rfl rfl ?_
            refine zv_iload_n K 74 dX1_takeNick_73 rfl rfl ?_
            refine zv_iload_n K 75 dX1_takeNick_74 rfl rfl ?_
            refine zv_cV0 K (q0 := (i + 11)) (As := [.int m, .int d]) (rest := []) 2 78 (kX1_passTo l D ty a σ i hi (rAdd (upd r 7 0) m d) sh m d) dX1_takeNick_75 rfl zw_2_59 zw_2_61 zw_p1_8 zw_1_4 zw_2_62 ⟨rfl, rfl⟩ zh_yX1_passTo ⟨by decide, by decide⟩ (zc_cl hi) rfl rfl rfl (zle rfl) rfl ?_
            exact zv_vret K T dX1_takeNick_78 (⟨rfl, by have c1 : ¬ (m = r 5 ∨ ¬ idle < d - r 6) := fun q => q.elim (fun q => h1 q) (fun q => q h2); have e : rStale r m d = upd r 7 0 := if_pos (Or.inl h3); have c2 : ¬ (0 < (upd r 7 0) 7 ∧ (upd r 7 0) 10 = d) := fun q => z_len h4 q.1; have c3 : 3 ≤ rAdd (upd r 7 0) m d 7 := z_nlt h5; simp only [rNick, sNick, if_neg c1, e, if_neg c2, if_pos c3]⟩)
        · skip
          refine zv_aload_n K 50 dX1_takeNick_49 rfl rfl ?_
          refine zk_get (v := .int (r 10)) K hi 10 53 dX1_takeNick_50 rfl (by decide) zw_1_79 rfl ?_
          refine zv_iload_n K 54 dX1_takeNick_53 rfl rfl ?_
          refine zv_icmp_ne K 58 57 dX1_takeNick_54 (by decide) rfl (fun h6 => ?_) (fun h6 => ?_)
          · skip
            refine zv_aload_n K 59 dX1_takeNick_58 rfl rfl ?_
            refine zv_iload_n K 60 dX1_takeNick_59 rfl rfl ?_
            refine zv_iload_n K 61 dX1_takeNick_60 rfl rfl ?_
            refine zv_cV0 K (q0 := (i + 11)) (As := [.int m, .int d]) (rest := []) 2 64 (kX1_addNick l D ty a σ i hi (upd r 7 0) sh m d) dX1_takeNick_61 rfl zw_2_96 zw_2_98 zw_p1_12 zw_1_4 zw_2_99 ⟨rfl, rfl⟩ zh_yX1_addNick ⟨by decide, by decide⟩ (zc_cl hi) rfl rfl rfl (zle rfl) rfl ?_
            refine zv_aload_n K 65 dX1_takeNick_64 rfl rfl ?_
            refine zk_get (v := .int ((rAdd (upd r 7 0) m d) 7)) K hi 7 68 dX1_takeNick_65 rfl (by decide) zw_1_75 rfl ?_
            refine zv_iconst K 3 69 dX1_takeNick_68 rfl (by decide) ?_
            refine zv_icmp_lt K 78 72 dX1_takeNick_69 (by decide) rfl (fun h7 => ?_) (fun h7 => ?_)
            · skip
              exact zv_vret K T dX1_takeNick_78 (⟨rfl, by have c1 : ¬ (m = r 5 ∨ ¬ idle < d - r 6) := fun q => q.elim (fun q => h1 q) (fun q => q h2); have e : rStale r m d = upd r 7 0 := if_pos (Or.inl h3); have c2 : ¬ (0 < (upd r 7 0) 7 ∧ (upd r 7 0) 10 = d) := fun q => h6 q.2; have c3 : ¬ 3 ≤ rAdd (upd r 7 0) m d 7 := z_ltn h7; simp only [rNick, sNick, if_neg c1, e, if_neg c2, if_neg c3]⟩)
            · skip
              refine zv_aload_n K 73 dX1_takeNick_72 rfl rfl ?_
              refine zv_iload_n K 74 dX1_takeNick_73 rfl rfl ?_
              refine zv_iload_n K 75 dX1_takeNick_74 rfl rfl ?_
              refine zv_cV0 K (q0 := (i + 11)) (As := [.int m, .int d]) (rest := []) 2 78 (kX1_passTo l D ty a σ i hi (rAdd (upd r 7 0) m d) sh m d) dX1_takeNick_75 rfl zw_2_59 zw_2_61 zw_p1_8 zw_1_4 zw_2_62 ⟨rfl, rfl⟩ zh_yX1_passTo ⟨by decide, by decide⟩ (zc_cl hi) rfl rfl rfl (zle rfl) rfl ?_
              exact zv_vret K T dX1_takeNick_78 (⟨rfl, by have c1 : ¬ (m = r 5 ∨ ¬ idle < d - r 6) := fun q => q.elim (fun q => h1 q) (fun q => q h2); have e : rStale r m d = upd r 7 0 := if_pos (Or.inl h3); have c2 : ¬ (0 < (upd r 7 0) 7 ∧ (upd r 7 0) 10 = d) := fun q => h6 q.2; have c3 : 3 ≤ rAdd (upd r 7 0) m d 7 := z_nlt h7; simp only [rNick, sNick, if_neg c1, e, if_neg c2, if_pos c3]⟩)
          · skip
            exact zv_vret K T dX1_takeNick_57 (⟨rfl, by have c1 : ¬ (m = r 5 ∨ ¬ idle < d - r 6) := fun q => q.elim (fun q => h1 q) (fun q => q h2); have e : rStale r m d = upd r 7 0 := if_pos (Or.inl h3); have c2 : (0 < (upd r 7 0) 7 ∧ (upd r 7 0) 10 = d) := ⟨z_nle h4, h6⟩; simp only [rNick, sNick, if_neg c1, e, if_pos c2]⟩)
      · skip
        refine zv_iload_n K 27 dX1_takeNick_26 rfl rfl ?_
        refine zv_aload_n K 28 dX1_takeNick_27 rfl rfl ?_
        refine zk_get (v := .int (r 9)) K hi 9 31 dX1_takeNick_28 rfl (by decide) zw_1_78 rfl ?_
        refine zv_isub K 32 dX1_takeNick_31 rfl ?_
        refine zv_bipush K 10 34 dX1_takeNick_32 rfl (by decide) ?_
        refine zv_icmp_le K 42 37 dX1_takeNick_34 (by decide) rfl (fun h8 => ?_) (fun h8 => ?_)
        · skip
          refine zv_aload_n K 43 dX1_takeNick_42 rfl rfl ?_
          refine zk_get (v := .int (r 7)) K hi 7 46 dX1_takeNick_43 rfl (by decide) zw_1_75 rfl ?_
          refine zv_if_le K 58 49 dX1_takeNick_46 (by decide) rfl (fun h9 => ?_) (fun h9 => ?_)
          · skip
            refine zv_aload_n K 59 dX1_takeNick_58 rfl rfl ?_
            refine zv_iload_n K 60 dX1_takeNick_59 rfl rfl ?_
            refine zv_iload_n K 61 dX1_takeNick_60 rfl rfl ?_
            refine zv_cV0 K (q0 := (i + 11)) (As := [.int m, .int d]) (rest := []) 2 64 (kX1_addNick l D ty a σ i hi r sh m d) dX1_takeNick_61 rfl zw_2_96 zw_2_98 zw_p1_12 zw_1_4 zw_2_99 ⟨rfl, rfl⟩ zh_yX1_addNick ⟨by decide, by decide⟩ (zc_cl hi) rfl rfl rfl (zle rfl) rfl ?_
            refine zv_aload_n K 65 dX1_takeNick_64 rfl rfl ?_
            refine zk_get (v := .int ((rAdd r m d) 7)) K hi 7 68 dX1_takeNick_65 rfl (by decide) zw_1_75 rfl ?_
            refine zv_iconst K 3 69 dX1_takeNick_68 rfl (by decide) ?_
            refine zv_icmp_lt K 78 72 dX1_takeNick_69 (by decide) rfl (fun h10 => ?_) (fun h10 => ?_)
            · skip
              exact zv_vret K T dX1_takeNick_78 (⟨rfl, by have c1 : ¬ (m = r 5 ∨ ¬ idle < d - r 6) := fun q => q.elim (fun q => h1 q) (fun q => q h2); have e : rStale r m d = r := if_neg (fun q => q.elim (fun q => q h3) (fun q => z_len h8 q)); have c2 : ¬ (0 < r 7 ∧ r 10 = d) := fun q => z_len h9 q.1; have c3 : ¬ 3 ≤ rAdd r m d 7 := z_ltn h10; simp only [rNick, sNick, if_neg c1, e, if_neg c2, if_neg c3]⟩)
            · skip
              refine zv_aload_n K 73 dX1_takeNick_72 rfl rfl ?_
              refine zv_iload_n K 74 dX1_takeNick_73 rfl rfl ?_
              refine zv_iload_n K 75 dX1_takeNick_74 rfl rfl ?_
              refine zv_cV0 K (q0 := (i + 11)) (As := [.int m, .int d]) (rest := []) 2 78 (kX1_passTo l D ty a σ i hi (rAdd r m d) sh m d) dX1_takeNick_75 rfl zw_2_59 zw_2_61 zw_p1_8 zw_1_4 zw_2_62 ⟨rfl, rfl⟩ zh_yX1_passTo ⟨by decide, by decide⟩ (zc_cl hi) rfl rfl rfl (zle rfl) rfl ?_
              exact zv_vret K T dX1_takeNick_78 (⟨rfl, by have c1 : ¬ (m = r 5 ∨ ¬ idle < d - r 6) := fun q => q.elim (fun q => h1 q) (fun q => q h2); have e : rStale r m d = r := if_neg (fun q => q.elim (fun q => q h3) (fun q => z_len h8 q)); have c2 : ¬ (0 < r 7 ∧ r 10 = d) := fun q => z_len h9 q.1; have c3 : 3 ≤ rAdd r m d 7 := z_nlt h10; simp only [rNick, sNick, if_neg c1, e, if_neg c2, if_pos c3]⟩)
          · skip
            refine zv_aload_n K 50 dX1_takeNick_49 rfl rfl ?_
            refine zk_get (v := .int (r 10)) K hi 10 53 dX1_takeNick_50 rfl (by decide) zw_1_79 rfl ?_
            refine zv_iload_n K 54 dX1_takeNick_53 rfl rfl ?_
            refine zv_icmp_ne K 58 57 dX1_takeNick_54 (by decide) rfl (fun h11 => ?_) (fun h11 => ?_)
            · skip
              refine zv_aload_n K 59 dX1_takeNick_58 rfl rfl ?_
              refine zv_iload_n K 60 dX1_takeNick_59 rfl rfl ?_
              refine zv_iload_n K 61 dX1_takeNick_60 rfl rfl ?_
              refine zv_cV0 K (q0 := (i + 11)) (As := [.int m, .int d]) (rest := []) 2 64 (kX1_addNick l D ty a σ i hi r sh m d) dX1_takeNick_61 rfl zw_2_96 zw_2_98 zw_p1_12 zw_1_4 zw_2_99 ⟨rfl, rfl⟩ zh_yX1_addNick ⟨by decide, by decide⟩ (zc_cl hi) rfl rfl rfl (zle rfl) rfl ?_
              refine zv_aload_n K 65 dX1_takeNick_64 rfl rfl ?_
              refine zk_get (v := .int ((rAdd r m d) 7)) K hi 7 68 dX1_takeNick_65 rfl (by decide) zw_1_75 rfl ?_
              refine zv_iconst K 3 69 dX1_takeNick_68 rfl (by decide) ?_
              refine zv_icmp_lt K 78 72 dX1_takeNick_69 (by decide) rfl (fun h12 => ?_) (fun h12 => ?_)
              · skip
                exact zv_vret K T dX1_takeNick_78 (⟨rfl, by have c1 : ¬ (m = r 5 ∨ ¬ idle < d - r 6) := fun q => q.elim (fun q => h1 q) (fun q => q h2); have e : rStale r m d = r := if_neg (fun q => q.elim (fun q => q h3) (fun q => z_len h8 q)); have c2 : ¬ (0 < r 7 ∧ r 10 = d) := fun q => h11 q.2; have c3 : ¬ 3 ≤ rAdd r m d 7 := z_ltn h12; simp only [rNick, sNick, if_neg c1, e, if_neg c2, if_neg c3]⟩)
              · skip
                refine zv_aload_n K 73 dX1_takeNick_72 rfl rfl ?_
                refine zv_iload_n K 74 dX1_takeNick_73 rfl rfl ?_
                refine zv_iload_n K 75 dX1_takeNick_74 rfl rfl ?_
                refine zv_cV0 K (q0 := (i + 11)) (As := [.int m, .int d]) (rest := []) 2 78 (kX1_passTo l D ty a σ i hi (rAdd r m d) sh m d) dX1_takeNick_75 rfl zw_2_59 zw_2_61 zw_p1_8 zw_1_4 zw_2_62 ⟨rfl, rfl⟩ zh_yX1_passTo ⟨by decide, by decide⟩ (zc_cl hi) rfl rfl rfl (zle rfl) rfl ?_
                exact zv_vret K T dX1_takeNick_78 (⟨rfl, by have c1 : ¬ (m = r 5 ∨ ¬ idle < d - r 6) := fun q => q.elim (fun q => h1 q) (fun q => q h2); have e : rStale r m d = r := if_neg (fun q => q.elim (fun q => q h3) (fun q => z_len h8 q)); have c2 : ¬ (0 < r 7 ∧ r 10 = d) := fun q => h11 q.2; have c3 : 3 ≤ rAdd r m d 7 := z_nlt h12; simp only [rNick, sNick, if_neg c1, e, if_neg c2, if_pos c3]⟩)
            · skip
              exact zv_vret K T dX1_takeNick_57 (⟨rfl, by have c1 : ¬ (m = r 5 ∨ ¬ idle < d - r 6) := fun q => q.elim (fun q => h1 q) (fun q => q h2); have e : rStale r m d = r := if_neg (fun q => q.elim (fun q => q h3) (fun q => z_len h8 q)); have c2 : (0 < r 7 ∧ r 10 = d) := ⟨z_nle h9, h11⟩; simp only [rNick, sNick, if_neg c1, e, if_pos c2]⟩)
        · skip
          refine zv_aload_n K 38 dX1_takeNick_37 rfl rfl ?_
          refine zv_iconst K 0 39 dX1_takeNick_38 rfl (by decide) ?_
          refine zk_put (t0 := .int) K hi 7 42 dX1_takeNick_39 rfl (by decide) zw_1_75 rfl rfl rfl rfl (zCl_O7 _ _ _ _) ?_
          refine zv_aload_n K 43 dX1_takeNick_42 rfl rfl ?_
          refine zk_get (v := .int 0) K hi 7 46 dX1_takeNick_43 rfl (by decide) zw_1_75 rfl ?_
          refine zv_if_le K 58 49 dX1_takeNick_46 (by decide) rfl (fun h13 => ?_) (fun h13 => ?_)
          · skip
            refine zv_aload_n K 59 dX1_takeNick_58 rfl rfl ?_
            refine zv_iload_n K 60 dX1_takeNick_59 rfl rfl ?_
            refine zv_iload_n K 61 dX1_takeNick_60 rfl rfl ?_
            refine zv_cV0 K (q0 := (i + 11)) (As := [.int m, .int d]) (rest := []) 2 64 (kX1_addNick l D ty a σ i hi (upd r 7 0) sh m d) dX1_takeNick_61 rfl zw_2_96 zw_2_98 zw_p1_12 zw_1_4 zw_2_99 ⟨rfl, rfl⟩ zh_yX1_addNick ⟨by decide, by decide⟩ (zc_cl hi) rfl rfl rfl (zle rfl) rfl ?_
            refine zv_aload_n K 65 dX1_takeNick_64 rfl rfl ?_
            refine zk_get (v := .int ((rAdd (upd r 7 0) m d) 7)) K hi 7 68 dX1_takeNick_65 rfl (by decide) zw_1_75 rfl ?_
            refine zv_iconst K 3 69 dX1_takeNick_68 rfl (by decide) ?_
            refine zv_icmp_lt K 78 72 dX1_takeNick_69 (by decide) rfl (fun h14 => ?_) (fun h14 => ?_)
            · skip
              exact zv_vret K T dX1_takeNick_78 (⟨rfl, by have c1 : ¬ (m = r 5 ∨ ¬ idle < d - r 6) := fun q => q.elim (fun q => h1 q) (fun q => q h2); have e : rStale r m d = upd r 7 0 := if_pos (Or.inr (z_nle h8)); have c2 : ¬ (0 < (upd r 7 0) 7 ∧ (upd r 7 0) 10 = d) := fun q => z_len h13 q.1; have c3 : ¬ 3 ≤ rAdd (upd r 7 0) m d 7 := z_ltn h14; simp only [rNick, sNick, if_neg c1, e, if_neg c2, if_neg c3]⟩)
            · skip
              refine zv_aload_n K 73 dX1_takeNick_72 rfl rfl ?_
              refine zv_iload_n K 74 dX1_takeNick_73 rfl rfl ?_
              refine zv_iload_n K 75 dX1_takeNick_74 rfl rfl ?_
              refine zv_cV0 K (q0 := (i + 11)) (As := [.int m, .int d]) (rest := []) 2 78 (kX1_passTo l D ty a σ i hi (rAdd (upd r 7 0) m d) sh m d) dX1_takeNick_75 rfl zw_2_59 zw_2_61 zw_p1_8 zw_1_4 zw_2_62 ⟨rfl, rfl⟩ zh_yX1_passTo ⟨by decide, by decide⟩ (zc_cl hi) rfl rfl rfl (zle rfl) rfl ?_
              exact zv_vret K T dX1_takeNick_78 (⟨rfl, by have c1 : ¬ (m = r 5 ∨ ¬ idle < d - r 6) := fun q => q.elim (fun q => h1 q) (fun q => q h2); have e : rStale r m d = upd r 7 0 := if_pos (Or.inr (z_nle h8)); have c2 : ¬ (0 < (upd r 7 0) 7 ∧ (upd r 7 0) 10 = d) := fun q => z_len h13 q.1; have c3 : 3 ≤ rAdd (upd r 7 0) m d 7 := z_nlt h14; simp only [rNick, sNick, if_neg c1, e, if_neg c2, if_pos c3]⟩)
          · skip
            refine zv_aload_n K 50 dX1_takeNick_49 rfl rfl ?_
            refine zk_get (v := .int (r 10)) K hi 10 53 dX1_takeNick_50 rfl (by decide) zw_1_79 rfl ?_
            refine zv_iload_n K 54 dX1_takeNick_53 rfl rfl ?_
            refine zv_icmp_ne K 58 57 dX1_takeNick_54 (by decide) rfl (fun h15 => ?_) (fun h15 => ?_)
            · skip
              refine zv_aload_n K 59 dX1_takeNick_58 rfl rfl ?_
              refine zv_iload_n K 60 dX1_takeNick_59 rfl rfl ?_
              refine zv_iload_n K 61 dX1_takeNick_60 rfl rfl ?_
              refine zv_cV0 K (q0 := (i + 11)) (As := [.int m, .int d]) (rest := []) 2 64 (kX1_addNick l D ty a σ i hi (upd r 7 0) sh m d) dX1_takeNick_61 rfl zw_2_96 zw_2_98 zw_p1_12 zw_1_4 zw_2_99 ⟨rfl, rfl⟩ zh_yX1_addNick ⟨by decide, by decide⟩ (zc_cl hi) rfl rfl rfl (zle rfl) rfl ?_
              refine zv_aload_n K 65 dX1_takeNick_64 rfl rfl ?_
              refine zk_get (v := .int ((rAdd (upd r 7 0) m d) 7)) K hi 7 68 dX1_takeNick_65 rfl (by decide) zw_1_75 rfl ?_
              refine zv_iconst K 3 69 dX1_takeNick_68 rfl (by decide) ?_
              refine zv_icmp_lt K 78 72 dX1_takeNick_69 (by decide) rfl (fun h16 => ?_) (fun h16 => ?_)
              · skip
                exact zv_vret K T dX1_takeNick_78 (⟨rfl, by have c1 : ¬ (m = r 5 ∨ ¬ idle < d - r 6) := fun q => q.elim (fun q => h1 q) (fun q => q h2); have e : rStale r m d = upd r 7 0 := if_pos (Or.inr (z_nle h8)); have c2 : ¬ (0 < (upd r 7 0) 7 ∧ (upd r 7 0) 10 = d) := fun q => h15 q.2; have c3 : ¬ 3 ≤ rAdd (upd r 7 0) m d 7 := z_ltn h16; simp only [rNick, sNick, if_neg c1, e, if_neg c2, if_neg c3]⟩)
              · skip
                refine zv_aload_n K 73 dX1_takeNick_72 rfl rfl ?_
                refine zv_iload_n K 74 dX1_takeNick_73 rfl rfl ?_
                refine zv_iload_n K 75 dX1_takeNick_74 rfl rfl ?_
                refine zv_cV0 K (q0 := (i + 11)) (As := [.int m, .int d]) (rest := []) 2 78 (kX1_passTo l D ty a σ i hi (rAdd (upd r 7 0) m d) sh m d) dX1_takeNick_75 rfl zw_2_59 zw_2_61 zw_p1_8 zw_1_4 zw_2_62 ⟨rfl, rfl⟩ zh_yX1_passTo ⟨by decide, by decide⟩ (zc_cl hi) rfl rfl rfl (zle rfl) rfl ?_
                exact zv_vret K T dX1_takeNick_78 (⟨rfl, by have c1 : ¬ (m = r 5 ∨ ¬ idle < d - r 6) := fun q => q.elim (fun q => h1 q) (fun q => q h2); have e : rStale r m d = upd r 7 0 := if_pos (Or.inr (z_nle h8)); have c2 : ¬ (0 < (upd r 7 0) 7 ∧ (upd r 7 0) 10 = d) := fun q => h15 q.2; have c3 : 3 ≤ rAdd (upd r 7 0) m d 7 := z_nlt h16; simp only [rNick, sNick, if_neg c1, e, if_neg c2, if_pos c3]⟩)
            · skip
              exact zv_vret K T dX1_takeNick_57 (⟨rfl, by have c1 : ¬ (m = r 5 ∨ ¬ idle < d - r 6) := fun q => q.elim (fun q => h1 q) (fun q => q h2); have e : rStale r m d = upd r 7 0 := if_pos (Or.inr (z_nle h8)); have c2 : (0 < (upd r 7 0) 7 ∧ (upd r 7 0) 10 = d) := ⟨z_nle h13, h15⟩; simp only [rNick, sNick, if_neg c1, e, if_pos c2]⟩)
    · skip
      exact zv_vret K T dX1_takeNick_17 (⟨rfl, by simp only [rNick, sNick, if_pos (show m = r 5 ∨ ¬ idle < d - r 6 from Or.inr h2)]⟩)

set_option maxHeartbeats 4000000 in
set_option maxRecDepth 100000 in
theorem kX1_turn (l : Launch) (D : va_G) (ty : zTy) (a : Nat → Nat) (σ : zC) (i : Nat) (hi : i < 20) (r sh : Nat → Int32) (x idle : Int32) (f : Nat) (hx : x = nI f) (hf : f < 90) (h5 : zg σ f 0 = 5 → ∃ p q : Nat, p < 10 ∧ zg σ f 5 = nI p ∧ q < 10 ∧ zg σ f 10 = nI q) : zv_ct l D ty yX1_turn cX1_turn 5 none (zR 3 67) [.ref (a (i + 11)), .ref (a 1), .int x, .int idle] (zc a ty (zCl σ i r sh)) (fun v_ w_ => v_ = none ∧ w_ = zc a ty (zCl σ i (rTurn σ r f idle) (sTurn σ r sh f idle))) := by
  refine zv_open (by decide) rfl rfl [some (.ref (a (i + 11))), some (.ref (a 1)), some (.int x), some (.int idle), none] (by simp [zv_one, Value.category]) (zle rfl) rfl ?_
  intro k K T
  refine zv_aload_n K 1 dX1_turn_0 rfl rfl ?_
  refine zv_iload_n K 2 dX1_turn_1 rfl rfl ?_
  refine zv_iconst K 1 3 dX1_turn_2 rfl (by decide) ?_
  refine zv_cV1 K (q0 := 1) (As := [.int x, .int 1]) (rest := []) 2 6 (kX0_get l D ty a (zCl σ i r sh) x 1 f 1 hx rfl hf (by decide)) dX1_turn_3 rfl zw_2_54 zw_1_186 zw_1_187 zw_1_2 zw_1_188 ⟨rfl, rfl⟩ zh_yX0_get ⟨by decide, by decide⟩ (zc_at (j := 1) (by decide)) rfl rfl rfl (zle rfl) rfl ?_
  refine zv_topi (zg σ f 1) (zg_Cl _ _ _ _ _ _) ?_
  refine zv_istore K [some (.ref (a (i + 11))), some (.ref (a 1)), some (.int x), some (.int idle), some (.int (zg σ f 1))] 8 dX1_turn_6 rfl rfl (zlt rfl) ?_
  refine zv_aload_n K 9 dX1_turn_8 rfl rfl ?_
  refine zv_iload_n K 10 dX1_turn_9 rfl rfl ?_
  refine zv_iconst K 0 11 dX1_turn_10 rfl (by decide) ?_
  refine zv_cV1 K (q0 := 1) (As := [.int x, .int 0]) (rest := []) 2 14 (kX0_get l D ty a (zCl σ i r sh) x 0 f 0 hx rfl hf (by decide)) dX1_turn_11 rfl zw_2_54 zw_1_186 zw_1_187 zw_1_2 zw_1_188 ⟨rfl, rfl⟩ zh_yX0_get ⟨by decide, by decide⟩ (zc_at (j := 1) (by decide)) rfl rfl rfl (zle rfl) rfl ?_
  refine zv_topi (zg σ f 0) (zg_Cl _ _ _ _ _ _) ?_
  by_cases e_1 : zg σ f 0 = 1
  · refine zv_tableIn (off := 34) K 48 dX1_turn_14 (by rw [e_1]; decide) (by rw [e_1]; decide) (by rw [e_1]; rfl) (by decide) ?_
    refine zv_aload_n K 49 dX1_turn_48 rfl rfl ?_
    refine zv_iload K 51 dX1_turn_49 rfl rfl ?_
    refine zv_cV0 K (q0 := (i + 11)) (As := [.int (zg σ f 1)]) (rest := []) 1 54 (kX1_setWorked l D ty a σ i hi r sh (zg σ f 1)) dX1_turn_51 rfl zw_2_63 zw_2_65 zw_p1_9 zw_1_4 zw_2_66 ⟨rfl, rfl⟩ zh_yX1_setWorked ⟨by decide, by decide⟩ (zc_cl hi) rfl rfl rfl (zle rfl) rfl ?_
    refine zv_goto K 129 dX1_turn_54 (by decide) ?_
    exact zv_vret K T dX1_turn_129 (⟨rfl, by have n_2 : ¬ zg σ f 0 = 2 := (by rw [e_1]; decide); have n_3 : ¬ zg σ f 0 = 3 := (by rw [e_1]; decide); have n_4 : ¬ zg σ f 0 = 4 := (by rw [e_1]; decide); have n_5 : ¬ zg σ f 0 = 5 := (by rw [e_1]; decide); simp only [rTurn, sTurn, if_pos e_1, if_neg n_2, if_neg n_3, if_neg n_4, if_neg n_5]⟩)
  · skip
    by_cases e_2 : zg σ f 0 = 2
    · refine zv_tableIn (off := 43) K 57 dX1_turn_14 (by rw [e_2]; decide) (by rw [e_2]; decide) (by rw [e_2]; rfl) (by decide) ?_
      refine zv_aload_n K 58 dX1_turn_57 rfl rfl ?_
      refine zv_aload_n K 59 dX1_turn_58 rfl rfl ?_
      refine zv_iload_n K 60 dX1_turn_59 rfl rfl ?_
      refine zv_iconst K 5 61 dX1_turn_60 rfl (by decide) ?_
      refine zv_cV1 K (q0 := 1) (As := [.int x, .int 5]) (rest := [.ref (a (i + 11))]) 2 64 (kX0_get l D ty a (zCl σ i r sh) x 5 f 5 hx rfl hf (by decide)) dX1_turn_61 rfl zw_2_54 zw_1_186 zw_1_187 zw_1_2 zw_1_188 ⟨rfl, rfl⟩ zh_yX0_get ⟨by decide, by decide⟩ (zc_at (j := 1) (by decide)) rfl rfl rfl (zle rfl) rfl ?_
      refine zv_topi (zg σ f 5) (zg_Cl _ _ _ _ _ _) ?_
      refine zv_iload K 66 dX1_turn_64 rfl rfl ?_
      refine zv_iload_n K 67 dX1_turn_66 rfl rfl ?_
      refine zv_cV0 K (q0 := (i + 11)) (As := [.int (zg σ f 5), .int (zg σ f 1), .int idle]) (rest := []) 3 70 (kX1_takeNick l D ty a σ i hi r sh (zg σ f 5) (zg σ f 1) idle) dX1_turn_67 rfl zw_2_88 zw_2_90 zw_p1_11 zw_1_4 zw_2_91 ⟨rfl, rfl⟩ zh_yX1_takeNick ⟨by decide, by decide⟩ (zc_cl hi) rfl rfl rfl (zle rfl) rfl ?_
      refine zv_goto K 129 dX1_turn_70 (by decide) ?_
      exact zv_vret K T dX1_turn_129 (⟨rfl, by have n_1 : ¬ zg σ f 0 = 1 := (by rw [e_2]; decide); have n_3 : ¬ zg σ f 0 = 3 := (by rw [e_2]; decide); have n_4 : ¬ zg σ f 0 = 4 := (by rw [e_2]; decide); have n_5 : ¬ zg σ f 0 = 5 := (by rw [e_2]; decide); simp only [rTurn, sTurn, if_pos e_2, if_neg n_1, if_neg n_3, if_neg n_4, if_neg n_5]⟩)
    · skip
      by_cases e_3 : zg σ f 0 = 3
      · refine zv_tableIn (off := 59) K 73 dX1_turn_14 (by rw [e_3]; decide) (by rw [e_3]; decide) (by rw [e_3]; rfl) (by decide) ?_
        refine zv_aload_n K 74 dX1_turn_73 rfl rfl ?_
        refine zv_iconst K 0 75 dX1_turn_74 rfl (by decide) ?_
        refine zk_put (t0 := .boolean) K hi 0 78 dX1_turn_75 rfl (by decide) zw_1_57 rfl rfl rfl rfl (zCl_O0 _ _ _ _) ?_
        refine zv_goto K 129 dX1_turn_78 (by decide) ?_
        exact zv_vret K T dX1_turn_129 (⟨rfl, by have n_1 : ¬ zg σ f 0 = 1 := (by rw [e_3]; decide); have n_2 : ¬ zg σ f 0 = 2 := (by rw [e_3]; decide); have n_4 : ¬ zg σ f 0 = 4 := (by rw [e_3]; decide); have n_5 : ¬ zg σ f 0 = 5 := (by rw [e_3]; decide); simp only [rTurn, sTurn, if_pos e_3, if_neg n_1, if_neg n_2, if_neg n_4, if_neg n_5]⟩)
      · skip
        by_cases e_4 : zg σ f 0 = 4
        · refine zv_tableIn (off := 67) K 81 dX1_turn_14 (by rw [e_4]; decide) (by rw [e_4]; decide) (by rw [e_4]; rfl) (by decide) ?_
          refine zv_aload_n K 82 dX1_turn_81 rfl rfl ?_
          refine zv_aload_n K 83 dX1_turn_82 rfl rfl ?_
          refine zv_iload_n K 84 dX1_turn_83 rfl rfl ?_
          refine zv_bipush K 6 86 dX1_turn_84 rfl (by decide) ?_
          refine zv_cV1 K (q0 := 1) (As := [.int x, .int 6]) (rest := [.ref (a (i + 11))]) 2 89 (kX0_get l D ty a (zCl σ i r sh) x 6 f 6 hx rfl hf (by decide)) dX1_turn_86 rfl zw_2_54 zw_1_186 zw_1_187 zw_1_2 zw_1_188 ⟨rfl, rfl⟩ zh_yX0_get ⟨by decide, by decide⟩ (zc_at (j := 1) (by decide)) rfl rfl rfl (zle rfl) rfl ?_
          refine zv_topi (zg σ f 6) (zg_Cl _ _ _ _ _ _) ?_
          refine zv_aload_n K 90 dX1_turn_89 rfl rfl ?_
          refine zv_iload_n K 91 dX1_turn_90 rfl rfl ?_
          refine zv_bipush K 7 93 dX1_turn_91 rfl (by decide) ?_
          refine zv_cV1 K (q0 := 1) (As := [.int x, .int 7]) (rest := [.int (zg σ f 6), .ref (a (i + 11))]) 2 96 (kX0_get l D ty a (zCl σ i r sh) x 7 f 7 hx rfl hf (by decide)) dX1_turn_93 rfl zw_2_54 zw_1_186 zw_1_187 zw_1_2 zw_1_188 ⟨rfl, rfl⟩ zh_yX0_get ⟨by decide, by decide⟩ (zc_at (j := 1) (by decide)) rfl rfl rfl (zle rfl) rfl ?_
          refine zv_topi (zg σ f 7) (zg_Cl _ _ _ _ _ _) ?_
          refine zv_cV0 K (q0 := (i + 11)) (As := [.int (zg σ f 6), .int (zg σ f 7)]) (rest := []) 2 99 (kX1_setFeet l D ty a σ i hi r sh (zg σ f 6) (zg σ f 7)) dX1_turn_96 rfl zw_2_55 zw_2_57 zw_p1_7 zw_1_4 zw_2_58 ⟨rfl, rfl⟩ zh_yX1_setFeet ⟨by decide, by decide⟩ (zc_cl hi) rfl rfl rfl (zle rfl) rfl ?_
          refine zv_goto K 129 dX1_turn_99 (by decide) ?_
          exact zv_vret K T dX1_turn_129 (⟨rfl, by have n_1 : ¬ zg σ f 0 = 1 := (by rw [e_4]; decide); have n_2 : ¬ zg σ f 0 = 2 := (by rw [e_4]; decide); have n_3 : ¬ zg σ f 0 = 3 := (by rw [e_4]; decide); have n_5 : ¬ zg σ f 0 = 5 := (by rw [e_4]; decide); simp only [rTurn, sTurn, if_pos e_4, if_neg n_1, if_neg n_2, if_neg n_3, if_neg n_5]⟩)
        · skip
          by_cases e_5 : zg σ f 0 = 5
          · refine zv_tableIn (off := 88) K 102 dX1_turn_14 (by rw [e_5]; decide) (by rw [e_5]; decide) (by rw [e_5]; rfl) (by decide) ?_
            obtain ⟨p, q, h50, h51, h52, h53⟩ := h5 e_5
            refine zv_aload_n K 103 dX1_turn_102 rfl rfl ?_
            refine zv_aload_n K 104 dX1_turn_103 rfl rfl ?_
            refine zv_iload_n K 105 dX1_turn_104 rfl rfl ?_
            refine zv_iconst K 5 106 dX1_turn_105 rfl (by decide) ?_
            refine zv_cV1 K (q0 := 1) (As := [.int x, .int 5]) (rest := [.ref (a (i + 11))]) 2 109 (kX0_get l D ty a (zCl σ i r sh) x 5 f 5 hx rfl hf (by decide)) dX1_turn_106 rfl zw_2_54 zw_1_186 zw_1_187 zw_1_2 zw_1_188 ⟨rfl, rfl⟩ zh_yX0_get ⟨by decide, by decide⟩ (zc_at (j := 1) (by decide)) rfl rfl rfl (zle rfl) rfl ?_
            refine zv_topi (zg σ f 5) (zg_Cl _ _ _ _ _ _) ?_
            refine zv_aload_n K 110 dX1_turn_109 rfl rfl ?_
            refine zv_iload_n K 111 dX1_turn_110 rfl rfl ?_
            refine zv_bipush K 10 113 dX1_turn_111 rfl (by decide) ?_
            refine zv_cV1 K (q0 := 1) (As := [.int x, .int 10]) (rest := [.int (zg σ f 5), .ref (a (i + 11))]) 2 116 (kX0_get l D ty a (zCl σ i r sh) x 10 f 10 hx rfl hf (by decide)) dX1_turn_113 rfl zw_2_54 zw_1_186 zw_1_187 zw_1_2 zw_1_188 ⟨rfl, rfl⟩ zh_yX0_get ⟨by decide, by decide⟩ (zc_at (j := 1) (by decide)) rfl rfl rfl (zle rfl) rfl ?_
            refine zv_topi (zg σ f 10) (zg_Cl _ _ _ _ _ _) ?_
            refine zv_aload_n K 117 dX1_turn_116 rfl rfl ?_
            refine zv_iload_n K 118 dX1_turn_117 rfl rfl ?_
            refine zv_bipush K 8 120 dX1_turn_118 rfl (by decide) ?_
            refine zv_cV1 K (q0 := 1) (As := [.int x, .int 8]) (rest := [.int (zg σ f 10), .int (zg σ f 5), .ref (a (i + 11))]) 2 123 (kX0_get l D ty a (zCl σ i r sh) x 8 f 8 hx rfl hf (by decide)) dX1_turn_120 rfl zw_2_54 zw_1_186 zw_1_187 zw_1_2 zw_1_188 ⟨rfl, rfl⟩ zh_yX0_get ⟨by decide, by decide⟩ (zc_at (j := 1) (by decide)) rfl rfl rfl (zle rfl) rfl ?_
            refine zv_topi (zg σ f 8) (zg_Cl _ _ _ _ _ _) ?_
            refine zv_cV0 K (q0 := (i + 11)) (As := [.int (zg σ f 5), .int (zg σ f 10), .int (zg σ f 8)]) (rest := []) 3 126 (kX1_moveShares l D ty a σ i hi r sh (zg σ f 5) (zg σ f 10) (zg σ f 8) p q h51 h50 h53 h52) dX1_turn_123 rfl zw_2_100 zw_2_102 zw_p1_13 zw_1_4 zw_2_103 ⟨rfl, rfl⟩ zh_yX1_moveShares ⟨by decide, by decide⟩ (zc_cl hi) rfl rfl rfl (zle rfl) rfl ?_
            refine zv_goto K 129 dX1_turn_126 (by decide) ?_
            exact zv_vret K T dX1_turn_129 (⟨rfl, by have n_1 : ¬ zg σ f 0 = 1 := (by rw [e_5]; decide); have n_2 : ¬ zg σ f 0 = 2 := (by rw [e_5]; decide); have n_3 : ¬ zg σ f 0 = 3 := (by rw [e_5]; decide); have n_4 : ¬ zg σ f 0 = 4 := (by rw [e_5]; decide); simp only [rTurn, sTurn, if_pos e_5, if_neg n_1, if_neg n_2, if_neg n_3, if_neg n_4, h51, h53, nI_clamp (show p < 2 ^ 31 by omega), nI_clamp (show q < 2 ^ 31 by omega)]⟩)
          · skip
            refine zv_tableOut K 129 dX1_turn_14 (by have n_1 := lv_neT e_1 (a := 1) rfl; have n_2 := lv_neT e_2 (a := 2) rfl; have n_3 := lv_neT e_3 (a := 3) rfl; have n_4 := lv_neT e_4 (a := 4) rfl; have n_5 := lv_neT e_5 (a := 5) rfl; omega) (by decide) ?_
            exact zv_vret K T dX1_turn_129 (⟨rfl, by simp only [rTurn, sTurn, if_neg e_1, if_neg e_2, if_neg e_3, if_neg e_4, if_neg e_5]⟩)
end
section
/-! how it stands: pure words -/
def zfst (p : Nat → Bool) : Nat → Option Nat
  | 0 => none
  | n + 1 => match zfst p n with
    | some i => some i
    | none => if p n then some n else none
theorem zfst_next {p : Nat → Bool} {i : Nat} (h0 : zfst p i = none) (hp : p i = false) : zfst p (i + 1) = none := by simp [zfst, h0, hp]
theorem zfst_at {p : Nat → Bool} {i n : Nat} (h0 : zfst p i = none) (hp : p i = true) (hn : i < n) : zfst p n = some i := by
  induction n with
  | zero => exact absurd hn (Nat.not_lt_zero _)
  | succ n ih =>
    rcases Nat.lt_or_ge i n with q | q
    · simp [zfst, ih q]
    · have : n = i := by omega
      subst this
      simp [zfst, h0, hp]
theorem zfst_lt {p : Nat → Bool} {i n : Nat} (h : zfst p n = some i) : i < n := by
  induction n with
  | zero => simp [zfst] at h
  | succ n ih =>
    unfold zfst at h
    split at h
    · cases h
      have := ih (by assumption)
      omega
    · split at h
      · cases h; omega
      · cases h
theorem zfst_yes {p : Nat → Bool} {i n : Nat} (h : zfst p n = some i) : p i = true := by
  induction n with
  | zero => simp [zfst] at h
  | succ n ih =>
    unfold zfst at h
    split at h
    · cases h
      exact ih (by assumption)
    · split at h
      · cases h; assumption
      · cases h
theorem zfst_no {p : Nat → Bool} {n : Nat} (h : zfst p n = none) : ∀ j, j < n → p j = false := by
  induction n with
  | zero => intro j hj; exact absurd hj (Nat.not_lt_zero _)
  | succ n ih =>
    unfold zfst at h
    split at h
    · cases h
    · split at h
      · cases h
      · intro j hj
        rcases Nat.lt_or_ge j n with q | q
        · exact ih (by assumption) j q
        · have : j = n := by omega
          subst this
          simpa using (by assumption : ¬ p j = true)
theorem zfst_before {p : Nat → Bool} {i n : Nat} (h : zfst p n = some i) : ∀ j, j < i → p j = false := by
  induction n with
  | zero => simp [zfst] at h
  | succ n ih =>
    unfold zfst at h
    split at h
    · cases h
      exact ih (by assumption)
    · split at h
      · cases h
        exact zfst_no (by assumption)
      · cases h
theorem zfst_congr {p q : Nat → Bool} : ∀ {n : Nat}, (∀ i, i < n → p i = q i) → zfst p n = zfst q n
  | 0, _ => rfl
  | n + 1, h => by unfold zfst; rw [zfst_congr (fun i hi => h i (by omega)), h n (by omega)]
/-- which claims lie over a foot; which claim has a number -/
def zov (σ : zC) (vn ft : Int32) : Nat → Bool := fun i => decide (¬ σ.1 (i + 11) 0 = 0 ∧ σ.1 (i + 11) 2 = vn ∧ σ.1 (i + 11) 3 ≤ ft ∧ ft ≤ σ.1 (i + 11) 4)
def zfd (σ : zC) (x : Int32) : Nat → Bool := fun i => decide (¬ σ.1 (i + 11) 0 = 0 ∧ σ.1 (i + 11) 1 = x)
def zhold (σ : zC) (c : Nat) (vn ft : Int32) : Int32 := match zfst (zov σ vn ft) c with
  | none => -4
  | some i => σ.1 (i + 11) 5
def zownb (σ : zC) (c q : Nat) (p0 : Nat) : Nat → Bool := fun g => decide (p0 ≤ g) && (match zfst (zov σ (σ.1 (q + 11) 2) (nI g)) c with
  | none => false
  | some i => decide (σ.1 (i + 11) 1 = σ.1 (q + 11) 1))
def zclr (n : Nat) (g : Nat → Int32) : Nat → Int32 := fun i => if i < n then 0 else g i
theorem zclr_s (n : Nat) (g : Nat → Int32) : upd (zclr n g) n 0 = zclr (n + 1) g := by
  funext q
  unfold upd zclr
  by_cases h : q = n
  · subst h; rw [if_pos rfl, if_pos (Nat.lt_succ_self _)]
  · rw [if_neg h]
    by_cases h2 : q < n
    · simp only [if_pos h2, if_pos (show q < n + 1 by omega)]
    · simp only [if_neg h2, if_neg (show ¬ q < n + 1 by omega)]
theorem zclr_0 (g : Nat → Int32) : zclr 0 g = g := by funext q; simp [zclr]
def zclear (σ : zC) : zC := zFa (zO σ 3 0 0) 9 (zclr 11 (σ.2 9))
def zadd (σ : zC) (c f : Nat) : zC := if c < 20 then zO (zCl σ c (rBegin σ (σ.1 (c + 11)) f) (sPass (σ.2 (c + 31)) (zg σ f 5))) 3 0 (nI (c + 1)) else σ
def zorN (σ : zC) (q n : Nat) (v : Int32) : Nat → Int32 := fun m => if m < n then σ.2 9 m + v * σ.2 (q + 31) m else σ.2 9 m
theorem zorN_0 (σ : zC) (q : Nat) (v : Int32) : zorN σ q 0 v = σ.2 9 := by funext m; simp [zorN]
theorem zorN_s (σ : zC) (q n : Nat) (v : Int32) : upd (zorN σ q n v) n (zorN σ q n v n + v * σ.2 (q + 31) n) = zorN σ q (n + 1) v := by
  funext m
  unfold upd zorN
  by_cases h : m = n
  · subst h
    simp only [if_pos rfl, if_neg (Nat.lt_irrefl _), if_pos (Nat.lt_succ_self _)]
    rfl
  · rw [if_neg h]
    by_cases h2 : m < n
    · simp only [if_pos h2, if_pos (show m < n + 1 by omega)]
    · simp only [if_neg h2, if_neg (show ¬ m < n + 1 by omega)]
def zbo (σ : zC) (c : Nat) (vn ft v : Int32) : zC := match zfst (zov σ vn ft) c with
  | none => zF σ 9 10 (σ.2 9 10 + v * 24)
  | some q => zFa σ 9 (zorN σ q 10 v)
def ztn (σ : zC) (c f : Nat) (idle : Int32) : zC := match zfst (zfd σ (zg σ f 9)) c with
  | none => σ
  | some q => zCl σ q (rTurn σ (σ.1 (q + 11)) f idle) (sTurn σ (σ.1 (q + 11)) (σ.2 (q + 31)) f idle)
def zapl (σ : zC) (c f : Nat) (idle : Int32) : zC := if zg σ f 0 = 0 then zadd σ c f else if zg σ f 0 = 6 then zbo σ c (zg σ f 4) (zg σ f 6) (zg σ f 8) else ztn σ c f idle
def zcn (σ : zC) : Nat := (σ.1 3 0).toNatClampNeg
def zkn (σ : zC) (f : Nat) (y : Int32) : Prop := zg σ f 2 ≤ y ∧ ¬ (¬ zg σ f 3 = -4 ∧ zg σ f 3 ≤ y)
end
section
set_option maxHeartbeats 4000000 in
set_option maxRecDepth 100000 in
theorem kX2_find_l (l : Launch) (D : va_G) (ty : zTy) (a : Nat → Nat) (σ : zC) (c : Nat) (hc : σ.1 3 0 = nI c) (hc20 : c ≤ 20) (x : Int32) {k : zKx} (K : zv_ok k l D (zR 0 0) cX2_find 3 yX2_find.cls ty) (T : zv_rt k (Option.some (Jvm.ClassFile.FieldType.object "VeinCourt$Claim")) (fun v_ w_ => w_ = zc a ty σ ∧ ((zfst (zfd σ x) c = none ∧ v_ = some .null) ∨ ∃ q : Nat, zfst (zfd σ x) c = some q ∧ v_ = some (.ref (a (q + 11)))))) : ∀ i : Nat, i ≤ c → zfst (zfd σ x) i = none → zv k 2 [some (.ref (a 3)), some (.int x), some (.int (nI i))] [] (zc a ty σ) := by
  refine z_wf (fun i : Nat => c - i) ?_
  intro i ih hi hz
  refine zv_iload_n K 3 dX2_find_2 rfl rfl ?_
  refine zv_aload_n K 4 dX2_find_3 rfl rfl ?_
  refine zv_get (v := .int (σ.1 3 0)) (C := RX2) (T := TX2) (N := 3) K 3 0 7 dX2_find_4 rfl zy_X2 (zc_at (j := 3) (by decide)) rfl (by decide) zw_1_108 rfl ?_
  refine zv_topi (nI c) hc ?_
  refine zv_icmp_ge K 48 10 dX2_find_7 (by decide) rfl (fun hb => ?_) (fun hb => ?_)
  · skip
    refine zv_null K 49 dX2_find_48 rfl ?_
    exact zv_aret K T dX2_find_49 (Or.inl rfl) (⟨rfl, Or.inl ⟨by have e : i = c := (by have := z_ge hb (by omega) (by omega); omega); rw [← e]; exact hz, rfl⟩⟩)
  · skip
    have hlt : i < c := z_lt hb (by omega)
    refine zv_aload_n K 11 dX2_find_10 rfl rfl ?_
    refine zv_get (v := .ref (a 8)) (C := RX2) (T := TX2) (N := 3) K 3 1 14 dX2_find_11 rfl zy_X2 (zc_at (j := 3) (by decide)) rfl (by decide) zw_1_109 rfl ?_
    refine zv_iload_n K 15 dX2_find_14 rfl rfl ?_
    refine zv_aald (b := a (i + 11)) K 8 i 16 dX2_find_15 rfl (zc_at (j := 8) (by decide)) rfl (by omega) (by decide) rfl ?_
    refine zv_getN (v := .int (σ.1 (i + 11) 0)) (C := RX1) (T := TX1) (N := 12) K (i + 11) 0 19 dX2_find_16 rfl zy_X1 (zc_cl (by omega)) rfl (by decide) zn_7 rfl ?_
    refine zv_if_eq K 42 22 dX2_find_19 (by decide) rfl (fun h0 => ?_) (fun h0 => ?_)
    · skip
      refine zv_iinc K (nI (i + 1)) [some (.ref (a 3)), some (.int x), some (.int (nI (i + 1)))] 45 dX2_find_42 rfl rfl (z_inc i) rfl ?_
      refine zv_goto K 2 dX2_find_45 (by decide) ?_
      exact ih (i + 1) (by omega) (by omega) (zfst_next hz (decide_eq_false (fun q => q.1 h0)))
    · skip
      refine zv_aload_n K 23 dX2_find_22 rfl rfl ?_
      refine zv_get (v := .ref (a 8)) (C := RX2) (T := TX2) (N := 3) K 3 1 26 dX2_find_23 rfl zy_X2 (zc_at (j := 3) (by decide)) rfl (by decide) zw_1_109 rfl ?_
      refine zv_iload_n K 27 dX2_find_26 rfl rfl ?_
      refine zv_aald (b := a (i + 11)) K 8 i 28 dX2_find_27 rfl (zc_at (j := 8) (by decide)) rfl (by omega) (by decide) rfl ?_
      refine zv_getN (v := .int (σ.1 (i + 11) 1)) (C := RX1) (T := TX1) (N := 12) K (i + 11) 1 31 dX2_find_28 rfl zy_X1 (zc_cl (by omega)) rfl (by decide) zn_8 rfl ?_
      refine zv_iload_n K 32 dX2_find_31 rfl rfl ?_
      refine zv_icmp_ne K 42 35 dX2_find_32 (by decide) rfl (fun h1 => ?_) (fun h1 => ?_)
      · skip
        refine zv_iinc K (nI (i + 1)) [some (.ref (a 3)), some (.int x), some (.int (nI (i + 1)))] 45 dX2_find_42 rfl rfl (z_inc i) rfl ?_
        refine zv_goto K 2 dX2_find_45 (by decide) ?_
        exact ih (i + 1) (by omega) (by omega) (zfst_next hz (decide_eq_false (fun q => h1 q.2)))
      · skip
        refine zv_aload_n K 36 dX2_find_35 rfl rfl ?_
        refine zv_get (v := .ref (a 8)) (C := RX2) (T := TX2) (N := 3) K 3 1 39 dX2_find_36 rfl zy_X2 (zc_at (j := 3) (by decide)) rfl (by decide) zw_1_109 rfl ?_
        refine zv_iload_n K 40 dX2_find_39 rfl rfl ?_
        refine zv_aald (b := a (i + 11)) K 8 i 41 dX2_find_40 rfl (zc_at (j := 8) (by decide)) rfl (by omega) (by decide) rfl ?_
        exact zv_aret K T dX2_find_41 (Or.inr ⟨_, rfl⟩) (⟨rfl, Or.inr ⟨i, zfst_at hz (decide_eq_true (⟨h0, h1⟩)) hlt, rfl⟩⟩)

set_option maxHeartbeats 4000000 in
set_option maxRecDepth 100000 in
theorem kX2_find (l : Launch) (D : va_G) (ty : zTy) (a : Nat → Nat) (σ : zC) (c : Nat) (hc : σ.1 3 0 = nI c) (hc20 : c ≤ 20) (x : Int32) : zv_ct l D ty yX2_find cX2_find 3 (Option.some (Jvm.ClassFile.FieldType.object "VeinCourt$Claim")) (zR 0 0) [.ref (a 3), .int x] (zc a ty σ) (fun v_ w_ => w_ = zc a ty σ ∧ ((zfst (zfd σ x) c = none ∧ v_ = some .null) ∨ ∃ q : Nat, zfst (zfd σ x) c = some q ∧ v_ = some (.ref (a (q + 11))))) := by
  refine zv_open (by decide) rfl rfl [some (.ref (a 3)), some (.int x), none] (by simp [zv_one, Value.category]) (zle rfl) rfl ?_
  intro k K T
  refine zv_iconst K 0 1 dX2_find_0 rfl (by decide) ?_
  refine zv_istore_n K [some (.ref (a 3)), some (.int x), some (.int 0)] 2 dX2_find_1 rfl rfl (zlt rfl) ?_
  exact kX2_find_l l D ty a σ c hc hc20 x K T 0 (Nat.zero_le _) rfl

set_option maxHeartbeats 4000000 in
set_option maxRecDepth 100000 in
theorem kX2_eldestOver_l (l : Launch) (D : va_G) (ty : zTy) (a : Nat → Nat) (σ : zC) (c : Nat) (hc : σ.1 3 0 = nI c) (hc20 : c ≤ 20) (vn ft : Int32) {k : zKx} (K : zv_ok k l D (zR 2 44) cX2_eldestOver 4 yX2_eldestOver.cls ty) (T : zv_rt k (Option.some (Jvm.ClassFile.FieldType.object "VeinCourt$Claim")) (fun v_ w_ => w_ = zc a ty σ ∧ ((zfst (zov σ vn ft) c = none ∧ v_ = some .null) ∨ ∃ q : Nat, zfst (zov σ vn ft) c = some q ∧ v_ = some (.ref (a (q + 11)))))) : ∀ i : Nat, i ≤ c → zfst (zov σ vn ft) i = none → zv k 2 [some (.ref (a 3)), some (.int vn), some (.int ft), some (.int (nI i))] [] (zc a ty σ) := by
  refine z_wf (fun i : Nat => c - i) ?_
  intro i ih hi hz
  refine zv_iload_n K 3 dX2_eldestOver_2 rfl rfl ?_
  refine zv_aload_n K 4 dX2_eldestOver_3 rfl rfl ?_
  refine zv_get (v := .int (σ.1 3 0)) (C := RX2) (T := TX2) (N := 3) K 3 0 7 dX2_eldestOver_4 rfl zy_X2 (zc_at (j := 3) (by decide)) rfl (by decide) zw_1_108 rfl ?_
  refine zv_topi (nI c) hc ?_
  refine zv_icmp_ge K 37 10 dX2_eldestOver_7 (by decide) rfl (fun hb => ?_) (fun hb => ?_)
  · skip
    refine zv_null K 38 dX2_eldestOver_37 rfl ?_
    exact zv_aret K T dX2_eldestOver_38 (Or.inl rfl) (⟨rfl, Or.inl ⟨by have e : i = c := (by have := z_ge hb (by omega) (by omega); omega); rw [← e]; exact hz, rfl⟩⟩)
  · skip
    have hlt : i < c := z_lt hb (by omega)
    refine zv_aload_n K 11 dX2_eldestOver_10 rfl rfl ?_
    refine zv_get (v := .ref (a 8)) (C := RX2) (T := TX2) (N := 3) K 3 1 14 dX2_eldestOver_11 rfl zy_X2 (zc_at (j := 3) (by decide)) rfl (by decide) zw_1_109 rfl ?_
    refine zv_iload_n K 15 dX2_eldestOver_14 rfl rfl ?_
    refine zv_aald (b := a (i + 11)) K 8 i 16 dX2_eldestOver_15 rfl (zc_at (j := 8) (by decide)) rfl (by omega) (by decide) rfl ?_
    refine zv_iload_n K 17 dX2_eldestOver_16 rfl rfl ?_
    refine zv_iload_n K 18 dX2_eldestOver_17 rfl rfl ?_
    refine zv_ws (congrArg (zc a ty) (zCl_self σ i).symm) ?_
    refine zv_cV1 K (q0 := (i + 11)) (As := [.int vn, .int ft]) (rest := []) 2 21 (kX1_isOver l D ty a σ i (by omega) (σ.1 (i + 11)) (σ.2 (i + 31)) vn ft) dX2_eldestOver_18 rfl zw_2_75 zw_2_76 zw_2_77 zw_1_4 zw_2_78 ⟨rfl, rfl⟩ zh_yX1_isOver ⟨by decide, by decide⟩ (zk_at (by omega)) rfl rfl rfl (zle rfl) rfl ?_
    refine zv_ws (congrArg (zc a ty) (zCl_self σ i)) ?_
    refine zv_ifB_eq K 31 24 dX2_eldestOver_21 (by decide) rfl (fun h0 => ?_) (fun h0 => ?_)
    · skip
      refine zv_iinc K (nI (i + 1)) [some (.ref (a 3)), some (.int vn), some (.int ft), some (.int (nI (i + 1)))] 34 dX2_eldestOver_31 rfl rfl (z_inc i) rfl ?_
      refine zv_goto K 2 dX2_eldestOver_34 (by decide) ?_
      exact ih (i + 1) (by omega) (by omega) (zfst_next hz (decide_eq_false h0))
    · skip
      refine zv_aload_n K 25 dX2_eldestOver_24 rfl rfl ?_
      refine zv_get (v := .ref (a 8)) (C := RX2) (T := TX2) (N := 3) K 3 1 28 dX2_eldestOver_25 rfl zy_X2 (zc_at (j := 3) (by decide)) rfl (by decide) zw_1_109 rfl ?_
      refine zv_iload_n K 29 dX2_eldestOver_28 rfl rfl ?_
      refine zv_aald (b := a (i + 11)) K 8 i 30 dX2_eldestOver_29 rfl (zc_at (j := 8) (by decide)) rfl (by omega) (by decide) rfl ?_
      exact zv_aret K T dX2_eldestOver_30 (Or.inr ⟨_, rfl⟩) (⟨rfl, Or.inr ⟨i, zfst_at hz (decide_eq_true (h0)) hlt, rfl⟩⟩)

set_option maxHeartbeats 4000000 in
set_option maxRecDepth 100000 in
theorem kX2_eldestOver (l : Launch) (D : va_G) (ty : zTy) (a : Nat → Nat) (σ : zC) (c : Nat) (hc : σ.1 3 0 = nI c) (hc20 : c ≤ 20) (vn ft : Int32) : zv_ct l D ty yX2_eldestOver cX2_eldestOver 4 (Option.some (Jvm.ClassFile.FieldType.object "VeinCourt$Claim")) (zR 2 44) [.ref (a 3), .int vn, .int ft] (zc a ty σ) (fun v_ w_ => w_ = zc a ty σ ∧ ((zfst (zov σ vn ft) c = none ∧ v_ = some .null) ∨ ∃ q : Nat, zfst (zov σ vn ft) c = some q ∧ v_ = some (.ref (a (q + 11))))) := by
  refine zv_open (by decide) rfl rfl [some (.ref (a 3)), some (.int vn), some (.int ft), none] (by simp [zv_one, Value.category]) (zle rfl) rfl ?_
  intro k K T
  refine zv_iconst K 0 1 dX2_eldestOver_0 rfl (by decide) ?_
  refine zv_istore_n K [some (.ref (a 3)), some (.int vn), some (.int ft), some (.int 0)] 2 dX2_eldestOver_1 rfl rfl (zlt rfl) ?_
  exact kX2_eldestOver_l l D ty a σ c hc hc20 vn ft K T 0 (Nat.zero_le _) rfl

set_option maxHeartbeats 4000000 in
set_option maxRecDepth 100000 in
theorem kX2_holderOver (l : Launch) (D : va_G) (ty : zTy) (a : Nat → Nat) (σ : zC) (c : Nat) (hc : σ.1 3 0 = nI c) (hc20 : c ≤ 20) (vn ft : Int32) : zv_ct l D ty yX2_holderOver cX2_holderOver 4 (some .int) (zR 3 67) [.ref (a 3), .int vn, .int ft] (zc a ty σ) (fun v_ w_ => v_ = some (.int (zhold σ c vn ft)) ∧ w_ = zc a ty σ) := by
  refine zv_open (by decide) rfl rfl [some (.ref (a 3)), some (.int vn), some (.int ft), none] (by simp [zv_one, Value.category]) (zle rfl) rfl ?_
  intro k K T
  refine zv_aload_n K 1 dX2_holderOver_0 rfl rfl ?_
  refine zv_iload_n K 2 dX2_holderOver_1 rfl rfl ?_
  refine zv_iload_n K 3 dX2_holderOver_2 rfl rfl ?_
  refine zv_cV K (q0 := 3) (As := [.int vn, .int ft]) (rest := []) 2 6 (kX2_eldestOver l D ty a σ c hc hc20 vn ft) dX2_holderOver_3 rfl zw_2_71 zw_2_72 zw_2_73 zw_1_3 zw_2_74 ⟨rfl, rfl⟩ zh_yX2_eldestOver ⟨by decide, by decide⟩ (zc_at (j := 3) (by decide)) rfl rfl rfl (zle rfl) rfl ?_
  intro v_ w_ hv_
  obtain ⟨rfl, hv_⟩ := hv_
  rcases hv_ with ⟨hz, rfl⟩ | ⟨q, hz, rfl⟩
  · show zv k 6 [some (.ref (a 3)), some (.int vn), some (.int ft), none] (.null :: []) (zc a ty σ)
    refine zv_astore_nN K [some (.ref (a 3)), some (.int vn), some (.int ft), some (.null)] 7 dX2_holderOver_6 rfl rfl (zlt rfl) ?_
    refine zv_aload_nN K 8 dX2_holderOver_7 rfl rfl ?_
    refine zv_ifnonnullN K 11 dX2_holderOver_8 rfl ?_
    refine zv_bipush K (-4) 13 dX2_holderOver_11 rfl (by decide) ?_
    refine zv_goto K 20 dX2_holderOver_13 (by decide) ?_
    exact zv_iret K T dX2_holderOver_20 (⟨by simp only [zhold, hz], rfl⟩)
  · have hq20 : q < 20 := by have := zfst_lt hz; have := hc20; omega
    show zv k 6 [some (.ref (a 3)), some (.int vn), some (.int ft), none] (.ref (a (q + 11)) :: []) (zc a ty σ)
    refine zv_astore_n K [some (.ref (a 3)), some (.int vn), some (.int ft), some (.ref (a (q + 11)))] 7 dX2_holderOver_6 rfl rfl (zlt rfl) ?_
    refine zv_aload_n K 8 dX2_holderOver_7 rfl rfl ?_
    refine zv_ifnonnull K 16 dX2_holderOver_8 (by decide) ?_
    refine zv_aload_n K 17 dX2_holderOver_16 rfl rfl ?_
    refine zv_getN (v := .int (σ.1 (q + 11) 5)) (C := RX1) (T := TX1) (N := 12) K (q + 11) 5 20 dX2_holderOver_17 rfl zy_X1 (zc_cl hq20) rfl (by decide) zn_15 rfl ?_
    exact zv_iret K T dX2_holderOver_20 (⟨by simp only [zhold, hz], rfl⟩)

set_option maxHeartbeats 4000000 in
set_option maxRecDepth 100000 in
theorem kX2_countOver_l (l : Launch) (D : va_G) (ty : zTy) (a : Nat → Nat) (σ : zC) (c : Nat) (hc : σ.1 3 0 = nI c) (hc20 : c ≤ 20) (vn ft : Int32) {k : zKx} (K : zv_ok k l D (zR 2 44) cX2_countOver 5 yX2_countOver.cls ty) (T : zv_rt k (some .int) (fun v_ w_ => v_ = some (.int (nI (zct (zov σ vn ft) c))) ∧ w_ = zc a ty σ)) : ∀ i : Nat, i ≤ c → zv k 5 [some (.ref (a 3)), some (.int vn), some (.int ft), some (.int (nI (zct (zov σ vn ft) i))), some (.int (nI i))] [] (zc a ty σ) := by
  refine z_wf (fun i : Nat => c - i) ?_
  intro i ih hi
  refine zv_iload K 7 dX2_countOver_5 rfl rfl ?_
  refine zv_aload_n K 8 dX2_countOver_7 rfl rfl ?_
  refine zv_get (v := .int (σ.1 3 0)) (C := RX2) (T := TX2) (N := 3) K 3 0 11 dX2_countOver_8 rfl zy_X2 (zc_at (j := 3) (by decide)) rfl (by decide) zw_1_108 rfl ?_
  refine zv_topi (nI c) hc ?_
  refine zv_icmp_ge K 38 14 dX2_countOver_11 (by decide) rfl (fun hb => ?_) (fun hb => ?_)
  · skip
    have e : i = c := by have := z_ge hb (by omega) (by omega); omega
    refine zv_iload_n K 39 dX2_countOver_38 rfl rfl ?_
    exact zv_iret K T dX2_countOver_39 (⟨by rw [e], rfl⟩)
  · skip
    have hlt : i < c := z_lt hb (by omega)
    refine zv_aload_n K 15 dX2_countOver_14 rfl rfl ?_
    refine zv_get (v := .ref (a 8)) (C := RX2) (T := TX2) (N := 3) K 3 1 18 dX2_countOver_15 rfl zy_X2 (zc_at (j := 3) (by decide)) rfl (by decide) zw_1_109 rfl ?_
    refine zv_iload K 20 dX2_countOver_18 rfl rfl ?_
    refine zv_aald (b := a (i + 11)) K 8 i 21 dX2_countOver_20 rfl (zc_at (j := 8) (by decide)) rfl (by omega) (by decide) rfl ?_
    refine zv_iload_n K 22 dX2_countOver_21 rfl rfl ?_
    refine zv_iload_n K 23 dX2_countOver_22 rfl rfl ?_
    refine zv_ws (congrArg (zc a ty) (zCl_self σ i).symm) ?_
    refine zv_cV1 K (q0 := (i + 11)) (As := [.int vn, .int ft]) (rest := []) 2 26 (kX1_isOver l D ty a σ i (by omega) (σ.1 (i + 11)) (σ.2 (i + 31)) vn ft) dX2_countOver_23 rfl zw_2_75 zw_2_76 zw_2_77 zw_1_4 zw_2_78 ⟨rfl, rfl⟩ zh_yX1_isOver ⟨by decide, by decide⟩ (zk_at (by omega)) rfl rfl rfl (zle rfl) rfl ?_
    refine zv_ws (congrArg (zc a ty) (zCl_self σ i)) ?_
    refine zv_ifB_eq K 32 29 dX2_countOver_26 (by decide) rfl (fun h0 => ?_) (fun h0 => ?_)
    · skip
      refine zv_iinc K (nI (i + 1)) [some (.ref (a 3)), some (.int vn), some (.int ft), some (.int (nI (zct (zov σ vn ft) i))), some (.int (nI (i + 1)))] 35 dX2_countOver_32 rfl rfl (z_inc i) rfl ?_
      refine zv_goto K 5 dX2_countOver_35 (by decide) ?_
      refine zv_eq (lv2 := [some (.ref (a 3)), some (.int vn), some (.int ft), some (.int (nI (zct (zov σ vn ft) (i + 1)))), some (.int (nI (i + 1)))]) rfl (by first | rw [zct_t (decide_eq_true h0)] | rw [zct_f (decide_eq_false h0)]) rfl rfl ?_
      exact ih (i + 1) (by omega) (by omega)
    · skip
      refine zv_iinc K (nI (zct (zov σ vn ft) i + 1)) [some (.ref (a 3)), some (.int vn), some (.int ft), some (.int (nI (zct (zov σ vn ft) i + 1))), some (.int (nI i))] 32 dX2_countOver_29 rfl rfl (nI_1 _) rfl ?_
      refine zv_iinc K (nI (i + 1)) [some (.ref (a 3)), some (.int vn), some (.int ft), some (.int (nI (zct (zov σ vn ft) i + 1))), some (.int (nI (i + 1)))] 35 dX2_countOver_32 rfl rfl (z_inc i) rfl ?_
      refine zv_goto K 5 dX2_countOver_35 (by decide) ?_
      refine zv_eq (lv2 := [some (.ref (a 3)), some (.int vn), some (.int ft), some (.int (nI (zct (zov σ vn ft) (i + 1)))), some (.int (nI (i + 1)))]) rfl (by first | rw [zct_t (decide_eq_true h0)] | rw [zct_f (decide_eq_false h0)]) rfl rfl ?_
      exact ih (i + 1) (by omega) (by omega)

set_option maxHeartbeats 4000000 in
set_option maxRecDepth 100000 in
theorem kX2_countOver (l : Launch) (D : va_G) (ty : zTy) (a : Nat → Nat) (σ : zC) (c : Nat) (hc : σ.1 3 0 = nI c) (hc20 : c ≤ 20) (vn ft : Int32) : zv_ct l D ty yX2_countOver cX2_countOver 5 (some .int) (zR 2 44) [.ref (a 3), .int vn, .int ft] (zc a ty σ) (fun v_ w_ => v_ = some (.int (nI (zct (zov σ vn ft) c))) ∧ w_ = zc a ty σ) := by
  refine zv_open (by decide) rfl rfl [some (.ref (a 3)), some (.int vn), some (.int ft), none, none] (by simp [zv_one, Value.category]) (zle rfl) rfl ?_
  intro k K T
  refine zv_iconst K 0 1 dX2_countOver_0 rfl (by decide) ?_
  refine zv_istore_n K [some (.ref (a 3)), some (.int vn), some (.int ft), some (.int 0), none] 2 dX2_countOver_1 rfl rfl (zlt rfl) ?_
  refine zv_iconst K 0 3 dX2_countOver_2 rfl (by decide) ?_
  refine zv_istore K [some (.ref (a 3)), some (.int vn), some (.int ft), some (.int 0), some (.int 0)] 5 dX2_countOver_3 rfl rfl (zlt rfl) ?_
  exact kX2_countOver_l l D ty a σ c hc hc20 vn ft K T 0 (Nat.zero_le _)

set_option maxHeartbeats 4000000 in
set_option maxRecDepth 100000 in
theorem kX2_countOwned_l (l : Launch) (D : va_G) (ty : zTy) (a : Nat → Nat) (σ : zC) (c : Nat) (hc : σ.1 3 0 = nI c) (hc20 : c ≤ 20) (q0 p0 l0 : Nat) (hq0 : q0 < 20) (hp0 : σ.1 (q0 + 11) 3 = nI p0) (hl0 : σ.1 (q0 + 11) 4 = nI l0) (hpl : p0 ≤ l0) (hl9 : l0 < 60) {k : zKx} (K : zv_ok k l D (zR 3 67) cX2_countOwned 5 yX2_countOwned.cls ty) (T : zv_rt k (some .int) (fun v_ w_ => v_ = some (.int (nI (zct (zownb σ c q0 p0) (l0 + 1)))) ∧ w_ = zc a ty σ)) : ∀ g : Nat, p0 ≤ g → g ≤ l0 + 1 → ∀ o4 : Option Value, zv k 7 [some (.ref (a 3)), some (.ref (a (q0 + 11))), some (.int (nI (zct (zownb σ c q0 p0) g))), some (.int (nI g)), o4] [] (zc a ty σ) := by
  refine z_wf (fun g : Nat => l0 + 1 - g) ?_
  intro g ih hg hgl o4
  refine zv_iload_n K 8 dX2_countOwned_7 rfl rfl ?_
  refine zv_aload_n K 9 dX2_countOwned_8 rfl rfl ?_
  refine zv_getN (v := .int (σ.1 (q0 + 11) 4)) (C := RX1) (T := TX1) (N := 12) K (q0 + 11) 4 12 dX2_countOwned_9 rfl zy_X1 (zc_cl hq0) rfl (by decide) zn_13 rfl ?_
  refine zv_topi (nI l0) hl0 ?_
  refine zv_icmp_gt K 52 15 dX2_countOwned_12 (by decide) rfl (fun hb => ?_) (fun hb => ?_)
  · skip
    refine zv_iload_n K 53 dX2_countOwned_52 rfl rfl ?_
    exact zv_iret K T dX2_countOwned_53 (⟨by have e : g = l0 + 1 := (by have := (nI_ltI (by omega) (by omega)).mp hb; omega); rw [e], rfl⟩)
  · skip
    have hlt : g ≤ l0 := by rcases Nat.lt_or_ge l0 g with z | z; exact absurd (nI_lt z (by omega)) hb; exact z
    refine zv_aload_n K 16 dX2_countOwned_15 rfl rfl ?_
    refine zv_aload_n K 17 dX2_countOwned_16 rfl rfl ?_
    refine zv_getN (v := .int (σ.1 (q0 + 11) 2)) (C := RX1) (T := TX1) (N := 12) K (q0 + 11) 2 20 dX2_countOwned_17 rfl zy_X1 (zc_cl hq0) rfl (by decide) zn_10 rfl ?_
    refine zv_iload_n K 21 dX2_countOwned_20 rfl rfl ?_
    refine zv_cV K (q0 := 3) (As := [.int (σ.1 (q0 + 11) 2), .int (nI g)]) (rest := []) 2 24 (kX2_eldestOver l D ty a σ c hc hc20 (σ.1 (q0 + 11) 2) (nI g)) dX2_countOwned_21 rfl zw_2_71 zw_2_72 zw_2_73 zw_1_3 zw_2_74 ⟨rfl, rfl⟩ zh_yX2_eldestOver ⟨by decide, by decide⟩ (zc_at (j := 3) (by decide)) rfl rfl rfl (zle rfl) rfl ?_
    intro v_ w_ hv_
    obtain ⟨rfl, hv_⟩ := hv_
    rcases hv_ with ⟨hz, rfl⟩ | ⟨q, hz, rfl⟩
    · show zv k 24 [some (.ref (a 3)), some (.ref (a (q0 + 11))), some (.int (nI (zct (zownb σ c q0 p0) g))), some (.int (nI g)), o4] (.null :: []) (zc a ty σ)
      refine zv_astoreN K [some (.ref (a 3)), some (.ref (a (q0 + 11))), some (.int (nI (zct (zownb σ c q0 p0) g))), some (.int (nI g)), some (.null)] 26 dX2_countOwned_24 rfl rfl (zlt rfl) ?_
      refine zv_aloadN K 28 dX2_countOwned_26 rfl rfl ?_
      refine zv_ifnullN K 46 dX2_countOwned_28 (by decide) ?_
      refine zv_iinc K (nI (g + 1)) [some (.ref (a 3)), some (.ref (a (q0 + 11))), some (.int (nI (zct (zownb σ c q0 p0) g))), some (.int (nI (g + 1))), some (.null)] 49 dX2_countOwned_46 rfl rfl (z_inc g) rfl ?_
      refine zv_goto K 7 dX2_countOwned_49 (by decide) ?_
      refine zv_eq (lv2 := [some (.ref (a 3)), some (.ref (a (q0 + 11))), some (.int (nI (zct (zownb σ c q0 p0) (g + 1)))), some (.int (nI (g + 1))), some (.null)]) rfl (by rw [zct_f (by simp only [zownb, hz, decide_eq_true hg, Bool.true_and])]) rfl rfl ?_
      exact ih (g + 1) (by omega) (by omega) (by omega) (some .null)
    · have hq20 : q < 20 := by have := zfst_lt hz; have := hc20; omega
      show zv k 24 [some (.ref (a 3)), some (.ref (a (q0 + 11))), some (.int (nI (zct (zownb σ c q0 p0) g))), some (.int (nI g)), o4] (.ref (a (q + 11)) :: []) (zc a ty σ)
      refine zv_astore K [some (.ref (a 3)), some (.ref (a (q0 + 11))), some (.int (nI (zct (zownb σ c q0 p0) g))), some (.int (nI g)), some (.ref (a (q + 11)))] 26 dX2_countOwned_24 rfl rfl (zlt rfl) ?_
      refine zv_aload K 28 dX2_countOwned_26 rfl rfl ?_
      refine zv_ifnull K 31 dX2_countOwned_28 rfl ?_
      refine zv_aload K 33 dX2_countOwned_31 rfl rfl ?_
      refine zv_getN (v := .int (σ.1 (q + 11) 1)) (C := RX1) (T := TX1) (N := 12) K (q + 11) 1 36 dX2_countOwned_33 rfl zy_X1 (zc_cl hq20) rfl (by decide) zn_8 rfl ?_
      refine zv_aload_n K 37 dX2_countOwned_36 rfl rfl ?_
      refine zv_getN (v := .int (σ.1 (q0 + 11) 1)) (C := RX1) (T := TX1) (N := 12) K (q0 + 11) 1 40 dX2_countOwned_37 rfl zy_X1 (zc_cl hq0) rfl (by decide) zn_8 rfl ?_
      refine zv_icmp_ne K 46 43 dX2_countOwned_40 (by decide) rfl (fun h1 => ?_) (fun h1 => ?_)
      · skip
        refine zv_iinc K (nI (g + 1)) [some (.ref (a 3)), some (.ref (a (q0 + 11))), some (.int (nI (zct (zownb σ c q0 p0) g))), some (.int (nI (g + 1))), some (.ref (a (q + 11)))] 49 dX2_countOwned_46 rfl rfl (z_inc g) rfl ?_
        refine zv_goto K 7 dX2_countOwned_49 (by decide) ?_
        refine zv_eq (lv2 := [some (.ref (a 3)), some (.ref (a (q0 + 11))), some (.int (nI (zct (zownb σ c q0 p0) (g + 1)))), some (.int (nI (g + 1))), some (.ref (a (q + 11)))]) rfl (by rw [zct_f (by simp only [zownb, hz, decide_eq_true hg, Bool.true_and]; exact decide_eq_false h1)]) rfl rfl ?_
        exact ih (g + 1) (by omega) (by omega) (by omega) (some (.ref (a (q + 11))))
      · skip
        refine zv_iinc K (nI (zct (zownb σ c q0 p0) g + 1)) [some (.ref (a 3)), some (.ref (a (q0 + 11))), some (.int (nI (zct (zownb σ c q0 p0) g + 1))), some (.int (nI g)), some (.ref (a (q + 11)))] 46 dX2_countOwned_43 rfl rfl (nI_1 _) rfl ?_
        refine zv_iinc K (nI (g + 1)) [some (.ref (a 3)), some (.ref (a (q0 + 11))), some (.int (nI (zct (zownb σ c q0 p0) g + 1))), some (.int (nI (g + 1))), some (.ref (a (q + 11)))] 49 dX2_countOwned_46 rfl rfl (z_inc g) rfl ?_
        refine zv_goto K 7 dX2_countOwned_49 (by decide) ?_
        refine zv_eq (lv2 := [some (.ref (a 3)), some (.ref (a (q0 + 11))), some (.int (nI (zct (zownb σ c q0 p0) (g + 1)))), some (.int (nI (g + 1))), some (.ref (a (q + 11)))]) rfl (by rw [zct_t (by simp only [zownb, hz, decide_eq_true hg, Bool.true_and]; exact decide_eq_true h1)]) rfl rfl ?_
        exact ih (g + 1) (by omega) (by omega) (by omega) (some (.ref (a (q + 11))))

theorem zown_0 (σ : zC) (c q p0 : Nat) : ∀ n, n ≤ p0 → zct (zownb σ c q p0) n = 0
  | 0, _ => rfl
  | n + 1, h => by rw [zct_f (by simp only [zownb, decide_eq_false (show ¬ p0 ≤ n by omega), Bool.false_and]), zown_0 σ c q p0 n (by omega)]
set_option maxHeartbeats 4000000 in
set_option maxRecDepth 100000 in
theorem kX2_countOwned (l : Launch) (D : va_G) (ty : zTy) (a : Nat → Nat) (σ : zC) (c : Nat) (hc : σ.1 3 0 = nI c) (hc20 : c ≤ 20) (q0 p0 l0 : Nat) (hq0 : q0 < 20) (hp0 : σ.1 (q0 + 11) 3 = nI p0) (hl0 : σ.1 (q0 + 11) 4 = nI l0) (hpl : p0 ≤ l0) (hl9 : l0 < 60) : zv_ct l D ty yX2_countOwned cX2_countOwned 5 (some .int) (zR 3 67) [.ref (a 3), .ref (a (q0 + 11))] (zc a ty σ) (fun v_ w_ => v_ = some (.int (nI (zct (zownb σ c q0 p0) (l0 + 1)))) ∧ w_ = zc a ty σ) := by
  refine zv_open (by decide) rfl rfl [some (.ref (a 3)), some (.ref (a (q0 + 11))), none, none, none] (by simp [zv_one, Value.category]) (zle rfl) rfl ?_
  intro k K T
  refine zv_iconst K 0 1 dX2_countOwned_0 rfl (by decide) ?_
  refine zv_istore_n K [some (.ref (a 3)), some (.ref (a (q0 + 11))), some (.int 0), none, none] 2 dX2_countOwned_1 rfl rfl (zlt rfl) ?_
  refine zv_aload_n K 3 dX2_countOwned_2 rfl rfl ?_
  refine zv_getN (v := .int (σ.1 (q0 + 11) 3)) (C := RX1) (T := TX1) (N := 12) K (q0 + 11) 3 6 dX2_countOwned_3 rfl zy_X1 (zc_cl hq0) rfl (by decide) zn_11 rfl ?_
  refine zv_topi (nI p0) hp0 ?_
  refine zv_istore_n K [some (.ref (a 3)), some (.ref (a (q0 + 11))), some (.int 0), some (.int (nI p0)), none] 7 dX2_countOwned_6 rfl rfl (zlt rfl) ?_
  refine zv_eq (lv2 := [some (.ref (a 3)), some (.ref (a (q0 + 11))), some (.int (nI (zct (zownb σ c q0 p0) p0))), some (.int (nI p0)), none]) rfl (by rw [zown_0 σ c q0 p0 p0 (Nat.le_refl _)]; rfl) rfl rfl ?_
  exact kX2_countOwned_l l D ty a σ c hc hc20 q0 p0 l0 hq0 hp0 hl0 hpl hl9 K T p0 (Nat.le_refl _) (by omega) none

set_option maxHeartbeats 4000000 in
set_option maxRecDepth 100000 in
theorem kX2_clear_l (l : Launch) (D : va_G) (ty : zTy) (a : Nat → Nat) (σ : zC) {k : zKx} (K : zv_ok k l D (zR 0 0) cX2_clear 2 yX2_clear.cls ty) (T : zv_rt k none (fun v_ w_ => v_ = none ∧ w_ = zc a ty (zclear σ))) : ∀ n : Nat, n ≤ 11 → zv k 7 [some (.ref (a 3)), some (.int (nI n))] [] (zc a ty (zFa (zO σ 3 0 0) 9 (zclr n (σ.2 9)))) := by
  refine z_wf (fun n : Nat => 11 - n) ?_
  intro n ih hn
  refine zv_iload_n K 8 dX2_clear_7 rfl rfl ?_
  refine zv_aload_n K 9 dX2_clear_8 rfl rfl ?_
  refine zv_get (v := .ref (a 9)) (C := RX2) (T := TX2) (N := 3) K 3 2 12 dX2_clear_9 rfl zy_X2 (zc_at (j := 3) (by decide)) rfl (by decide) zw_1_110 rfl ?_
  refine zv_alen K 9 13 11 dX2_clear_12 rfl (zc_at (j := 9) (by decide)) rfl ?_
  refine zv_icmp_ge K 29 16 dX2_clear_13 (by decide) rfl (fun hb => ?_) (fun hb => ?_)
  · skip
    have e : n = 11 := by have := z_ge (c := 11) hb (by decide) (by omega); omega
    exact zv_vret K T dX2_clear_29 (⟨rfl, by rw [e]; rfl⟩)
  · skip
    have hlt : n < 11 := z_lt (c := 11) hb (by omega)
    refine zv_aload_n K 17 dX2_clear_16 rfl rfl ?_
    refine zv_get (v := .ref (a 9)) (C := RX2) (T := TX2) (N := 3) K 3 2 20 dX2_clear_17 rfl zy_X2 (zc_at (j := 3) (by decide)) rfl (by decide) zw_1_110 rfl ?_
    refine zv_iload_n K 21 dX2_clear_20 rfl rfl ?_
    refine zv_iconst K 0 22 dX2_clear_21 rfl (by decide) ?_
    refine zv_iast K 9 n 23 (zc a ty (zF (zFa (zO σ 3 0 0) 9 (zclr n (σ.2 9))) 9 n 0)) dX2_clear_22 rfl (zc_at (j := 9) (by decide)) rfl hlt (by decide) (zc_F 9 n (by decide) rfl) ?_
    refine zv_iinc K (nI (n + 1)) [some (.ref (a 3)), some (.int (nI (n + 1)))] 26 dX2_clear_23 rfl rfl (z_inc n) rfl ?_
    refine zv_goto K 7 dX2_clear_26 (by decide) ?_
    refine zv_ws (congrArg (zc a ty) ((zF_Fa _ 9 n _ 0).trans (congrArg (zFa (zO σ 3 0 0) 9) (zclr_s n (σ.2 9))))) ?_
    exact ih (n + 1) (by omega) (by omega)

set_option maxHeartbeats 4000000 in
set_option maxRecDepth 100000 in
theorem kX2_clear (l : Launch) (D : va_G) (ty : zTy) (a : Nat → Nat) (σ : zC) : zv_ct l D ty yX2_clear cX2_clear 2 none (zR 0 0) [.ref (a 3)] (zc a ty σ) (fun v_ w_ => v_ = none ∧ w_ = zc a ty (zclear σ)) := by
  refine zv_open (by decide) rfl rfl [some (.ref (a 3)), none] (by simp [zv_one, Value.category]) (zle rfl) rfl ?_
  intro k K T
  refine zv_aload_n K 1 dX2_clear_0 rfl rfl ?_
  refine zv_iconst K 0 2 dX2_clear_1 rfl (by decide) ?_
  refine zv_put (C := RX2) (T := TX2) (N := 3) K 3 0 5 (zc a ty (zO σ 3 0 0)) dX2_clear_2 rfl zy_X2 tyX2_ok nmX2 (zc_at (j := 3) (by decide)) rfl (by decide) zw_1_108 rfl rfl rfl rfl (zlt rfl) (zc_O 3 0 (by decide) rfl) ?_
  refine zv_iconst K 0 6 dX2_clear_5 rfl (by decide) ?_
  refine zv_istore_n K [some (.ref (a 3)), some (.int 0)] 7 dX2_clear_6 rfl rfl (zlt rfl) ?_
  refine zv_ws (congrArg (zc a ty) (show zO σ 3 0 0 = zFa (zO σ 3 0 0) 9 (zclr 0 (σ.2 9)) by rw [zclr_0]; exact (zFa_self (zO σ 3 0 0) 9).symm)) ?_
  exact kX2_clear_l l D ty a σ K T 0 (by decide)

theorem zCl_3 (σ : zC) (c : Nat) (r sh : Nat → Int32) : (zCl σ c r sh).1 3 = σ.1 3 := zCl_1n σ r sh (by omega)
set_option maxHeartbeats 4000000 in
set_option maxRecDepth 100000 in
theorem kX2_addClaim (l : Launch) (D : va_G) (ty : zTy) (a : Nat → Nat) (σ : zC) (c : Nat) (hc : σ.1 3 0 = nI c) (hc20 : c ≤ 20) (x : Int32) (f : Nat) (hx : x = nI f) (hf : f < 90) : zv_ct l D ty yX2_addClaim cX2_addClaim 3 none (zR 3 66) [.ref (a 3), .ref (a 1), .int x] (zc a ty σ) (fun v_ w_ => v_ = none ∧ w_ = zc a ty (zadd σ c f)) := by
  refine zv_open (by decide) rfl rfl [some (.ref (a 3)), some (.ref (a 1)), some (.int x)] (by simp [zv_one, Value.category]) (zle rfl) rfl ?_
  intro k K T
  refine zv_aload_n K 1 dX2_addClaim_0 rfl rfl ?_
  refine zv_get (v := .int (σ.1 3 0)) (C := RX2) (T := TX2) (N := 3) K 3 0 4 dX2_addClaim_1 rfl zy_X2 (zc_at (j := 3) (by decide)) rfl (by decide) zw_1_108 rfl ?_
  refine zv_topi (nI c) hc ?_
  refine zv_bipush K 20 6 dX2_addClaim_4 rfl (by decide) ?_
  refine zv_icmp_ge K 33 9 dX2_addClaim_6 (by decide) rfl (fun hb => ?_) (fun hb => ?_)
  · skip
    exact zv_vret K T dX2_addClaim_33 (⟨rfl, congrArg (zc a ty) (by unfold zadd; first | (rw [if_pos hlt]; done) | (rw [if_neg (by have := z_ge (c := 20) hb (by decide) (by omega); omega)]; done))⟩)
  · skip
    have hlt : c < 20 := z_lt (c := 20) hb (by omega)
    refine zv_aload_n K 10 dX2_addClaim_9 rfl rfl ?_
    refine zv_get (v := .ref (a 8)) (C := RX2) (T := TX2) (N := 3) K 3 1 13 dX2_addClaim_10 rfl zy_X2 (zc_at (j := 3) (by decide)) rfl (by decide) zw_1_109 rfl ?_
    refine zv_aload_n K 14 dX2_addClaim_13 rfl rfl ?_
    refine zv_get (v := .int (σ.1 3 0)) (C := RX2) (T := TX2) (N := 3) K 3 0 17 dX2_addClaim_14 rfl zy_X2 (zc_at (j := 3) (by decide)) rfl (by decide) zw_1_108 rfl ?_
    refine zv_topi (nI c) hc ?_
    refine zv_aald (b := a (c + 11)) K 8 c 18 dX2_addClaim_17 rfl (zc_at (j := 8) (by decide)) rfl hlt (by decide) rfl ?_
    refine zv_aload_n K 19 dX2_addClaim_18 rfl rfl ?_
    refine zv_iload_n K 20 dX2_addClaim_19 rfl rfl ?_
    refine zv_ws (congrArg (zc a ty) (zCl_self σ c).symm) ?_
    refine zv_cV0 K (q0 := (c + 11)) (As := [.ref (a 1), .int x]) (rest := []) 2 23 (kX1_begin l D ty a σ c hlt (σ.1 (c + 11)) (σ.2 (c + 31)) x f hx hf) dX2_addClaim_20 rfl zw_2_50 zw_2_51 zw_2_52 zw_1_4 zw_2_53 ⟨rfl, rfl⟩ zh_yX1_begin ⟨by decide, by decide⟩ (zk_at hlt) rfl rfl rfl (zle rfl) rfl ?_
    refine zv_aload_n K 24 dX2_addClaim_23 rfl rfl ?_
    refine zv_dup K 25 dX2_addClaim_24 rfl rfl ?_
    refine zv_get (v := .int ((zCl σ c (rBegin σ (σ.1 (c + 11)) f) (sPass (σ.2 (c + 31)) (zg σ f 5))).1 3 0)) (C := RX2) (T := TX2) (N := 3) K 3 0 28 dX2_addClaim_25 rfl zy_X2 (zc_at (j := 3) (by decide)) rfl (by decide) zw_1_108 rfl ?_
    refine zv_topi (nI c) (by rw [zCl_3]; exact hc) ?_
    refine zv_iconst K 1 29 dX2_addClaim_28 rfl (by decide) ?_
    refine zv_iadd K 30 dX2_addClaim_29 rfl ?_
    refine zv_topi (nI (c + 1)) (nI_1 c) ?_
    refine zv_put (C := RX2) (T := TX2) (N := 3) K 3 0 33 (zc a ty (zO (zCl σ c (rBegin σ (σ.1 (c + 11)) f) (sPass (σ.2 (c + 31)) (zg σ f 5))) 3 0 (nI (c + 1)))) dX2_addClaim_30 rfl zy_X2 tyX2_ok nmX2 (zc_at (j := 3) (by decide)) rfl (by decide) zw_1_108 rfl rfl rfl rfl (zlt rfl) (zc_O 3 0 (by decide) rfl) ?_
    exact zv_vret K T dX2_addClaim_33 (⟨rfl, congrArg (zc a ty) (by unfold zadd; first | (rw [if_pos hlt]; done) | (rw [if_neg (by have := z_ge (c := 20) hb (by decide) (by omega); omega)]; done))⟩)

set_option maxHeartbeats 4000000 in
set_option maxRecDepth 100000 in
theorem kX2_bringOre_l (l : Launch) (D : va_G) (ty : zTy) (a : Nat → Nat) (σ : zC) (c : Nat) (vn ft v : Int32) (q : Nat) (hq20 : q < 20) (hz : zfst (zov σ vn ft) c = some q) {k : zKx} (K : zv_ok k l D (zR 3 67) cX2_bringOre 6 yX2_bringOre.cls ty) (T : zv_rt k none (fun v_ w_ => v_ = none ∧ w_ = zc a ty (zbo σ c vn ft v))) : ∀ n : Nat, n ≤ 10 → zv k 31 [some (.ref (a 3)), some (.int vn), some (.int ft), some (.int v), some (.ref (a (q + 11))), some (.int (nI n))] [] (zc a ty (zFa σ 9 (zorN σ q n v))) := by
  refine z_wf (fun n : Nat => 10 - n) ?_
  intro n ih hn
  refine zv_iload K 33 dX2_bringOre_31 rfl rfl ?_
  refine zv_bipush K 10 35 dX2_bringOre_33 rfl (by decide) ?_
  refine zv_icmp_ge K 64 38 dX2_bringOre_35 (by decide) rfl (fun hb => ?_) (fun hb => ?_)
  · skip
    have e : n = 10 := by have := z_ge (c := 10) hb (by decide) (by omega); omega
    exact zv_vret K T dX2_bringOre_64 (⟨rfl, congrArg (zc a ty) (by simp only [zbo, hz]; rw [e])⟩)
  · skip
    have hlt : n < 10 := z_lt (c := 10) hb (by omega)
    refine zv_aload_n K 39 dX2_bringOre_38 rfl rfl ?_
    refine zv_get (v := .ref (a 9)) (C := RX2) (T := TX2) (N := 3) K 3 2 42 dX2_bringOre_39 rfl zy_X2 (zc_at (j := 3) (by decide)) rfl (by decide) zw_1_110 rfl ?_
    refine zv_iload K 44 dX2_bringOre_42 rfl rfl ?_
    refine zv_dup2 K 45 dX2_bringOre_44 rfl rfl rfl ?_
    refine zv_iald (F := (zFa σ 9 (zorN σ q n v)).2 9) K 9 n 46 dX2_bringOre_45 rfl (zc_at (j := 9) (by decide)) rfl (by omega) (by decide) ?_
    refine zv_iload_n K 47 dX2_bringOre_46 rfl rfl ?_
    refine zv_aload K 49 dX2_bringOre_47 rfl rfl ?_
    refine zv_getN (v := .ref (a (q + 31))) (C := RX1) (T := TX1) (N := 12) K (q + 11) 11 52 dX2_bringOre_49 rfl zy_X1 (zc_cl hq20) rfl (by decide) zn_19 rfl ?_
    refine zv_iload K 54 dX2_bringOre_52 rfl rfl ?_
    refine zv_iald (F := (zFa σ 9 (zorN σ q n v)).2 (q + 31)) K (q + 31) n 55 dX2_bringOre_54 rfl (zc_sh hq20) rfl hlt (by decide) ?_
    refine zv_topi (σ.2 (q + 31) n) (by simp [zFa]) ?_
    refine zv_imul K 56 dX2_bringOre_55 rfl ?_
    refine zv_iadd K 57 dX2_bringOre_56 rfl ?_
    refine zv_iast K 9 n 58 (zc a ty (zF (zFa σ 9 (zorN σ q n v)) 9 n (((zFa σ 9 (zorN σ q n v)).2 9 n) + (v * (σ.2 (q + 31) n))))) dX2_bringOre_57 rfl (zc_at (j := 9) (by decide)) rfl (by omega) (by decide) (zc_F 9 n (by decide) rfl) ?_
    refine zv_iinc K (nI (n + 1)) [some (.ref (a 3)), some (.int vn), some (.int ft), some (.int v), some (.ref (a (q + 11))), some (.int (nI (n + 1)))] 61 dX2_bringOre_58 rfl rfl (z_inc n) rfl ?_
    refine zv_goto K 31 dX2_bringOre_61 (by decide) ?_
    refine zv_ws (congrArg (zc a ty) ((zF_Fa σ 9 n _ _).trans (congrArg (zFa σ 9) (zorN_s σ q n v)))) ?_
    exact ih (n + 1) (by omega) (by omega)

set_option maxHeartbeats 4000000 in
set_option maxRecDepth 100000 in
theorem kX2_bringOre (l : Launch) (D : va_G) (ty : zTy) (a : Nat → Nat) (σ : zC) (c : Nat) (hc : σ.1 3 0 = nI c) (hc20 : c ≤ 20) (vn ft v : Int32) : zv_ct l D ty yX2_bringOre cX2_bringOre 6 none (zR 3 67) [.ref (a 3), .int vn, .int ft, .int v] (zc a ty σ) (fun v_ w_ => v_ = none ∧ w_ = zc a ty (zbo σ c vn ft v)) := by
  refine zv_open (by decide) rfl rfl [some (.ref (a 3)), some (.int vn), some (.int ft), some (.int v), none, none] (by simp [zv_one, Value.category]) (zle rfl) rfl ?_
  intro k K T
  refine zv_aload_n K 1 dX2_bringOre_0 rfl rfl ?_
  refine zv_iload_n K 2 dX2_bringOre_1 rfl rfl ?_
  refine zv_iload_n K 3 dX2_bringOre_2 rfl rfl ?_
  refine zv_cV K (q0 := 3) (As := [.int vn, .int ft]) (rest := []) 2 6 (kX2_eldestOver l D ty a σ c hc hc20 vn ft) dX2_bringOre_3 rfl zw_2_71 zw_2_72 zw_2_73 zw_1_3 zw_2_74 ⟨rfl, rfl⟩ zh_yX2_eldestOver ⟨by decide, by decide⟩ (zc_at (j := 3) (by decide)) rfl rfl rfl (zle rfl) rfl ?_
  intro v_ w_ hv_
  obtain ⟨rfl, hv_⟩ := hv_
  rcases hv_ with ⟨hz, rfl⟩ | ⟨q, hz, rfl⟩
  · show zv k 6 [some (.ref (a 3)), some (.int vn), some (.int ft), some (.int v), none, none] (.null :: []) (zc a ty σ)
    refine zv_astoreN K [some (.ref (a 3)), some (.int vn), some (.int ft), some (.int v), some (.null), none] 8 dX2_bringOre_6 rfl rfl (zlt rfl) ?_
    refine zv_aloadN K 10 dX2_bringOre_8 rfl rfl ?_
    refine zv_ifnonnullN K 13 dX2_bringOre_10 rfl ?_
    refine zv_aload_n K 14 dX2_bringOre_13 rfl rfl ?_
    refine zv_get (v := .ref (a 9)) (C := RX2) (T := TX2) (N := 3) K 3 2 17 dX2_bringOre_14 rfl zy_X2 (zc_at (j := 3) (by decide)) rfl (by decide) zw_1_110 rfl ?_
    refine zv_bipush K 10 19 dX2_bringOre_17 rfl (by decide) ?_
    refine zv_dup2 K 20 dX2_bringOre_19 rfl rfl rfl ?_
    refine zv_iald (F := σ.2 9) K 9 10 21 dX2_bringOre_20 rfl (zc_at (j := 9) (by decide)) rfl (by decide) (by decide) ?_
    refine zv_iload_n K 22 dX2_bringOre_21 rfl rfl ?_
    refine zv_bipush K 24 24 dX2_bringOre_22 rfl (by decide) ?_
    refine zv_imul K 25 dX2_bringOre_24 rfl ?_
    refine zv_iadd K 26 dX2_bringOre_25 rfl ?_
    refine zv_iast K 9 10 27 (zc a ty (zF σ 9 10 ((σ.2 9 10) + (v * 24)))) dX2_bringOre_26 rfl (zc_at (j := 9) (by decide)) rfl (by decide) (by decide) (zc_F 9 10 (by decide) rfl) ?_
    exact zv_vret K T dX2_bringOre_27 (⟨rfl, congrArg (zc a ty) (by simp only [zbo, hz])⟩)
  · have hq20 : q < 20 := by have := zfst_lt hz; have := hc20; omega
    show zv k 6 [some (.ref (a 3)), some (.int vn), some (.int ft), some (.int v), none, none] (.ref (a (q + 11)) :: []) (zc a ty σ)
    refine zv_astore K [some (.ref (a 3)), some (.int vn), some (.int ft), some (.int v), some (.ref (a (q + 11))), none] 8 dX2_bringOre_6 rfl rfl (zlt rfl) ?_
    refine zv_aload K 10 dX2_bringOre_8 rfl rfl ?_
    refine zv_ifnonnull K 28 dX2_bringOre_10 (by decide) ?_
    refine zv_iconst K 0 29 dX2_bringOre_28 rfl (by decide) ?_
    refine zv_istore K [some (.ref (a 3)), some (.int vn), some (.int ft), some (.int v), some (.ref (a (q + 11))), some (.int 0)] 31 dX2_bringOre_29 rfl rfl (zlt rfl) ?_
    refine zv_ws (congrArg (zc a ty) (show σ = zFa σ 9 (zorN σ q 0 v) by rw [zorN_0]; exact (zFa_self σ 9).symm)) ?_
    exact kX2_bringOre_l l D ty a σ c vn ft v q hq20 hz K T 0 (by decide)

set_option maxHeartbeats 4000000 in
set_option maxRecDepth 100000 in
theorem kX2_apply (l : Launch) (D : va_G) (ty : zTy) (a : Nat → Nat) (σ : zC) (c : Nat) (hc : σ.1 3 0 = nI c) (hc20 : c ≤ 20) (x idle : Int32) (f : Nat) (hx : x = nI f) (hf : f < 90) (h5 : zg σ f 0 = 5 → ∃ p q : Nat, p < 10 ∧ zg σ f 5 = nI p ∧ q < 10 ∧ zg σ f 10 = nI q) : zv_ct l D ty yX2_apply cX2_apply 6 none (zR 4 92) [.ref (a 3), .ref (a 1), .int x, .int idle] (zc a ty σ) (fun v_ w_ => v_ = none ∧ w_ = zc a ty (zapl σ c f idle)) := by
  refine zv_open (by decide) rfl rfl [some (.ref (a 3)), some (.ref (a 1)), some (.int x), some (.int idle), none, none] (by simp [zv_one, Value.category]) (zle rfl) rfl ?_
  intro k K T
  refine zv_aload_n K 1 dX2_apply_0 rfl rfl ?_
  refine zv_iload_n K 2 dX2_apply_1 rfl rfl ?_
  refine zv_iconst K 0 3 dX2_apply_2 rfl (by decide) ?_
  refine zv_cV1 K (q0 := 1) (As := [.int x, .int 0]) (rest := []) 2 6 (kX0_get l D ty a σ x 0 f 0 hx rfl hf (by decide)) dX2_apply_3 rfl zw_2_36 zw_1_186 zw_1_187 zw_1_2 zw_1_188 ⟨rfl, rfl⟩ zh_yX0_get ⟨by decide, by decide⟩ (zc_at (j := 1) (by decide)) rfl rfl rfl (zle rfl) rfl ?_
  refine zv_istore K [some (.ref (a 3)), some (.ref (a 1)), some (.int x), some (.int idle), some (.int (zg σ f 0)), none] 8 dX2_apply_6 rfl rfl (zlt rfl) ?_
  refine zv_iload K 10 dX2_apply_8 rfl rfl ?_
  refine zv_if_ne K 22 13 dX2_apply_10 (by decide) rfl (fun h0 => ?_) (fun h0 => ?_)
  · skip
    refine zv_iload K 24 dX2_apply_22 rfl rfl ?_
    refine zv_bipush K 6 26 dX2_apply_24 rfl (by decide) ?_
    refine zv_icmp_ne K 56 29 dX2_apply_26 (by decide) rfl (fun h1 => ?_) (fun h1 => ?_)
    · skip
      refine zv_aload_n K 57 dX2_apply_56 rfl rfl ?_
      refine zv_aload_n K 58 dX2_apply_57 rfl rfl ?_
      refine zv_iload_n K 59 dX2_apply_58 rfl rfl ?_
      refine zv_bipush K 9 61 dX2_apply_59 rfl (by decide) ?_
      refine zv_cV1 K (q0 := 1) (As := [.int x, .int 9]) (rest := [.ref (a 3)]) 2 64 (kX0_get l D ty a σ x 9 f 9 hx rfl hf (by decide)) dX2_apply_61 rfl zw_2_36 zw_1_186 zw_1_187 zw_1_2 zw_1_188 ⟨rfl, rfl⟩ zh_yX0_get ⟨by decide, by decide⟩ (zc_at (j := 1) (by decide)) rfl rfl rfl (zle rfl) rfl ?_
      refine zv_cV K (q0 := 3) (As := [.int (zg σ f 9)]) (rest := []) 1 67 (kX2_find l D ty a σ c hc hc20 (zg σ f 9)) dX2_apply_64 rfl zw_2_80 zw_2_81 zw_2_82 zw_1_3 zw_2_83 ⟨rfl, rfl⟩ zh_yX2_find ⟨by decide, by decide⟩ (zc_at (j := 3) (by decide)) rfl rfl rfl (zle rfl) rfl ?_
      intro v_ w_ hv_
      obtain ⟨rfl, hv_⟩ := hv_
      rcases hv_ with ⟨hz, rfl⟩ | ⟨q, hz, rfl⟩
      · show zv k 67 [some (.ref (a 3)), some (.ref (a 1)), some (.int x), some (.int idle), some (.int (zg σ f 0)), none] (.null :: []) (zc a ty σ)
        refine zv_astoreN K [some (.ref (a 3)), some (.ref (a 1)), some (.int x), some (.int idle), some (.int (zg σ f 0)), some (.null)] 69 dX2_apply_67 rfl rfl (zlt rfl) ?_
        refine zv_aloadN K 71 dX2_apply_69 rfl rfl ?_
        refine zv_ifnullN K 82 dX2_apply_71 (by decide) ?_
        exact zv_vret K T dX2_apply_82 (⟨rfl, congrArg (zc a ty) (by unfold zapl; rw [if_neg h0, if_neg h1]; simp only [ztn, hz])⟩)
      · have hq20 : q < 20 := by have := zfst_lt hz; have := hc20; omega
        show zv k 67 [some (.ref (a 3)), some (.ref (a 1)), some (.int x), some (.int idle), some (.int (zg σ f 0)), none] (.ref (a (q + 11)) :: []) (zc a ty σ)
        refine zv_astore K [some (.ref (a 3)), some (.ref (a 1)), some (.int x), some (.int idle), some (.int (zg σ f 0)), some (.ref (a (q + 11)))] 69 dX2_apply_67 rfl rfl (zlt rfl) ?_
        refine zv_aload K 71 dX2_apply_69 rfl rfl ?_
        refine zv_ifnull K 74 dX2_apply_71 rfl ?_
        refine zv_aload K 76 dX2_apply_74 rfl rfl ?_
        refine zv_aload_n K 77 dX2_apply_76 rfl rfl ?_
        refine zv_iload_n K 78 dX2_apply_77 rfl rfl ?_
        refine zv_iload_n K 79 dX2_apply_78 rfl rfl ?_
        refine zv_ws (congrArg (zc a ty) (zCl_self σ q).symm) ?_
        refine zv_cV0 K (q0 := (q + 11)) (As := [.ref (a 1), .int x, .int idle]) (rest := []) 3 82 (kX1_turn l D ty a σ q hq20 (σ.1 (q + 11)) (σ.2 (q + 31)) x idle f hx hf h5) dX2_apply_79 rfl zw_2_84 zw_2_85 zw_2_86 zw_1_4 zw_2_87 ⟨rfl, rfl⟩ zh_yX1_turn ⟨by decide, by decide⟩ (zk_at hq20) rfl rfl rfl (zle rfl) rfl ?_
        exact zv_vret K T dX2_apply_82 (⟨rfl, congrArg (zc a ty) (by unfold zapl; rw [if_neg h0, if_neg h1]; simp only [ztn, hz])⟩)
    · skip
      refine zv_aload_n K 30 dX2_apply_29 rfl rfl ?_
      refine zv_aload_n K 31 dX2_apply_30 rfl rfl ?_
      refine zv_iload_n K 32 dX2_apply_31 rfl rfl ?_
      refine zv_iconst K 4 33 dX2_apply_32 rfl (by decide) ?_
      refine zv_cV1 K (q0 := 1) (As := [.int x, .int 4]) (rest := [.ref (a 3)]) 2 36 (kX0_get l D ty a σ x 4 f 4 hx rfl hf (by decide)) dX2_apply_33 rfl zw_2_36 zw_1_186 zw_1_187 zw_1_2 zw_1_188 ⟨rfl, rfl⟩ zh_yX0_get ⟨by decide, by decide⟩ (zc_at (j := 1) (by decide)) rfl rfl rfl (zle rfl) rfl ?_
      refine zv_aload_n K 37 dX2_apply_36 rfl rfl ?_
      refine zv_iload_n K 38 dX2_apply_37 rfl rfl ?_
      refine zv_bipush K 6 40 dX2_apply_38 rfl (by decide) ?_
      refine zv_cV1 K (q0 := 1) (As := [.int x, .int 6]) (rest := [.int (zg σ f 4), .ref (a 3)]) 2 43 (kX0_get l D ty a σ x 6 f 6 hx rfl hf (by decide)) dX2_apply_40 rfl zw_2_36 zw_1_186 zw_1_187 zw_1_2 zw_1_188 ⟨rfl, rfl⟩ zh_yX0_get ⟨by decide, by decide⟩ (zc_at (j := 1) (by decide)) rfl rfl rfl (zle rfl) rfl ?_
      refine zv_aload_n K 44 dX2_apply_43 rfl rfl ?_
      refine zv_iload_n K 45 dX2_apply_44 rfl rfl ?_
      refine zv_bipush K 8 47 dX2_apply_45 rfl (by decide) ?_
      refine zv_cV1 K (q0 := 1) (As := [.int x, .int 8]) (rest := [.int (zg σ f 6), .int (zg σ f 4), .ref (a 3)]) 2 50 (kX0_get l D ty a σ x 8 f 8 hx rfl hf (by decide)) dX2_apply_47 rfl zw_2_36 zw_1_186 zw_1_187 zw_1_2 zw_1_188 ⟨rfl, rfl⟩ zh_yX0_get ⟨by decide, by decide⟩ (zc_at (j := 1) (by decide)) rfl rfl rfl (zle rfl) rfl ?_
      refine zv_cV0 K (q0 := 3) (As := [.int (zg σ f 4), .int (zg σ f 6), .int (zg σ f 8)]) (rest := []) 3 53 (kX2_bringOre l D ty a σ c hc hc20 (zg σ f 4) (zg σ f 6) (zg σ f 8)) dX2_apply_50 rfl zw_2_67 zw_2_69 zw_p1_10 zw_1_3 zw_2_70 ⟨rfl, rfl⟩ zh_yX2_bringOre ⟨by decide, by decide⟩ (zc_at (j := 3) (by decide)) rfl rfl rfl (zle rfl) rfl ?_
      refine zv_goto K 82 dX2_apply_53 (by decide) ?_
      exact zv_vret K T dX2_apply_82 (⟨rfl, congrArg (zc a ty) (by unfold zapl; rw [if_neg h0, if_pos h1])⟩)
  · skip
    refine zv_aload_n K 14 dX2_apply_13 rfl rfl ?_
    refine zv_aload_n K 15 dX2_apply_14 rfl rfl ?_
    refine zv_iload_n K 16 dX2_apply_15 rfl rfl ?_
    refine zv_cV0 K (q0 := 3) (As := [.ref (a 1), .int x]) (rest := []) 2 19 (kX2_addClaim l D ty a σ c hc hc20 x f hx hf) dX2_apply_16 rfl zw_2_46 zw_2_48 zw_p1_6 zw_1_3 zw_2_49 ⟨rfl, rfl⟩ zh_yX2_addClaim ⟨by decide, by decide⟩ (zc_at (j := 3) (by decide)) rfl rfl rfl (zle rfl) rfl ?_
    refine zv_goto K 82 dX2_apply_19 (by decide) ?_
    exact zv_vret K T dX2_apply_82 (⟨rfl, congrArg (zc a ty) (by unfold zapl; rw [if_pos h0])⟩)
end
section
/-! the standing's steps leave the book, the kept book and the court alone -/
def zfr (σ ρ : zC) : Prop := (∀ j, j < 3 → ρ.1 j = σ.1 j) ∧ ∀ j, j < 9 → ρ.2 j = σ.2 j
theorem zfr.rf (σ : zC) : zfr σ σ := ⟨fun _ _ => rfl, fun _ _ => rfl⟩
theorem zfr.tr {σ ρ π : zC} (h : zfr σ ρ) (h2 : zfr ρ π) : zfr σ π := ⟨fun j hj => (h2.1 j hj).trans (h.1 j hj), fun j hj => (h2.2 j hj).trans (h.2 j hj)⟩
theorem zfr.zg {σ ρ : zC} (h : zfr σ ρ) (f c : Nat) : zg ρ f c = zg σ f c := by show ρ.2 4 _ = σ.2 4 _; rw [h.2 4 (by decide)]
theorem zfr_Cl (σ : zC) (i : Nat) (r sh : Nat → Int32) : zfr σ (zCl σ i r sh) := ⟨fun j hj => zCl_1n σ r sh (by omega), fun j hj => zCl_2n σ r sh (by omega)⟩
theorem zfr_O {σ : zC} {j : Nat} (hj : 3 ≤ j) (f : Nat) (v : Int32) : zfr σ (zO σ j f v) := ⟨fun i hi => zu_ne (by omega), fun _ _ => rfl⟩
theorem zfr_F {σ : zC} {j : Nat} (hj : 9 ≤ j) (f : Nat) (v : Int32) : zfr σ (zF σ j f v) := ⟨fun _ _ => rfl, fun i hi => zu_ne (by omega)⟩
theorem zfr_Fa {σ : zC} {j : Nat} (hj : 9 ≤ j) (g : Nat → Int32) : zfr σ (zFa σ j g) := ⟨fun _ _ => rfl, fun i hi => by show (if i = j then g else σ.2 i) = σ.2 i; rw [if_neg (by omega)]⟩
theorem zfr_clear (σ : zC) : zfr σ (zclear σ) := (zfr_O (by decide) 0 0).tr (zfr_Fa (by decide) _)
theorem zfr_add (σ : zC) (c f : Nat) : zfr σ (zadd σ c f) := by
  unfold zadd
  split
  · exact (zfr_Cl σ c _ _).tr (zfr_O (by decide) 0 _)
  · exact zfr.rf σ
theorem zfr_bo (σ : zC) (c : Nat) (vn ft v : Int32) : zfr σ (zbo σ c vn ft v) := by
  unfold zbo
  split
  · exact zfr_F (by decide) _ _
  · exact zfr_Fa (by decide) _
theorem zfr_tn (σ : zC) (c f : Nat) (idle : Int32) : zfr σ (ztn σ c f idle) := by
  unfold ztn
  split
  · exact zfr.rf σ
  · exact zfr_Cl σ _ _ _
theorem zfr_apl (σ : zC) (c f : Nat) (idle : Int32) : zfr σ (zapl σ c f idle) := by
  unfold zapl
  split
  · exact zfr_add σ c f
  · split
    · exact zfr_bo σ c _ _ _
    · exact zfr_tn σ c f idle
theorem zcn_of {σ : zC} {c : Nat} (h : σ.1 3 0 = nI c) (hc : c ≤ 20) : zcn σ = c := by unfold zcn; rw [h, nI_clamp (by omega)]
def zcok (σ : zC) : Prop := ∃ c, c ≤ 20 ∧ σ.1 3 0 = nI c
theorem zcok.is {σ : zC} (h : zcok σ) : σ.1 3 0 = nI (zcn σ) ∧ zcn σ ≤ 20 := by
  obtain ⟨c, h1, h2⟩ := h
  rw [zcn_of h2 h1]
  exact ⟨h2, h1⟩
theorem zcok_clear (σ : zC) : zcok (zclear σ) := ⟨0, by decide, by simp [zclear, zFa, zO, zu, upd]; rfl⟩
theorem zcok_apl {σ : zC} {c : Nat} (h : σ.1 3 0 = nI c) (hc : c ≤ 20) (f : Nat) (idle : Int32) : zcok (zapl σ c f idle) := by
  unfold zapl
  split
  · unfold zadd
    split
    · exact ⟨c + 1, by omega, by simp [zO, zu, upd]⟩
    · exact ⟨c, hc, h⟩
  · split
    · unfold zbo
      split
      · exact ⟨c, hc, h⟩
      · exact ⟨c, hc, h⟩
    · unfold ztn
      split
      · exact ⟨c, hc, h⟩
      · exact ⟨c, hc, by rw [zCl_3]; exact h⟩
/-- all facts in their order, up to the day -/
def zrun (O : Nat → Nat) (day known idle : Int32) : Nat → Nat → zC → zC
  | 0, _, σ => σ
  | m + 1, i, σ => if day < zg σ (O i) 1 then σ else zrun O day known idle m (i + 1) (if zg σ (O i) 2 ≤ known ∧ ¬ (¬ zg σ (O i) 3 = -4 ∧ zg σ (O i) 3 ≤ known) then zapl σ (zcn σ) (O i) idle else σ)
theorem zrun_s {O : Nat → Nat} {day known idle : Int32} {n i : Nat} {σ : zC} (h : i < n) : zrun O day known idle (n - i) i σ = if day < zg σ (O i) 1 then σ else zrun O day known idle (n - (i + 1)) (i + 1) (if zg σ (O i) 2 ≤ known ∧ ¬ (¬ zg σ (O i) 3 = -4 ∧ zg σ (O i) 3 ≤ known) then zapl σ (zcn σ) (O i) idle else σ) := by
  rw [show n - i = (n - (i + 1)) + 1 by omega]
  rfl
theorem zrun_fr (O : Nat → Nat) (day known idle : Int32) : ∀ (m i : Nat) (σ : zC), zcok σ → zfr σ (zrun O day known idle m i σ) ∧ zcok (zrun O day known idle m i σ)
  | 0, _, σ, h => ⟨zfr.rf σ, h⟩
  | m + 1, i, σ, h => by
    unfold zrun
    split
    · exact ⟨zfr.rf σ, h⟩
    · split
      · have h2 := zrun_fr O day known idle m (i + 1) (zapl σ (zcn σ) (O i) idle) (zcok_apl h.is.1 h.is.2 _ _)
        exact ⟨(zfr_apl σ _ _ _).tr h2.1, h2.2⟩
      · exact zrun_fr O day known idle m (i + 1) σ h
def zQ (σ : zC) (O : Nat → Nat) (n : Nat) (day known : Int32) : zC := zrun O day known (σ.1 0 4) n 0 (zclear σ)
theorem zQ_fr (σ : zC) (O : Nat → Nat) (n : Nat) (day known : Int32) : zfr σ (zQ σ O n day known) := (zfr_clear σ).tr (zrun_fr O day known (σ.1 0 4) n 0 (zclear σ) (zcok_clear σ)).1
theorem zQ_c (σ : zC) (O : Nat → Nat) (n : Nat) (day known : Int32) : (zQ σ O n day known).1 3 0 = nI (zcn (zQ σ O n day known)) ∧ zcn (zQ σ O n day known) ≤ 20 := (zrun_fr O day known (σ.1 0 4) n 0 (zclear σ) (zcok_clear σ)).2.is
/-- what the court's methods need of the book -/
def zI (σ : zC) (O : Nat → Nat) (n : Nat) : Prop := n ≤ 90 ∧ σ.1 1 1 = nI n ∧ (∀ i, i < n → σ.2 5 i = nI (O i) ∧ O i < 90) ∧ ∀ i, i < n → zg σ (O i) 0 = 5 → ∃ p q : Nat, p < 10 ∧ zg σ (O i) 5 = nI p ∧ q < 10 ∧ zg σ (O i) 10 = nI q
theorem zI.val {σ : zC} {O : Nat → Nat} {n : Nat} (h : zI σ O n) : zval (σ.2 5) n := fun i hi => ⟨O i, (h.2.2.1 i hi).2, (h.2.2.1 i hi).1⟩
theorem zI.fr {σ ρ : zC} {O : Nat → Nat} {n : Nat} (h : zI σ O n) (hf : zfr σ ρ) : zI ρ O n := ⟨h.1, by rw [hf.1 1 (by decide)]; exact h.2.1, fun i hi => by rw [hf.2 5 (by decide)]; exact h.2.2.1 i hi, fun i hi => by rw [hf.zg, hf.zg, hf.zg]; exact h.2.2.2 i hi⟩
theorem zdiv60 {j : Nat} (h : j < 240) : nI j / 60 = nI (j / 60) := pk_div (d := 60) (by omega) (by decide) (by decide)
theorem zrem60 {j : Nat} (h : j < 240) : nI j - nI j / 60 * 60 = nI (j % 60) := pk_rem (d := 60) (by omega) (by decide) (by decide)
def zhj (σ : zC) (c : Nat) (j : Nat) : Int32 := zhold σ c (nI (j / 60)) (nI (j % 60))
def zhN (σ : zC) (c n : Nat) (g : Nat → Int32) : Nat → Int32 := fun j => if j < n then zhj σ c j else g j
theorem zhN_0 (σ : zC) (c : Nat) (g : Nat → Int32) : zhN σ c 0 g = g := by funext j; simp [zhN]
theorem zhN_s (σ : zC) (c n : Nat) (g : Nat → Int32) : upd (zhN σ c n g) n (zhj σ c n) = zhN σ c (n + 1) g := by
  funext q
  unfold upd zhN
  by_cases h : q = n
  · subst h; rw [if_pos rfl, if_pos (Nat.lt_succ_self _)]
  · rw [if_neg h]
    by_cases h2 : q < n
    · simp only [if_pos h2, if_pos (show q < n + 1 by omega)]
    · simp only [if_neg h2, if_neg (show ¬ q < n + 1 by omega)]
theorem zhold_fr {σ ρ : zC} (h : ∀ i, ρ.1 (i + 11) = σ.1 (i + 11)) (c : Nat) (vn ft : Int32) : zhold ρ c vn ft = zhold σ c vn ft := by
  unfold zhold
  have e : zov ρ vn ft = zov σ vn ft := by funext i; unfold zov; rw [h i]
  rw [e]
  split <;> simp [h]
theorem zfeet_j {v f : Nat} (hf : f < 60) : (v * 60 + f) / 60 = v ∧ (v * 60 + f) % 60 = f := by omega
end
section
set_option maxHeartbeats 4000000 in
set_option maxRecDepth 100000 in
theorem kX2_goThrough_l (l : Launch) (D : va_G) (ty : zTy) (a : Nat → Nat) (σ : zC) (O : Nat → Nat) (n : Nat) (hn : n ≤ 90) (hcn : σ.1 1 1 = nI n) (hO : ∀ i, i < n → σ.2 5 i = nI (O i) ∧ O i < 90) (h5 : ∀ i, i < n → zg σ (O i) 0 = 5 → ∃ p q : Nat, p < 10 ∧ zg σ (O i) 5 = nI p ∧ q < 10 ∧ zg σ (O i) 10 = nI q) (day known idle : Int32) (Fin : zC) {k : zKx} (K : zv_ok k l D (zR 5 117) cX2_goThrough 7 yX2_goThrough.cls ty) (T : zv_rt k none (fun v_ w_ => v_ = none ∧ w_ = zc a ty Fin)) : ∀ p : Nat × zC, p.1 ≤ n → zfr σ p.2 → zcok p.2 → zrun O day known idle (n - p.1) p.1 p.2 = Fin → ∀ o6 : Option Value, zv k 7 [some (.ref (a 3)), some (.ref (a 1)), some (.int day), some (.int known), some (.int idle), some (.int (nI p.1)), o6] [] (zc a ty p.2) := by
  refine z_wf (fun p : Nat × zC => n - p.1) ?_
  intro ⟨i, ρ⟩ ih hi hfr hcc hfin o6
  replace hi : i ≤ n := hi
  replace hfr : zfr σ ρ := hfr
  obtain ⟨c, hc20, hc⟩ := hcc
  replace hc : ρ.1 3 0 = nI c := hc
  replace hfin : zrun O day known idle (n - i) i ρ = Fin := hfin
  show zv k 7 [some (.ref (a 3)), some (.ref (a 1)), some (.int day), some (.int known), some (.int idle), some (.int (nI i)), o6] [] (zc a ty ρ)
  refine zv_iload K 9 dX2_goThrough_7 rfl rfl ?_
  refine zv_aload_n K 10 dX2_goThrough_9 rfl rfl ?_
  refine zv_getN (v := .int (ρ.1 1 1)) (C := RX0) (T := TX0) (N := 5) K 1 1 13 dX2_goThrough_10 rfl zy_X0 (zc_at (j := 1) (by decide)) rfl (by decide) zn_2 rfl ?_
  refine zv_topi (nI n) (by rw [hfr.1 1 (by decide)]; exact hcn) ?_
  refine zv_icmp_ge K 62 16 dX2_goThrough_13 (by decide) rfl (fun hb => ?_) (fun hb => ?_)
  · skip
    exact zv_vret K T dX2_goThrough_62 (⟨rfl, congrArg (zc a ty) (by have e : n - i = 0 := (by have := z_ge hb (by omega) (by omega); omega); rw [← hfin, e]; rfl)⟩)
  · skip
    have hlt : i < n := z_lt hb (by omega)
    refine zv_aload_n K 17 dX2_goThrough_16 rfl rfl ?_
    refine zv_getN (v := .ref (a 5)) (C := RX0) (T := TX0) (N := 5) K 1 4 20 dX2_goThrough_17 rfl zy_X0 (zc_at (j := 1) (by decide)) rfl (by decide) zn_5 rfl ?_
    refine zv_iload K 22 dX2_goThrough_20 rfl rfl ?_
    refine zv_iald (F := ρ.2 5) K 5 i 23 dX2_goThrough_22 rfl (zc_at (j := 5) (by decide)) rfl (by omega) (by decide) ?_
    refine zv_topi (nI (O i)) (by rw [hfr.2 5 (by decide)]; exact (hO i hlt).1) ?_
    refine zv_istore K [some (.ref (a 3)), some (.ref (a 1)), some (.int day), some (.int known), some (.int idle), some (.int (nI i)), some (.int (nI (O i)))] 25 dX2_goThrough_23 rfl rfl (zlt rfl) ?_
    refine zv_aload_n K 26 dX2_goThrough_25 rfl rfl ?_
    refine zv_iload K 28 dX2_goThrough_26 rfl rfl ?_
    refine zv_iconst K 1 29 dX2_goThrough_28 rfl (by decide) ?_
    refine zv_cV1 K (q0 := 1) (As := [.int (nI (O i)), .int 1]) (rest := []) 2 32 (kX0_get l D ty a ρ (nI (O i)) 1 (O i) 1 rfl rfl ((hO i hlt).2) (by decide)) dX2_goThrough_29 rfl zw_2_36 zw_1_186 zw_1_187 zw_1_2 zw_1_188 ⟨rfl, rfl⟩ zh_yX0_get ⟨by decide, by decide⟩ (zc_at (j := 1) (by decide)) rfl rfl rfl (zle rfl) rfl ?_
    refine zv_iload_n K 33 dX2_goThrough_32 rfl rfl ?_
    refine zv_icmp_le K 37 36 dX2_goThrough_33 (by decide) rfl (fun hd => ?_) (fun hd => ?_)
    · skip
      refine zv_aload_n K 38 dX2_goThrough_37 rfl rfl ?_
      refine zv_iload K 40 dX2_goThrough_38 rfl rfl ?_
      refine zv_iload_n K 41 dX2_goThrough_40 rfl rfl ?_
      refine zv_cV1 K (q0 := 1) (As := [.int (nI (O i)), .int known]) (rest := []) 2 44 (kX0_isKnown l D ty a ρ (nI (O i)) (O i) rfl ((hO i hlt).2) known) dX2_goThrough_41 rfl zw_2_37 zw_2_38 zw_2_39 zw_1_2 zw_2_40 ⟨rfl, rfl⟩ zh_yX0_isKnown ⟨by decide, by decide⟩ (zc_at (j := 1) (by decide)) rfl rfl rfl (zle rfl) rfl ?_
      refine zv_ifB_eq K 56 47 dX2_goThrough_44 (by decide) rfl (fun hk => ?_) (fun hk => ?_)
      · skip
        refine zv_iinc K (nI (i + 1)) [some (.ref (a 3)), some (.ref (a 1)), some (.int day), some (.int known), some (.int idle), some (.int (nI (i + 1))), some (.int (nI (O i)))] 59 dX2_goThrough_56 rfl rfl (z_inc i) rfl ?_
        refine zv_goto K 7 dX2_goThrough_59 (by decide) ?_
        exact ih (i + 1, ρ) (by show n - (i + 1) < n - i; omega) (by show i + 1 ≤ n; omega) hfr ⟨c, hc20, hc⟩ (by rw [← hfin, zrun_s hlt, if_neg (z_len hd), if_neg hk]) (some (.int (nI (O i))))
      · skip
        have h5r : zg ρ (O i) 0 = 5 → ∃ p q : Nat, p < 10 ∧ zg ρ (O i) 5 = nI p ∧ q < 10 ∧ zg ρ (O i) 10 = nI q := by rw [hfr.zg, hfr.zg, hfr.zg]; exact h5 i hlt
        refine zv_aload_n K 48 dX2_goThrough_47 rfl rfl ?_
        refine zv_aload_n K 49 dX2_goThrough_48 rfl rfl ?_
        refine zv_iload K 51 dX2_goThrough_49 rfl rfl ?_
        refine zv_iload K 53 dX2_goThrough_51 rfl rfl ?_
        refine zv_cV0 K (q0 := 3) (As := [.ref (a 1), .int (nI (O i)), .int idle]) (rest := []) 3 56 (kX2_apply l D ty a ρ c hc hc20 (nI (O i)) idle (O i) rfl ((hO i hlt).2) h5r) dX2_goThrough_53 rfl zw_2_42 zw_2_44 zw_p1_5 zw_1_3 zw_2_45 ⟨rfl, rfl⟩ zh_yX2_apply ⟨by decide, by decide⟩ (zc_at (j := 3) (by decide)) rfl rfl rfl (zle rfl) rfl ?_
        refine zv_iinc K (nI (i + 1)) [some (.ref (a 3)), some (.ref (a 1)), some (.int day), some (.int known), some (.int idle), some (.int (nI (i + 1))), some (.int (nI (O i)))] 59 dX2_goThrough_56 rfl rfl (z_inc i) rfl ?_
        refine zv_goto K 7 dX2_goThrough_59 (by decide) ?_
        exact ih (i + 1, zapl ρ c (O i) idle) (by show n - (i + 1) < n - i; omega) (by show i + 1 ≤ n; omega) (hfr.tr (zfr_apl ρ c _ _)) (zcok_apl hc hc20 _ _) (by rw [← hfin, zrun_s hlt, if_neg (z_len hd), if_pos hk, zcn_of hc hc20]) (some (.int (nI (O i))))
    · skip
      exact zv_vret K T dX2_goThrough_36 (⟨rfl, congrArg (zc a ty) (by rw [← hfin, zrun_s hlt, if_pos (z_nle hd)])⟩)

set_option maxHeartbeats 4000000 in
set_option maxRecDepth 100000 in
theorem kX2_goThrough (l : Launch) (D : va_G) (ty : zTy) (a : Nat → Nat) (σ : zC) (O : Nat → Nat) (n : Nat) (hn : n ≤ 90) (hcn : σ.1 1 1 = nI n) (hO : ∀ i, i < n → σ.2 5 i = nI (O i) ∧ O i < 90) (h5 : ∀ i, i < n → zg σ (O i) 0 = 5 → ∃ p q : Nat, p < 10 ∧ zg σ (O i) 5 = nI p ∧ q < 10 ∧ zg σ (O i) 10 = nI q) (day known idle : Int32) : zv_ct l D ty yX2_goThrough cX2_goThrough 7 none (zR 5 117) [.ref (a 3), .ref (a 1), .int day, .int known, .int idle] (zc a ty σ) (fun v_ w_ => v_ = none ∧ w_ = zc a ty (zrun O day known idle n 0 (zclear σ))) := by
  refine zv_open (by decide) rfl rfl [some (.ref (a 3)), some (.ref (a 1)), some (.int day), some (.int known), some (.int idle), none, none] (by simp [zv_one, Value.category]) (zle rfl) rfl ?_
  intro k K T
  refine zv_aload_n K 1 dX2_goThrough_0 rfl rfl ?_
  refine zv_cV0 K (q0 := 3) (As := []) (rest := []) 0 4 (kX2_clear l D ty a σ) dX2_goThrough_1 rfl zw_2_32 zw_2_34 zw_p1_4 zw_1_3 zw_2_35 ⟨rfl, rfl⟩ zh_yX2_clear ⟨by decide, by decide⟩ (zc_at (j := 3) (by decide)) rfl rfl rfl (zle rfl) rfl ?_
  refine zv_iconst K 0 5 dX2_goThrough_4 rfl (by decide) ?_
  refine zv_istore K [some (.ref (a 3)), some (.ref (a 1)), some (.int day), some (.int known), some (.int idle), some (.int 0), none] 7 dX2_goThrough_5 rfl rfl (zlt rfl) ?_
  exact kX2_goThrough_l l D ty a σ O n hn hcn hO h5 day known idle _ K T (0, zclear σ) (Nat.zero_le _) (zfr_clear σ) (zcok_clear σ) rfl none

set_option maxHeartbeats 4000000 in
set_option maxRecDepth 100000 in
theorem kX3_goThrough (l : Launch) (D : va_G) (ty : zTy) (a : Nat → Nat) (σ : zC) (O : Nat → Nat) (n : Nat) (hI : zI σ O n) (day known : Int32) : zv_ct l D ty yX3_goThrough cX3_goThrough 3 none (zR 6 143) [.ref (a 0), .int day, .int known] (zc a ty σ) (fun v_ w_ => v_ = none ∧ w_ = zc a ty (zQ σ O n day known)) := by
  refine zv_open (by decide) rfl rfl [some (.ref (a 0)), some (.int day), some (.int known)] (by simp [zv_one, Value.category]) (zle rfl) rfl ?_
  intro k K T
  refine zv_aload_n K 1 dX3_goThrough_0 rfl rfl ?_
  refine zv_get (v := .ref (a 3)) (C := RX3) (T := TX3) (N := 7) K 0 5 4 dX3_goThrough_1 rfl zy_X3 (zc_at (j := 0) (by decide)) rfl (by decide) zw_1_124 rfl ?_
  refine zv_aload_n K 5 dX3_goThrough_4 rfl rfl ?_
  refine zv_get (v := .ref (a 1)) (C := RX3) (T := TX3) (N := 7) K 0 0 8 dX3_goThrough_5 rfl zy_X3 (zc_at (j := 0) (by decide)) rfl (by decide) zw_1_119 rfl ?_
  refine zv_iload_n K 9 dX3_goThrough_8 rfl rfl ?_
  refine zv_iload_n K 10 dX3_goThrough_9 rfl rfl ?_
  refine zv_aload_n K 11 dX3_goThrough_10 rfl rfl ?_
  refine zv_get (v := .int (σ.1 0 4)) (C := RX3) (T := TX3) (N := 7) K 0 4 14 dX3_goThrough_11 rfl zy_X3 (zc_at (j := 0) (by decide)) rfl (by decide) zw_1_123 rfl ?_
  refine zv_cV0 K (q0 := 3) (As := [.ref (a 1), .int day, .int known, .int (σ.1 0 4)]) (rest := []) 4 17 (kX2_goThrough l D ty a σ O n hI.1 hI.2.1 hI.2.2.1 hI.2.2.2 day known (σ.1 0 4)) dX3_goThrough_14 rfl zw_2_28 zw_2_29 zw_2_30 zw_1_3 zw_2_31 ⟨rfl, rfl⟩ zh_yX2_goThrough ⟨by decide, by decide⟩ (zc_at (j := 3) (by decide)) rfl rfl rfl (zle rfl) rfl ?_
  exact zv_vret K T dX3_goThrough_17 (⟨rfl, rfl⟩)

set_option maxHeartbeats 4000000 in
set_option maxRecDepth 100000 in
theorem kX3_noteHolders_l (l : Launch) (D : va_G) (ty : zTy) (a : Nat → Nat) (σ : zC) (c : Nat) (hc : σ.1 3 0 = nI c) (hc20 : c ≤ 20) {k : zKx} (K : zv_ok k l D (zR 4 90) cX3_noteHolders 2 yX3_noteHolders.cls ty) (T : zv_rt k none (fun v_ w_ => v_ = none ∧ w_ = zc a ty (zFa σ 10 (zhN σ c 240 (σ.2 10))))) : ∀ j : Nat, j ≤ 240 → zv k 2 [some (.ref (a 0)), some (.int (nI j))] [] (zc a ty (zFa σ 10 (zhN σ c j (σ.2 10)))) := by
  refine z_wf (fun j : Nat => 240 - j) ?_
  intro j ih hj
  refine zv_iload_n K 3 dX3_noteHolders_2 rfl rfl ?_
  refine zv_aload_n K 4 dX3_noteHolders_3 rfl rfl ?_
  refine zv_get (v := .ref (a 10)) (C := RX3) (T := TX3) (N := 7) K 0 6 7 dX3_noteHolders_4 rfl zy_X3 (zc_at (j := 0) (by decide)) rfl (by decide) zw_1_125 rfl ?_
  refine zv_alen K 10 8 240 dX3_noteHolders_7 rfl (zc_at (j := 10) (by decide)) rfl ?_
  refine zv_icmp_ge K 38 11 dX3_noteHolders_8 (by decide) rfl (fun hb => ?_) (fun hb => ?_)
  · skip
    have e : j = 240 := by have := z_ge (c := 240) hb (by decide) (by omega); omega
    exact zv_vret K T dX3_noteHolders_38 (⟨rfl, by rw [e]⟩)
  · skip
    have hlt : j < 240 := z_lt (c := 240) hb (by omega)
    refine zv_aload_n K 12 dX3_noteHolders_11 rfl rfl ?_
    refine zv_get (v := .ref (a 10)) (C := RX3) (T := TX3) (N := 7) K 0 6 15 dX3_noteHolders_12 rfl zy_X3 (zc_at (j := 0) (by decide)) rfl (by decide) zw_1_125 rfl ?_
    refine zv_iload_n K 16 dX3_noteHolders_15 rfl rfl ?_
    refine zv_aload_n K 17 dX3_noteHolders_16 rfl rfl ?_
    refine zv_get (v := .ref (a 3)) (C := RX3) (T := TX3) (N := 7) K 0 5 20 dX3_noteHolders_17 rfl zy_X3 (zc_at (j := 0) (by decide)) rfl (by decide) zw_1_124 rfl ?_
    refine zv_iload_n K 21 dX3_noteHolders_20 rfl rfl ?_
    refine zv_bipush K 60 23 dX3_noteHolders_21 rfl (by decide) ?_
    refine zv_idiv K 24 dX3_noteHolders_23 rfl (by decide) ?_
    refine zv_topi (nI (j / 60)) (zdiv60 hlt) ?_
    refine zv_iload_n K 25 dX3_noteHolders_24 rfl rfl ?_
    refine zv_bipush K 60 27 dX3_noteHolders_25 rfl (by decide) ?_
    refine zv_irem K 28 dX3_noteHolders_27 rfl (by decide) ?_
    refine zv_topi (nI (j % 60)) (zrem60 hlt) ?_
    refine zv_cV1 K (q0 := 3) (As := [.int (nI (j / 60)), .int (nI (j % 60))]) (rest := [.int (nI j), .ref (a 10)]) 2 31 (kX2_holderOver l D ty a (zFa σ 10 (zhN σ c j (σ.2 10))) c hc hc20 (nI (j / 60)) (nI (j % 60))) dX3_noteHolders_28 rfl zw_2_104 zw_2_105 zw_2_106 zw_1_3 zw_2_107 ⟨rfl, rfl⟩ zh_yX2_holderOver ⟨by decide, by decide⟩ (zc_at (j := 3) (by decide)) rfl rfl rfl (zle rfl) rfl ?_
    refine zv_topi (zhj σ c j) (by exact zhold_fr (fun _ => rfl) c _ _) ?_
    refine zv_iast K 10 j 32 (zc a ty (zF (zFa σ 10 (zhN σ c j (σ.2 10))) 10 j (zhj σ c j))) dX3_noteHolders_31 rfl (zc_at (j := 10) (by decide)) rfl hlt (by decide) (zc_F 10 j (by decide) rfl) ?_
    refine zv_iinc K (nI (j + 1)) [some (.ref (a 0)), some (.int (nI (j + 1)))] 35 dX3_noteHolders_32 rfl rfl (z_inc j) rfl ?_
    refine zv_goto K 2 dX3_noteHolders_35 (by decide) ?_
    refine zv_ws (congrArg (zc a ty) ((zF_Fa σ 10 j _ _).trans (congrArg (zFa σ 10) (zhN_s σ c j (σ.2 10))))) ?_
    exact ih (j + 1) (by omega) (by omega)

set_option maxHeartbeats 4000000 in
set_option maxRecDepth 100000 in
theorem kX3_noteHolders (l : Launch) (D : va_G) (ty : zTy) (a : Nat → Nat) (σ : zC) (c : Nat) (hc : σ.1 3 0 = nI c) (hc20 : c ≤ 20) : zv_ct l D ty yX3_noteHolders cX3_noteHolders 2 none (zR 4 90) [.ref (a 0)] (zc a ty σ) (fun v_ w_ => v_ = none ∧ w_ = zc a ty (zFa σ 10 (zhN σ c 240 (σ.2 10)))) := by
  refine zv_open (by decide) rfl rfl [some (.ref (a 0)), none] (by simp [zv_one, Value.category]) (zle rfl) rfl ?_
  intro k K T
  refine zv_iconst K 0 1 dX3_noteHolders_0 rfl (by decide) ?_
  refine zv_istore_n K [some (.ref (a 0)), some (.int 0)] 2 dX3_noteHolders_1 rfl rfl (zlt rfl) ?_
  refine zv_ws (congrArg (zc a ty) (show σ = zFa σ 10 (zhN σ c 0 (σ.2 10)) by rw [zhN_0]; exact (zFa_self σ 10).symm)) ?_
  exact kX3_noteHolders_l l D ty a σ c hc hc20 K T 0 (by decide)
end
section
theorem z_cl0 {x : Int32} (h : 0 ≤ x) : x = nI x.toNatClampNeg := by
  obtain ⟨j, hj, rfl⟩ := nI_of (x := x) (fun q => by rw [Int32.lt_iff_toInt_lt] at q; rw [Int32.le_iff_toInt_le] at h; omega)
  rw [nI_clamp hj]
theorem z_has {σ : zC} {O : Nat → Nat} {n : Nat} (hI : zI σ O n) {x : Int32} (h : 0 ≤ x ∧ x < σ.1 1 1) : x = nI x.toNatClampNeg ∧ x.toNatClampNeg < 90 := by
  have e := z_cl0 h.1
  obtain ⟨j, hj, e2⟩ := z_nat h.1 (by rw [← hI.2.1]; exact h.2) (by have := hI.1; omega)
  refine ⟨e, ?_⟩
  rw [e2, nI_clamp (by have := hI.1; omega)]
  have := hI.1
  omega
theorem z_upto {x : Int32} {m : Nat} (h : 0 ≤ x ∧ x ≤ nI m) (hm : m < 2 ^ 31) : x = nI x.toNatClampNeg ∧ x.toNatClampNeg < m + 1 := by
  have e := z_cl0 h.1
  obtain ⟨j, hj, e2⟩ := z_nat2 h.1 h.2 hm
  refine ⟨e, ?_⟩
  rw [e2, nI_clamp (by omega)]
  omega
theorem z_nf {σ : zC} {O : Nat → Nat} {n : Nat} (hI : zI σ O n) (h : ¬ 90 ≤ σ.1 1 1) : n < 90 := z_lt (c := 90) (by rw [← hI.2.1]; exact h) (by have := hI.1; omega)
def fX3_day (σ : zC) (x : Int32) : Int32 × zC :=
  if (0 ≤ x ∧ x ≤ 100) then
    if ((σ.1 1 0) + x) ≤ 999 then
      ((σ.1 1 0) + x, (zO σ 1 0 ((σ.1 1 0) + x)))
    else
      ((-1), σ)
  else
    ((-1), σ)
set_option maxHeartbeats 4000000 in
set_option maxRecDepth 100000 in
theorem kX3_day (l : Launch) (D : va_G) (ty : zTy) (a : Nat → Nat) (σ : zC) (x : Int32) : zv_ct l D ty yX3_day cX3_day 2 (some .int) (zR 1 22) [.ref (a 0), .int x] (zc a ty σ) (fun v_ w_ => v_ = some (.int (fX3_day σ x).1) ∧ w_ = zc a ty (fX3_day σ x).2) := by
  refine zv_open (by decide) rfl rfl [some (.ref (a 0)), some (.int x)] (by simp [zv_one, Value.category]) (zle rfl) rfl ?_
  intro k K T
  refine zv_iload_n K 1 dX3_day_0 rfl rfl ?_
  refine zv_iconst K 0 2 dX3_day_1 rfl (by decide) ?_
  refine zv_bipush K 100 4 dX3_day_2 rfl (by decide) ?_
  refine zv_cS1 K (As := [.int x, .int 0, .int 100]) (rest := []) 3 7 (kX3_isWithin l D ty (zc a ty σ) x 0 100) dX3_day_4 rfl zw_1_145 zw_1_146 zw_1_1 zw_1_147 ⟨rfl, rfl⟩ zh_yX3_isWithin ⟨by decide, by decide⟩ rfl rfl (zle rfl) rfl ?_
  refine zv_ifB_eq K 25 10 dX3_day_7 (by decide) rfl (fun h1 => ?_) (fun h1 => ?_)
  · skip
    refine zv_iconst K (-1) 26 dX3_day_25 rfl (by decide) ?_
    exact zv_iret K T dX3_day_26 (⟨by simp only [fX3_day, if_neg h1], by simp only [fX3_day, if_neg h1]⟩)
  · skip
    refine zv_aload_n K 11 dX3_day_10 rfl rfl ?_
    refine zv_get (v := .ref (a 1)) (C := RX3) (T := TX3) (N := 7) K 0 0 14 dX3_day_11 rfl zy_X3 (zc_at (j := 0) (by decide)) rfl (by decide) zw_1_119 rfl ?_
    refine zv_getN (v := .int (σ.1 1 0)) (C := RX0) (T := TX0) (N := 5) K 1 0 17 dX3_day_14 rfl zy_X0 (zc_at (j := 1) (by decide)) rfl (by decide) zn_1 rfl ?_
    refine zv_iload_n K 18 dX3_day_17 rfl rfl ?_
    refine zv_iadd K 19 dX3_day_18 rfl ?_
    refine zv_sipush K 999 22 dX3_day_19 rfl (by decide) ?_
    refine zv_icmp_le K 27 25 dX3_day_22 (by decide) rfl (fun h2 => ?_) (fun h2 => ?_)
    · skip
      refine zv_aload_n K 28 dX3_day_27 rfl rfl ?_
      refine zv_get (v := .ref (a 1)) (C := RX3) (T := TX3) (N := 7) K 0 0 31 dX3_day_28 rfl zy_X3 (zc_at (j := 0) (by decide)) rfl (by decide) zw_1_119 rfl ?_
      refine zv_dup K 32 dX3_day_31 rfl rfl ?_
      refine zv_getN (v := .int (σ.1 1 0)) (C := RX0) (T := TX0) (N := 5) K 1 0 35 dX3_day_32 rfl zy_X0 (zc_at (j := 1) (by decide)) rfl (by decide) zn_1 rfl ?_
      refine zv_iload_n K 36 dX3_day_35 rfl rfl ?_
      refine zv_iadd K 37 dX3_day_36 rfl ?_
      refine zv_putN (C := RX0) (T := TX0) (N := 5) K 1 0 40 (zc a ty (zO σ 1 0 ((σ.1 1 0) + x))) dX3_day_37 rfl zy_X0 tyX0_ok nmX0 (zc_at (j := 1) (by decide)) rfl (by decide) zn_1 rfl rfl rfl rfl (zlt rfl) (zc_O 1 0 (by decide) rfl) ?_
      refine zv_aload_n K 41 dX3_day_40 rfl rfl ?_
      refine zv_get (v := .ref (a 1)) (C := RX3) (T := TX3) (N := 7) K 0 0 44 dX3_day_41 rfl zy_X3 (zc_at (j := 0) (by decide)) rfl (by decide) zw_1_119 rfl ?_
      refine zv_getN (v := .int ((σ.1 1 0) + x)) (C := RX0) (T := TX0) (N := 5) K 1 0 47 dX3_day_44 rfl zy_X0 (zc_at (j := 1) (by decide)) rfl (by decide) zn_1 rfl ?_
      exact zv_iret K T dX3_day_47 (⟨by simp only [fX3_day, if_pos h1, if_pos h2], by simp only [fX3_day, if_pos h1, if_pos h2]⟩)
    · skip
      refine zv_iconst K (-1) 26 dX3_day_25 rfl (by decide) ?_
      exact zv_iret K T dX3_day_26 (⟨by simp only [fX3_day, if_pos h1, if_neg h2], by simp only [fX3_day, if_pos h1, if_neg h2]⟩)

def fX3_rule (σ : zC) (x : Int32) (y : Int32) : Int32 × zC :=
  if x = 0 then
    if (1 ≤ y ∧ y ≤ 10) then
      (σ.1 0 3, (zO σ 0 3 y))
    else
      if x = 1 then
        if (1 ≤ y ∧ y ≤ 30) then
          (σ.1 0 4, (zO σ 0 4 y))
        else
          ((-1), σ)
      else
        ((-1), σ)
  else
    if x = 1 then
      if (1 ≤ y ∧ y ≤ 30) then
        (σ.1 0 4, (zO σ 0 4 y))
      else
        ((-1), σ)
    else
      ((-1), σ)
set_option maxHeartbeats 4000000 in
set_option maxRecDepth 100000 in
theorem kX3_rule (l : Launch) (D : va_G) (ty : zTy) (a : Nat → Nat) (σ : zC) (x y : Int32) : zv_ct l D ty yX3_rule cX3_rule 4 (some .int) (zR 1 22) [.ref (a 0), .int x, .int y] (zc a ty σ) (fun v_ w_ => v_ = some (.int (fX3_rule σ x y).1) ∧ w_ = zc a ty (fX3_rule σ x y).2) := by
  refine zv_open (by decide) rfl rfl [some (.ref (a 0)), some (.int x), some (.int y), none] (by simp [zv_one, Value.category]) (zle rfl) rfl ?_
  intro k K T
  refine zv_iload_n K 1 dX3_rule_0 rfl rfl ?_
  refine zv_if_ne K 26 4 dX3_rule_1 (by decide) rfl (fun h1 => ?_) (fun h1 => ?_)
  · skip
    refine zv_iload_n K 27 dX3_rule_26 rfl rfl ?_
    refine zv_iconst K 1 28 dX3_rule_27 rfl (by decide) ?_
    refine zv_icmp_ne K 53 31 dX3_rule_28 (by decide) rfl (fun h2 => ?_) (fun h2 => ?_)
    · skip
      refine zv_iconst K (-1) 54 dX3_rule_53 rfl (by decide) ?_
      exact zv_iret K T dX3_rule_54 (⟨by simp only [fX3_rule, if_neg h1, if_neg h2], by simp only [fX3_rule, if_neg h1, if_neg h2]⟩)
    · skip
      refine zv_iload_n K 32 dX3_rule_31 rfl rfl ?_
      refine zv_iconst K 1 33 dX3_rule_32 rfl (by decide) ?_
      refine zv_bipush K 30 35 dX3_rule_33 rfl (by decide) ?_
      refine zv_cS1 K (As := [.int y, .int 1, .int 30]) (rest := []) 3 38 (kX3_isWithin l D ty (zc a ty σ) y 1 30) dX3_rule_35 rfl zw_1_145 zw_1_146 zw_1_1 zw_1_147 ⟨rfl, rfl⟩ zh_yX3_isWithin ⟨by decide, by decide⟩ rfl rfl (zle rfl) rfl ?_
      refine zv_ifB_eq K 53 41 dX3_rule_38 (by decide) rfl (fun h3 => ?_) (fun h3 => ?_)
      · skip
        refine zv_iconst K (-1) 54 dX3_rule_53 rfl (by decide) ?_
        exact zv_iret K T dX3_rule_54 (⟨by simp only [fX3_rule, if_neg h1, if_pos h2, if_neg h3], by simp only [fX3_rule, if_neg h1, if_pos h2, if_neg h3]⟩)
      · skip
        refine zv_aload_n K 42 dX3_rule_41 rfl rfl ?_
        refine zv_get (v := .int (σ.1 0 4)) (C := RX3) (T := TX3) (N := 7) K 0 4 45 dX3_rule_42 rfl zy_X3 (zc_at (j := 0) (by decide)) rfl (by decide) zw_1_123 rfl ?_
        refine zv_istore_n K [some (.ref (a 0)), some (.int x), some (.int y), some (.int (σ.1 0 4))] 46 dX3_rule_45 rfl rfl (zlt rfl) ?_
        refine zv_aload_n K 47 dX3_rule_46 rfl rfl ?_
        refine zv_iload_n K 48 dX3_rule_47 rfl rfl ?_
        refine zv_put (C := RX3) (T := TX3) (N := 7) K 0 4 51 (zc a ty (zO σ 0 4 y)) dX3_rule_48 rfl zy_X3 tyX3_ok nmX3 (zc_at (j := 0) (by decide)) rfl (by decide) zw_1_123 rfl rfl rfl rfl (zlt rfl) (zc_O 0 4 (by decide) rfl) ?_
        refine zv_iload_n K 52 dX3_rule_51 rfl rfl ?_
        exact zv_iret K T dX3_rule_52 (⟨by simp only [fX3_rule, if_neg h1, if_pos h2, if_pos h3], by simp only [fX3_rule, if_neg h1, if_pos h2, if_pos h3]⟩)
  · skip
    refine zv_iload_n K 5 dX3_rule_4 rfl rfl ?_
    refine zv_iconst K 1 6 dX3_rule_5 rfl (by decide) ?_
    refine zv_bipush K 10 8 dX3_rule_6 rfl (by decide) ?_
    refine zv_cS1 K (As := [.int y, .int 1, .int 10]) (rest := []) 3 11 (kX3_isWithin l D ty (zc a ty σ) y 1 10) dX3_rule_8 rfl zw_1_145 zw_1_146 zw_1_1 zw_1_147 ⟨rfl, rfl⟩ zh_yX3_isWithin ⟨by decide, by decide⟩ rfl rfl (zle rfl) rfl ?_
    refine zv_ifB_eq K 26 14 dX3_rule_11 (by decide) rfl (fun h4 => ?_) (fun h4 => ?_)
    · skip
      refine zv_iload_n K 27 dX3_rule_26 rfl rfl ?_
      refine zv_iconst K 1 28 dX3_rule_27 rfl (by decide) ?_
      refine zv_icmp_ne K 53 31 dX3_rule_28 (by decide) rfl (fun h5 => ?_) (fun h5 => ?_)
      · skip
        refine zv_iconst K (-1) 54 dX3_rule_53 rfl (by decide) ?_
        exact zv_iret K T dX3_rule_54 (⟨by simp only [fX3_rule, if_pos h1, if_neg h4, if_neg h5], by simp only [fX3_rule, if_pos h1, if_neg h4, if_neg h5]⟩)
      · skip
        refine zv_iload_n K 32 dX3_rule_31 rfl rfl ?_
        refine zv_iconst K 1 33 dX3_rule_32 rfl (by decide) ?_
        refine zv_bipush K 30 35 dX3_rule_33 rfl (by decide) ?_
        refine zv_cS1 K (As := [.int y, .int 1, .int 30]) (rest := []) 3 38 (kX3_isWithin l D ty (zc a ty σ) y 1 30) dX3_rule_35 rfl zw_1_145 zw_1_146 zw_1_1 zw_1_147 ⟨rfl, rfl⟩ zh_yX3_isWithin ⟨by decide, by decide⟩ rfl rfl (zle rfl) rfl ?_
        refine zv_ifB_eq K 53 41 dX3_rule_38 (by decide) rfl (fun h6 => ?_) (fun h6 => ?_)
        · skip
          refine zv_iconst K (-1) 54 dX3_rule_53 rfl (by decide) ?_
          exact zv_iret K T dX3_rule_54 (⟨by simp only [fX3_rule, if_pos h1, if_neg h4, if_pos h5, if_neg h6], by simp only [fX3_rule, if_pos h1, if_neg h4, if_pos h5, if_neg h6]⟩)
        · skip
          refine zv_aload_n K 42 dX3_rule_41 rfl rfl ?_
          refine zv_get (v := .int (σ.1 0 4)) (C := RX3) (T := TX3) (N := 7) K 0 4 45 dX3_rule_42 rfl zy_X3 (zc_at (j := 0) (by decide)) rfl (by decide) zw_1_123 rfl ?_
          refine zv_istore_n K [some (.ref (a 0)), some (.int x), some (.int y), some (.int (σ.1 0 4))] 46 dX3_rule_45 rfl rfl (zlt rfl) ?_
          refine zv_aload_n K 47 dX3_rule_46 rfl rfl ?_
          refine zv_iload_n K 48 dX3_rule_47 rfl rfl ?_
          refine zv_put (C := RX3) (T := TX3) (N := 7) K 0 4 51 (zc a ty (zO σ 0 4 y)) dX3_rule_48 rfl zy_X3 tyX3_ok nmX3 (zc_at (j := 0) (by decide)) rfl (by decide) zw_1_123 rfl rfl rfl rfl (zlt rfl) (zc_O 0 4 (by decide) rfl) ?_
          refine zv_iload_n K 52 dX3_rule_51 rfl rfl ?_
          exact zv_iret K T dX3_rule_52 (⟨by simp only [fX3_rule, if_pos h1, if_neg h4, if_pos h5, if_pos h6], by simp only [fX3_rule, if_pos h1, if_neg h4, if_pos h5, if_pos h6]⟩)
    · skip
      refine zv_aload_n K 15 dX3_rule_14 rfl rfl ?_
      refine zv_get (v := .int (σ.1 0 3)) (C := RX3) (T := TX3) (N := 7) K 0 3 18 dX3_rule_15 rfl zy_X3 (zc_at (j := 0) (by decide)) rfl (by decide) zw_1_122 rfl ?_
      refine zv_istore_n K [some (.ref (a 0)), some (.int x), some (.int y), some (.int (σ.1 0 3))] 19 dX3_rule_18 rfl rfl (zlt rfl) ?_
      refine zv_aload_n K 20 dX3_rule_19 rfl rfl ?_
      refine zv_iload_n K 21 dX3_rule_20 rfl rfl ?_
      refine zv_put (C := RX3) (T := TX3) (N := 7) K 0 3 24 (zc a ty (zO σ 0 3 y)) dX3_rule_21 rfl zy_X3 tyX3_ok nmX3 (zc_at (j := 0) (by decide)) rfl (by decide) zw_1_122 rfl rfl rfl rfl (zlt rfl) (zc_O 0 3 (by decide) rfl) ?_
      refine zv_iload_n K 25 dX3_rule_24 rfl rfl ?_
      exact zv_iret K T dX3_rule_25 (⟨by simp only [fX3_rule, if_pos h1, if_pos h4], by simp only [fX3_rule, if_pos h1, if_pos h4]⟩)

set_option maxHeartbeats 4000000 in
set_option maxRecDepth 100000 in
theorem kX3_isPast (l : Launch) (D : va_G) (ty : zTy) (a : Nat → Nat) (σ : zC) (x : Int32) : zv_ct l D ty yX3_isPast cX3_isPast 2 (some .boolean) (zR 1 22) [.ref (a 0), .int x] (zc a ty σ) (fun v_ w_ => v_ = some (.int (zB (0 ≤ x ∧ x ≤ σ.1 1 0))) ∧ w_ = zc a ty σ) := by
  refine zv_open (by decide) rfl rfl [some (.ref (a 0)), some (.int x)] (by simp [zv_one, Value.category]) (zle rfl) rfl ?_
  intro k K T
  refine zv_iload_n K 1 dX3_isPast_0 rfl rfl ?_
  refine zv_iconst K 0 2 dX3_isPast_1 rfl (by decide) ?_
  refine zv_aload_n K 3 dX3_isPast_2 rfl rfl ?_
  refine zv_get (v := .ref (a 1)) (C := RX3) (T := TX3) (N := 7) K 0 0 6 dX3_isPast_3 rfl zy_X3 (zc_at (j := 0) (by decide)) rfl (by decide) zw_1_119 rfl ?_
  refine zv_getN (v := .int (σ.1 1 0)) (C := RX0) (T := TX0) (N := 5) K 1 0 9 dX3_isPast_6 rfl zy_X0 (zc_at (j := 1) (by decide)) rfl (by decide) zn_1 rfl ?_
  refine zv_cS1 K (As := [.int x, .int 0, .int (σ.1 1 0)]) (rest := []) 3 12 (kX3_isWithin l D ty (zc a ty σ) x 0 (σ.1 1 0)) dX3_isPast_9 rfl zw_1_145 zw_1_146 zw_1_1 zw_1_147 ⟨rfl, rfl⟩ zh_yX3_isWithin ⟨by decide, by decide⟩ rfl rfl (zle rfl) rfl ?_
  exact zv_zret K T dX3_isPast_12 zB_nar (⟨rfl, rfl⟩)

def fX3_refusalOfClaim (σ : zC) (g : Int32) (ab : Int32) (x : Int32) : Int32 :=
  if g = 0 then
    (-1)
  else
    if (0 ≤ ab ∧ ab ≤ σ.1 1 0) then
      if (0 ≤ x ∧ x < σ.1 1 1) then
        if (zg σ x.toNatClampNeg 0 = 0) then
          if (90 ≤ σ.1 1 1) then
            (-2)
          else
            0
        else
          (-3)
      else
        (-1)
    else
      (-1)
set_option maxHeartbeats 4000000 in
set_option maxRecDepth 100000 in
theorem kX3_refusalOfClaim (l : Launch) (D : va_G) (ty : zTy) (a : Nat → Nat) (σ : zC) (O : Nat → Nat) (n : Nat) (hI : zI σ O n) (g ab x : Int32) : zv_ct l D ty yX3_refusalOfClaim cX3_refusalOfClaim 4 (some .int) (zR 2 43) [.ref (a 0), .int g, .int ab, .int x] (zc a ty σ) (fun v_ w_ => v_ = some (.int (fX3_refusalOfClaim σ g ab x)) ∧ w_ = zc a ty σ) := by
  refine zv_open (by decide) rfl rfl [some (.ref (a 0)), some (.int g), some (.int ab), some (.int x)] (by simp [zv_one, Value.category]) (zle rfl) rfl ?_
  intro k K T
  refine zv_iload_n K 1 dX3_refusalOfClaim_0 rfl rfl ?_
  refine zv_if_eq K 23 4 dX3_refusalOfClaim_1 (by decide) rfl (fun h1 => ?_) (fun h1 => ?_)
  · skip
    refine zv_iconst K (-1) 24 dX3_refusalOfClaim_23 rfl (by decide) ?_
    exact zv_iret K T dX3_refusalOfClaim_24 (⟨by simp only [fX3_refusalOfClaim, if_pos h1], rfl⟩)
  · skip
    refine zv_aload_n K 5 dX3_refusalOfClaim_4 rfl rfl ?_
    refine zv_iload_n K 6 dX3_refusalOfClaim_5 rfl rfl ?_
    refine zv_cV1 K (q0 := 0) (As := [.int ab]) (rest := []) 1 9 (kX3_isPast l D ty a σ ab) dX3_refusalOfClaim_6 rfl zw_1_156 zw_1_158 zw_p1_0 zw_1_1 zw_1_159 ⟨rfl, rfl⟩ zh_yX3_isPast ⟨by decide, by decide⟩ (zc_at (j := 0) (by decide)) rfl rfl rfl (zle rfl) rfl ?_
    refine zv_ifB_eq K 23 12 dX3_refusalOfClaim_9 (by decide) rfl (fun h2 => ?_) (fun h2 => ?_)
    · skip
      refine zv_iconst K (-1) 24 dX3_refusalOfClaim_23 rfl (by decide) ?_
      exact zv_iret K T dX3_refusalOfClaim_24 (⟨by simp only [fX3_refusalOfClaim, if_neg h1, if_neg h2], rfl⟩)
    · skip
      refine zv_aload_n K 13 dX3_refusalOfClaim_12 rfl rfl ?_
      refine zv_get (v := .ref (a 1)) (C := RX3) (T := TX3) (N := 7) K 0 0 16 dX3_refusalOfClaim_13 rfl zy_X3 (zc_at (j := 0) (by decide)) rfl (by decide) zw_1_119 rfl ?_
      refine zv_iload_n K 17 dX3_refusalOfClaim_16 rfl rfl ?_
      refine zv_cV1 K (q0 := 1) (As := [.int x]) (rest := []) 1 20 (kX0_has l D ty a σ x) dX3_refusalOfClaim_17 rfl zw_1_208 zw_1_209 zw_1_210 zw_1_2 zw_1_211 ⟨rfl, rfl⟩ zh_yX0_has ⟨by decide, by decide⟩ (zc_at (j := 1) (by decide)) rfl rfl rfl (zle rfl) rfl ?_
      refine zv_ifB_ne K 25 23 dX3_refusalOfClaim_20 (by decide) rfl (fun hh => ?_) (fun hh => ?_)
      · skip
        obtain ⟨hx, hf⟩ := z_has hI hh
        refine zv_aload_n K 26 dX3_refusalOfClaim_25 rfl rfl ?_
        refine zv_get (v := .ref (a 1)) (C := RX3) (T := TX3) (N := 7) K 0 0 29 dX3_refusalOfClaim_26 rfl zy_X3 (zc_at (j := 0) (by decide)) rfl (by decide) zw_1_119 rfl ?_
        refine zv_iload_n K 30 dX3_refusalOfClaim_29 rfl rfl ?_
        refine zv_cV1 K (q0 := 1) (As := [.int x]) (rest := []) 1 33 (kX0_isStake l D ty a σ x x.toNatClampNeg hx hf) dX3_refusalOfClaim_30 rfl zw_1_212 zw_1_213 zw_1_214 zw_1_2 zw_1_215 ⟨rfl, rfl⟩ zh_yX0_isStake ⟨by decide, by decide⟩ (zc_at (j := 1) (by decide)) rfl rfl rfl (zle rfl) rfl ?_
        refine zv_ifB_ne K 39 36 dX3_refusalOfClaim_33 (by decide) rfl (fun h4 => ?_) (fun h4 => ?_)
        · skip
          refine zv_aload_n K 40 dX3_refusalOfClaim_39 rfl rfl ?_
          refine zv_get (v := .ref (a 1)) (C := RX3) (T := TX3) (N := 7) K 0 0 43 dX3_refusalOfClaim_40 rfl zy_X3 (zc_at (j := 0) (by decide)) rfl (by decide) zw_1_119 rfl ?_
          refine zv_cV1 K (q0 := 1) (As := []) (rest := []) 0 46 (kX0_isFull l D ty a σ) dX3_refusalOfClaim_43 rfl zw_1_169 zw_1_170 zw_1_171 zw_1_2 zw_1_172 ⟨rfl, rfl⟩ zh_yX0_isFull ⟨by decide, by decide⟩ (zc_at (j := 1) (by decide)) rfl rfl rfl (zle rfl) rfl ?_
          refine zv_ifB_eq K 54 49 dX3_refusalOfClaim_46 (by decide) rfl (fun h5 => ?_) (fun h5 => ?_)
          · skip
            refine zv_iconst K 0 55 dX3_refusalOfClaim_54 rfl (by decide) ?_
            exact zv_iret K T dX3_refusalOfClaim_55 (⟨by simp only [fX3_refusalOfClaim, if_neg h1, if_pos h2, if_pos hh, if_pos h4, if_neg h5], rfl⟩)
          · skip
            refine zv_bipush K (-2) 51 dX3_refusalOfClaim_49 rfl (by decide) ?_
            refine zv_goto K 55 dX3_refusalOfClaim_51 (by decide) ?_
            exact zv_iret K T dX3_refusalOfClaim_55 (⟨by simp only [fX3_refusalOfClaim, if_neg h1, if_pos h2, if_pos hh, if_pos h4, if_pos h5], rfl⟩)
        · skip
          refine zv_bipush K (-3) 38 dX3_refusalOfClaim_36 rfl (by decide) ?_
          exact zv_iret K T dX3_refusalOfClaim_38 (⟨by simp only [fX3_refusalOfClaim, if_neg h1, if_pos h2, if_pos hh, if_neg h4], rfl⟩)
      · skip
        refine zv_iconst K (-1) 24 dX3_refusalOfClaim_23 rfl (by decide) ?_
        exact zv_iret K T dX3_refusalOfClaim_24 (⟨by simp only [fX3_refusalOfClaim, if_neg h1, if_pos h2, if_neg hh], rfl⟩)

theorem z_ref {σ : zC} {g ab x : Int32} (h : 0 ≤ fX3_refusalOfClaim σ g ab x) : (¬ g = 0) ∧ (0 ≤ ab ∧ ab ≤ σ.1 1 0) ∧ (0 ≤ x ∧ x < σ.1 1 1) ∧ zg σ x.toNatClampNeg 0 = 0 ∧ ¬ 90 ≤ σ.1 1 1 := by
  unfold fX3_refusalOfClaim at h
  split at h
  · exact absurd h (by decide)
  · split at h
    · split at h
      · split at h
        · split at h
          · exact absurd h (by decide)
          · exact ⟨by assumption, by assumption, by assumption, by assumption, by assumption⟩
        · exact absurd h (by decide)
      · exact absurd h (by decide)
    · exact absurd h (by decide)
def fX3_work (σ : zC) (n : Nat) (ab : Int32) (x : Int32) : Int32 × zC :=
  if 0 ≤ (fX3_refusalOfClaim σ 1 ab x) then
    (nI n, (zp (zap σ n 1 ab (zg σ x.toNatClampNeg 4)) n 9 x))
  else
    (fX3_refusalOfClaim σ 1 ab x, σ)
set_option maxHeartbeats 4000000 in
set_option maxRecDepth 100000 in
theorem kX3_work (l : Launch) (D : va_G) (ty : zTy) (a : Nat → Nat) (σ : zC) (O : Nat → Nat) (n : Nat) (hI : zI σ O n) (ab x : Int32) : zv_ct l D ty yX3_work cX3_work 4 (some .int) (zR 4 94) [.ref (a 0), .int ab, .int x] (zc a ty σ) (fun v_ w_ => v_ = some (.int (fX3_work σ n ab x).1) ∧ w_ = zc a ty (fX3_work σ n ab x).2) := by
  refine zv_open (by decide) rfl rfl [some (.ref (a 0)), some (.int ab), some (.int x), none] (by simp [zv_one, Value.category]) (zle rfl) rfl ?_
  intro k K T
  refine zv_aload_n K 1 dX3_work_0 rfl rfl ?_
  refine zv_iconst K 1 2 dX3_work_1 rfl (by decide) ?_
  refine zv_iload_n K 3 dX3_work_2 rfl rfl ?_
  refine zv_iload_n K 4 dX3_work_3 rfl rfl ?_
  refine zv_cV1 K (q0 := 0) (As := [.int 1, .int ab, .int x]) (rest := []) 3 7 (kX3_refusalOfClaim l D ty a σ O n hI 1 ab x) dX3_work_4 rfl zw_1_204 zw_1_206 zw_p1_2 zw_1_1 zw_1_207 ⟨rfl, rfl⟩ zh_yX3_refusalOfClaim ⟨by decide, by decide⟩ (zc_at (j := 0) (by decide)) rfl rfl rfl (zle rfl) rfl ?_
  refine zv_istore_n K [some (.ref (a 0)), some (.int ab), some (.int x), some (.int (fX3_refusalOfClaim σ 1 ab x))] 8 dX3_work_7 rfl rfl (zlt rfl) ?_
  refine zv_iload_n K 9 dX3_work_8 rfl rfl ?_
  refine zv_if_ge K 16 12 dX3_work_9 (by decide) rfl (fun hr => ?_) (fun hr => ?_)
  · skip
    obtain ⟨hg_, hab_, hx_, hk_, hf_⟩ := z_ref hr
    obtain ⟨hx, hf⟩ := z_has hI hx_
    have hn := z_nf hI hf_
    have hc := hI.2.1
    have hG := hI.val
    refine zv_aload_n K 17 dX3_work_16 rfl rfl ?_
    refine zv_get (v := .ref (a 1)) (C := RX3) (T := TX3) (N := 7) K 0 0 20 dX3_work_17 rfl zy_X3 (zc_at (j := 0) (by decide)) rfl (by decide) zw_1_119 rfl ?_
    refine zv_iconst K 1 21 dX3_work_20 rfl (by decide) ?_
    refine zv_iload_n K 22 dX3_work_21 rfl rfl ?_
    refine zv_iload_n K 23 dX3_work_22 rfl rfl ?_
    refine zv_cV1 K (q0 := 1) (As := [.int 1, .int ab, .int x]) (rest := []) 3 26 (kX0_appendOf l D ty a σ 1 ab x x.toNatClampNeg n hx hf hn hc hG) dX3_work_23 rfl zw_1_216 zw_1_217 zw_1_218 zw_1_2 zw_1_219 ⟨rfl, rfl⟩ zh_yX0_appendOf ⟨by decide, by decide⟩ (zc_at (j := 1) (by decide)) rfl rfl rfl (zle rfl) rfl ?_
    exact zv_iret K T dX3_work_26 (⟨by simp only [fX3_work, if_pos hr], by simp only [fX3_work, if_pos hr]⟩)
  · skip
    refine zv_iload_n K 13 dX3_work_12 rfl rfl ?_
    refine zv_goto K 26 dX3_work_13 (by decide) ?_
    exact zv_iret K T dX3_work_26 (⟨by simp only [fX3_work, if_neg hr], by simp only [fX3_work, if_neg hr]⟩)

def fX3_give (σ : zC) (n : Nat) (ab : Int32) (x : Int32) : Int32 × zC :=
  if 0 ≤ (fX3_refusalOfClaim σ 1 ab x) then
    (nI n, (zp (zap σ n 3 ab (zg σ x.toNatClampNeg 4)) n 9 x))
  else
    (fX3_refusalOfClaim σ 1 ab x, σ)
set_option maxHeartbeats 4000000 in
set_option maxRecDepth 100000 in
theorem kX3_give (l : Launch) (D : va_G) (ty : zTy) (a : Nat → Nat) (σ : zC) (O : Nat → Nat) (n : Nat) (hI : zI σ O n) (ab x : Int32) : zv_ct l D ty yX3_give cX3_give 4 (some .int) (zR 4 94) [.ref (a 0), .int ab, .int x] (zc a ty σ) (fun v_ w_ => v_ = some (.int (fX3_give σ n ab x).1) ∧ w_ = zc a ty (fX3_give σ n ab x).2) := by
  refine zv_open (by decide) rfl rfl [some (.ref (a 0)), some (.int ab), some (.int x), none] (by simp [zv_one, Value.category]) (zle rfl) rfl ?_
  intro k K T
  refine zv_aload_n K 1 dX3_give_0 rfl rfl ?_
  refine zv_iconst K 1 2 dX3_give_1 rfl (by decide) ?_
  refine zv_iload_n K 3 dX3_give_2 rfl rfl ?_
  refine zv_iload_n K 4 dX3_give_3 rfl rfl ?_
  refine zv_cV1 K (q0 := 0) (As := [.int 1, .int ab, .int x]) (rest := []) 3 7 (kX3_refusalOfClaim l D ty a σ O n hI 1 ab x) dX3_give_4 rfl zw_1_204 zw_1_206 zw_p1_2 zw_1_1 zw_1_207 ⟨rfl, rfl⟩ zh_yX3_refusalOfClaim ⟨by decide, by decide⟩ (zc_at (j := 0) (by decide)) rfl rfl rfl (zle rfl) rfl ?_
  refine zv_istore_n K [some (.ref (a 0)), some (.int ab), some (.int x), some (.int (fX3_refusalOfClaim σ 1 ab x))] 8 dX3_give_7 rfl rfl (zlt rfl) ?_
  refine zv_iload_n K 9 dX3_give_8 rfl rfl ?_
  refine zv_if_ge K 16 12 dX3_give_9 (by decide) rfl (fun hr => ?_) (fun hr => ?_)
  · skip
    obtain ⟨hg_, hab_, hx_, hk_, hf_⟩ := z_ref hr
    obtain ⟨hx, hf⟩ := z_has hI hx_
    have hn := z_nf hI hf_
    have hc := hI.2.1
    have hG := hI.val
    refine zv_aload_n K 17 dX3_give_16 rfl rfl ?_
    refine zv_get (v := .ref (a 1)) (C := RX3) (T := TX3) (N := 7) K 0 0 20 dX3_give_17 rfl zy_X3 (zc_at (j := 0) (by decide)) rfl (by decide) zw_1_119 rfl ?_
    refine zv_iconst K 3 21 dX3_give_20 rfl (by decide) ?_
    refine zv_iload_n K 22 dX3_give_21 rfl rfl ?_
    refine zv_iload_n K 23 dX3_give_22 rfl rfl ?_
    refine zv_cV1 K (q0 := 1) (As := [.int 3, .int ab, .int x]) (rest := []) 3 26 (kX0_appendOf l D ty a σ 3 ab x x.toNatClampNeg n hx hf hn hc hG) dX3_give_23 rfl zw_1_216 zw_1_217 zw_1_218 zw_1_2 zw_1_219 ⟨rfl, rfl⟩ zh_yX0_appendOf ⟨by decide, by decide⟩ (zc_at (j := 1) (by decide)) rfl rfl rfl (zle rfl) rfl ?_
    exact zv_iret K T dX3_give_26 (⟨by simp only [fX3_give, if_pos hr], by simp only [fX3_give, if_pos hr]⟩)
  · skip
    refine zv_iload_n K 13 dX3_give_12 rfl rfl ?_
    refine zv_goto K 26 dX3_give_13 (by decide) ?_
    exact zv_iret K T dX3_give_26 (⟨by simp only [fX3_give, if_neg hr], by simp only [fX3_give, if_neg hr]⟩)

def fX3_nick (σ : zC) (n : Nat) (ab : Int32) (x : Int32) (m : Int32) : Int32 × zC :=
  if 0 ≤ (fX3_refusalOfClaim σ (zB (0 ≤ m ∧ m ≤ 9)) ab x) then
    (nI n, (zp (zp (zap σ n 2 ab (zg σ x.toNatClampNeg 4)) n 9 x) n 5 m))
  else
    (fX3_refusalOfClaim σ (zB (0 ≤ m ∧ m ≤ 9)) ab x, σ)
set_option maxHeartbeats 4000000 in
set_option maxRecDepth 100000 in
theorem kX3_nick (l : Launch) (D : va_G) (ty : zTy) (a : Nat → Nat) (σ : zC) (O : Nat → Nat) (n : Nat) (hI : zI σ O n) (ab x m : Int32) : zv_ct l D ty yX3_nick cX3_nick 6 (some .int) (zR 4 94) [.ref (a 0), .int ab, .int x, .int m] (zc a ty σ) (fun v_ w_ => v_ = some (.int (fX3_nick σ n ab x m).1) ∧ w_ = zc a ty (fX3_nick σ n ab x m).2) := by
  refine zv_open (by decide) rfl rfl [some (.ref (a 0)), some (.int ab), some (.int x), some (.int m), none, none] (by simp [zv_one, Value.category]) (zle rfl) rfl ?_
  intro k K T
  refine zv_aload_n K 1 dX3_nick_0 rfl rfl ?_
  refine zv_iload_n K 2 dX3_nick_1 rfl rfl ?_
  refine zv_cS1 K (As := [.int m]) (rest := [.ref (a 0)]) 1 5 (kX3_isMiner l D ty (zc a ty σ) m) dX3_nick_2 rfl zw_1_166 zw_1_167 zw_1_1 zw_1_168 ⟨rfl, rfl⟩ zh_yX3_isMiner ⟨by decide, by decide⟩ rfl rfl (zle rfl) rfl ?_
  refine zv_iload_n K 6 dX3_nick_5 rfl rfl ?_
  refine zv_iload_n K 7 dX3_nick_6 rfl rfl ?_
  refine zv_cV1 K (q0 := 0) (As := [.int (zB (0 ≤ m ∧ m ≤ 9)), .int ab, .int x]) (rest := []) 3 10 (kX3_refusalOfClaim l D ty a σ O n hI (zB (0 ≤ m ∧ m ≤ 9)) ab x) dX3_nick_7 rfl zw_1_204 zw_1_206 zw_p1_2 zw_1_1 zw_1_207 ⟨rfl, rfl⟩ zh_yX3_refusalOfClaim ⟨by decide, by decide⟩ (zc_at (j := 0) (by decide)) rfl rfl rfl (zle rfl) rfl ?_
  refine zv_istore K [some (.ref (a 0)), some (.int ab), some (.int x), some (.int m), some (.int (fX3_refusalOfClaim σ (zB (0 ≤ m ∧ m ≤ 9)) ab x)), none] 12 dX3_nick_10 rfl rfl (zlt rfl) ?_
  refine zv_iload K 14 dX3_nick_12 rfl rfl ?_
  refine zv_if_ge K 20 17 dX3_nick_14 (by decide) rfl (fun hr => ?_) (fun hr => ?_)
  · skip
    obtain ⟨hg_, hab_, hx_, hk_, hf_⟩ := z_ref hr
    obtain ⟨hx, hf⟩ := z_has hI hx_
    have hn := z_nf hI hf_
    have hc := hI.2.1
    have hG := hI.val
    refine zv_aload_n K 21 dX3_nick_20 rfl rfl ?_
    refine zv_get (v := .ref (a 1)) (C := RX3) (T := TX3) (N := 7) K 0 0 24 dX3_nick_21 rfl zy_X3 (zc_at (j := 0) (by decide)) rfl (by decide) zw_1_119 rfl ?_
    refine zv_iconst K 2 25 dX3_nick_24 rfl (by decide) ?_
    refine zv_iload_n K 26 dX3_nick_25 rfl rfl ?_
    refine zv_iload_n K 27 dX3_nick_26 rfl rfl ?_
    refine zv_cV1 K (q0 := 1) (As := [.int 2, .int ab, .int x]) (rest := []) 3 30 (kX0_appendOf l D ty a σ 2 ab x x.toNatClampNeg n hx hf hn hc hG) dX3_nick_27 rfl zw_1_216 zw_1_217 zw_1_218 zw_1_2 zw_1_219 ⟨rfl, rfl⟩ zh_yX0_appendOf ⟨by decide, by decide⟩ (zc_at (j := 1) (by decide)) rfl rfl rfl (zle rfl) rfl ?_
    refine zv_istore K [some (.ref (a 0)), some (.int ab), some (.int x), some (.int m), some (.int (fX3_refusalOfClaim σ (zB (0 ≤ m ∧ m ≤ 9)) ab x)), some (.int (nI n))] 32 dX3_nick_30 rfl rfl (zlt rfl) ?_
    refine zv_aload_n K 33 dX3_nick_32 rfl rfl ?_
    refine zv_get (v := .ref (a 1)) (C := RX3) (T := TX3) (N := 7) K 0 0 36 dX3_nick_33 rfl zy_X3 (zc_at (j := 0) (by decide)) rfl (by decide) zw_1_119 rfl ?_
    refine zv_iload K 38 dX3_nick_36 rfl rfl ?_
    refine zv_iconst K 5 39 dX3_nick_38 rfl (by decide) ?_
    refine zv_iload_n K 40 dX3_nick_39 rfl rfl ?_
    refine zv_cV0 K (q0 := 1) (As := [.int (nI n), .int 5, .int m]) (rest := []) 3 43 (kX0_put l D ty a (zp (zap σ n 2 ab (zg σ x.toNatClampNeg 4)) n 9 x) (nI n) 5 m n 5 rfl rfl hn (by decide)) dX3_nick_40 rfl zw_1_189 zw_1_178 zw_1_179 zw_1_2 zw_1_180 ⟨rfl, rfl⟩ zh_yX0_put ⟨by decide, by decide⟩ (zc_at (j := 1) (by decide)) rfl rfl rfl (zle rfl) rfl ?_
    refine zv_iload K 45 dX3_nick_43 rfl rfl ?_
    exact zv_iret K T dX3_nick_45 (⟨by simp only [fX3_nick, if_pos hr], by simp only [fX3_nick, if_pos hr]⟩)
  · skip
    refine zv_iload K 19 dX3_nick_17 rfl rfl ?_
    exact zv_iret K T dX3_nick_19 (⟨by simp only [fX3_nick, if_neg hr], by simp only [fX3_nick, if_neg hr]⟩)

def fX3_view (σ : zC) (n : Nat) (ab : Int32) (x : Int32) (p : Int32) (q : Int32) : Int32 × zC :=
  if (0 ≤ p ∧ p ≤ 59) then
    if (0 ≤ q ∧ q ≤ 59) then
      if q < p then
        if 0 ≤ (fX3_refusalOfClaim σ 0 ab x) then
          (nI n, (zp (zp (zp (zap σ n 4 ab (zg σ x.toNatClampNeg 4)) n 9 x) n 6 p) n 7 q))
        else
          (fX3_refusalOfClaim σ 0 ab x, σ)
      else
        if 0 ≤ (fX3_refusalOfClaim σ 1 ab x) then
          (nI n, (zp (zp (zp (zap σ n 4 ab (zg σ x.toNatClampNeg 4)) n 9 x) n 6 p) n 7 q))
        else
          (fX3_refusalOfClaim σ 1 ab x, σ)
    else
      if 0 ≤ (fX3_refusalOfClaim σ 0 ab x) then
        (nI n, (zp (zp (zp (zap σ n 4 ab (zg σ x.toNatClampNeg 4)) n 9 x) n 6 p) n 7 q))
      else
        (fX3_refusalOfClaim σ 0 ab x, σ)
  else
    if 0 ≤ (fX3_refusalOfClaim σ 0 ab x) then
      (nI n, (zp (zp (zp (zap σ n 4 ab (zg σ x.toNatClampNeg 4)) n 9 x) n 6 p) n 7 q))
    else
      (fX3_refusalOfClaim σ 0 ab x, σ)
set_option maxHeartbeats 4000000 in
set_option maxRecDepth 100000 in
theorem kX3_view (l : Launch) (D : va_G) (ty : zTy) (a : Nat → Nat) (σ : zC) (O : Nat → Nat) (n : Nat) (hI : zI σ O n) (ab x p q : Int32) : zv_ct l D ty yX3_view cX3_view 7 (some .int) (zR 4 94) [.ref (a 0), .int ab, .int x, .int p, .int q] (zc a ty σ) (fun v_ w_ => v_ = some (.int (fX3_view σ n ab x p q).1) ∧ w_ = zc a ty (fX3_view σ n ab x p q).2) := by
  refine zv_open (by decide) rfl rfl [some (.ref (a 0)), some (.int ab), some (.int x), some (.int p), some (.int q), none, none] (by simp [zv_one, Value.category]) (zle rfl) rfl ?_
  intro k K T
  refine zv_aload_n K 1 dX3_view_0 rfl rfl ?_
  refine zv_iload_n K 2 dX3_view_1 rfl rfl ?_
  refine zv_cS1 K (As := [.int p]) (rest := [.ref (a 0)]) 1 5 (kX3_isFoot l D ty (zc a ty σ) p) dX3_view_2 rfl zw_1_163 zw_1_164 zw_1_1 zw_1_165 ⟨rfl, rfl⟩ zh_yX3_isFoot ⟨by decide, by decide⟩ rfl rfl (zle rfl) rfl ?_
  refine zv_ifB_eq K 26 8 dX3_view_5 (by decide) rfl (fun h1 => ?_) (fun h1 => ?_)
  · skip
    refine zv_iconst K 0 27 dX3_view_26 rfl (by decide) ?_
    refine zv_iload_n K 28 dX3_view_27 rfl rfl ?_
    refine zv_iload_n K 29 dX3_view_28 rfl rfl ?_
    refine zv_cV1 K (q0 := 0) (As := [.int 0, .int ab, .int x]) (rest := []) 3 32 (kX3_refusalOfClaim l D ty a σ O n hI 0 ab x) dX3_view_29 rfl zw_1_204 zw_1_206 zw_p1_2 zw_1_1 zw_1_207 ⟨rfl, rfl⟩ zh_yX3_refusalOfClaim ⟨by decide, by decide⟩ (zc_at (j := 0) (by decide)) rfl rfl rfl (zle rfl) rfl ?_
    refine zv_istore K [some (.ref (a 0)), some (.int ab), some (.int x), some (.int p), some (.int q), some (.int (fX3_refusalOfClaim σ 0 ab x)), none] 34 dX3_view_32 rfl rfl (zlt rfl) ?_
    refine zv_iload K 36 dX3_view_34 rfl rfl ?_
    refine zv_if_ge K 42 39 dX3_view_36 (by decide) rfl (fun hr => ?_) (fun hr => ?_)
    · skip
      obtain ⟨hg_, hab_, hx_, hk_, hf_⟩ := z_ref hr
      obtain ⟨hx, hf⟩ := z_has hI hx_
      have hn := z_nf hI hf_
      have hc := hI.2.1
      have hG := hI.val
      refine zv_aload_n K 43 dX3_view_42 rfl rfl ?_
      refine zv_get (v := .ref (a 1)) (C := RX3) (T := TX3) (N := 7) K 0 0 46 dX3_view_43 rfl zy_X3 (zc_at (j := 0) (by decide)) rfl (by decide) zw_1_119 rfl ?_
      refine zv_iconst K 4 47 dX3_view_46 rfl (by decide) ?_
      refine zv_iload_n K 48 dX3_view_47 rfl rfl ?_
      refine zv_iload_n K 49 dX3_view_48 rfl rfl ?_
      refine zv_cV1 K (q0 := 1) (As := [.int 4, .int ab, .int x]) (rest := []) 3 52 (kX0_appendOf l D ty a σ 4 ab x x.toNatClampNeg n hx hf hn hc hG) dX3_view_49 rfl zw_1_216 zw_1_217 zw_1_218 zw_1_2 zw_1_219 ⟨rfl, rfl⟩ zh_yX0_appendOf ⟨by decide, by decide⟩ (zc_at (j := 1) (by decide)) rfl rfl rfl (zle rfl) rfl ?_
      refine zv_istore K [some (.ref (a 0)), some (.int ab), some (.int x), some (.int p), some (.int q), some (.int (fX3_refusalOfClaim σ 0 ab x)), some (.int (nI n))] 54 dX3_view_52 rfl rfl (zlt rfl) ?_
      refine zv_aload_n K 55 dX3_view_54 rfl rfl ?_
      refine zv_get (v := .ref (a 1)) (C := RX3) (T := TX3) (N := 7) K 0 0 58 dX3_view_55 rfl zy_X3 (zc_at (j := 0) (by decide)) rfl (by decide) zw_1_119 rfl ?_
      refine zv_iload K 60 dX3_view_58 rfl rfl ?_
      refine zv_iload_n K 61 dX3_view_60 rfl rfl ?_
      refine zv_iload K 63 dX3_view_61 rfl rfl ?_
      refine zv_cV0 K (q0 := 1) (As := [.int (nI n), .int p, .int q]) (rest := []) 3 66 (kX0_putFeet l D ty a (zp (zap σ n 4 ab (zg σ x.toNatClampNeg 4)) n 9 x) (nI n) p q n rfl hn) dX3_view_63 rfl zw_1_196 zw_1_197 zw_1_198 zw_1_2 zw_1_199 ⟨rfl, rfl⟩ zh_yX0_putFeet ⟨by decide, by decide⟩ (zc_at (j := 1) (by decide)) rfl rfl rfl (zle rfl) rfl ?_
      refine zv_iload K 68 dX3_view_66 rfl rfl ?_
      exact zv_iret K T dX3_view_68 (⟨by simp only [fX3_view, if_neg h1, if_pos hr], by simp only [fX3_view, if_neg h1, if_pos hr]⟩)
    · skip
      refine zv_iload K 41 dX3_view_39 rfl rfl ?_
      exact zv_iret K T dX3_view_41 (⟨by simp only [fX3_view, if_neg h1, if_neg hr], by simp only [fX3_view, if_neg h1, if_neg hr]⟩)
  · skip
    refine zv_iload K 10 dX3_view_8 rfl rfl ?_
    refine zv_cS1 K (As := [.int q]) (rest := [.ref (a 0)]) 1 13 (kX3_isFoot l D ty (zc a ty σ) q) dX3_view_10 rfl zw_1_163 zw_1_164 zw_1_1 zw_1_165 ⟨rfl, rfl⟩ zh_yX3_isFoot ⟨by decide, by decide⟩ rfl rfl (zle rfl) rfl ?_
    refine zv_ifB_eq K 26 16 dX3_view_13 (by decide) rfl (fun h3 => ?_) (fun h3 => ?_)
    · skip
      refine zv_iconst K 0 27 dX3_view_26 rfl (by decide) ?_
      refine zv_iload_n K 28 dX3_view_27 rfl rfl ?_
      refine zv_iload_n K 29 dX3_view_28 rfl rfl ?_
      refine zv_cV1 K (q0 := 0) (As := [.int 0, .int ab, .int x]) (rest := []) 3 32 (kX3_refusalOfClaim l D ty a σ O n hI 0 ab x) dX3_view_29 rfl zw_1_204 zw_1_206 zw_p1_2 zw_1_1 zw_1_207 ⟨rfl, rfl⟩ zh_yX3_refusalOfClaim ⟨by decide, by decide⟩ (zc_at (j := 0) (by decide)) rfl rfl rfl (zle rfl) rfl ?_
      refine zv_istore K [some (.ref (a 0)), some (.int ab), some (.int x), some (.int p), some (.int q), some (.int (fX3_refusalOfClaim σ 0 ab x)), none] 34 dX3_view_32 rfl rfl (zlt rfl) ?_
      refine zv_iload K 36 dX3_view_34 rfl rfl ?_
      refine zv_if_ge K 42 39 dX3_view_36 (by decide) rfl (fun hr => ?_) (fun hr => ?_)
      · skip
        obtain ⟨hg_, hab_, hx_, hk_, hf_⟩ := z_ref hr
        obtain ⟨hx, hf⟩ := z_has hI hx_
        have hn := z_nf hI hf_
        have hc := hI.2.1
        have hG := hI.val
        refine zv_aload_n K 43 dX3_view_42 rfl rfl ?_
        refine zv_get (v := .ref (a 1)) (C := RX3) (T := TX3) (N := 7) K 0 0 46 dX3_view_43 rfl zy_X3 (zc_at (j := 0) (by decide)) rfl (by decide) zw_1_119 rfl ?_
        refine zv_iconst K 4 47 dX3_view_46 rfl (by decide) ?_
        refine zv_iload_n K 48 dX3_view_47 rfl rfl ?_
        refine zv_iload_n K 49 dX3_view_48 rfl rfl ?_
        refine zv_cV1 K (q0 := 1) (As := [.int 4, .int ab, .int x]) (rest := []) 3 52 (kX0_appendOf l D ty a σ 4 ab x x.toNatClampNeg n hx hf hn hc hG) dX3_view_49 rfl zw_1_216 zw_1_217 zw_1_218 zw_1_2 zw_1_219 ⟨rfl, rfl⟩ zh_yX0_appendOf ⟨by decide, by decide⟩ (zc_at (j := 1) (by decide)) rfl rfl rfl (zle rfl) rfl ?_
        refine zv_istore K [some (.ref (a 0)), some (.int ab), some (.int x), some (.int p), some (.int q), some (.int (fX3_refusalOfClaim σ 0 ab x)), some (.int (nI n))] 54 dX3_view_52 rfl rfl (zlt rfl) ?_
        refine zv_aload_n K 55 dX3_view_54 rfl rfl ?_
        refine zv_get (v := .ref (a 1)) (C := RX3) (T := TX3) (N := 7) K 0 0 58 dX3_view_55 rfl zy_X3 (zc_at (j := 0) (by decide)) rfl (by decide) zw_1_119 rfl ?_
        refine zv_iload K 60 dX3_view_58 rfl rfl ?_
        refine zv_iload_n K 61 dX3_view_60 rfl rfl ?_
        refine zv_iload K 63 dX3_view_61 rfl rfl ?_
        refine zv_cV0 K (q0 := 1) (As := [.int (nI n), .int p, .int q]) (rest := []) 3 66 (kX0_putFeet l D ty a (zp (zap σ n 4 ab (zg σ x.toNatClampNeg 4)) n 9 x) (nI n) p q n rfl hn) dX3_view_63 rfl zw_1_196 zw_1_197 zw_1_198 zw_1_2 zw_1_199 ⟨rfl, rfl⟩ zh_yX0_putFeet ⟨by decide, by decide⟩ (zc_at (j := 1) (by decide)) rfl rfl rfl (zle rfl) rfl ?_
        refine zv_iload K 68 dX3_view_66 rfl rfl ?_
        exact zv_iret K T dX3_view_68 (⟨by simp only [fX3_view, if_pos h1, if_neg h3, if_pos hr], by simp only [fX3_view, if_pos h1, if_neg h3, if_pos hr]⟩)
      · skip
        refine zv_iload K 41 dX3_view_39 rfl rfl ?_
        exact zv_iret K T dX3_view_41 (⟨by simp only [fX3_view, if_pos h1, if_neg h3, if_neg hr], by simp only [fX3_view, if_pos h1, if_neg h3, if_neg hr]⟩)
    · skip
      refine zv_iload_n K 17 dX3_view_16 rfl rfl ?_
      refine zv_iload K 19 dX3_view_17 rfl rfl ?_
      refine zv_icmp_gt K 26 22 dX3_view_19 (by decide) rfl (fun h5 => ?_) (fun h5 => ?_)
      · skip
        refine zv_iconst K 0 27 dX3_view_26 rfl (by decide) ?_
        refine zv_iload_n K 28 dX3_view_27 rfl rfl ?_
        refine zv_iload_n K 29 dX3_view_28 rfl rfl ?_
        refine zv_cV1 K (q0 := 0) (As := [.int 0, .int ab, .int x]) (rest := []) 3 32 (kX3_refusalOfClaim l D ty a σ O n hI 0 ab x) dX3_view_29 rfl zw_1_204 zw_1_206 zw_p1_2 zw_1_1 zw_1_207 ⟨rfl, rfl⟩ zh_yX3_refusalOfClaim ⟨by decide, by decide⟩ (zc_at (j := 0) (by decide)) rfl rfl rfl (zle rfl) rfl ?_
        refine zv_istore K [some (.ref (a 0)), some (.int ab), some (.int x), some (.int p), some (.int q), some (.int (fX3_refusalOfClaim σ 0 ab x)), none] 34 dX3_view_32 rfl rfl (zlt rfl) ?_
        refine zv_iload K 36 dX3_view_34 rfl rfl ?_
        refine zv_if_ge K 42 39 dX3_view_36 (by decide) rfl (fun hr => ?_) (fun hr => ?_)
        · skip
          obtain ⟨hg_, hab_, hx_, hk_, hf_⟩ := z_ref hr
          obtain ⟨hx, hf⟩ := z_has hI hx_
          have hn := z_nf hI hf_
          have hc := hI.2.1
          have hG := hI.val
          refine zv_aload_n K 43 dX3_view_42 rfl rfl ?_
          refine zv_get (v := .ref (a 1)) (C := RX3) (T := TX3) (N := 7) K 0 0 46 dX3_view_43 rfl zy_X3 (zc_at (j := 0) (by decide)) rfl (by decide) zw_1_119 rfl ?_
          refine zv_iconst K 4 47 dX3_view_46 rfl (by decide) ?_
          refine zv_iload_n K 48 dX3_view_47 rfl rfl ?_
          refine zv_iload_n K 49 dX3_view_48 rfl rfl ?_
          refine zv_cV1 K (q0 := 1) (As := [.int 4, .int ab, .int x]) (rest := []) 3 52 (kX0_appendOf l D ty a σ 4 ab x x.toNatClampNeg n hx hf hn hc hG) dX3_view_49 rfl zw_1_216 zw_1_217 zw_1_218 zw_1_2 zw_1_219 ⟨rfl, rfl⟩ zh_yX0_appendOf ⟨by decide, by decide⟩ (zc_at (j := 1) (by decide)) rfl rfl rfl (zle rfl) rfl ?_
          refine zv_istore K [some (.ref (a 0)), some (.int ab), some (.int x), some (.int p), some (.int q), some (.int (fX3_refusalOfClaim σ 0 ab x)), some (.int (nI n))] 54 dX3_view_52 rfl rfl (zlt rfl) ?_
          refine zv_aload_n K 55 dX3_view_54 rfl rfl ?_
          refine zv_get (v := .ref (a 1)) (C := RX3) (T := TX3) (N := 7) K 0 0 58 dX3_view_55 rfl zy_X3 (zc_at (j := 0) (by decide)) rfl (by decide) zw_1_119 rfl ?_
          refine zv_iload K 60 dX3_view_58 rfl rfl ?_
          refine zv_iload_n K 61 dX3_view_60 rfl rfl ?_
          refine zv_iload K 63 dX3_view_61 rfl rfl ?_
          refine zv_cV0 K (q0 := 1) (As := [.int (nI n), .int p, .int q]) (rest := []) 3 66 (kX0_putFeet l D ty a (zp (zap σ n 4 ab (zg σ x.toNatClampNeg 4)) n 9 x) (nI n) p q n rfl hn) dX3_view_63 rfl zw_1_196 zw_1_197 zw_1_198 zw_1_2 zw_1_199 ⟨rfl, rfl⟩ zh_yX0_putFeet ⟨by decide, by decide⟩ (zc_at (j := 1) (by decide)) rfl rfl rfl (zle rfl) rfl ?_
          refine zv_iload K 68 dX3_view_66 rfl rfl ?_
          exact zv_iret K T dX3_view_68 (⟨by simp only [fX3_view, if_pos h1, if_pos h3, if_pos h5, if_pos hr], by simp only [fX3_view, if_pos h1, if_pos h3, if_pos h5, if_pos hr]⟩)
        · skip
          refine zv_iload K 41 dX3_view_39 rfl rfl ?_
          exact zv_iret K T dX3_view_41 (⟨by simp only [fX3_view, if_pos h1, if_pos h3, if_pos h5, if_neg hr], by simp only [fX3_view, if_pos h1, if_pos h3, if_pos h5, if_neg hr]⟩)
      · skip
        refine zv_iconst K 1 23 dX3_view_22 rfl (by decide) ?_
        refine zv_goto K 27 dX3_view_23 (by decide) ?_
        refine zv_iload_n K 28 dX3_view_27 rfl rfl ?_
        refine zv_iload_n K 29 dX3_view_28 rfl rfl ?_
        refine zv_cV1 K (q0 := 0) (As := [.int 1, .int ab, .int x]) (rest := []) 3 32 (kX3_refusalOfClaim l D ty a σ O n hI 1 ab x) dX3_view_29 rfl zw_1_204 zw_1_206 zw_p1_2 zw_1_1 zw_1_207 ⟨rfl, rfl⟩ zh_yX3_refusalOfClaim ⟨by decide, by decide⟩ (zc_at (j := 0) (by decide)) rfl rfl rfl (zle rfl) rfl ?_
        refine zv_istore K [some (.ref (a 0)), some (.int ab), some (.int x), some (.int p), some (.int q), some (.int (fX3_refusalOfClaim σ 1 ab x)), none] 34 dX3_view_32 rfl rfl (zlt rfl) ?_
        refine zv_iload K 36 dX3_view_34 rfl rfl ?_
        refine zv_if_ge K 42 39 dX3_view_36 (by decide) rfl (fun hr => ?_) (fun hr => ?_)
        · skip
          obtain ⟨hg_, hab_, hx_, hk_, hf_⟩ := z_ref hr
          obtain ⟨hx, hf⟩ := z_has hI hx_
          have hn := z_nf hI hf_
          have hc := hI.2.1
          have hG := hI.val
          refine zv_aload_n K 43 dX3_view_42 rfl rfl ?_
          refine zv_get (v := .ref (a 1)) (C := RX3) (T := TX3) (N := 7) K 0 0 46 dX3_view_43 rfl zy_X3 (zc_at (j := 0) (by decide)) rfl (by decide) zw_1_119 rfl ?_
          refine zv_iconst K 4 47 dX3_view_46 rfl (by decide) ?_
          refine zv_iload_n K 48 dX3_view_47 rfl rfl ?_
          refine zv_iload_n K 49 dX3_view_48 rfl rfl ?_
          refine zv_cV1 K (q0 := 1) (As := [.int 4, .int ab, .int x]) (rest := []) 3 52 (kX0_appendOf l D ty a σ 4 ab x x.toNatClampNeg n hx hf hn hc hG) dX3_view_49 rfl zw_1_216 zw_1_217 zw_1_218 zw_1_2 zw_1_219 ⟨rfl, rfl⟩ zh_yX0_appendOf ⟨by decide, by decide⟩ (zc_at (j := 1) (by decide)) rfl rfl rfl (zle rfl) rfl ?_
          refine zv_istore K [some (.ref (a 0)), some (.int ab), some (.int x), some (.int p), some (.int q), some (.int (fX3_refusalOfClaim σ 1 ab x)), some (.int (nI n))] 54 dX3_view_52 rfl rfl (zlt rfl) ?_
          refine zv_aload_n K 55 dX3_view_54 rfl rfl ?_
          refine zv_get (v := .ref (a 1)) (C := RX3) (T := TX3) (N := 7) K 0 0 58 dX3_view_55 rfl zy_X3 (zc_at (j := 0) (by decide)) rfl (by decide) zw_1_119 rfl ?_
          refine zv_iload K 60 dX3_view_58 rfl rfl ?_
          refine zv_iload_n K 61 dX3_view_60 rfl rfl ?_
          refine zv_iload K 63 dX3_view_61 rfl rfl ?_
          refine zv_cV0 K (q0 := 1) (As := [.int (nI n), .int p, .int q]) (rest := []) 3 66 (kX0_putFeet l D ty a (zp (zap σ n 4 ab (zg σ x.toNatClampNeg 4)) n 9 x) (nI n) p q n rfl hn) dX3_view_63 rfl zw_1_196 zw_1_197 zw_1_198 zw_1_2 zw_1_199 ⟨rfl, rfl⟩ zh_yX0_putFeet ⟨by decide, by decide⟩ (zc_at (j := 1) (by decide)) rfl rfl rfl (zle rfl) rfl ?_
          refine zv_iload K 68 dX3_view_66 rfl rfl ?_
          exact zv_iret K T dX3_view_68 (⟨by simp only [fX3_view, if_pos h1, if_pos h3, if_neg h5, if_pos hr], by simp only [fX3_view, if_pos h1, if_pos h3, if_neg h5, if_pos hr]⟩)
        · skip
          refine zv_iload K 41 dX3_view_39 rfl rfl ?_
          exact zv_iret K T dX3_view_41 (⟨by simp only [fX3_view, if_pos h1, if_pos h3, if_neg h5, if_neg hr], by simp only [fX3_view, if_pos h1, if_pos h3, if_neg h5, if_neg hr]⟩)

def fX3_sell (σ : zC) (n : Nat) (ab : Int32) (x : Int32) (m : Int32) (q : Int32) (v : Int32) : Int32 × zC :=
  if (0 ≤ m ∧ m ≤ 9) then
    if (0 ≤ q ∧ q ≤ 9) then
      if m = q then
        if 0 ≤ (fX3_refusalOfClaim σ 0 ab x) then
          (nI n, (zp (zp (zp (zp (zap σ n 5 ab (zg σ x.toNatClampNeg 4)) n 9 x) n 5 m) n 10 q) n 8 v))
        else
          (fX3_refusalOfClaim σ 0 ab x, σ)
      else
        if (1 ≤ v ∧ v ≤ 24) then
          if 0 ≤ (fX3_refusalOfClaim σ 1 ab x) then
            (nI n, (zp (zp (zp (zp (zap σ n 5 ab (zg σ x.toNatClampNeg 4)) n 9 x) n 5 m) n 10 q) n 8 v))
          else
            (fX3_refusalOfClaim σ 1 ab x, σ)
        else
          if 0 ≤ (fX3_refusalOfClaim σ 0 ab x) then
            (nI n, (zp (zp (zp (zp (zap σ n 5 ab (zg σ x.toNatClampNeg 4)) n 9 x) n 5 m) n 10 q) n 8 v))
          else
            (fX3_refusalOfClaim σ 0 ab x, σ)
    else
      if 0 ≤ (fX3_refusalOfClaim σ 0 ab x) then
        (nI n, (zp (zp (zp (zp (zap σ n 5 ab (zg σ x.toNatClampNeg 4)) n 9 x) n 5 m) n 10 q) n 8 v))
      else
        (fX3_refusalOfClaim σ 0 ab x, σ)
  else
    if 0 ≤ (fX3_refusalOfClaim σ 0 ab x) then
      (nI n, (zp (zp (zp (zp (zap σ n 5 ab (zg σ x.toNatClampNeg 4)) n 9 x) n 5 m) n 10 q) n 8 v))
    else
      (fX3_refusalOfClaim σ 0 ab x, σ)
set_option maxHeartbeats 4000000 in
set_option maxRecDepth 100000 in
theorem kX3_sell (l : Launch) (D : va_G) (ty : zTy) (a : Nat → Nat) (σ : zC) (O : Nat → Nat) (n : Nat) (hI : zI σ O n) (ab x m q v : Int32) : zv_ct l D ty yX3_sell cX3_sell 9 (some .int) (zR 4 94) [.ref (a 0), .int ab, .int x, .int m, .int q, .int v] (zc a ty σ) (fun v_ w_ => v_ = some (.int (fX3_sell σ n ab x m q v).1) ∧ w_ = zc a ty (fX3_sell σ n ab x m q v).2) := by
  refine zv_open (by decide) rfl rfl [some (.ref (a 0)), some (.int ab), some (.int x), some (.int m), some (.int q), some (.int v), none, none, none] (by simp [zv_one, Value.category]) (zle rfl) rfl ?_
  intro k K T
  refine zv_iload_n K 1 dX3_sell_0 rfl rfl ?_
  refine zv_cS1 K (As := [.int m]) (rest := []) 1 4 (kX3_isMiner l D ty (zc a ty σ) m) dX3_sell_1 rfl zw_1_166 zw_1_167 zw_1_1 zw_1_168 ⟨rfl, rfl⟩ zh_yX3_isMiner ⟨by decide, by decide⟩ rfl rfl (zle rfl) rfl ?_
  refine zv_ifB_eq K 36 7 dX3_sell_4 (by decide) rfl (fun h1 => ?_) (fun h1 => ?_)
  · skip
    refine zv_iconst K 0 37 dX3_sell_36 rfl (by decide) ?_
    refine zv_istore K [some (.ref (a 0)), some (.int ab), some (.int x), some (.int m), some (.int q), some (.int v), some (.int 0), none, none] 39 dX3_sell_37 rfl rfl (zlt rfl) ?_
    refine zv_aload_n K 40 dX3_sell_39 rfl rfl ?_
    refine zv_iload K 42 dX3_sell_40 rfl rfl ?_
    refine zv_iload_n K 43 dX3_sell_42 rfl rfl ?_
    refine zv_iload_n K 44 dX3_sell_43 rfl rfl ?_
    refine zv_cV1 K (q0 := 0) (As := [.int 0, .int ab, .int x]) (rest := []) 3 47 (kX3_refusalOfClaim l D ty a σ O n hI 0 ab x) dX3_sell_44 rfl zw_1_204 zw_1_206 zw_p1_2 zw_1_1 zw_1_207 ⟨rfl, rfl⟩ zh_yX3_refusalOfClaim ⟨by decide, by decide⟩ (zc_at (j := 0) (by decide)) rfl rfl rfl (zle rfl) rfl ?_
    refine zv_istore K [some (.ref (a 0)), some (.int ab), some (.int x), some (.int m), some (.int q), some (.int v), some (.int 0), some (.int (fX3_refusalOfClaim σ 0 ab x)), none] 49 dX3_sell_47 rfl rfl (zlt rfl) ?_
    refine zv_iload K 51 dX3_sell_49 rfl rfl ?_
    refine zv_if_ge K 57 54 dX3_sell_51 (by decide) rfl (fun hr => ?_) (fun hr => ?_)
    · skip
      obtain ⟨hg_, hab_, hx_, hk_, hf_⟩ := z_ref hr
      obtain ⟨hx, hf⟩ := z_has hI hx_
      have hn := z_nf hI hf_
      have hc := hI.2.1
      have hG := hI.val
      refine zv_aload_n K 58 dX3_sell_57 rfl rfl ?_
      refine zv_get (v := .ref (a 1)) (C := RX3) (T := TX3) (N := 7) K 0 0 61 dX3_sell_58 rfl zy_X3 (zc_at (j := 0) (by decide)) rfl (by decide) zw_1_119 rfl ?_
      refine zv_iconst K 5 62 dX3_sell_61 rfl (by decide) ?_
      refine zv_iload_n K 63 dX3_sell_62 rfl rfl ?_
      refine zv_iload_n K 64 dX3_sell_63 rfl rfl ?_
      refine zv_cV1 K (q0 := 1) (As := [.int 5, .int ab, .int x]) (rest := []) 3 67 (kX0_appendOf l D ty a σ 5 ab x x.toNatClampNeg n hx hf hn hc hG) dX3_sell_64 rfl zw_1_216 zw_1_217 zw_1_218 zw_1_2 zw_1_219 ⟨rfl, rfl⟩ zh_yX0_appendOf ⟨by decide, by decide⟩ (zc_at (j := 1) (by decide)) rfl rfl rfl (zle rfl) rfl ?_
      refine zv_istore K [some (.ref (a 0)), some (.int ab), some (.int x), some (.int m), some (.int q), some (.int v), some (.int 0), some (.int (fX3_refusalOfClaim σ 0 ab x)), some (.int (nI n))] 69 dX3_sell_67 rfl rfl (zlt rfl) ?_
      refine zv_aload_n K 70 dX3_sell_69 rfl rfl ?_
      refine zv_get (v := .ref (a 1)) (C := RX3) (T := TX3) (N := 7) K 0 0 73 dX3_sell_70 rfl zy_X3 (zc_at (j := 0) (by decide)) rfl (by decide) zw_1_119 rfl ?_
      refine zv_iload K 75 dX3_sell_73 rfl rfl ?_
      refine zv_iconst K 5 76 dX3_sell_75 rfl (by decide) ?_
      refine zv_iload_n K 77 dX3_sell_76 rfl rfl ?_
      refine zv_cV0 K (q0 := 1) (As := [.int (nI n), .int 5, .int m]) (rest := []) 3 80 (kX0_put l D ty a (zp (zap σ n 5 ab (zg σ x.toNatClampNeg 4)) n 9 x) (nI n) 5 m n 5 rfl rfl hn (by decide)) dX3_sell_77 rfl zw_1_189 zw_1_178 zw_1_179 zw_1_2 zw_1_180 ⟨rfl, rfl⟩ zh_yX0_put ⟨by decide, by decide⟩ (zc_at (j := 1) (by decide)) rfl rfl rfl (zle rfl) rfl ?_
      refine zv_aload_n K 81 dX3_sell_80 rfl rfl ?_
      refine zv_get (v := .ref (a 1)) (C := RX3) (T := TX3) (N := 7) K 0 0 84 dX3_sell_81 rfl zy_X3 (zc_at (j := 0) (by decide)) rfl (by decide) zw_1_119 rfl ?_
      refine zv_iload K 86 dX3_sell_84 rfl rfl ?_
      refine zv_bipush K 10 88 dX3_sell_86 rfl (by decide) ?_
      refine zv_iload K 90 dX3_sell_88 rfl rfl ?_
      refine zv_cV0 K (q0 := 1) (As := [.int (nI n), .int 10, .int q]) (rest := []) 3 93 (kX0_put l D ty a (zp (zp (zap σ n 5 ab (zg σ x.toNatClampNeg 4)) n 9 x) n 5 m) (nI n) 10 q n 10 rfl rfl hn (by decide)) dX3_sell_90 rfl zw_1_189 zw_1_178 zw_1_179 zw_1_2 zw_1_180 ⟨rfl, rfl⟩ zh_yX0_put ⟨by decide, by decide⟩ (zc_at (j := 1) (by decide)) rfl rfl rfl (zle rfl) rfl ?_
      refine zv_aload_n K 94 dX3_sell_93 rfl rfl ?_
      refine zv_get (v := .ref (a 1)) (C := RX3) (T := TX3) (N := 7) K 0 0 97 dX3_sell_94 rfl zy_X3 (zc_at (j := 0) (by decide)) rfl (by decide) zw_1_119 rfl ?_
      refine zv_iload K 99 dX3_sell_97 rfl rfl ?_
      refine zv_bipush K 8 101 dX3_sell_99 rfl (by decide) ?_
      refine zv_iload K 103 dX3_sell_101 rfl rfl ?_
      refine zv_cV0 K (q0 := 1) (As := [.int (nI n), .int 8, .int v]) (rest := []) 3 106 (kX0_put l D ty a (zp (zp (zp (zap σ n 5 ab (zg σ x.toNatClampNeg 4)) n 9 x) n 5 m) n 10 q) (nI n) 8 v n 8 rfl rfl hn (by decide)) dX3_sell_103 rfl zw_1_189 zw_1_178 zw_1_179 zw_1_2 zw_1_180 ⟨rfl, rfl⟩ zh_yX0_put ⟨by decide, by decide⟩ (zc_at (j := 1) (by decide)) rfl rfl rfl (zle rfl) rfl ?_
      refine zv_iload K 108 dX3_sell_106 rfl rfl ?_
      exact zv_iret K T dX3_sell_108 (⟨by simp only [fX3_sell, if_neg h1, if_pos hr], by simp only [fX3_sell, if_neg h1, if_pos hr]⟩)
    · skip
      refine zv_iload K 56 dX3_sell_54 rfl rfl ?_
      exact zv_iret K T dX3_sell_56 (⟨by simp only [fX3_sell, if_neg h1, if_neg hr], by simp only [fX3_sell, if_neg h1, if_neg hr]⟩)
  · skip
    refine zv_iload K 9 dX3_sell_7 rfl rfl ?_
    refine zv_cS1 K (As := [.int q]) (rest := []) 1 12 (kX3_isMiner l D ty (zc a ty σ) q) dX3_sell_9 rfl zw_1_166 zw_1_167 zw_1_1 zw_1_168 ⟨rfl, rfl⟩ zh_yX3_isMiner ⟨by decide, by decide⟩ rfl rfl (zle rfl) rfl ?_
    refine zv_ifB_eq K 36 15 dX3_sell_12 (by decide) rfl (fun h3 => ?_) (fun h3 => ?_)
    · skip
      refine zv_iconst K 0 37 dX3_sell_36 rfl (by decide) ?_
      refine zv_istore K [some (.ref (a 0)), some (.int ab), some (.int x), some (.int m), some (.int q), some (.int v), some (.int 0), none, none] 39 dX3_sell_37 rfl rfl (zlt rfl) ?_
      refine zv_aload_n K 40 dX3_sell_39 rfl rfl ?_
      refine zv_iload K 42 dX3_sell_40 rfl rfl ?_
      refine zv_iload_n K 43 dX3_sell_42 rfl rfl ?_
      refine zv_iload_n K 44 dX3_sell_43 rfl rfl ?_
      refine zv_cV1 K (q0 := 0) (As := [.int 0, .int ab, .int x]) (rest := []) 3 47 (kX3_refusalOfClaim l D ty a σ O n hI 0 ab x) dX3_sell_44 rfl zw_1_204 zw_1_206 zw_p1_2 zw_1_1 zw_1_207 ⟨rfl, rfl⟩ zh_yX3_refusalOfClaim ⟨by decide, by decide⟩ (zc_at (j := 0) (by decide)) rfl rfl rfl (zle rfl) rfl ?_
      refine zv_istore K [some (.ref (a 0)), some (.int ab), some (.int x), some (.int m), some (.int q), some (.int v), some (.int 0), some (.int (fX3_refusalOfClaim σ 0 ab x)), none] 49 dX3_sell_47 rfl rfl (zlt rfl) ?_
      refine zv_iload K 51 dX3_sell_49 rfl rfl ?_
      refine zv_if_ge K 57 54 dX3_sell_51 (by decide) rfl (fun hr => ?_) (fun hr => ?_)
      · skip
        obtain ⟨hg_, hab_, hx_, hk_, hf_⟩ := z_ref hr
        obtain ⟨hx, hf⟩ := z_has hI hx_
        have hn := z_nf hI hf_
        have hc := hI.2.1
        have hG := hI.val
        refine zv_aload_n K 58 dX3_sell_57 rfl rfl ?_
        refine zv_get (v := .ref (a 1)) (C := RX3) (T := TX3) (N := 7) K 0 0 61 dX3_sell_58 rfl zy_X3 (zc_at (j := 0) (by decide)) rfl (by decide) zw_1_119 rfl ?_
        refine zv_iconst K 5 62 dX3_sell_61 rfl (by decide) ?_
        refine zv_iload_n K 63 dX3_sell_62 rfl rfl ?_
        refine zv_iload_n K 64 dX3_sell_63 rfl rfl ?_
        refine zv_cV1 K (q0 := 1) (As := [.int 5, .int ab, .int x]) (rest := []) 3 67 (kX0_appendOf l D ty a σ 5 ab x x.toNatClampNeg n hx hf hn hc hG) dX3_sell_64 rfl zw_1_216 zw_1_217 zw_1_218 zw_1_2 zw_1_219 ⟨rfl, rfl⟩ zh_yX0_appendOf ⟨by decide, by decide⟩ (zc_at (j := 1) (by decide)) rfl rfl rfl (zle rfl) rfl ?_
        refine zv_istore K [some (.ref (a 0)), some (.int ab), some (.int x), some (.int m), some (.int q), some (.int v), some (.int 0), some (.int (fX3_refusalOfClaim σ 0 ab x)), some (.int (nI n))] 69 dX3_sell_67 rfl rfl (zlt rfl) ?_
        refine zv_aload_n K 70 dX3_sell_69 rfl rfl ?_
        refine zv_get (v := .ref (a 1)) (C := RX3) (T := TX3) (N := 7) K 0 0 73 dX3_sell_70 rfl zy_X3 (zc_at (j := 0) (by decide)) rfl (by decide) zw_1_119 rfl ?_
        refine zv_iload K 75 dX3_sell_73 rfl rfl ?_
        refine zv_iconst K 5 76 dX3_sell_75 rfl (by decide) ?_
        refine zv_iload_n K 77 dX3_sell_76 rfl rfl ?_
        refine zv_cV0 K (q0 := 1) (As := [.int (nI n), .int 5, .int m]) (rest := []) 3 80 (kX0_put l D ty a (zp (zap σ n 5 ab (zg σ x.toNatClampNeg 4)) n 9 x) (nI n) 5 m n 5 rfl rfl hn (by decide)) dX3_sell_77 rfl zw_1_189 zw_1_178 zw_1_179 zw_1_2 zw_1_180 ⟨rfl, rfl⟩ zh_yX0_put ⟨by decide, by decide⟩ (zc_at (j := 1) (by decide)) rfl rfl rfl (zle rfl) rfl ?_
        refine zv_aload_n K 81 dX3_sell_80 rfl rfl ?_
        refine zv_get (v := .ref (a 1)) (C := RX3) (T := TX3) (N := 7) K 0 0 84 dX3_sell_81 rfl zy_X3 (zc_at (j := 0) (by decide)) rfl (by decide) zw_1_119 rfl ?_
        refine zv_iload K 86 dX3_sell_84 rfl rfl ?_
        refine zv_bipush K 10 88 dX3_sell_86 rfl (by decide) ?_
        refine zv_iload K 90 dX3_sell_88 rfl rfl ?_
        refine zv_cV0 K (q0 := 1) (As := [.int (nI n), .int 10, .int q]) (rest := []) 3 93 (kX0_put l D ty a (zp (zp (zap σ n 5 ab (zg σ x.toNatClampNeg 4)) n 9 x) n 5 m) (nI n) 10 q n 10 rfl rfl hn (by decide)) dX3_sell_90 rfl zw_1_189 zw_1_178 zw_1_179 zw_1_2 zw_1_180 ⟨rfl, rfl⟩ zh_yX0_put ⟨by decide, by decide⟩ (zc_at (j := 1) (by decide)) rfl rfl rfl (zle rfl) rfl ?_
        refine zv_aload_n K 94 dX3_sell_93 rfl rfl ?_
        refine zv_get (v := .ref (a 1)) (C := RX3) (T := TX3) (N := 7) K 0 0 97 dX3_sell_94 rfl zy_X3 (zc_at (j := 0) (by decide)) rfl (by decide) zw_1_119 rfl ?_
        refine zv_iload K 99 dX3_sell_97 rfl rfl ?_
        refine zv_bipush K 8 101 dX3_sell_99 rfl (by decide) ?_
        refine zv_iload K 103 dX3_sell_101 rfl rfl ?_
        refine zv_cV0 K (q0 := 1) (As := [.int (nI n), .int 8, .int v]) (rest := []) 3 106 (kX0_put l D ty a (zp (zp (zp (zap σ n 5 ab (zg σ x.toNatClampNeg 4)) n 9 x) n 5 m) n 10 q) (nI n) 8 v n 8 rfl rfl hn (by decide)) dX3_sell_103 rfl zw_1_189 zw_1_178 zw_1_179 zw_1_2 zw_1_180 ⟨rfl, rfl⟩ zh_yX0_put ⟨by decide, by decide⟩ (zc_at (j := 1) (by decide)) rfl rfl rfl (zle rfl) rfl ?_
        refine zv_iload K 108 dX3_sell_106 rfl rfl ?_
        exact zv_iret K T dX3_sell_108 (⟨by simp only [fX3_sell, if_pos h1, if_neg h3, if_pos hr], by simp only [fX3_sell, if_pos h1, if_neg h3, if_pos hr]⟩)
      · skip
        refine zv_iload K 56 dX3_sell_54 rfl rfl ?_
        exact zv_iret K T dX3_sell_56 (⟨by simp only [fX3_sell, if_pos h1, if_neg h3, if_neg hr], by simp only [fX3_sell, if_pos h1, if_neg h3, if_neg hr]⟩)
    · skip
      refine zv_iload_n K 16 dX3_sell_15 rfl rfl ?_
      refine zv_iload K 18 dX3_sell_16 rfl rfl ?_
      refine zv_icmp_eq K 36 21 dX3_sell_18 (by decide) rfl (fun h5 => ?_) (fun h5 => ?_)
      · skip
        refine zv_iconst K 0 37 dX3_sell_36 rfl (by decide) ?_
        refine zv_istore K [some (.ref (a 0)), some (.int ab), some (.int x), some (.int m), some (.int q), some (.int v), some (.int 0), none, none] 39 dX3_sell_37 rfl rfl (zlt rfl) ?_
        refine zv_aload_n K 40 dX3_sell_39 rfl rfl ?_
        refine zv_iload K 42 dX3_sell_40 rfl rfl ?_
        refine zv_iload_n K 43 dX3_sell_42 rfl rfl ?_
        refine zv_iload_n K 44 dX3_sell_43 rfl rfl ?_
        refine zv_cV1 K (q0 := 0) (As := [.int 0, .int ab, .int x]) (rest := []) 3 47 (kX3_refusalOfClaim l D ty a σ O n hI 0 ab x) dX3_sell_44 rfl zw_1_204 zw_1_206 zw_p1_2 zw_1_1 zw_1_207 ⟨rfl, rfl⟩ zh_yX3_refusalOfClaim ⟨by decide, by decide⟩ (zc_at (j := 0) (by decide)) rfl rfl rfl (zle rfl) rfl ?_
        refine zv_istore K [some (.ref (a 0)), some (.int ab), some (.int x), some (.int m), some (.int q), some (.int v), some (.int 0), some (.int (fX3_refusalOfClaim σ 0 ab x)), none] 49 dX3_sell_47 rfl rfl (zlt rfl) ?_
        refine zv_iload K 51 dX3_sell_49 rfl rfl ?_
        refine zv_if_ge K 57 54 dX3_sell_51 (by decide) rfl (fun hr => ?_) (fun hr => ?_)
        · skip
          obtain ⟨hg_, hab_, hx_, hk_, hf_⟩ := z_ref hr
          obtain ⟨hx, hf⟩ := z_has hI hx_
          have hn := z_nf hI hf_
          have hc := hI.2.1
          have hG := hI.val
          refine zv_aload_n K 58 dX3_sell_57 rfl rfl ?_
          refine zv_get (v := .ref (a 1)) (C := RX3) (T := TX3) (N := 7) K 0 0 61 dX3_sell_58 rfl zy_X3 (zc_at (j := 0) (by decide)) rfl (by decide) zw_1_119 rfl ?_
          refine zv_iconst K 5 62 dX3_sell_61 rfl (by decide) ?_
          refine zv_iload_n K 63 dX3_sell_62 rfl rfl ?_
          refine zv_iload_n K 64 dX3_sell_63 rfl rfl ?_
          refine zv_cV1 K (q0 := 1) (As := [.int 5, .int ab, .int x]) (rest := []) 3 67 (kX0_appendOf l D ty a σ 5 ab x x.toNatClampNeg n hx hf hn hc hG) dX3_sell_64 rfl zw_1_216 zw_1_217 zw_1_218 zw_1_2 zw_1_219 ⟨rfl, rfl⟩ zh_yX0_appendOf ⟨by decide, by decide⟩ (zc_at (j := 1) (by decide)) rfl rfl rfl (zle rfl) rfl ?_
          refine zv_istore K [some (.ref (a 0)), some (.int ab), some (.int x), some (.int m), some (.int q), some (.int v), some (.int 0), some (.int (fX3_refusalOfClaim σ 0 ab x)), some (.int (nI n))] 69 dX3_sell_67 rfl rfl (zlt rfl) ?_
          refine zv_aload_n K 70 dX3_sell_69 rfl rfl ?_
          refine zv_get (v := .ref (a 1)) (C := RX3) (T := TX3) (N := 7) K 0 0 73 dX3_sell_70 rfl zy_X3 (zc_at (j := 0) (by decide)) rfl (by decide) zw_1_119 rfl ?_
          refine zv_iload K 75 dX3_sell_73 rfl rfl ?_
          refine zv_iconst K 5 76 dX3_sell_75 rfl (by decide) ?_
          refine zv_iload_n K 77 dX3_sell_76 rfl rfl ?_
          refine zv_cV0 K (q0 := 1) (As := [.int (nI n), .int 5, .int m]) (rest := []) 3 80 (kX0_put l D ty a (zp (zap σ n 5 ab (zg σ x.toNatClampNeg 4)) n 9 x) (nI n) 5 m n 5 rfl rfl hn (by decide)) dX3_sell_77 rfl zw_1_189 zw_1_178 zw_1_179 zw_1_2 zw_1_180 ⟨rfl, rfl⟩ zh_yX0_put ⟨by decide, by decide⟩ (zc_at (j := 1) (by decide)) rfl rfl rfl (zle rfl) rfl ?_
          refine zv_aload_n K 81 dX3_sell_80 rfl rfl ?_
          refine zv_get (v := .ref (a 1)) (C := RX3) (T := TX3) (N := 7) K 0 0 84 dX3_sell_81 rfl zy_X3 (zc_at (j := 0) (by decide)) rfl (by decide) zw_1_119 rfl ?_
          refine zv_iload K 86 dX3_sell_84 rfl rfl ?_
          refine zv_bipush K 10 88 dX3_sell_86 rfl (by decide) ?_
          refine zv_iload K 90 dX3_sell_88 rfl rfl ?_
          refine zv_cV0 K (q0 := 1) (As := [.int (nI n), .int 10, .int q]) (rest := []) 3 93 (kX0_put l D ty a (zp (zp (zap σ n 5 ab (zg σ x.toNatClampNeg 4)) n 9 x) n 5 m) (nI n) 10 q n 10 rfl rfl hn (by decide)) dX3_sell_90 rfl zw_1_189 zw_1_178 zw_1_179 zw_1_2 zw_1_180 ⟨rfl, rfl⟩ zh_yX0_put ⟨by decide, by decide⟩ (zc_at (j := 1) (by decide)) rfl rfl rfl (zle rfl) rfl ?_
          refine zv_aload_n K 94 dX3_sell_93 rfl rfl ?_
          refine zv_get (v := .ref (a 1)) (C := RX3) (T := TX3) (N := 7) K 0 0 97 dX3_sell_94 rfl zy_X3 (zc_at (j := 0) (by decide)) rfl (by decide) zw_1_119 rfl ?_
          refine zv_iload K 99 dX3_sell_97 rfl rfl ?_
          refine zv_bipush K 8 101 dX3_sell_99 rfl (by decide) ?_
          refine zv_iload K 103 dX3_sell_101 rfl rfl ?_
          refine zv_cV0 K (q0 := 1) (As := [.int (nI n), .int 8, .int v]) (rest := []) 3 106 (kX0_put l D ty a (zp (zp (zp (zap σ n 5 ab (zg σ x.toNatClampNeg 4)) n 9 x) n 5 m) n 10 q) (nI n) 8 v n 8 rfl rfl hn (by decide)) dX3_sell_103 rfl zw_1_189 zw_1_178 zw_1_179 zw_1_2 zw_1_180 ⟨rfl, rfl⟩ zh_yX0_put ⟨by decide, by decide⟩ (zc_at (j := 1) (by decide)) rfl rfl rfl (zle rfl) rfl ?_
          refine zv_iload K 108 dX3_sell_106 rfl rfl ?_
          exact zv_iret K T dX3_sell_108 (⟨by simp only [fX3_sell, if_pos h1, if_pos h3, if_pos h5, if_pos hr], by simp only [fX3_sell, if_pos h1, if_pos h3, if_pos h5, if_pos hr]⟩)
        · skip
          refine zv_iload K 56 dX3_sell_54 rfl rfl ?_
          exact zv_iret K T dX3_sell_56 (⟨by simp only [fX3_sell, if_pos h1, if_pos h3, if_pos h5, if_neg hr], by simp only [fX3_sell, if_pos h1, if_pos h3, if_pos h5, if_neg hr]⟩)
      · skip
        refine zv_iload K 23 dX3_sell_21 rfl rfl ?_
        refine zv_iconst K 1 24 dX3_sell_23 rfl (by decide) ?_
        refine zv_bipush K 24 26 dX3_sell_24 rfl (by decide) ?_
        refine zv_cS1 K (As := [.int v, .int 1, .int 24]) (rest := []) 3 29 (kX3_isWithin l D ty (zc a ty σ) v 1 24) dX3_sell_26 rfl zw_1_145 zw_1_146 zw_1_1 zw_1_147 ⟨rfl, rfl⟩ zh_yX3_isWithin ⟨by decide, by decide⟩ rfl rfl (zle rfl) rfl ?_
        refine zv_ifB_eq K 36 32 dX3_sell_29 (by decide) rfl (fun h7 => ?_) (fun h7 => ?_)
        · skip
          refine zv_iconst K 0 37 dX3_sell_36 rfl (by decide) ?_
          refine zv_istore K [some (.ref (a 0)), some (.int ab), some (.int x), some (.int m), some (.int q), some (.int v), some (.int 0), none, none] 39 dX3_sell_37 rfl rfl (zlt rfl) ?_
          refine zv_aload_n K 40 dX3_sell_39 rfl rfl ?_
          refine zv_iload K 42 dX3_sell_40 rfl rfl ?_
          refine zv_iload_n K 43 dX3_sell_42 rfl rfl ?_
          refine zv_iload_n K 44 dX3_sell_43 rfl rfl ?_
          refine zv_cV1 K (q0 := 0) (As := [.int 0, .int ab, .int x]) (rest := []) 3 47 (kX3_refusalOfClaim l D ty a σ O n hI 0 ab x) dX3_sell_44 rfl zw_1_204 zw_1_206 zw_p1_2 zw_1_1 zw_1_207 ⟨rfl, rfl⟩ zh_yX3_refusalOfClaim ⟨by decide, by decide⟩ (zc_at (j := 0) (by decide)) rfl rfl rfl (zle rfl) rfl ?_
          refine zv_istore K [some (.ref (a 0)), some (.int ab), some (.int x), some (.int m), some (.int q), some (.int v), some (.int 0), some (.int (fX3_refusalOfClaim σ 0 ab x)), none] 49 dX3_sell_47 rfl rfl (zlt rfl) ?_
          refine zv_iload K 51 dX3_sell_49 rfl rfl ?_
          refine zv_if_ge K 57 54 dX3_sell_51 (by decide) rfl (fun hr => ?_) (fun hr => ?_)
          · skip
            obtain ⟨hg_, hab_, hx_, hk_, hf_⟩ := z_ref hr
            obtain ⟨hx, hf⟩ := z_has hI hx_
            have hn := z_nf hI hf_
            have hc := hI.2.1
            have hG := hI.val
            refine zv_aload_n K 58 dX3_sell_57 rfl rfl ?_
            refine zv_get (v := .ref (a 1)) (C := RX3) (T := TX3) (N := 7) K 0 0 61 dX3_sell_58 rfl zy_X3 (zc_at (j := 0) (by decide)) rfl (by decide) zw_1_119 rfl ?_
            refine zv_iconst K 5 62 dX3_sell_61 rfl (by decide) ?_
            refine zv_iload_n K 63 dX3_sell_62 rfl rfl ?_
            refine zv_iload_n K 64 dX3_sell_63 rfl rfl ?_
            refine zv_cV1 K (q0 := 1) (As := [.int 5, .int ab, .int x]) (rest := []) 3 67 (kX0_appendOf l D ty a σ 5 ab x x.toNatClampNeg n hx hf hn hc hG) dX3_sell_64 rfl zw_1_216 zw_1_217 zw_1_218 zw_1_2 zw_1_219 ⟨rfl, rfl⟩ zh_yX0_appendOf ⟨by decide, by decide⟩ (zc_at (j := 1) (by decide)) rfl rfl rfl (zle rfl) rfl ?_
            refine zv_istore K [some (.ref (a 0)), some (.int ab), some (.int x), some (.int m), some (.int q), some (.int v), some (.int 0), some (.int (fX3_refusalOfClaim σ 0 ab x)), some (.int (nI n))] 69 dX3_sell_67 rfl rfl (zlt rfl) ?_
            refine zv_aload_n K 70 dX3_sell_69 rfl rfl ?_
            refine zv_get (v := .ref (a 1)) (C := RX3) (T := TX3) (N := 7) K 0 0 73 dX3_sell_70 rfl zy_X3 (zc_at (j := 0) (by decide)) rfl (by decide) zw_1_119 rfl ?_
            refine zv_iload K 75 dX3_sell_73 rfl rfl ?_
            refine zv_iconst K 5 76 dX3_sell_75 rfl (by decide) ?_
            refine zv_iload_n K 77 dX3_sell_76 rfl rfl ?_
            refine zv_cV0 K (q0 := 1) (As := [.int (nI n), .int 5, .int m]) (rest := []) 3 80 (kX0_put l D ty a (zp (zap σ n 5 ab (zg σ x.toNatClampNeg 4)) n 9 x) (nI n) 5 m n 5 rfl rfl hn (by decide)) dX3_sell_77 rfl zw_1_189 zw_1_178 zw_1_179 zw_1_2 zw_1_180 ⟨rfl, rfl⟩ zh_yX0_put ⟨by decide, by decide⟩ (zc_at (j := 1) (by decide)) rfl rfl rfl (zle rfl) rfl ?_
            refine zv_aload_n K 81 dX3_sell_80 rfl rfl ?_
            refine zv_get (v := .ref (a 1)) (C := RX3) (T := TX3) (N := 7) K 0 0 84 dX3_sell_81 rfl zy_X3 (zc_at (j := 0) (by decide)) rfl (by decide) zw_1_119 rfl ?_
            refine zv_iload K 86 dX3_sell_84 rfl rfl ?_
            refine zv_bipush K 10 88 dX3_sell_86 rfl (by decide) ?_
            refine zv_iload K 90 dX3_sell_88 rfl rfl ?_
            refine zv_cV0 K (q0 := 1) (As := [.int (nI n), .int 10, .int q]) (rest := []) 3 93 (kX0_put l D ty a (zp (zp (zap σ n 5 ab (zg σ x.toNatClampNeg 4)) n 9 x) n 5 m) (nI n) 10 q n 10 rfl rfl hn (by decide)) dX3_sell_90 rfl zw_1_189 zw_1_178 zw_1_179 zw_1_2 zw_1_180 ⟨rfl, rfl⟩ zh_yX0_put ⟨by decide, by decide⟩ (zc_at (j := 1) (by decide)) rfl rfl rfl (zle rfl) rfl ?_
            refine zv_aload_n K 94 dX3_sell_93 rfl rfl ?_
            refine zv_get (v := .ref (a 1)) (C := RX3) (T := TX3) (N := 7) K 0 0 97 dX3_sell_94 rfl zy_X3 (zc_at (j := 0) (by decide)) rfl (by decide) zw_1_119 rfl ?_
            refine zv_iload K 99 dX3_sell_97 rfl rfl ?_
            refine zv_bipush K 8 101 dX3_sell_99 rfl (by decide) ?_
            refine zv_iload K 103 dX3_sell_101 rfl rfl ?_
            refine zv_cV0 K (q0 := 1) (As := [.int (nI n), .int 8, .int v]) (rest := []) 3 106 (kX0_put l D ty a (zp (zp (zp (zap σ n 5 ab (zg σ x.toNatClampNeg 4)) n 9 x) n 5 m) n 10 q) (nI n) 8 v n 8 rfl rfl hn (by decide)) dX3_sell_103 rfl zw_1_189 zw_1_178 zw_1_179 zw_1_2 zw_1_180 ⟨rfl, rfl⟩ zh_yX0_put ⟨by decide, by decide⟩ (zc_at (j := 1) (by decide)) rfl rfl rfl (zle rfl) rfl ?_
            refine zv_iload K 108 dX3_sell_106 rfl rfl ?_
            exact zv_iret K T dX3_sell_108 (⟨by simp only [fX3_sell, if_pos h1, if_pos h3, if_neg h5, if_neg h7, if_pos hr], by simp only [fX3_sell, if_pos h1, if_pos h3, if_neg h5, if_neg h7, if_pos hr]⟩)
          · skip
            refine zv_iload K 56 dX3_sell_54 rfl rfl ?_
            exact zv_iret K T dX3_sell_56 (⟨by simp only [fX3_sell, if_pos h1, if_pos h3, if_neg h5, if_neg h7, if_neg hr], by simp only [fX3_sell, if_pos h1, if_pos h3, if_neg h5, if_neg h7, if_neg hr]⟩)
        · skip
          refine zv_iconst K 1 33 dX3_sell_32 rfl (by decide) ?_
          refine zv_goto K 37 dX3_sell_33 (by decide) ?_
          refine zv_istore K [some (.ref (a 0)), some (.int ab), some (.int x), some (.int m), some (.int q), some (.int v), some (.int 1), none, none] 39 dX3_sell_37 rfl rfl (zlt rfl) ?_
          refine zv_aload_n K 40 dX3_sell_39 rfl rfl ?_
          refine zv_iload K 42 dX3_sell_40 rfl rfl ?_
          refine zv_iload_n K 43 dX3_sell_42 rfl rfl ?_
          refine zv_iload_n K 44 dX3_sell_43 rfl rfl ?_
          refine zv_cV1 K (q0 := 0) (As := [.int 1, .int ab, .int x]) (rest := []) 3 47 (kX3_refusalOfClaim l D ty a σ O n hI 1 ab x) dX3_sell_44 rfl zw_1_204 zw_1_206 zw_p1_2 zw_1_1 zw_1_207 ⟨rfl, rfl⟩ zh_yX3_refusalOfClaim ⟨by decide, by decide⟩ (zc_at (j := 0) (by decide)) rfl rfl rfl (zle rfl) rfl ?_
          refine zv_istore K [some (.ref (a 0)), some (.int ab), some (.int x), some (.int m), some (.int q), some (.int v), some (.int 1), some (.int (fX3_refusalOfClaim σ 1 ab x)), none] 49 dX3_sell_47 rfl rfl (zlt rfl) ?_
          refine zv_iload K 51 dX3_sell_49 rfl rfl ?_
          refine zv_if_ge K 57 54 dX3_sell_51 (by decide) rfl (fun hr => ?_) (fun hr => ?_)
          · skip
            obtain ⟨hg_, hab_, hx_, hk_, hf_⟩ := z_ref hr
            obtain ⟨hx, hf⟩ := z_has hI hx_
            have hn := z_nf hI hf_
            have hc := hI.2.1
            have hG := hI.val
            refine zv_aload_n K 58 dX3_sell_57 rfl rfl ?_
            refine zv_get (v := .ref (a 1)) (C := RX3) (T := TX3) (N := 7) K 0 0 61 dX3_sell_58 rfl zy_X3 (zc_at (j := 0) (by decide)) rfl (by decide) zw_1_119 rfl ?_
            refine zv_iconst K 5 62 dX3_sell_61 rfl (by decide) ?_
            refine zv_iload_n K 63 dX3_sell_62 rfl rfl ?_
            refine zv_iload_n K 64 dX3_sell_63 rfl rfl ?_
            refine zv_cV1 K (q0 := 1) (As := [.int 5, .int ab, .int x]) (rest := []) 3 67 (kX0_appendOf l D ty a σ 5 ab x x.toNatClampNeg n hx hf hn hc hG) dX3_sell_64 rfl zw_1_216 zw_1_217 zw_1_218 zw_1_2 zw_1_219 ⟨rfl, rfl⟩ zh_yX0_appendOf ⟨by decide, by decide⟩ (zc_at (j := 1) (by decide)) rfl rfl rfl (zle rfl) rfl ?_
            refine zv_istore K [some (.ref (a 0)), some (.int ab), some (.int x), some (.int m), some (.int q), some (.int v), some (.int 1), some (.int (fX3_refusalOfClaim σ 1 ab x)), some (.int (nI n))] 69 dX3_sell_67 rfl rfl (zlt rfl) ?_
            refine zv_aload_n K 70 dX3_sell_69 rfl rfl ?_
            refine zv_get (v := .ref (a 1)) (C := RX3) (T := TX3) (N := 7) K 0 0 73 dX3_sell_70 rfl zy_X3 (zc_at (j := 0) (by decide)) rfl (by decide) zw_1_119 rfl ?_
            refine zv_iload K 75 dX3_sell_73 rfl rfl ?_
            refine zv_iconst K 5 76 dX3_sell_75 rfl (by decide) ?_
            refine zv_iload_n K 77 dX3_sell_76 rfl rfl ?_
            refine zv_cV0 K (q0 := 1) (As := [.int (nI n), .int 5, .int m]) (rest := []) 3 80 (kX0_put l D ty a (zp (zap σ n 5 ab (zg σ x.toNatClampNeg 4)) n 9 x) (nI n) 5 m n 5 rfl rfl hn (by decide)) dX3_sell_77 rfl zw_1_189 zw_1_178 zw_1_179 zw_1_2 zw_1_180 ⟨rfl, rfl⟩ zh_yX0_put ⟨by decide, by decide⟩ (zc_at (j := 1) (by decide)) rfl rfl rfl (zle rfl) rfl ?_
            refine zv_aload_n K 81 dX3_sell_80 rfl rfl ?_
            refine zv_get (v := .ref (a 1)) (C := RX3) (T := TX3) (N := 7) K 0 0 84 dX3_sell_81 rfl zy_X3 (zc_at (j := 0) (by decide)) rfl (by decide) zw_1_119 rfl ?_
            refine zv_iload K 86 dX3_sell_84 rfl rfl ?_
            refine zv_bipush K 10 88 dX3_sell_86 rfl (by decide) ?_
            refine zv_iload K 90 dX3_sell_88 rfl rfl ?_
            refine zv_cV0 K (q0 := 1) (As := [.int (nI n), .int 10, .int q]) (rest := []) 3 93 (kX0_put l D ty a (zp (zp (zap σ n 5 ab (zg σ x.toNatClampNeg 4)) n 9 x) n 5 m) (nI n) 10 q n 10 rfl rfl hn (by decide)) dX3_sell_90 rfl zw_1_189 zw_1_178 zw_1_179 zw_1_2 zw_1_180 ⟨rfl, rfl⟩ zh_yX0_put ⟨by decide, by decide⟩ (zc_at (j := 1) (by decide)) rfl rfl rfl (zle rfl) rfl ?_
            refine zv_aload_n K 94 dX3_sell_93 rfl rfl ?_
            refine zv_get (v := .ref (a 1)) (C := RX3) (T := TX3) (N := 7) K 0 0 97 dX3_sell_94 rfl zy_X3 (zc_at (j := 0) (by decide)) rfl (by decide) zw_1_119 rfl ?_
            refine zv_iload K 99 dX3_sell_97 rfl rfl ?_
            refine zv_bipush K 8 101 dX3_sell_99 rfl (by decide) ?_
            refine zv_iload K 103 dX3_sell_101 rfl rfl ?_
            refine zv_cV0 K (q0 := 1) (As := [.int (nI n), .int 8, .int v]) (rest := []) 3 106 (kX0_put l D ty a (zp (zp (zp (zap σ n 5 ab (zg σ x.toNatClampNeg 4)) n 9 x) n 5 m) n 10 q) (nI n) 8 v n 8 rfl rfl hn (by decide)) dX3_sell_103 rfl zw_1_189 zw_1_178 zw_1_179 zw_1_2 zw_1_180 ⟨rfl, rfl⟩ zh_yX0_put ⟨by decide, by decide⟩ (zc_at (j := 1) (by decide)) rfl rfl rfl (zle rfl) rfl ?_
            refine zv_iload K 108 dX3_sell_106 rfl rfl ?_
            exact zv_iret K T dX3_sell_108 (⟨by simp only [fX3_sell, if_pos h1, if_pos h3, if_neg h5, if_pos h7, if_pos hr], by simp only [fX3_sell, if_pos h1, if_pos h3, if_neg h5, if_pos h7, if_pos hr]⟩)
          · skip
            refine zv_iload K 56 dX3_sell_54 rfl rfl ?_
            exact zv_iret K T dX3_sell_56 (⟨by simp only [fX3_sell, if_pos h1, if_pos h3, if_neg h5, if_pos h7, if_neg hr], by simp only [fX3_sell, if_pos h1, if_pos h3, if_neg h5, if_pos h7, if_neg hr]⟩)

def fX3_stake (σ : zC) (n : Nat) (ab : Int32) (vn : Int32) (ft : Int32) (m : Int32) : Int32 × zC :=
  if (0 ≤ ab ∧ ab ≤ σ.1 1 0) then
    if (0 ≤ vn ∧ vn ≤ 3) then
      if (0 ≤ ft ∧ ft ≤ 59) then
        if (0 ≤ m ∧ m ≤ 9) then
          if (90 ≤ σ.1 1 1) then
            ((-2), σ)
          else
            if (σ.1 1 2) < 20 then
              (nI n, (zO (zp (zp (zp (zp (zap σ n 0 ab vn) n 9 (nI n)) n 5 m) n 6 (if (ft - (σ.1 0 3)) < 0 then 0 else (ft - (σ.1 0 3)))) n 7 (if 59 < (ft + (σ.1 0 3)) then 59 else (ft + (σ.1 0 3)))) 1 2 ((σ.1 1 2) + 1)))
            else
              ((-2), σ)
        else
          ((-1), σ)
      else
        ((-1), σ)
    else
      ((-1), σ)
  else
    ((-1), σ)
set_option maxHeartbeats 4000000 in
set_option maxRecDepth 100000 in
theorem kX3_stake (l : Launch) (D : va_G) (ty : zTy) (a : Nat → Nat) (σ : zC) (O : Nat → Nat) (n : Nat) (hI : zI σ O n) (ab vn ft m : Int32) : zv_ct l D ty yX3_stake cX3_stake 6 (some .int) (zR 3 70) [.ref (a 0), .int ab, .int vn, .int ft, .int m] (zc a ty σ) (fun v_ w_ => v_ = some (.int (fX3_stake σ n ab vn ft m).1) ∧ w_ = zc a ty (fX3_stake σ n ab vn ft m).2) := by
  refine zv_open (by decide) rfl rfl [some (.ref (a 0)), some (.int ab), some (.int vn), some (.int ft), some (.int m), none] (by simp [zv_one, Value.category]) (zle rfl) rfl ?_
  intro k K T
  refine zv_aload_n K 1 dX3_stake_0 rfl rfl ?_
  refine zv_iload_n K 2 dX3_stake_1 rfl rfl ?_
  refine zv_cV1 K (q0 := 0) (As := [.int ab]) (rest := []) 1 5 (kX3_isPast l D ty a σ ab) dX3_stake_2 rfl zw_1_156 zw_1_158 zw_p1_0 zw_1_1 zw_1_159 ⟨rfl, rfl⟩ zh_yX3_isPast ⟨by decide, by decide⟩ (zc_at (j := 0) (by decide)) rfl rfl rfl (zle rfl) rfl ?_
  refine zv_ifB_eq K 30 8 dX3_stake_5 (by decide) rfl (fun h1 => ?_) (fun h1 => ?_)
  · skip
    refine zv_iconst K (-1) 31 dX3_stake_30 rfl (by decide) ?_
    exact zv_iret K T dX3_stake_31 (⟨by simp only [fX3_stake, if_neg h1], by simp only [fX3_stake, if_neg h1]⟩)
  · skip
    refine zv_iload_n K 9 dX3_stake_8 rfl rfl ?_
    refine zv_cS1 K (As := [.int vn]) (rest := []) 1 12 (kX3_isVein l D ty (zc a ty σ) vn) dX3_stake_9 rfl zw_1_160 zw_1_161 zw_1_1 zw_1_162 ⟨rfl, rfl⟩ zh_yX3_isVein ⟨by decide, by decide⟩ rfl rfl (zle rfl) rfl ?_
    refine zv_ifB_eq K 30 15 dX3_stake_12 (by decide) rfl (fun h2 => ?_) (fun h2 => ?_)
    · skip
      refine zv_iconst K (-1) 31 dX3_stake_30 rfl (by decide) ?_
      exact zv_iret K T dX3_stake_31 (⟨by simp only [fX3_stake, if_pos h1, if_neg h2], by simp only [fX3_stake, if_pos h1, if_neg h2]⟩)
    · skip
      refine zv_iload_n K 16 dX3_stake_15 rfl rfl ?_
      refine zv_cS1 K (As := [.int ft]) (rest := []) 1 19 (kX3_isFoot l D ty (zc a ty σ) ft) dX3_stake_16 rfl zw_1_163 zw_1_164 zw_1_1 zw_1_165 ⟨rfl, rfl⟩ zh_yX3_isFoot ⟨by decide, by decide⟩ rfl rfl (zle rfl) rfl ?_
      refine zv_ifB_eq K 30 22 dX3_stake_19 (by decide) rfl (fun h3 => ?_) (fun h3 => ?_)
      · skip
        refine zv_iconst K (-1) 31 dX3_stake_30 rfl (by decide) ?_
        exact zv_iret K T dX3_stake_31 (⟨by simp only [fX3_stake, if_pos h1, if_pos h2, if_neg h3], by simp only [fX3_stake, if_pos h1, if_pos h2, if_neg h3]⟩)
      · skip
        refine zv_iload K 24 dX3_stake_22 rfl rfl ?_
        refine zv_cS1 K (As := [.int m]) (rest := []) 1 27 (kX3_isMiner l D ty (zc a ty σ) m) dX3_stake_24 rfl zw_1_166 zw_1_167 zw_1_1 zw_1_168 ⟨rfl, rfl⟩ zh_yX3_isMiner ⟨by decide, by decide⟩ rfl rfl (zle rfl) rfl ?_
        refine zv_ifB_ne K 32 30 dX3_stake_27 (by decide) rfl (fun h4 => ?_) (fun h4 => ?_)
        · skip
          refine zv_aload_n K 33 dX3_stake_32 rfl rfl ?_
          refine zv_get (v := .ref (a 1)) (C := RX3) (T := TX3) (N := 7) K 0 0 36 dX3_stake_33 rfl zy_X3 (zc_at (j := 0) (by decide)) rfl (by decide) zw_1_119 rfl ?_
          refine zv_cV1 K (q0 := 1) (As := []) (rest := []) 0 39 (kX0_isFull l D ty a σ) dX3_stake_36 rfl zw_1_169 zw_1_170 zw_1_171 zw_1_2 zw_1_172 ⟨rfl, rfl⟩ zh_yX0_isFull ⟨by decide, by decide⟩ (zc_at (j := 1) (by decide)) rfl rfl rfl (zle rfl) rfl ?_
          refine zv_ifB_ne K 54 42 dX3_stake_39 (by decide) rfl (fun hfu => ?_) (fun hfu => ?_)
          · skip
            refine zv_bipush K (-2) 56 dX3_stake_54 rfl (by decide) ?_
            exact zv_iret K T dX3_stake_56 (⟨by simp only [fX3_stake, if_pos h1, if_pos h2, if_pos h3, if_pos h4, if_pos hfu], by simp only [fX3_stake, if_pos h1, if_pos h2, if_pos h3, if_pos h4, if_pos hfu]⟩)
          · skip
            refine zv_aload_n K 43 dX3_stake_42 rfl rfl ?_
            refine zv_get (v := .ref (a 1)) (C := RX3) (T := TX3) (N := 7) K 0 0 46 dX3_stake_43 rfl zy_X3 (zc_at (j := 0) (by decide)) rfl (by decide) zw_1_119 rfl ?_
            refine zv_getN (v := .int (σ.1 1 2)) (C := RX0) (T := TX0) (N := 5) K 1 2 49 dX3_stake_46 rfl zy_X0 (zc_at (j := 1) (by decide)) rfl (by decide) zn_4 rfl ?_
            refine zv_bipush K 20 51 dX3_stake_49 rfl (by decide) ?_
            refine zv_icmp_lt K 57 54 dX3_stake_51 (by decide) rfl (fun h6 => ?_) (fun h6 => ?_)
            · skip
              have hn := z_nf hI hfu
              have hc := hI.2.1
              have hG := hI.val
              refine zv_aload_n K 58 dX3_stake_57 rfl rfl ?_
              refine zv_get (v := .ref (a 1)) (C := RX3) (T := TX3) (N := 7) K 0 0 61 dX3_stake_58 rfl zy_X3 (zc_at (j := 0) (by decide)) rfl (by decide) zw_1_119 rfl ?_
              refine zv_iconst K 0 62 dX3_stake_61 rfl (by decide) ?_
              refine zv_iload_n K 63 dX3_stake_62 rfl rfl ?_
              refine zv_iload_n K 64 dX3_stake_63 rfl rfl ?_
              refine zv_cV1 K (q0 := 1) (As := [.int 0, .int ab, .int vn]) (rest := []) 3 67 (kX0_append l D ty a σ 0 ab vn n hn hc hG) dX3_stake_64 rfl zw_1_173 zw_1_174 zw_1_175 zw_1_2 zw_1_176 ⟨rfl, rfl⟩ zh_yX0_append ⟨by decide, by decide⟩ (zc_at (j := 1) (by decide)) rfl rfl rfl (zle rfl) rfl ?_
              refine zv_istore K [some (.ref (a 0)), some (.int ab), some (.int vn), some (.int ft), some (.int m), some (.int (nI n))] 69 dX3_stake_67 rfl rfl (zlt rfl) ?_
              refine zv_aload_n K 70 dX3_stake_69 rfl rfl ?_
              refine zv_get (v := .ref (a 1)) (C := RX3) (T := TX3) (N := 7) K 0 0 73 dX3_stake_70 rfl zy_X3 (zc_at (j := 0) (by decide)) rfl (by decide) zw_1_119 rfl ?_
              refine zv_iload K 75 dX3_stake_73 rfl rfl ?_
              refine zv_bipush K 9 77 dX3_stake_75 rfl (by decide) ?_
              refine zv_iload K 79 dX3_stake_77 rfl rfl ?_
              refine zv_cV0 K (q0 := 1) (As := [.int (nI n), .int 9, .int (nI n)]) (rest := []) 3 82 (kX0_put l D ty a (zap σ n 0 ab vn) (nI n) 9 (nI n) n 9 rfl rfl hn (by decide)) dX3_stake_79 rfl zw_1_189 zw_1_178 zw_1_179 zw_1_2 zw_1_180 ⟨rfl, rfl⟩ zh_yX0_put ⟨by decide, by decide⟩ (zc_at (j := 1) (by decide)) rfl rfl rfl (zle rfl) rfl ?_
              refine zv_aload_n K 83 dX3_stake_82 rfl rfl ?_
              refine zv_get (v := .ref (a 1)) (C := RX3) (T := TX3) (N := 7) K 0 0 86 dX3_stake_83 rfl zy_X3 (zc_at (j := 0) (by decide)) rfl (by decide) zw_1_119 rfl ?_
              refine zv_iload K 88 dX3_stake_86 rfl rfl ?_
              refine zv_iconst K 5 89 dX3_stake_88 rfl (by decide) ?_
              refine zv_iload K 91 dX3_stake_89 rfl rfl ?_
              refine zv_cV0 K (q0 := 1) (As := [.int (nI n), .int 5, .int m]) (rest := []) 3 94 (kX0_put l D ty a (zp (zap σ n 0 ab vn) n 9 (nI n)) (nI n) 5 m n 5 rfl rfl hn (by decide)) dX3_stake_91 rfl zw_1_189 zw_1_178 zw_1_179 zw_1_2 zw_1_180 ⟨rfl, rfl⟩ zh_yX0_put ⟨by decide, by decide⟩ (zc_at (j := 1) (by decide)) rfl rfl rfl (zle rfl) rfl ?_
              refine zv_aload_n K 95 dX3_stake_94 rfl rfl ?_
              refine zv_get (v := .ref (a 1)) (C := RX3) (T := TX3) (N := 7) K 0 0 98 dX3_stake_95 rfl zy_X3 (zc_at (j := 0) (by decide)) rfl (by decide) zw_1_119 rfl ?_
              refine zv_iload K 100 dX3_stake_98 rfl rfl ?_
              refine zv_iload_n K 101 dX3_stake_100 rfl rfl ?_
              refine zv_aload_n K 102 dX3_stake_101 rfl rfl ?_
              refine zv_get (v := .int (σ.1 0 3)) (C := RX3) (T := TX3) (N := 7) K 0 3 105 dX3_stake_102 rfl zy_X3 (zc_at (j := 0) (by decide)) rfl (by decide) zw_1_122 rfl ?_
              refine zv_isub K 106 dX3_stake_105 rfl ?_
              refine zv_iconst K 0 107 dX3_stake_106 rfl (by decide) ?_
              refine zv_mmax K 110 dX3_stake_107 rfl zw_1_190 zw_1_191 zw_1_6 zw_1_192 (by decide) (zle rfl) rfl ?_
              refine zv_iload_n K 111 dX3_stake_110 rfl rfl ?_
              refine zv_aload_n K 112 dX3_stake_111 rfl rfl ?_
              refine zv_get (v := .int (σ.1 0 3)) (C := RX3) (T := TX3) (N := 7) K 0 3 115 dX3_stake_112 rfl zy_X3 (zc_at (j := 0) (by decide)) rfl (by decide) zw_1_122 rfl ?_
              refine zv_iadd K 116 dX3_stake_115 rfl ?_
              refine zv_bipush K 59 118 dX3_stake_116 rfl (by decide) ?_
              refine zv_mmin K 121 dX3_stake_118 rfl zw_1_193 zw_1_194 zw_1_6 zw_1_195 (by decide) (zle rfl) rfl ?_
              refine zv_cV0 K (q0 := 1) (As := [.int (nI n), .int (if (ft - (σ.1 0 3)) < 0 then 0 else (ft - (σ.1 0 3))), .int (if 59 < (ft + (σ.1 0 3)) then 59 else (ft + (σ.1 0 3)))]) (rest := []) 3 124 (kX0_putFeet l D ty a (zp (zp (zap σ n 0 ab vn) n 9 (nI n)) n 5 m) (nI n) (if (ft - (σ.1 0 3)) < 0 then 0 else (ft - (σ.1 0 3))) (if 59 < (ft + (σ.1 0 3)) then 59 else (ft + (σ.1 0 3))) n rfl hn) dX3_stake_121 rfl zw_1_196 zw_1_197 zw_1_198 zw_1_2 zw_1_199 ⟨rfl, rfl⟩ zh_yX0_putFeet ⟨by decide, by decide⟩ (zc_at (j := 1) (by decide)) rfl rfl rfl (zle rfl) rfl ?_
              refine zv_aload_n K 125 dX3_stake_124 rfl rfl ?_
              refine zv_get (v := .ref (a 1)) (C := RX3) (T := TX3) (N := 7) K 0 0 128 dX3_stake_125 rfl zy_X3 (zc_at (j := 0) (by decide)) rfl (by decide) zw_1_119 rfl ?_
              refine zv_dup K 129 dX3_stake_128 rfl rfl ?_
              refine zv_getN (v := .int (σ.1 1 2)) (C := RX0) (T := TX0) (N := 5) K 1 2 132 dX3_stake_129 rfl zy_X0 (zc_at (j := 1) (by decide)) rfl (by decide) zn_4 rfl ?_
              refine zv_iconst K 1 133 dX3_stake_132 rfl (by decide) ?_
              refine zv_iadd K 134 dX3_stake_133 rfl ?_
              refine zv_putN (C := RX0) (T := TX0) (N := 5) K 1 2 137 (zc a ty (zO (zp (zp (zp (zp (zap σ n 0 ab vn) n 9 (nI n)) n 5 m) n 6 (if (ft - (σ.1 0 3)) < 0 then 0 else (ft - (σ.1 0 3)))) n 7 (if 59 < (ft + (σ.1 0 3)) then 59 else (ft + (σ.1 0 3)))) 1 2 ((σ.1 1 2) + 1))) dX3_stake_134 rfl zy_X0 tyX0_ok nmX0 (zc_at (j := 1) (by decide)) rfl (by decide) zn_4 rfl rfl rfl rfl (zlt rfl) (zc_O 1 2 (by decide) rfl) ?_
              refine zv_iload K 139 dX3_stake_137 rfl rfl ?_
              exact zv_iret K T dX3_stake_139 (⟨by simp only [fX3_stake, if_pos h1, if_pos h2, if_pos h3, if_pos h4, if_neg hfu, if_pos h6], by simp only [fX3_stake, if_pos h1, if_pos h2, if_pos h3, if_pos h4, if_neg hfu, if_pos h6]⟩)
            · skip
              refine zv_bipush K (-2) 56 dX3_stake_54 rfl (by decide) ?_
              exact zv_iret K T dX3_stake_56 (⟨by simp only [fX3_stake, if_pos h1, if_pos h2, if_pos h3, if_pos h4, if_neg hfu, if_neg h6], by simp only [fX3_stake, if_pos h1, if_pos h2, if_pos h3, if_pos h4, if_neg hfu, if_neg h6]⟩)
        · skip
          refine zv_iconst K (-1) 31 dX3_stake_30 rfl (by decide) ?_
          exact zv_iret K T dX3_stake_31 (⟨by simp only [fX3_stake, if_pos h1, if_pos h2, if_pos h3, if_neg h4], by simp only [fX3_stake, if_pos h1, if_pos h2, if_pos h3, if_neg h4]⟩)

def fX3_dig (σ : zC) (n : Nat) (ab : Int32) (vn : Int32) (ft : Int32) (v : Int32) : Int32 × zC :=
  if (0 ≤ ab ∧ ab ≤ σ.1 1 0) then
    if (0 ≤ vn ∧ vn ≤ 3) then
      if (0 ≤ ft ∧ ft ≤ 59) then
        if (1 ≤ v ∧ v ≤ 1000) then
          if (90 ≤ σ.1 1 1) then
            ((-2), σ)
          else
            (nI n, (zp (zp (zp (zap σ n 6 ab vn) n 6 ft) n 7 ft) n 8 v))
        else
          ((-1), σ)
      else
        ((-1), σ)
    else
      ((-1), σ)
  else
    ((-1), σ)
set_option maxHeartbeats 4000000 in
set_option maxRecDepth 100000 in
theorem kX3_dig (l : Launch) (D : va_G) (ty : zTy) (a : Nat → Nat) (σ : zC) (O : Nat → Nat) (n : Nat) (hI : zI σ O n) (ab vn ft v : Int32) : zv_ct l D ty yX3_dig cX3_dig 6 (some .int) (zR 3 70) [.ref (a 0), .int ab, .int vn, .int ft, .int v] (zc a ty σ) (fun v_ w_ => v_ = some (.int (fX3_dig σ n ab vn ft v).1) ∧ w_ = zc a ty (fX3_dig σ n ab vn ft v).2) := by
  refine zv_open (by decide) rfl rfl [some (.ref (a 0)), some (.int ab), some (.int vn), some (.int ft), some (.int v), none] (by simp [zv_one, Value.category]) (zle rfl) rfl ?_
  intro k K T
  refine zv_aload_n K 1 dX3_dig_0 rfl rfl ?_
  refine zv_iload_n K 2 dX3_dig_1 rfl rfl ?_
  refine zv_cV1 K (q0 := 0) (As := [.int ab]) (rest := []) 1 5 (kX3_isPast l D ty a σ ab) dX3_dig_2 rfl zw_1_156 zw_1_158 zw_p1_0 zw_1_1 zw_1_159 ⟨rfl, rfl⟩ zh_yX3_isPast ⟨by decide, by decide⟩ (zc_at (j := 0) (by decide)) rfl rfl rfl (zle rfl) rfl ?_
  refine zv_ifB_eq K 34 8 dX3_dig_5 (by decide) rfl (fun h1 => ?_) (fun h1 => ?_)
  · skip
    refine zv_iconst K (-1) 35 dX3_dig_34 rfl (by decide) ?_
    exact zv_iret K T dX3_dig_35 (⟨by simp only [fX3_dig, if_neg h1], by simp only [fX3_dig, if_neg h1]⟩)
  · skip
    refine zv_iload_n K 9 dX3_dig_8 rfl rfl ?_
    refine zv_cS1 K (As := [.int vn]) (rest := []) 1 12 (kX3_isVein l D ty (zc a ty σ) vn) dX3_dig_9 rfl zw_1_160 zw_1_161 zw_1_1 zw_1_162 ⟨rfl, rfl⟩ zh_yX3_isVein ⟨by decide, by decide⟩ rfl rfl (zle rfl) rfl ?_
    refine zv_ifB_eq K 34 15 dX3_dig_12 (by decide) rfl (fun h2 => ?_) (fun h2 => ?_)
    · skip
      refine zv_iconst K (-1) 35 dX3_dig_34 rfl (by decide) ?_
      exact zv_iret K T dX3_dig_35 (⟨by simp only [fX3_dig, if_pos h1, if_neg h2], by simp only [fX3_dig, if_pos h1, if_neg h2]⟩)
    · skip
      refine zv_iload_n K 16 dX3_dig_15 rfl rfl ?_
      refine zv_cS1 K (As := [.int ft]) (rest := []) 1 19 (kX3_isFoot l D ty (zc a ty σ) ft) dX3_dig_16 rfl zw_1_163 zw_1_164 zw_1_1 zw_1_165 ⟨rfl, rfl⟩ zh_yX3_isFoot ⟨by decide, by decide⟩ rfl rfl (zle rfl) rfl ?_
      refine zv_ifB_eq K 34 22 dX3_dig_19 (by decide) rfl (fun h3 => ?_) (fun h3 => ?_)
      · skip
        refine zv_iconst K (-1) 35 dX3_dig_34 rfl (by decide) ?_
        exact zv_iret K T dX3_dig_35 (⟨by simp only [fX3_dig, if_pos h1, if_pos h2, if_neg h3], by simp only [fX3_dig, if_pos h1, if_pos h2, if_neg h3]⟩)
      · skip
        refine zv_iload K 24 dX3_dig_22 rfl rfl ?_
        refine zv_iconst K 1 25 dX3_dig_24 rfl (by decide) ?_
        refine zv_sipush K 1000 28 dX3_dig_25 rfl (by decide) ?_
        refine zv_cS1 K (As := [.int v, .int 1, .int 1000]) (rest := []) 3 31 (kX3_isWithin l D ty (zc a ty σ) v 1 1000) dX3_dig_28 rfl zw_1_145 zw_1_146 zw_1_1 zw_1_147 ⟨rfl, rfl⟩ zh_yX3_isWithin ⟨by decide, by decide⟩ rfl rfl (zle rfl) rfl ?_
        refine zv_ifB_ne K 36 34 dX3_dig_31 (by decide) rfl (fun h4 => ?_) (fun h4 => ?_)
        · skip
          refine zv_aload_n K 37 dX3_dig_36 rfl rfl ?_
          refine zv_get (v := .ref (a 1)) (C := RX3) (T := TX3) (N := 7) K 0 0 40 dX3_dig_37 rfl zy_X3 (zc_at (j := 0) (by decide)) rfl (by decide) zw_1_119 rfl ?_
          refine zv_cV1 K (q0 := 1) (As := []) (rest := []) 0 43 (kX0_isFull l D ty a σ) dX3_dig_40 rfl zw_1_169 zw_1_170 zw_1_171 zw_1_2 zw_1_172 ⟨rfl, rfl⟩ zh_yX0_isFull ⟨by decide, by decide⟩ (zc_at (j := 1) (by decide)) rfl rfl rfl (zle rfl) rfl ?_
          refine zv_ifB_eq K 49 46 dX3_dig_43 (by decide) rfl (fun hfu => ?_) (fun hfu => ?_)
          · skip
            have hn := z_nf hI hfu
            have hc := hI.2.1
            have hG := hI.val
            refine zv_aload_n K 50 dX3_dig_49 rfl rfl ?_
            refine zv_get (v := .ref (a 1)) (C := RX3) (T := TX3) (N := 7) K 0 0 53 dX3_dig_50 rfl zy_X3 (zc_at (j := 0) (by decide)) rfl (by decide) zw_1_119 rfl ?_
            refine zv_bipush K 6 55 dX3_dig_53 rfl (by decide) ?_
            refine zv_iload_n K 56 dX3_dig_55 rfl rfl ?_
            refine zv_iload_n K 57 dX3_dig_56 rfl rfl ?_
            refine zv_cV1 K (q0 := 1) (As := [.int 6, .int ab, .int vn]) (rest := []) 3 60 (kX0_append l D ty a σ 6 ab vn n hn hc hG) dX3_dig_57 rfl zw_1_173 zw_1_174 zw_1_175 zw_1_2 zw_1_176 ⟨rfl, rfl⟩ zh_yX0_append ⟨by decide, by decide⟩ (zc_at (j := 1) (by decide)) rfl rfl rfl (zle rfl) rfl ?_
            refine zv_istore K [some (.ref (a 0)), some (.int ab), some (.int vn), some (.int ft), some (.int v), some (.int (nI n))] 62 dX3_dig_60 rfl rfl (zlt rfl) ?_
            refine zv_aload_n K 63 dX3_dig_62 rfl rfl ?_
            refine zv_get (v := .ref (a 1)) (C := RX3) (T := TX3) (N := 7) K 0 0 66 dX3_dig_63 rfl zy_X3 (zc_at (j := 0) (by decide)) rfl (by decide) zw_1_119 rfl ?_
            refine zv_iload K 68 dX3_dig_66 rfl rfl ?_
            refine zv_iload_n K 69 dX3_dig_68 rfl rfl ?_
            refine zv_iload_n K 70 dX3_dig_69 rfl rfl ?_
            refine zv_cV0 K (q0 := 1) (As := [.int (nI n), .int ft, .int ft]) (rest := []) 3 73 (kX0_putFeet l D ty a (zap σ n 6 ab vn) (nI n) ft ft n rfl hn) dX3_dig_70 rfl zw_1_196 zw_1_197 zw_1_198 zw_1_2 zw_1_199 ⟨rfl, rfl⟩ zh_yX0_putFeet ⟨by decide, by decide⟩ (zc_at (j := 1) (by decide)) rfl rfl rfl (zle rfl) rfl ?_
            refine zv_aload_n K 74 dX3_dig_73 rfl rfl ?_
            refine zv_get (v := .ref (a 1)) (C := RX3) (T := TX3) (N := 7) K 0 0 77 dX3_dig_74 rfl zy_X3 (zc_at (j := 0) (by decide)) rfl (by decide) zw_1_119 rfl ?_
            refine zv_iload K 79 dX3_dig_77 rfl rfl ?_
            refine zv_bipush K 8 81 dX3_dig_79 rfl (by decide) ?_
            refine zv_iload K 83 dX3_dig_81 rfl rfl ?_
            refine zv_cV0 K (q0 := 1) (As := [.int (nI n), .int 8, .int v]) (rest := []) 3 86 (kX0_put l D ty a (zp (zp (zap σ n 6 ab vn) n 6 ft) n 7 ft) (nI n) 8 v n 8 rfl rfl hn (by decide)) dX3_dig_83 rfl zw_1_189 zw_1_178 zw_1_179 zw_1_2 zw_1_180 ⟨rfl, rfl⟩ zh_yX0_put ⟨by decide, by decide⟩ (zc_at (j := 1) (by decide)) rfl rfl rfl (zle rfl) rfl ?_
            refine zv_iload K 88 dX3_dig_86 rfl rfl ?_
            exact zv_iret K T dX3_dig_88 (⟨by simp only [fX3_dig, if_pos h1, if_pos h2, if_pos h3, if_pos h4, if_neg hfu], by simp only [fX3_dig, if_pos h1, if_pos h2, if_pos h3, if_pos h4, if_neg hfu]⟩)
          · skip
            refine zv_bipush K (-2) 48 dX3_dig_46 rfl (by decide) ?_
            exact zv_iret K T dX3_dig_48 (⟨by simp only [fX3_dig, if_pos h1, if_pos h2, if_pos h3, if_pos h4, if_pos hfu], by simp only [fX3_dig, if_pos h1, if_pos h2, if_pos h3, if_pos h4, if_pos hfu]⟩)
        · skip
          refine zv_iconst K (-1) 35 dX3_dig_34 rfl (by decide) ?_
          exact zv_iret K T dX3_dig_35 (⟨by simp only [fX3_dig, if_pos h1, if_pos h2, if_pos h3, if_neg h4], by simp only [fX3_dig, if_pos h1, if_pos h2, if_pos h3, if_neg h4]⟩)

def fX3_withdraw (σ : zC) (x : Int32) : Int32 × zC :=
  if (0 ≤ x ∧ x < σ.1 1 1) then
    if (¬ zg σ x.toNatClampNeg 3 = -4) then
      ((-5), σ)
    else
      (1, (zp σ x.toNatClampNeg 3 (σ.1 1 0)))
  else
    ((-1), σ)
set_option maxHeartbeats 4000000 in
set_option maxRecDepth 100000 in
theorem kX3_withdraw (l : Launch) (D : va_G) (ty : zTy) (a : Nat → Nat) (σ : zC) (O : Nat → Nat) (n : Nat) (hI : zI σ O n) (x : Int32) : zv_ct l D ty yX3_withdraw cX3_withdraw 2 (some .int) (zR 2 43) [.ref (a 0), .int x] (zc a ty σ) (fun v_ w_ => v_ = some (.int (fX3_withdraw σ x).1) ∧ w_ = zc a ty (fX3_withdraw σ x).2) := by
  refine zv_open (by decide) rfl rfl [some (.ref (a 0)), some (.int x)] (by simp [zv_one, Value.category]) (zle rfl) rfl ?_
  intro k K T
  refine zv_aload_n K 1 dX3_withdraw_0 rfl rfl ?_
  refine zv_get (v := .ref (a 1)) (C := RX3) (T := TX3) (N := 7) K 0 0 4 dX3_withdraw_1 rfl zy_X3 (zc_at (j := 0) (by decide)) rfl (by decide) zw_1_119 rfl ?_
  refine zv_iload_n K 5 dX3_withdraw_4 rfl rfl ?_
  refine zv_cV1 K (q0 := 1) (As := [.int x]) (rest := []) 1 8 (kX0_has l D ty a σ x) dX3_withdraw_5 rfl zw_1_208 zw_1_209 zw_1_210 zw_1_2 zw_1_211 ⟨rfl, rfl⟩ zh_yX0_has ⟨by decide, by decide⟩ (zc_at (j := 1) (by decide)) rfl rfl rfl (zle rfl) rfl ?_
  refine zv_ifB_ne K 13 11 dX3_withdraw_8 (by decide) rfl (fun hh => ?_) (fun hh => ?_)
  · skip
    obtain ⟨hx, hf⟩ := z_has hI hh
    refine zv_aload_n K 14 dX3_withdraw_13 rfl rfl ?_
    refine zv_get (v := .ref (a 1)) (C := RX3) (T := TX3) (N := 7) K 0 0 17 dX3_withdraw_14 rfl zy_X3 (zc_at (j := 0) (by decide)) rfl (by decide) zw_1_119 rfl ?_
    refine zv_iload_n K 18 dX3_withdraw_17 rfl rfl ?_
    refine zv_cV1 K (q0 := 1) (As := [.int x]) (rest := []) 1 21 (kX0_isWithdrawn l D ty a σ x x.toNatClampNeg hx hf) dX3_withdraw_18 rfl zw_2_5 zw_2_6 zw_2_7 zw_1_2 zw_2_8 ⟨rfl, rfl⟩ zh_yX0_isWithdrawn ⟨by decide, by decide⟩ (zc_at (j := 1) (by decide)) rfl rfl rfl (zle rfl) rfl ?_
    refine zv_ifB_eq K 27 24 dX3_withdraw_21 (by decide) rfl (fun h2 => ?_) (fun h2 => ?_)
    · skip
      refine zv_aload_n K 28 dX3_withdraw_27 rfl rfl ?_
      refine zv_get (v := .ref (a 1)) (C := RX3) (T := TX3) (N := 7) K 0 0 31 dX3_withdraw_28 rfl zy_X3 (zc_at (j := 0) (by decide)) rfl (by decide) zw_1_119 rfl ?_
      refine zv_iload_n K 32 dX3_withdraw_31 rfl rfl ?_
      refine zv_iconst K 3 33 dX3_withdraw_32 rfl (by decide) ?_
      refine zv_aload_n K 34 dX3_withdraw_33 rfl rfl ?_
      refine zv_get (v := .ref (a 1)) (C := RX3) (T := TX3) (N := 7) K 0 0 37 dX3_withdraw_34 rfl zy_X3 (zc_at (j := 0) (by decide)) rfl (by decide) zw_1_119 rfl ?_
      refine zv_getN (v := .int (σ.1 1 0)) (C := RX0) (T := TX0) (N := 5) K 1 0 40 dX3_withdraw_37 rfl zy_X0 (zc_at (j := 1) (by decide)) rfl (by decide) zn_1 rfl ?_
      refine zv_cV0 K (q0 := 1) (As := [.int x, .int 3, .int (σ.1 1 0)]) (rest := []) 3 43 (kX0_put l D ty a σ x 3 (σ.1 1 0) x.toNatClampNeg 3 hx rfl hf (by decide)) dX3_withdraw_40 rfl zw_1_189 zw_1_178 zw_1_179 zw_1_2 zw_1_180 ⟨rfl, rfl⟩ zh_yX0_put ⟨by decide, by decide⟩ (zc_at (j := 1) (by decide)) rfl rfl rfl (zle rfl) rfl ?_
      refine zv_iconst K 1 44 dX3_withdraw_43 rfl (by decide) ?_
      exact zv_iret K T dX3_withdraw_44 (⟨by simp only [fX3_withdraw, if_pos hh, if_neg h2], by simp only [fX3_withdraw, if_pos hh, if_neg h2]⟩)
    · skip
      refine zv_bipush K (-5) 26 dX3_withdraw_24 rfl (by decide) ?_
      exact zv_iret K T dX3_withdraw_26 (⟨by simp only [fX3_withdraw, if_pos hh, if_pos h2], by simp only [fX3_withdraw, if_pos hh, if_pos h2]⟩)
  · skip
    refine zv_iconst K (-1) 12 dX3_withdraw_11 rfl (by decide) ?_
    exact zv_iret K T dX3_withdraw_12 (⟨by simp only [fX3_withdraw, if_neg hh], by simp only [fX3_withdraw, if_neg hh]⟩)

def fX3_fact (σ : zC) (x : Int32) (y : Int32) : Int32 :=
  if (0 ≤ x ∧ x < σ.1 1 1) then
    if (0 ≤ y ∧ y ≤ 9) then
      (zg σ x.toNatClampNeg y.toNatClampNeg)
    else
      (-1)
  else
    (-1)
set_option maxHeartbeats 4000000 in
set_option maxRecDepth 100000 in
theorem kX3_fact (l : Launch) (D : va_G) (ty : zTy) (a : Nat → Nat) (σ : zC) (O : Nat → Nat) (n : Nat) (hI : zI σ O n) (x y : Int32) : zv_ct l D ty yX3_fact cX3_fact 3 (some .int) (zR 1 22) [.ref (a 0), .int x, .int y] (zc a ty σ) (fun v_ w_ => v_ = some (.int (fX3_fact σ x y)) ∧ w_ = zc a ty σ) := by
  refine zv_open (by decide) rfl rfl [some (.ref (a 0)), some (.int x), some (.int y)] (by simp [zv_one, Value.category]) (zle rfl) rfl ?_
  intro k K T
  refine zv_aload_n K 1 dX3_fact_0 rfl rfl ?_
  refine zv_get (v := .ref (a 1)) (C := RX3) (T := TX3) (N := 7) K 0 0 4 dX3_fact_1 rfl zy_X3 (zc_at (j := 0) (by decide)) rfl (by decide) zw_1_119 rfl ?_
  refine zv_iload_n K 5 dX3_fact_4 rfl rfl ?_
  refine zv_cV1 K (q0 := 1) (As := [.int x]) (rest := []) 1 8 (kX0_has l D ty a σ x) dX3_fact_5 rfl zw_1_208 zw_1_209 zw_1_210 zw_1_2 zw_1_211 ⟨rfl, rfl⟩ zh_yX0_has ⟨by decide, by decide⟩ (zc_at (j := 1) (by decide)) rfl rfl rfl (zle rfl) rfl ?_
  refine zv_ifB_eq K 21 11 dX3_fact_8 (by decide) rfl (fun hh => ?_) (fun hh => ?_)
  · skip
    refine zv_iconst K (-1) 22 dX3_fact_21 rfl (by decide) ?_
    exact zv_iret K T dX3_fact_22 (⟨by simp only [fX3_fact, if_neg hh], rfl⟩)
  · skip
    refine zv_iload_n K 12 dX3_fact_11 rfl rfl ?_
    refine zv_iconst K 0 13 dX3_fact_12 rfl (by decide) ?_
    refine zv_bipush K 9 15 dX3_fact_13 rfl (by decide) ?_
    refine zv_cS1 K (As := [.int y, .int 0, .int 9]) (rest := []) 3 18 (kX3_isWithin l D ty (zc a ty σ) y 0 9) dX3_fact_15 rfl zw_1_145 zw_1_146 zw_1_1 zw_1_147 ⟨rfl, rfl⟩ zh_yX3_isWithin ⟨by decide, by decide⟩ rfl rfl (zle rfl) rfl ?_
    refine zv_ifB_ne K 23 21 dX3_fact_18 (by decide) rfl (fun hw => ?_) (fun hw => ?_)
    · skip
      obtain ⟨hx, hf⟩ := z_has hI hh
      obtain ⟨hy, hy9⟩ := z_upto (m := 9) hw (by decide)
      refine zv_aload_n K 24 dX3_fact_23 rfl rfl ?_
      refine zv_get (v := .ref (a 1)) (C := RX3) (T := TX3) (N := 7) K 0 0 27 dX3_fact_24 rfl zy_X3 (zc_at (j := 0) (by decide)) rfl (by decide) zw_1_119 rfl ?_
      refine zv_iload_n K 28 dX3_fact_27 rfl rfl ?_
      refine zv_iload_n K 29 dX3_fact_28 rfl rfl ?_
      refine zv_cV1 K (q0 := 1) (As := [.int x, .int y]) (rest := []) 2 32 (kX0_get l D ty a σ x y x.toNatClampNeg y.toNatClampNeg hx hy hf (by omega)) dX3_fact_29 rfl zw_2_13 zw_1_186 zw_1_187 zw_1_2 zw_1_188 ⟨rfl, rfl⟩ zh_yX0_get ⟨by decide, by decide⟩ (zc_at (j := 1) (by decide)) rfl rfl rfl (zle rfl) rfl ?_
      exact zv_iret K T dX3_fact_32 (⟨by simp only [fX3_fact, if_pos hh, if_pos hw], rfl⟩)
    · skip
      refine zv_iconst K (-1) 22 dX3_fact_21 rfl (by decide) ?_
      exact zv_iret K T dX3_fact_22 (⟨by simp only [fX3_fact, if_pos hh, if_neg hw], rfl⟩)

def fX3_many (σ : zC) (n : Nat) (x : Int32) : Int32 :=
  if x = 0 then
    (σ.1 1 1)
  else
    if x = 1 then
      (σ.1 1 2)
    else
      if x = 2 then
        (nI (zct (fun f => decide (¬ zg σ f 3 = -4)) n))
      else
        if x = 3 then
          (σ.1 1 0)
        else
          if x = 4 then
            (σ.1 0 3)
          else
            if x = 5 then
              (σ.1 0 4)
            else
              (-1)
set_option maxHeartbeats 4000000 in
set_option maxRecDepth 100000 in
theorem kX3_many (l : Launch) (D : va_G) (ty : zTy) (a : Nat → Nat) (σ : zC) (O : Nat → Nat) (n : Nat) (hI : zI σ O n) (x : Int32) : zv_ct l D ty yX3_many cX3_many 2 (some .int) (zR 3 65) [.ref (a 0), .int x] (zc a ty σ) (fun v_ w_ => v_ = some (.int (fX3_many σ n x)) ∧ w_ = zc a ty σ) := by
  refine zv_open (by decide) rfl rfl [some (.ref (a 0)), some (.int x)] (by simp [zv_one, Value.category]) (zle rfl) rfl ?_
  intro k K T
  refine zv_iload_n K 1 dX3_many_0 rfl rfl ?_
  by_cases e_0 : x = 0
  · refine zv_tableIn (off := 39) K 40 dX3_many_1 (by rw [e_0]; decide) (by rw [e_0]; decide) (by rw [e_0]; rfl) (by decide) ?_
    refine zv_aload_n K 41 dX3_many_40 rfl rfl ?_
    refine zv_get (v := .ref (a 1)) (C := RX3) (T := TX3) (N := 7) K 0 0 44 dX3_many_41 rfl zy_X3 (zc_at (j := 0) (by decide)) rfl (by decide) zw_1_119 rfl ?_
    refine zv_getN (v := .int (σ.1 1 1)) (C := RX0) (T := TX0) (N := 5) K 1 1 47 dX3_many_44 rfl zy_X0 (zc_at (j := 1) (by decide)) rfl (by decide) zn_3 rfl ?_
    exact zv_iret K T dX3_many_47 (⟨by simp only [fX3_many, if_pos e_0], rfl⟩)
  · skip
    by_cases e_1 : x = 1
    · refine zv_tableIn (off := 47) K 48 dX3_many_1 (by rw [e_1]; decide) (by rw [e_1]; decide) (by rw [e_1]; rfl) (by decide) ?_
      refine zv_aload_n K 49 dX3_many_48 rfl rfl ?_
      refine zv_get (v := .ref (a 1)) (C := RX3) (T := TX3) (N := 7) K 0 0 52 dX3_many_49 rfl zy_X3 (zc_at (j := 0) (by decide)) rfl (by decide) zw_1_119 rfl ?_
      refine zv_getN (v := .int (σ.1 1 2)) (C := RX0) (T := TX0) (N := 5) K 1 2 55 dX3_many_52 rfl zy_X0 (zc_at (j := 1) (by decide)) rfl (by decide) zn_4 rfl ?_
      exact zv_iret K T dX3_many_55 (⟨by simp only [fX3_many, if_neg e_0, if_pos e_1], rfl⟩)
    · skip
      by_cases e_2 : x = 2
      · refine zv_tableIn (off := 55) K 56 dX3_many_1 (by rw [e_2]; decide) (by rw [e_2]; decide) (by rw [e_2]; rfl) (by decide) ?_
        have hn := hI.1
        have hc := hI.2.1
        refine zv_aload_n K 57 dX3_many_56 rfl rfl ?_
        refine zv_get (v := .ref (a 1)) (C := RX3) (T := TX3) (N := 7) K 0 0 60 dX3_many_57 rfl zy_X3 (zc_at (j := 0) (by decide)) rfl (by decide) zw_1_119 rfl ?_
        refine zv_cV1 K (q0 := 1) (As := []) (rest := []) 0 63 (kX0_countWithdrawn l D ty a σ n hn hc) dX3_many_60 rfl zw_2_163 zw_2_164 zw_2_165 zw_1_2 zw_2_166 ⟨rfl, rfl⟩ zh_yX0_countWithdrawn ⟨by decide, by decide⟩ (zc_at (j := 1) (by decide)) rfl rfl rfl (zle rfl) rfl ?_
        exact zv_iret K T dX3_many_63 (⟨by simp only [fX3_many, if_neg e_0, if_neg e_1, if_pos e_2], rfl⟩)
      · skip
        by_cases e_3 : x = 3
        · refine zv_tableIn (off := 63) K 64 dX3_many_1 (by rw [e_3]; decide) (by rw [e_3]; decide) (by rw [e_3]; rfl) (by decide) ?_
          refine zv_aload_n K 65 dX3_many_64 rfl rfl ?_
          refine zv_get (v := .ref (a 1)) (C := RX3) (T := TX3) (N := 7) K 0 0 68 dX3_many_65 rfl zy_X3 (zc_at (j := 0) (by decide)) rfl (by decide) zw_1_119 rfl ?_
          refine zv_getN (v := .int (σ.1 1 0)) (C := RX0) (T := TX0) (N := 5) K 1 0 71 dX3_many_68 rfl zy_X0 (zc_at (j := 1) (by decide)) rfl (by decide) zn_1 rfl ?_
          exact zv_iret K T dX3_many_71 (⟨by simp only [fX3_many, if_neg e_0, if_neg e_1, if_neg e_2, if_pos e_3], rfl⟩)
        · skip
          by_cases e_4 : x = 4
          · refine zv_tableIn (off := 71) K 72 dX3_many_1 (by rw [e_4]; decide) (by rw [e_4]; decide) (by rw [e_4]; rfl) (by decide) ?_
            refine zv_aload_n K 73 dX3_many_72 rfl rfl ?_
            refine zv_get (v := .int (σ.1 0 3)) (C := RX3) (T := TX3) (N := 7) K 0 3 76 dX3_many_73 rfl zy_X3 (zc_at (j := 0) (by decide)) rfl (by decide) zw_1_122 rfl ?_
            exact zv_iret K T dX3_many_76 (⟨by simp only [fX3_many, if_neg e_0, if_neg e_1, if_neg e_2, if_neg e_3, if_pos e_4], rfl⟩)
          · skip
            by_cases e_5 : x = 5
            · refine zv_tableIn (off := 76) K 77 dX3_many_1 (by rw [e_5]; decide) (by rw [e_5]; decide) (by rw [e_5]; rfl) (by decide) ?_
              refine zv_aload_n K 78 dX3_many_77 rfl rfl ?_
              refine zv_get (v := .int (σ.1 0 4)) (C := RX3) (T := TX3) (N := 7) K 0 4 81 dX3_many_78 rfl zy_X3 (zc_at (j := 0) (by decide)) rfl (by decide) zw_1_123 rfl ?_
              exact zv_iret K T dX3_many_81 (⟨by simp only [fX3_many, if_neg e_0, if_neg e_1, if_neg e_2, if_neg e_3, if_neg e_4, if_pos e_5], rfl⟩)
            · skip
              refine zv_tableOut K 82 dX3_many_1 (by have n_0 := lv_neT e_0 (a := 0) rfl; have n_1 := lv_neT e_1 (a := 1) rfl; have n_2 := lv_neT e_2 (a := 2) rfl; have n_3 := lv_neT e_3 (a := 3) rfl; have n_4 := lv_neT e_4 (a := 4) rfl; have n_5 := lv_neT e_5 (a := 5) rfl; omega) (by decide) ?_
              refine zv_iconst K (-1) 83 dX3_many_82 rfl (by decide) ?_
              exact zv_iret K T dX3_many_83 (⟨by simp only [fX3_many, if_neg e_0, if_neg e_1, if_neg e_2, if_neg e_3, if_neg e_4, if_neg e_5], rfl⟩)

def fX3_keep (σ : zC) : Int32 × zC :=
  (1, (zO (zcp2 σ ) 0 2 1))
set_option maxHeartbeats 4000000 in
set_option maxRecDepth 100000 in
theorem kX3_keep (l : Launch) (D : va_G) (ty : zTy) (a : Nat → Nat) (σ : zC) : zv_ct l D ty yX3_keep cX3_keep 1 (some .int) (zR 2 61) [.ref (a 0)] (zc a ty σ) (fun v_ w_ => v_ = some (.int (fX3_keep σ).1) ∧ w_ = zc a ty (fX3_keep σ).2) := by
  refine zv_open (by decide) rfl rfl [some (.ref (a 0))] (by simp [zv_one, Value.category]) (zle rfl) rfl ?_
  intro k K T
  refine zv_aload_n K 1 dX3_keep_0 rfl rfl ?_
  refine zv_get (v := .ref (a 2)) (C := RX3) (T := TX3) (N := 7) K 0 1 4 dX3_keep_1 rfl zy_X3 (zc_at (j := 0) (by decide)) rfl (by decide) zw_1_120 rfl ?_
  refine zv_aload_n K 5 dX3_keep_4 rfl rfl ?_
  refine zv_get (v := .ref (a 1)) (C := RX3) (T := TX3) (N := 7) K 0 0 8 dX3_keep_5 rfl zy_X3 (zc_at (j := 0) (by decide)) rfl (by decide) zw_1_119 rfl ?_
  refine zv_cV0 K (q0 := 2) (As := [.ref (a 1)]) (rest := []) 1 11 (kX0_copyFrom2 l D ty a σ) dX3_keep_8 rfl zw_2_171 zw_2_172 zw_2_173 zw_1_2 zw_2_174 ⟨rfl, rfl⟩ zh_yX0_copyFrom ⟨by decide, by decide⟩ (zc_at (j := 2) (by decide)) rfl rfl rfl (zle rfl) rfl ?_
  refine zv_aload_n K 12 dX3_keep_11 rfl rfl ?_
  refine zv_iconst K 1 13 dX3_keep_12 rfl (by decide) ?_
  refine zv_put (C := RX3) (T := TX3) (N := 7) K 0 2 16 (zc a ty (zO (zcp2 σ ) 0 2 1)) dX3_keep_13 rfl zy_X3 tyX3_ok nmX3 (zc_at (j := 0) (by decide)) rfl (by decide) zw_1_121 rfl rfl rfl rfl (zlt rfl) (zc_O 0 2 (by decide) rfl) ?_
  refine zv_iconst K 1 17 dX3_keep_16 rfl (by decide) ?_
  exact zv_iret K T dX3_keep_17 (⟨by simp only [fX3_keep], by simp only [fX3_keep]⟩)

def fX3_back (σ : zC) : Int32 × zC :=
  if (σ.1 0 2) = 0 then
    ((-4), σ)
  else
    (1, (zcp1 σ ))
set_option maxHeartbeats 4000000 in
set_option maxRecDepth 100000 in
theorem kX3_back (l : Launch) (D : va_G) (ty : zTy) (a : Nat → Nat) (σ : zC) : zv_ct l D ty yX3_back cX3_back 1 (some .int) (zR 2 61) [.ref (a 0)] (zc a ty σ) (fun v_ w_ => v_ = some (.int (fX3_back σ).1) ∧ w_ = zc a ty (fX3_back σ).2) := by
  refine zv_open (by decide) rfl rfl [some (.ref (a 0))] (by simp [zv_one, Value.category]) (zle rfl) rfl ?_
  intro k K T
  refine zv_aload_n K 1 dX3_back_0 rfl rfl ?_
  refine zv_get (v := .int (σ.1 0 2)) (C := RX3) (T := TX3) (N := 7) K 0 2 4 dX3_back_1 rfl zy_X3 (zc_at (j := 0) (by decide)) rfl (by decide) zw_1_121 rfl ?_
  refine zv_if_ne K 10 7 dX3_back_4 (by decide) rfl (fun h1 => ?_) (fun h1 => ?_)
  · skip
    refine zv_aload_n K 11 dX3_back_10 rfl rfl ?_
    refine zv_get (v := .ref (a 1)) (C := RX3) (T := TX3) (N := 7) K 0 0 14 dX3_back_11 rfl zy_X3 (zc_at (j := 0) (by decide)) rfl (by decide) zw_1_119 rfl ?_
    refine zv_aload_n K 15 dX3_back_14 rfl rfl ?_
    refine zv_get (v := .ref (a 2)) (C := RX3) (T := TX3) (N := 7) K 0 1 18 dX3_back_15 rfl zy_X3 (zc_at (j := 0) (by decide)) rfl (by decide) zw_1_120 rfl ?_
    refine zv_cV0 K (q0 := 1) (As := [.ref (a 2)]) (rest := []) 1 21 (kX0_copyFrom1 l D ty a σ) dX3_back_18 rfl zw_2_171 zw_2_172 zw_2_173 zw_1_2 zw_2_174 ⟨rfl, rfl⟩ zh_yX0_copyFrom ⟨by decide, by decide⟩ (zc_at (j := 1) (by decide)) rfl rfl rfl (zle rfl) rfl ?_
    refine zv_iconst K 1 22 dX3_back_21 rfl (by decide) ?_
    exact zv_iret K T dX3_back_22 (⟨by simp only [fX3_back, if_neg h1], by simp only [fX3_back, if_neg h1]⟩)
  · skip
    refine zv_bipush K (-4) 9 dX3_back_7 rfl (by decide) ?_
    exact zv_iret K T dX3_back_9 (⟨by simp only [fX3_back, if_pos h1], by simp only [fX3_back, if_pos h1]⟩)
end
section
/-- a claim's feet are feet -/
def zft (σ : zC) (q : Nat) : Prop := ∃ p l : Nat, σ.1 (q + 11) 3 = nI p ∧ σ.1 (q + 11) 4 = nI l ∧ p ≤ l ∧ l < 60
theorem zft.is {σ : zC} {q : Nat} (h : zft σ q) : σ.1 (q + 11) 3 = nI (σ.1 (q + 11) 3).toNatClampNeg ∧ σ.1 (q + 11) 4 = nI (σ.1 (q + 11) 4).toNatClampNeg ∧ (σ.1 (q + 11) 3).toNatClampNeg ≤ (σ.1 (q + 11) 4).toNatClampNeg ∧ (σ.1 (q + 11) 4).toNatClampNeg < 60 := by
  obtain ⟨p, l, h1, h2, h3, h4⟩ := h
  rw [h1, h2, nI_clamp (by omega), nI_clamp (by omega)]
  exact ⟨rfl, rfl, h3, h4⟩
def fX3_tellOf (σ : zC) (c : Nat) (q0 : Nat) (x : Int32) (d : Int32) : Int32 :=
  if x = 0 then
    (σ.1 (q0 + 11) 5)
  else
    if x = 1 then
      (σ.1 (q0 + 11) 3)
    else
      if x = 2 then
        (σ.1 (q0 + 11) 4)
      else
        if x = 3 then
          (σ.1 (q0 + 11) 6)
        else
          if x = 4 then
            if ((σ.1 0 4) < d - ((σ.1 (q0 + 11)) 6)) then
              1
            else
              0
          else
            if x = 5 then
              (σ.1 (q0 + 11) 7)
            else
              (nI (zct (zownb σ c q0 (σ.1 (q0 + 11) 3).toNatClampNeg) ((σ.1 (q0 + 11) 4).toNatClampNeg + 1)))
set_option maxHeartbeats 4000000 in
set_option maxRecDepth 100000 in
theorem kX3_tellOf (l : Launch) (D : va_G) (ty : zTy) (a : Nat → Nat) (σ : zC) (c : Nat) (hc : σ.1 3 0 = nI c) (hc20 : c ≤ 20) (q0 : Nat) (hq0 : q0 < 20) (hft : zft σ q0) (x d : Int32) : zv_ct l D ty yX3_tellOf cX3_tellOf 4 (some .int) (zR 4 91) [.ref (a 0), .ref (a (q0 + 11)), .int x, .int d] (zc a ty σ) (fun v_ w_ => v_ = some (.int (fX3_tellOf σ c q0 x d)) ∧ w_ = zc a ty σ) := by
  refine zv_open (by decide) rfl rfl [some (.ref (a 0)), some (.ref (a (q0 + 11))), some (.int x), some (.int d)] (by simp [zv_one, Value.category]) (zle rfl) rfl ?_
  intro k K T
  refine zv_iload_n K 1 dX3_tellOf_0 rfl rfl ?_
  by_cases e_0 : x = 0
  · refine zv_tableIn (off := 39) K 40 dX3_tellOf_1 (by rw [e_0]; decide) (by rw [e_0]; decide) (by rw [e_0]; rfl) (by decide) ?_
    refine zv_aload_n K 41 dX3_tellOf_40 rfl rfl ?_
    refine zv_getN (v := .int (σ.1 (q0 + 11) 5)) (C := RX1) (T := TX1) (N := 12) K (q0 + 11) 5 44 dX3_tellOf_41 rfl zy_X1 (zc_cl hq0) rfl (by decide) zn_16 rfl ?_
    exact zv_iret K T dX3_tellOf_44 (⟨by simp only [fX3_tellOf, if_pos e_0], rfl⟩)
  · skip
    by_cases e_1 : x = 1
    · refine zv_tableIn (off := 44) K 45 dX3_tellOf_1 (by rw [e_1]; decide) (by rw [e_1]; decide) (by rw [e_1]; rfl) (by decide) ?_
      refine zv_aload_n K 46 dX3_tellOf_45 rfl rfl ?_
      refine zv_getN (v := .int (σ.1 (q0 + 11) 3)) (C := RX1) (T := TX1) (N := 12) K (q0 + 11) 3 49 dX3_tellOf_46 rfl zy_X1 (zc_cl hq0) rfl (by decide) zn_12 rfl ?_
      exact zv_iret K T dX3_tellOf_49 (⟨by simp only [fX3_tellOf, if_neg e_0, if_pos e_1], rfl⟩)
    · skip
      by_cases e_2 : x = 2
      · refine zv_tableIn (off := 49) K 50 dX3_tellOf_1 (by rw [e_2]; decide) (by rw [e_2]; decide) (by rw [e_2]; rfl) (by decide) ?_
        refine zv_aload_n K 51 dX3_tellOf_50 rfl rfl ?_
        refine zv_getN (v := .int (σ.1 (q0 + 11) 4)) (C := RX1) (T := TX1) (N := 12) K (q0 + 11) 4 54 dX3_tellOf_51 rfl zy_X1 (zc_cl hq0) rfl (by decide) zn_14 rfl ?_
        exact zv_iret K T dX3_tellOf_54 (⟨by simp only [fX3_tellOf, if_neg e_0, if_neg e_1, if_pos e_2], rfl⟩)
      · skip
        by_cases e_3 : x = 3
        · refine zv_tableIn (off := 54) K 55 dX3_tellOf_1 (by rw [e_3]; decide) (by rw [e_3]; decide) (by rw [e_3]; rfl) (by decide) ?_
          refine zv_aload_n K 56 dX3_tellOf_55 rfl rfl ?_
          refine zv_getN (v := .int (σ.1 (q0 + 11) 6)) (C := RX1) (T := TX1) (N := 12) K (q0 + 11) 6 59 dX3_tellOf_56 rfl zy_X1 (zc_cl hq0) rfl (by decide) zn_17 rfl ?_
          exact zv_iret K T dX3_tellOf_59 (⟨by simp only [fX3_tellOf, if_neg e_0, if_neg e_1, if_neg e_2, if_pos e_3], rfl⟩)
        · skip
          by_cases e_4 : x = 4
          · refine zv_tableIn (off := 59) K 60 dX3_tellOf_1 (by rw [e_4]; decide) (by rw [e_4]; decide) (by rw [e_4]; rfl) (by decide) ?_
            refine zv_aload_n K 61 dX3_tellOf_60 rfl rfl ?_
            refine zv_iload_n K 62 dX3_tellOf_61 rfl rfl ?_
            refine zv_aload_n K 63 dX3_tellOf_62 rfl rfl ?_
            refine zv_get (v := .int (σ.1 0 4)) (C := RX3) (T := TX3) (N := 7) K 0 4 66 dX3_tellOf_63 rfl zy_X3 (zc_at (j := 0) (by decide)) rfl (by decide) zw_1_123 rfl ?_
            refine zv_ws (congrArg (zc a ty) (zCl_self σ q0).symm) ?_
            refine zv_cV1 K (q0 := (q0 + 11)) (As := [.int d, .int (σ.1 0 4)]) (rest := []) 2 69 (kX1_isIdle l D ty a σ q0 hq0 (σ.1 (q0 + 11)) (σ.2 (q0 + 31)) d (σ.1 0 4)) dX3_tellOf_66 rfl zw_2_122 zw_2_93 zw_2_94 zw_1_4 zw_2_95 ⟨rfl, rfl⟩ zh_yX1_isIdle ⟨by decide, by decide⟩ (zk_at hq0) rfl rfl rfl (zle rfl) rfl ?_
            refine zv_ws (congrArg (zc a ty) (zCl_self σ q0)) ?_
            refine zv_ifB_eq K 76 72 dX3_tellOf_69 (by decide) rfl (fun h1 => ?_) (fun h1 => ?_)
            · skip
              refine zv_iconst K 0 77 dX3_tellOf_76 rfl (by decide) ?_
              exact zv_iret K T dX3_tellOf_77 (⟨by simp only [fX3_tellOf, if_neg e_0, if_neg e_1, if_neg e_2, if_neg e_3, if_pos e_4, if_neg h1], rfl⟩)
            · skip
              refine zv_iconst K 1 73 dX3_tellOf_72 rfl (by decide) ?_
              refine zv_goto K 77 dX3_tellOf_73 (by decide) ?_
              exact zv_iret K T dX3_tellOf_77 (⟨by simp only [fX3_tellOf, if_neg e_0, if_neg e_1, if_neg e_2, if_neg e_3, if_pos e_4, if_pos h1], rfl⟩)
          · skip
            by_cases e_5 : x = 5
            · refine zv_tableIn (off := 77) K 78 dX3_tellOf_1 (by rw [e_5]; decide) (by rw [e_5]; decide) (by rw [e_5]; rfl) (by decide) ?_
              refine zv_aload_n K 79 dX3_tellOf_78 rfl rfl ?_
              refine zv_getN (v := .int (σ.1 (q0 + 11) 7)) (C := RX1) (T := TX1) (N := 12) K (q0 + 11) 7 82 dX3_tellOf_79 rfl zy_X1 (zc_cl hq0) rfl (by decide) zn_18 rfl ?_
              exact zv_iret K T dX3_tellOf_82 (⟨by simp only [fX3_tellOf, if_neg e_0, if_neg e_1, if_neg e_2, if_neg e_3, if_neg e_4, if_pos e_5], rfl⟩)
            · skip
              refine zv_tableOut K 83 dX3_tellOf_1 (by have n_0 := lv_neT e_0 (a := 0) rfl; have n_1 := lv_neT e_1 (a := 1) rfl; have n_2 := lv_neT e_2 (a := 2) rfl; have n_3 := lv_neT e_3 (a := 3) rfl; have n_4 := lv_neT e_4 (a := 4) rfl; have n_5 := lv_neT e_5 (a := 5) rfl; omega) (by decide) ?_
              refine zv_aload_n K 84 dX3_tellOf_83 rfl rfl ?_
              refine zv_get (v := .ref (a 3)) (C := RX3) (T := TX3) (N := 7) K 0 5 87 dX3_tellOf_84 rfl zy_X3 (zc_at (j := 0) (by decide)) rfl (by decide) zw_1_124 rfl ?_
              refine zv_aload_n K 88 dX3_tellOf_87 rfl rfl ?_
              refine zv_cV1 K (q0 := 3) (As := [.ref (a (q0 + 11))]) (rest := []) 1 91 (kX2_countOwned l D ty a σ c hc hc20 q0 (σ.1 (q0 + 11) 3).toNatClampNeg (σ.1 (q0 + 11) 4).toNatClampNeg hq0 hft.is.1 hft.is.2.1 hft.is.2.2.1 hft.is.2.2.2) dX3_tellOf_88 rfl zw_2_123 zw_2_124 zw_2_125 zw_1_3 zw_2_126 ⟨rfl, rfl⟩ zh_yX2_countOwned ⟨by decide, by decide⟩ (zc_at (j := 3) (by decide)) rfl rfl rfl (zle rfl) rfl ?_
              exact zv_iret K T dX3_tellOf_91 (⟨by simp only [fX3_tellOf, if_neg e_0, if_neg e_1, if_neg e_2, if_neg e_3, if_neg e_4, if_neg e_5], rfl⟩)

def fX3_owner (σ : zC) (O : Nat → Nat) (n : Nat) (vn : Int32) (ft : Int32) (d : Int32) (k_ : Int32) : Int32 × zC :=
  if (0 ≤ vn ∧ vn ≤ 3) then
    if (0 ≤ ft ∧ ft ≤ 59) then
      if ((0 ≤ d ∧ d ≤ 999) ∧ (0 ≤ k_ ∧ k_ ≤ 999)) then
        (zhold (zQ σ O n d k_) (zcn (zQ σ O n d k_)) vn ft, (zQ σ O n d k_))
      else
        ((-1), σ)
    else
      ((-1), σ)
  else
    ((-1), σ)
set_option maxHeartbeats 4000000 in
set_option maxRecDepth 100000 in
theorem kX3_owner (l : Launch) (D : va_G) (ty : zTy) (a : Nat → Nat) (σ : zC) (O : Nat → Nat) (n : Nat) (hI : zI σ O n) (vn ft d k_ : Int32) : zv_ct l D ty yX3_owner cX3_owner 5 (some .int) (zR 7 165) [.ref (a 0), .int vn, .int ft, .int d, .int k_] (zc a ty σ) (fun v_ w_ => v_ = some (.int (fX3_owner σ O n vn ft d k_).1) ∧ w_ = zc a ty (fX3_owner σ O n vn ft d k_).2) := by
  refine zv_open (by decide) rfl rfl [some (.ref (a 0)), some (.int vn), some (.int ft), some (.int d), some (.int k_)] (by simp [zv_one, Value.category]) (zle rfl) rfl ?_
  intro k K T
  refine zv_iload_n K 1 dX3_owner_0 rfl rfl ?_
  refine zv_cS1 K (As := [.int vn]) (rest := []) 1 4 (kX3_isVein l D ty (zc a ty σ) vn) dX3_owner_1 rfl zw_1_160 zw_1_161 zw_1_1 zw_1_162 ⟨rfl, rfl⟩ zh_yX3_isVein ⟨by decide, by decide⟩ rfl rfl (zle rfl) rfl ?_
  refine zv_ifB_eq K 23 7 dX3_owner_4 (by decide) rfl (fun h1 => ?_) (fun h1 => ?_)
  · skip
    refine zv_iconst K (-1) 24 dX3_owner_23 rfl (by decide) ?_
    exact zv_iret K T dX3_owner_24 (⟨by simp only [fX3_owner, if_neg h1], by simp only [fX3_owner, if_neg h1]⟩)
  · skip
    refine zv_iload_n K 8 dX3_owner_7 rfl rfl ?_
    refine zv_cS1 K (As := [.int ft]) (rest := []) 1 11 (kX3_isFoot l D ty (zc a ty σ) ft) dX3_owner_8 rfl zw_1_163 zw_1_164 zw_1_1 zw_1_165 ⟨rfl, rfl⟩ zh_yX3_isFoot ⟨by decide, by decide⟩ rfl rfl (zle rfl) rfl ?_
    refine zv_ifB_eq K 23 14 dX3_owner_11 (by decide) rfl (fun h2 => ?_) (fun h2 => ?_)
    · skip
      refine zv_iconst K (-1) 24 dX3_owner_23 rfl (by decide) ?_
      exact zv_iret K T dX3_owner_24 (⟨by simp only [fX3_owner, if_pos h1, if_neg h2], by simp only [fX3_owner, if_pos h1, if_neg h2]⟩)
    · skip
      refine zv_iload_n K 15 dX3_owner_14 rfl rfl ?_
      refine zv_iload K 17 dX3_owner_15 rfl rfl ?_
      refine zv_cS1 K (As := [.int d, .int k_]) (rest := []) 2 20 (kX3_areDays l D ty (zc a ty σ) d k_) dX3_owner_17 rfl zw_2_18 zw_2_19 zw_1_1 zw_2_20 ⟨rfl, rfl⟩ zh_yX3_areDays ⟨by decide, by decide⟩ rfl rfl (zle rfl) rfl ?_
      refine zv_ifB_ne K 25 23 dX3_owner_20 (by decide) rfl (fun h3 => ?_) (fun h3 => ?_)
      · skip
        refine zv_aload_n K 26 dX3_owner_25 rfl rfl ?_
        refine zv_iload_n K 27 dX3_owner_26 rfl rfl ?_
        refine zv_iload K 29 dX3_owner_27 rfl rfl ?_
        refine zv_cV0 K (q0 := 0) (As := [.int d, .int k_]) (rest := []) 2 32 (kX3_goThrough l D ty a σ O n hI d k_) dX3_owner_29 rfl zw_2_24 zw_2_26 zw_p1_3 zw_1_1 zw_2_27 ⟨rfl, rfl⟩ zh_yX3_goThrough ⟨by decide, by decide⟩ (zc_at (j := 0) (by decide)) rfl rfl rfl (zle rfl) rfl ?_
        refine zv_aload_n K 33 dX3_owner_32 rfl rfl ?_
        refine zv_get (v := .ref (a 3)) (C := RX3) (T := TX3) (N := 7) K 0 5 36 dX3_owner_33 rfl zy_X3 (zc_at (j := 0) (by decide)) rfl (by decide) zw_1_124 rfl ?_
        refine zv_iload_n K 37 dX3_owner_36 rfl rfl ?_
        refine zv_iload_n K 38 dX3_owner_37 rfl rfl ?_
        refine zv_cV1 K (q0 := 3) (As := [.int vn, .int ft]) (rest := []) 2 41 (kX2_holderOver l D ty a (zQ σ O n d k_) (zcn (zQ σ O n d k_)) (zQ_c σ O n d k_).1 (zQ_c σ O n d k_).2 vn ft) dX3_owner_38 rfl zw_2_104 zw_2_105 zw_2_106 zw_1_3 zw_2_107 ⟨rfl, rfl⟩ zh_yX2_holderOver ⟨by decide, by decide⟩ (zc_at (j := 3) (by decide)) rfl rfl rfl (zle rfl) rfl ?_
        exact zv_iret K T dX3_owner_41 (⟨by simp only [fX3_owner, if_pos h1, if_pos h2, if_pos h3], by simp only [fX3_owner, if_pos h1, if_pos h2, if_pos h3]⟩)
      · skip
        refine zv_iconst K (-1) 24 dX3_owner_23 rfl (by decide) ?_
        exact zv_iret K T dX3_owner_24 (⟨by simp only [fX3_owner, if_pos h1, if_pos h2, if_neg h3], by simp only [fX3_owner, if_pos h1, if_pos h2, if_neg h3]⟩)

def fX3_claim (σ : zC) (O : Nat → Nat) (n : Nat) (vn : Int32) (ft : Int32) (d : Int32) (k_ : Int32) : Int32 × zC :=
  if (0 ≤ vn ∧ vn ≤ 3) then
    if (0 ≤ ft ∧ ft ≤ 59) then
      if ((0 ≤ d ∧ d ≤ 999) ∧ (0 ≤ k_ ∧ k_ ≤ 999)) then
        (match zfst (zov (zQ σ O n d k_) vn ft) (zcn (zQ σ O n d k_)) with
        | none =>
          ((-4), (zQ σ O n d k_))
        | some q =>
          ((zQ σ O n d k_).1 (q + 11) 1, (zQ σ O n d k_)))
      else
        ((-1), σ)
    else
      ((-1), σ)
  else
    ((-1), σ)
set_option maxHeartbeats 4000000 in
set_option maxRecDepth 100000 in
theorem kX3_claim (l : Launch) (D : va_G) (ty : zTy) (a : Nat → Nat) (σ : zC) (O : Nat → Nat) (n : Nat) (hI : zI σ O n) (vn ft d k_ : Int32) : zv_ct l D ty yX3_claim cX3_claim 6 (some .int) (zR 7 165) [.ref (a 0), .int vn, .int ft, .int d, .int k_] (zc a ty σ) (fun v_ w_ => v_ = some (.int (fX3_claim σ O n vn ft d k_).1) ∧ w_ = zc a ty (fX3_claim σ O n vn ft d k_).2) := by
  refine zv_open (by decide) rfl rfl [some (.ref (a 0)), some (.int vn), some (.int ft), some (.int d), some (.int k_), none] (by simp [zv_one, Value.category]) (zle rfl) rfl ?_
  intro k K T
  refine zv_iload_n K 1 dX3_claim_0 rfl rfl ?_
  refine zv_cS1 K (As := [.int vn]) (rest := []) 1 4 (kX3_isVein l D ty (zc a ty σ) vn) dX3_claim_1 rfl zw_1_160 zw_1_161 zw_1_1 zw_1_162 ⟨rfl, rfl⟩ zh_yX3_isVein ⟨by decide, by decide⟩ rfl rfl (zle rfl) rfl ?_
  refine zv_ifB_eq K 23 7 dX3_claim_4 (by decide) rfl (fun h1 => ?_) (fun h1 => ?_)
  · skip
    refine zv_iconst K (-1) 24 dX3_claim_23 rfl (by decide) ?_
    exact zv_iret K T dX3_claim_24 (⟨by simp only [fX3_claim, if_neg h1], by simp only [fX3_claim, if_neg h1]⟩)
  · skip
    refine zv_iload_n K 8 dX3_claim_7 rfl rfl ?_
    refine zv_cS1 K (As := [.int ft]) (rest := []) 1 11 (kX3_isFoot l D ty (zc a ty σ) ft) dX3_claim_8 rfl zw_1_163 zw_1_164 zw_1_1 zw_1_165 ⟨rfl, rfl⟩ zh_yX3_isFoot ⟨by decide, by decide⟩ rfl rfl (zle rfl) rfl ?_
    refine zv_ifB_eq K 23 14 dX3_claim_11 (by decide) rfl (fun h2 => ?_) (fun h2 => ?_)
    · skip
      refine zv_iconst K (-1) 24 dX3_claim_23 rfl (by decide) ?_
      exact zv_iret K T dX3_claim_24 (⟨by simp only [fX3_claim, if_pos h1, if_neg h2], by simp only [fX3_claim, if_pos h1, if_neg h2]⟩)
    · skip
      refine zv_iload_n K 15 dX3_claim_14 rfl rfl ?_
      refine zv_iload K 17 dX3_claim_15 rfl rfl ?_
      refine zv_cS1 K (As := [.int d, .int k_]) (rest := []) 2 20 (kX3_areDays l D ty (zc a ty σ) d k_) dX3_claim_17 rfl zw_2_18 zw_2_19 zw_1_1 zw_2_20 ⟨rfl, rfl⟩ zh_yX3_areDays ⟨by decide, by decide⟩ rfl rfl (zle rfl) rfl ?_
      refine zv_ifB_ne K 25 23 dX3_claim_20 (by decide) rfl (fun h3 => ?_) (fun h3 => ?_)
      · skip
        refine zv_aload_n K 26 dX3_claim_25 rfl rfl ?_
        refine zv_iload_n K 27 dX3_claim_26 rfl rfl ?_
        refine zv_iload K 29 dX3_claim_27 rfl rfl ?_
        refine zv_cV0 K (q0 := 0) (As := [.int d, .int k_]) (rest := []) 2 32 (kX3_goThrough l D ty a σ O n hI d k_) dX3_claim_29 rfl zw_2_24 zw_2_26 zw_p1_3 zw_1_1 zw_2_27 ⟨rfl, rfl⟩ zh_yX3_goThrough ⟨by decide, by decide⟩ (zc_at (j := 0) (by decide)) rfl rfl rfl (zle rfl) rfl ?_
        refine zv_aload_n K 33 dX3_claim_32 rfl rfl ?_
        refine zv_get (v := .ref (a 3)) (C := RX3) (T := TX3) (N := 7) K 0 5 36 dX3_claim_33 rfl zy_X3 (zc_at (j := 0) (by decide)) rfl (by decide) zw_1_124 rfl ?_
        refine zv_iload_n K 37 dX3_claim_36 rfl rfl ?_
        refine zv_iload_n K 38 dX3_claim_37 rfl rfl ?_
        refine zv_cV K (q0 := 3) (As := [.int vn, .int ft]) (rest := []) 2 41 (kX2_eldestOver l D ty a (zQ σ O n d k_) (zcn (zQ σ O n d k_)) (zQ_c σ O n d k_).1 (zQ_c σ O n d k_).2 vn ft) dX3_claim_38 rfl zw_2_112 zw_2_72 zw_2_73 zw_1_3 zw_2_74 ⟨rfl, rfl⟩ zh_yX2_eldestOver ⟨by decide, by decide⟩ (zc_at (j := 3) (by decide)) rfl rfl rfl (zle rfl) rfl ?_
        intro v_ w_ hv_
        obtain ⟨rfl, hv_⟩ := hv_
        rcases hv_ with ⟨hz, rfl⟩ | ⟨q, hz, rfl⟩
        · show zv k 41 [some (.ref (a 0)), some (.int vn), some (.int ft), some (.int d), some (.int k_), none] (.null :: []) (zc a ty (zQ σ O n d k_))
          refine zv_astoreN K [some (.ref (a 0)), some (.int vn), some (.int ft), some (.int d), some (.int k_), some (.null)] 43 dX3_claim_41 rfl rfl (zlt rfl) ?_
          refine zv_aloadN K 45 dX3_claim_43 rfl rfl ?_
          refine zv_ifnonnullN K 48 dX3_claim_45 rfl ?_
          refine zv_bipush K (-4) 50 dX3_claim_48 rfl (by decide) ?_
          refine zv_goto K 58 dX3_claim_50 (by decide) ?_
          exact zv_iret K T dX3_claim_58 (⟨by simp only [fX3_claim, if_pos h1, if_pos h2, if_pos h3, hz], by simp only [fX3_claim, if_pos h1, if_pos h2, if_pos h3, hz]⟩)
        · have hq20 : q < 20 := by have := zfst_lt hz; have := (zQ_c σ O n d k_).2; omega
          show zv k 41 [some (.ref (a 0)), some (.int vn), some (.int ft), some (.int d), some (.int k_), none] (.ref (a (q + 11)) :: []) (zc a ty (zQ σ O n d k_))
          refine zv_astore K [some (.ref (a 0)), some (.int vn), some (.int ft), some (.int d), some (.int k_), some (.ref (a (q + 11)))] 43 dX3_claim_41 rfl rfl (zlt rfl) ?_
          refine zv_aload K 45 dX3_claim_43 rfl rfl ?_
          refine zv_ifnonnull K 53 dX3_claim_45 (by decide) ?_
          refine zv_aload K 55 dX3_claim_53 rfl rfl ?_
          refine zv_getN (v := .int ((zQ σ O n d k_).1 (q + 11) 1)) (C := RX1) (T := TX1) (N := 12) K (q + 11) 1 58 dX3_claim_55 rfl zy_X1 (zc_cl hq20) rfl (by decide) zn_9 rfl ?_
          exact zv_iret K T dX3_claim_58 (⟨by simp only [fX3_claim, if_pos h1, if_pos h2, if_pos h3, hz], by simp only [fX3_claim, if_pos h1, if_pos h2, if_pos h3, hz]⟩)
      · skip
        refine zv_iconst K (-1) 24 dX3_claim_23 rfl (by decide) ?_
        exact zv_iret K T dX3_claim_24 (⟨by simp only [fX3_claim, if_pos h1, if_pos h2, if_neg h3], by simp only [fX3_claim, if_pos h1, if_pos h2, if_neg h3]⟩)

def fX3_of (σ : zC) (O : Nat → Nat) (n : Nat) (x : Int32) (y : Int32) (d : Int32) (k_ : Int32) : Int32 × zC :=
  if (0 ≤ x ∧ x < σ.1 1 1) then
    if ((0 ≤ d ∧ d ≤ 999) ∧ (0 ≤ k_ ∧ k_ ≤ 999)) then
      if (0 ≤ y ∧ y ≤ 6) then
        if (zg σ x.toNatClampNeg 0 = 0) then
          (match zfst (zfd (zQ σ O n d k_) x) (zcn (zQ σ O n d k_)) with
          | none =>
            ((-4), (zQ σ O n d k_))
          | some q =>
            (fX3_tellOf (zQ σ O n d k_) (zcn (zQ σ O n d k_)) q y d, (zQ σ O n d k_)))
        else
          ((-3), σ)
      else
        ((-1), σ)
    else
      ((-1), σ)
  else
    ((-1), σ)
set_option maxHeartbeats 4000000 in
set_option maxRecDepth 100000 in
theorem kX3_of (l : Launch) (D : va_G) (ty : zTy) (a : Nat → Nat) (σ : zC) (O : Nat → Nat) (n : Nat) (hI : zI σ O n) (x y d k_ : Int32) (hF : ∀ q, q < zcn (zQ σ O n d k_) → zft (zQ σ O n d k_) q) : zv_ct l D ty yX3_of cX3_of 6 (some .int) (zR 7 165) [.ref (a 0), .int x, .int y, .int d, .int k_] (zc a ty σ) (fun v_ w_ => v_ = some (.int (fX3_of σ O n x y d k_).1) ∧ w_ = zc a ty (fX3_of σ O n x y d k_).2) := by
  refine zv_open (by decide) rfl rfl [some (.ref (a 0)), some (.int x), some (.int y), some (.int d), some (.int k_), none] (by simp [zv_one, Value.category]) (zle rfl) rfl ?_
  intro k K T
  refine zv_aload_n K 1 dX3_of_0 rfl rfl ?_
  refine zv_get (v := .ref (a 1)) (C := RX3) (T := TX3) (N := 7) K 0 0 4 dX3_of_1 rfl zy_X3 (zc_at (j := 0) (by decide)) rfl (by decide) zw_1_119 rfl ?_
  refine zv_iload_n K 5 dX3_of_4 rfl rfl ?_
  refine zv_cV1 K (q0 := 1) (As := [.int x]) (rest := []) 1 8 (kX0_has l D ty a σ x) dX3_of_5 rfl zw_1_208 zw_1_209 zw_1_210 zw_1_2 zw_1_211 ⟨rfl, rfl⟩ zh_yX0_has ⟨by decide, by decide⟩ (zc_at (j := 1) (by decide)) rfl rfl rfl (zle rfl) rfl ?_
  refine zv_ifB_eq K 30 11 dX3_of_8 (by decide) rfl (fun hh => ?_) (fun hh => ?_)
  · skip
    refine zv_iconst K (-1) 31 dX3_of_30 rfl (by decide) ?_
    exact zv_iret K T dX3_of_31 (⟨by simp only [fX3_of, if_neg hh], by simp only [fX3_of, if_neg hh]⟩)
  · skip
    refine zv_iload_n K 12 dX3_of_11 rfl rfl ?_
    refine zv_iload K 14 dX3_of_12 rfl rfl ?_
    refine zv_cS1 K (As := [.int d, .int k_]) (rest := []) 2 17 (kX3_areDays l D ty (zc a ty σ) d k_) dX3_of_14 rfl zw_2_18 zw_2_19 zw_1_1 zw_2_20 ⟨rfl, rfl⟩ zh_yX3_areDays ⟨by decide, by decide⟩ rfl rfl (zle rfl) rfl ?_
    refine zv_ifB_eq K 30 20 dX3_of_17 (by decide) rfl (fun h2 => ?_) (fun h2 => ?_)
    · skip
      refine zv_iconst K (-1) 31 dX3_of_30 rfl (by decide) ?_
      exact zv_iret K T dX3_of_31 (⟨by simp only [fX3_of, if_pos hh, if_neg h2], by simp only [fX3_of, if_pos hh, if_neg h2]⟩)
    · skip
      refine zv_iload_n K 21 dX3_of_20 rfl rfl ?_
      refine zv_iconst K 0 22 dX3_of_21 rfl (by decide) ?_
      refine zv_bipush K 6 24 dX3_of_22 rfl (by decide) ?_
      refine zv_cS1 K (As := [.int y, .int 0, .int 6]) (rest := []) 3 27 (kX3_isWithin l D ty (zc a ty σ) y 0 6) dX3_of_24 rfl zw_1_145 zw_1_146 zw_1_1 zw_1_147 ⟨rfl, rfl⟩ zh_yX3_isWithin ⟨by decide, by decide⟩ rfl rfl (zle rfl) rfl ?_
      refine zv_ifB_ne K 32 30 dX3_of_27 (by decide) rfl (fun h3 => ?_) (fun h3 => ?_)
      · skip
        obtain ⟨hx, hf⟩ := z_has hI hh
        refine zv_aload_n K 33 dX3_of_32 rfl rfl ?_
        refine zv_get (v := .ref (a 1)) (C := RX3) (T := TX3) (N := 7) K 0 0 36 dX3_of_33 rfl zy_X3 (zc_at (j := 0) (by decide)) rfl (by decide) zw_1_119 rfl ?_
        refine zv_iload_n K 37 dX3_of_36 rfl rfl ?_
        refine zv_cV1 K (q0 := 1) (As := [.int x]) (rest := []) 1 40 (kX0_isStake l D ty a σ x x.toNatClampNeg hx hf) dX3_of_37 rfl zw_1_212 zw_1_213 zw_1_214 zw_1_2 zw_1_215 ⟨rfl, rfl⟩ zh_yX0_isStake ⟨by decide, by decide⟩ (zc_at (j := 1) (by decide)) rfl rfl rfl (zle rfl) rfl ?_
        refine zv_ifB_ne K 46 43 dX3_of_40 (by decide) rfl (fun h4 => ?_) (fun h4 => ?_)
        · skip
          refine zv_aload_n K 47 dX3_of_46 rfl rfl ?_
          refine zv_iload_n K 48 dX3_of_47 rfl rfl ?_
          refine zv_iload K 50 dX3_of_48 rfl rfl ?_
          refine zv_cV0 K (q0 := 0) (As := [.int d, .int k_]) (rest := []) 2 53 (kX3_goThrough l D ty a σ O n hI d k_) dX3_of_50 rfl zw_2_24 zw_2_26 zw_p1_3 zw_1_1 zw_2_27 ⟨rfl, rfl⟩ zh_yX3_goThrough ⟨by decide, by decide⟩ (zc_at (j := 0) (by decide)) rfl rfl rfl (zle rfl) rfl ?_
          refine zv_aload_n K 54 dX3_of_53 rfl rfl ?_
          refine zv_get (v := .ref (a 3)) (C := RX3) (T := TX3) (N := 7) K 0 5 57 dX3_of_54 rfl zy_X3 (zc_at (j := 0) (by decide)) rfl (by decide) zw_1_124 rfl ?_
          refine zv_iload_n K 58 dX3_of_57 rfl rfl ?_
          refine zv_cV K (q0 := 3) (As := [.int x]) (rest := []) 1 61 (kX2_find l D ty a (zQ σ O n d k_) (zcn (zQ σ O n d k_)) (zQ_c σ O n d k_).1 (zQ_c σ O n d k_).2 x) dX3_of_58 rfl zw_2_117 zw_2_81 zw_2_82 zw_1_3 zw_2_83 ⟨rfl, rfl⟩ zh_yX2_find ⟨by decide, by decide⟩ (zc_at (j := 3) (by decide)) rfl rfl rfl (zle rfl) rfl ?_
          intro v_ w_ hv_
          obtain ⟨rfl, hv_⟩ := hv_
          rcases hv_ with ⟨hz, rfl⟩ | ⟨q, hz, rfl⟩
          · show zv k 61 [some (.ref (a 0)), some (.int x), some (.int y), some (.int d), some (.int k_), none] (.null :: []) (zc a ty (zQ σ O n d k_))
            refine zv_astoreN K [some (.ref (a 0)), some (.int x), some (.int y), some (.int d), some (.int k_), some (.null)] 63 dX3_of_61 rfl rfl (zlt rfl) ?_
            refine zv_aloadN K 65 dX3_of_63 rfl rfl ?_
            refine zv_ifnonnullN K 68 dX3_of_65 rfl ?_
            refine zv_bipush K (-4) 70 dX3_of_68 rfl (by decide) ?_
            refine zv_goto K 81 dX3_of_70 (by decide) ?_
            exact zv_iret K T dX3_of_81 (⟨by simp only [fX3_of, if_pos hh, if_pos h2, if_pos h3, if_pos h4, hz], by simp only [fX3_of, if_pos hh, if_pos h2, if_pos h3, if_pos h4, hz]⟩)
          · have hq20 : q < 20 := by have := zfst_lt hz; have := (zQ_c σ O n d k_).2; omega
            show zv k 61 [some (.ref (a 0)), some (.int x), some (.int y), some (.int d), some (.int k_), none] (.ref (a (q + 11)) :: []) (zc a ty (zQ σ O n d k_))
            refine zv_astore K [some (.ref (a 0)), some (.int x), some (.int y), some (.int d), some (.int k_), some (.ref (a (q + 11)))] 63 dX3_of_61 rfl rfl (zlt rfl) ?_
            refine zv_aload K 65 dX3_of_63 rfl rfl ?_
            refine zv_ifnonnull K 73 dX3_of_65 (by decide) ?_
            refine zv_aload_n K 74 dX3_of_73 rfl rfl ?_
            refine zv_aload K 76 dX3_of_74 rfl rfl ?_
            refine zv_iload_n K 77 dX3_of_76 rfl rfl ?_
            refine zv_iload_n K 78 dX3_of_77 rfl rfl ?_
            refine zv_cV1 K (q0 := 0) (As := [.ref (a (q + 11)), .int y, .int d]) (rest := []) 3 81 (kX3_tellOf l D ty a (zQ σ O n d k_) (zcn (zQ σ O n d k_)) (zQ_c σ O n d k_).1 (zQ_c σ O n d k_).2 q hq20 (hF q (zfst_lt hz)) y d) dX3_of_78 rfl zw_2_118 zw_2_120 zw_p1_14 zw_1_1 zw_2_121 ⟨rfl, rfl⟩ zh_yX3_tellOf ⟨by decide, by decide⟩ (zc_at (j := 0) (by decide)) rfl rfl rfl (zle rfl) rfl ?_
            exact zv_iret K T dX3_of_81 (⟨by simp only [fX3_of, if_pos hh, if_pos h2, if_pos h3, if_pos h4, hz], by simp only [fX3_of, if_pos hh, if_pos h2, if_pos h3, if_pos h4, hz]⟩)
        · skip
          refine zv_bipush K (-3) 45 dX3_of_43 rfl (by decide) ?_
          exact zv_iret K T dX3_of_45 (⟨by simp only [fX3_of, if_pos hh, if_pos h2, if_pos h3, if_neg h4], by simp only [fX3_of, if_pos hh, if_pos h2, if_pos h3, if_neg h4]⟩)
      · skip
        refine zv_iconst K (-1) 31 dX3_of_30 rfl (by decide) ?_
        exact zv_iret K T dX3_of_31 (⟨by simp only [fX3_of, if_pos hh, if_pos h2, if_neg h3], by simp only [fX3_of, if_pos hh, if_pos h2, if_neg h3]⟩)

def fX3_share (σ : zC) (O : Nat → Nat) (n : Nat) (x : Int32) (y : Int32) (d : Int32) (k_ : Int32) : Int32 × zC :=
  if (0 ≤ x ∧ x < σ.1 1 1) then
    if (0 ≤ y ∧ y ≤ 9) then
      if ((0 ≤ d ∧ d ≤ 999) ∧ (0 ≤ k_ ∧ k_ ≤ 999)) then
        if (zg σ x.toNatClampNeg 0 = 0) then
          (match zfst (zfd (zQ σ O n d k_) x) (zcn (zQ σ O n d k_)) with
          | none =>
            ((-4), (zQ σ O n d k_))
          | some q =>
            ((zQ σ O n d k_).2 (q + 31) y.toNatClampNeg, (zQ σ O n d k_)))
        else
          ((-3), σ)
      else
        ((-1), σ)
    else
      ((-1), σ)
  else
    ((-1), σ)
set_option maxHeartbeats 4000000 in
set_option maxRecDepth 100000 in
theorem kX3_share (l : Launch) (D : va_G) (ty : zTy) (a : Nat → Nat) (σ : zC) (O : Nat → Nat) (n : Nat) (hI : zI σ O n) (x y d k_ : Int32) : zv_ct l D ty yX3_share cX3_share 6 (some .int) (zR 7 165) [.ref (a 0), .int x, .int y, .int d, .int k_] (zc a ty σ) (fun v_ w_ => v_ = some (.int (fX3_share σ O n x y d k_).1) ∧ w_ = zc a ty (fX3_share σ O n x y d k_).2) := by
  refine zv_open (by decide) rfl rfl [some (.ref (a 0)), some (.int x), some (.int y), some (.int d), some (.int k_), none] (by simp [zv_one, Value.category]) (zle rfl) rfl ?_
  intro k K T
  refine zv_aload_n K 1 dX3_share_0 rfl rfl ?_
  refine zv_get (v := .ref (a 1)) (C := RX3) (T := TX3) (N := 7) K 0 0 4 dX3_share_1 rfl zy_X3 (zc_at (j := 0) (by decide)) rfl (by decide) zw_1_119 rfl ?_
  refine zv_iload_n K 5 dX3_share_4 rfl rfl ?_
  refine zv_cV1 K (q0 := 1) (As := [.int x]) (rest := []) 1 8 (kX0_has l D ty a σ x) dX3_share_5 rfl zw_1_208 zw_1_209 zw_1_210 zw_1_2 zw_1_211 ⟨rfl, rfl⟩ zh_yX0_has ⟨by decide, by decide⟩ (zc_at (j := 1) (by decide)) rfl rfl rfl (zle rfl) rfl ?_
  refine zv_ifB_eq K 27 11 dX3_share_8 (by decide) rfl (fun hh => ?_) (fun hh => ?_)
  · skip
    refine zv_iconst K (-1) 28 dX3_share_27 rfl (by decide) ?_
    exact zv_iret K T dX3_share_28 (⟨by simp only [fX3_share, if_neg hh], by simp only [fX3_share, if_neg hh]⟩)
  · skip
    refine zv_iload_n K 12 dX3_share_11 rfl rfl ?_
    refine zv_cS1 K (As := [.int y]) (rest := []) 1 15 (kX3_isMiner l D ty (zc a ty σ) y) dX3_share_12 rfl zw_1_166 zw_1_167 zw_1_1 zw_1_168 ⟨rfl, rfl⟩ zh_yX3_isMiner ⟨by decide, by decide⟩ rfl rfl (zle rfl) rfl ?_
    refine zv_ifB_eq K 27 18 dX3_share_15 (by decide) rfl (fun hm => ?_) (fun hm => ?_)
    · skip
      refine zv_iconst K (-1) 28 dX3_share_27 rfl (by decide) ?_
      exact zv_iret K T dX3_share_28 (⟨by simp only [fX3_share, if_pos hh, if_neg hm], by simp only [fX3_share, if_pos hh, if_neg hm]⟩)
    · skip
      refine zv_iload_n K 19 dX3_share_18 rfl rfl ?_
      refine zv_iload K 21 dX3_share_19 rfl rfl ?_
      refine zv_cS1 K (As := [.int d, .int k_]) (rest := []) 2 24 (kX3_areDays l D ty (zc a ty σ) d k_) dX3_share_21 rfl zw_2_18 zw_2_19 zw_1_1 zw_2_20 ⟨rfl, rfl⟩ zh_yX3_areDays ⟨by decide, by decide⟩ rfl rfl (zle rfl) rfl ?_
      refine zv_ifB_ne K 29 27 dX3_share_24 (by decide) rfl (fun h3 => ?_) (fun h3 => ?_)
      · skip
        obtain ⟨hx, hf⟩ := z_has hI hh
        refine zv_aload_n K 30 dX3_share_29 rfl rfl ?_
        refine zv_get (v := .ref (a 1)) (C := RX3) (T := TX3) (N := 7) K 0 0 33 dX3_share_30 rfl zy_X3 (zc_at (j := 0) (by decide)) rfl (by decide) zw_1_119 rfl ?_
        refine zv_iload_n K 34 dX3_share_33 rfl rfl ?_
        refine zv_cV1 K (q0 := 1) (As := [.int x]) (rest := []) 1 37 (kX0_isStake l D ty a σ x x.toNatClampNeg hx hf) dX3_share_34 rfl zw_1_212 zw_1_213 zw_1_214 zw_1_2 zw_1_215 ⟨rfl, rfl⟩ zh_yX0_isStake ⟨by decide, by decide⟩ (zc_at (j := 1) (by decide)) rfl rfl rfl (zle rfl) rfl ?_
        refine zv_ifB_ne K 43 40 dX3_share_37 (by decide) rfl (fun h4 => ?_) (fun h4 => ?_)
        · skip
          refine zv_aload_n K 44 dX3_share_43 rfl rfl ?_
          refine zv_iload_n K 45 dX3_share_44 rfl rfl ?_
          refine zv_iload K 47 dX3_share_45 rfl rfl ?_
          refine zv_cV0 K (q0 := 0) (As := [.int d, .int k_]) (rest := []) 2 50 (kX3_goThrough l D ty a σ O n hI d k_) dX3_share_47 rfl zw_2_24 zw_2_26 zw_p1_3 zw_1_1 zw_2_27 ⟨rfl, rfl⟩ zh_yX3_goThrough ⟨by decide, by decide⟩ (zc_at (j := 0) (by decide)) rfl rfl rfl (zle rfl) rfl ?_
          refine zv_aload_n K 51 dX3_share_50 rfl rfl ?_
          refine zv_get (v := .ref (a 3)) (C := RX3) (T := TX3) (N := 7) K 0 5 54 dX3_share_51 rfl zy_X3 (zc_at (j := 0) (by decide)) rfl (by decide) zw_1_124 rfl ?_
          refine zv_iload_n K 55 dX3_share_54 rfl rfl ?_
          refine zv_cV K (q0 := 3) (As := [.int x]) (rest := []) 1 58 (kX2_find l D ty a (zQ σ O n d k_) (zcn (zQ σ O n d k_)) (zQ_c σ O n d k_).1 (zQ_c σ O n d k_).2 x) dX3_share_55 rfl zw_2_117 zw_2_81 zw_2_82 zw_1_3 zw_2_83 ⟨rfl, rfl⟩ zh_yX2_find ⟨by decide, by decide⟩ (zc_at (j := 3) (by decide)) rfl rfl rfl (zle rfl) rfl ?_
          intro v_ w_ hv_
          obtain ⟨rfl, hv_⟩ := hv_
          rcases hv_ with ⟨hz, rfl⟩ | ⟨q, hz, rfl⟩
          · show zv k 58 [some (.ref (a 0)), some (.int x), some (.int y), some (.int d), some (.int k_), none] (.null :: []) (zc a ty (zQ σ O n d k_))
            refine zv_astoreN K [some (.ref (a 0)), some (.int x), some (.int y), some (.int d), some (.int k_), some (.null)] 60 dX3_share_58 rfl rfl (zlt rfl) ?_
            refine zv_aloadN K 62 dX3_share_60 rfl rfl ?_
            refine zv_ifnonnullN K 65 dX3_share_62 rfl ?_
            refine zv_bipush K (-4) 67 dX3_share_65 rfl (by decide) ?_
            refine zv_goto K 77 dX3_share_67 (by decide) ?_
            exact zv_iret K T dX3_share_77 (⟨by simp only [fX3_share, if_pos hh, if_pos hm, if_pos h3, if_pos h4, hz], by simp only [fX3_share, if_pos hh, if_pos hm, if_pos h3, if_pos h4, hz]⟩)
          · have hq20 : q < 20 := by have := zfst_lt hz; have := (zQ_c σ O n d k_).2; omega
            show zv k 58 [some (.ref (a 0)), some (.int x), some (.int y), some (.int d), some (.int k_), none] (.ref (a (q + 11)) :: []) (zc a ty (zQ σ O n d k_))
            refine zv_astore K [some (.ref (a 0)), some (.int x), some (.int y), some (.int d), some (.int k_), some (.ref (a (q + 11)))] 60 dX3_share_58 rfl rfl (zlt rfl) ?_
            refine zv_aload K 62 dX3_share_60 rfl rfl ?_
            refine zv_ifnonnull K 70 dX3_share_62 (by decide) ?_
            obtain ⟨hy, hy9⟩ := z_upto (m := 9) hm (by decide)
            refine zv_aload K 72 dX3_share_70 rfl rfl ?_
            refine zv_getN (v := .ref (a (q + 31))) (C := RX1) (T := TX1) (N := 12) K (q + 11) 11 75 dX3_share_72 rfl zy_X1 (zc_cl hq20) rfl (by decide) zn_20 rfl ?_
            refine zv_iload_n K 76 dX3_share_75 rfl rfl ?_
            refine zv_iald (F := (zQ σ O n d k_).2 (q + 31)) K (q + 31) y.toNatClampNeg 77 dX3_share_76 rfl (zc_sh hq20) hy hy9 (by decide) ?_
            exact zv_iret K T dX3_share_77 (⟨by simp only [fX3_share, if_pos hh, if_pos hm, if_pos h3, if_pos h4, hz], by simp only [fX3_share, if_pos hh, if_pos hm, if_pos h3, if_pos h4, hz]⟩)
        · skip
          refine zv_bipush K (-3) 42 dX3_share_40 rfl (by decide) ?_
          exact zv_iret K T dX3_share_42 (⟨by simp only [fX3_share, if_pos hh, if_pos hm, if_pos h3, if_neg h4], by simp only [fX3_share, if_pos hh, if_pos hm, if_pos h3, if_neg h4]⟩)
      · skip
        refine zv_iconst K (-1) 28 dX3_share_27 rfl (by decide) ?_
        exact zv_iret K T dX3_share_28 (⟨by simp only [fX3_share, if_pos hh, if_pos hm, if_neg h3], by simp only [fX3_share, if_pos hh, if_pos hm, if_neg h3]⟩)

def fX3_dug (σ : zC) (O : Nat → Nat) (n : Nat) (x : Int32) (d : Int32) (k_ : Int32) : Int32 × zC :=
  if (0 ≤ x ∧ x ≤ 10) then
    if ((0 ≤ d ∧ d ≤ 999) ∧ (0 ≤ k_ ∧ k_ ≤ 999)) then
      ((zQ σ O n d k_).2 9 x.toNatClampNeg, (zQ σ O n d k_))
    else
      ((-1), σ)
  else
    ((-1), σ)
set_option maxHeartbeats 4000000 in
set_option maxRecDepth 100000 in
theorem kX3_dug (l : Launch) (D : va_G) (ty : zTy) (a : Nat → Nat) (σ : zC) (O : Nat → Nat) (n : Nat) (hI : zI σ O n) (x d k_ : Int32) : zv_ct l D ty yX3_dug cX3_dug 4 (some .int) (zR 7 165) [.ref (a 0), .int x, .int d, .int k_] (zc a ty σ) (fun v_ w_ => v_ = some (.int (fX3_dug σ O n x d k_).1) ∧ w_ = zc a ty (fX3_dug σ O n x d k_).2) := by
  refine zv_open (by decide) rfl rfl [some (.ref (a 0)), some (.int x), some (.int d), some (.int k_)] (by simp [zv_one, Value.category]) (zle rfl) rfl ?_
  intro k K T
  refine zv_iload_n K 1 dX3_dug_0 rfl rfl ?_
  refine zv_iconst K 0 2 dX3_dug_1 rfl (by decide) ?_
  refine zv_bipush K 10 4 dX3_dug_2 rfl (by decide) ?_
  refine zv_cS1 K (As := [.int x, .int 0, .int 10]) (rest := []) 3 7 (kX3_isWithin l D ty (zc a ty σ) x 0 10) dX3_dug_4 rfl zw_1_145 zw_1_146 zw_1_1 zw_1_147 ⟨rfl, rfl⟩ zh_yX3_isWithin ⟨by decide, by decide⟩ rfl rfl (zle rfl) rfl ?_
  refine zv_ifB_eq K 18 10 dX3_dug_7 (by decide) rfl (fun hm => ?_) (fun hm => ?_)
  · skip
    refine zv_iconst K (-1) 19 dX3_dug_18 rfl (by decide) ?_
    exact zv_iret K T dX3_dug_19 (⟨by simp only [fX3_dug, if_neg hm], by simp only [fX3_dug, if_neg hm]⟩)
  · skip
    refine zv_iload_n K 11 dX3_dug_10 rfl rfl ?_
    refine zv_iload_n K 12 dX3_dug_11 rfl rfl ?_
    refine zv_cS1 K (As := [.int d, .int k_]) (rest := []) 2 15 (kX3_areDays l D ty (zc a ty σ) d k_) dX3_dug_12 rfl zw_2_18 zw_2_19 zw_1_1 zw_2_20 ⟨rfl, rfl⟩ zh_yX3_areDays ⟨by decide, by decide⟩ rfl rfl (zle rfl) rfl ?_
    refine zv_ifB_ne K 20 18 dX3_dug_15 (by decide) rfl (fun h2 => ?_) (fun h2 => ?_)
    · skip
      obtain ⟨hx, hx9⟩ := z_upto (m := 10) hm (by decide)
      refine zv_aload_n K 21 dX3_dug_20 rfl rfl ?_
      refine zv_iload_n K 22 dX3_dug_21 rfl rfl ?_
      refine zv_iload_n K 23 dX3_dug_22 rfl rfl ?_
      refine zv_cV0 K (q0 := 0) (As := [.int d, .int k_]) (rest := []) 2 26 (kX3_goThrough l D ty a σ O n hI d k_) dX3_dug_23 rfl zw_2_24 zw_2_26 zw_p1_3 zw_1_1 zw_2_27 ⟨rfl, rfl⟩ zh_yX3_goThrough ⟨by decide, by decide⟩ (zc_at (j := 0) (by decide)) rfl rfl rfl (zle rfl) rfl ?_
      refine zv_aload_n K 27 dX3_dug_26 rfl rfl ?_
      refine zv_get (v := .ref (a 3)) (C := RX3) (T := TX3) (N := 7) K 0 5 30 dX3_dug_27 rfl zy_X3 (zc_at (j := 0) (by decide)) rfl (by decide) zw_1_124 rfl ?_
      refine zv_getN (v := .ref (a 9)) (C := RX2) (T := TX2) (N := 3) K 3 2 33 dX3_dug_30 rfl zy_X2 (zc_at (j := 3) (by decide)) rfl (by decide) zn_21 rfl ?_
      refine zv_iload_n K 34 dX3_dug_33 rfl rfl ?_
      refine zv_iald (F := (zQ σ O n d k_).2 9) K 9 x.toNatClampNeg 35 dX3_dug_34 rfl (zc_at (j := 9) (by decide)) hx hx9 (by decide) ?_
      exact zv_iret K T dX3_dug_35 (⟨by simp only [fX3_dug, if_pos hm, if_pos h2], by simp only [fX3_dug, if_pos hm, if_pos h2]⟩)
    · skip
      refine zv_iconst K (-1) 19 dX3_dug_18 rfl (by decide) ?_
      exact zv_iret K T dX3_dug_19 (⟨by simp only [fX3_dug, if_pos hm, if_neg h2], by simp only [fX3_dug, if_pos hm, if_neg h2]⟩)

def fX3_due (σ : zC) (O : Nat → Nat) (n : Nat) (x : Int32) (d : Int32) (k_ : Int32) : Int32 × zC :=
  if (0 ≤ x ∧ x ≤ 9) then
    if ((0 ≤ d ∧ d ≤ 999) ∧ (0 ≤ k_ ∧ k_ ≤ 999)) then
      (((zQ σ O n d k_).2 9 x.toNatClampNeg) / 240, (zQ σ O n d k_))
    else
      ((-1), σ)
  else
    ((-1), σ)
set_option maxHeartbeats 4000000 in
set_option maxRecDepth 100000 in
theorem kX3_due (l : Launch) (D : va_G) (ty : zTy) (a : Nat → Nat) (σ : zC) (O : Nat → Nat) (n : Nat) (hI : zI σ O n) (x d k_ : Int32) : zv_ct l D ty yX3_due cX3_due 4 (some .int) (zR 7 165) [.ref (a 0), .int x, .int d, .int k_] (zc a ty σ) (fun v_ w_ => v_ = some (.int (fX3_due σ O n x d k_).1) ∧ w_ = zc a ty (fX3_due σ O n x d k_).2) := by
  refine zv_open (by decide) rfl rfl [some (.ref (a 0)), some (.int x), some (.int d), some (.int k_)] (by simp [zv_one, Value.category]) (zle rfl) rfl ?_
  intro k K T
  refine zv_iload_n K 1 dX3_due_0 rfl rfl ?_
  refine zv_cS1 K (As := [.int x]) (rest := []) 1 4 (kX3_isMiner l D ty (zc a ty σ) x) dX3_due_1 rfl zw_1_166 zw_1_167 zw_1_1 zw_1_168 ⟨rfl, rfl⟩ zh_yX3_isMiner ⟨by decide, by decide⟩ rfl rfl (zle rfl) rfl ?_
  refine zv_ifB_eq K 15 7 dX3_due_4 (by decide) rfl (fun hm => ?_) (fun hm => ?_)
  · skip
    refine zv_iconst K (-1) 16 dX3_due_15 rfl (by decide) ?_
    exact zv_iret K T dX3_due_16 (⟨by simp only [fX3_due, if_neg hm], by simp only [fX3_due, if_neg hm]⟩)
  · skip
    refine zv_iload_n K 8 dX3_due_7 rfl rfl ?_
    refine zv_iload_n K 9 dX3_due_8 rfl rfl ?_
    refine zv_cS1 K (As := [.int d, .int k_]) (rest := []) 2 12 (kX3_areDays l D ty (zc a ty σ) d k_) dX3_due_9 rfl zw_2_18 zw_2_19 zw_1_1 zw_2_20 ⟨rfl, rfl⟩ zh_yX3_areDays ⟨by decide, by decide⟩ rfl rfl (zle rfl) rfl ?_
    refine zv_ifB_ne K 17 15 dX3_due_12 (by decide) rfl (fun h2 => ?_) (fun h2 => ?_)
    · skip
      obtain ⟨hx, hx9⟩ := z_upto (m := 9) hm (by decide)
      refine zv_aload_n K 18 dX3_due_17 rfl rfl ?_
      refine zv_iload_n K 19 dX3_due_18 rfl rfl ?_
      refine zv_iload_n K 20 dX3_due_19 rfl rfl ?_
      refine zv_cV0 K (q0 := 0) (As := [.int d, .int k_]) (rest := []) 2 23 (kX3_goThrough l D ty a σ O n hI d k_) dX3_due_20 rfl zw_2_24 zw_2_26 zw_p1_3 zw_1_1 zw_2_27 ⟨rfl, rfl⟩ zh_yX3_goThrough ⟨by decide, by decide⟩ (zc_at (j := 0) (by decide)) rfl rfl rfl (zle rfl) rfl ?_
      refine zv_aload_n K 24 dX3_due_23 rfl rfl ?_
      refine zv_get (v := .ref (a 3)) (C := RX3) (T := TX3) (N := 7) K 0 5 27 dX3_due_24 rfl zy_X3 (zc_at (j := 0) (by decide)) rfl (by decide) zw_1_124 rfl ?_
      refine zv_getN (v := .ref (a 9)) (C := RX2) (T := TX2) (N := 3) K 3 2 30 dX3_due_27 rfl zy_X2 (zc_at (j := 3) (by decide)) rfl (by decide) zn_21 rfl ?_
      refine zv_iload_n K 31 dX3_due_30 rfl rfl ?_
      refine zv_iald (F := (zQ σ O n d k_).2 9) K 9 x.toNatClampNeg 32 dX3_due_31 rfl (zc_at (j := 9) (by decide)) hx (by omega) (by decide) ?_
      refine zv_sipush K 240 35 dX3_due_32 rfl (by decide) ?_
      refine zv_idiv K 36 dX3_due_35 rfl (by decide) ?_
      exact zv_iret K T dX3_due_36 (⟨by simp only [fX3_due, if_pos hm, if_pos h2], by simp only [fX3_due, if_pos hm, if_pos h2]⟩)
    · skip
      refine zv_iconst K (-1) 16 dX3_due_15 rfl (by decide) ?_
      exact zv_iret K T dX3_due_16 (⟨by simp only [fX3_due, if_pos hm, if_neg h2], by simp only [fX3_due, if_pos hm, if_neg h2]⟩)

def zfeet (ρ : zC) (c : Nat) (x : Int32) : Nat → Bool := fun j => decide (zhj ρ c j = x)
def zcont (ρ : zC) (c : Nat) (vn : Int32) : Nat → Bool := fun f => decide (¬ nI (zct (zov ρ vn (nI f)) c) < 2)
def zchg (ρ : zC) (c : Nat) : Nat → Bool := fun j => decide (¬ ρ.2 10 j = zhj ρ c j)
set_option maxHeartbeats 4000000 in
set_option maxRecDepth 100000 in
theorem kX3_feet_l2 (l : Launch) (D : va_G) (ty : zTy) (a : Nat → Nat) (ρ : zC) (c : Nat) (hc : ρ.1 3 0 = nI c) (hc20 : c ≤ 20) (x d k_ : Int32) (v : Nat) (hv : v < 4) {k : zKx} (K : zv_ok k l D (zR 7 165) cX3_feet 7 yX3_feet.cls ty) (T : zv_rt k (some .int) (fun v_ w_ => v_ = some (.int (nI (zct (zfeet ρ c x) 240))) ∧ w_ = zc a ty ρ)) (hout : zv k 29 [some (.ref (a 0)), some (.int x), some (.int d), some (.int k_), some (.int (nI (zct (zfeet ρ c x) ((v + 1) * 60)))), some (.int (nI (v + 1))), some (.int (nI 60))] [] (zc a ty ρ)) : ∀ f : Nat, f ≤ 60 → zv k 38 [some (.ref (a 0)), some (.int x), some (.int d), some (.int k_), some (.int (nI (zct (zfeet ρ c x) (v * 60 + f)))), some (.int (nI v)), some (.int (nI f))] [] (zc a ty ρ) := by
  refine z_wf (fun f : Nat => 60 - f) ?_
  intro f ih hf
  refine zv_iload K 40 dX3_feet_38 rfl rfl ?_
  refine zv_bipush K 60 42 dX3_feet_40 rfl (by decide) ?_
  refine zv_icmp_ge K 69 45 dX3_feet_42 (by decide) rfl (fun hb2 => ?_) (fun hb2 => ?_)
  · skip
    have e : f = 60 := by have := z_ge (c := 60) hb2 (by decide) (by omega); omega
    refine zv_iinc K (nI (v + 1)) [some (.ref (a 0)), some (.int x), some (.int d), some (.int k_), some (.int (nI (zct (zfeet ρ c x) (v * 60 + f)))), some (.int (nI (v + 1))), some (.int (nI f))] 72 dX3_feet_69 rfl rfl (z_inc v) rfl ?_
    refine zv_goto K 29 dX3_feet_72 (by decide) ?_
    subst e
    refine zv_eq (lv2 := [some (.ref (a 0)), some (.int x), some (.int d), some (.int k_), some (.int (nI (zct (zfeet ρ c x) ((v + 1) * 60)))), some (.int (nI (v + 1))), some (.int (nI 60))]) rfl (by rw [Nat.succ_mul]) rfl rfl ?_
    exact hout
  · skip
    have hf60 : f < 60 := z_lt (c := 60) hb2 (by omega)
    refine zv_aload_n K 46 dX3_feet_45 rfl rfl ?_
    refine zv_get (v := .ref (a 3)) (C := RX3) (T := TX3) (N := 7) K 0 5 49 dX3_feet_46 rfl zy_X3 (zc_at (j := 0) (by decide)) rfl (by decide) zw_1_124 rfl ?_
    refine zv_iload K 51 dX3_feet_49 rfl rfl ?_
    refine zv_iload K 53 dX3_feet_51 rfl rfl ?_
    refine zv_cV1 K (q0 := 3) (As := [.int (nI v), .int (nI f)]) (rest := []) 2 56 (kX2_holderOver l D ty a ρ c hc hc20 (nI v) (nI f)) dX3_feet_53 rfl zw_2_104 zw_2_105 zw_2_106 zw_1_3 zw_2_107 ⟨rfl, rfl⟩ zh_yX2_holderOver ⟨by decide, by decide⟩ (zc_at (j := 3) (by decide)) rfl rfl rfl (zle rfl) rfl ?_
    refine zv_topi (zhj ρ c (v * 60 + f)) (by unfold zhj; rw [(zfeet_j hf60).1, (zfeet_j hf60).2]) ?_
    refine zv_iload_n K 57 dX3_feet_56 rfl rfl ?_
    refine zv_icmp_ne K 63 60 dX3_feet_57 (by decide) rfl (fun he => ?_) (fun he => ?_)
    · skip
      refine zv_iinc K (nI (f + 1)) [some (.ref (a 0)), some (.int x), some (.int d), some (.int k_), some (.int (nI (zct (zfeet ρ c x) (v * 60 + f)))), some (.int (nI v)), some (.int (nI (f + 1)))] 66 dX3_feet_63 rfl rfl (z_inc f) rfl ?_
      refine zv_goto K 38 dX3_feet_66 (by decide) ?_
      refine zv_eq (lv2 := [some (.ref (a 0)), some (.int x), some (.int d), some (.int k_), some (.int (nI (zct (zfeet ρ c x) (v * 60 + (f + 1))))), some (.int (nI v)), some (.int (nI (f + 1)))]) rfl (by rw [← Nat.add_assoc]; rw [zct_f (decide_eq_false he)]) rfl rfl ?_
      exact ih (f + 1) (by omega) (by omega)
    · skip
      refine zv_iinc K (nI (zct (zfeet ρ c x) (v * 60 + f) + 1)) [some (.ref (a 0)), some (.int x), some (.int d), some (.int k_), some (.int (nI (zct (zfeet ρ c x) (v * 60 + f) + 1))), some (.int (nI v)), some (.int (nI f))] 63 dX3_feet_60 rfl rfl (nI_1 _) rfl ?_
      refine zv_iinc K (nI (f + 1)) [some (.ref (a 0)), some (.int x), some (.int d), some (.int k_), some (.int (nI (zct (zfeet ρ c x) (v * 60 + f) + 1))), some (.int (nI v)), some (.int (nI (f + 1)))] 66 dX3_feet_63 rfl rfl (z_inc f) rfl ?_
      refine zv_goto K 38 dX3_feet_66 (by decide) ?_
      refine zv_eq (lv2 := [some (.ref (a 0)), some (.int x), some (.int d), some (.int k_), some (.int (nI (zct (zfeet ρ c x) (v * 60 + (f + 1))))), some (.int (nI v)), some (.int (nI (f + 1)))]) rfl (by rw [← Nat.add_assoc]; rw [zct_t (decide_eq_true he)]) rfl rfl ?_
      exact ih (f + 1) (by omega) (by omega)

set_option maxHeartbeats 4000000 in
set_option maxRecDepth 100000 in
theorem kX3_feet_l (l : Launch) (D : va_G) (ty : zTy) (a : Nat → Nat) (ρ : zC) (c : Nat) (hc : ρ.1 3 0 = nI c) (hc20 : c ≤ 20) (x d k_ : Int32) {k : zKx} (K : zv_ok k l D (zR 7 165) cX3_feet 7 yX3_feet.cls ty) (T : zv_rt k (some .int) (fun v_ w_ => v_ = some (.int (nI (zct (zfeet ρ c x) 240))) ∧ w_ = zc a ty ρ)) : ∀ v : Nat, v ≤ 4 → ∀ o6 : Option Value, zv k 29 [some (.ref (a 0)), some (.int x), some (.int d), some (.int k_), some (.int (nI (zct (zfeet ρ c x) (v * 60)))), some (.int (nI v)), o6] [] (zc a ty ρ) := by
  refine z_wf (fun v : Nat => 4 - v) ?_
  intro v ih hv o6
  refine zv_iload K 31 dX3_feet_29 rfl rfl ?_
  refine zv_iconst K 4 32 dX3_feet_31 rfl (by decide) ?_
  refine zv_icmp_ge K 75 35 dX3_feet_32 (by decide) rfl (fun hb => ?_) (fun hb => ?_)
  · skip
    have e : v = 4 := by have := z_ge (c := 4) hb (by decide) (by omega); omega
    refine zv_iload K 77 dX3_feet_75 rfl rfl ?_
    exact zv_iret K T dX3_feet_77 (⟨by rw [e], rfl⟩)
  · skip
    have hv4 : v < 4 := z_lt (c := 4) hb (by omega)
    refine zv_iconst K 0 36 dX3_feet_35 rfl (by decide) ?_
    refine zv_istore K [some (.ref (a 0)), some (.int x), some (.int d), some (.int k_), some (.int (nI (zct (zfeet ρ c x) (v * 60)))), some (.int (nI v)), some (.int 0)] 38 dX3_feet_36 rfl rfl (zlt rfl) ?_
    exact kX3_feet_l2 l D ty a ρ c hc hc20 x d k_ v hv4 K T (ih (v + 1) (by omega) (by omega) (some (.int (nI 60)))) 0 (by decide)

def fX3_feet (σ : zC) (O : Nat → Nat) (n : Nat) (x : Int32) (d : Int32) (k_ : Int32) : Int32 × zC :=
  if (0 ≤ x ∧ x ≤ 9) then
    if ((0 ≤ d ∧ d ≤ 999) ∧ (0 ≤ k_ ∧ k_ ≤ 999)) then
      (nI (zct (zfeet (zQ σ O n d k_) (zcn (zQ σ O n d k_)) x) 240), (zQ σ O n d k_))
    else
      ((-1), σ)
  else
    ((-1), σ)
set_option maxHeartbeats 4000000 in
set_option maxRecDepth 100000 in
theorem kX3_feet (l : Launch) (D : va_G) (ty : zTy) (a : Nat → Nat) (σ : zC) (O : Nat → Nat) (n : Nat) (hI : zI σ O n) (x d k_ : Int32) : zv_ct l D ty yX3_feet cX3_feet 7 (some .int) (zR 7 165) [.ref (a 0), .int x, .int d, .int k_] (zc a ty σ) (fun v_ w_ => v_ = some (.int (fX3_feet σ O n x d k_).1) ∧ w_ = zc a ty (fX3_feet σ O n x d k_).2) := by
  refine zv_open (by decide) rfl rfl [some (.ref (a 0)), some (.int x), some (.int d), some (.int k_), none, none, none] (by simp [zv_one, Value.category]) (zle rfl) rfl ?_
  intro k K T
  refine zv_iload_n K 1 dX3_feet_0 rfl rfl ?_
  refine zv_cS1 K (As := [.int x]) (rest := []) 1 4 (kX3_isMiner l D ty (zc a ty σ) x) dX3_feet_1 rfl zw_1_166 zw_1_167 zw_1_1 zw_1_168 ⟨rfl, rfl⟩ zh_yX3_isMiner ⟨by decide, by decide⟩ rfl rfl (zle rfl) rfl ?_
  refine zv_ifB_eq K 15 7 dX3_feet_4 (by decide) rfl (fun h1 => ?_) (fun h1 => ?_)
  · skip
    refine zv_iconst K (-1) 16 dX3_feet_15 rfl (by decide) ?_
    exact zv_iret K T dX3_feet_16 (⟨by simp only [fX3_feet, if_neg h1], by simp only [fX3_feet, if_neg h1]⟩)
  · skip
    refine zv_iload_n K 8 dX3_feet_7 rfl rfl ?_
    refine zv_iload_n K 9 dX3_feet_8 rfl rfl ?_
    refine zv_cS1 K (As := [.int d, .int k_]) (rest := []) 2 12 (kX3_areDays l D ty (zc a ty σ) d k_) dX3_feet_9 rfl zw_2_18 zw_2_19 zw_1_1 zw_2_20 ⟨rfl, rfl⟩ zh_yX3_areDays ⟨by decide, by decide⟩ rfl rfl (zle rfl) rfl ?_
    refine zv_ifB_ne K 17 15 dX3_feet_12 (by decide) rfl (fun h2 => ?_) (fun h2 => ?_)
    · skip
      refine zv_aload_n K 18 dX3_feet_17 rfl rfl ?_
      refine zv_iload_n K 19 dX3_feet_18 rfl rfl ?_
      refine zv_iload_n K 20 dX3_feet_19 rfl rfl ?_
      refine zv_cV0 K (q0 := 0) (As := [.int d, .int k_]) (rest := []) 2 23 (kX3_goThrough l D ty a σ O n hI d k_) dX3_feet_20 rfl zw_2_24 zw_2_26 zw_p1_3 zw_1_1 zw_2_27 ⟨rfl, rfl⟩ zh_yX3_goThrough ⟨by decide, by decide⟩ (zc_at (j := 0) (by decide)) rfl rfl rfl (zle rfl) rfl ?_
      refine zv_iconst K 0 24 dX3_feet_23 rfl (by decide) ?_
      refine zv_istore K [some (.ref (a 0)), some (.int x), some (.int d), some (.int k_), some (.int 0), none, none] 26 dX3_feet_24 rfl rfl (zlt rfl) ?_
      refine zv_iconst K 0 27 dX3_feet_26 rfl (by decide) ?_
      refine zv_istore K [some (.ref (a 0)), some (.int x), some (.int d), some (.int k_), some (.int 0), some (.int 0), none] 29 dX3_feet_27 rfl rfl (zlt rfl) ?_
      exact kX3_feet_l l D ty a (zQ σ O n d k_) _ (zQ_c σ O n d k_).1 (zQ_c σ O n d k_).2 x d k_ K (by simpa only [fX3_feet, if_pos h1, if_pos h2] using T) 0 (by decide) none
    · skip
      refine zv_iconst K (-1) 16 dX3_feet_15 rfl (by decide) ?_
      exact zv_iret K T dX3_feet_16 (⟨by simp only [fX3_feet, if_pos h1, if_neg h2], by simp only [fX3_feet, if_pos h1, if_neg h2]⟩)

set_option maxHeartbeats 4000000 in
set_option maxRecDepth 100000 in
theorem kX3_contested_l (l : Launch) (D : va_G) (ty : zTy) (a : Nat → Nat) (ρ : zC) (c : Nat) (hc : ρ.1 3 0 = nI c) (hc20 : c ≤ 20) (vn d k_ : Int32) {k : zKx} (K : zv_ok k l D (zR 7 165) cX3_contested 6 yX3_contested.cls ty) (T : zv_rt k (some .int) (fun v_ w_ => v_ = some (.int (nI (zct (zcont ρ c vn) 60))) ∧ w_ = zc a ty ρ)) : ∀ f : Nat, f ≤ 60 → zv k 29 [some (.ref (a 0)), some (.int vn), some (.int d), some (.int k_), some (.int (nI (zct (zcont ρ c vn) f))), some (.int (nI f))] [] (zc a ty ρ) := by
  refine z_wf (fun f : Nat => 60 - f) ?_
  intro f ih hf
  refine zv_iload K 31 dX3_contested_29 rfl rfl ?_
  refine zv_bipush K 60 33 dX3_contested_31 rfl (by decide) ?_
  refine zv_icmp_ge K 59 36 dX3_contested_33 (by decide) rfl (fun hb => ?_) (fun hb => ?_)
  · skip
    have e : f = 60 := by have := z_ge (c := 60) hb (by decide) (by omega); omega
    refine zv_iload K 61 dX3_contested_59 rfl rfl ?_
    exact zv_iret K T dX3_contested_61 (⟨by rw [e], rfl⟩)
  · skip
    have hf60 : f < 60 := z_lt (c := 60) hb (by omega)
    refine zv_aload_n K 37 dX3_contested_36 rfl rfl ?_
    refine zv_get (v := .ref (a 3)) (C := RX3) (T := TX3) (N := 7) K 0 5 40 dX3_contested_37 rfl zy_X3 (zc_at (j := 0) (by decide)) rfl (by decide) zw_1_124 rfl ?_
    refine zv_iload_n K 41 dX3_contested_40 rfl rfl ?_
    refine zv_iload K 43 dX3_contested_41 rfl rfl ?_
    refine zv_cV1 K (q0 := 3) (As := [.int vn, .int (nI f)]) (rest := []) 2 46 (kX2_countOver l D ty a ρ c hc hc20 vn (nI f)) dX3_contested_43 rfl zw_2_139 zw_2_140 zw_2_141 zw_1_3 zw_2_142 ⟨rfl, rfl⟩ zh_yX2_countOver ⟨by decide, by decide⟩ (zc_at (j := 3) (by decide)) rfl rfl rfl (zle rfl) rfl ?_
    refine zv_iconst K 2 47 dX3_contested_46 rfl (by decide) ?_
    refine zv_icmp_lt K 53 50 dX3_contested_47 (by decide) rfl (fun he => ?_) (fun he => ?_)
    · skip
      refine zv_iinc K (nI (f + 1)) [some (.ref (a 0)), some (.int vn), some (.int d), some (.int k_), some (.int (nI (zct (zcont ρ c vn) f))), some (.int (nI (f + 1)))] 56 dX3_contested_53 rfl rfl (z_inc f) rfl ?_
      refine zv_goto K 29 dX3_contested_56 (by decide) ?_
      refine zv_eq (lv2 := [some (.ref (a 0)), some (.int vn), some (.int d), some (.int k_), some (.int (nI (zct (zcont ρ c vn) (f + 1)))), some (.int (nI (f + 1)))]) rfl (by rw [zct_f (decide_eq_false (fun z => z he))]) rfl rfl ?_
      exact ih (f + 1) (by omega) (by omega)
    · skip
      refine zv_iinc K (nI (zct (zcont ρ c vn) f + 1)) [some (.ref (a 0)), some (.int vn), some (.int d), some (.int k_), some (.int (nI (zct (zcont ρ c vn) f + 1))), some (.int (nI f))] 53 dX3_contested_50 rfl rfl (nI_1 _) rfl ?_
      refine zv_iinc K (nI (f + 1)) [some (.ref (a 0)), some (.int vn), some (.int d), some (.int k_), some (.int (nI (zct (zcont ρ c vn) f + 1))), some (.int (nI (f + 1)))] 56 dX3_contested_53 rfl rfl (z_inc f) rfl ?_
      refine zv_goto K 29 dX3_contested_56 (by decide) ?_
      refine zv_eq (lv2 := [some (.ref (a 0)), some (.int vn), some (.int d), some (.int k_), some (.int (nI (zct (zcont ρ c vn) (f + 1)))), some (.int (nI (f + 1)))]) rfl (by rw [zct_t (decide_eq_true he)]) rfl rfl ?_
      exact ih (f + 1) (by omega) (by omega)

def fX3_contested (σ : zC) (O : Nat → Nat) (n : Nat) (vn : Int32) (d : Int32) (k_ : Int32) : Int32 × zC :=
  if (0 ≤ vn ∧ vn ≤ 3) then
    if ((0 ≤ d ∧ d ≤ 999) ∧ (0 ≤ k_ ∧ k_ ≤ 999)) then
      (nI (zct (zcont (zQ σ O n d k_) (zcn (zQ σ O n d k_)) vn) 60), (zQ σ O n d k_))
    else
      ((-1), σ)
  else
    ((-1), σ)
set_option maxHeartbeats 4000000 in
set_option maxRecDepth 100000 in
theorem kX3_contested (l : Launch) (D : va_G) (ty : zTy) (a : Nat → Nat) (σ : zC) (O : Nat → Nat) (n : Nat) (hI : zI σ O n) (vn d k_ : Int32) : zv_ct l D ty yX3_contested cX3_contested 6 (some .int) (zR 7 165) [.ref (a 0), .int vn, .int d, .int k_] (zc a ty σ) (fun v_ w_ => v_ = some (.int (fX3_contested σ O n vn d k_).1) ∧ w_ = zc a ty (fX3_contested σ O n vn d k_).2) := by
  refine zv_open (by decide) rfl rfl [some (.ref (a 0)), some (.int vn), some (.int d), some (.int k_), none, none] (by simp [zv_one, Value.category]) (zle rfl) rfl ?_
  intro k K T
  refine zv_iload_n K 1 dX3_contested_0 rfl rfl ?_
  refine zv_cS1 K (As := [.int vn]) (rest := []) 1 4 (kX3_isVein l D ty (zc a ty σ) vn) dX3_contested_1 rfl zw_1_160 zw_1_161 zw_1_1 zw_1_162 ⟨rfl, rfl⟩ zh_yX3_isVein ⟨by decide, by decide⟩ rfl rfl (zle rfl) rfl ?_
  refine zv_ifB_eq K 15 7 dX3_contested_4 (by decide) rfl (fun h1 => ?_) (fun h1 => ?_)
  · skip
    refine zv_iconst K (-1) 16 dX3_contested_15 rfl (by decide) ?_
    exact zv_iret K T dX3_contested_16 (⟨by simp only [fX3_contested, if_neg h1], by simp only [fX3_contested, if_neg h1]⟩)
  · skip
    refine zv_iload_n K 8 dX3_contested_7 rfl rfl ?_
    refine zv_iload_n K 9 dX3_contested_8 rfl rfl ?_
    refine zv_cS1 K (As := [.int d, .int k_]) (rest := []) 2 12 (kX3_areDays l D ty (zc a ty σ) d k_) dX3_contested_9 rfl zw_2_18 zw_2_19 zw_1_1 zw_2_20 ⟨rfl, rfl⟩ zh_yX3_areDays ⟨by decide, by decide⟩ rfl rfl (zle rfl) rfl ?_
    refine zv_ifB_ne K 17 15 dX3_contested_12 (by decide) rfl (fun h2 => ?_) (fun h2 => ?_)
    · skip
      refine zv_aload_n K 18 dX3_contested_17 rfl rfl ?_
      refine zv_iload_n K 19 dX3_contested_18 rfl rfl ?_
      refine zv_iload_n K 20 dX3_contested_19 rfl rfl ?_
      refine zv_cV0 K (q0 := 0) (As := [.int d, .int k_]) (rest := []) 2 23 (kX3_goThrough l D ty a σ O n hI d k_) dX3_contested_20 rfl zw_2_24 zw_2_26 zw_p1_3 zw_1_1 zw_2_27 ⟨rfl, rfl⟩ zh_yX3_goThrough ⟨by decide, by decide⟩ (zc_at (j := 0) (by decide)) rfl rfl rfl (zle rfl) rfl ?_
      refine zv_iconst K 0 24 dX3_contested_23 rfl (by decide) ?_
      refine zv_istore K [some (.ref (a 0)), some (.int vn), some (.int d), some (.int k_), some (.int 0), none] 26 dX3_contested_24 rfl rfl (zlt rfl) ?_
      refine zv_iconst K 0 27 dX3_contested_26 rfl (by decide) ?_
      refine zv_istore K [some (.ref (a 0)), some (.int vn), some (.int d), some (.int k_), some (.int 0), some (.int 0)] 29 dX3_contested_27 rfl rfl (zlt rfl) ?_
      exact kX3_contested_l l D ty a (zQ σ O n d k_) _ (zQ_c σ O n d k_).1 (zQ_c σ O n d k_).2 vn d k_ K (by simpa only [fX3_contested, if_pos h1, if_pos h2] using T) 0 (by decide)
    · skip
      refine zv_iconst K (-1) 16 dX3_contested_15 rfl (by decide) ?_
      exact zv_iret K T dX3_contested_16 (⟨by simp only [fX3_contested, if_pos h1, if_neg h2], by simp only [fX3_contested, if_pos h1, if_neg h2]⟩)

set_option maxHeartbeats 4000000 in
set_option maxRecDepth 100000 in
theorem kX3_changed_l (l : Launch) (D : va_G) (ty : zTy) (a : Nat → Nat) (ρ : zC) (c : Nat) (hc : ρ.1 3 0 = nI c) (hc20 : c ≤ 20) (x y z : Int32) {k : zKx} (K : zv_ok k l D (zR 7 165) cX3_changed 6 yX3_changed.cls ty) (T : zv_rt k (some .int) (fun v_ w_ => v_ = some (.int (nI (zct (zchg ρ c) 240))) ∧ w_ = zc a ty ρ)) : ∀ j : Nat, j ≤ 240 → zv k 39 [some (.ref (a 0)), some (.int x), some (.int y), some (.int z), some (.int (nI (zct (zchg ρ c) j))), some (.int (nI j))] [] (zc a ty ρ) := by
  refine z_wf (fun j : Nat => 240 - j) ?_
  intro j ih hj
  refine zv_iload K 41 dX3_changed_39 rfl rfl ?_
  refine zv_aload_n K 42 dX3_changed_41 rfl rfl ?_
  refine zv_get (v := .ref (a 10)) (C := RX3) (T := TX3) (N := 7) K 0 6 45 dX3_changed_42 rfl zy_X3 (zc_at (j := 0) (by decide)) rfl (by decide) zw_1_125 rfl ?_
  refine zv_alen K 10 46 240 dX3_changed_45 rfl (zc_at (j := 10) (by decide)) rfl ?_
  refine zv_icmp_ge K 85 49 dX3_changed_46 (by decide) rfl (fun hb => ?_) (fun hb => ?_)
  · skip
    have e : j = 240 := by have := z_ge (c := 240) hb (by decide) (by omega); omega
    refine zv_iload K 87 dX3_changed_85 rfl rfl ?_
    exact zv_iret K T dX3_changed_87 (⟨by rw [e], rfl⟩)
  · skip
    have hlt : j < 240 := z_lt (c := 240) hb (by omega)
    refine zv_aload_n K 50 dX3_changed_49 rfl rfl ?_
    refine zv_get (v := .ref (a 10)) (C := RX3) (T := TX3) (N := 7) K 0 6 53 dX3_changed_50 rfl zy_X3 (zc_at (j := 0) (by decide)) rfl (by decide) zw_1_125 rfl ?_
    refine zv_iload K 55 dX3_changed_53 rfl rfl ?_
    refine zv_iald (F := ρ.2 10) K 10 j 56 dX3_changed_55 rfl (zc_at (j := 10) (by decide)) rfl hlt (by decide) ?_
    refine zv_aload_n K 57 dX3_changed_56 rfl rfl ?_
    refine zv_get (v := .ref (a 3)) (C := RX3) (T := TX3) (N := 7) K 0 5 60 dX3_changed_57 rfl zy_X3 (zc_at (j := 0) (by decide)) rfl (by decide) zw_1_124 rfl ?_
    refine zv_iload K 62 dX3_changed_60 rfl rfl ?_
    refine zv_bipush K 60 64 dX3_changed_62 rfl (by decide) ?_
    refine zv_idiv K 65 dX3_changed_64 rfl (by decide) ?_
    refine zv_topi (nI (j / 60)) (zdiv60 hlt) ?_
    refine zv_iload K 67 dX3_changed_65 rfl rfl ?_
    refine zv_bipush K 60 69 dX3_changed_67 rfl (by decide) ?_
    refine zv_irem K 70 dX3_changed_69 rfl (by decide) ?_
    refine zv_topi (nI (j % 60)) (zrem60 hlt) ?_
    refine zv_cV1 K (q0 := 3) (As := [.int (nI (j / 60)), .int (nI (j % 60))]) (rest := [.int (ρ.2 10 j)]) 2 73 (kX2_holderOver l D ty a ρ c hc hc20 (nI (j / 60)) (nI (j % 60))) dX3_changed_70 rfl zw_2_104 zw_2_105 zw_2_106 zw_1_3 zw_2_107 ⟨rfl, rfl⟩ zh_yX2_holderOver ⟨by decide, by decide⟩ (zc_at (j := 3) (by decide)) rfl rfl rfl (zle rfl) rfl ?_
    refine zv_icmp_eq K 79 76 dX3_changed_73 (by decide) rfl (fun he => ?_) (fun he => ?_)
    · skip
      refine zv_iinc K (nI (j + 1)) [some (.ref (a 0)), some (.int x), some (.int y), some (.int z), some (.int (nI (zct (zchg ρ c) j))), some (.int (nI (j + 1)))] 82 dX3_changed_79 rfl rfl (z_inc j) rfl ?_
      refine zv_goto K 39 dX3_changed_82 (by decide) ?_
      refine zv_eq (lv2 := [some (.ref (a 0)), some (.int x), some (.int y), some (.int z), some (.int (nI (zct (zchg ρ c) (j + 1)))), some (.int (nI (j + 1)))]) rfl (by rw [zct_f (decide_eq_false (fun z => z he))]) rfl rfl ?_
      exact ih (j + 1) (by omega) (by omega)
    · skip
      refine zv_iinc K (nI (zct (zchg ρ c) j + 1)) [some (.ref (a 0)), some (.int x), some (.int y), some (.int z), some (.int (nI (zct (zchg ρ c) j + 1))), some (.int (nI j))] 79 dX3_changed_76 rfl rfl (nI_1 _) rfl ?_
      refine zv_iinc K (nI (j + 1)) [some (.ref (a 0)), some (.int x), some (.int y), some (.int z), some (.int (nI (zct (zchg ρ c) j + 1))), some (.int (nI (j + 1)))] 82 dX3_changed_79 rfl rfl (z_inc j) rfl ?_
      refine zv_goto K 39 dX3_changed_82 (by decide) ?_
      refine zv_eq (lv2 := [some (.ref (a 0)), some (.int x), some (.int y), some (.int z), some (.int (nI (zct (zchg ρ c) (j + 1)))), some (.int (nI (j + 1)))]) rfl (by rw [zct_t (decide_eq_true he)]) rfl rfl ?_
      exact ih (j + 1) (by omega) (by omega)

def zN (σ : zC) : zC := zFa σ 10 (zhN σ (zcn σ) 240 (σ.2 10))
theorem zfr_N (σ : zC) : zfr σ (zN σ) := zfr_Fa (by decide) _
def fX3_changed (σ : zC) (O : Nat → Nat) (n : Nat) (x : Int32) (y : Int32) (z : Int32) : Int32 × zC :=
  if ((0 ≤ x ∧ x ≤ 999) ∧ (0 ≤ y ∧ y ≤ 999)) then
    if (0 ≤ z ∧ z ≤ 999) then
      (nI (zct (zchg (zQ (zN (zQ σ O n x y)) O n x z) (zcn (zQ (zN (zQ σ O n x y)) O n x z))) 240), (zQ (zN (zQ σ O n x y)) O n x z))
    else
      ((-1), σ)
  else
    ((-1), σ)
set_option maxHeartbeats 4000000 in
set_option maxRecDepth 100000 in
theorem kX3_changed (l : Launch) (D : va_G) (ty : zTy) (a : Nat → Nat) (σ : zC) (O : Nat → Nat) (n : Nat) (hI : zI σ O n) (x y z : Int32) : zv_ct l D ty yX3_changed cX3_changed 6 (some .int) (zR 7 165) [.ref (a 0), .int x, .int y, .int z] (zc a ty σ) (fun v_ w_ => v_ = some (.int (fX3_changed σ O n x y z).1) ∧ w_ = zc a ty (fX3_changed σ O n x y z).2) := by
  refine zv_open (by decide) rfl rfl [some (.ref (a 0)), some (.int x), some (.int y), some (.int z), none, none] (by simp [zv_one, Value.category]) (zle rfl) rfl ?_
  intro k K T
  refine zv_iload_n K 1 dX3_changed_0 rfl rfl ?_
  refine zv_iload_n K 2 dX3_changed_1 rfl rfl ?_
  refine zv_cS1 K (As := [.int x, .int y]) (rest := []) 2 5 (kX3_areDays l D ty (zc a ty σ) x y) dX3_changed_2 rfl zw_2_18 zw_2_19 zw_1_1 zw_2_20 ⟨rfl, rfl⟩ zh_yX3_areDays ⟨by decide, by decide⟩ rfl rfl (zle rfl) rfl ?_
  refine zv_ifB_eq K 15 8 dX3_changed_5 (by decide) rfl (fun h1 => ?_) (fun h1 => ?_)
  · skip
    refine zv_iconst K (-1) 16 dX3_changed_15 rfl (by decide) ?_
    exact zv_iret K T dX3_changed_16 (⟨by simp only [fX3_changed, if_neg h1], by simp only [fX3_changed, if_neg h1]⟩)
  · skip
    refine zv_iload_n K 9 dX3_changed_8 rfl rfl ?_
    refine zv_cS1 K (As := [.int z]) (rest := []) 1 12 (kX3_isDay l D ty (zc a ty σ) z) dX3_changed_9 rfl zw_2_21 zw_2_22 zw_1_1 zw_2_23 ⟨rfl, rfl⟩ zh_yX3_isDay ⟨by decide, by decide⟩ rfl rfl (zle rfl) rfl ?_
    refine zv_ifB_ne K 17 15 dX3_changed_12 (by decide) rfl (fun h2 => ?_) (fun h2 => ?_)
    · skip
      refine zv_aload_n K 18 dX3_changed_17 rfl rfl ?_
      refine zv_iload_n K 19 dX3_changed_18 rfl rfl ?_
      refine zv_iload_n K 20 dX3_changed_19 rfl rfl ?_
      refine zv_cV0 K (q0 := 0) (As := [.int x, .int y]) (rest := []) 2 23 (kX3_goThrough l D ty a σ O n hI x y) dX3_changed_20 rfl zw_2_24 zw_2_26 zw_p1_3 zw_1_1 zw_2_27 ⟨rfl, rfl⟩ zh_yX3_goThrough ⟨by decide, by decide⟩ (zc_at (j := 0) (by decide)) rfl rfl rfl (zle rfl) rfl ?_
      refine zv_aload_n K 24 dX3_changed_23 rfl rfl ?_
      refine zv_cV0 K (q0 := 0) (As := []) (rest := []) 0 27 (kX3_noteHolders l D ty a (zQ σ O n x y) (zcn (zQ σ O n x y)) (zQ_c σ O n x y).1 (zQ_c σ O n x y).2) dX3_changed_24 rfl zw_2_155 zw_2_157 zw_p1_15 zw_1_1 zw_2_158 ⟨rfl, rfl⟩ zh_yX3_noteHolders ⟨by decide, by decide⟩ (zc_at (j := 0) (by decide)) rfl rfl rfl (zle rfl) rfl ?_
      refine zv_aload_n K 28 dX3_changed_27 rfl rfl ?_
      refine zv_iload_n K 29 dX3_changed_28 rfl rfl ?_
      refine zv_iload_n K 30 dX3_changed_29 rfl rfl ?_
      refine zv_cV0 K (q0 := 0) (As := [.int x, .int z]) (rest := []) 2 33 (kX3_goThrough l D ty a (zN (zQ σ O n x y)) O n (hI.fr ((zQ_fr σ O n x y).tr (zfr_N _))) x z) dX3_changed_30 rfl zw_2_24 zw_2_26 zw_p1_3 zw_1_1 zw_2_27 ⟨rfl, rfl⟩ zh_yX3_goThrough ⟨by decide, by decide⟩ (zc_at (j := 0) (by decide)) rfl rfl rfl (zle rfl) rfl ?_
      refine zv_iconst K 0 34 dX3_changed_33 rfl (by decide) ?_
      refine zv_istore K [some (.ref (a 0)), some (.int x), some (.int y), some (.int z), some (.int 0), none] 36 dX3_changed_34 rfl rfl (zlt rfl) ?_
      refine zv_iconst K 0 37 dX3_changed_36 rfl (by decide) ?_
      refine zv_istore K [some (.ref (a 0)), some (.int x), some (.int y), some (.int z), some (.int 0), some (.int 0)] 39 dX3_changed_37 rfl rfl (zlt rfl) ?_
      exact kX3_changed_l l D ty a (zQ (zN (zQ σ O n x y)) O n x z) _ (zQ_c (zN (zQ σ O n x y)) O n x z).1 (zQ_c (zN (zQ σ O n x y)) O n x z).2 x y z K (by simpa only [fX3_changed, if_pos h1, if_pos h2] using T) 0 (by decide)
    · skip
      refine zv_iconst K (-1) 16 dX3_changed_15 rfl (by decide) ?_
      exact zv_iret K T dX3_changed_16 (⟨by simp only [fX3_changed, if_pos h1, if_neg h2], by simp only [fX3_changed, if_pos h1, if_neg h2]⟩)
end
