section
-- ===== PART A: goes FIRST, ahead of the names: the tables' words, and 'selects' of the private methods out of them =====
/-- a private method of a class that the tables say can be made, by its rows of tables_1 -/
def lw_okq (q : MethodName × Nat) : Prop := (q.1.cls ≠ "java/lang/invoke/MethodHandle" ∧ q.1.cls ≠ "java/lang/invoke/VarHandle") ∧ Cond.instantiable q.1.cls q.2 ∈ tables_1 ∧ Cond.privateMethod q.1 ∈ tables_1 ∧ Cond.instanceMethod q.1 ∈ tables_1
theorem lw_p0 : lw_okq (⟨"LossyLanes$Prices", "layPlanes", "()V"⟩, 17) := ⟨⟨by decide +kernel, by decide +kernel⟩, List.mem_of_getElem? (i := 106) (by decide +kernel), List.mem_of_getElem? (i := 263) (by decide +kernel), List.mem_of_getElem? (i := 264) (by decide +kernel)⟩
theorem lw_p1 : lw_okq (⟨"LossyLanes$Prices", "emptyPlane", "()[I"⟩, 17) := ⟨⟨by decide +kernel, by decide +kernel⟩, List.mem_of_getElem? (i := 106) (by decide +kernel), List.mem_of_getElem? (i := 267) (by decide +kernel), List.mem_of_getElem? (i := 268) (by decide +kernel)⟩
theorem lw_p2 : lw_okq (⟨"LossyLanes$Prices", "bendsTheSum", "(I)Z"⟩, 17) := ⟨⟨by decide +kernel, by decide +kernel⟩, List.mem_of_getElem? (i := 106) (by decide +kernel), List.mem_of_getElem? (i := 271) (by decide +kernel), List.mem_of_getElem? (i := 272) (by decide +kernel)⟩
theorem lw_p3 : lw_okq (⟨"LossyLanes$Prices", "crossTwo", "([I[I)V"⟩, 17) := ⟨⟨by decide +kernel, by decide +kernel⟩, List.mem_of_getElem? (i := 106) (by decide +kernel), List.mem_of_getElem? (i := 275) (by decide +kernel), List.mem_of_getElem? (i := 276) (by decide +kernel)⟩
theorem lw_p4 : lw_okq (⟨"LossyLanes$Prices", "meetsAtCorner", "([I)Z"⟩, 17) := ⟨⟨by decide +kernel, by decide +kernel⟩, List.mem_of_getElem? (i := 106) (by decide +kernel), List.mem_of_getElem? (i := 279) (by decide +kernel), List.mem_of_getElem? (i := 280) (by decide +kernel)⟩
theorem lw_p5 : lw_okq (⟨"LossyLanes$Prices", "weighCorner", "()V"⟩, 17) := ⟨⟨by decide +kernel, by decide +kernel⟩, List.mem_of_getElem? (i := 106) (by decide +kernel), List.mem_of_getElem? (i := 283) (by decide +kernel), List.mem_of_getElem? (i := 284) (by decide +kernel)⟩
theorem lw_p6 : lw_okq (⟨"LossyLanes$Rows", "begin", "(Z)V"⟩, 9) := ⟨⟨by decide +kernel, by decide +kernel⟩, List.mem_of_getElem? (i := 54) (by decide +kernel), List.mem_of_getElem? (i := 327) (by decide +kernel), List.mem_of_getElem? (i := 328) (by decide +kernel)⟩
theorem lw_p7 : lw_okq (⟨"LossyLanes$Rows", "walk", "(LLossyLanes$Net;III)V"⟩, 9) := ⟨⟨by decide +kernel, by decide +kernel⟩, List.mem_of_getElem? (i := 54) (by decide +kernel), List.mem_of_getElem? (i := 331) (by decide +kernel), List.mem_of_getElem? (i := 332) (by decide +kernel)⟩
theorem lw_p8 : lw_okq (⟨"LossyLanes$Rows", "weigh", "(LLossyLanes$Net;I)V"⟩, 9) := ⟨⟨by decide +kernel, by decide +kernel⟩, List.mem_of_getElem? (i := 54) (by decide +kernel), List.mem_of_getElem? (i := 335) (by decide +kernel), List.mem_of_getElem? (i := 336) (by decide +kernel)⟩
theorem lw_p9 : lw_okq (⟨"LossyLanes$Rows", "trailIsBetter", "(I)Z"⟩, 9) := ⟨⟨by decide +kernel, by decide +kernel⟩, List.mem_of_getElem? (i := 54) (by decide +kernel), List.mem_of_getElem? (i := 348) (by decide +kernel), List.mem_of_getElem? (i := 349) (by decide +kernel)⟩
theorem lw_p10 : lw_okq (⟨"LossyLanes", "takeBestRow", "()I"⟩, 8) := ⟨⟨by decide +kernel, by decide +kernel⟩, List.mem_of_getElem? (i := 10) (by decide +kernel), List.mem_of_getElem? (i := 359) (by decide +kernel), List.mem_of_getElem? (i := 360) (by decide +kernel)⟩
theorem lw_p11 : lw_okq (⟨"LossyLanesModel", "isPost", "(I)Z"⟩, 33) := ⟨⟨by decide +kernel, by decide +kernel⟩, List.mem_of_getElem? (i := 423) (by decide +kernel), List.mem_of_getElem? (i := 540) (by decide +kernel), List.mem_of_getElem? (i := 541) (by decide +kernel)⟩
theorem lw_p12 : lw_okq (⟨"LossyLanesModel", "isLane", "(I)Z"⟩, 33) := ⟨⟨by decide +kernel, by decide +kernel⟩, List.mem_of_getElem? (i := 423) (by decide +kernel), List.mem_of_getElem? (i := 548) (by decide +kernel), List.mem_of_getElem? (i := 549) (by decide +kernel)⟩
theorem lw_p13 : lw_okq (⟨"LossyLanesModel", "put", "(JJ)V"⟩, 33) := ⟨⟨by decide +kernel, by decide +kernel⟩, List.mem_of_getElem? (i := 423) (by decide +kernel), List.mem_of_getElem? (i := 560) (by decide +kernel), List.mem_of_getElem? (i := 561) (by decide +kernel)⟩
theorem lw_p14 : lw_okq (⟨"LossyLanesModel", "setShares", "(I)V"⟩, 33) := ⟨⟨by decide +kernel, by decide +kernel⟩, List.mem_of_getElem? (i := 423) (by decide +kernel), List.mem_of_getElem? (i := 572) (by decide +kernel), List.mem_of_getElem? (i := 573) (by decide +kernel)⟩
theorem lw_p15 : lw_okq (⟨"LossyLanesModel", "findMost", "()V"⟩, 33) := ⟨⟨by decide +kernel, by decide +kernel⟩, List.mem_of_getElem? (i := 423) (by decide +kernel), List.mem_of_getElem? (i := 576) (by decide +kernel), List.mem_of_getElem? (i := 577) (by decide +kernel)⟩
def lw_privs_1 : List (MethodName × Nat) := [(⟨"LossyLanes$Prices", "layPlanes", "()V"⟩, 17), (⟨"LossyLanes$Prices", "emptyPlane", "()[I"⟩, 17), (⟨"LossyLanes$Prices", "bendsTheSum", "(I)Z"⟩, 17), (⟨"LossyLanes$Prices", "crossTwo", "([I[I)V"⟩, 17), (⟨"LossyLanes$Prices", "meetsAtCorner", "([I)Z"⟩, 17), (⟨"LossyLanes$Prices", "weighCorner", "()V"⟩, 17), (⟨"LossyLanes$Rows", "begin", "(Z)V"⟩, 9), (⟨"LossyLanes$Rows", "walk", "(LLossyLanes$Net;III)V"⟩, 9), (⟨"LossyLanes$Rows", "weigh", "(LLossyLanes$Net;I)V"⟩, 9), (⟨"LossyLanes$Rows", "trailIsBetter", "(I)Z"⟩, 9), (⟨"LossyLanes", "takeBestRow", "()I"⟩, 8), (⟨"LossyLanesModel", "isPost", "(I)Z"⟩, 33), (⟨"LossyLanesModel", "isLane", "(I)Z"⟩, 33), (⟨"LossyLanesModel", "put", "(JJ)V"⟩, 33), (⟨"LossyLanesModel", "setShares", "(I)V"⟩, 33), (⟨"LossyLanesModel", "findMost", "()V"⟩, 33)]
theorem lw_r1 : ∀ q ∈ lw_privs_1, lw_okq q := List.forall_mem_cons.mpr ⟨lw_p0, List.forall_mem_cons.mpr ⟨lw_p1, List.forall_mem_cons.mpr ⟨lw_p2, List.forall_mem_cons.mpr ⟨lw_p3, List.forall_mem_cons.mpr ⟨lw_p4, List.forall_mem_cons.mpr ⟨lw_p5, List.forall_mem_cons.mpr ⟨lw_p6, List.forall_mem_cons.mpr ⟨lw_p7, List.forall_mem_cons.mpr ⟨lw_p8, List.forall_mem_cons.mpr ⟨lw_p9, List.forall_mem_cons.mpr ⟨lw_p10, List.forall_mem_cons.mpr ⟨lw_p11, List.forall_mem_cons.mpr ⟨lw_p12, List.forall_mem_cons.mpr ⟨lw_p13, List.forall_mem_cons.mpr ⟨lw_p14, List.forall_mem_cons.mpr ⟨lw_p15, fun _ h => absurd h List.not_mem_nil⟩⟩⟩⟩⟩⟩⟩⟩⟩⟩⟩⟩⟩⟩⟩⟩
theorem lw_p16 : lw_okq (⟨"LossyLanesModel", "findPrices", "()Z"⟩, 33) := ⟨⟨by decide +kernel, by decide +kernel⟩, List.mem_of_getElem? (i := 423) (by decide +kernel), List.mem_of_getElem? (i := 580) (by decide +kernel), List.mem_of_getElem? (i := 581) (by decide +kernel)⟩
theorem lw_p17 : lw_okq (⟨"LossyLanesModel", "findWorth", "()V"⟩, 33) := ⟨⟨by decide +kernel, by decide +kernel⟩, List.mem_of_getElem? (i := 423) (by decide +kernel), List.mem_of_getElem? (i := 584) (by decide +kernel), List.mem_of_getElem? (i := 585) (by decide +kernel)⟩
theorem lw_p18 : lw_okq (⟨"LossyLanesModel", "nextChoice", "()Z"⟩, 33) := ⟨⟨by decide +kernel, by decide +kernel⟩, List.mem_of_getElem? (i := 423) (by decide +kernel), List.mem_of_getElem? (i := 591) (by decide +kernel), List.mem_of_getElem? (i := 592) (by decide +kernel)⟩
theorem lw_p19 : lw_okq (⟨"LossyLanesModel", "goAll", "(IIZ)V"⟩, 33) := ⟨⟨by decide +kernel, by decide +kernel⟩, List.mem_of_getElem? (i := 423) (by decide +kernel), List.mem_of_getElem? (i := 603) (by decide +kernel), List.mem_of_getElem? (i := 604) (by decide +kernel)⟩
theorem lw_p20 : lw_okq (⟨"LossyLanesModel", "takes", "(I)V"⟩, 33) := ⟨⟨by decide +kernel, by decide +kernel⟩, List.mem_of_getElem? (i := 423) (by decide +kernel), List.mem_of_getElem? (i := 607) (by decide +kernel), List.mem_of_getElem? (i := 608) (by decide +kernel)⟩
theorem lw_p21 : lw_okq (⟨"LossyLanesModel", "productUp", "(I)J"⟩, 33) := ⟨⟨by decide +kernel, by decide +kernel⟩, List.mem_of_getElem? (i := 423) (by decide +kernel), List.mem_of_getElem? (i := 611) (by decide +kernel), List.mem_of_getElem? (i := 612) (by decide +kernel)⟩
theorem lw_p22 : lw_okq (⟨"LossyLanesModel", "productDown", "(I)J"⟩, 33) := ⟨⟨by decide +kernel, by decide +kernel⟩, List.mem_of_getElem? (i := 423) (by decide +kernel), List.mem_of_getElem? (i := 615) (by decide +kernel), List.mem_of_getElem? (i := 616) (by decide +kernel)⟩
theorem lw_p23 : lw_okq (⟨"LossyLanesModel", "isOn", "(II)Z"⟩, 33) := ⟨⟨by decide +kernel, by decide +kernel⟩, List.mem_of_getElem? (i := 423) (by decide +kernel), List.mem_of_getElem? (i := 619) (by decide +kernel), List.mem_of_getElem? (i := 620) (by decide +kernel)⟩
theorem lw_p24 : lw_okq (⟨"LossyLanesModel", "keep", "()I"⟩, 33) := ⟨⟨by decide +kernel, by decide +kernel⟩, List.mem_of_getElem? (i := 423) (by decide +kernel), List.mem_of_getElem? (i := 623) (by decide +kernel), List.mem_of_getElem? (i := 624) (by decide +kernel)⟩
theorem lw_p25 : lw_okq (⟨"LossyLanesModel", "findRings", "()V"⟩, 33) := ⟨⟨by decide +kernel, by decide +kernel⟩, List.mem_of_getElem? (i := 423) (by decide +kernel), List.mem_of_getElem? (i := 631) (by decide +kernel), List.mem_of_getElem? (i := 632) (by decide +kernel)⟩
theorem lw_p26 : lw_okq (⟨"LossyLanesModel", "arrives", "(I)J"⟩, 33) := ⟨⟨by decide +kernel, by decide +kernel⟩, List.mem_of_getElem? (i := 423) (by decide +kernel), List.mem_of_getElem? (i := 651) (by decide +kernel), List.mem_of_getElem? (i := 652) (by decide +kernel)⟩
theorem lw_p27 : lw_okq (⟨"LossyLanesModel", "leaves", "(I)J"⟩, 33) := ⟨⟨by decide +kernel, by decide +kernel⟩, List.mem_of_getElem? (i := 423) (by decide +kernel), List.mem_of_getElem? (i := 656) (by decide +kernel), List.mem_of_getElem? (i := 657) (by decide +kernel)⟩
theorem lw_p28 : lw_okq (⟨"LossyLanesModel", "copy", "(II)V"⟩, 33) := ⟨⟨by decide +kernel, by decide +kernel⟩, List.mem_of_getElem? (i := 423) (by decide +kernel), List.mem_of_getElem? (i := 672) (by decide +kernel), List.mem_of_getElem? (i := 673) (by decide +kernel)⟩
def lw_privs_2 : List (MethodName × Nat) := [(⟨"LossyLanesModel", "findPrices", "()Z"⟩, 33), (⟨"LossyLanesModel", "findWorth", "()V"⟩, 33), (⟨"LossyLanesModel", "nextChoice", "()Z"⟩, 33), (⟨"LossyLanesModel", "goAll", "(IIZ)V"⟩, 33), (⟨"LossyLanesModel", "takes", "(I)V"⟩, 33), (⟨"LossyLanesModel", "productUp", "(I)J"⟩, 33), (⟨"LossyLanesModel", "productDown", "(I)J"⟩, 33), (⟨"LossyLanesModel", "isOn", "(II)Z"⟩, 33), (⟨"LossyLanesModel", "keep", "()I"⟩, 33), (⟨"LossyLanesModel", "findRings", "()V"⟩, 33), (⟨"LossyLanesModel", "arrives", "(I)J"⟩, 33), (⟨"LossyLanesModel", "leaves", "(I)J"⟩, 33), (⟨"LossyLanesModel", "copy", "(II)V"⟩, 33)]
theorem lw_r2 : ∀ q ∈ lw_privs_2, lw_okq q := List.forall_mem_cons.mpr ⟨lw_p16, List.forall_mem_cons.mpr ⟨lw_p17, List.forall_mem_cons.mpr ⟨lw_p18, List.forall_mem_cons.mpr ⟨lw_p19, List.forall_mem_cons.mpr ⟨lw_p20, List.forall_mem_cons.mpr ⟨lw_p21, List.forall_mem_cons.mpr ⟨lw_p22, List.forall_mem_cons.mpr ⟨lw_p23, List.forall_mem_cons.mpr ⟨lw_p24, List.forall_mem_cons.mpr ⟨lw_p25, List.forall_mem_cons.mpr ⟨lw_p26, List.forall_mem_cons.mpr ⟨lw_p27, List.forall_mem_cons.mpr ⟨lw_p28, fun _ h => absurd h List.not_mem_nil⟩⟩⟩⟩⟩⟩⟩⟩⟩⟩⟩⟩⟩
def lw_privs : List (MethodName × Nat) := lw_privs_1 ++ (lw_privs_2)
def lw_tbl : List Cond := k2_sels lw_privs ++ tables_1
theorem lw_privs_ok : ∀ q ∈ lw_privs, lw_okq q := by
  show ∀ q ∈ lw_privs_1 ++ (lw_privs_2), lw_okq q
  exact List.forall_mem_append.mpr ⟨lw_r1, lw_r2⟩
end
section
def RX0 : String := "LossyLanes$Fraction"
def TX0 : u_T := fun k => match k with
  | 0 => ("LossyLanes$Fraction", "upper", "J", false)
  | _ => ("LossyLanes$Fraction", "under", "J", false)
def tyX0 : Nat → FieldType := fun k => match k with
  | 0 => .long
  | _ => .long
theorem nmX0 : ∀ a, a < 2 → ∀ b, b < 2 → a ≠ b → (TX0 a).2.1 ≠ (TX0 b).2.1 := by decide +kernel
theorem tyX0_ok : ∀ k, k < 2 → parseFieldDescriptor (TX0 k).2.2.1 = some (tyX0 k) := by decide +kernel
abbrev cX0_init : ByteArray := prog_2_method_1_code
def yX0_init : MethodName := ⟨RX0, "<init>", "()V"⟩
abbrev cX0_set : ByteArray := prog_2_method_2_code
def yX0_set : MethodName := ⟨RX0, "set", "(JJ)V"⟩
abbrev cX0_setDifference : ByteArray := prog_2_method_3_code
def yX0_setDifference : MethodName := ⟨RX0, "setDifference", "(LLossyLanes$Fraction;LLossyLanes$Fraction;)V"⟩
abbrev cX0_number : ByteArray := prog_2_method_4_code
def yX0_number : MethodName := ⟨RX0, "number", "(Z)J"⟩
abbrev cX0_isAboveOne : ByteArray := prog_2_method_5_code
def yX0_isAboveOne : MethodName := ⟨RX0, "isAboveOne", "()Z"⟩
abbrev cX0_compareWith : ByteArray := prog_2_method_6_code
def yX0_compareWith : MethodName := ⟨RX0, "compareWith", "(LLossyLanes$Fraction;)J"⟩
abbrev cX0_commonDivisor : ByteArray := prog_2_method_7_code
def yX0_commonDivisor : MethodName := ⟨RX0, "commonDivisor", "(JJ)J"⟩
def RX1 : String := "LossyLanes$Net"
def TX1 : u_T := fun k => match k with
  | 0 => ("LossyLanes$Net", "posts", "I", false)
  | 1 => ("LossyLanes$Net", "size", "I", false)
  | 2 => ("LossyLanes$Net", "lanes", "[[I", true)
  | 3 => ("LossyLanes$Net", "hand", "[I", true)
  | _ => ("LossyLanes$Net", "handLength", "I", false)
def tyX1 : Nat → FieldType := fun k => match k with
  | 0 => .int
  | 1 => .int
  | 2 => .array (.array .int)
  | 3 => .array .int
  | _ => .int
theorem nmX1 : ∀ a, a < 5 → ∀ b, b < 5 → a ≠ b → (TX1 a).2.1 ≠ (TX1 b).2.1 := by decide +kernel
theorem tyX1_ok : ∀ k, k < 5 → parseFieldDescriptor (TX1 k).2.2.1 = some (tyX1 k) := by decide +kernel
abbrev cX1_init : ByteArray := prog_3_method_1_code
def yX1_init : MethodName := ⟨RX1, "<init>", "()V"⟩
abbrev cX1_take : ByteArray := prog_3_method_2_code
def yX1_take : MethodName := ⟨RX1, "take", "(LLossyLanes$Net;)V"⟩
abbrev cX1_takeRow : ByteArray := prog_3_method_3_code
def yX1_takeRow : MethodName := ⟨RX1, "takeRow", "([II)V"⟩
abbrev cX1_dropRow : ByteArray := prog_3_method_4_code
def yX1_dropRow : MethodName := ⟨RX1, "dropRow", "()V"⟩
abbrev cX1_lastPost : ByteArray := prog_3_method_5_code
def yX1_lastPost : MethodName := ⟨RX1, "lastPost", "()I"⟩
abbrev cX1_hasPost : ByteArray := prog_3_method_6_code
def yX1_hasPost : MethodName := ⟨RX1, "hasPost", "(I)Z"⟩
abbrev cX1_hasLane : ByteArray := prog_3_method_7_code
def yX1_hasLane : MethodName := ⟨RX1, "hasLane", "(I)Z"⟩
abbrev cX1_canLead : ByteArray := prog_3_method_8_code
def yX1_canLead : MethodName := ⟨RX1, "canLead", "(II)Z"⟩
abbrev cX1_balance : ByteArray := prog_3_method_9_code
def yX1_balance : MethodName := ⟨RX1, "balance", "(I)J"⟩
abbrev cX1_multiplyShares : ByteArray := prog_3_method_10_code
def yX1_multiplyShares : MethodName := ⟨RX1, "multiplyShares", "([IILLossyLanes$Fraction;)V"⟩
def RX2 : String := "LossyLanes$Prices"
def TX2 : u_T := fun k => match k with
  | 0 => ("LossyLanes$Prices", "from", "[I", true)
  | 1 => ("LossyLanes$Prices", "to", "[I", true)
  | 2 => ("LossyLanes$Prices", "rooms", "[I", true)
  | 3 => ("LossyLanes$Prices", "p", "[I", true)
  | 4 => ("LossyLanes$Prices", "q", "[I", true)
  | 5 => ("LossyLanes$Prices", "size", "I", false)
  | 6 => ("LossyLanes$Prices", "planes", "[[I", true)
  | 7 => ("LossyLanes$Prices", "planeCount", "I", false)
  | 8 => ("LossyLanes$Prices", "price", "[J", true)
  | 9 => ("LossyLanes$Prices", "m12", "J", false)
  | 10 => ("LossyLanes$Prices", "m13", "J", false)
  | 11 => ("LossyLanes$Prices", "m14", "J", false)
  | 12 => ("LossyLanes$Prices", "m23", "J", false)
  | 13 => ("LossyLanes$Prices", "m24", "J", false)
  | 14 => ("LossyLanes$Prices", "m34", "J", false)
  | 15 => ("LossyLanes$Prices", "leastSum", "J", false)
  | _ => ("LossyLanes$Prices", "leastUnder", "J", false)
def tyX2 : Nat → FieldType := fun k => match k with
  | 0 => .array .int
  | 1 => .array .int
  | 2 => .array .int
  | 3 => .array .int
  | 4 => .array .int
  | 5 => .int
  | 6 => .array (.array .int)
  | 7 => .int
  | 8 => .array .long
  | 9 => .long
  | 10 => .long
  | 11 => .long
  | 12 => .long
  | 13 => .long
  | 14 => .long
  | 15 => .long
  | _ => .long
theorem nmX2 : ∀ a, a < 17 → ∀ b, b < 17 → a ≠ b → (TX2 a).2.1 ≠ (TX2 b).2.1 := by decide +kernel
theorem tyX2_ok : ∀ k, k < 17 → parseFieldDescriptor (TX2 k).2.2.1 = some (tyX2 k) := by decide +kernel
abbrev cX2_init : ByteArray := prog_4_method_1_code
def yX2_init : MethodName := ⟨RX2, "<init>", "()V"⟩
abbrev cX2_load : ByteArray := prog_4_method_2_code
def yX2_load : MethodName := ⟨RX2, "load", "(LLossyLanes$Net;I)V"⟩
abbrev cX2_changeRoom : ByteArray := prog_4_method_3_code
def yX2_changeRoom : MethodName := ⟨RX2, "changeRoom", "(II)V"⟩
abbrev cX2_findLeast : ByteArray := prog_4_method_4_code
def yX2_findLeast : MethodName := ⟨RX2, "findLeast", "(LLossyLanes$Fraction;)V"⟩
abbrev cX2_upperOfShare : ByteArray := prog_4_method_5_code
def yX2_upperOfShare : MethodName := ⟨RX2, "upperOfShare", "([II)I"⟩
abbrev cX2_layPlanes : ByteArray := prog_4_method_6_code
def yX2_layPlanes : MethodName := ⟨RX2, "layPlanes", "()V"⟩
abbrev cX2_emptyPlane : ByteArray := prog_4_method_7_code
def yX2_emptyPlane : MethodName := ⟨RX2, "emptyPlane", "()[I"⟩
abbrev cX2_bendsTheSum : ByteArray := prog_4_method_8_code
def yX2_bendsTheSum : MethodName := ⟨RX2, "bendsTheSum", "(I)Z"⟩
abbrev cX2_crossTwo : ByteArray := prog_4_method_9_code
def yX2_crossTwo : MethodName := ⟨RX2, "crossTwo", "([I[I)V"⟩
abbrev cX2_meetsAtCorner : ByteArray := prog_4_method_10_code
def yX2_meetsAtCorner : MethodName := ⟨RX2, "meetsAtCorner", "([I)Z"⟩
abbrev cX2_weighCorner : ByteArray := prog_4_method_11_code
def yX2_weighCorner : MethodName := ⟨RX2, "weighCorner", "()V"⟩
def RX3 : String := "LossyLanes$Rows"
def TX3 : u_T := fun k => match k with
  | 0 => ("LossyLanes$Rows", "trail", "[I", true)
  | 1 => ("LossyLanes$Rows", "trailGain", "LLossyLanes$Fraction;", true)
  | 2 => ("LossyLanes$Rows", "best", "[I", true)
  | 3 => ("LossyLanes$Rows", "bestGain", "LLossyLanes$Fraction;", true)
  | 4 => ("LossyLanes$Rows", "bestLength", "I", false)
  | 5 => ("LossyLanes$Rows", "goal", "I", false)
  | 6 => ("LossyLanes$Rows", "onlyGainful", "Z", false)
  | 7 => ("LossyLanes$Rows", "found", "I", false)
  | _ => ("LossyLanes$Rows", "gainful", "I", false)
def tyX3 : Nat → FieldType := fun k => match k with
  | 0 => .array .int
  | 1 => .object "LossyLanes$Fraction"
  | 2 => .array .int
  | 3 => .object "LossyLanes$Fraction"
  | 4 => .int
  | 5 => .int
  | 6 => .boolean
  | 7 => .int
  | _ => .int
theorem nmX3 : ∀ a, a < 9 → ∀ b, b < 9 → a ≠ b → (TX3 a).2.1 ≠ (TX3 b).2.1 := by decide +kernel
theorem tyX3_ok : ∀ k, k < 9 → parseFieldDescriptor (TX3 k).2.2.1 = some (tyX3 k) := by decide +kernel
abbrev cX3_init : ByteArray := prog_5_method_1_code
def yX3_init : MethodName := ⟨RX3, "<init>", "()V"⟩
abbrev cX3_findWays : ByteArray := prog_5_method_2_code
def yX3_findWays : MethodName := ⟨RX3, "findWays", "(LLossyLanes$Net;II)V"⟩
abbrev cX3_findRings : ByteArray := prog_5_method_3_code
def yX3_findRings : MethodName := ⟨RX3, "findRings", "(LLossyLanes$Net;)V"⟩
abbrev cX3_begin : ByteArray := prog_5_method_4_code
def yX3_begin : MethodName := ⟨RX3, "begin", "(Z)V"⟩
abbrev cX3_walk : ByteArray := prog_5_method_5_code
def yX3_walk : MethodName := ⟨RX3, "walk", "(LLossyLanes$Net;III)V"⟩
abbrev cX3_weigh : ByteArray := prog_5_method_6_code
def yX3_weigh : MethodName := ⟨RX3, "weigh", "(LLossyLanes$Net;I)V"⟩
abbrev cX3_trailIsBetter : ByteArray := prog_5_method_7_code
def yX3_trailIsBetter : MethodName := ⟨RX3, "trailIsBetter", "(I)Z"⟩
def RX4 : String := "LossyLanes"
def TX4 : u_T := fun k => match k with
  | 0 => ("LossyLanes", "now", "LLossyLanes$Net;", true)
  | 1 => ("LossyLanes", "images", "[LLossyLanes$Net;", true)
  | 2 => ("LossyLanes", "kept", "[Z", true)
  | 3 => ("LossyLanes", "rows", "LLossyLanes$Rows;", true)
  | 4 => ("LossyLanes", "prices", "LLossyLanes$Prices;", true)
  | 5 => ("LossyLanes", "answer", "LLossyLanes$Fraction;", true)
  | 6 => ("LossyLanes", "before", "LLossyLanes$Fraction;", true)
  | _ => ("LossyLanes", "after", "LLossyLanes$Fraction;", true)
def tyX4 : Nat → FieldType := fun k => match k with
  | 0 => .object "LossyLanes$Net"
  | 1 => .array (.object "LossyLanes$Net")
  | 2 => .array .boolean
  | 3 => .object "LossyLanes$Rows"
  | 4 => .object "LossyLanes$Prices"
  | 5 => .object "LossyLanes$Fraction"
  | 6 => .object "LossyLanes$Fraction"
  | _ => .object "LossyLanes$Fraction"
theorem nmX4 : ∀ a, a < 8 → ∀ b, b < 8 → a ≠ b → (TX4 a).2.1 ≠ (TX4 b).2.1 := by decide +kernel
theorem tyX4_ok : ∀ k, k < 8 → parseFieldDescriptor (TX4 k).2.2.1 = some (tyX4 k) := by decide +kernel
abbrev cX4_init : ByteArray := prog_1_method_1_code
def yX4_init : MethodName := ⟨RX4, "<init>", "()V"⟩
abbrev cX4_posts : ByteArray := prog_1_method_2_code
def yX4_posts : MethodName := ⟨RX4, "posts", "(I)Z"⟩
abbrev cX4_lane : ByteArray := prog_1_method_3_code
def yX4_lane : MethodName := ⟨RX4, "lane", "(IIIII)I"⟩
abbrev cX4_room : ByteArray := prog_1_method_4_code
def yX4_room : MethodName := ⟨RX4, "room", "(II)Z"⟩
abbrev cX4_share : ByteArray := prog_1_method_5_code
def yX4_share : MethodName := ⟨RX4, "share", "(IIII)Z"⟩
abbrev cX4_tell : ByteArray := prog_1_method_6_code
def yX4_tell : MethodName := ⟨RX4, "tell", "(II)I"⟩
abbrev cX4_most : ByteArray := prog_1_method_7_code
def yX4_most : MethodName := ⟨RX4, "most", "(IZ)J"⟩
abbrev cX4_more : ByteArray := prog_1_method_8_code
def yX4_more : MethodName := ⟨RX4, "more", "(IIZ)J"⟩
abbrev cX4_way : ByteArray := prog_1_method_9_code
def yX4_way : MethodName := ⟨RX4, "way", "(II)I"⟩
abbrev cX4_ring : ByteArray := prog_1_method_10_code
def yX4_ring : MethodName := ⟨RX4, "ring", "()I"⟩
abbrev cX4_row : ByteArray := prog_1_method_11_code
def yX4_row : MethodName := ⟨RX4, "row", "(I)I"⟩
abbrev cX4_gain : ByteArray := prog_1_method_12_code
def yX4_gain : MethodName := ⟨RX4, "gain", "(Z)J"⟩
abbrev cX4_send : ByteArray := prog_1_method_13_code
def yX4_send : MethodName := ⟨RX4, "send", "(III)Z"⟩
abbrev cX4_right : ByteArray := prog_1_method_14_code
def yX4_right : MethodName := ⟨RX4, "right", "()Z"⟩
abbrev cX4_left : ByteArray := prog_1_method_15_code
def yX4_left : MethodName := ⟨RX4, "left", "(IZ)J"⟩
abbrev cX4_count : ByteArray := prog_1_method_16_code
def yX4_count : MethodName := ⟨RX4, "count", "(I)I"⟩
abbrev cX4_image : ByteArray := prog_1_method_17_code
def yX4_image : MethodName := ⟨RX4, "image", "(I)Z"⟩
abbrev cX4_again : ByteArray := prog_1_method_18_code
def yX4_again : MethodName := ⟨RX4, "again", "(I)Z"⟩
abbrev cX4_takeBestRow : ByteArray := prog_1_method_19_code
def yX4_takeBestRow : MethodName := ⟨RX4, "takeBestRow", "()I"⟩
abbrev cX4_within : ByteArray := prog_1_method_20_code
def yX4_within : MethodName := ⟨RX4, "within", "(III)Z"⟩
abbrev cX4_isRoom : ByteArray := prog_1_method_21_code
def yX4_isRoom : MethodName := ⟨RX4, "isRoom", "(I)Z"⟩
abbrev cX4_isShare : ByteArray := prog_1_method_22_code
def yX4_isShare : MethodName := ⟨RX4, "isShare", "(II)Z"⟩
abbrev cX4_partsOfOne : ByteArray := prog_1_method_23_code
def yX4_partsOfOne : MethodName := ⟨RX4, "partsOfOne", "(I)I"⟩
def RX5 : String := "LossyLanesModel"
def TX5 : u_T := fun k => match k with
  | 0 => ("LossyLanesModel", "code", "I", false)
  | 1 => ("LossyLanesModel", "posts", "[I", true)
  | 2 => ("LossyLanesModel", "lanes", "[I", true)
  | 3 => ("LossyLanesModel", "from", "[I", true)
  | 4 => ("LossyLanesModel", "to", "[I", true)
  | 5 => ("LossyLanesModel", "rooms", "[I", true)
  | 6 => ("LossyLanesModel", "p", "[I", true)
  | 7 => ("LossyLanesModel", "q", "[I", true)
  | 8 => ("LossyLanesModel", "doubt", "[I", true)
  | 9 => ("LossyLanesModel", "amount", "[I", true)
  | 10 => ("LossyLanesModel", "by", "[I", true)
  | 11 => ("LossyLanesModel", "handMany", "[I", true)
  | 12 => ("LossyLanesModel", "hand", "[I", true)
  | 13 => ("LossyLanesModel", "handUp", "[J", true)
  | 14 => ("LossyLanesModel", "handDown", "[J", true)
  | 15 => ("LossyLanesModel", "up", "J", false)
  | 16 => ("LossyLanesModel", "down", "J", false)
  | 17 => ("LossyLanesModel", "shareUp", "[I", true)
  | 18 => ("LossyLanesModel", "shareDown", "[I", true)
  | 19 => ("LossyLanesModel", "room", "[I", true)
  | 20 => ("LossyLanesModel", "comes", "[I", true)
  | 21 => ("LossyLanesModel", "priceUp", "[J", true)
  | 22 => ("LossyLanesModel", "priceDown", "[J", true)
  | 23 => ("LossyLanesModel", "mostUp", "J", false)
  | 24 => ("LossyLanesModel", "mostDown", "J", false)
  | 25 => ("LossyLanesModel", "row", "[I", true)
  | 26 => ("LossyLanesModel", "best", "[I", true)
  | 27 => ("LossyLanesModel", "bestMany", "I", false)
  | 28 => ("LossyLanesModel", "bestUp", "J", false)
  | 29 => ("LossyLanesModel", "bestDown", "J", false)
  | 30 => ("LossyLanesModel", "rings", "I", false)
  | 31 => ("LossyLanesModel", "gainful", "I", false)
  | _ => ("LossyLanesModel", "kept", "[Z", true)
def tyX5 : Nat → FieldType := fun k => match k with
  | 0 => .int
  | 1 => .array .int
  | 2 => .array .int
  | 3 => .array .int
  | 4 => .array .int
  | 5 => .array .int
  | 6 => .array .int
  | 7 => .array .int
  | 8 => .array .int
  | 9 => .array .int
  | 10 => .array .int
  | 11 => .array .int
  | 12 => .array .int
  | 13 => .array .long
  | 14 => .array .long
  | 15 => .long
  | 16 => .long
  | 17 => .array .int
  | 18 => .array .int
  | 19 => .array .int
  | 20 => .array .int
  | 21 => .array .long
  | 22 => .array .long
  | 23 => .long
  | 24 => .long
  | 25 => .array .int
  | 26 => .array .int
  | 27 => .int
  | 28 => .long
  | 29 => .long
  | 30 => .int
  | 31 => .int
  | _ => .array .boolean
theorem nmX5 : ∀ a, a < 33 → ∀ b, b < 33 → a ≠ b → (TX5 a).2.1 ≠ (TX5 b).2.1 := by decide +kernel
theorem tyX5_ok : ∀ k, k < 33 → parseFieldDescriptor (TX5 k).2.2.1 = some (tyX5 k) := by decide +kernel
abbrev cX5_init : ByteArray := prog_7_method_1_code
def yX5_init : MethodName := ⟨RX5, "<init>", "()V"⟩
abbrev cX5_in : ByteArray := prog_7_method_3_code
def yX5_in : MethodName := ⟨RX5, "in", "(III)Z"⟩
abbrev cX5_move : ByteArray := prog_7_method_4_code
def yX5_move : MethodName := ⟨RX5, "move", "([IIII)V"⟩
abbrev cX5_copy : ByteArray := prog_7_method_5_code
def yX5_copy : MethodName := ⟨RX5, "copy", "(II)V"⟩
abbrev cX5_isLane : ByteArray := prog_7_method_6_code
def yX5_isLane : MethodName := ⟨RX5, "isLane", "(I)Z"⟩
abbrev cX5_isPost : ByteArray := prog_7_method_7_code
def yX5_isPost : MethodName := ⟨RX5, "isPost", "(I)Z"⟩
abbrev cX5_posts : ByteArray := prog_7_method_8_code
def yX5_posts : MethodName := ⟨RX5, "posts", "(I)Z"⟩
abbrev cX5_lane : ByteArray := prog_7_method_9_code
def yX5_lane : MethodName := ⟨RX5, "lane", "(IIIII)I"⟩
abbrev cX5_room : ByteArray := prog_7_method_10_code
def yX5_room : MethodName := ⟨RX5, "room", "(II)Z"⟩
abbrev cX5_share : ByteArray := prog_7_method_11_code
def yX5_share : MethodName := ⟨RX5, "share", "(IIII)Z"⟩
abbrev cX5_tell : ByteArray := prog_7_method_12_code
def yX5_tell : MethodName := ⟨RX5, "tell", "(II)I"⟩
abbrev cX5_gcd : ByteArray := prog_7_method_13_code
def yX5_gcd : MethodName := ⟨RX5, "gcd", "(JJ)J"⟩
abbrev cX5_put : ByteArray := prog_7_method_14_code
def yX5_put : MethodName := ⟨RX5, "put", "(JJ)V"⟩
abbrev cX5_isLess : ByteArray := prog_7_method_15_code
def yX5_isLess : MethodName := ⟨RX5, "isLess", "(JJJJ)Z"⟩
abbrev cX5_setShares : ByteArray := prog_7_method_16_code
def yX5_setShares : MethodName := ⟨RX5, "setShares", "(I)V"⟩
abbrev cX5_findPrices : ByteArray := prog_7_method_17_code
def yX5_findPrices : MethodName := ⟨RX5, "findPrices", "()Z"⟩
abbrev cX5_findWorth : ByteArray := prog_7_method_18_code
def yX5_findWorth : MethodName := ⟨RX5, "findWorth", "()V"⟩
abbrev cX5_nextChoice : ByteArray := prog_7_method_19_code
def yX5_nextChoice : MethodName := ⟨RX5, "nextChoice", "()Z"⟩
abbrev cX5_findMost : ByteArray := prog_7_method_20_code
def yX5_findMost : MethodName := ⟨RX5, "findMost", "()V"⟩
abbrev cX5_most : ByteArray := prog_7_method_21_code
def yX5_most : MethodName := ⟨RX5, "most", "(IZ)J"⟩
abbrev cX5_more : ByteArray := prog_7_method_22_code
def yX5_more : MethodName := ⟨RX5, "more", "(IIZ)J"⟩
abbrev cX5_productUp : ByteArray := prog_7_method_23_code
def yX5_productUp : MethodName := ⟨RX5, "productUp", "(I)J"⟩
abbrev cX5_productDown : ByteArray := prog_7_method_24_code
def yX5_productDown : MethodName := ⟨RX5, "productDown", "(I)J"⟩
abbrev cX5_takes : ByteArray := prog_7_method_25_code
def yX5_takes : MethodName := ⟨RX5, "takes", "(I)V"⟩
abbrev cX5_isOn : ByteArray := prog_7_method_26_code
def yX5_isOn : MethodName := ⟨RX5, "isOn", "(II)Z"⟩
abbrev cX5_goAll : ByteArray := prog_7_method_27_code
def yX5_goAll : MethodName := ⟨RX5, "goAll", "(IIZ)V"⟩
abbrev cX5_keep : ByteArray := prog_7_method_28_code
def yX5_keep : MethodName := ⟨RX5, "keep", "()I"⟩
abbrev cX5_way : ByteArray := prog_7_method_29_code
def yX5_way : MethodName := ⟨RX5, "way", "(II)I"⟩
abbrev cX5_findRings : ByteArray := prog_7_method_30_code
def yX5_findRings : MethodName := ⟨RX5, "findRings", "()V"⟩
abbrev cX5_ring : ByteArray := prog_7_method_31_code
def yX5_ring : MethodName := ⟨RX5, "ring", "()I"⟩
abbrev cX5_row : ByteArray := prog_7_method_32_code
def yX5_row : MethodName := ⟨RX5, "row", "(I)I"⟩
abbrev cX5_gain : ByteArray := prog_7_method_33_code
def yX5_gain : MethodName := ⟨RX5, "gain", "(Z)J"⟩
abbrev cX5_send : ByteArray := prog_7_method_34_code
def yX5_send : MethodName := ⟨RX5, "send", "(III)Z"⟩
abbrev cX5_arrives : ByteArray := prog_7_method_35_code
def yX5_arrives : MethodName := ⟨RX5, "arrives", "(I)J"⟩
abbrev cX5_leaves : ByteArray := prog_7_method_36_code
def yX5_leaves : MethodName := ⟨RX5, "leaves", "(I)J"⟩
abbrev cX5_right : ByteArray := prog_7_method_37_code
def yX5_right : MethodName := ⟨RX5, "right", "()Z"⟩
abbrev cX5_left : ByteArray := prog_7_method_38_code
def yX5_left : MethodName := ⟨RX5, "left", "(IZ)J"⟩
abbrev cX5_count : ByteArray := prog_7_method_39_code
def yX5_count : MethodName := ⟨RX5, "count", "(I)I"⟩
abbrev cX5_image : ByteArray := prog_7_method_40_code
def yX5_image : MethodName := ⟨RX5, "image", "(I)Z"⟩
abbrev cX5_again : ByteArray := prog_7_method_41_code
def yX5_again : MethodName := ⟨RX5, "again", "(I)Z"⟩
def RL : String := "LossyLanesLaw"
abbrev cL_law : ByteArray := code
def yL_law : MethodName := ⟨RL, "law", "([I)Z"⟩
abbrev vwCl : List vw_C := [(RX0, TX0, 2), (RX1, TX1, 5), (RX2, TX2, 17), (RX3, TX3, 9), (RX4, TX4, 8), (RX5, TX5, 33)]
end
section
theorem dX0_init_0 : decode cX0_init 0 = .ok (.aload_n 0, 1) := by decide +kernel
theorem dX0_init_1 : decode cX0_init 1 = .ok (.invokespecial 1, 3) := by decide +kernel
theorem dX0_init_4 : decode cX0_init 4 = .ok (.aload_n 0, 1) := by decide +kernel
theorem dX0_init_5 : decode cX0_init 5 = .ok (.lconst 0, 1) := by decide +kernel
theorem dX0_init_6 : decode cX0_init 6 = .ok (.putfield 7, 3) := by decide +kernel
theorem dX0_init_9 : decode cX0_init 9 = .ok (.aload_n 0, 1) := by decide +kernel
theorem dX0_init_10 : decode cX0_init 10 = .ok (.lconst 1, 1) := by decide +kernel
theorem dX0_init_11 : decode cX0_init 11 = .ok (.putfield 13, 3) := by decide +kernel
theorem dX0_init_14 : decode cX0_init 14 = .ok (.return_, 1) := by decide +kernel
theorem dX0_set_0 : decode cX0_set 0 = .ok (.lload_n 1, 1) := by decide +kernel
theorem dX0_set_1 : decode cX0_set 1 = .ok (.invokestatic 16, 3) := by decide +kernel
theorem dX0_set_4 : decode cX0_set 4 = .ok (.lload_n 3, 1) := by decide +kernel
theorem dX0_set_5 : decode cX0_set 5 = .ok (.invokestatic 22, 3) := by decide +kernel
theorem dX0_set_8 : decode cX0_set 8 = .ok (.lstore 5, 2) := by decide +kernel
theorem dX0_set_10 : decode cX0_set 10 = .ok (.aload_n 0, 1) := by decide +kernel
theorem dX0_set_11 : decode cX0_set 11 = .ok (.lload_n 1, 1) := by decide +kernel
theorem dX0_set_12 : decode cX0_set 12 = .ok (.lload 5, 2) := by decide +kernel
theorem dX0_set_14 : decode cX0_set 14 = .ok (.ldiv, 1) := by decide +kernel
theorem dX0_set_15 : decode cX0_set 15 = .ok (.putfield 7, 3) := by decide +kernel
theorem dX0_set_18 : decode cX0_set 18 = .ok (.aload_n 0, 1) := by decide +kernel
theorem dX0_set_19 : decode cX0_set 19 = .ok (.lload_n 3, 1) := by decide +kernel
theorem dX0_set_20 : decode cX0_set 20 = .ok (.lload 5, 2) := by decide +kernel
theorem dX0_set_22 : decode cX0_set 22 = .ok (.ldiv, 1) := by decide +kernel
theorem dX0_set_23 : decode cX0_set 23 = .ok (.putfield 13, 3) := by decide +kernel
theorem dX0_set_26 : decode cX0_set 26 = .ok (.return_, 1) := by decide +kernel
theorem dX0_setDifference_0 : decode cX0_setDifference 0 = .ok (.aload_n 0, 1) := by decide +kernel
theorem dX0_setDifference_1 : decode cX0_setDifference 1 = .ok (.aload_n 1, 1) := by decide +kernel
theorem dX0_setDifference_2 : decode cX0_setDifference 2 = .ok (.getfield 7, 3) := by decide +kernel
theorem dX0_setDifference_5 : decode cX0_setDifference 5 = .ok (.aload_n 2, 1) := by decide +kernel
theorem dX0_setDifference_6 : decode cX0_setDifference 6 = .ok (.getfield 13, 3) := by decide +kernel
theorem dX0_setDifference_9 : decode cX0_setDifference 9 = .ok (.lmul, 1) := by decide +kernel
theorem dX0_setDifference_10 : decode cX0_setDifference 10 = .ok (.aload_n 2, 1) := by decide +kernel
theorem dX0_setDifference_11 : decode cX0_setDifference 11 = .ok (.getfield 7, 3) := by decide +kernel
theorem dX0_setDifference_14 : decode cX0_setDifference 14 = .ok (.aload_n 1, 1) := by decide +kernel
theorem dX0_setDifference_15 : decode cX0_setDifference 15 = .ok (.getfield 13, 3) := by decide +kernel
theorem dX0_setDifference_18 : decode cX0_setDifference 18 = .ok (.lmul, 1) := by decide +kernel
theorem dX0_setDifference_19 : decode cX0_setDifference 19 = .ok (.lsub, 1) := by decide +kernel
theorem dX0_setDifference_20 : decode cX0_setDifference 20 = .ok (.aload_n 1, 1) := by decide +kernel
theorem dX0_setDifference_21 : decode cX0_setDifference 21 = .ok (.getfield 13, 3) := by decide +kernel
theorem dX0_setDifference_24 : decode cX0_setDifference 24 = .ok (.aload_n 2, 1) := by decide +kernel
theorem dX0_setDifference_25 : decode cX0_setDifference 25 = .ok (.getfield 13, 3) := by decide +kernel
theorem dX0_setDifference_28 : decode cX0_setDifference 28 = .ok (.lmul, 1) := by decide +kernel
theorem dX0_setDifference_29 : decode cX0_setDifference 29 = .ok (.invokevirtual 26, 3) := by decide +kernel
theorem dX0_setDifference_32 : decode cX0_setDifference 32 = .ok (.return_, 1) := by decide +kernel
theorem dX0_number_0 : decode cX0_number 0 = .ok (.iload_n 1, 1) := by decide +kernel
theorem dX0_number_1 : decode cX0_number 1 = .ok (.ifCond .eq 10, 3) := by decide +kernel
theorem dX0_number_4 : decode cX0_number 4 = .ok (.aload_n 0, 1) := by decide +kernel
theorem dX0_number_5 : decode cX0_number 5 = .ok (.getfield 13, 3) := by decide +kernel
theorem dX0_number_8 : decode cX0_number 8 = .ok (.goto 7, 3) := by decide +kernel
theorem dX0_number_11 : decode cX0_number 11 = .ok (.aload_n 0, 1) := by decide +kernel
theorem dX0_number_12 : decode cX0_number 12 = .ok (.getfield 7, 3) := by decide +kernel
theorem dX0_number_15 : decode cX0_number 15 = .ok (.lreturn, 1) := by decide +kernel
theorem dX0_isAboveOne_0 : decode cX0_isAboveOne 0 = .ok (.aload_n 0, 1) := by decide +kernel
theorem dX0_isAboveOne_1 : decode cX0_isAboveOne 1 = .ok (.getfield 7, 3) := by decide +kernel
theorem dX0_isAboveOne_4 : decode cX0_isAboveOne 4 = .ok (.aload_n 0, 1) := by decide +kernel
theorem dX0_isAboveOne_5 : decode cX0_isAboveOne 5 = .ok (.getfield 13, 3) := by decide +kernel
theorem dX0_isAboveOne_8 : decode cX0_isAboveOne 8 = .ok (.lcmp, 1) := by decide +kernel
theorem dX0_isAboveOne_9 : decode cX0_isAboveOne 9 = .ok (.ifCond .le 7, 3) := by decide +kernel
theorem dX0_isAboveOne_12 : decode cX0_isAboveOne 12 = .ok (.iconst 1, 1) := by decide +kernel
theorem dX0_isAboveOne_13 : decode cX0_isAboveOne 13 = .ok (.goto 4, 3) := by decide +kernel
theorem dX0_isAboveOne_16 : decode cX0_isAboveOne 16 = .ok (.iconst 0, 1) := by decide +kernel
theorem dX0_isAboveOne_17 : decode cX0_isAboveOne 17 = .ok (.ireturn, 1) := by decide +kernel
theorem dX0_compareWith_0 : decode cX0_compareWith 0 = .ok (.aload_n 0, 1) := by decide +kernel
theorem dX0_compareWith_1 : decode cX0_compareWith 1 = .ok (.getfield 7, 3) := by decide +kernel
theorem dX0_compareWith_4 : decode cX0_compareWith 4 = .ok (.aload_n 1, 1) := by decide +kernel
theorem dX0_compareWith_5 : decode cX0_compareWith 5 = .ok (.getfield 13, 3) := by decide +kernel
theorem dX0_compareWith_8 : decode cX0_compareWith 8 = .ok (.lmul, 1) := by decide +kernel
theorem dX0_compareWith_9 : decode cX0_compareWith 9 = .ok (.aload_n 1, 1) := by decide +kernel
theorem dX0_compareWith_10 : decode cX0_compareWith 10 = .ok (.getfield 7, 3) := by decide +kernel
theorem dX0_compareWith_13 : decode cX0_compareWith 13 = .ok (.aload_n 0, 1) := by decide +kernel
theorem dX0_compareWith_14 : decode cX0_compareWith 14 = .ok (.getfield 13, 3) := by decide +kernel
theorem dX0_compareWith_17 : decode cX0_compareWith 17 = .ok (.lmul, 1) := by decide +kernel
theorem dX0_compareWith_18 : decode cX0_compareWith 18 = .ok (.lsub, 1) := by decide +kernel
theorem dX0_compareWith_19 : decode cX0_compareWith 19 = .ok (.lreturn, 1) := by decide +kernel
theorem dX0_commonDivisor_0 : decode cX0_commonDivisor 0 = .ok (.lload_n 0, 1) := by decide +kernel
theorem dX0_commonDivisor_1 : decode cX0_commonDivisor 1 = .ok (.lstore 4, 2) := by decide +kernel
theorem dX0_commonDivisor_3 : decode cX0_commonDivisor 3 = .ok (.lload_n 2, 1) := by decide +kernel
theorem dX0_commonDivisor_4 : decode cX0_commonDivisor 4 = .ok (.lstore 6, 2) := by decide +kernel
theorem dX0_commonDivisor_6 : decode cX0_commonDivisor 6 = .ok (.iconst 0, 1) := by decide +kernel
theorem dX0_commonDivisor_7 : decode cX0_commonDivisor 7 = .ok (.istore 8, 2) := by decide +kernel
theorem dX0_commonDivisor_9 : decode cX0_commonDivisor 9 = .ok (.iload 8, 2) := by decide +kernel
theorem dX0_commonDivisor_11 : decode cX0_commonDivisor 11 = .ok (.sipush 200, 3) := by decide +kernel
theorem dX0_commonDivisor_14 : decode cX0_commonDivisor 14 = .ok (.if_icmp .ge 31, 3) := by decide +kernel
theorem dX0_commonDivisor_17 : decode cX0_commonDivisor 17 = .ok (.lload 6, 2) := by decide +kernel
theorem dX0_commonDivisor_19 : decode cX0_commonDivisor 19 = .ok (.lconst 0, 1) := by decide +kernel
theorem dX0_commonDivisor_20 : decode cX0_commonDivisor 20 = .ok (.lcmp, 1) := by decide +kernel
theorem dX0_commonDivisor_21 : decode cX0_commonDivisor 21 = .ok (.ifCond .eq 24, 3) := by decide +kernel
theorem dX0_commonDivisor_24 : decode cX0_commonDivisor 24 = .ok (.lload 4, 2) := by decide +kernel
theorem dX0_commonDivisor_26 : decode cX0_commonDivisor 26 = .ok (.lload 6, 2) := by decide +kernel
theorem dX0_commonDivisor_28 : decode cX0_commonDivisor 28 = .ok (.lrem, 1) := by decide +kernel
theorem dX0_commonDivisor_29 : decode cX0_commonDivisor 29 = .ok (.lstore 9, 2) := by decide +kernel
theorem dX0_commonDivisor_31 : decode cX0_commonDivisor 31 = .ok (.lload 6, 2) := by decide +kernel
theorem dX0_commonDivisor_33 : decode cX0_commonDivisor 33 = .ok (.lstore 4, 2) := by decide +kernel
theorem dX0_commonDivisor_35 : decode cX0_commonDivisor 35 = .ok (.lload 9, 2) := by decide +kernel
theorem dX0_commonDivisor_37 : decode cX0_commonDivisor 37 = .ok (.lstore 6, 2) := by decide +kernel
theorem dX0_commonDivisor_39 : decode cX0_commonDivisor 39 = .ok (.iinc 8 1, 3) := by decide +kernel
theorem dX0_commonDivisor_42 : decode cX0_commonDivisor 42 = .ok (.goto (-33), 3) := by decide +kernel
theorem dX0_commonDivisor_45 : decode cX0_commonDivisor 45 = .ok (.lload 4, 2) := by decide +kernel
theorem dX0_commonDivisor_47 : decode cX0_commonDivisor 47 = .ok (.lconst 1, 1) := by decide +kernel
theorem dX0_commonDivisor_48 : decode cX0_commonDivisor 48 = .ok (.lcmp, 1) := by decide +kernel
theorem dX0_commonDivisor_49 : decode cX0_commonDivisor 49 = .ok (.ifCond .ge 7, 3) := by decide +kernel
theorem dX0_commonDivisor_52 : decode cX0_commonDivisor 52 = .ok (.lconst 1, 1) := by decide +kernel
theorem dX0_commonDivisor_53 : decode cX0_commonDivisor 53 = .ok (.goto 5, 3) := by decide +kernel
theorem dX0_commonDivisor_56 : decode cX0_commonDivisor 56 = .ok (.lload 4, 2) := by decide +kernel
theorem dX0_commonDivisor_58 : decode cX0_commonDivisor 58 = .ok (.lreturn, 1) := by decide +kernel
theorem dX1_init_0 : decode cX1_init 0 = .ok (.aload_n 0, 1) := by decide +kernel
theorem dX1_init_1 : decode cX1_init 1 = .ok (.invokespecial 3, 3) := by decide +kernel
theorem dX1_init_4 : decode cX1_init 4 = .ok (.aload_n 0, 1) := by decide +kernel
theorem dX1_init_5 : decode cX1_init 5 = .ok (.iconst 2, 1) := by decide +kernel
theorem dX1_init_6 : decode cX1_init 6 = .ok (.putfield 9, 3) := by decide +kernel
theorem dX1_init_9 : decode cX1_init 9 = .ok (.aload_n 0, 1) := by decide +kernel
theorem dX1_init_10 : decode cX1_init 10 = .ok (.iconst 0, 1) := by decide +kernel
theorem dX1_init_11 : decode cX1_init 11 = .ok (.putfield 15, 3) := by decide +kernel
theorem dX1_init_14 : decode cX1_init 14 = .ok (.aload_n 0, 1) := by decide +kernel
theorem dX1_init_15 : decode cX1_init 15 = .ok (.bipush 10, 2) := by decide +kernel
theorem dX1_init_17 : decode cX1_init 17 = .ok (.bipush 8, 2) := by decide +kernel
theorem dX1_init_19 : decode cX1_init 19 = .ok (.multianewarray 18 2, 4) := by decide +kernel
theorem dX1_init_23 : decode cX1_init 23 = .ok (.putfield 20, 3) := by decide +kernel
theorem dX1_init_26 : decode cX1_init 26 = .ok (.aload_n 0, 1) := by decide +kernel
theorem dX1_init_27 : decode cX1_init 27 = .ok (.iconst 4, 1) := by decide +kernel
theorem dX1_init_28 : decode cX1_init 28 = .ok (.newarray .int, 2) := by decide +kernel
theorem dX1_init_30 : decode cX1_init 30 = .ok (.putfield 23, 3) := by decide +kernel
theorem dX1_init_33 : decode cX1_init 33 = .ok (.aload_n 0, 1) := by decide +kernel
theorem dX1_init_34 : decode cX1_init 34 = .ok (.iconst 0, 1) := by decide +kernel
theorem dX1_init_35 : decode cX1_init 35 = .ok (.putfield 27, 3) := by decide +kernel
theorem dX1_init_38 : decode cX1_init 38 = .ok (.return_, 1) := by decide +kernel
theorem dX1_take_0 : decode cX1_take 0 = .ok (.aload_n 0, 1) := by decide +kernel
theorem dX1_take_1 : decode cX1_take 1 = .ok (.aload_n 1, 1) := by decide +kernel
theorem dX1_take_2 : decode cX1_take 2 = .ok (.getfield 9, 3) := by decide +kernel
theorem dX1_take_5 : decode cX1_take 5 = .ok (.putfield 9, 3) := by decide +kernel
theorem dX1_take_8 : decode cX1_take 8 = .ok (.aload_n 0, 1) := by decide +kernel
theorem dX1_take_9 : decode cX1_take 9 = .ok (.aload_n 1, 1) := by decide +kernel
theorem dX1_take_10 : decode cX1_take 10 = .ok (.getfield 15, 3) := by decide +kernel
theorem dX1_take_13 : decode cX1_take 13 = .ok (.putfield 15, 3) := by decide +kernel
theorem dX1_take_16 : decode cX1_take 16 = .ok (.iconst 0, 1) := by decide +kernel
theorem dX1_take_17 : decode cX1_take 17 = .ok (.istore_n 2, 1) := by decide +kernel
theorem dX1_take_18 : decode cX1_take 18 = .ok (.iload_n 2, 1) := by decide +kernel
theorem dX1_take_19 : decode cX1_take 19 = .ok (.aload_n 0, 1) := by decide +kernel
theorem dX1_take_20 : decode cX1_take 20 = .ok (.getfield 15, 3) := by decide +kernel
theorem dX1_take_23 : decode cX1_take 23 = .ok (.if_icmp .ge 28, 3) := by decide +kernel
theorem dX1_take_26 : decode cX1_take 26 = .ok (.aload_n 1, 1) := by decide +kernel
theorem dX1_take_27 : decode cX1_take 27 = .ok (.getfield 20, 3) := by decide +kernel
theorem dX1_take_30 : decode cX1_take 30 = .ok (.iload_n 2, 1) := by decide +kernel
theorem dX1_take_31 : decode cX1_take 31 = .ok (.aaload, 1) := by decide +kernel
theorem dX1_take_32 : decode cX1_take 32 = .ok (.iconst 0, 1) := by decide +kernel
theorem dX1_take_33 : decode cX1_take 33 = .ok (.aload_n 0, 1) := by decide +kernel
theorem dX1_take_34 : decode cX1_take 34 = .ok (.getfield 20, 3) := by decide +kernel
theorem dX1_take_37 : decode cX1_take 37 = .ok (.iload_n 2, 1) := by decide +kernel
theorem dX1_take_38 : decode cX1_take 38 = .ok (.aaload, 1) := by decide +kernel
theorem dX1_take_39 : decode cX1_take 39 = .ok (.iconst 0, 1) := by decide +kernel
theorem dX1_take_40 : decode cX1_take 40 = .ok (.bipush 8, 2) := by decide +kernel
theorem dX1_take_42 : decode cX1_take 42 = .ok (.invokestatic 30, 3) := by decide +kernel
theorem dX1_take_45 : decode cX1_take 45 = .ok (.iinc 2 1, 3) := by decide +kernel
theorem dX1_take_48 : decode cX1_take 48 = .ok (.goto (-30), 3) := by decide +kernel
theorem dX1_take_51 : decode cX1_take 51 = .ok (.aload_n 0, 1) := by decide +kernel
theorem dX1_take_52 : decode cX1_take 52 = .ok (.aload_n 1, 1) := by decide +kernel
theorem dX1_take_53 : decode cX1_take 53 = .ok (.getfield 23, 3) := by decide +kernel
theorem dX1_take_56 : decode cX1_take 56 = .ok (.aload_n 1, 1) := by decide +kernel
theorem dX1_take_57 : decode cX1_take 57 = .ok (.getfield 27, 3) := by decide +kernel
theorem dX1_take_60 : decode cX1_take 60 = .ok (.invokevirtual 36, 3) := by decide +kernel
theorem dX1_take_63 : decode cX1_take 63 = .ok (.return_, 1) := by decide +kernel
theorem dX1_takeRow_0 : decode cX1_takeRow 0 = .ok (.aload_n 1, 1) := by decide +kernel
theorem dX1_takeRow_1 : decode cX1_takeRow 1 = .ok (.iconst 0, 1) := by decide +kernel
theorem dX1_takeRow_2 : decode cX1_takeRow 2 = .ok (.aload_n 0, 1) := by decide +kernel
theorem dX1_takeRow_3 : decode cX1_takeRow 3 = .ok (.getfield 23, 3) := by decide +kernel
theorem dX1_takeRow_6 : decode cX1_takeRow 6 = .ok (.iconst 0, 1) := by decide +kernel
theorem dX1_takeRow_7 : decode cX1_takeRow 7 = .ok (.iconst 4, 1) := by decide +kernel
theorem dX1_takeRow_8 : decode cX1_takeRow 8 = .ok (.invokestatic 30, 3) := by decide +kernel
theorem dX1_takeRow_11 : decode cX1_takeRow 11 = .ok (.aload_n 0, 1) := by decide +kernel
theorem dX1_takeRow_12 : decode cX1_takeRow 12 = .ok (.iload_n 2, 1) := by decide +kernel
theorem dX1_takeRow_13 : decode cX1_takeRow 13 = .ok (.putfield 27, 3) := by decide +kernel
theorem dX1_takeRow_16 : decode cX1_takeRow 16 = .ok (.return_, 1) := by decide +kernel
theorem dX1_dropRow_0 : decode cX1_dropRow 0 = .ok (.aload_n 0, 1) := by decide +kernel
theorem dX1_dropRow_1 : decode cX1_dropRow 1 = .ok (.iconst 0, 1) := by decide +kernel
theorem dX1_dropRow_2 : decode cX1_dropRow 2 = .ok (.putfield 27, 3) := by decide +kernel
theorem dX1_dropRow_5 : decode cX1_dropRow 5 = .ok (.return_, 1) := by decide +kernel
theorem dX1_lastPost_0 : decode cX1_lastPost 0 = .ok (.aload_n 0, 1) := by decide +kernel
theorem dX1_lastPost_1 : decode cX1_lastPost 1 = .ok (.getfield 9, 3) := by decide +kernel
theorem dX1_lastPost_4 : decode cX1_lastPost 4 = .ok (.iconst 1, 1) := by decide +kernel
theorem dX1_lastPost_5 : decode cX1_lastPost 5 = .ok (.isub, 1) := by decide +kernel
theorem dX1_lastPost_6 : decode cX1_lastPost 6 = .ok (.ireturn, 1) := by decide +kernel
theorem dX1_hasPost_0 : decode cX1_hasPost 0 = .ok (.iload_n 1, 1) := by decide +kernel
theorem dX1_hasPost_1 : decode cX1_hasPost 1 = .ok (.iconst 0, 1) := by decide +kernel
theorem dX1_hasPost_2 : decode cX1_hasPost 2 = .ok (.aload_n 0, 1) := by decide +kernel
theorem dX1_hasPost_3 : decode cX1_hasPost 3 = .ok (.invokevirtual 40, 3) := by decide +kernel
theorem dX1_hasPost_6 : decode cX1_hasPost 6 = .ok (.invokestatic 44, 3) := by decide +kernel
theorem dX1_hasPost_9 : decode cX1_hasPost 9 = .ok (.ireturn, 1) := by decide +kernel
theorem dX1_hasLane_0 : decode cX1_hasLane 0 = .ok (.iload_n 1, 1) := by decide +kernel
theorem dX1_hasLane_1 : decode cX1_hasLane 1 = .ok (.iconst 0, 1) := by decide +kernel
theorem dX1_hasLane_2 : decode cX1_hasLane 2 = .ok (.aload_n 0, 1) := by decide +kernel
theorem dX1_hasLane_3 : decode cX1_hasLane 3 = .ok (.getfield 15, 3) := by decide +kernel
theorem dX1_hasLane_6 : decode cX1_hasLane 6 = .ok (.iconst 1, 1) := by decide +kernel
theorem dX1_hasLane_7 : decode cX1_hasLane 7 = .ok (.isub, 1) := by decide +kernel
theorem dX1_hasLane_8 : decode cX1_hasLane 8 = .ok (.invokestatic 44, 3) := by decide +kernel
theorem dX1_hasLane_11 : decode cX1_hasLane 11 = .ok (.ireturn, 1) := by decide +kernel
theorem dX1_canLead_0 : decode cX1_canLead 0 = .ok (.aload_n 0, 1) := by decide +kernel
theorem dX1_canLead_1 : decode cX1_canLead 1 = .ok (.iload_n 1, 1) := by decide +kernel
theorem dX1_canLead_2 : decode cX1_canLead 2 = .ok (.invokevirtual 48, 3) := by decide +kernel
theorem dX1_canLead_5 : decode cX1_canLead 5 = .ok (.ifCond .eq 32, 3) := by decide +kernel
theorem dX1_canLead_8 : decode cX1_canLead 8 = .ok (.aload_n 0, 1) := by decide +kernel
theorem dX1_canLead_9 : decode cX1_canLead 9 = .ok (.iload_n 2, 1) := by decide +kernel
theorem dX1_canLead_10 : decode cX1_canLead 10 = .ok (.invokevirtual 48, 3) := by decide +kernel
theorem dX1_canLead_13 : decode cX1_canLead 13 = .ok (.ifCond .eq 24, 3) := by decide +kernel
theorem dX1_canLead_16 : decode cX1_canLead 16 = .ok (.iload_n 1, 1) := by decide +kernel
theorem dX1_canLead_17 : decode cX1_canLead 17 = .ok (.iload_n 2, 1) := by decide +kernel
theorem dX1_canLead_18 : decode cX1_canLead 18 = .ok (.if_icmp .eq 19, 3) := by decide +kernel
theorem dX1_canLead_21 : decode cX1_canLead 21 = .ok (.iload_n 2, 1) := by decide +kernel
theorem dX1_canLead_22 : decode cX1_canLead 22 = .ok (.ifCond .eq 15, 3) := by decide +kernel
theorem dX1_canLead_25 : decode cX1_canLead 25 = .ok (.iload_n 1, 1) := by decide +kernel
theorem dX1_canLead_26 : decode cX1_canLead 26 = .ok (.aload_n 0, 1) := by decide +kernel
theorem dX1_canLead_27 : decode cX1_canLead 27 = .ok (.invokevirtual 40, 3) := by decide +kernel
theorem dX1_canLead_30 : decode cX1_canLead 30 = .ok (.if_icmp .eq 7, 3) := by decide +kernel
theorem dX1_canLead_33 : decode cX1_canLead 33 = .ok (.iconst 1, 1) := by decide +kernel
theorem dX1_canLead_34 : decode cX1_canLead 34 = .ok (.goto 4, 3) := by decide +kernel
theorem dX1_canLead_37 : decode cX1_canLead 37 = .ok (.iconst 0, 1) := by decide +kernel
theorem dX1_canLead_38 : decode cX1_canLead 38 = .ok (.ireturn, 1) := by decide +kernel
theorem dX1_balance_0 : decode cX1_balance 0 = .ok (.lconst 0, 1) := by decide +kernel
theorem dX1_balance_1 : decode cX1_balance 1 = .ok (.lstore_n 2, 1) := by decide +kernel
theorem dX1_balance_2 : decode cX1_balance 2 = .ok (.iconst 0, 1) := by decide +kernel
theorem dX1_balance_3 : decode cX1_balance 3 = .ok (.istore 4, 2) := by decide +kernel
theorem dX1_balance_5 : decode cX1_balance 5 = .ok (.iload 4, 2) := by decide +kernel
theorem dX1_balance_7 : decode cX1_balance 7 = .ok (.aload_n 0, 1) := by decide +kernel
theorem dX1_balance_8 : decode cX1_balance 8 = .ok (.getfield 15, 3) := by decide +kernel
theorem dX1_balance_11 : decode cX1_balance 11 = .ok (.if_icmp .ge 81, 3) := by decide +kernel
theorem dX1_balance_14 : decode cX1_balance 14 = .ok (.aload_n 0, 1) := by decide +kernel
theorem dX1_balance_15 : decode cX1_balance 15 = .ok (.getfield 20, 3) := by decide +kernel
theorem dX1_balance_18 : decode cX1_balance 18 = .ok (.iload 4, 2) := by decide +kernel
theorem dX1_balance_20 : decode cX1_balance 20 = .ok (.aaload, 1) := by decide +kernel
theorem dX1_balance_21 : decode cX1_balance 21 = .ok (.astore 5, 2) := by decide +kernel
theorem dX1_balance_23 : decode cX1_balance 23 = .ok (.aload 5, 2) := by decide +kernel
theorem dX1_balance_25 : decode cX1_balance 25 = .ok (.bipush 6, 2) := by decide +kernel
theorem dX1_balance_27 : decode cX1_balance 27 = .ok (.iaload, 1) := by decide +kernel
theorem dX1_balance_28 : decode cX1_balance 28 = .ok (.i2l, 1) := by decide +kernel
theorem dX1_balance_29 : decode cX1_balance 29 = .ok (.aload 5, 2) := by decide +kernel
theorem dX1_balance_31 : decode cX1_balance 31 = .ok (.bipush 7, 2) := by decide +kernel
theorem dX1_balance_33 : decode cX1_balance 33 = .ok (.iaload, 1) := by decide +kernel
theorem dX1_balance_34 : decode cX1_balance 34 = .ok (.invokestatic 52, 3) := by decide +kernel
theorem dX1_balance_37 : decode cX1_balance 37 = .ok (.i2l, 1) := by decide +kernel
theorem dX1_balance_38 : decode cX1_balance 38 = .ok (.lmul, 1) := by decide +kernel
theorem dX1_balance_39 : decode cX1_balance 39 = .ok (.lstore 6, 2) := by decide +kernel
theorem dX1_balance_41 : decode cX1_balance 41 = .ok (.aload 5, 2) := by decide +kernel
theorem dX1_balance_43 : decode cX1_balance 43 = .ok (.iconst 1, 1) := by decide +kernel
theorem dX1_balance_44 : decode cX1_balance 44 = .ok (.iaload, 1) := by decide +kernel
theorem dX1_balance_45 : decode cX1_balance 45 = .ok (.iload_n 1, 1) := by decide +kernel
theorem dX1_balance_46 : decode cX1_balance 46 = .ok (.if_icmp .ne 23, 3) := by decide +kernel
theorem dX1_balance_49 : decode cX1_balance 49 = .ok (.lload_n 2, 1) := by decide +kernel
theorem dX1_balance_50 : decode cX1_balance 50 = .ok (.lload 6, 2) := by decide +kernel
theorem dX1_balance_52 : decode cX1_balance 52 = .ok (.aload 5, 2) := by decide +kernel
theorem dX1_balance_54 : decode cX1_balance 54 = .ok (.iconst 3, 1) := by decide +kernel
theorem dX1_balance_55 : decode cX1_balance 55 = .ok (.iaload, 1) := by decide +kernel
theorem dX1_balance_56 : decode cX1_balance 56 = .ok (.i2l, 1) := by decide +kernel
theorem dX1_balance_57 : decode cX1_balance 57 = .ok (.lmul, 1) := by decide +kernel
theorem dX1_balance_58 : decode cX1_balance 58 = .ok (.aload 5, 2) := by decide +kernel
theorem dX1_balance_60 : decode cX1_balance 60 = .ok (.iconst 4, 1) := by decide +kernel
theorem dX1_balance_61 : decode cX1_balance 61 = .ok (.iaload, 1) := by decide +kernel
theorem dX1_balance_62 : decode cX1_balance 62 = .ok (.invokestatic 52, 3) := by decide +kernel
theorem dX1_balance_65 : decode cX1_balance 65 = .ok (.i2l, 1) := by decide +kernel
theorem dX1_balance_66 : decode cX1_balance 66 = .ok (.lmul, 1) := by decide +kernel
theorem dX1_balance_67 : decode cX1_balance 67 = .ok (.ladd, 1) := by decide +kernel
theorem dX1_balance_68 : decode cX1_balance 68 = .ok (.lstore_n 2, 1) := by decide +kernel
theorem dX1_balance_69 : decode cX1_balance 69 = .ok (.aload 5, 2) := by decide +kernel
theorem dX1_balance_71 : decode cX1_balance 71 = .ok (.iconst 0, 1) := by decide +kernel
theorem dX1_balance_72 : decode cX1_balance 72 = .ok (.iaload, 1) := by decide +kernel
theorem dX1_balance_73 : decode cX1_balance 73 = .ok (.iload_n 1, 1) := by decide +kernel
theorem dX1_balance_74 : decode cX1_balance 74 = .ok (.if_icmp .ne 12, 3) := by decide +kernel
theorem dX1_balance_77 : decode cX1_balance 77 = .ok (.lload_n 2, 1) := by decide +kernel
theorem dX1_balance_78 : decode cX1_balance 78 = .ok (.lload 6, 2) := by decide +kernel
theorem dX1_balance_80 : decode cX1_balance 80 = .ok (.ldc2_w 56, 3) := by decide +kernel
theorem dX1_balance_83 : decode cX1_balance 83 = .ok (.lmul, 1) := by decide +kernel
theorem dX1_balance_84 : decode cX1_balance 84 = .ok (.lsub, 1) := by decide +kernel
theorem dX1_balance_85 : decode cX1_balance 85 = .ok (.lstore_n 2, 1) := by decide +kernel
theorem dX1_balance_86 : decode cX1_balance 86 = .ok (.iinc 4 1, 3) := by decide +kernel
theorem dX1_balance_89 : decode cX1_balance 89 = .ok (.goto (-84), 3) := by decide +kernel
theorem dX1_balance_92 : decode cX1_balance 92 = .ok (.lload_n 2, 1) := by decide +kernel
theorem dX1_balance_93 : decode cX1_balance 93 = .ok (.lreturn, 1) := by decide +kernel
theorem dX1_multiplyShares_0 : decode cX1_multiplyShares 0 = .ok (.lconst 1, 1) := by decide +kernel
theorem dX1_multiplyShares_1 : decode cX1_multiplyShares 1 = .ok (.lstore 4, 2) := by decide +kernel
theorem dX1_multiplyShares_3 : decode cX1_multiplyShares 3 = .ok (.lconst 1, 1) := by decide +kernel
theorem dX1_multiplyShares_4 : decode cX1_multiplyShares 4 = .ok (.lstore 6, 2) := by decide +kernel
theorem dX1_multiplyShares_6 : decode cX1_multiplyShares 6 = .ok (.iconst 0, 1) := by decide +kernel
theorem dX1_multiplyShares_7 : decode cX1_multiplyShares 7 = .ok (.istore 8, 2) := by decide +kernel
theorem dX1_multiplyShares_9 : decode cX1_multiplyShares 9 = .ok (.iload 8, 2) := by decide +kernel
theorem dX1_multiplyShares_11 : decode cX1_multiplyShares 11 = .ok (.iload_n 2, 1) := by decide +kernel
theorem dX1_multiplyShares_12 : decode cX1_multiplyShares 12 = .ok (.if_icmp .ge 43, 3) := by decide +kernel
theorem dX1_multiplyShares_15 : decode cX1_multiplyShares 15 = .ok (.lload 4, 2) := by decide +kernel
theorem dX1_multiplyShares_17 : decode cX1_multiplyShares 17 = .ok (.aload_n 0, 1) := by decide +kernel
theorem dX1_multiplyShares_18 : decode cX1_multiplyShares 18 = .ok (.getfield 20, 3) := by decide +kernel
theorem dX1_multiplyShares_21 : decode cX1_multiplyShares 21 = .ok (.aload_n 1, 1) := by decide +kernel
theorem dX1_multiplyShares_22 : decode cX1_multiplyShares 22 = .ok (.iload 8, 2) := by decide +kernel
theorem dX1_multiplyShares_24 : decode cX1_multiplyShares 24 = .ok (.iaload, 1) := by decide +kernel
theorem dX1_multiplyShares_25 : decode cX1_multiplyShares 25 = .ok (.aaload, 1) := by decide +kernel
theorem dX1_multiplyShares_26 : decode cX1_multiplyShares 26 = .ok (.iconst 3, 1) := by decide +kernel
theorem dX1_multiplyShares_27 : decode cX1_multiplyShares 27 = .ok (.iaload, 1) := by decide +kernel
theorem dX1_multiplyShares_28 : decode cX1_multiplyShares 28 = .ok (.i2l, 1) := by decide +kernel
theorem dX1_multiplyShares_29 : decode cX1_multiplyShares 29 = .ok (.lmul, 1) := by decide +kernel
theorem dX1_multiplyShares_30 : decode cX1_multiplyShares 30 = .ok (.lstore 4, 2) := by decide +kernel
theorem dX1_multiplyShares_32 : decode cX1_multiplyShares 32 = .ok (.lload 6, 2) := by decide +kernel
theorem dX1_multiplyShares_34 : decode cX1_multiplyShares 34 = .ok (.aload_n 0, 1) := by decide +kernel
theorem dX1_multiplyShares_35 : decode cX1_multiplyShares 35 = .ok (.getfield 20, 3) := by decide +kernel
theorem dX1_multiplyShares_38 : decode cX1_multiplyShares 38 = .ok (.aload_n 1, 1) := by decide +kernel
theorem dX1_multiplyShares_39 : decode cX1_multiplyShares 39 = .ok (.iload 8, 2) := by decide +kernel
theorem dX1_multiplyShares_41 : decode cX1_multiplyShares 41 = .ok (.iaload, 1) := by decide +kernel
theorem dX1_multiplyShares_42 : decode cX1_multiplyShares 42 = .ok (.aaload, 1) := by decide +kernel
theorem dX1_multiplyShares_43 : decode cX1_multiplyShares 43 = .ok (.iconst 4, 1) := by decide +kernel
theorem dX1_multiplyShares_44 : decode cX1_multiplyShares 44 = .ok (.iaload, 1) := by decide +kernel
theorem dX1_multiplyShares_45 : decode cX1_multiplyShares 45 = .ok (.i2l, 1) := by decide +kernel
theorem dX1_multiplyShares_46 : decode cX1_multiplyShares 46 = .ok (.lmul, 1) := by decide +kernel
theorem dX1_multiplyShares_47 : decode cX1_multiplyShares 47 = .ok (.lstore 6, 2) := by decide +kernel
theorem dX1_multiplyShares_49 : decode cX1_multiplyShares 49 = .ok (.iinc 8 1, 3) := by decide +kernel
theorem dX1_multiplyShares_52 : decode cX1_multiplyShares 52 = .ok (.goto (-43), 3) := by decide +kernel
theorem dX1_multiplyShares_55 : decode cX1_multiplyShares 55 = .ok (.aload_n 3, 1) := by decide +kernel
theorem dX1_multiplyShares_56 : decode cX1_multiplyShares 56 = .ok (.lload 4, 2) := by decide +kernel
theorem dX1_multiplyShares_58 : decode cX1_multiplyShares 58 = .ok (.lload 6, 2) := by decide +kernel
theorem dX1_multiplyShares_60 : decode cX1_multiplyShares 60 = .ok (.invokevirtual 58, 3) := by decide +kernel
theorem dX1_multiplyShares_63 : decode cX1_multiplyShares 63 = .ok (.return_, 1) := by decide +kernel
theorem dX3_init_0 : decode cX3_init 0 = .ok (.aload_n 0, 1) := by decide +kernel
theorem dX3_init_1 : decode cX3_init 1 = .ok (.invokespecial 3, 3) := by decide +kernel
theorem dX3_init_4 : decode cX3_init 4 = .ok (.aload_n 0, 1) := by decide +kernel
theorem dX3_init_5 : decode cX3_init 5 = .ok (.iconst 4, 1) := by decide +kernel
theorem dX3_init_6 : decode cX3_init 6 = .ok (.newarray .int, 2) := by decide +kernel
theorem dX3_init_8 : decode cX3_init 8 = .ok (.putfield 9, 3) := by decide +kernel
theorem dX3_init_11 : decode cX3_init 11 = .ok (.aload_n 0, 1) := by decide +kernel
theorem dX3_init_12 : decode cX3_init 12 = .ok (.new 15, 3) := by decide +kernel
theorem dX3_init_15 : decode cX3_init 15 = .ok (.dup, 1) := by decide +kernel
theorem dX3_init_16 : decode cX3_init 16 = .ok (.invokespecial 17, 3) := by decide +kernel
theorem dX3_init_19 : decode cX3_init 19 = .ok (.putfield 18, 3) := by decide +kernel
theorem dX3_init_22 : decode cX3_init 22 = .ok (.aload_n 0, 1) := by decide +kernel
theorem dX3_init_23 : decode cX3_init 23 = .ok (.iconst 4, 1) := by decide +kernel
theorem dX3_init_24 : decode cX3_init 24 = .ok (.newarray .int, 2) := by decide +kernel
theorem dX3_init_26 : decode cX3_init 26 = .ok (.putfield 22, 3) := by decide +kernel
theorem dX3_init_29 : decode cX3_init 29 = .ok (.aload_n 0, 1) := by decide +kernel
theorem dX3_init_30 : decode cX3_init 30 = .ok (.new 15, 3) := by decide +kernel
theorem dX3_init_33 : decode cX3_init 33 = .ok (.dup, 1) := by decide +kernel
theorem dX3_init_34 : decode cX3_init 34 = .ok (.invokespecial 17, 3) := by decide +kernel
theorem dX3_init_37 : decode cX3_init 37 = .ok (.putfield 25, 3) := by decide +kernel
theorem dX3_init_40 : decode cX3_init 40 = .ok (.aload_n 0, 1) := by decide +kernel
theorem dX3_init_41 : decode cX3_init 41 = .ok (.iconst 0, 1) := by decide +kernel
theorem dX3_init_42 : decode cX3_init 42 = .ok (.putfield 28, 3) := by decide +kernel
theorem dX3_init_45 : decode cX3_init 45 = .ok (.aload_n 0, 1) := by decide +kernel
theorem dX3_init_46 : decode cX3_init 46 = .ok (.iconst 0, 1) := by decide +kernel
theorem dX3_init_47 : decode cX3_init 47 = .ok (.putfield 32, 3) := by decide +kernel
theorem dX3_init_50 : decode cX3_init 50 = .ok (.aload_n 0, 1) := by decide +kernel
theorem dX3_init_51 : decode cX3_init 51 = .ok (.iconst 0, 1) := by decide +kernel
theorem dX3_init_52 : decode cX3_init 52 = .ok (.putfield 35, 3) := by decide +kernel
theorem dX3_init_55 : decode cX3_init 55 = .ok (.aload_n 0, 1) := by decide +kernel
theorem dX3_init_56 : decode cX3_init 56 = .ok (.iconst 0, 1) := by decide +kernel
theorem dX3_init_57 : decode cX3_init 57 = .ok (.putfield 39, 3) := by decide +kernel
theorem dX3_init_60 : decode cX3_init 60 = .ok (.aload_n 0, 1) := by decide +kernel
theorem dX3_init_61 : decode cX3_init 61 = .ok (.iconst 0, 1) := by decide +kernel
theorem dX3_init_62 : decode cX3_init 62 = .ok (.putfield 42, 3) := by decide +kernel
theorem dX3_init_65 : decode cX3_init 65 = .ok (.return_, 1) := by decide +kernel
theorem dX3_findWays_0 : decode cX3_findWays 0 = .ok (.aload_n 0, 1) := by decide +kernel
theorem dX3_findWays_1 : decode cX3_findWays 1 = .ok (.iconst 0, 1) := by decide +kernel
theorem dX3_findWays_2 : decode cX3_findWays 2 = .ok (.invokevirtual 45, 3) := by decide +kernel
theorem dX3_findWays_5 : decode cX3_findWays 5 = .ok (.aload_n 0, 1) := by decide +kernel
theorem dX3_findWays_6 : decode cX3_findWays 6 = .ok (.iload_n 3, 1) := by decide +kernel
theorem dX3_findWays_7 : decode cX3_findWays 7 = .ok (.putfield 32, 3) := by decide +kernel
theorem dX3_findWays_10 : decode cX3_findWays 10 = .ok (.aload_n 0, 1) := by decide +kernel
theorem dX3_findWays_11 : decode cX3_findWays 11 = .ok (.aload_n 1, 1) := by decide +kernel
theorem dX3_findWays_12 : decode cX3_findWays 12 = .ok (.iload_n 2, 1) := by decide +kernel
theorem dX3_findWays_13 : decode cX3_findWays 13 = .ok (.iconst 0, 1) := by decide +kernel
theorem dX3_findWays_14 : decode cX3_findWays 14 = .ok (.iconst 1, 1) := by decide +kernel
theorem dX3_findWays_15 : decode cX3_findWays 15 = .ok (.iload_n 2, 1) := by decide +kernel
theorem dX3_findWays_16 : decode cX3_findWays 16 = .ok (.ishl, 1) := by decide +kernel
theorem dX3_findWays_17 : decode cX3_findWays 17 = .ok (.invokevirtual 49, 3) := by decide +kernel
theorem dX3_findWays_20 : decode cX3_findWays 20 = .ok (.return_, 1) := by decide +kernel
theorem dX3_findRings_0 : decode cX3_findRings 0 = .ok (.aload_n 0, 1) := by decide +kernel
theorem dX3_findRings_1 : decode cX3_findRings 1 = .ok (.iconst 1, 1) := by decide +kernel
theorem dX3_findRings_2 : decode cX3_findRings 2 = .ok (.invokevirtual 45, 3) := by decide +kernel
theorem dX3_findRings_5 : decode cX3_findRings 5 = .ok (.iconst 0, 1) := by decide +kernel
theorem dX3_findRings_6 : decode cX3_findRings 6 = .ok (.istore_n 2, 1) := by decide +kernel
theorem dX3_findRings_7 : decode cX3_findRings 7 = .ok (.iload_n 2, 1) := by decide +kernel
theorem dX3_findRings_8 : decode cX3_findRings 8 = .ok (.aload_n 1, 1) := by decide +kernel
theorem dX3_findRings_9 : decode cX3_findRings 9 = .ok (.getfield 53, 3) := by decide +kernel
theorem dX3_findRings_12 : decode cX3_findRings 12 = .ok (.if_icmp .ge 26, 3) := by decide +kernel
theorem dX3_findRings_15 : decode cX3_findRings 15 = .ok (.aload_n 0, 1) := by decide +kernel
theorem dX3_findRings_16 : decode cX3_findRings 16 = .ok (.iload_n 2, 1) := by decide +kernel
theorem dX3_findRings_17 : decode cX3_findRings 17 = .ok (.putfield 32, 3) := by decide +kernel
theorem dX3_findRings_20 : decode cX3_findRings 20 = .ok (.aload_n 0, 1) := by decide +kernel
theorem dX3_findRings_21 : decode cX3_findRings 21 = .ok (.aload_n 1, 1) := by decide +kernel
theorem dX3_findRings_22 : decode cX3_findRings 22 = .ok (.iload_n 2, 1) := by decide +kernel
theorem dX3_findRings_23 : decode cX3_findRings 23 = .ok (.iconst 0, 1) := by decide +kernel
theorem dX3_findRings_24 : decode cX3_findRings 24 = .ok (.iconst 2, 1) := by decide +kernel
theorem dX3_findRings_25 : decode cX3_findRings 25 = .ok (.iload_n 2, 1) := by decide +kernel
theorem dX3_findRings_26 : decode cX3_findRings 26 = .ok (.ishl, 1) := by decide +kernel
theorem dX3_findRings_27 : decode cX3_findRings 27 = .ok (.iconst 1, 1) := by decide +kernel
theorem dX3_findRings_28 : decode cX3_findRings 28 = .ok (.isub, 1) := by decide +kernel
theorem dX3_findRings_29 : decode cX3_findRings 29 = .ok (.invokevirtual 49, 3) := by decide +kernel
theorem dX3_findRings_32 : decode cX3_findRings 32 = .ok (.iinc 2 1, 3) := by decide +kernel
theorem dX3_findRings_35 : decode cX3_findRings 35 = .ok (.goto (-28), 3) := by decide +kernel
theorem dX3_findRings_38 : decode cX3_findRings 38 = .ok (.return_, 1) := by decide +kernel
theorem dX3_begin_0 : decode cX3_begin 0 = .ok (.aload_n 0, 1) := by decide +kernel
theorem dX3_begin_1 : decode cX3_begin 1 = .ok (.iload_n 1, 1) := by decide +kernel
theorem dX3_begin_2 : decode cX3_begin 2 = .ok (.putfield 35, 3) := by decide +kernel
theorem dX3_begin_5 : decode cX3_begin 5 = .ok (.aload_n 0, 1) := by decide +kernel
theorem dX3_begin_6 : decode cX3_begin 6 = .ok (.iconst 0, 1) := by decide +kernel
theorem dX3_begin_7 : decode cX3_begin 7 = .ok (.putfield 28, 3) := by decide +kernel
theorem dX3_begin_10 : decode cX3_begin 10 = .ok (.aload_n 0, 1) := by decide +kernel
theorem dX3_begin_11 : decode cX3_begin 11 = .ok (.iconst 0, 1) := by decide +kernel
theorem dX3_begin_12 : decode cX3_begin 12 = .ok (.putfield 39, 3) := by decide +kernel
theorem dX3_begin_15 : decode cX3_begin 15 = .ok (.aload_n 0, 1) := by decide +kernel
theorem dX3_begin_16 : decode cX3_begin 16 = .ok (.iconst 0, 1) := by decide +kernel
theorem dX3_begin_17 : decode cX3_begin 17 = .ok (.putfield 42, 3) := by decide +kernel
theorem dX3_begin_20 : decode cX3_begin 20 = .ok (.return_, 1) := by decide +kernel
theorem dX3_walk_0 : decode cX3_walk 0 = .ok (.iload_n 3, 1) := by decide +kernel
theorem dX3_walk_1 : decode cX3_walk 1 = .ok (.iconst 4, 1) := by decide +kernel
theorem dX3_walk_2 : decode cX3_walk 2 = .ok (.if_icmp .lt 4, 3) := by decide +kernel
theorem dX3_walk_5 : decode cX3_walk 5 = .ok (.return_, 1) := by decide +kernel
theorem dX3_walk_6 : decode cX3_walk 6 = .ok (.iconst 0, 1) := by decide +kernel
theorem dX3_walk_7 : decode cX3_walk 7 = .ok (.istore 5, 2) := by decide +kernel
theorem dX3_walk_9 : decode cX3_walk 9 = .ok (.iload 5, 2) := by decide +kernel
theorem dX3_walk_11 : decode cX3_walk 11 = .ok (.aload_n 1, 1) := by decide +kernel
theorem dX3_walk_12 : decode cX3_walk 12 = .ok (.getfield 58, 3) := by decide +kernel
theorem dX3_walk_15 : decode cX3_walk 15 = .ok (.if_icmp .ge 90, 3) := by decide +kernel
theorem dX3_walk_18 : decode cX3_walk 18 = .ok (.aload_n 1, 1) := by decide +kernel
theorem dX3_walk_19 : decode cX3_walk 19 = .ok (.getfield 61, 3) := by decide +kernel
theorem dX3_walk_22 : decode cX3_walk 22 = .ok (.iload 5, 2) := by decide +kernel
theorem dX3_walk_24 : decode cX3_walk 24 = .ok (.aaload, 1) := by decide +kernel
theorem dX3_walk_25 : decode cX3_walk 25 = .ok (.astore 6, 2) := by decide +kernel
theorem dX3_walk_27 : decode cX3_walk 27 = .ok (.aload 6, 2) := by decide +kernel
theorem dX3_walk_29 : decode cX3_walk 29 = .ok (.iconst 0, 1) := by decide +kernel
theorem dX3_walk_30 : decode cX3_walk 30 = .ok (.iaload, 1) := by decide +kernel
theorem dX3_walk_31 : decode cX3_walk 31 = .ok (.iload_n 2, 1) := by decide +kernel
theorem dX3_walk_32 : decode cX3_walk 32 = .ok (.if_icmp .eq 6, 3) := by decide +kernel
theorem dX3_walk_35 : decode cX3_walk 35 = .ok (.goto 64, 3) := by decide +kernel
theorem dX3_walk_38 : decode cX3_walk 38 = .ok (.aload 6, 2) := by decide +kernel
theorem dX3_walk_40 : decode cX3_walk 40 = .ok (.iconst 1, 1) := by decide +kernel
theorem dX3_walk_41 : decode cX3_walk 41 = .ok (.iaload, 1) := by decide +kernel
theorem dX3_walk_42 : decode cX3_walk 42 = .ok (.istore 7, 2) := by decide +kernel
theorem dX3_walk_44 : decode cX3_walk 44 = .ok (.aload_n 0, 1) := by decide +kernel
theorem dX3_walk_45 : decode cX3_walk 45 = .ok (.getfield 9, 3) := by decide +kernel
theorem dX3_walk_48 : decode cX3_walk 48 = .ok (.iload_n 3, 1) := by decide +kernel
theorem dX3_walk_49 : decode cX3_walk 49 = .ok (.iload 5, 2) := by decide +kernel
theorem dX3_walk_51 : decode cX3_walk 51 = .ok (.iastore, 1) := by decide +kernel
theorem dX3_walk_52 : decode cX3_walk 52 = .ok (.iload 7, 2) := by decide +kernel
theorem dX3_walk_54 : decode cX3_walk 54 = .ok (.aload_n 0, 1) := by decide +kernel
theorem dX3_walk_55 : decode cX3_walk 55 = .ok (.getfield 32, 3) := by decide +kernel
theorem dX3_walk_58 : decode cX3_walk 58 = .ok (.if_icmp .ne 14, 3) := by decide +kernel
theorem dX3_walk_61 : decode cX3_walk 61 = .ok (.aload_n 0, 1) := by decide +kernel
theorem dX3_walk_62 : decode cX3_walk 62 = .ok (.aload_n 1, 1) := by decide +kernel
theorem dX3_walk_63 : decode cX3_walk 63 = .ok (.iload_n 3, 1) := by decide +kernel
theorem dX3_walk_64 : decode cX3_walk 64 = .ok (.iconst 1, 1) := by decide +kernel
theorem dX3_walk_65 : decode cX3_walk 65 = .ok (.iadd, 1) := by decide +kernel
theorem dX3_walk_66 : decode cX3_walk 66 = .ok (.invokevirtual 65, 3) := by decide +kernel
theorem dX3_walk_69 : decode cX3_walk 69 = .ok (.goto 30, 3) := by decide +kernel
theorem dX3_walk_72 : decode cX3_walk 72 = .ok (.iload 4, 2) := by decide +kernel
theorem dX3_walk_74 : decode cX3_walk 74 = .ok (.iconst 1, 1) := by decide +kernel
theorem dX3_walk_75 : decode cX3_walk 75 = .ok (.iload 7, 2) := by decide +kernel
theorem dX3_walk_77 : decode cX3_walk 77 = .ok (.ishl, 1) := by decide +kernel
theorem dX3_walk_78 : decode cX3_walk 78 = .ok (.iand, 1) := by decide +kernel
theorem dX3_walk_79 : decode cX3_walk 79 = .ok (.ifCond .ne 20, 3) := by decide +kernel
theorem dX3_walk_82 : decode cX3_walk 82 = .ok (.aload_n 0, 1) := by decide +kernel
theorem dX3_walk_83 : decode cX3_walk 83 = .ok (.aload_n 1, 1) := by decide +kernel
theorem dX3_walk_84 : decode cX3_walk 84 = .ok (.iload 7, 2) := by decide +kernel
theorem dX3_walk_86 : decode cX3_walk 86 = .ok (.iload_n 3, 1) := by decide +kernel
theorem dX3_walk_87 : decode cX3_walk 87 = .ok (.iconst 1, 1) := by decide +kernel
theorem dX3_walk_88 : decode cX3_walk 88 = .ok (.iadd, 1) := by decide +kernel
theorem dX3_walk_89 : decode cX3_walk 89 = .ok (.iload 4, 2) := by decide +kernel
theorem dX3_walk_91 : decode cX3_walk 91 = .ok (.iconst 1, 1) := by decide +kernel
theorem dX3_walk_92 : decode cX3_walk 92 = .ok (.iload 7, 2) := by decide +kernel
theorem dX3_walk_94 : decode cX3_walk 94 = .ok (.ishl, 1) := by decide +kernel
theorem dX3_walk_95 : decode cX3_walk 95 = .ok (.ior, 1) := by decide +kernel
theorem dX3_walk_96 : decode cX3_walk 96 = .ok (.invokevirtual 49, 3) := by decide +kernel
theorem dX3_walk_99 : decode cX3_walk 99 = .ok (.iinc 5 1, 3) := by decide +kernel
theorem dX3_walk_102 : decode cX3_walk 102 = .ok (.goto (-93), 3) := by decide +kernel
theorem dX3_walk_105 : decode cX3_walk 105 = .ok (.return_, 1) := by decide +kernel
theorem dX3_weigh_0 : decode cX3_weigh 0 = .ok (.aload_n 1, 1) := by decide +kernel
theorem dX3_weigh_1 : decode cX3_weigh 1 = .ok (.aload_n 0, 1) := by decide +kernel
theorem dX3_weigh_2 : decode cX3_weigh 2 = .ok (.getfield 9, 3) := by decide +kernel
theorem dX3_weigh_5 : decode cX3_weigh 5 = .ok (.iload_n 2, 1) := by decide +kernel
theorem dX3_weigh_6 : decode cX3_weigh 6 = .ok (.aload_n 0, 1) := by decide +kernel
theorem dX3_weigh_7 : decode cX3_weigh 7 = .ok (.getfield 18, 3) := by decide +kernel
theorem dX3_weigh_10 : decode cX3_weigh 10 = .ok (.invokevirtual 69, 3) := by decide +kernel
theorem dX3_weigh_13 : decode cX3_weigh 13 = .ok (.aload_n 0, 1) := by decide +kernel
theorem dX3_weigh_14 : decode cX3_weigh 14 = .ok (.dup, 1) := by decide +kernel
theorem dX3_weigh_15 : decode cX3_weigh 15 = .ok (.getfield 39, 3) := by decide +kernel
theorem dX3_weigh_18 : decode cX3_weigh 18 = .ok (.iconst 1, 1) := by decide +kernel
theorem dX3_weigh_19 : decode cX3_weigh 19 = .ok (.iadd, 1) := by decide +kernel
theorem dX3_weigh_20 : decode cX3_weigh 20 = .ok (.putfield 39, 3) := by decide +kernel
theorem dX3_weigh_23 : decode cX3_weigh 23 = .ok (.aload_n 0, 1) := by decide +kernel
theorem dX3_weigh_24 : decode cX3_weigh 24 = .ok (.getfield 18, 3) := by decide +kernel
theorem dX3_weigh_27 : decode cX3_weigh 27 = .ok (.invokevirtual 73, 3) := by decide +kernel
theorem dX3_weigh_30 : decode cX3_weigh 30 = .ok (.ifCond .eq 16, 3) := by decide +kernel
theorem dX3_weigh_33 : decode cX3_weigh 33 = .ok (.aload_n 0, 1) := by decide +kernel
theorem dX3_weigh_34 : decode cX3_weigh 34 = .ok (.dup, 1) := by decide +kernel
theorem dX3_weigh_35 : decode cX3_weigh 35 = .ok (.getfield 42, 3) := by decide +kernel
theorem dX3_weigh_38 : decode cX3_weigh 38 = .ok (.iconst 1, 1) := by decide +kernel
theorem dX3_weigh_39 : decode cX3_weigh 39 = .ok (.iadd, 1) := by decide +kernel
theorem dX3_weigh_40 : decode cX3_weigh 40 = .ok (.putfield 42, 3) := by decide +kernel
theorem dX3_weigh_43 : decode cX3_weigh 43 = .ok (.goto 11, 3) := by decide +kernel
theorem dX3_weigh_46 : decode cX3_weigh 46 = .ok (.aload_n 0, 1) := by decide +kernel
theorem dX3_weigh_47 : decode cX3_weigh 47 = .ok (.getfield 35, 3) := by decide +kernel
theorem dX3_weigh_50 : decode cX3_weigh 50 = .ok (.ifCond .eq 4, 3) := by decide +kernel
theorem dX3_weigh_53 : decode cX3_weigh 53 = .ok (.return_, 1) := by decide +kernel
theorem dX3_weigh_54 : decode cX3_weigh 54 = .ok (.aload_n 0, 1) := by decide +kernel
theorem dX3_weigh_55 : decode cX3_weigh 55 = .ok (.getfield 28, 3) := by decide +kernel
theorem dX3_weigh_58 : decode cX3_weigh 58 = .ok (.ifCond .eq 11, 3) := by decide +kernel
theorem dX3_weigh_61 : decode cX3_weigh 61 = .ok (.aload_n 0, 1) := by decide +kernel
theorem dX3_weigh_62 : decode cX3_weigh 62 = .ok (.iload_n 2, 1) := by decide +kernel
theorem dX3_weigh_63 : decode cX3_weigh 63 = .ok (.invokevirtual 77, 3) := by decide +kernel
theorem dX3_weigh_66 : decode cX3_weigh 66 = .ok (.ifCond .eq 35, 3) := by decide +kernel
theorem dX3_weigh_69 : decode cX3_weigh 69 = .ok (.aload_n 0, 1) := by decide +kernel
theorem dX3_weigh_70 : decode cX3_weigh 70 = .ok (.getfield 9, 3) := by decide +kernel
theorem dX3_weigh_73 : decode cX3_weigh 73 = .ok (.iconst 0, 1) := by decide +kernel
theorem dX3_weigh_74 : decode cX3_weigh 74 = .ok (.aload_n 0, 1) := by decide +kernel
theorem dX3_weigh_75 : decode cX3_weigh 75 = .ok (.getfield 22, 3) := by decide +kernel
theorem dX3_weigh_78 : decode cX3_weigh 78 = .ok (.iconst 0, 1) := by decide +kernel
theorem dX3_weigh_79 : decode cX3_weigh 79 = .ok (.iload_n 2, 1) := by decide +kernel
theorem dX3_weigh_80 : decode cX3_weigh 80 = .ok (.invokestatic 81, 3) := by decide +kernel
theorem dX3_weigh_83 : decode cX3_weigh 83 = .ok (.aload_n 1, 1) := by decide +kernel
theorem dX3_weigh_84 : decode cX3_weigh 84 = .ok (.aload_n 0, 1) := by decide +kernel
theorem dX3_weigh_85 : decode cX3_weigh 85 = .ok (.getfield 22, 3) := by decide +kernel
theorem dX3_weigh_88 : decode cX3_weigh 88 = .ok (.iload_n 2, 1) := by decide +kernel
theorem dX3_weigh_89 : decode cX3_weigh 89 = .ok (.aload_n 0, 1) := by decide +kernel
theorem dX3_weigh_90 : decode cX3_weigh 90 = .ok (.getfield 25, 3) := by decide +kernel
theorem dX3_weigh_93 : decode cX3_weigh 93 = .ok (.invokevirtual 69, 3) := by decide +kernel
theorem dX3_weigh_96 : decode cX3_weigh 96 = .ok (.aload_n 0, 1) := by decide +kernel
theorem dX3_weigh_97 : decode cX3_weigh 97 = .ok (.iload_n 2, 1) := by decide +kernel
theorem dX3_weigh_98 : decode cX3_weigh 98 = .ok (.putfield 28, 3) := by decide +kernel
theorem dX3_weigh_101 : decode cX3_weigh 101 = .ok (.return_, 1) := by decide +kernel
theorem dX3_trailIsBetter_0 : decode cX3_trailIsBetter 0 = .ok (.aload_n 0, 1) := by decide +kernel
theorem dX3_trailIsBetter_1 : decode cX3_trailIsBetter 1 = .ok (.getfield 18, 3) := by decide +kernel
theorem dX3_trailIsBetter_4 : decode cX3_trailIsBetter 4 = .ok (.aload_n 0, 1) := by decide +kernel
theorem dX3_trailIsBetter_5 : decode cX3_trailIsBetter 5 = .ok (.getfield 25, 3) := by decide +kernel
theorem dX3_trailIsBetter_8 : decode cX3_trailIsBetter 8 = .ok (.invokevirtual 87, 3) := by decide +kernel
theorem dX3_trailIsBetter_11 : decode cX3_trailIsBetter 11 = .ok (.lstore_n 2, 1) := by decide +kernel
theorem dX3_trailIsBetter_12 : decode cX3_trailIsBetter 12 = .ok (.lload_n 2, 1) := by decide +kernel
theorem dX3_trailIsBetter_13 : decode cX3_trailIsBetter 13 = .ok (.lconst 0, 1) := by decide +kernel
theorem dX3_trailIsBetter_14 : decode cX3_trailIsBetter 14 = .ok (.lcmp, 1) := by decide +kernel
theorem dX3_trailIsBetter_15 : decode cX3_trailIsBetter 15 = .ok (.ifCond .eq 15, 3) := by decide +kernel
theorem dX3_trailIsBetter_18 : decode cX3_trailIsBetter 18 = .ok (.lload_n 2, 1) := by decide +kernel
theorem dX3_trailIsBetter_19 : decode cX3_trailIsBetter 19 = .ok (.lconst 0, 1) := by decide +kernel
theorem dX3_trailIsBetter_20 : decode cX3_trailIsBetter 20 = .ok (.lcmp, 1) := by decide +kernel
theorem dX3_trailIsBetter_21 : decode cX3_trailIsBetter 21 = .ok (.ifCond .le 7, 3) := by decide +kernel
theorem dX3_trailIsBetter_24 : decode cX3_trailIsBetter 24 = .ok (.iconst 1, 1) := by decide +kernel
theorem dX3_trailIsBetter_25 : decode cX3_trailIsBetter 25 = .ok (.goto 4, 3) := by decide +kernel
theorem dX3_trailIsBetter_28 : decode cX3_trailIsBetter 28 = .ok (.iconst 0, 1) := by decide +kernel
theorem dX3_trailIsBetter_29 : decode cX3_trailIsBetter 29 = .ok (.ireturn, 1) := by decide +kernel
theorem dX3_trailIsBetter_30 : decode cX3_trailIsBetter 30 = .ok (.iload_n 1, 1) := by decide +kernel
theorem dX3_trailIsBetter_31 : decode cX3_trailIsBetter 31 = .ok (.aload_n 0, 1) := by decide +kernel
theorem dX3_trailIsBetter_32 : decode cX3_trailIsBetter 32 = .ok (.getfield 28, 3) := by decide +kernel
theorem dX3_trailIsBetter_35 : decode cX3_trailIsBetter 35 = .ok (.if_icmp .eq 17, 3) := by decide +kernel
theorem dX3_trailIsBetter_38 : decode cX3_trailIsBetter 38 = .ok (.iload_n 1, 1) := by decide +kernel
theorem dX3_trailIsBetter_39 : decode cX3_trailIsBetter 39 = .ok (.aload_n 0, 1) := by decide +kernel
theorem dX3_trailIsBetter_40 : decode cX3_trailIsBetter 40 = .ok (.getfield 28, 3) := by decide +kernel
theorem dX3_trailIsBetter_43 : decode cX3_trailIsBetter 43 = .ok (.if_icmp .ge 7, 3) := by decide +kernel
theorem dX3_trailIsBetter_46 : decode cX3_trailIsBetter 46 = .ok (.iconst 1, 1) := by decide +kernel
theorem dX3_trailIsBetter_47 : decode cX3_trailIsBetter 47 = .ok (.goto 4, 3) := by decide +kernel
theorem dX3_trailIsBetter_50 : decode cX3_trailIsBetter 50 = .ok (.iconst 0, 1) := by decide +kernel
theorem dX3_trailIsBetter_51 : decode cX3_trailIsBetter 51 = .ok (.ireturn, 1) := by decide +kernel
theorem dX3_trailIsBetter_52 : decode cX3_trailIsBetter 52 = .ok (.iconst 0, 1) := by decide +kernel
theorem dX3_trailIsBetter_53 : decode cX3_trailIsBetter 53 = .ok (.istore 4, 2) := by decide +kernel
theorem dX3_trailIsBetter_55 : decode cX3_trailIsBetter 55 = .ok (.iload 4, 2) := by decide +kernel
theorem dX3_trailIsBetter_57 : decode cX3_trailIsBetter 57 = .ok (.iload_n 1, 1) := by decide +kernel
theorem dX3_trailIsBetter_58 : decode cX3_trailIsBetter 58 = .ok (.if_icmp .ge 49, 3) := by decide +kernel
theorem dX3_trailIsBetter_61 : decode cX3_trailIsBetter 61 = .ok (.aload_n 0, 1) := by decide +kernel
theorem dX3_trailIsBetter_62 : decode cX3_trailIsBetter 62 = .ok (.getfield 9, 3) := by decide +kernel
theorem dX3_trailIsBetter_65 : decode cX3_trailIsBetter 65 = .ok (.iload 4, 2) := by decide +kernel
theorem dX3_trailIsBetter_67 : decode cX3_trailIsBetter 67 = .ok (.iaload, 1) := by decide +kernel
theorem dX3_trailIsBetter_68 : decode cX3_trailIsBetter 68 = .ok (.aload_n 0, 1) := by decide +kernel
theorem dX3_trailIsBetter_69 : decode cX3_trailIsBetter 69 = .ok (.getfield 22, 3) := by decide +kernel
theorem dX3_trailIsBetter_72 : decode cX3_trailIsBetter 72 = .ok (.iload 4, 2) := by decide +kernel
theorem dX3_trailIsBetter_74 : decode cX3_trailIsBetter 74 = .ok (.iaload, 1) := by decide +kernel
theorem dX3_trailIsBetter_75 : decode cX3_trailIsBetter 75 = .ok (.if_icmp .eq 26, 3) := by decide +kernel
theorem dX3_trailIsBetter_78 : decode cX3_trailIsBetter 78 = .ok (.aload_n 0, 1) := by decide +kernel
theorem dX3_trailIsBetter_79 : decode cX3_trailIsBetter 79 = .ok (.getfield 9, 3) := by decide +kernel
theorem dX3_trailIsBetter_82 : decode cX3_trailIsBetter 82 = .ok (.iload 4, 2) := by decide +kernel
theorem dX3_trailIsBetter_84 : decode cX3_trailIsBetter 84 = .ok (.iaload, 1) := by decide +kernel
theorem dX3_trailIsBetter_85 : decode cX3_trailIsBetter 85 = .ok (.aload_n 0, 1) := by decide +kernel
theorem dX3_trailIsBetter_86 : decode cX3_trailIsBetter 86 = .ok (.getfield 22, 3) := by decide +kernel
theorem dX3_trailIsBetter_89 : decode cX3_trailIsBetter 89 = .ok (.iload 4, 2) := by decide +kernel
theorem dX3_trailIsBetter_91 : decode cX3_trailIsBetter 91 = .ok (.iaload, 1) := by decide +kernel
theorem dX3_trailIsBetter_92 : decode cX3_trailIsBetter 92 = .ok (.if_icmp .ge 7, 3) := by decide +kernel
theorem dX3_trailIsBetter_95 : decode cX3_trailIsBetter 95 = .ok (.iconst 1, 1) := by decide +kernel
theorem dX3_trailIsBetter_96 : decode cX3_trailIsBetter 96 = .ok (.goto 4, 3) := by decide +kernel
theorem dX3_trailIsBetter_99 : decode cX3_trailIsBetter 99 = .ok (.iconst 0, 1) := by decide +kernel
theorem dX3_trailIsBetter_100 : decode cX3_trailIsBetter 100 = .ok (.ireturn, 1) := by decide +kernel
theorem dX3_trailIsBetter_101 : decode cX3_trailIsBetter 101 = .ok (.iinc 4 1, 3) := by decide +kernel
theorem dX3_trailIsBetter_104 : decode cX3_trailIsBetter 104 = .ok (.goto (-49), 3) := by decide +kernel
theorem dX3_trailIsBetter_107 : decode cX3_trailIsBetter 107 = .ok (.iconst 0, 1) := by decide +kernel
theorem dX3_trailIsBetter_108 : decode cX3_trailIsBetter 108 = .ok (.ireturn, 1) := by decide +kernel
end
section
theorem dX2_init_0 : decode cX2_init 0 = .ok (.aload_n 0, 1) := by decide +kernel
theorem dX2_init_1 : decode cX2_init 1 = .ok (.invokespecial 3, 3) := by decide +kernel
theorem dX2_init_4 : decode cX2_init 4 = .ok (.aload_n 0, 1) := by decide +kernel
theorem dX2_init_5 : decode cX2_init 5 = .ok (.bipush 10, 2) := by decide +kernel
theorem dX2_init_7 : decode cX2_init 7 = .ok (.newarray .int, 2) := by decide +kernel
theorem dX2_init_9 : decode cX2_init 9 = .ok (.putfield 9, 3) := by decide +kernel
theorem dX2_init_12 : decode cX2_init 12 = .ok (.aload_n 0, 1) := by decide +kernel
theorem dX2_init_13 : decode cX2_init 13 = .ok (.bipush 10, 2) := by decide +kernel
theorem dX2_init_15 : decode cX2_init 15 = .ok (.newarray .int, 2) := by decide +kernel
theorem dX2_init_17 : decode cX2_init 17 = .ok (.putfield 15, 3) := by decide +kernel
theorem dX2_init_20 : decode cX2_init 20 = .ok (.aload_n 0, 1) := by decide +kernel
theorem dX2_init_21 : decode cX2_init 21 = .ok (.bipush 10, 2) := by decide +kernel
theorem dX2_init_23 : decode cX2_init 23 = .ok (.newarray .int, 2) := by decide +kernel
theorem dX2_init_25 : decode cX2_init 25 = .ok (.putfield 18, 3) := by decide +kernel
theorem dX2_init_28 : decode cX2_init 28 = .ok (.aload_n 0, 1) := by decide +kernel
theorem dX2_init_29 : decode cX2_init 29 = .ok (.bipush 10, 2) := by decide +kernel
theorem dX2_init_31 : decode cX2_init 31 = .ok (.newarray .int, 2) := by decide +kernel
theorem dX2_init_33 : decode cX2_init 33 = .ok (.putfield 21, 3) := by decide +kernel
theorem dX2_init_36 : decode cX2_init 36 = .ok (.aload_n 0, 1) := by decide +kernel
theorem dX2_init_37 : decode cX2_init 37 = .ok (.bipush 10, 2) := by decide +kernel
theorem dX2_init_39 : decode cX2_init 39 = .ok (.newarray .int, 2) := by decide +kernel
theorem dX2_init_41 : decode cX2_init 41 = .ok (.putfield 24, 3) := by decide +kernel
theorem dX2_init_44 : decode cX2_init 44 = .ok (.aload_n 0, 1) := by decide +kernel
theorem dX2_init_45 : decode cX2_init 45 = .ok (.iconst 0, 1) := by decide +kernel
theorem dX2_init_46 : decode cX2_init 46 = .ok (.putfield 27, 3) := by decide +kernel
theorem dX2_init_49 : decode cX2_init 49 = .ok (.aload_n 0, 1) := by decide +kernel
theorem dX2_init_50 : decode cX2_init 50 = .ok (.bipush 13, 2) := by decide +kernel
theorem dX2_init_52 : decode cX2_init 52 = .ok (.iconst 5, 1) := by decide +kernel
theorem dX2_init_53 : decode cX2_init 53 = .ok (.multianewarray 31 2, 4) := by decide +kernel
theorem dX2_init_57 : decode cX2_init 57 = .ok (.putfield 33, 3) := by decide +kernel
theorem dX2_init_60 : decode cX2_init 60 = .ok (.aload_n 0, 1) := by decide +kernel
theorem dX2_init_61 : decode cX2_init 61 = .ok (.iconst 0, 1) := by decide +kernel
theorem dX2_init_62 : decode cX2_init 62 = .ok (.putfield 36, 3) := by decide +kernel
theorem dX2_init_65 : decode cX2_init 65 = .ok (.aload_n 0, 1) := by decide +kernel
theorem dX2_init_66 : decode cX2_init 66 = .ok (.iconst 5, 1) := by decide +kernel
theorem dX2_init_67 : decode cX2_init 67 = .ok (.newarray .long, 2) := by decide +kernel
theorem dX2_init_69 : decode cX2_init 69 = .ok (.putfield 39, 3) := by decide +kernel
theorem dX2_init_72 : decode cX2_init 72 = .ok (.aload_n 0, 1) := by decide +kernel
theorem dX2_init_73 : decode cX2_init 73 = .ok (.lconst 0, 1) := by decide +kernel
theorem dX2_init_74 : decode cX2_init 74 = .ok (.putfield 43, 3) := by decide +kernel
theorem dX2_init_77 : decode cX2_init 77 = .ok (.aload_n 0, 1) := by decide +kernel
theorem dX2_init_78 : decode cX2_init 78 = .ok (.lconst 0, 1) := by decide +kernel
theorem dX2_init_79 : decode cX2_init 79 = .ok (.putfield 47, 3) := by decide +kernel
theorem dX2_init_82 : decode cX2_init 82 = .ok (.aload_n 0, 1) := by decide +kernel
theorem dX2_init_83 : decode cX2_init 83 = .ok (.lconst 0, 1) := by decide +kernel
theorem dX2_init_84 : decode cX2_init 84 = .ok (.putfield 50, 3) := by decide +kernel
theorem dX2_init_87 : decode cX2_init 87 = .ok (.aload_n 0, 1) := by decide +kernel
theorem dX2_init_88 : decode cX2_init 88 = .ok (.lconst 0, 1) := by decide +kernel
theorem dX2_init_89 : decode cX2_init 89 = .ok (.putfield 53, 3) := by decide +kernel
theorem dX2_init_92 : decode cX2_init 92 = .ok (.aload_n 0, 1) := by decide +kernel
theorem dX2_init_93 : decode cX2_init 93 = .ok (.lconst 0, 1) := by decide +kernel
theorem dX2_init_94 : decode cX2_init 94 = .ok (.putfield 56, 3) := by decide +kernel
theorem dX2_init_97 : decode cX2_init 97 = .ok (.aload_n 0, 1) := by decide +kernel
theorem dX2_init_98 : decode cX2_init 98 = .ok (.lconst 0, 1) := by decide +kernel
theorem dX2_init_99 : decode cX2_init 99 = .ok (.putfield 59, 3) := by decide +kernel
theorem dX2_init_102 : decode cX2_init 102 = .ok (.aload_n 0, 1) := by decide +kernel
theorem dX2_init_103 : decode cX2_init 103 = .ok (.lconst 0, 1) := by decide +kernel
theorem dX2_init_104 : decode cX2_init 104 = .ok (.putfield 62, 3) := by decide +kernel
theorem dX2_init_107 : decode cX2_init 107 = .ok (.aload_n 0, 1) := by decide +kernel
theorem dX2_init_108 : decode cX2_init 108 = .ok (.lconst 0, 1) := by decide +kernel
theorem dX2_init_109 : decode cX2_init 109 = .ok (.putfield 65, 3) := by decide +kernel
theorem dX2_init_112 : decode cX2_init 112 = .ok (.return_, 1) := by decide +kernel
theorem dX2_load_0 : decode cX2_load 0 = .ok (.aload_n 0, 1) := by decide +kernel
theorem dX2_load_1 : decode cX2_load 1 = .ok (.aload_n 1, 1) := by decide +kernel
theorem dX2_load_2 : decode cX2_load 2 = .ok (.getfield 68, 3) := by decide +kernel
theorem dX2_load_5 : decode cX2_load 5 = .ok (.putfield 27, 3) := by decide +kernel
theorem dX2_load_8 : decode cX2_load 8 = .ok (.iconst 0, 1) := by decide +kernel
theorem dX2_load_9 : decode cX2_load 9 = .ok (.istore_n 3, 1) := by decide +kernel
theorem dX2_load_10 : decode cX2_load 10 = .ok (.iload_n 3, 1) := by decide +kernel
theorem dX2_load_11 : decode cX2_load 11 = .ok (.aload_n 0, 1) := by decide +kernel
theorem dX2_load_12 : decode cX2_load 12 = .ok (.getfield 27, 3) := by decide +kernel
theorem dX2_load_15 : decode cX2_load 15 = .ok (.if_icmp .ge 84, 3) := by decide +kernel
theorem dX2_load_18 : decode cX2_load 18 = .ok (.aload_n 1, 1) := by decide +kernel
theorem dX2_load_19 : decode cX2_load 19 = .ok (.getfield 71, 3) := by decide +kernel
theorem dX2_load_22 : decode cX2_load 22 = .ok (.iload_n 3, 1) := by decide +kernel
theorem dX2_load_23 : decode cX2_load 23 = .ok (.aaload, 1) := by decide +kernel
theorem dX2_load_24 : decode cX2_load 24 = .ok (.astore 4, 2) := by decide +kernel
theorem dX2_load_26 : decode cX2_load 26 = .ok (.aload_n 0, 1) := by decide +kernel
theorem dX2_load_27 : decode cX2_load 27 = .ok (.getfield 9, 3) := by decide +kernel
theorem dX2_load_30 : decode cX2_load 30 = .ok (.iload_n 3, 1) := by decide +kernel
theorem dX2_load_31 : decode cX2_load 31 = .ok (.aload 4, 2) := by decide +kernel
theorem dX2_load_33 : decode cX2_load 33 = .ok (.iconst 0, 1) := by decide +kernel
theorem dX2_load_34 : decode cX2_load 34 = .ok (.iaload, 1) := by decide +kernel
theorem dX2_load_35 : decode cX2_load 35 = .ok (.iastore, 1) := by decide +kernel
theorem dX2_load_36 : decode cX2_load 36 = .ok (.aload_n 0, 1) := by decide +kernel
theorem dX2_load_37 : decode cX2_load 37 = .ok (.getfield 15, 3) := by decide +kernel
theorem dX2_load_40 : decode cX2_load 40 = .ok (.iload_n 3, 1) := by decide +kernel
theorem dX2_load_41 : decode cX2_load 41 = .ok (.aload 4, 2) := by decide +kernel
theorem dX2_load_43 : decode cX2_load 43 = .ok (.iconst 1, 1) := by decide +kernel
theorem dX2_load_44 : decode cX2_load 44 = .ok (.iaload, 1) := by decide +kernel
theorem dX2_load_45 : decode cX2_load 45 = .ok (.aload_n 1, 1) := by decide +kernel
theorem dX2_load_46 : decode cX2_load 46 = .ok (.invokevirtual 74, 3) := by decide +kernel
theorem dX2_load_49 : decode cX2_load 49 = .ok (.if_icmp .ne 7, 3) := by decide +kernel
theorem dX2_load_52 : decode cX2_load 52 = .ok (.iconst 4, 1) := by decide +kernel
theorem dX2_load_53 : decode cX2_load 53 = .ok (.goto 7, 3) := by decide +kernel
theorem dX2_load_56 : decode cX2_load 56 = .ok (.aload 4, 2) := by decide +kernel
theorem dX2_load_58 : decode cX2_load 58 = .ok (.iconst 1, 1) := by decide +kernel
theorem dX2_load_59 : decode cX2_load 59 = .ok (.iaload, 1) := by decide +kernel
theorem dX2_load_60 : decode cX2_load 60 = .ok (.iastore, 1) := by decide +kernel
theorem dX2_load_61 : decode cX2_load 61 = .ok (.aload_n 0, 1) := by decide +kernel
theorem dX2_load_62 : decode cX2_load 62 = .ok (.getfield 18, 3) := by decide +kernel
theorem dX2_load_65 : decode cX2_load 65 = .ok (.iload_n 3, 1) := by decide +kernel
theorem dX2_load_66 : decode cX2_load 66 = .ok (.aload 4, 2) := by decide +kernel
theorem dX2_load_68 : decode cX2_load 68 = .ok (.iconst 2, 1) := by decide +kernel
theorem dX2_load_69 : decode cX2_load 69 = .ok (.iaload, 1) := by decide +kernel
theorem dX2_load_70 : decode cX2_load 70 = .ok (.iastore, 1) := by decide +kernel
theorem dX2_load_71 : decode cX2_load 71 = .ok (.aload_n 0, 1) := by decide +kernel
theorem dX2_load_72 : decode cX2_load 72 = .ok (.getfield 21, 3) := by decide +kernel
theorem dX2_load_75 : decode cX2_load 75 = .ok (.iload_n 3, 1) := by decide +kernel
theorem dX2_load_76 : decode cX2_load 76 = .ok (.aload 4, 2) := by decide +kernel
theorem dX2_load_78 : decode cX2_load 78 = .ok (.iload_n 2, 1) := by decide +kernel
theorem dX2_load_79 : decode cX2_load 79 = .ok (.invokestatic 78, 3) := by decide +kernel
theorem dX2_load_82 : decode cX2_load 82 = .ok (.iastore, 1) := by decide +kernel
theorem dX2_load_83 : decode cX2_load 83 = .ok (.aload_n 0, 1) := by decide +kernel
theorem dX2_load_84 : decode cX2_load 84 = .ok (.getfield 24, 3) := by decide +kernel
theorem dX2_load_87 : decode cX2_load 87 = .ok (.iload_n 3, 1) := by decide +kernel
theorem dX2_load_88 : decode cX2_load 88 = .ok (.aload 4, 2) := by decide +kernel
theorem dX2_load_90 : decode cX2_load 90 = .ok (.iconst 4, 1) := by decide +kernel
theorem dX2_load_91 : decode cX2_load 91 = .ok (.iaload, 1) := by decide +kernel
theorem dX2_load_92 : decode cX2_load 92 = .ok (.iastore, 1) := by decide +kernel
theorem dX2_load_93 : decode cX2_load 93 = .ok (.iinc 3 1, 3) := by decide +kernel
theorem dX2_load_96 : decode cX2_load 96 = .ok (.goto (-86), 3) := by decide +kernel
theorem dX2_load_99 : decode cX2_load 99 = .ok (.return_, 1) := by decide +kernel
theorem dX2_changeRoom_0 : decode cX2_changeRoom 0 = .ok (.aload_n 0, 1) := by decide +kernel
theorem dX2_changeRoom_1 : decode cX2_changeRoom 1 = .ok (.getfield 18, 3) := by decide +kernel
theorem dX2_changeRoom_4 : decode cX2_changeRoom 4 = .ok (.iload_n 1, 1) := by decide +kernel
theorem dX2_changeRoom_5 : decode cX2_changeRoom 5 = .ok (.iload_n 2, 1) := by decide +kernel
theorem dX2_changeRoom_6 : decode cX2_changeRoom 6 = .ok (.iastore, 1) := by decide +kernel
theorem dX2_changeRoom_7 : decode cX2_changeRoom 7 = .ok (.return_, 1) := by decide +kernel
theorem dX2_findLeast_0 : decode cX2_findLeast 0 = .ok (.aload_n 0, 1) := by decide +kernel
theorem dX2_findLeast_1 : decode cX2_findLeast 1 = .ok (.invokevirtual 82, 3) := by decide +kernel
theorem dX2_findLeast_4 : decode cX2_findLeast 4 = .ok (.aload_n 0, 1) := by decide +kernel
theorem dX2_findLeast_5 : decode cX2_findLeast 5 = .ok (.lconst 0, 1) := by decide +kernel
theorem dX2_findLeast_6 : decode cX2_findLeast 6 = .ok (.putfield 65, 3) := by decide +kernel
theorem dX2_findLeast_9 : decode cX2_findLeast 9 = .ok (.iconst 0, 1) := by decide +kernel
theorem dX2_findLeast_10 : decode cX2_findLeast 10 = .ok (.istore_n 2, 1) := by decide +kernel
theorem dX2_findLeast_11 : decode cX2_findLeast 11 = .ok (.iload_n 2, 1) := by decide +kernel
theorem dX2_findLeast_12 : decode cX2_findLeast 12 = .ok (.aload_n 0, 1) := by decide +kernel
theorem dX2_findLeast_13 : decode cX2_findLeast 13 = .ok (.getfield 36, 3) := by decide +kernel
theorem dX2_findLeast_16 : decode cX2_findLeast 16 = .ok (.if_icmp .ge 81, 3) := by decide +kernel
theorem dX2_findLeast_19 : decode cX2_findLeast 19 = .ok (.iload_n 2, 1) := by decide +kernel
theorem dX2_findLeast_20 : decode cX2_findLeast 20 = .ok (.iconst 1, 1) := by decide +kernel
theorem dX2_findLeast_21 : decode cX2_findLeast 21 = .ok (.iadd, 1) := by decide +kernel
theorem dX2_findLeast_22 : decode cX2_findLeast 22 = .ok (.istore_n 3, 1) := by decide +kernel
theorem dX2_findLeast_23 : decode cX2_findLeast 23 = .ok (.iload_n 3, 1) := by decide +kernel
theorem dX2_findLeast_24 : decode cX2_findLeast 24 = .ok (.aload_n 0, 1) := by decide +kernel
theorem dX2_findLeast_25 : decode cX2_findLeast 25 = .ok (.getfield 36, 3) := by decide +kernel
theorem dX2_findLeast_28 : decode cX2_findLeast 28 = .ok (.if_icmp .ge 63, 3) := by decide +kernel
theorem dX2_findLeast_31 : decode cX2_findLeast 31 = .ok (.aload_n 0, 1) := by decide +kernel
theorem dX2_findLeast_32 : decode cX2_findLeast 32 = .ok (.aload_n 0, 1) := by decide +kernel
theorem dX2_findLeast_33 : decode cX2_findLeast 33 = .ok (.getfield 33, 3) := by decide +kernel
theorem dX2_findLeast_36 : decode cX2_findLeast 36 = .ok (.iload_n 2, 1) := by decide +kernel
theorem dX2_findLeast_37 : decode cX2_findLeast 37 = .ok (.aaload, 1) := by decide +kernel
theorem dX2_findLeast_38 : decode cX2_findLeast 38 = .ok (.aload_n 0, 1) := by decide +kernel
theorem dX2_findLeast_39 : decode cX2_findLeast 39 = .ok (.getfield 33, 3) := by decide +kernel
theorem dX2_findLeast_42 : decode cX2_findLeast 42 = .ok (.iload_n 3, 1) := by decide +kernel
theorem dX2_findLeast_43 : decode cX2_findLeast 43 = .ok (.aaload, 1) := by decide +kernel
theorem dX2_findLeast_44 : decode cX2_findLeast 44 = .ok (.invokevirtual 85, 3) := by decide +kernel
theorem dX2_findLeast_47 : decode cX2_findLeast 47 = .ok (.iload_n 3, 1) := by decide +kernel
theorem dX2_findLeast_48 : decode cX2_findLeast 48 = .ok (.iconst 1, 1) := by decide +kernel
theorem dX2_findLeast_49 : decode cX2_findLeast 49 = .ok (.iadd, 1) := by decide +kernel
theorem dX2_findLeast_50 : decode cX2_findLeast 50 = .ok (.istore 4, 2) := by decide +kernel
theorem dX2_findLeast_52 : decode cX2_findLeast 52 = .ok (.iload 4, 2) := by decide +kernel
theorem dX2_findLeast_54 : decode cX2_findLeast 54 = .ok (.aload_n 0, 1) := by decide +kernel
theorem dX2_findLeast_55 : decode cX2_findLeast 55 = .ok (.getfield 36, 3) := by decide +kernel
theorem dX2_findLeast_58 : decode cX2_findLeast 58 = .ok (.if_icmp .ge 27, 3) := by decide +kernel
theorem dX2_findLeast_61 : decode cX2_findLeast 61 = .ok (.aload_n 0, 1) := by decide +kernel
theorem dX2_findLeast_62 : decode cX2_findLeast 62 = .ok (.aload_n 0, 1) := by decide +kernel
theorem dX2_findLeast_63 : decode cX2_findLeast 63 = .ok (.getfield 33, 3) := by decide +kernel
theorem dX2_findLeast_66 : decode cX2_findLeast 66 = .ok (.iload 4, 2) := by decide +kernel
theorem dX2_findLeast_68 : decode cX2_findLeast 68 = .ok (.aaload, 1) := by decide +kernel
theorem dX2_findLeast_69 : decode cX2_findLeast 69 = .ok (.invokevirtual 89, 3) := by decide +kernel
theorem dX2_findLeast_72 : decode cX2_findLeast 72 = .ok (.ifCond .eq 7, 3) := by decide +kernel
theorem dX2_findLeast_75 : decode cX2_findLeast 75 = .ok (.aload_n 0, 1) := by decide +kernel
theorem dX2_findLeast_76 : decode cX2_findLeast 76 = .ok (.invokevirtual 93, 3) := by decide +kernel
theorem dX2_findLeast_79 : decode cX2_findLeast 79 = .ok (.iinc 4 1, 3) := by decide +kernel
theorem dX2_findLeast_82 : decode cX2_findLeast 82 = .ok (.goto (-30), 3) := by decide +kernel
theorem dX2_findLeast_85 : decode cX2_findLeast 85 = .ok (.iinc 3 1, 3) := by decide +kernel
theorem dX2_findLeast_88 : decode cX2_findLeast 88 = .ok (.goto (-65), 3) := by decide +kernel
theorem dX2_findLeast_91 : decode cX2_findLeast 91 = .ok (.iinc 2 1, 3) := by decide +kernel
theorem dX2_findLeast_94 : decode cX2_findLeast 94 = .ok (.goto (-83), 3) := by decide +kernel
theorem dX2_findLeast_97 : decode cX2_findLeast 97 = .ok (.aload_n 1, 1) := by decide +kernel
theorem dX2_findLeast_98 : decode cX2_findLeast 98 = .ok (.aload_n 0, 1) := by decide +kernel
theorem dX2_findLeast_99 : decode cX2_findLeast 99 = .ok (.getfield 62, 3) := by decide +kernel
theorem dX2_findLeast_102 : decode cX2_findLeast 102 = .ok (.ldc2_w 96, 3) := by decide +kernel
theorem dX2_findLeast_105 : decode cX2_findLeast 105 = .ok (.aload_n 0, 1) := by decide +kernel
theorem dX2_findLeast_106 : decode cX2_findLeast 106 = .ok (.getfield 65, 3) := by decide +kernel
theorem dX2_findLeast_109 : decode cX2_findLeast 109 = .ok (.lmul, 1) := by decide +kernel
theorem dX2_findLeast_110 : decode cX2_findLeast 110 = .ok (.invokevirtual 98, 3) := by decide +kernel
theorem dX2_findLeast_113 : decode cX2_findLeast 113 = .ok (.return_, 1) := by decide +kernel
theorem dX2_upperOfShare_0 : decode cX2_upperOfShare 0 = .ok (.iload_n 1, 1) := by decide +kernel
theorem dX2_upperOfShare_1 : decode cX2_upperOfShare 1 = .ok (.iconst 1, 1) := by decide +kernel
theorem dX2_upperOfShare_2 : decode cX2_upperOfShare 2 = .ok (.if_icmp .ne 15, 3) := by decide +kernel
theorem dX2_upperOfShare_5 : decode cX2_upperOfShare 5 = .ok (.iconst 0, 1) := by decide +kernel
theorem dX2_upperOfShare_6 : decode cX2_upperOfShare 6 = .ok (.aload_n 0, 1) := by decide +kernel
theorem dX2_upperOfShare_7 : decode cX2_upperOfShare 7 = .ok (.iconst 3, 1) := by decide +kernel
theorem dX2_upperOfShare_8 : decode cX2_upperOfShare 8 = .ok (.iaload, 1) := by decide +kernel
theorem dX2_upperOfShare_9 : decode cX2_upperOfShare 9 = .ok (.aload_n 0, 1) := by decide +kernel
theorem dX2_upperOfShare_10 : decode cX2_upperOfShare 10 = .ok (.iconst 5, 1) := by decide +kernel
theorem dX2_upperOfShare_11 : decode cX2_upperOfShare 11 = .ok (.iaload, 1) := by decide +kernel
theorem dX2_upperOfShare_12 : decode cX2_upperOfShare 12 = .ok (.isub, 1) := by decide +kernel
theorem dX2_upperOfShare_13 : decode cX2_upperOfShare 13 = .ok (.invokestatic 104, 3) := by decide +kernel
theorem dX2_upperOfShare_16 : decode cX2_upperOfShare 16 = .ok (.ireturn, 1) := by decide +kernel
theorem dX2_upperOfShare_17 : decode cX2_upperOfShare 17 = .ok (.iload_n 1, 1) := by decide +kernel
theorem dX2_upperOfShare_18 : decode cX2_upperOfShare 18 = .ok (.iconst 2, 1) := by decide +kernel
theorem dX2_upperOfShare_19 : decode cX2_upperOfShare 19 = .ok (.if_icmp .ne 13, 3) := by decide +kernel
theorem dX2_upperOfShare_22 : decode cX2_upperOfShare 22 = .ok (.aload_n 0, 1) := by decide +kernel
theorem dX2_upperOfShare_23 : decode cX2_upperOfShare 23 = .ok (.iconst 3, 1) := by decide +kernel
theorem dX2_upperOfShare_24 : decode cX2_upperOfShare 24 = .ok (.iaload, 1) := by decide +kernel
theorem dX2_upperOfShare_25 : decode cX2_upperOfShare 25 = .ok (.aload_n 0, 1) := by decide +kernel
theorem dX2_upperOfShare_26 : decode cX2_upperOfShare 26 = .ok (.iconst 5, 1) := by decide +kernel
theorem dX2_upperOfShare_27 : decode cX2_upperOfShare 27 = .ok (.iaload, 1) := by decide +kernel
theorem dX2_upperOfShare_28 : decode cX2_upperOfShare 28 = .ok (.iadd, 1) := by decide +kernel
theorem dX2_upperOfShare_29 : decode cX2_upperOfShare 29 = .ok (.goto 6, 3) := by decide +kernel
theorem dX2_upperOfShare_32 : decode cX2_upperOfShare 32 = .ok (.aload_n 0, 1) := by decide +kernel
theorem dX2_upperOfShare_33 : decode cX2_upperOfShare 33 = .ok (.iconst 3, 1) := by decide +kernel
theorem dX2_upperOfShare_34 : decode cX2_upperOfShare 34 = .ok (.iaload, 1) := by decide +kernel
theorem dX2_upperOfShare_35 : decode cX2_upperOfShare 35 = .ok (.ireturn, 1) := by decide +kernel
theorem dX2_layPlanes_0 : decode cX2_layPlanes 0 = .ok (.aload_n 0, 1) := by decide +kernel
theorem dX2_layPlanes_1 : decode cX2_layPlanes 1 = .ok (.iconst 0, 1) := by decide +kernel
theorem dX2_layPlanes_2 : decode cX2_layPlanes 2 = .ok (.putfield 36, 3) := by decide +kernel
theorem dX2_layPlanes_5 : decode cX2_layPlanes 5 = .ok (.iconst 1, 1) := by decide +kernel
theorem dX2_layPlanes_6 : decode cX2_layPlanes 6 = .ok (.istore_n 1, 1) := by decide +kernel
theorem dX2_layPlanes_7 : decode cX2_layPlanes 7 = .ok (.iload_n 1, 1) := by decide +kernel
theorem dX2_layPlanes_8 : decode cX2_layPlanes 8 = .ok (.iconst 4, 1) := by decide +kernel
theorem dX2_layPlanes_9 : decode cX2_layPlanes 9 = .ok (.if_icmp .ge 16, 3) := by decide +kernel
theorem dX2_layPlanes_12 : decode cX2_layPlanes 12 = .ok (.aload_n 0, 1) := by decide +kernel
theorem dX2_layPlanes_13 : decode cX2_layPlanes 13 = .ok (.invokevirtual 110, 3) := by decide +kernel
theorem dX2_layPlanes_16 : decode cX2_layPlanes 16 = .ok (.iload_n 1, 1) := by decide +kernel
theorem dX2_layPlanes_17 : decode cX2_layPlanes 17 = .ok (.iconst 1, 1) := by decide +kernel
theorem dX2_layPlanes_18 : decode cX2_layPlanes 18 = .ok (.iastore, 1) := by decide +kernel
theorem dX2_layPlanes_19 : decode cX2_layPlanes 19 = .ok (.iinc 1 1, 3) := by decide +kernel
theorem dX2_layPlanes_22 : decode cX2_layPlanes 22 = .ok (.goto (-15), 3) := by decide +kernel
theorem dX2_layPlanes_25 : decode cX2_layPlanes 25 = .ok (.iconst 0, 1) := by decide +kernel
theorem dX2_layPlanes_26 : decode cX2_layPlanes 26 = .ok (.istore_n 1, 1) := by decide +kernel
theorem dX2_layPlanes_27 : decode cX2_layPlanes 27 = .ok (.iload_n 1, 1) := by decide +kernel
theorem dX2_layPlanes_28 : decode cX2_layPlanes 28 = .ok (.aload_n 0, 1) := by decide +kernel
theorem dX2_layPlanes_29 : decode cX2_layPlanes 29 = .ok (.getfield 27, 3) := by decide +kernel
theorem dX2_layPlanes_32 : decode cX2_layPlanes 32 = .ok (.if_icmp .ge 51, 3) := by decide +kernel
theorem dX2_layPlanes_35 : decode cX2_layPlanes 35 = .ok (.aload_n 0, 1) := by decide +kernel
theorem dX2_layPlanes_36 : decode cX2_layPlanes 36 = .ok (.iload_n 1, 1) := by decide +kernel
theorem dX2_layPlanes_37 : decode cX2_layPlanes 37 = .ok (.invokevirtual 114, 3) := by decide +kernel
theorem dX2_layPlanes_40 : decode cX2_layPlanes 40 = .ok (.ifCond .eq 37, 3) := by decide +kernel
theorem dX2_layPlanes_43 : decode cX2_layPlanes 43 = .ok (.aload_n 0, 1) := by decide +kernel
theorem dX2_layPlanes_44 : decode cX2_layPlanes 44 = .ok (.invokevirtual 110, 3) := by decide +kernel
theorem dX2_layPlanes_47 : decode cX2_layPlanes 47 = .ok (.astore_n 2, 1) := by decide +kernel
theorem dX2_layPlanes_48 : decode cX2_layPlanes 48 = .ok (.aload_n 2, 1) := by decide +kernel
theorem dX2_layPlanes_49 : decode cX2_layPlanes 49 = .ok (.aload_n 0, 1) := by decide +kernel
theorem dX2_layPlanes_50 : decode cX2_layPlanes 50 = .ok (.getfield 15, 3) := by decide +kernel
theorem dX2_layPlanes_53 : decode cX2_layPlanes 53 = .ok (.iload_n 1, 1) := by decide +kernel
theorem dX2_layPlanes_54 : decode cX2_layPlanes 54 = .ok (.iaload, 1) := by decide +kernel
theorem dX2_layPlanes_55 : decode cX2_layPlanes 55 = .ok (.aload_n 0, 1) := by decide +kernel
theorem dX2_layPlanes_56 : decode cX2_layPlanes 56 = .ok (.getfield 21, 3) := by decide +kernel
theorem dX2_layPlanes_59 : decode cX2_layPlanes 59 = .ok (.iload_n 1, 1) := by decide +kernel
theorem dX2_layPlanes_60 : decode cX2_layPlanes 60 = .ok (.iaload, 1) := by decide +kernel
theorem dX2_layPlanes_61 : decode cX2_layPlanes 61 = .ok (.iastore, 1) := by decide +kernel
theorem dX2_layPlanes_62 : decode cX2_layPlanes 62 = .ok (.aload_n 2, 1) := by decide +kernel
theorem dX2_layPlanes_63 : decode cX2_layPlanes 63 = .ok (.aload_n 0, 1) := by decide +kernel
theorem dX2_layPlanes_64 : decode cX2_layPlanes 64 = .ok (.getfield 9, 3) := by decide +kernel
theorem dX2_layPlanes_67 : decode cX2_layPlanes 67 = .ok (.iload_n 1, 1) := by decide +kernel
theorem dX2_layPlanes_68 : decode cX2_layPlanes 68 = .ok (.iaload, 1) := by decide +kernel
theorem dX2_layPlanes_69 : decode cX2_layPlanes 69 = .ok (.aload_n 0, 1) := by decide +kernel
theorem dX2_layPlanes_70 : decode cX2_layPlanes 70 = .ok (.getfield 24, 3) := by decide +kernel
theorem dX2_layPlanes_73 : decode cX2_layPlanes 73 = .ok (.iload_n 1, 1) := by decide +kernel
theorem dX2_layPlanes_74 : decode cX2_layPlanes 74 = .ok (.iaload, 1) := by decide +kernel
theorem dX2_layPlanes_75 : decode cX2_layPlanes 75 = .ok (.ineg, 1) := by decide +kernel
theorem dX2_layPlanes_76 : decode cX2_layPlanes 76 = .ok (.iastore, 1) := by decide +kernel
theorem dX2_layPlanes_77 : decode cX2_layPlanes 77 = .ok (.iinc 1 1, 3) := by decide +kernel
theorem dX2_layPlanes_80 : decode cX2_layPlanes 80 = .ok (.goto (-53), 3) := by decide +kernel
theorem dX2_layPlanes_83 : decode cX2_layPlanes 83 = .ok (.return_, 1) := by decide +kernel
theorem dX2_emptyPlane_0 : decode cX2_emptyPlane 0 = .ok (.aload_n 0, 1) := by decide +kernel
theorem dX2_emptyPlane_1 : decode cX2_emptyPlane 1 = .ok (.getfield 33, 3) := by decide +kernel
theorem dX2_emptyPlane_4 : decode cX2_emptyPlane 4 = .ok (.aload_n 0, 1) := by decide +kernel
theorem dX2_emptyPlane_5 : decode cX2_emptyPlane 5 = .ok (.getfield 36, 3) := by decide +kernel
theorem dX2_emptyPlane_8 : decode cX2_emptyPlane 8 = .ok (.aaload, 1) := by decide +kernel
theorem dX2_emptyPlane_9 : decode cX2_emptyPlane 9 = .ok (.astore_n 1, 1) := by decide +kernel
theorem dX2_emptyPlane_10 : decode cX2_emptyPlane 10 = .ok (.aload_n 0, 1) := by decide +kernel
theorem dX2_emptyPlane_11 : decode cX2_emptyPlane 11 = .ok (.dup, 1) := by decide +kernel
theorem dX2_emptyPlane_12 : decode cX2_emptyPlane 12 = .ok (.getfield 36, 3) := by decide +kernel
theorem dX2_emptyPlane_15 : decode cX2_emptyPlane 15 = .ok (.iconst 1, 1) := by decide +kernel
theorem dX2_emptyPlane_16 : decode cX2_emptyPlane 16 = .ok (.iadd, 1) := by decide +kernel
theorem dX2_emptyPlane_17 : decode cX2_emptyPlane 17 = .ok (.putfield 36, 3) := by decide +kernel
theorem dX2_emptyPlane_20 : decode cX2_emptyPlane 20 = .ok (.iconst 0, 1) := by decide +kernel
theorem dX2_emptyPlane_21 : decode cX2_emptyPlane 21 = .ok (.istore_n 2, 1) := by decide +kernel
theorem dX2_emptyPlane_22 : decode cX2_emptyPlane 22 = .ok (.iload_n 2, 1) := by decide +kernel
theorem dX2_emptyPlane_23 : decode cX2_emptyPlane 23 = .ok (.iconst 5, 1) := by decide +kernel
theorem dX2_emptyPlane_24 : decode cX2_emptyPlane 24 = .ok (.if_icmp .ge 13, 3) := by decide +kernel
theorem dX2_emptyPlane_27 : decode cX2_emptyPlane 27 = .ok (.aload_n 1, 1) := by decide +kernel
theorem dX2_emptyPlane_28 : decode cX2_emptyPlane 28 = .ok (.iload_n 2, 1) := by decide +kernel
theorem dX2_emptyPlane_29 : decode cX2_emptyPlane 29 = .ok (.iconst 0, 1) := by decide +kernel
theorem dX2_emptyPlane_30 : decode cX2_emptyPlane 30 = .ok (.iastore, 1) := by decide +kernel
theorem dX2_emptyPlane_31 : decode cX2_emptyPlane 31 = .ok (.iinc 2 1, 3) := by decide +kernel
theorem dX2_emptyPlane_34 : decode cX2_emptyPlane 34 = .ok (.goto (-12), 3) := by decide +kernel
theorem dX2_emptyPlane_37 : decode cX2_emptyPlane 37 = .ok (.aload_n 1, 1) := by decide +kernel
theorem dX2_emptyPlane_38 : decode cX2_emptyPlane 38 = .ok (.areturn, 1) := by decide +kernel
theorem dX2_bendsTheSum_0 : decode cX2_bendsTheSum 0 = .ok (.aload_n 0, 1) := by decide +kernel
theorem dX2_bendsTheSum_1 : decode cX2_bendsTheSum 1 = .ok (.getfield 9, 3) := by decide +kernel
theorem dX2_bendsTheSum_4 : decode cX2_bendsTheSum 4 = .ok (.iload_n 1, 1) := by decide +kernel
theorem dX2_bendsTheSum_5 : decode cX2_bendsTheSum 5 = .ok (.iaload, 1) := by decide +kernel
theorem dX2_bendsTheSum_6 : decode cX2_bendsTheSum 6 = .ok (.ifCond .eq 25, 3) := by decide +kernel
theorem dX2_bendsTheSum_9 : decode cX2_bendsTheSum 9 = .ok (.aload_n 0, 1) := by decide +kernel
theorem dX2_bendsTheSum_10 : decode cX2_bendsTheSum 10 = .ok (.getfield 18, 3) := by decide +kernel
theorem dX2_bendsTheSum_13 : decode cX2_bendsTheSum 13 = .ok (.iload_n 1, 1) := by decide +kernel
theorem dX2_bendsTheSum_14 : decode cX2_bendsTheSum 14 = .ok (.iaload, 1) := by decide +kernel
theorem dX2_bendsTheSum_15 : decode cX2_bendsTheSum 15 = .ok (.ifCond .le 16, 3) := by decide +kernel
theorem dX2_bendsTheSum_18 : decode cX2_bendsTheSum 18 = .ok (.aload_n 0, 1) := by decide +kernel
theorem dX2_bendsTheSum_19 : decode cX2_bendsTheSum 19 = .ok (.getfield 21, 3) := by decide +kernel
theorem dX2_bendsTheSum_22 : decode cX2_bendsTheSum 22 = .ok (.iload_n 1, 1) := by decide +kernel
theorem dX2_bendsTheSum_23 : decode cX2_bendsTheSum 23 = .ok (.iaload, 1) := by decide +kernel
theorem dX2_bendsTheSum_24 : decode cX2_bendsTheSum 24 = .ok (.ifCond .le 7, 3) := by decide +kernel
theorem dX2_bendsTheSum_27 : decode cX2_bendsTheSum 27 = .ok (.iconst 1, 1) := by decide +kernel
theorem dX2_bendsTheSum_28 : decode cX2_bendsTheSum 28 = .ok (.goto 4, 3) := by decide +kernel
theorem dX2_bendsTheSum_31 : decode cX2_bendsTheSum 31 = .ok (.iconst 0, 1) := by decide +kernel
theorem dX2_bendsTheSum_32 : decode cX2_bendsTheSum 32 = .ok (.ireturn, 1) := by decide +kernel
theorem dX2_crossTwo_0 : decode cX2_crossTwo 0 = .ok (.aload_n 0, 1) := by decide +kernel
theorem dX2_crossTwo_1 : decode cX2_crossTwo 1 = .ok (.aload_n 1, 1) := by decide +kernel
theorem dX2_crossTwo_2 : decode cX2_crossTwo 2 = .ok (.iconst 1, 1) := by decide +kernel
theorem dX2_crossTwo_3 : decode cX2_crossTwo 3 = .ok (.iaload, 1) := by decide +kernel
theorem dX2_crossTwo_4 : decode cX2_crossTwo 4 = .ok (.aload_n 2, 1) := by decide +kernel
theorem dX2_crossTwo_5 : decode cX2_crossTwo 5 = .ok (.iconst 2, 1) := by decide +kernel
theorem dX2_crossTwo_6 : decode cX2_crossTwo 6 = .ok (.iaload, 1) := by decide +kernel
theorem dX2_crossTwo_7 : decode cX2_crossTwo 7 = .ok (.imul, 1) := by decide +kernel
theorem dX2_crossTwo_8 : decode cX2_crossTwo 8 = .ok (.aload_n 1, 1) := by decide +kernel
theorem dX2_crossTwo_9 : decode cX2_crossTwo 9 = .ok (.iconst 2, 1) := by decide +kernel
theorem dX2_crossTwo_10 : decode cX2_crossTwo 10 = .ok (.iaload, 1) := by decide +kernel
theorem dX2_crossTwo_11 : decode cX2_crossTwo 11 = .ok (.aload_n 2, 1) := by decide +kernel
theorem dX2_crossTwo_12 : decode cX2_crossTwo 12 = .ok (.iconst 1, 1) := by decide +kernel
theorem dX2_crossTwo_13 : decode cX2_crossTwo 13 = .ok (.iaload, 1) := by decide +kernel
theorem dX2_crossTwo_14 : decode cX2_crossTwo 14 = .ok (.imul, 1) := by decide +kernel
theorem dX2_crossTwo_15 : decode cX2_crossTwo 15 = .ok (.isub, 1) := by decide +kernel
theorem dX2_crossTwo_16 : decode cX2_crossTwo 16 = .ok (.i2l, 1) := by decide +kernel
theorem dX2_crossTwo_17 : decode cX2_crossTwo 17 = .ok (.putfield 43, 3) := by decide +kernel
theorem dX2_crossTwo_20 : decode cX2_crossTwo 20 = .ok (.aload_n 0, 1) := by decide +kernel
theorem dX2_crossTwo_21 : decode cX2_crossTwo 21 = .ok (.aload_n 1, 1) := by decide +kernel
theorem dX2_crossTwo_22 : decode cX2_crossTwo 22 = .ok (.iconst 1, 1) := by decide +kernel
theorem dX2_crossTwo_23 : decode cX2_crossTwo 23 = .ok (.iaload, 1) := by decide +kernel
theorem dX2_crossTwo_24 : decode cX2_crossTwo 24 = .ok (.aload_n 2, 1) := by decide +kernel
theorem dX2_crossTwo_25 : decode cX2_crossTwo 25 = .ok (.iconst 3, 1) := by decide +kernel
theorem dX2_crossTwo_26 : decode cX2_crossTwo 26 = .ok (.iaload, 1) := by decide +kernel
theorem dX2_crossTwo_27 : decode cX2_crossTwo 27 = .ok (.imul, 1) := by decide +kernel
theorem dX2_crossTwo_28 : decode cX2_crossTwo 28 = .ok (.aload_n 1, 1) := by decide +kernel
theorem dX2_crossTwo_29 : decode cX2_crossTwo 29 = .ok (.iconst 3, 1) := by decide +kernel
theorem dX2_crossTwo_30 : decode cX2_crossTwo 30 = .ok (.iaload, 1) := by decide +kernel
theorem dX2_crossTwo_31 : decode cX2_crossTwo 31 = .ok (.aload_n 2, 1) := by decide +kernel
theorem dX2_crossTwo_32 : decode cX2_crossTwo 32 = .ok (.iconst 1, 1) := by decide +kernel
theorem dX2_crossTwo_33 : decode cX2_crossTwo 33 = .ok (.iaload, 1) := by decide +kernel
theorem dX2_crossTwo_34 : decode cX2_crossTwo 34 = .ok (.imul, 1) := by decide +kernel
theorem dX2_crossTwo_35 : decode cX2_crossTwo 35 = .ok (.isub, 1) := by decide +kernel
theorem dX2_crossTwo_36 : decode cX2_crossTwo 36 = .ok (.i2l, 1) := by decide +kernel
theorem dX2_crossTwo_37 : decode cX2_crossTwo 37 = .ok (.putfield 47, 3) := by decide +kernel
theorem dX2_crossTwo_40 : decode cX2_crossTwo 40 = .ok (.aload_n 0, 1) := by decide +kernel
theorem dX2_crossTwo_41 : decode cX2_crossTwo 41 = .ok (.aload_n 1, 1) := by decide +kernel
theorem dX2_crossTwo_42 : decode cX2_crossTwo 42 = .ok (.iconst 1, 1) := by decide +kernel
theorem dX2_crossTwo_43 : decode cX2_crossTwo 43 = .ok (.iaload, 1) := by decide +kernel
theorem dX2_crossTwo_44 : decode cX2_crossTwo 44 = .ok (.aload_n 2, 1) := by decide +kernel
theorem dX2_crossTwo_45 : decode cX2_crossTwo 45 = .ok (.iconst 4, 1) := by decide +kernel
theorem dX2_crossTwo_46 : decode cX2_crossTwo 46 = .ok (.iaload, 1) := by decide +kernel
theorem dX2_crossTwo_47 : decode cX2_crossTwo 47 = .ok (.imul, 1) := by decide +kernel
theorem dX2_crossTwo_48 : decode cX2_crossTwo 48 = .ok (.aload_n 1, 1) := by decide +kernel
theorem dX2_crossTwo_49 : decode cX2_crossTwo 49 = .ok (.iconst 4, 1) := by decide +kernel
theorem dX2_crossTwo_50 : decode cX2_crossTwo 50 = .ok (.iaload, 1) := by decide +kernel
theorem dX2_crossTwo_51 : decode cX2_crossTwo 51 = .ok (.aload_n 2, 1) := by decide +kernel
theorem dX2_crossTwo_52 : decode cX2_crossTwo 52 = .ok (.iconst 1, 1) := by decide +kernel
theorem dX2_crossTwo_53 : decode cX2_crossTwo 53 = .ok (.iaload, 1) := by decide +kernel
theorem dX2_crossTwo_54 : decode cX2_crossTwo 54 = .ok (.imul, 1) := by decide +kernel
theorem dX2_crossTwo_55 : decode cX2_crossTwo 55 = .ok (.isub, 1) := by decide +kernel
theorem dX2_crossTwo_56 : decode cX2_crossTwo 56 = .ok (.i2l, 1) := by decide +kernel
theorem dX2_crossTwo_57 : decode cX2_crossTwo 57 = .ok (.putfield 50, 3) := by decide +kernel
theorem dX2_crossTwo_60 : decode cX2_crossTwo 60 = .ok (.aload_n 0, 1) := by decide +kernel
theorem dX2_crossTwo_61 : decode cX2_crossTwo 61 = .ok (.aload_n 1, 1) := by decide +kernel
theorem dX2_crossTwo_62 : decode cX2_crossTwo 62 = .ok (.iconst 2, 1) := by decide +kernel
theorem dX2_crossTwo_63 : decode cX2_crossTwo 63 = .ok (.iaload, 1) := by decide +kernel
theorem dX2_crossTwo_64 : decode cX2_crossTwo 64 = .ok (.aload_n 2, 1) := by decide +kernel
theorem dX2_crossTwo_65 : decode cX2_crossTwo 65 = .ok (.iconst 3, 1) := by decide +kernel
theorem dX2_crossTwo_66 : decode cX2_crossTwo 66 = .ok (.iaload, 1) := by decide +kernel
theorem dX2_crossTwo_67 : decode cX2_crossTwo 67 = .ok (.imul, 1) := by decide +kernel
theorem dX2_crossTwo_68 : decode cX2_crossTwo 68 = .ok (.aload_n 1, 1) := by decide +kernel
theorem dX2_crossTwo_69 : decode cX2_crossTwo 69 = .ok (.iconst 3, 1) := by decide +kernel
theorem dX2_crossTwo_70 : decode cX2_crossTwo 70 = .ok (.iaload, 1) := by decide +kernel
theorem dX2_crossTwo_71 : decode cX2_crossTwo 71 = .ok (.aload_n 2, 1) := by decide +kernel
theorem dX2_crossTwo_72 : decode cX2_crossTwo 72 = .ok (.iconst 2, 1) := by decide +kernel
theorem dX2_crossTwo_73 : decode cX2_crossTwo 73 = .ok (.iaload, 1) := by decide +kernel
theorem dX2_crossTwo_74 : decode cX2_crossTwo 74 = .ok (.imul, 1) := by decide +kernel
theorem dX2_crossTwo_75 : decode cX2_crossTwo 75 = .ok (.isub, 1) := by decide +kernel
theorem dX2_crossTwo_76 : decode cX2_crossTwo 76 = .ok (.i2l, 1) := by decide +kernel
theorem dX2_crossTwo_77 : decode cX2_crossTwo 77 = .ok (.putfield 53, 3) := by decide +kernel
theorem dX2_crossTwo_80 : decode cX2_crossTwo 80 = .ok (.aload_n 0, 1) := by decide +kernel
theorem dX2_crossTwo_81 : decode cX2_crossTwo 81 = .ok (.aload_n 1, 1) := by decide +kernel
theorem dX2_crossTwo_82 : decode cX2_crossTwo 82 = .ok (.iconst 2, 1) := by decide +kernel
theorem dX2_crossTwo_83 : decode cX2_crossTwo 83 = .ok (.iaload, 1) := by decide +kernel
theorem dX2_crossTwo_84 : decode cX2_crossTwo 84 = .ok (.aload_n 2, 1) := by decide +kernel
theorem dX2_crossTwo_85 : decode cX2_crossTwo 85 = .ok (.iconst 4, 1) := by decide +kernel
theorem dX2_crossTwo_86 : decode cX2_crossTwo 86 = .ok (.iaload, 1) := by decide +kernel
theorem dX2_crossTwo_87 : decode cX2_crossTwo 87 = .ok (.imul, 1) := by decide +kernel
theorem dX2_crossTwo_88 : decode cX2_crossTwo 88 = .ok (.aload_n 1, 1) := by decide +kernel
theorem dX2_crossTwo_89 : decode cX2_crossTwo 89 = .ok (.iconst 4, 1) := by decide +kernel
theorem dX2_crossTwo_90 : decode cX2_crossTwo 90 = .ok (.iaload, 1) := by decide +kernel
theorem dX2_crossTwo_91 : decode cX2_crossTwo 91 = .ok (.aload_n 2, 1) := by decide +kernel
theorem dX2_crossTwo_92 : decode cX2_crossTwo 92 = .ok (.iconst 2, 1) := by decide +kernel
theorem dX2_crossTwo_93 : decode cX2_crossTwo 93 = .ok (.iaload, 1) := by decide +kernel
theorem dX2_crossTwo_94 : decode cX2_crossTwo 94 = .ok (.imul, 1) := by decide +kernel
theorem dX2_crossTwo_95 : decode cX2_crossTwo 95 = .ok (.isub, 1) := by decide +kernel
theorem dX2_crossTwo_96 : decode cX2_crossTwo 96 = .ok (.i2l, 1) := by decide +kernel
theorem dX2_crossTwo_97 : decode cX2_crossTwo 97 = .ok (.putfield 56, 3) := by decide +kernel
theorem dX2_crossTwo_100 : decode cX2_crossTwo 100 = .ok (.aload_n 0, 1) := by decide +kernel
theorem dX2_crossTwo_101 : decode cX2_crossTwo 101 = .ok (.aload_n 1, 1) := by decide +kernel
theorem dX2_crossTwo_102 : decode cX2_crossTwo 102 = .ok (.iconst 3, 1) := by decide +kernel
theorem dX2_crossTwo_103 : decode cX2_crossTwo 103 = .ok (.iaload, 1) := by decide +kernel
theorem dX2_crossTwo_104 : decode cX2_crossTwo 104 = .ok (.aload_n 2, 1) := by decide +kernel
theorem dX2_crossTwo_105 : decode cX2_crossTwo 105 = .ok (.iconst 4, 1) := by decide +kernel
theorem dX2_crossTwo_106 : decode cX2_crossTwo 106 = .ok (.iaload, 1) := by decide +kernel
theorem dX2_crossTwo_107 : decode cX2_crossTwo 107 = .ok (.imul, 1) := by decide +kernel
theorem dX2_crossTwo_108 : decode cX2_crossTwo 108 = .ok (.aload_n 1, 1) := by decide +kernel
theorem dX2_crossTwo_109 : decode cX2_crossTwo 109 = .ok (.iconst 4, 1) := by decide +kernel
theorem dX2_crossTwo_110 : decode cX2_crossTwo 110 = .ok (.iaload, 1) := by decide +kernel
theorem dX2_crossTwo_111 : decode cX2_crossTwo 111 = .ok (.aload_n 2, 1) := by decide +kernel
theorem dX2_crossTwo_112 : decode cX2_crossTwo 112 = .ok (.iconst 3, 1) := by decide +kernel
theorem dX2_crossTwo_113 : decode cX2_crossTwo 113 = .ok (.iaload, 1) := by decide +kernel
theorem dX2_crossTwo_114 : decode cX2_crossTwo 114 = .ok (.imul, 1) := by decide +kernel
theorem dX2_crossTwo_115 : decode cX2_crossTwo 115 = .ok (.isub, 1) := by decide +kernel
theorem dX2_crossTwo_116 : decode cX2_crossTwo 116 = .ok (.i2l, 1) := by decide +kernel
theorem dX2_crossTwo_117 : decode cX2_crossTwo 117 = .ok (.putfield 59, 3) := by decide +kernel
theorem dX2_crossTwo_120 : decode cX2_crossTwo 120 = .ok (.return_, 1) := by decide +kernel
theorem dX2_meetsAtCorner_0 : decode cX2_meetsAtCorner 0 = .ok (.aload_n 1, 1) := by decide +kernel
theorem dX2_meetsAtCorner_1 : decode cX2_meetsAtCorner 1 = .ok (.iconst 2, 1) := by decide +kernel
theorem dX2_meetsAtCorner_2 : decode cX2_meetsAtCorner 2 = .ok (.iaload, 1) := by decide +kernel
theorem dX2_meetsAtCorner_3 : decode cX2_meetsAtCorner 3 = .ok (.i2l, 1) := by decide +kernel
theorem dX2_meetsAtCorner_4 : decode cX2_meetsAtCorner 4 = .ok (.aload_n 0, 1) := by decide +kernel
theorem dX2_meetsAtCorner_5 : decode cX2_meetsAtCorner 5 = .ok (.getfield 47, 3) := by decide +kernel
theorem dX2_meetsAtCorner_8 : decode cX2_meetsAtCorner 8 = .ok (.lmul, 1) := by decide +kernel
theorem dX2_meetsAtCorner_9 : decode cX2_meetsAtCorner 9 = .ok (.aload_n 1, 1) := by decide +kernel
theorem dX2_meetsAtCorner_10 : decode cX2_meetsAtCorner 10 = .ok (.iconst 1, 1) := by decide +kernel
theorem dX2_meetsAtCorner_11 : decode cX2_meetsAtCorner 11 = .ok (.iaload, 1) := by decide +kernel
theorem dX2_meetsAtCorner_12 : decode cX2_meetsAtCorner 12 = .ok (.i2l, 1) := by decide +kernel
theorem dX2_meetsAtCorner_13 : decode cX2_meetsAtCorner 13 = .ok (.aload_n 0, 1) := by decide +kernel
theorem dX2_meetsAtCorner_14 : decode cX2_meetsAtCorner 14 = .ok (.getfield 53, 3) := by decide +kernel
theorem dX2_meetsAtCorner_17 : decode cX2_meetsAtCorner 17 = .ok (.lmul, 1) := by decide +kernel
theorem dX2_meetsAtCorner_18 : decode cX2_meetsAtCorner 18 = .ok (.lsub, 1) := by decide +kernel
theorem dX2_meetsAtCorner_19 : decode cX2_meetsAtCorner 19 = .ok (.aload_n 1, 1) := by decide +kernel
theorem dX2_meetsAtCorner_20 : decode cX2_meetsAtCorner 20 = .ok (.iconst 3, 1) := by decide +kernel
theorem dX2_meetsAtCorner_21 : decode cX2_meetsAtCorner 21 = .ok (.iaload, 1) := by decide +kernel
theorem dX2_meetsAtCorner_22 : decode cX2_meetsAtCorner 22 = .ok (.i2l, 1) := by decide +kernel
theorem dX2_meetsAtCorner_23 : decode cX2_meetsAtCorner 23 = .ok (.aload_n 0, 1) := by decide +kernel
theorem dX2_meetsAtCorner_24 : decode cX2_meetsAtCorner 24 = .ok (.getfield 43, 3) := by decide +kernel
theorem dX2_meetsAtCorner_27 : decode cX2_meetsAtCorner 27 = .ok (.lmul, 1) := by decide +kernel
theorem dX2_meetsAtCorner_28 : decode cX2_meetsAtCorner 28 = .ok (.lsub, 1) := by decide +kernel
theorem dX2_meetsAtCorner_29 : decode cX2_meetsAtCorner 29 = .ok (.lstore_n 2, 1) := by decide +kernel
theorem dX2_meetsAtCorner_30 : decode cX2_meetsAtCorner 30 = .ok (.lload_n 2, 1) := by decide +kernel
theorem dX2_meetsAtCorner_31 : decode cX2_meetsAtCorner 31 = .ok (.lconst 0, 1) := by decide +kernel
theorem dX2_meetsAtCorner_32 : decode cX2_meetsAtCorner 32 = .ok (.lcmp, 1) := by decide +kernel
theorem dX2_meetsAtCorner_33 : decode cX2_meetsAtCorner 33 = .ok (.ifCond .ne 5, 3) := by decide +kernel
theorem dX2_meetsAtCorner_36 : decode cX2_meetsAtCorner 36 = .ok (.iconst 0, 1) := by decide +kernel
theorem dX2_meetsAtCorner_37 : decode cX2_meetsAtCorner 37 = .ok (.ireturn, 1) := by decide +kernel
theorem dX2_meetsAtCorner_38 : decode cX2_meetsAtCorner 38 = .ok (.lload_n 2, 1) := by decide +kernel
theorem dX2_meetsAtCorner_39 : decode cX2_meetsAtCorner 39 = .ok (.lconst 0, 1) := by decide +kernel
theorem dX2_meetsAtCorner_40 : decode cX2_meetsAtCorner 40 = .ok (.lcmp, 1) := by decide +kernel
theorem dX2_meetsAtCorner_41 : decode cX2_meetsAtCorner 41 = .ok (.ifCond .le 7, 3) := by decide +kernel
theorem dX2_meetsAtCorner_44 : decode cX2_meetsAtCorner 44 = .ok (.iconst 1, 1) := by decide +kernel
theorem dX2_meetsAtCorner_45 : decode cX2_meetsAtCorner 45 = .ok (.goto 4, 3) := by decide +kernel
theorem dX2_meetsAtCorner_48 : decode cX2_meetsAtCorner 48 = .ok (.iconst (-1), 1) := by decide +kernel
theorem dX2_meetsAtCorner_49 : decode cX2_meetsAtCorner 49 = .ok (.istore 4, 2) := by decide +kernel
theorem dX2_meetsAtCorner_51 : decode cX2_meetsAtCorner 51 = .ok (.aload_n 0, 1) := by decide +kernel
theorem dX2_meetsAtCorner_52 : decode cX2_meetsAtCorner 52 = .ok (.getfield 39, 3) := by decide +kernel
theorem dX2_meetsAtCorner_55 : decode cX2_meetsAtCorner 55 = .ok (.iconst 1, 1) := by decide +kernel
theorem dX2_meetsAtCorner_56 : decode cX2_meetsAtCorner 56 = .ok (.iload 4, 2) := by decide +kernel
theorem dX2_meetsAtCorner_58 : decode cX2_meetsAtCorner 58 = .ok (.i2l, 1) := by decide +kernel
theorem dX2_meetsAtCorner_59 : decode cX2_meetsAtCorner 59 = .ok (.aload_n 1, 1) := by decide +kernel
theorem dX2_meetsAtCorner_60 : decode cX2_meetsAtCorner 60 = .ok (.iconst 2, 1) := by decide +kernel
theorem dX2_meetsAtCorner_61 : decode cX2_meetsAtCorner 61 = .ok (.iaload, 1) := by decide +kernel
theorem dX2_meetsAtCorner_62 : decode cX2_meetsAtCorner 62 = .ok (.i2l, 1) := by decide +kernel
theorem dX2_meetsAtCorner_63 : decode cX2_meetsAtCorner 63 = .ok (.aload_n 0, 1) := by decide +kernel
theorem dX2_meetsAtCorner_64 : decode cX2_meetsAtCorner 64 = .ok (.getfield 59, 3) := by decide +kernel
theorem dX2_meetsAtCorner_67 : decode cX2_meetsAtCorner 67 = .ok (.lmul, 1) := by decide +kernel
theorem dX2_meetsAtCorner_68 : decode cX2_meetsAtCorner 68 = .ok (.aload_n 1, 1) := by decide +kernel
theorem dX2_meetsAtCorner_69 : decode cX2_meetsAtCorner 69 = .ok (.iconst 3, 1) := by decide +kernel
theorem dX2_meetsAtCorner_70 : decode cX2_meetsAtCorner 70 = .ok (.iaload, 1) := by decide +kernel
theorem dX2_meetsAtCorner_71 : decode cX2_meetsAtCorner 71 = .ok (.i2l, 1) := by decide +kernel
theorem dX2_meetsAtCorner_72 : decode cX2_meetsAtCorner 72 = .ok (.aload_n 0, 1) := by decide +kernel
theorem dX2_meetsAtCorner_73 : decode cX2_meetsAtCorner 73 = .ok (.getfield 56, 3) := by decide +kernel
theorem dX2_meetsAtCorner_76 : decode cX2_meetsAtCorner 76 = .ok (.lmul, 1) := by decide +kernel
theorem dX2_meetsAtCorner_77 : decode cX2_meetsAtCorner 77 = .ok (.lsub, 1) := by decide +kernel
theorem dX2_meetsAtCorner_78 : decode cX2_meetsAtCorner 78 = .ok (.aload_n 1, 1) := by decide +kernel
theorem dX2_meetsAtCorner_79 : decode cX2_meetsAtCorner 79 = .ok (.iconst 4, 1) := by decide +kernel
theorem dX2_meetsAtCorner_80 : decode cX2_meetsAtCorner 80 = .ok (.iaload, 1) := by decide +kernel
theorem dX2_meetsAtCorner_81 : decode cX2_meetsAtCorner 81 = .ok (.i2l, 1) := by decide +kernel
theorem dX2_meetsAtCorner_82 : decode cX2_meetsAtCorner 82 = .ok (.aload_n 0, 1) := by decide +kernel
theorem dX2_meetsAtCorner_83 : decode cX2_meetsAtCorner 83 = .ok (.getfield 53, 3) := by decide +kernel
theorem dX2_meetsAtCorner_86 : decode cX2_meetsAtCorner 86 = .ok (.lmul, 1) := by decide +kernel
theorem dX2_meetsAtCorner_87 : decode cX2_meetsAtCorner 87 = .ok (.ladd, 1) := by decide +kernel
theorem dX2_meetsAtCorner_88 : decode cX2_meetsAtCorner 88 = .ok (.lmul, 1) := by decide +kernel
theorem dX2_meetsAtCorner_89 : decode cX2_meetsAtCorner 89 = .ok (.lastore, 1) := by decide +kernel
theorem dX2_meetsAtCorner_90 : decode cX2_meetsAtCorner 90 = .ok (.aload_n 0, 1) := by decide +kernel
theorem dX2_meetsAtCorner_91 : decode cX2_meetsAtCorner 91 = .ok (.getfield 39, 3) := by decide +kernel
theorem dX2_meetsAtCorner_94 : decode cX2_meetsAtCorner 94 = .ok (.iconst 2, 1) := by decide +kernel
theorem dX2_meetsAtCorner_95 : decode cX2_meetsAtCorner 95 = .ok (.iload 4, 2) := by decide +kernel
theorem dX2_meetsAtCorner_97 : decode cX2_meetsAtCorner 97 = .ok (.i2l, 1) := by decide +kernel
theorem dX2_meetsAtCorner_98 : decode cX2_meetsAtCorner 98 = .ok (.aload_n 1, 1) := by decide +kernel
theorem dX2_meetsAtCorner_99 : decode cX2_meetsAtCorner 99 = .ok (.iconst 3, 1) := by decide +kernel
theorem dX2_meetsAtCorner_100 : decode cX2_meetsAtCorner 100 = .ok (.iaload, 1) := by decide +kernel
theorem dX2_meetsAtCorner_101 : decode cX2_meetsAtCorner 101 = .ok (.i2l, 1) := by decide +kernel
theorem dX2_meetsAtCorner_102 : decode cX2_meetsAtCorner 102 = .ok (.aload_n 0, 1) := by decide +kernel
theorem dX2_meetsAtCorner_103 : decode cX2_meetsAtCorner 103 = .ok (.getfield 50, 3) := by decide +kernel
theorem dX2_meetsAtCorner_106 : decode cX2_meetsAtCorner 106 = .ok (.lmul, 1) := by decide +kernel
theorem dX2_meetsAtCorner_107 : decode cX2_meetsAtCorner 107 = .ok (.aload_n 1, 1) := by decide +kernel
theorem dX2_meetsAtCorner_108 : decode cX2_meetsAtCorner 108 = .ok (.iconst 1, 1) := by decide +kernel
theorem dX2_meetsAtCorner_109 : decode cX2_meetsAtCorner 109 = .ok (.iaload, 1) := by decide +kernel
theorem dX2_meetsAtCorner_110 : decode cX2_meetsAtCorner 110 = .ok (.i2l, 1) := by decide +kernel
theorem dX2_meetsAtCorner_111 : decode cX2_meetsAtCorner 111 = .ok (.aload_n 0, 1) := by decide +kernel
theorem dX2_meetsAtCorner_112 : decode cX2_meetsAtCorner 112 = .ok (.getfield 59, 3) := by decide +kernel
theorem dX2_meetsAtCorner_115 : decode cX2_meetsAtCorner 115 = .ok (.lmul, 1) := by decide +kernel
theorem dX2_meetsAtCorner_116 : decode cX2_meetsAtCorner 116 = .ok (.lsub, 1) := by decide +kernel
theorem dX2_meetsAtCorner_117 : decode cX2_meetsAtCorner 117 = .ok (.aload_n 1, 1) := by decide +kernel
theorem dX2_meetsAtCorner_118 : decode cX2_meetsAtCorner 118 = .ok (.iconst 4, 1) := by decide +kernel
theorem dX2_meetsAtCorner_119 : decode cX2_meetsAtCorner 119 = .ok (.iaload, 1) := by decide +kernel
theorem dX2_meetsAtCorner_120 : decode cX2_meetsAtCorner 120 = .ok (.i2l, 1) := by decide +kernel
theorem dX2_meetsAtCorner_121 : decode cX2_meetsAtCorner 121 = .ok (.aload_n 0, 1) := by decide +kernel
theorem dX2_meetsAtCorner_122 : decode cX2_meetsAtCorner 122 = .ok (.getfield 47, 3) := by decide +kernel
theorem dX2_meetsAtCorner_125 : decode cX2_meetsAtCorner 125 = .ok (.lmul, 1) := by decide +kernel
theorem dX2_meetsAtCorner_126 : decode cX2_meetsAtCorner 126 = .ok (.lsub, 1) := by decide +kernel
theorem dX2_meetsAtCorner_127 : decode cX2_meetsAtCorner 127 = .ok (.lmul, 1) := by decide +kernel
theorem dX2_meetsAtCorner_128 : decode cX2_meetsAtCorner 128 = .ok (.lastore, 1) := by decide +kernel
theorem dX2_meetsAtCorner_129 : decode cX2_meetsAtCorner 129 = .ok (.aload_n 0, 1) := by decide +kernel
theorem dX2_meetsAtCorner_130 : decode cX2_meetsAtCorner 130 = .ok (.getfield 39, 3) := by decide +kernel
theorem dX2_meetsAtCorner_133 : decode cX2_meetsAtCorner 133 = .ok (.iconst 3, 1) := by decide +kernel
theorem dX2_meetsAtCorner_134 : decode cX2_meetsAtCorner 134 = .ok (.iload 4, 2) := by decide +kernel
theorem dX2_meetsAtCorner_136 : decode cX2_meetsAtCorner 136 = .ok (.i2l, 1) := by decide +kernel
theorem dX2_meetsAtCorner_137 : decode cX2_meetsAtCorner 137 = .ok (.aload_n 1, 1) := by decide +kernel
theorem dX2_meetsAtCorner_138 : decode cX2_meetsAtCorner 138 = .ok (.iconst 1, 1) := by decide +kernel
theorem dX2_meetsAtCorner_139 : decode cX2_meetsAtCorner 139 = .ok (.iaload, 1) := by decide +kernel
theorem dX2_meetsAtCorner_140 : decode cX2_meetsAtCorner 140 = .ok (.i2l, 1) := by decide +kernel
theorem dX2_meetsAtCorner_141 : decode cX2_meetsAtCorner 141 = .ok (.aload_n 0, 1) := by decide +kernel
theorem dX2_meetsAtCorner_142 : decode cX2_meetsAtCorner 142 = .ok (.getfield 56, 3) := by decide +kernel
theorem dX2_meetsAtCorner_145 : decode cX2_meetsAtCorner 145 = .ok (.lmul, 1) := by decide +kernel
theorem dX2_meetsAtCorner_146 : decode cX2_meetsAtCorner 146 = .ok (.aload_n 1, 1) := by decide +kernel
theorem dX2_meetsAtCorner_147 : decode cX2_meetsAtCorner 147 = .ok (.iconst 2, 1) := by decide +kernel
theorem dX2_meetsAtCorner_148 : decode cX2_meetsAtCorner 148 = .ok (.iaload, 1) := by decide +kernel
theorem dX2_meetsAtCorner_149 : decode cX2_meetsAtCorner 149 = .ok (.i2l, 1) := by decide +kernel
theorem dX2_meetsAtCorner_150 : decode cX2_meetsAtCorner 150 = .ok (.aload_n 0, 1) := by decide +kernel
theorem dX2_meetsAtCorner_151 : decode cX2_meetsAtCorner 151 = .ok (.getfield 50, 3) := by decide +kernel
theorem dX2_meetsAtCorner_154 : decode cX2_meetsAtCorner 154 = .ok (.lmul, 1) := by decide +kernel
theorem dX2_meetsAtCorner_155 : decode cX2_meetsAtCorner 155 = .ok (.lsub, 1) := by decide +kernel
theorem dX2_meetsAtCorner_156 : decode cX2_meetsAtCorner 156 = .ok (.aload_n 1, 1) := by decide +kernel
theorem dX2_meetsAtCorner_157 : decode cX2_meetsAtCorner 157 = .ok (.iconst 4, 1) := by decide +kernel
theorem dX2_meetsAtCorner_158 : decode cX2_meetsAtCorner 158 = .ok (.iaload, 1) := by decide +kernel
theorem dX2_meetsAtCorner_159 : decode cX2_meetsAtCorner 159 = .ok (.i2l, 1) := by decide +kernel
theorem dX2_meetsAtCorner_160 : decode cX2_meetsAtCorner 160 = .ok (.aload_n 0, 1) := by decide +kernel
theorem dX2_meetsAtCorner_161 : decode cX2_meetsAtCorner 161 = .ok (.getfield 43, 3) := by decide +kernel
theorem dX2_meetsAtCorner_164 : decode cX2_meetsAtCorner 164 = .ok (.lmul, 1) := by decide +kernel
theorem dX2_meetsAtCorner_165 : decode cX2_meetsAtCorner 165 = .ok (.ladd, 1) := by decide +kernel
theorem dX2_meetsAtCorner_166 : decode cX2_meetsAtCorner 166 = .ok (.lmul, 1) := by decide +kernel
theorem dX2_meetsAtCorner_167 : decode cX2_meetsAtCorner 167 = .ok (.lastore, 1) := by decide +kernel
theorem dX2_meetsAtCorner_168 : decode cX2_meetsAtCorner 168 = .ok (.aload_n 0, 1) := by decide +kernel
theorem dX2_meetsAtCorner_169 : decode cX2_meetsAtCorner 169 = .ok (.getfield 39, 3) := by decide +kernel
theorem dX2_meetsAtCorner_172 : decode cX2_meetsAtCorner 172 = .ok (.iconst 4, 1) := by decide +kernel
theorem dX2_meetsAtCorner_173 : decode cX2_meetsAtCorner 173 = .ok (.iload 4, 2) := by decide +kernel
theorem dX2_meetsAtCorner_175 : decode cX2_meetsAtCorner 175 = .ok (.i2l, 1) := by decide +kernel
theorem dX2_meetsAtCorner_176 : decode cX2_meetsAtCorner 176 = .ok (.lload_n 2, 1) := by decide +kernel
theorem dX2_meetsAtCorner_177 : decode cX2_meetsAtCorner 177 = .ok (.lmul, 1) := by decide +kernel
theorem dX2_meetsAtCorner_178 : decode cX2_meetsAtCorner 178 = .ok (.lastore, 1) := by decide +kernel
theorem dX2_meetsAtCorner_179 : decode cX2_meetsAtCorner 179 = .ok (.iconst 1, 1) := by decide +kernel
theorem dX2_meetsAtCorner_180 : decode cX2_meetsAtCorner 180 = .ok (.ireturn, 1) := by decide +kernel
theorem dX2_weighCorner_0 : decode cX2_weighCorner 0 = .ok (.lconst 0, 1) := by decide +kernel
theorem dX2_weighCorner_1 : decode cX2_weighCorner 1 = .ok (.lstore_n 1, 1) := by decide +kernel
theorem dX2_weighCorner_2 : decode cX2_weighCorner 2 = .ok (.iconst 0, 1) := by decide +kernel
theorem dX2_weighCorner_3 : decode cX2_weighCorner 3 = .ok (.istore_n 3, 1) := by decide +kernel
theorem dX2_weighCorner_4 : decode cX2_weighCorner 4 = .ok (.iload_n 3, 1) := by decide +kernel
theorem dX2_weighCorner_5 : decode cX2_weighCorner 5 = .ok (.aload_n 0, 1) := by decide +kernel
theorem dX2_weighCorner_6 : decode cX2_weighCorner 6 = .ok (.getfield 27, 3) := by decide +kernel
theorem dX2_weighCorner_9 : decode cX2_weighCorner 9 = .ok (.if_icmp .ge 80, 3) := by decide +kernel
theorem dX2_weighCorner_12 : decode cX2_weighCorner 12 = .ok (.aload_n 0, 1) := by decide +kernel
theorem dX2_weighCorner_13 : decode cX2_weighCorner 13 = .ok (.getfield 21, 3) := by decide +kernel
theorem dX2_weighCorner_16 : decode cX2_weighCorner 16 = .ok (.iload_n 3, 1) := by decide +kernel
theorem dX2_weighCorner_17 : decode cX2_weighCorner 17 = .ok (.iaload, 1) := by decide +kernel
theorem dX2_weighCorner_18 : decode cX2_weighCorner 18 = .ok (.i2l, 1) := by decide +kernel
theorem dX2_weighCorner_19 : decode cX2_weighCorner 19 = .ok (.aload_n 0, 1) := by decide +kernel
theorem dX2_weighCorner_20 : decode cX2_weighCorner 20 = .ok (.getfield 39, 3) := by decide +kernel
theorem dX2_weighCorner_23 : decode cX2_weighCorner 23 = .ok (.aload_n 0, 1) := by decide +kernel
theorem dX2_weighCorner_24 : decode cX2_weighCorner 24 = .ok (.getfield 15, 3) := by decide +kernel
theorem dX2_weighCorner_27 : decode cX2_weighCorner 27 = .ok (.iload_n 3, 1) := by decide +kernel
theorem dX2_weighCorner_28 : decode cX2_weighCorner 28 = .ok (.iaload, 1) := by decide +kernel
theorem dX2_weighCorner_29 : decode cX2_weighCorner 29 = .ok (.laload, 1) := by decide +kernel
theorem dX2_weighCorner_30 : decode cX2_weighCorner 30 = .ok (.lmul, 1) := by decide +kernel
theorem dX2_weighCorner_31 : decode cX2_weighCorner 31 = .ok (.aload_n 0, 1) := by decide +kernel
theorem dX2_weighCorner_32 : decode cX2_weighCorner 32 = .ok (.getfield 24, 3) := by decide +kernel
theorem dX2_weighCorner_35 : decode cX2_weighCorner 35 = .ok (.iload_n 3, 1) := by decide +kernel
theorem dX2_weighCorner_36 : decode cX2_weighCorner 36 = .ok (.iaload, 1) := by decide +kernel
theorem dX2_weighCorner_37 : decode cX2_weighCorner 37 = .ok (.i2l, 1) := by decide +kernel
theorem dX2_weighCorner_38 : decode cX2_weighCorner 38 = .ok (.aload_n 0, 1) := by decide +kernel
theorem dX2_weighCorner_39 : decode cX2_weighCorner 39 = .ok (.getfield 39, 3) := by decide +kernel
theorem dX2_weighCorner_42 : decode cX2_weighCorner 42 = .ok (.aload_n 0, 1) := by decide +kernel
theorem dX2_weighCorner_43 : decode cX2_weighCorner 43 = .ok (.getfield 9, 3) := by decide +kernel
theorem dX2_weighCorner_46 : decode cX2_weighCorner 46 = .ok (.iload_n 3, 1) := by decide +kernel
theorem dX2_weighCorner_47 : decode cX2_weighCorner 47 = .ok (.iaload, 1) := by decide +kernel
theorem dX2_weighCorner_48 : decode cX2_weighCorner 48 = .ok (.laload, 1) := by decide +kernel
theorem dX2_weighCorner_49 : decode cX2_weighCorner 49 = .ok (.lmul, 1) := by decide +kernel
theorem dX2_weighCorner_50 : decode cX2_weighCorner 50 = .ok (.lsub, 1) := by decide +kernel
theorem dX2_weighCorner_51 : decode cX2_weighCorner 51 = .ok (.lstore 4, 2) := by decide +kernel
theorem dX2_weighCorner_53 : decode cX2_weighCorner 53 = .ok (.lload 4, 2) := by decide +kernel
theorem dX2_weighCorner_55 : decode cX2_weighCorner 55 = .ok (.lconst 0, 1) := by decide +kernel
theorem dX2_weighCorner_56 : decode cX2_weighCorner 56 = .ok (.lcmp, 1) := by decide +kernel
theorem dX2_weighCorner_57 : decode cX2_weighCorner 57 = .ok (.ifCond .le 26, 3) := by decide +kernel
theorem dX2_weighCorner_60 : decode cX2_weighCorner 60 = .ok (.lload_n 1, 1) := by decide +kernel
theorem dX2_weighCorner_61 : decode cX2_weighCorner 61 = .ok (.aload_n 0, 1) := by decide +kernel
theorem dX2_weighCorner_62 : decode cX2_weighCorner 62 = .ok (.getfield 18, 3) := by decide +kernel
theorem dX2_weighCorner_65 : decode cX2_weighCorner 65 = .ok (.iload_n 3, 1) := by decide +kernel
theorem dX2_weighCorner_66 : decode cX2_weighCorner 66 = .ok (.iaload, 1) := by decide +kernel
theorem dX2_weighCorner_67 : decode cX2_weighCorner 67 = .ok (.aload_n 0, 1) := by decide +kernel
theorem dX2_weighCorner_68 : decode cX2_weighCorner 68 = .ok (.getfield 24, 3) := by decide +kernel
theorem dX2_weighCorner_71 : decode cX2_weighCorner 71 = .ok (.iload_n 3, 1) := by decide +kernel
theorem dX2_weighCorner_72 : decode cX2_weighCorner 72 = .ok (.iaload, 1) := by decide +kernel
theorem dX2_weighCorner_73 : decode cX2_weighCorner 73 = .ok (.invokestatic 118, 3) := by decide +kernel
theorem dX2_weighCorner_76 : decode cX2_weighCorner 76 = .ok (.imul, 1) := by decide +kernel
theorem dX2_weighCorner_77 : decode cX2_weighCorner 77 = .ok (.i2l, 1) := by decide +kernel
theorem dX2_weighCorner_78 : decode cX2_weighCorner 78 = .ok (.lload 4, 2) := by decide +kernel
theorem dX2_weighCorner_80 : decode cX2_weighCorner 80 = .ok (.lmul, 1) := by decide +kernel
theorem dX2_weighCorner_81 : decode cX2_weighCorner 81 = .ok (.ladd, 1) := by decide +kernel
theorem dX2_weighCorner_82 : decode cX2_weighCorner 82 = .ok (.lstore_n 1, 1) := by decide +kernel
theorem dX2_weighCorner_83 : decode cX2_weighCorner 83 = .ok (.iinc 3 1, 3) := by decide +kernel
theorem dX2_weighCorner_86 : decode cX2_weighCorner 86 = .ok (.goto (-82), 3) := by decide +kernel
theorem dX2_weighCorner_89 : decode cX2_weighCorner 89 = .ok (.aload_n 0, 1) := by decide +kernel
theorem dX2_weighCorner_90 : decode cX2_weighCorner 90 = .ok (.getfield 65, 3) := by decide +kernel
theorem dX2_weighCorner_93 : decode cX2_weighCorner 93 = .ok (.lconst 0, 1) := by decide +kernel
theorem dX2_weighCorner_94 : decode cX2_weighCorner 94 = .ok (.lcmp, 1) := by decide +kernel
theorem dX2_weighCorner_95 : decode cX2_weighCorner 95 = .ok (.ifCond .eq 24, 3) := by decide +kernel
theorem dX2_weighCorner_98 : decode cX2_weighCorner 98 = .ok (.lload_n 1, 1) := by decide +kernel
theorem dX2_weighCorner_99 : decode cX2_weighCorner 99 = .ok (.aload_n 0, 1) := by decide +kernel
theorem dX2_weighCorner_100 : decode cX2_weighCorner 100 = .ok (.getfield 65, 3) := by decide +kernel
theorem dX2_weighCorner_103 : decode cX2_weighCorner 103 = .ok (.lmul, 1) := by decide +kernel
theorem dX2_weighCorner_104 : decode cX2_weighCorner 104 = .ok (.aload_n 0, 1) := by decide +kernel
theorem dX2_weighCorner_105 : decode cX2_weighCorner 105 = .ok (.getfield 62, 3) := by decide +kernel
theorem dX2_weighCorner_108 : decode cX2_weighCorner 108 = .ok (.aload_n 0, 1) := by decide +kernel
theorem dX2_weighCorner_109 : decode cX2_weighCorner 109 = .ok (.getfield 39, 3) := by decide +kernel
theorem dX2_weighCorner_112 : decode cX2_weighCorner 112 = .ok (.iconst 4, 1) := by decide +kernel
theorem dX2_weighCorner_113 : decode cX2_weighCorner 113 = .ok (.laload, 1) := by decide +kernel
theorem dX2_weighCorner_114 : decode cX2_weighCorner 114 = .ok (.lmul, 1) := by decide +kernel
theorem dX2_weighCorner_115 : decode cX2_weighCorner 115 = .ok (.lcmp, 1) := by decide +kernel
theorem dX2_weighCorner_116 : decode cX2_weighCorner 116 = .ok (.ifCond .ge 18, 3) := by decide +kernel
theorem dX2_weighCorner_119 : decode cX2_weighCorner 119 = .ok (.aload_n 0, 1) := by decide +kernel
theorem dX2_weighCorner_120 : decode cX2_weighCorner 120 = .ok (.lload_n 1, 1) := by decide +kernel
theorem dX2_weighCorner_121 : decode cX2_weighCorner 121 = .ok (.putfield 62, 3) := by decide +kernel
theorem dX2_weighCorner_124 : decode cX2_weighCorner 124 = .ok (.aload_n 0, 1) := by decide +kernel
theorem dX2_weighCorner_125 : decode cX2_weighCorner 125 = .ok (.aload_n 0, 1) := by decide +kernel
theorem dX2_weighCorner_126 : decode cX2_weighCorner 126 = .ok (.getfield 39, 3) := by decide +kernel
theorem dX2_weighCorner_129 : decode cX2_weighCorner 129 = .ok (.iconst 4, 1) := by decide +kernel
theorem dX2_weighCorner_130 : decode cX2_weighCorner 130 = .ok (.laload, 1) := by decide +kernel
theorem dX2_weighCorner_131 : decode cX2_weighCorner 131 = .ok (.putfield 65, 3) := by decide +kernel
theorem dX2_weighCorner_134 : decode cX2_weighCorner 134 = .ok (.return_, 1) := by decide +kernel
end
section
theorem dX4_init_0 : decode cX4_init 0 = .ok (.aload_n 0, 1) := by decide +kernel
theorem dX4_init_1 : decode cX4_init 1 = .ok (.invokespecial 3, 3) := by decide +kernel
theorem dX4_init_4 : decode cX4_init 4 = .ok (.aload_n 0, 1) := by decide +kernel
theorem dX4_init_5 : decode cX4_init 5 = .ok (.new 9, 3) := by decide +kernel
theorem dX4_init_8 : decode cX4_init 8 = .ok (.dup, 1) := by decide +kernel
theorem dX4_init_9 : decode cX4_init 9 = .ok (.invokespecial 11, 3) := by decide +kernel
theorem dX4_init_12 : decode cX4_init 12 = .ok (.putfield 12, 3) := by decide +kernel
theorem dX4_init_15 : decode cX4_init 15 = .ok (.aload_n 0, 1) := by decide +kernel
theorem dX4_init_16 : decode cX4_init 16 = .ok (.iconst 3, 1) := by decide +kernel
theorem dX4_init_17 : decode cX4_init 17 = .ok (.anewarray 9, 3) := by decide +kernel
theorem dX4_init_20 : decode cX4_init 20 = .ok (.putfield 16, 3) := by decide +kernel
theorem dX4_init_23 : decode cX4_init 23 = .ok (.aload_n 0, 1) := by decide +kernel
theorem dX4_init_24 : decode cX4_init 24 = .ok (.iconst 3, 1) := by decide +kernel
theorem dX4_init_25 : decode cX4_init 25 = .ok (.newarray .boolean, 2) := by decide +kernel
theorem dX4_init_27 : decode cX4_init 27 = .ok (.putfield 20, 3) := by decide +kernel
theorem dX4_init_30 : decode cX4_init 30 = .ok (.aload_n 0, 1) := by decide +kernel
theorem dX4_init_31 : decode cX4_init 31 = .ok (.new 24, 3) := by decide +kernel
theorem dX4_init_34 : decode cX4_init 34 = .ok (.dup, 1) := by decide +kernel
theorem dX4_init_35 : decode cX4_init 35 = .ok (.invokespecial 26, 3) := by decide +kernel
theorem dX4_init_38 : decode cX4_init 38 = .ok (.putfield 27, 3) := by decide +kernel
theorem dX4_init_41 : decode cX4_init 41 = .ok (.aload_n 0, 1) := by decide +kernel
theorem dX4_init_42 : decode cX4_init 42 = .ok (.new 31, 3) := by decide +kernel
theorem dX4_init_45 : decode cX4_init 45 = .ok (.dup, 1) := by decide +kernel
theorem dX4_init_46 : decode cX4_init 46 = .ok (.invokespecial 33, 3) := by decide +kernel
theorem dX4_init_49 : decode cX4_init 49 = .ok (.putfield 34, 3) := by decide +kernel
theorem dX4_init_52 : decode cX4_init 52 = .ok (.aload_n 0, 1) := by decide +kernel
theorem dX4_init_53 : decode cX4_init 53 = .ok (.new 38, 3) := by decide +kernel
theorem dX4_init_56 : decode cX4_init 56 = .ok (.dup, 1) := by decide +kernel
theorem dX4_init_57 : decode cX4_init 57 = .ok (.invokespecial 40, 3) := by decide +kernel
theorem dX4_init_60 : decode cX4_init 60 = .ok (.putfield 41, 3) := by decide +kernel
theorem dX4_init_63 : decode cX4_init 63 = .ok (.aload_n 0, 1) := by decide +kernel
theorem dX4_init_64 : decode cX4_init 64 = .ok (.new 38, 3) := by decide +kernel
theorem dX4_init_67 : decode cX4_init 67 = .ok (.dup, 1) := by decide +kernel
theorem dX4_init_68 : decode cX4_init 68 = .ok (.invokespecial 40, 3) := by decide +kernel
theorem dX4_init_71 : decode cX4_init 71 = .ok (.putfield 45, 3) := by decide +kernel
theorem dX4_init_74 : decode cX4_init 74 = .ok (.aload_n 0, 1) := by decide +kernel
theorem dX4_init_75 : decode cX4_init 75 = .ok (.new 38, 3) := by decide +kernel
theorem dX4_init_78 : decode cX4_init 78 = .ok (.dup, 1) := by decide +kernel
theorem dX4_init_79 : decode cX4_init 79 = .ok (.invokespecial 40, 3) := by decide +kernel
theorem dX4_init_82 : decode cX4_init 82 = .ok (.putfield 48, 3) := by decide +kernel
theorem dX4_init_85 : decode cX4_init 85 = .ok (.iconst 0, 1) := by decide +kernel
theorem dX4_init_86 : decode cX4_init 86 = .ok (.istore_n 1, 1) := by decide +kernel
theorem dX4_init_87 : decode cX4_init 87 = .ok (.iload_n 1, 1) := by decide +kernel
theorem dX4_init_88 : decode cX4_init 88 = .ok (.iconst 3, 1) := by decide +kernel
theorem dX4_init_89 : decode cX4_init 89 = .ok (.if_icmp .ge 22, 3) := by decide +kernel
theorem dX4_init_92 : decode cX4_init 92 = .ok (.aload_n 0, 1) := by decide +kernel
theorem dX4_init_93 : decode cX4_init 93 = .ok (.getfield 16, 3) := by decide +kernel
theorem dX4_init_96 : decode cX4_init 96 = .ok (.iload_n 1, 1) := by decide +kernel
theorem dX4_init_97 : decode cX4_init 97 = .ok (.new 9, 3) := by decide +kernel
theorem dX4_init_100 : decode cX4_init 100 = .ok (.dup, 1) := by decide +kernel
theorem dX4_init_101 : decode cX4_init 101 = .ok (.invokespecial 11, 3) := by decide +kernel
theorem dX4_init_104 : decode cX4_init 104 = .ok (.aastore, 1) := by decide +kernel
theorem dX4_init_105 : decode cX4_init 105 = .ok (.iinc 1 1, 3) := by decide +kernel
theorem dX4_init_108 : decode cX4_init 108 = .ok (.goto (-21), 3) := by decide +kernel
theorem dX4_init_111 : decode cX4_init 111 = .ok (.return_, 1) := by decide +kernel
theorem dX4_posts_0 : decode cX4_posts 0 = .ok (.iload_n 1, 1) := by decide +kernel
theorem dX4_posts_1 : decode cX4_posts 1 = .ok (.iconst 2, 1) := by decide +kernel
theorem dX4_posts_2 : decode cX4_posts 2 = .ok (.iconst 5, 1) := by decide +kernel
theorem dX4_posts_3 : decode cX4_posts 3 = .ok (.invokestatic 51, 3) := by decide +kernel
theorem dX4_posts_6 : decode cX4_posts 6 = .ok (.ifCond .ne 5, 3) := by decide +kernel
theorem dX4_posts_9 : decode cX4_posts 9 = .ok (.iconst 0, 1) := by decide +kernel
theorem dX4_posts_10 : decode cX4_posts 10 = .ok (.ireturn, 1) := by decide +kernel
theorem dX4_posts_11 : decode cX4_posts 11 = .ok (.aload_n 0, 1) := by decide +kernel
theorem dX4_posts_12 : decode cX4_posts 12 = .ok (.getfield 12, 3) := by decide +kernel
theorem dX4_posts_15 : decode cX4_posts 15 = .ok (.iload_n 1, 1) := by decide +kernel
theorem dX4_posts_16 : decode cX4_posts 16 = .ok (.putfield 55, 3) := by decide +kernel
theorem dX4_posts_19 : decode cX4_posts 19 = .ok (.aload_n 0, 1) := by decide +kernel
theorem dX4_posts_20 : decode cX4_posts 20 = .ok (.getfield 12, 3) := by decide +kernel
theorem dX4_posts_23 : decode cX4_posts 23 = .ok (.iconst 0, 1) := by decide +kernel
theorem dX4_posts_24 : decode cX4_posts 24 = .ok (.putfield 59, 3) := by decide +kernel
theorem dX4_posts_27 : decode cX4_posts 27 = .ok (.aload_n 0, 1) := by decide +kernel
theorem dX4_posts_28 : decode cX4_posts 28 = .ok (.getfield 12, 3) := by decide +kernel
theorem dX4_posts_31 : decode cX4_posts 31 = .ok (.invokevirtual 62, 3) := by decide +kernel
theorem dX4_posts_34 : decode cX4_posts 34 = .ok (.iconst 1, 1) := by decide +kernel
theorem dX4_posts_35 : decode cX4_posts 35 = .ok (.ireturn, 1) := by decide +kernel
theorem dX4_lane_0 : decode cX4_lane 0 = .ok (.aload_n 0, 1) := by decide +kernel
theorem dX4_lane_1 : decode cX4_lane 1 = .ok (.getfield 12, 3) := by decide +kernel
theorem dX4_lane_4 : decode cX4_lane 4 = .ok (.getfield 59, 3) := by decide +kernel
theorem dX4_lane_7 : decode cX4_lane 7 = .ok (.bipush 10, 2) := by decide +kernel
theorem dX4_lane_9 : decode cX4_lane 9 = .ok (.if_icmp .ge 15, 3) := by decide +kernel
theorem dX4_lane_12 : decode cX4_lane 12 = .ok (.aload_n 0, 1) := by decide +kernel
theorem dX4_lane_13 : decode cX4_lane 13 = .ok (.getfield 12, 3) := by decide +kernel
theorem dX4_lane_16 : decode cX4_lane 16 = .ok (.iload_n 1, 1) := by decide +kernel
theorem dX4_lane_17 : decode cX4_lane 17 = .ok (.iload_n 2, 1) := by decide +kernel
theorem dX4_lane_18 : decode cX4_lane 18 = .ok (.invokevirtual 65, 3) := by decide +kernel
theorem dX4_lane_21 : decode cX4_lane 21 = .ok (.ifCond .ne 5, 3) := by decide +kernel
theorem dX4_lane_24 : decode cX4_lane 24 = .ok (.iconst (-1), 1) := by decide +kernel
theorem dX4_lane_25 : decode cX4_lane 25 = .ok (.ireturn, 1) := by decide +kernel
theorem dX4_lane_26 : decode cX4_lane 26 = .ok (.iload_n 3, 1) := by decide +kernel
theorem dX4_lane_27 : decode cX4_lane 27 = .ok (.invokestatic 69, 3) := by decide +kernel
theorem dX4_lane_30 : decode cX4_lane 30 = .ok (.ifCond .eq 13, 3) := by decide +kernel
theorem dX4_lane_33 : decode cX4_lane 33 = .ok (.iload 4, 2) := by decide +kernel
theorem dX4_lane_35 : decode cX4_lane 35 = .ok (.iload 5, 2) := by decide +kernel
theorem dX4_lane_37 : decode cX4_lane 37 = .ok (.invokestatic 73, 3) := by decide +kernel
theorem dX4_lane_40 : decode cX4_lane 40 = .ok (.ifCond .ne 5, 3) := by decide +kernel
theorem dX4_lane_43 : decode cX4_lane 43 = .ok (.iconst (-1), 1) := by decide +kernel
theorem dX4_lane_44 : decode cX4_lane 44 = .ok (.ireturn, 1) := by decide +kernel
theorem dX4_lane_45 : decode cX4_lane 45 = .ok (.aload_n 0, 1) := by decide +kernel
theorem dX4_lane_46 : decode cX4_lane 46 = .ok (.getfield 12, 3) := by decide +kernel
theorem dX4_lane_49 : decode cX4_lane 49 = .ok (.getfield 59, 3) := by decide +kernel
theorem dX4_lane_52 : decode cX4_lane 52 = .ok (.istore 6, 2) := by decide +kernel
theorem dX4_lane_54 : decode cX4_lane 54 = .ok (.aload_n 0, 1) := by decide +kernel
theorem dX4_lane_55 : decode cX4_lane 55 = .ok (.getfield 12, 3) := by decide +kernel
theorem dX4_lane_58 : decode cX4_lane 58 = .ok (.getfield 76, 3) := by decide +kernel
theorem dX4_lane_61 : decode cX4_lane 61 = .ok (.iload 6, 2) := by decide +kernel
theorem dX4_lane_63 : decode cX4_lane 63 = .ok (.aaload, 1) := by decide +kernel
theorem dX4_lane_64 : decode cX4_lane 64 = .ok (.astore 7, 2) := by decide +kernel
theorem dX4_lane_66 : decode cX4_lane 66 = .ok (.aload 7, 2) := by decide +kernel
theorem dX4_lane_68 : decode cX4_lane 68 = .ok (.iconst 0, 1) := by decide +kernel
theorem dX4_lane_69 : decode cX4_lane 69 = .ok (.iload_n 1, 1) := by decide +kernel
theorem dX4_lane_70 : decode cX4_lane 70 = .ok (.iastore, 1) := by decide +kernel
theorem dX4_lane_71 : decode cX4_lane 71 = .ok (.aload 7, 2) := by decide +kernel
theorem dX4_lane_73 : decode cX4_lane 73 = .ok (.iconst 1, 1) := by decide +kernel
theorem dX4_lane_74 : decode cX4_lane 74 = .ok (.iload_n 2, 1) := by decide +kernel
theorem dX4_lane_75 : decode cX4_lane 75 = .ok (.iastore, 1) := by decide +kernel
theorem dX4_lane_76 : decode cX4_lane 76 = .ok (.aload 7, 2) := by decide +kernel
theorem dX4_lane_78 : decode cX4_lane 78 = .ok (.iconst 2, 1) := by decide +kernel
theorem dX4_lane_79 : decode cX4_lane 79 = .ok (.iload_n 3, 1) := by decide +kernel
theorem dX4_lane_80 : decode cX4_lane 80 = .ok (.iastore, 1) := by decide +kernel
theorem dX4_lane_81 : decode cX4_lane 81 = .ok (.aload 7, 2) := by decide +kernel
theorem dX4_lane_83 : decode cX4_lane 83 = .ok (.iconst 3, 1) := by decide +kernel
theorem dX4_lane_84 : decode cX4_lane 84 = .ok (.iload 4, 2) := by decide +kernel
theorem dX4_lane_86 : decode cX4_lane 86 = .ok (.iastore, 1) := by decide +kernel
theorem dX4_lane_87 : decode cX4_lane 87 = .ok (.aload 7, 2) := by decide +kernel
theorem dX4_lane_89 : decode cX4_lane 89 = .ok (.iconst 4, 1) := by decide +kernel
theorem dX4_lane_90 : decode cX4_lane 90 = .ok (.iload 5, 2) := by decide +kernel
theorem dX4_lane_92 : decode cX4_lane 92 = .ok (.iastore, 1) := by decide +kernel
theorem dX4_lane_93 : decode cX4_lane 93 = .ok (.aload 7, 2) := by decide +kernel
theorem dX4_lane_95 : decode cX4_lane 95 = .ok (.iconst 5, 1) := by decide +kernel
theorem dX4_lane_96 : decode cX4_lane 96 = .ok (.iconst 0, 1) := by decide +kernel
theorem dX4_lane_97 : decode cX4_lane 97 = .ok (.iastore, 1) := by decide +kernel
theorem dX4_lane_98 : decode cX4_lane 98 = .ok (.aload 7, 2) := by decide +kernel
theorem dX4_lane_100 : decode cX4_lane 100 = .ok (.bipush 6, 2) := by decide +kernel
theorem dX4_lane_102 : decode cX4_lane 102 = .ok (.iconst 0, 1) := by decide +kernel
theorem dX4_lane_103 : decode cX4_lane 103 = .ok (.iastore, 1) := by decide +kernel
theorem dX4_lane_104 : decode cX4_lane 104 = .ok (.aload 7, 2) := by decide +kernel
theorem dX4_lane_106 : decode cX4_lane 106 = .ok (.bipush 7, 2) := by decide +kernel
theorem dX4_lane_108 : decode cX4_lane 108 = .ok (.iconst 1, 1) := by decide +kernel
theorem dX4_lane_109 : decode cX4_lane 109 = .ok (.iastore, 1) := by decide +kernel
theorem dX4_lane_110 : decode cX4_lane 110 = .ok (.aload_n 0, 1) := by decide +kernel
theorem dX4_lane_111 : decode cX4_lane 111 = .ok (.getfield 12, 3) := by decide +kernel
theorem dX4_lane_114 : decode cX4_lane 114 = .ok (.iload 6, 2) := by decide +kernel
theorem dX4_lane_116 : decode cX4_lane 116 = .ok (.iconst 1, 1) := by decide +kernel
theorem dX4_lane_117 : decode cX4_lane 117 = .ok (.iadd, 1) := by decide +kernel
theorem dX4_lane_118 : decode cX4_lane 118 = .ok (.putfield 59, 3) := by decide +kernel
theorem dX4_lane_121 : decode cX4_lane 121 = .ok (.iload 6, 2) := by decide +kernel
theorem dX4_lane_123 : decode cX4_lane 123 = .ok (.ireturn, 1) := by decide +kernel
theorem dX4_room_0 : decode cX4_room 0 = .ok (.aload_n 0, 1) := by decide +kernel
theorem dX4_room_1 : decode cX4_room 1 = .ok (.getfield 12, 3) := by decide +kernel
theorem dX4_room_4 : decode cX4_room 4 = .ok (.iload_n 1, 1) := by decide +kernel
theorem dX4_room_5 : decode cX4_room 5 = .ok (.invokevirtual 80, 3) := by decide +kernel
theorem dX4_room_8 : decode cX4_room 8 = .ok (.ifCond .eq 10, 3) := by decide +kernel
theorem dX4_room_11 : decode cX4_room 11 = .ok (.iload_n 2, 1) := by decide +kernel
theorem dX4_room_12 : decode cX4_room 12 = .ok (.invokestatic 69, 3) := by decide +kernel
theorem dX4_room_15 : decode cX4_room 15 = .ok (.ifCond .ne 5, 3) := by decide +kernel
theorem dX4_room_18 : decode cX4_room 18 = .ok (.iconst 0, 1) := by decide +kernel
theorem dX4_room_19 : decode cX4_room 19 = .ok (.ireturn, 1) := by decide +kernel
theorem dX4_room_20 : decode cX4_room 20 = .ok (.aload_n 0, 1) := by decide +kernel
theorem dX4_room_21 : decode cX4_room 21 = .ok (.getfield 12, 3) := by decide +kernel
theorem dX4_room_24 : decode cX4_room 24 = .ok (.getfield 76, 3) := by decide +kernel
theorem dX4_room_27 : decode cX4_room 27 = .ok (.iload_n 1, 1) := by decide +kernel
theorem dX4_room_28 : decode cX4_room 28 = .ok (.aaload, 1) := by decide +kernel
theorem dX4_room_29 : decode cX4_room 29 = .ok (.iconst 2, 1) := by decide +kernel
theorem dX4_room_30 : decode cX4_room 30 = .ok (.iload_n 2, 1) := by decide +kernel
theorem dX4_room_31 : decode cX4_room 31 = .ok (.iastore, 1) := by decide +kernel
theorem dX4_room_32 : decode cX4_room 32 = .ok (.iconst 1, 1) := by decide +kernel
theorem dX4_room_33 : decode cX4_room 33 = .ok (.ireturn, 1) := by decide +kernel
theorem dX4_share_0 : decode cX4_share 0 = .ok (.aload_n 0, 1) := by decide +kernel
theorem dX4_share_1 : decode cX4_share 1 = .ok (.getfield 12, 3) := by decide +kernel
theorem dX4_share_4 : decode cX4_share 4 = .ok (.iload_n 1, 1) := by decide +kernel
theorem dX4_share_5 : decode cX4_share 5 = .ok (.invokevirtual 80, 3) := by decide +kernel
theorem dX4_share_8 : decode cX4_share 8 = .ok (.ifCond .eq 22, 3) := by decide +kernel
theorem dX4_share_11 : decode cX4_share 11 = .ok (.iload_n 2, 1) := by decide +kernel
theorem dX4_share_12 : decode cX4_share 12 = .ok (.iload_n 3, 1) := by decide +kernel
theorem dX4_share_13 : decode cX4_share 13 = .ok (.invokestatic 73, 3) := by decide +kernel
theorem dX4_share_16 : decode cX4_share 16 = .ok (.ifCond .eq 14, 3) := by decide +kernel
theorem dX4_share_19 : decode cX4_share 19 = .ok (.iload 4, 2) := by decide +kernel
theorem dX4_share_21 : decode cX4_share 21 = .ok (.iconst 0, 1) := by decide +kernel
theorem dX4_share_22 : decode cX4_share 22 = .ok (.bipush 8, 2) := by decide +kernel
theorem dX4_share_24 : decode cX4_share 24 = .ok (.invokestatic 51, 3) := by decide +kernel
theorem dX4_share_27 : decode cX4_share 27 = .ok (.ifCond .ne 5, 3) := by decide +kernel
theorem dX4_share_30 : decode cX4_share 30 = .ok (.iconst 0, 1) := by decide +kernel
theorem dX4_share_31 : decode cX4_share 31 = .ok (.ireturn, 1) := by decide +kernel
theorem dX4_share_32 : decode cX4_share 32 = .ok (.aload_n 0, 1) := by decide +kernel
theorem dX4_share_33 : decode cX4_share 33 = .ok (.getfield 12, 3) := by decide +kernel
theorem dX4_share_36 : decode cX4_share 36 = .ok (.getfield 76, 3) := by decide +kernel
theorem dX4_share_39 : decode cX4_share 39 = .ok (.iload_n 1, 1) := by decide +kernel
theorem dX4_share_40 : decode cX4_share 40 = .ok (.aaload, 1) := by decide +kernel
theorem dX4_share_41 : decode cX4_share 41 = .ok (.iconst 3, 1) := by decide +kernel
theorem dX4_share_42 : decode cX4_share 42 = .ok (.iload_n 2, 1) := by decide +kernel
theorem dX4_share_43 : decode cX4_share 43 = .ok (.iastore, 1) := by decide +kernel
theorem dX4_share_44 : decode cX4_share 44 = .ok (.aload_n 0, 1) := by decide +kernel
theorem dX4_share_45 : decode cX4_share 45 = .ok (.getfield 12, 3) := by decide +kernel
theorem dX4_share_48 : decode cX4_share 48 = .ok (.getfield 76, 3) := by decide +kernel
theorem dX4_share_51 : decode cX4_share 51 = .ok (.iload_n 1, 1) := by decide +kernel
theorem dX4_share_52 : decode cX4_share 52 = .ok (.aaload, 1) := by decide +kernel
theorem dX4_share_53 : decode cX4_share 53 = .ok (.iconst 4, 1) := by decide +kernel
theorem dX4_share_54 : decode cX4_share 54 = .ok (.iload_n 3, 1) := by decide +kernel
theorem dX4_share_55 : decode cX4_share 55 = .ok (.iastore, 1) := by decide +kernel
theorem dX4_share_56 : decode cX4_share 56 = .ok (.aload_n 0, 1) := by decide +kernel
theorem dX4_share_57 : decode cX4_share 57 = .ok (.getfield 12, 3) := by decide +kernel
theorem dX4_share_60 : decode cX4_share 60 = .ok (.getfield 76, 3) := by decide +kernel
theorem dX4_share_63 : decode cX4_share 63 = .ok (.iload_n 1, 1) := by decide +kernel
theorem dX4_share_64 : decode cX4_share 64 = .ok (.aaload, 1) := by decide +kernel
theorem dX4_share_65 : decode cX4_share 65 = .ok (.iconst 5, 1) := by decide +kernel
theorem dX4_share_66 : decode cX4_share 66 = .ok (.iload 4, 2) := by decide +kernel
theorem dX4_share_68 : decode cX4_share 68 = .ok (.iastore, 1) := by decide +kernel
theorem dX4_share_69 : decode cX4_share 69 = .ok (.iconst 1, 1) := by decide +kernel
theorem dX4_share_70 : decode cX4_share 70 = .ok (.ireturn, 1) := by decide +kernel
theorem dX4_tell_0 : decode cX4_tell 0 = .ok (.aload_n 0, 1) := by decide +kernel
theorem dX4_tell_1 : decode cX4_tell 1 = .ok (.getfield 12, 3) := by decide +kernel
theorem dX4_tell_4 : decode cX4_tell 4 = .ok (.iload_n 1, 1) := by decide +kernel
theorem dX4_tell_5 : decode cX4_tell 5 = .ok (.invokevirtual 80, 3) := by decide +kernel
theorem dX4_tell_8 : decode cX4_tell 8 = .ok (.ifCond .eq 13, 3) := by decide +kernel
theorem dX4_tell_11 : decode cX4_tell 11 = .ok (.iload_n 2, 1) := by decide +kernel
theorem dX4_tell_12 : decode cX4_tell 12 = .ok (.iconst 0, 1) := by decide +kernel
theorem dX4_tell_13 : decode cX4_tell 13 = .ok (.bipush 7, 2) := by decide +kernel
theorem dX4_tell_15 : decode cX4_tell 15 = .ok (.invokestatic 51, 3) := by decide +kernel
theorem dX4_tell_18 : decode cX4_tell 18 = .ok (.ifCond .ne 5, 3) := by decide +kernel
theorem dX4_tell_21 : decode cX4_tell 21 = .ok (.iconst (-1), 1) := by decide +kernel
theorem dX4_tell_22 : decode cX4_tell 22 = .ok (.ireturn, 1) := by decide +kernel
theorem dX4_tell_23 : decode cX4_tell 23 = .ok (.aload_n 0, 1) := by decide +kernel
theorem dX4_tell_24 : decode cX4_tell 24 = .ok (.getfield 12, 3) := by decide +kernel
theorem dX4_tell_27 : decode cX4_tell 27 = .ok (.getfield 76, 3) := by decide +kernel
theorem dX4_tell_30 : decode cX4_tell 30 = .ok (.iload_n 1, 1) := by decide +kernel
theorem dX4_tell_31 : decode cX4_tell 31 = .ok (.aaload, 1) := by decide +kernel
theorem dX4_tell_32 : decode cX4_tell 32 = .ok (.iload_n 2, 1) := by decide +kernel
theorem dX4_tell_33 : decode cX4_tell 33 = .ok (.iaload, 1) := by decide +kernel
theorem dX4_tell_34 : decode cX4_tell 34 = .ok (.ireturn, 1) := by decide +kernel
theorem dX4_most_0 : decode cX4_most 0 = .ok (.iload_n 1, 1) := by decide +kernel
theorem dX4_most_1 : decode cX4_most 1 = .ok (.iconst 0, 1) := by decide +kernel
theorem dX4_most_2 : decode cX4_most 2 = .ok (.iconst 2, 1) := by decide +kernel
theorem dX4_most_3 : decode cX4_most 3 = .ok (.invokestatic 51, 3) := by decide +kernel
theorem dX4_most_6 : decode cX4_most 6 = .ok (.ifCond .ne 7, 3) := by decide +kernel
theorem dX4_most_9 : decode cX4_most 9 = .ok (.ldc2_w 83, 3) := by decide +kernel
theorem dX4_most_12 : decode cX4_most 12 = .ok (.lreturn, 1) := by decide +kernel
theorem dX4_most_13 : decode cX4_most 13 = .ok (.aload_n 0, 1) := by decide +kernel
theorem dX4_most_14 : decode cX4_most 14 = .ok (.getfield 34, 3) := by decide +kernel
theorem dX4_most_17 : decode cX4_most 17 = .ok (.aload_n 0, 1) := by decide +kernel
theorem dX4_most_18 : decode cX4_most 18 = .ok (.getfield 12, 3) := by decide +kernel
theorem dX4_most_21 : decode cX4_most 21 = .ok (.iload_n 1, 1) := by decide +kernel
theorem dX4_most_22 : decode cX4_most 22 = .ok (.invokevirtual 85, 3) := by decide +kernel
theorem dX4_most_25 : decode cX4_most 25 = .ok (.aload_n 0, 1) := by decide +kernel
theorem dX4_most_26 : decode cX4_most 26 = .ok (.getfield 34, 3) := by decide +kernel
theorem dX4_most_29 : decode cX4_most 29 = .ok (.aload_n 0, 1) := by decide +kernel
theorem dX4_most_30 : decode cX4_most 30 = .ok (.getfield 41, 3) := by decide +kernel
theorem dX4_most_33 : decode cX4_most 33 = .ok (.invokevirtual 89, 3) := by decide +kernel
theorem dX4_most_36 : decode cX4_most 36 = .ok (.aload_n 0, 1) := by decide +kernel
theorem dX4_most_37 : decode cX4_most 37 = .ok (.getfield 41, 3) := by decide +kernel
theorem dX4_most_40 : decode cX4_most 40 = .ok (.iload_n 2, 1) := by decide +kernel
theorem dX4_most_41 : decode cX4_most 41 = .ok (.invokevirtual 93, 3) := by decide +kernel
theorem dX4_most_44 : decode cX4_most 44 = .ok (.lreturn, 1) := by decide +kernel
theorem dX4_more_0 : decode cX4_more 0 = .ok (.aload_n 0, 1) := by decide +kernel
theorem dX4_more_1 : decode cX4_more 1 = .ok (.getfield 12, 3) := by decide +kernel
theorem dX4_more_4 : decode cX4_more 4 = .ok (.iload_n 1, 1) := by decide +kernel
theorem dX4_more_5 : decode cX4_more 5 = .ok (.invokevirtual 80, 3) := by decide +kernel
theorem dX4_more_8 : decode cX4_more 8 = .ok (.ifCond .eq 10, 3) := by decide +kernel
theorem dX4_more_11 : decode cX4_more 11 = .ok (.iload_n 2, 1) := by decide +kernel
theorem dX4_more_12 : decode cX4_more 12 = .ok (.invokestatic 69, 3) := by decide +kernel
theorem dX4_more_15 : decode cX4_more 15 = .ok (.ifCond .ne 5, 3) := by decide +kernel
theorem dX4_more_18 : decode cX4_more 18 = .ok (.lconst 0, 1) := by decide +kernel
theorem dX4_more_19 : decode cX4_more 19 = .ok (.lreturn, 1) := by decide +kernel
theorem dX4_more_20 : decode cX4_more 20 = .ok (.aload_n 0, 1) := by decide +kernel
theorem dX4_more_21 : decode cX4_more 21 = .ok (.getfield 34, 3) := by decide +kernel
theorem dX4_more_24 : decode cX4_more 24 = .ok (.aload_n 0, 1) := by decide +kernel
theorem dX4_more_25 : decode cX4_more 25 = .ok (.getfield 12, 3) := by decide +kernel
theorem dX4_more_28 : decode cX4_more 28 = .ok (.iconst 0, 1) := by decide +kernel
theorem dX4_more_29 : decode cX4_more 29 = .ok (.invokevirtual 85, 3) := by decide +kernel
theorem dX4_more_32 : decode cX4_more 32 = .ok (.aload_n 0, 1) := by decide +kernel
theorem dX4_more_33 : decode cX4_more 33 = .ok (.getfield 34, 3) := by decide +kernel
theorem dX4_more_36 : decode cX4_more 36 = .ok (.aload_n 0, 1) := by decide +kernel
theorem dX4_more_37 : decode cX4_more 37 = .ok (.getfield 45, 3) := by decide +kernel
theorem dX4_more_40 : decode cX4_more 40 = .ok (.invokevirtual 89, 3) := by decide +kernel
theorem dX4_more_43 : decode cX4_more 43 = .ok (.aload_n 0, 1) := by decide +kernel
theorem dX4_more_44 : decode cX4_more 44 = .ok (.getfield 34, 3) := by decide +kernel
theorem dX4_more_47 : decode cX4_more 47 = .ok (.iload_n 1, 1) := by decide +kernel
theorem dX4_more_48 : decode cX4_more 48 = .ok (.iload_n 2, 1) := by decide +kernel
theorem dX4_more_49 : decode cX4_more 49 = .ok (.invokevirtual 97, 3) := by decide +kernel
theorem dX4_more_52 : decode cX4_more 52 = .ok (.aload_n 0, 1) := by decide +kernel
theorem dX4_more_53 : decode cX4_more 53 = .ok (.getfield 34, 3) := by decide +kernel
theorem dX4_more_56 : decode cX4_more 56 = .ok (.aload_n 0, 1) := by decide +kernel
theorem dX4_more_57 : decode cX4_more 57 = .ok (.getfield 48, 3) := by decide +kernel
theorem dX4_more_60 : decode cX4_more 60 = .ok (.invokevirtual 89, 3) := by decide +kernel
theorem dX4_more_63 : decode cX4_more 63 = .ok (.aload_n 0, 1) := by decide +kernel
theorem dX4_more_64 : decode cX4_more 64 = .ok (.getfield 41, 3) := by decide +kernel
theorem dX4_more_67 : decode cX4_more 67 = .ok (.aload_n 0, 1) := by decide +kernel
theorem dX4_more_68 : decode cX4_more 68 = .ok (.getfield 48, 3) := by decide +kernel
theorem dX4_more_71 : decode cX4_more 71 = .ok (.aload_n 0, 1) := by decide +kernel
theorem dX4_more_72 : decode cX4_more 72 = .ok (.getfield 45, 3) := by decide +kernel
theorem dX4_more_75 : decode cX4_more 75 = .ok (.invokevirtual 101, 3) := by decide +kernel
theorem dX4_more_78 : decode cX4_more 78 = .ok (.aload_n 0, 1) := by decide +kernel
theorem dX4_more_79 : decode cX4_more 79 = .ok (.getfield 41, 3) := by decide +kernel
theorem dX4_more_82 : decode cX4_more 82 = .ok (.iload_n 3, 1) := by decide +kernel
theorem dX4_more_83 : decode cX4_more 83 = .ok (.invokevirtual 93, 3) := by decide +kernel
theorem dX4_more_86 : decode cX4_more 86 = .ok (.lreturn, 1) := by decide +kernel
theorem dX4_way_0 : decode cX4_way 0 = .ok (.aload_n 0, 1) := by decide +kernel
theorem dX4_way_1 : decode cX4_way 1 = .ok (.getfield 12, 3) := by decide +kernel
theorem dX4_way_4 : decode cX4_way 4 = .ok (.invokevirtual 62, 3) := by decide +kernel
theorem dX4_way_7 : decode cX4_way 7 = .ok (.aload_n 0, 1) := by decide +kernel
theorem dX4_way_8 : decode cX4_way 8 = .ok (.getfield 12, 3) := by decide +kernel
theorem dX4_way_11 : decode cX4_way 11 = .ok (.iload_n 1, 1) := by decide +kernel
theorem dX4_way_12 : decode cX4_way 12 = .ok (.invokevirtual 105, 3) := by decide +kernel
theorem dX4_way_15 : decode cX4_way 15 = .ok (.ifCond .eq 19, 3) := by decide +kernel
theorem dX4_way_18 : decode cX4_way 18 = .ok (.aload_n 0, 1) := by decide +kernel
theorem dX4_way_19 : decode cX4_way 19 = .ok (.getfield 12, 3) := by decide +kernel
theorem dX4_way_22 : decode cX4_way 22 = .ok (.iload_n 2, 1) := by decide +kernel
theorem dX4_way_23 : decode cX4_way 23 = .ok (.invokevirtual 105, 3) := by decide +kernel
theorem dX4_way_26 : decode cX4_way 26 = .ok (.ifCond .eq 8, 3) := by decide +kernel
theorem dX4_way_29 : decode cX4_way 29 = .ok (.iload_n 1, 1) := by decide +kernel
theorem dX4_way_30 : decode cX4_way 30 = .ok (.iload_n 2, 1) := by decide +kernel
theorem dX4_way_31 : decode cX4_way 31 = .ok (.if_icmp .ne 5, 3) := by decide +kernel
theorem dX4_way_34 : decode cX4_way 34 = .ok (.iconst (-1), 1) := by decide +kernel
theorem dX4_way_35 : decode cX4_way 35 = .ok (.ireturn, 1) := by decide +kernel
theorem dX4_way_36 : decode cX4_way 36 = .ok (.aload_n 0, 1) := by decide +kernel
theorem dX4_way_37 : decode cX4_way 37 = .ok (.getfield 27, 3) := by decide +kernel
theorem dX4_way_40 : decode cX4_way 40 = .ok (.aload_n 0, 1) := by decide +kernel
theorem dX4_way_41 : decode cX4_way 41 = .ok (.getfield 12, 3) := by decide +kernel
theorem dX4_way_44 : decode cX4_way 44 = .ok (.iload_n 1, 1) := by decide +kernel
theorem dX4_way_45 : decode cX4_way 45 = .ok (.iload_n 2, 1) := by decide +kernel
theorem dX4_way_46 : decode cX4_way 46 = .ok (.invokevirtual 108, 3) := by decide +kernel
theorem dX4_way_49 : decode cX4_way 49 = .ok (.aload_n 0, 1) := by decide +kernel
theorem dX4_way_50 : decode cX4_way 50 = .ok (.invokevirtual 112, 3) := by decide +kernel
theorem dX4_way_53 : decode cX4_way 53 = .ok (.ireturn, 1) := by decide +kernel
theorem dX4_ring_0 : decode cX4_ring 0 = .ok (.aload_n 0, 1) := by decide +kernel
theorem dX4_ring_1 : decode cX4_ring 1 = .ok (.getfield 12, 3) := by decide +kernel
theorem dX4_ring_4 : decode cX4_ring 4 = .ok (.invokevirtual 62, 3) := by decide +kernel
theorem dX4_ring_7 : decode cX4_ring 7 = .ok (.aload_n 0, 1) := by decide +kernel
theorem dX4_ring_8 : decode cX4_ring 8 = .ok (.getfield 27, 3) := by decide +kernel
theorem dX4_ring_11 : decode cX4_ring 11 = .ok (.aload_n 0, 1) := by decide +kernel
theorem dX4_ring_12 : decode cX4_ring 12 = .ok (.getfield 12, 3) := by decide +kernel
theorem dX4_ring_15 : decode cX4_ring 15 = .ok (.invokevirtual 116, 3) := by decide +kernel
theorem dX4_ring_18 : decode cX4_ring 18 = .ok (.aload_n 0, 1) := by decide +kernel
theorem dX4_ring_19 : decode cX4_ring 19 = .ok (.invokevirtual 112, 3) := by decide +kernel
theorem dX4_ring_22 : decode cX4_ring 22 = .ok (.ireturn, 1) := by decide +kernel
theorem dX4_row_0 : decode cX4_row 0 = .ok (.iload_n 1, 1) := by decide +kernel
theorem dX4_row_1 : decode cX4_row 1 = .ok (.iconst 0, 1) := by decide +kernel
theorem dX4_row_2 : decode cX4_row 2 = .ok (.aload_n 0, 1) := by decide +kernel
theorem dX4_row_3 : decode cX4_row 3 = .ok (.getfield 12, 3) := by decide +kernel
theorem dX4_row_6 : decode cX4_row 6 = .ok (.getfield 120, 3) := by decide +kernel
theorem dX4_row_9 : decode cX4_row 9 = .ok (.iconst 1, 1) := by decide +kernel
theorem dX4_row_10 : decode cX4_row 10 = .ok (.isub, 1) := by decide +kernel
theorem dX4_row_11 : decode cX4_row 11 = .ok (.invokestatic 51, 3) := by decide +kernel
theorem dX4_row_14 : decode cX4_row 14 = .ok (.ifCond .eq 15, 3) := by decide +kernel
theorem dX4_row_17 : decode cX4_row 17 = .ok (.aload_n 0, 1) := by decide +kernel
theorem dX4_row_18 : decode cX4_row 18 = .ok (.getfield 12, 3) := by decide +kernel
theorem dX4_row_21 : decode cX4_row 21 = .ok (.getfield 123, 3) := by decide +kernel
theorem dX4_row_24 : decode cX4_row 24 = .ok (.iload_n 1, 1) := by decide +kernel
theorem dX4_row_25 : decode cX4_row 25 = .ok (.iaload, 1) := by decide +kernel
theorem dX4_row_26 : decode cX4_row 26 = .ok (.goto 4, 3) := by decide +kernel
theorem dX4_row_29 : decode cX4_row 29 = .ok (.iconst (-1), 1) := by decide +kernel
theorem dX4_row_30 : decode cX4_row 30 = .ok (.ireturn, 1) := by decide +kernel
theorem dX4_gain_0 : decode cX4_gain 0 = .ok (.aload_n 0, 1) := by decide +kernel
theorem dX4_gain_1 : decode cX4_gain 1 = .ok (.getfield 12, 3) := by decide +kernel
theorem dX4_gain_4 : decode cX4_gain 4 = .ok (.getfield 120, 3) := by decide +kernel
theorem dX4_gain_7 : decode cX4_gain 7 = .ok (.ifCond .ne 5, 3) := by decide +kernel
theorem dX4_gain_10 : decode cX4_gain 10 = .ok (.lconst 0, 1) := by decide +kernel
theorem dX4_gain_11 : decode cX4_gain 11 = .ok (.lreturn, 1) := by decide +kernel
theorem dX4_gain_12 : decode cX4_gain 12 = .ok (.aload_n 0, 1) := by decide +kernel
theorem dX4_gain_13 : decode cX4_gain 13 = .ok (.getfield 12, 3) := by decide +kernel
theorem dX4_gain_16 : decode cX4_gain 16 = .ok (.aload_n 0, 1) := by decide +kernel
theorem dX4_gain_17 : decode cX4_gain 17 = .ok (.getfield 12, 3) := by decide +kernel
theorem dX4_gain_20 : decode cX4_gain 20 = .ok (.getfield 123, 3) := by decide +kernel
theorem dX4_gain_23 : decode cX4_gain 23 = .ok (.aload_n 0, 1) := by decide +kernel
theorem dX4_gain_24 : decode cX4_gain 24 = .ok (.getfield 12, 3) := by decide +kernel
theorem dX4_gain_27 : decode cX4_gain 27 = .ok (.getfield 120, 3) := by decide +kernel
theorem dX4_gain_30 : decode cX4_gain 30 = .ok (.aload_n 0, 1) := by decide +kernel
theorem dX4_gain_31 : decode cX4_gain 31 = .ok (.getfield 41, 3) := by decide +kernel
theorem dX4_gain_34 : decode cX4_gain 34 = .ok (.invokevirtual 127, 3) := by decide +kernel
theorem dX4_gain_37 : decode cX4_gain 37 = .ok (.aload_n 0, 1) := by decide +kernel
theorem dX4_gain_38 : decode cX4_gain 38 = .ok (.getfield 41, 3) := by decide +kernel
theorem dX4_gain_41 : decode cX4_gain 41 = .ok (.iload_n 1, 1) := by decide +kernel
theorem dX4_gain_42 : decode cX4_gain 42 = .ok (.invokevirtual 93, 3) := by decide +kernel
theorem dX4_gain_45 : decode cX4_gain 45 = .ok (.lreturn, 1) := by decide +kernel
theorem dX4_send_0 : decode cX4_send 0 = .ok (.aload_n 0, 1) := by decide +kernel
theorem dX4_send_1 : decode cX4_send 1 = .ok (.getfield 12, 3) := by decide +kernel
theorem dX4_send_4 : decode cX4_send 4 = .ok (.iload_n 1, 1) := by decide +kernel
theorem dX4_send_5 : decode cX4_send 5 = .ok (.invokevirtual 80, 3) := by decide +kernel
theorem dX4_send_8 : decode cX4_send 8 = .ok (.ifCond .ne 5, 3) := by decide +kernel
theorem dX4_send_11 : decode cX4_send 11 = .ok (.iconst 0, 1) := by decide +kernel
theorem dX4_send_12 : decode cX4_send 12 = .ok (.ireturn, 1) := by decide +kernel
theorem dX4_send_13 : decode cX4_send 13 = .ok (.iload_n 2, 1) := by decide +kernel
theorem dX4_send_14 : decode cX4_send 14 = .ok (.iconst 0, 1) := by decide +kernel
theorem dX4_send_15 : decode cX4_send 15 = .ok (.sipush 1000, 3) := by decide +kernel
theorem dX4_send_18 : decode cX4_send 18 = .ok (.invokestatic 51, 3) := by decide +kernel
theorem dX4_send_21 : decode cX4_send 21 = .ok (.ifCond .eq 13, 3) := by decide +kernel
theorem dX4_send_24 : decode cX4_send 24 = .ok (.iload_n 3, 1) := by decide +kernel
theorem dX4_send_25 : decode cX4_send 25 = .ok (.iconst 1, 1) := by decide +kernel
theorem dX4_send_26 : decode cX4_send 26 = .ok (.bipush 9, 2) := by decide +kernel
theorem dX4_send_28 : decode cX4_send 28 = .ok (.invokestatic 51, 3) := by decide +kernel
theorem dX4_send_31 : decode cX4_send 31 = .ok (.ifCond .ne 5, 3) := by decide +kernel
theorem dX4_send_34 : decode cX4_send 34 = .ok (.iconst 0, 1) := by decide +kernel
theorem dX4_send_35 : decode cX4_send 35 = .ok (.ireturn, 1) := by decide +kernel
theorem dX4_send_36 : decode cX4_send 36 = .ok (.aload_n 0, 1) := by decide +kernel
theorem dX4_send_37 : decode cX4_send 37 = .ok (.getfield 41, 3) := by decide +kernel
theorem dX4_send_40 : decode cX4_send 40 = .ok (.iload_n 2, 1) := by decide +kernel
theorem dX4_send_41 : decode cX4_send 41 = .ok (.i2l, 1) := by decide +kernel
theorem dX4_send_42 : decode cX4_send 42 = .ok (.iload_n 3, 1) := by decide +kernel
theorem dX4_send_43 : decode cX4_send 43 = .ok (.i2l, 1) := by decide +kernel
theorem dX4_send_44 : decode cX4_send 44 = .ok (.invokevirtual 131, 3) := by decide +kernel
theorem dX4_send_47 : decode cX4_send 47 = .ok (.aload_n 0, 1) := by decide +kernel
theorem dX4_send_48 : decode cX4_send 48 = .ok (.getfield 12, 3) := by decide +kernel
theorem dX4_send_51 : decode cX4_send 51 = .ok (.getfield 76, 3) := by decide +kernel
theorem dX4_send_54 : decode cX4_send 54 = .ok (.iload_n 1, 1) := by decide +kernel
theorem dX4_send_55 : decode cX4_send 55 = .ok (.aaload, 1) := by decide +kernel
theorem dX4_send_56 : decode cX4_send 56 = .ok (.bipush 6, 2) := by decide +kernel
theorem dX4_send_58 : decode cX4_send 58 = .ok (.aload_n 0, 1) := by decide +kernel
theorem dX4_send_59 : decode cX4_send 59 = .ok (.getfield 41, 3) := by decide +kernel
theorem dX4_send_62 : decode cX4_send 62 = .ok (.iconst 0, 1) := by decide +kernel
theorem dX4_send_63 : decode cX4_send 63 = .ok (.invokevirtual 93, 3) := by decide +kernel
theorem dX4_send_66 : decode cX4_send 66 = .ok (.l2i, 1) := by decide +kernel
theorem dX4_send_67 : decode cX4_send 67 = .ok (.iastore, 1) := by decide +kernel
theorem dX4_send_68 : decode cX4_send 68 = .ok (.aload_n 0, 1) := by decide +kernel
theorem dX4_send_69 : decode cX4_send 69 = .ok (.getfield 12, 3) := by decide +kernel
theorem dX4_send_72 : decode cX4_send 72 = .ok (.getfield 76, 3) := by decide +kernel
theorem dX4_send_75 : decode cX4_send 75 = .ok (.iload_n 1, 1) := by decide +kernel
theorem dX4_send_76 : decode cX4_send 76 = .ok (.aaload, 1) := by decide +kernel
theorem dX4_send_77 : decode cX4_send 77 = .ok (.bipush 7, 2) := by decide +kernel
theorem dX4_send_79 : decode cX4_send 79 = .ok (.aload_n 0, 1) := by decide +kernel
theorem dX4_send_80 : decode cX4_send 80 = .ok (.getfield 41, 3) := by decide +kernel
theorem dX4_send_83 : decode cX4_send 83 = .ok (.iconst 1, 1) := by decide +kernel
theorem dX4_send_84 : decode cX4_send 84 = .ok (.invokevirtual 93, 3) := by decide +kernel
theorem dX4_send_87 : decode cX4_send 87 = .ok (.l2i, 1) := by decide +kernel
theorem dX4_send_88 : decode cX4_send 88 = .ok (.iastore, 1) := by decide +kernel
theorem dX4_send_89 : decode cX4_send 89 = .ok (.iconst 1, 1) := by decide +kernel
theorem dX4_send_90 : decode cX4_send 90 = .ok (.ireturn, 1) := by decide +kernel
theorem dX4_right_0 : decode cX4_right 0 = .ok (.iconst 0, 1) := by decide +kernel
theorem dX4_right_1 : decode cX4_right 1 = .ok (.istore_n 1, 1) := by decide +kernel
theorem dX4_right_2 : decode cX4_right 2 = .ok (.iload_n 1, 1) := by decide +kernel
theorem dX4_right_3 : decode cX4_right 3 = .ok (.aload_n 0, 1) := by decide +kernel
theorem dX4_right_4 : decode cX4_right 4 = .ok (.getfield 12, 3) := by decide +kernel
theorem dX4_right_7 : decode cX4_right 7 = .ok (.getfield 59, 3) := by decide +kernel
theorem dX4_right_10 : decode cX4_right 10 = .ok (.if_icmp .ge 36, 3) := by decide +kernel
theorem dX4_right_13 : decode cX4_right 13 = .ok (.aload_n 0, 1) := by decide +kernel
theorem dX4_right_14 : decode cX4_right 14 = .ok (.getfield 12, 3) := by decide +kernel
theorem dX4_right_17 : decode cX4_right 17 = .ok (.getfield 76, 3) := by decide +kernel
theorem dX4_right_20 : decode cX4_right 20 = .ok (.iload_n 1, 1) := by decide +kernel
theorem dX4_right_21 : decode cX4_right 21 = .ok (.aaload, 1) := by decide +kernel
theorem dX4_right_22 : decode cX4_right 22 = .ok (.astore_n 2, 1) := by decide +kernel
theorem dX4_right_23 : decode cX4_right 23 = .ok (.aload_n 2, 1) := by decide +kernel
theorem dX4_right_24 : decode cX4_right 24 = .ok (.bipush 6, 2) := by decide +kernel
theorem dX4_right_26 : decode cX4_right 26 = .ok (.iaload, 1) := by decide +kernel
theorem dX4_right_27 : decode cX4_right 27 = .ok (.aload_n 2, 1) := by decide +kernel
theorem dX4_right_28 : decode cX4_right 28 = .ok (.iconst 2, 1) := by decide +kernel
theorem dX4_right_29 : decode cX4_right 29 = .ok (.iaload, 1) := by decide +kernel
theorem dX4_right_30 : decode cX4_right 30 = .ok (.aload_n 2, 1) := by decide +kernel
theorem dX4_right_31 : decode cX4_right 31 = .ok (.bipush 7, 2) := by decide +kernel
theorem dX4_right_33 : decode cX4_right 33 = .ok (.iaload, 1) := by decide +kernel
theorem dX4_right_34 : decode cX4_right 34 = .ok (.imul, 1) := by decide +kernel
theorem dX4_right_35 : decode cX4_right 35 = .ok (.if_icmp .le 5, 3) := by decide +kernel
theorem dX4_right_38 : decode cX4_right 38 = .ok (.iconst 0, 1) := by decide +kernel
theorem dX4_right_39 : decode cX4_right 39 = .ok (.ireturn, 1) := by decide +kernel
theorem dX4_right_40 : decode cX4_right 40 = .ok (.iinc 1 1, 3) := by decide +kernel
theorem dX4_right_43 : decode cX4_right 43 = .ok (.goto (-41), 3) := by decide +kernel
theorem dX4_right_46 : decode cX4_right 46 = .ok (.iconst 1, 1) := by decide +kernel
theorem dX4_right_47 : decode cX4_right 47 = .ok (.istore_n 1, 1) := by decide +kernel
theorem dX4_right_48 : decode cX4_right 48 = .ok (.iload_n 1, 1) := by decide +kernel
theorem dX4_right_49 : decode cX4_right 49 = .ok (.aload_n 0, 1) := by decide +kernel
theorem dX4_right_50 : decode cX4_right 50 = .ok (.getfield 12, 3) := by decide +kernel
theorem dX4_right_53 : decode cX4_right 53 = .ok (.invokevirtual 135, 3) := by decide +kernel
theorem dX4_right_56 : decode cX4_right 56 = .ok (.if_icmp .ge 24, 3) := by decide +kernel
theorem dX4_right_59 : decode cX4_right 59 = .ok (.aload_n 0, 1) := by decide +kernel
theorem dX4_right_60 : decode cX4_right 60 = .ok (.getfield 12, 3) := by decide +kernel
theorem dX4_right_63 : decode cX4_right 63 = .ok (.iload_n 1, 1) := by decide +kernel
theorem dX4_right_64 : decode cX4_right 64 = .ok (.invokevirtual 138, 3) := by decide +kernel
theorem dX4_right_67 : decode cX4_right 67 = .ok (.lconst 0, 1) := by decide +kernel
theorem dX4_right_68 : decode cX4_right 68 = .ok (.lcmp, 1) := by decide +kernel
theorem dX4_right_69 : decode cX4_right 69 = .ok (.ifCond .ge 5, 3) := by decide +kernel
theorem dX4_right_72 : decode cX4_right 72 = .ok (.iconst 0, 1) := by decide +kernel
theorem dX4_right_73 : decode cX4_right 73 = .ok (.ireturn, 1) := by decide +kernel
theorem dX4_right_74 : decode cX4_right 74 = .ok (.iinc 1 1, 3) := by decide +kernel
theorem dX4_right_77 : decode cX4_right 77 = .ok (.goto (-29), 3) := by decide +kernel
theorem dX4_right_80 : decode cX4_right 80 = .ok (.iconst 1, 1) := by decide +kernel
theorem dX4_right_81 : decode cX4_right 81 = .ok (.ireturn, 1) := by decide +kernel
theorem dX4_left_0 : decode cX4_left 0 = .ok (.aload_n 0, 1) := by decide +kernel
theorem dX4_left_1 : decode cX4_left 1 = .ok (.getfield 12, 3) := by decide +kernel
theorem dX4_left_4 : decode cX4_left 4 = .ok (.iload_n 1, 1) := by decide +kernel
theorem dX4_left_5 : decode cX4_left 5 = .ok (.invokevirtual 105, 3) := by decide +kernel
theorem dX4_left_8 : decode cX4_left 8 = .ok (.ifCond .ne 5, 3) := by decide +kernel
theorem dX4_left_11 : decode cX4_left 11 = .ok (.lconst 0, 1) := by decide +kernel
theorem dX4_left_12 : decode cX4_left 12 = .ok (.lreturn, 1) := by decide +kernel
theorem dX4_left_13 : decode cX4_left 13 = .ok (.aload_n 0, 1) := by decide +kernel
theorem dX4_left_14 : decode cX4_left 14 = .ok (.getfield 12, 3) := by decide +kernel
theorem dX4_left_17 : decode cX4_left 17 = .ok (.iload_n 1, 1) := by decide +kernel
theorem dX4_left_18 : decode cX4_left 18 = .ok (.invokevirtual 138, 3) := by decide +kernel
theorem dX4_left_21 : decode cX4_left 21 = .ok (.lstore_n 3, 1) := by decide +kernel
theorem dX4_left_22 : decode cX4_left 22 = .ok (.aload_n 0, 1) := by decide +kernel
theorem dX4_left_23 : decode cX4_left 23 = .ok (.getfield 41, 3) := by decide +kernel
theorem dX4_left_26 : decode cX4_left 26 = .ok (.iload_n 1, 1) := by decide +kernel
theorem dX4_left_27 : decode cX4_left 27 = .ok (.ifCond .ne 8, 3) := by decide +kernel
theorem dX4_left_30 : decode cX4_left 30 = .ok (.lload_n 3, 1) := by decide +kernel
theorem dX4_left_31 : decode cX4_left 31 = .ok (.lneg, 1) := by decide +kernel
theorem dX4_left_32 : decode cX4_left 32 = .ok (.goto 4, 3) := by decide +kernel
theorem dX4_left_35 : decode cX4_left 35 = .ok (.lload_n 3, 1) := by decide +kernel
theorem dX4_left_36 : decode cX4_left 36 = .ok (.ldc2_w 142, 3) := by decide +kernel
theorem dX4_left_39 : decode cX4_left 39 = .ok (.invokevirtual 131, 3) := by decide +kernel
theorem dX4_left_42 : decode cX4_left 42 = .ok (.aload_n 0, 1) := by decide +kernel
theorem dX4_left_43 : decode cX4_left 43 = .ok (.getfield 41, 3) := by decide +kernel
theorem dX4_left_46 : decode cX4_left 46 = .ok (.iload_n 2, 1) := by decide +kernel
theorem dX4_left_47 : decode cX4_left 47 = .ok (.invokevirtual 93, 3) := by decide +kernel
theorem dX4_left_50 : decode cX4_left 50 = .ok (.lreturn, 1) := by decide +kernel
theorem dX4_count_0 : decode cX4_count 0 = .ok (.iload_n 1, 1) := by decide +kernel
theorem dX4_count_1 : decode cX4_count 1 = .ok (.tableswitch 97 0 4 #[35, 43, 51, 70, 89], 35) := by decide +kernel
theorem dX4_count_36 : decode cX4_count 36 = .ok (.aload_n 0, 1) := by decide +kernel
theorem dX4_count_37 : decode cX4_count 37 = .ok (.getfield 12, 3) := by decide +kernel
theorem dX4_count_40 : decode cX4_count 40 = .ok (.getfield 55, 3) := by decide +kernel
theorem dX4_count_43 : decode cX4_count 43 = .ok (.ireturn, 1) := by decide +kernel
theorem dX4_count_44 : decode cX4_count 44 = .ok (.aload_n 0, 1) := by decide +kernel
theorem dX4_count_45 : decode cX4_count 45 = .ok (.getfield 12, 3) := by decide +kernel
theorem dX4_count_48 : decode cX4_count 48 = .ok (.getfield 59, 3) := by decide +kernel
theorem dX4_count_51 : decode cX4_count 51 = .ok (.ireturn, 1) := by decide +kernel
theorem dX4_count_52 : decode cX4_count 52 = .ok (.aload_n 0, 1) := by decide +kernel
theorem dX4_count_53 : decode cX4_count 53 = .ok (.getfield 27, 3) := by decide +kernel
theorem dX4_count_56 : decode cX4_count 56 = .ok (.aload_n 0, 1) := by decide +kernel
theorem dX4_count_57 : decode cX4_count 57 = .ok (.getfield 12, 3) := by decide +kernel
theorem dX4_count_60 : decode cX4_count 60 = .ok (.invokevirtual 116, 3) := by decide +kernel
theorem dX4_count_63 : decode cX4_count 63 = .ok (.aload_n 0, 1) := by decide +kernel
theorem dX4_count_64 : decode cX4_count 64 = .ok (.getfield 27, 3) := by decide +kernel
theorem dX4_count_67 : decode cX4_count 67 = .ok (.getfield 144, 3) := by decide +kernel
theorem dX4_count_70 : decode cX4_count 70 = .ok (.ireturn, 1) := by decide +kernel
theorem dX4_count_71 : decode cX4_count 71 = .ok (.aload_n 0, 1) := by decide +kernel
theorem dX4_count_72 : decode cX4_count 72 = .ok (.getfield 27, 3) := by decide +kernel
theorem dX4_count_75 : decode cX4_count 75 = .ok (.aload_n 0, 1) := by decide +kernel
theorem dX4_count_76 : decode cX4_count 76 = .ok (.getfield 12, 3) := by decide +kernel
theorem dX4_count_79 : decode cX4_count 79 = .ok (.invokevirtual 116, 3) := by decide +kernel
theorem dX4_count_82 : decode cX4_count 82 = .ok (.aload_n 0, 1) := by decide +kernel
theorem dX4_count_83 : decode cX4_count 83 = .ok (.getfield 27, 3) := by decide +kernel
theorem dX4_count_86 : decode cX4_count 86 = .ok (.getfield 147, 3) := by decide +kernel
theorem dX4_count_89 : decode cX4_count 89 = .ok (.ireturn, 1) := by decide +kernel
theorem dX4_count_90 : decode cX4_count 90 = .ok (.aload_n 0, 1) := by decide +kernel
theorem dX4_count_91 : decode cX4_count 91 = .ok (.getfield 12, 3) := by decide +kernel
theorem dX4_count_94 : decode cX4_count 94 = .ok (.getfield 120, 3) := by decide +kernel
theorem dX4_count_97 : decode cX4_count 97 = .ok (.ireturn, 1) := by decide +kernel
theorem dX4_count_98 : decode cX4_count 98 = .ok (.iconst (-1), 1) := by decide +kernel
theorem dX4_count_99 : decode cX4_count 99 = .ok (.ireturn, 1) := by decide +kernel
theorem dX4_image_0 : decode cX4_image 0 = .ok (.iload_n 1, 1) := by decide +kernel
theorem dX4_image_1 : decode cX4_image 1 = .ok (.iconst 0, 1) := by decide +kernel
theorem dX4_image_2 : decode cX4_image 2 = .ok (.iconst 2, 1) := by decide +kernel
theorem dX4_image_3 : decode cX4_image 3 = .ok (.invokestatic 51, 3) := by decide +kernel
theorem dX4_image_6 : decode cX4_image 6 = .ok (.ifCond .ne 5, 3) := by decide +kernel
theorem dX4_image_9 : decode cX4_image 9 = .ok (.iconst 0, 1) := by decide +kernel
theorem dX4_image_10 : decode cX4_image 10 = .ok (.ireturn, 1) := by decide +kernel
theorem dX4_image_11 : decode cX4_image 11 = .ok (.aload_n 0, 1) := by decide +kernel
theorem dX4_image_12 : decode cX4_image 12 = .ok (.getfield 16, 3) := by decide +kernel
theorem dX4_image_15 : decode cX4_image 15 = .ok (.iload_n 1, 1) := by decide +kernel
theorem dX4_image_16 : decode cX4_image 16 = .ok (.aaload, 1) := by decide +kernel
theorem dX4_image_17 : decode cX4_image 17 = .ok (.aload_n 0, 1) := by decide +kernel
theorem dX4_image_18 : decode cX4_image 18 = .ok (.getfield 12, 3) := by decide +kernel
theorem dX4_image_21 : decode cX4_image 21 = .ok (.invokevirtual 150, 3) := by decide +kernel
theorem dX4_image_24 : decode cX4_image 24 = .ok (.aload_n 0, 1) := by decide +kernel
theorem dX4_image_25 : decode cX4_image 25 = .ok (.getfield 20, 3) := by decide +kernel
theorem dX4_image_28 : decode cX4_image 28 = .ok (.iload_n 1, 1) := by decide +kernel
theorem dX4_image_29 : decode cX4_image 29 = .ok (.iconst 1, 1) := by decide +kernel
theorem dX4_image_30 : decode cX4_image 30 = .ok (.bastore, 1) := by decide +kernel
theorem dX4_image_31 : decode cX4_image 31 = .ok (.iconst 1, 1) := by decide +kernel
theorem dX4_image_32 : decode cX4_image 32 = .ok (.ireturn, 1) := by decide +kernel
theorem dX4_again_0 : decode cX4_again 0 = .ok (.iload_n 1, 1) := by decide +kernel
theorem dX4_again_1 : decode cX4_again 1 = .ok (.iconst 0, 1) := by decide +kernel
theorem dX4_again_2 : decode cX4_again 2 = .ok (.iconst 2, 1) := by decide +kernel
theorem dX4_again_3 : decode cX4_again 3 = .ok (.invokestatic 51, 3) := by decide +kernel
theorem dX4_again_6 : decode cX4_again 6 = .ok (.ifCond .eq 12, 3) := by decide +kernel
theorem dX4_again_9 : decode cX4_again 9 = .ok (.aload_n 0, 1) := by decide +kernel
theorem dX4_again_10 : decode cX4_again 10 = .ok (.getfield 20, 3) := by decide +kernel
theorem dX4_again_13 : decode cX4_again 13 = .ok (.iload_n 1, 1) := by decide +kernel
theorem dX4_again_14 : decode cX4_again 14 = .ok (.baload, 1) := by decide +kernel
theorem dX4_again_15 : decode cX4_again 15 = .ok (.ifCond .ne 5, 3) := by decide +kernel
theorem dX4_again_18 : decode cX4_again 18 = .ok (.iconst 0, 1) := by decide +kernel
theorem dX4_again_19 : decode cX4_again 19 = .ok (.ireturn, 1) := by decide +kernel
theorem dX4_again_20 : decode cX4_again 20 = .ok (.aload_n 0, 1) := by decide +kernel
theorem dX4_again_21 : decode cX4_again 21 = .ok (.getfield 12, 3) := by decide +kernel
theorem dX4_again_24 : decode cX4_again 24 = .ok (.aload_n 0, 1) := by decide +kernel
theorem dX4_again_25 : decode cX4_again 25 = .ok (.getfield 16, 3) := by decide +kernel
theorem dX4_again_28 : decode cX4_again 28 = .ok (.iload_n 1, 1) := by decide +kernel
theorem dX4_again_29 : decode cX4_again 29 = .ok (.aaload, 1) := by decide +kernel
theorem dX4_again_30 : decode cX4_again 30 = .ok (.invokevirtual 150, 3) := by decide +kernel
theorem dX4_again_33 : decode cX4_again 33 = .ok (.iconst 1, 1) := by decide +kernel
theorem dX4_again_34 : decode cX4_again 34 = .ok (.ireturn, 1) := by decide +kernel
theorem dX4_takeBestRow_0 : decode cX4_takeBestRow 0 = .ok (.aload_n 0, 1) := by decide +kernel
theorem dX4_takeBestRow_1 : decode cX4_takeBestRow 1 = .ok (.getfield 27, 3) := by decide +kernel
theorem dX4_takeBestRow_4 : decode cX4_takeBestRow 4 = .ok (.getfield 153, 3) := by decide +kernel
theorem dX4_takeBestRow_7 : decode cX4_takeBestRow 7 = .ok (.ifCond .ne 5, 3) := by decide +kernel
theorem dX4_takeBestRow_10 : decode cX4_takeBestRow 10 = .ok (.iconst (-1), 1) := by decide +kernel
theorem dX4_takeBestRow_11 : decode cX4_takeBestRow 11 = .ok (.ireturn, 1) := by decide +kernel
theorem dX4_takeBestRow_12 : decode cX4_takeBestRow 12 = .ok (.aload_n 0, 1) := by decide +kernel
theorem dX4_takeBestRow_13 : decode cX4_takeBestRow 13 = .ok (.getfield 12, 3) := by decide +kernel
theorem dX4_takeBestRow_16 : decode cX4_takeBestRow 16 = .ok (.aload_n 0, 1) := by decide +kernel
theorem dX4_takeBestRow_17 : decode cX4_takeBestRow 17 = .ok (.getfield 27, 3) := by decide +kernel
theorem dX4_takeBestRow_20 : decode cX4_takeBestRow 20 = .ok (.getfield 156, 3) := by decide +kernel
theorem dX4_takeBestRow_23 : decode cX4_takeBestRow 23 = .ok (.aload_n 0, 1) := by decide +kernel
theorem dX4_takeBestRow_24 : decode cX4_takeBestRow 24 = .ok (.getfield 27, 3) := by decide +kernel
theorem dX4_takeBestRow_27 : decode cX4_takeBestRow 27 = .ok (.getfield 153, 3) := by decide +kernel
theorem dX4_takeBestRow_30 : decode cX4_takeBestRow 30 = .ok (.invokevirtual 159, 3) := by decide +kernel
theorem dX4_takeBestRow_33 : decode cX4_takeBestRow 33 = .ok (.aload_n 0, 1) := by decide +kernel
theorem dX4_takeBestRow_34 : decode cX4_takeBestRow 34 = .ok (.getfield 27, 3) := by decide +kernel
theorem dX4_takeBestRow_37 : decode cX4_takeBestRow 37 = .ok (.getfield 153, 3) := by decide +kernel
theorem dX4_takeBestRow_40 : decode cX4_takeBestRow 40 = .ok (.ireturn, 1) := by decide +kernel
theorem dX4_within_0 : decode cX4_within 0 = .ok (.iload_n 0, 1) := by decide +kernel
theorem dX4_within_1 : decode cX4_within 1 = .ok (.iload_n 1, 1) := by decide +kernel
theorem dX4_within_2 : decode cX4_within 2 = .ok (.if_icmp .lt 12, 3) := by decide +kernel
theorem dX4_within_5 : decode cX4_within 5 = .ok (.iload_n 0, 1) := by decide +kernel
theorem dX4_within_6 : decode cX4_within 6 = .ok (.iload_n 2, 1) := by decide +kernel
theorem dX4_within_7 : decode cX4_within 7 = .ok (.if_icmp .gt 7, 3) := by decide +kernel
theorem dX4_within_10 : decode cX4_within 10 = .ok (.iconst 1, 1) := by decide +kernel
theorem dX4_within_11 : decode cX4_within 11 = .ok (.goto 4, 3) := by decide +kernel
theorem dX4_within_14 : decode cX4_within 14 = .ok (.iconst 0, 1) := by decide +kernel
theorem dX4_within_15 : decode cX4_within 15 = .ok (.ireturn, 1) := by decide +kernel
theorem dX4_isRoom_0 : decode cX4_isRoom 0 = .ok (.iload_n 0, 1) := by decide +kernel
theorem dX4_isRoom_1 : decode cX4_isRoom 1 = .ok (.iconst 0, 1) := by decide +kernel
theorem dX4_isRoom_2 : decode cX4_isRoom 2 = .ok (.bipush 100, 2) := by decide +kernel
theorem dX4_isRoom_4 : decode cX4_isRoom 4 = .ok (.invokestatic 51, 3) := by decide +kernel
theorem dX4_isRoom_7 : decode cX4_isRoom 7 = .ok (.ireturn, 1) := by decide +kernel
theorem dX4_isShare_0 : decode cX4_isShare 0 = .ok (.iload_n 0, 1) := by decide +kernel
theorem dX4_isShare_1 : decode cX4_isShare 1 = .ok (.iconst 1, 1) := by decide +kernel
theorem dX4_isShare_2 : decode cX4_isShare 2 = .ok (.bipush 9, 2) := by decide +kernel
theorem dX4_isShare_4 : decode cX4_isShare 4 = .ok (.invokestatic 51, 3) := by decide +kernel
theorem dX4_isShare_7 : decode cX4_isShare 7 = .ok (.ifCond .eq 17, 3) := by decide +kernel
theorem dX4_isShare_10 : decode cX4_isShare 10 = .ok (.iload_n 1, 1) := by decide +kernel
theorem dX4_isShare_11 : decode cX4_isShare 11 = .ok (.iconst 1, 1) := by decide +kernel
theorem dX4_isShare_12 : decode cX4_isShare 12 = .ok (.bipush 9, 2) := by decide +kernel
theorem dX4_isShare_14 : decode cX4_isShare 14 = .ok (.invokestatic 51, 3) := by decide +kernel
theorem dX4_isShare_17 : decode cX4_isShare 17 = .ok (.ifCond .eq 7, 3) := by decide +kernel
theorem dX4_isShare_20 : decode cX4_isShare 20 = .ok (.iconst 1, 1) := by decide +kernel
theorem dX4_isShare_21 : decode cX4_isShare 21 = .ok (.goto 4, 3) := by decide +kernel
theorem dX4_isShare_24 : decode cX4_isShare 24 = .ok (.iconst 0, 1) := by decide +kernel
theorem dX4_isShare_25 : decode cX4_isShare 25 = .ok (.ireturn, 1) := by decide +kernel
theorem dX4_partsOfOne_0 : decode cX4_partsOfOne 0 = .ok (.iload_n 0, 1) := by decide +kernel
theorem dX4_partsOfOne_1 : decode cX4_partsOfOne 1 = .ok (.iconst 1, 1) := by decide +kernel
theorem dX4_partsOfOne_2 : decode cX4_partsOfOne 2 = .ok (.if_icmp .ge 7, 3) := by decide +kernel
theorem dX4_partsOfOne_5 : decode cX4_partsOfOne 5 = .ok (.iconst 0, 1) := by decide +kernel
theorem dX4_partsOfOne_6 : decode cX4_partsOfOne 6 = .ok (.goto 8, 3) := by decide +kernel
theorem dX4_partsOfOne_9 : decode cX4_partsOfOne 9 = .ok (.sipush 2520, 3) := by decide +kernel
theorem dX4_partsOfOne_12 : decode cX4_partsOfOne 12 = .ok (.iload_n 0, 1) := by decide +kernel
theorem dX4_partsOfOne_13 : decode cX4_partsOfOne 13 = .ok (.idiv, 1) := by decide +kernel
theorem dX4_partsOfOne_14 : decode cX4_partsOfOne 14 = .ok (.ireturn, 1) := by decide +kernel
end
section
theorem dX5_init_0 : decode cX5_init 0 = .ok (.aload_n 0, 1) := by decide +kernel
theorem dX5_init_1 : decode cX5_init 1 = .ok (.invokespecial 1, 3) := by decide +kernel
theorem dX5_init_4 : decode cX5_init 4 = .ok (.aload_n 0, 1) := by decide +kernel
theorem dX5_init_5 : decode cX5_init 5 = .ok (.iconst 4, 1) := by decide +kernel
theorem dX5_init_6 : decode cX5_init 6 = .ok (.newarray .int, 2) := by decide +kernel
theorem dX5_init_8 : decode cX5_init 8 = .ok (.putfield 7, 3) := by decide +kernel
theorem dX5_init_11 : decode cX5_init 11 = .ok (.aload_n 0, 1) := by decide +kernel
theorem dX5_init_12 : decode cX5_init 12 = .ok (.iconst 4, 1) := by decide +kernel
theorem dX5_init_13 : decode cX5_init 13 = .ok (.newarray .int, 2) := by decide +kernel
theorem dX5_init_15 : decode cX5_init 15 = .ok (.putfield 13, 3) := by decide +kernel
theorem dX5_init_18 : decode cX5_init 18 = .ok (.aload_n 0, 1) := by decide +kernel
theorem dX5_init_19 : decode cX5_init 19 = .ok (.bipush 40, 2) := by decide +kernel
theorem dX5_init_21 : decode cX5_init 21 = .ok (.newarray .int, 2) := by decide +kernel
theorem dX5_init_23 : decode cX5_init 23 = .ok (.putfield 16, 3) := by decide +kernel
theorem dX5_init_26 : decode cX5_init 26 = .ok (.aload_n 0, 1) := by decide +kernel
theorem dX5_init_27 : decode cX5_init 27 = .ok (.bipush 40, 2) := by decide +kernel
theorem dX5_init_29 : decode cX5_init 29 = .ok (.newarray .int, 2) := by decide +kernel
theorem dX5_init_31 : decode cX5_init 31 = .ok (.putfield 19, 3) := by decide +kernel
theorem dX5_init_34 : decode cX5_init 34 = .ok (.aload_n 0, 1) := by decide +kernel
theorem dX5_init_35 : decode cX5_init 35 = .ok (.bipush 40, 2) := by decide +kernel
theorem dX5_init_37 : decode cX5_init 37 = .ok (.newarray .int, 2) := by decide +kernel
theorem dX5_init_39 : decode cX5_init 39 = .ok (.putfield 22, 3) := by decide +kernel
theorem dX5_init_42 : decode cX5_init 42 = .ok (.aload_n 0, 1) := by decide +kernel
theorem dX5_init_43 : decode cX5_init 43 = .ok (.bipush 40, 2) := by decide +kernel
theorem dX5_init_45 : decode cX5_init 45 = .ok (.newarray .int, 2) := by decide +kernel
theorem dX5_init_47 : decode cX5_init 47 = .ok (.putfield 25, 3) := by decide +kernel
theorem dX5_init_50 : decode cX5_init 50 = .ok (.aload_n 0, 1) := by decide +kernel
theorem dX5_init_51 : decode cX5_init 51 = .ok (.bipush 40, 2) := by decide +kernel
theorem dX5_init_53 : decode cX5_init 53 = .ok (.newarray .int, 2) := by decide +kernel
theorem dX5_init_55 : decode cX5_init 55 = .ok (.putfield 28, 3) := by decide +kernel
theorem dX5_init_58 : decode cX5_init 58 = .ok (.aload_n 0, 1) := by decide +kernel
theorem dX5_init_59 : decode cX5_init 59 = .ok (.bipush 40, 2) := by decide +kernel
theorem dX5_init_61 : decode cX5_init 61 = .ok (.newarray .int, 2) := by decide +kernel
theorem dX5_init_63 : decode cX5_init 63 = .ok (.putfield 31, 3) := by decide +kernel
theorem dX5_init_66 : decode cX5_init 66 = .ok (.aload_n 0, 1) := by decide +kernel
theorem dX5_init_67 : decode cX5_init 67 = .ok (.bipush 40, 2) := by decide +kernel
theorem dX5_init_69 : decode cX5_init 69 = .ok (.newarray .int, 2) := by decide +kernel
theorem dX5_init_71 : decode cX5_init 71 = .ok (.putfield 34, 3) := by decide +kernel
theorem dX5_init_74 : decode cX5_init 74 = .ok (.aload_n 0, 1) := by decide +kernel
theorem dX5_init_75 : decode cX5_init 75 = .ok (.bipush 40, 2) := by decide +kernel
theorem dX5_init_77 : decode cX5_init 77 = .ok (.newarray .int, 2) := by decide +kernel
theorem dX5_init_79 : decode cX5_init 79 = .ok (.putfield 37, 3) := by decide +kernel
theorem dX5_init_82 : decode cX5_init 82 = .ok (.aload_n 0, 1) := by decide +kernel
theorem dX5_init_83 : decode cX5_init 83 = .ok (.iconst 4, 1) := by decide +kernel
theorem dX5_init_84 : decode cX5_init 84 = .ok (.newarray .int, 2) := by decide +kernel
theorem dX5_init_86 : decode cX5_init 86 = .ok (.putfield 40, 3) := by decide +kernel
theorem dX5_init_89 : decode cX5_init 89 = .ok (.aload_n 0, 1) := by decide +kernel
theorem dX5_init_90 : decode cX5_init 90 = .ok (.bipush 20, 2) := by decide +kernel
theorem dX5_init_92 : decode cX5_init 92 = .ok (.newarray .int, 2) := by decide +kernel
theorem dX5_init_94 : decode cX5_init 94 = .ok (.putfield 43, 3) := by decide +kernel
theorem dX5_init_97 : decode cX5_init 97 = .ok (.aload_n 0, 1) := by decide +kernel
theorem dX5_init_98 : decode cX5_init 98 = .ok (.iconst 4, 1) := by decide +kernel
theorem dX5_init_99 : decode cX5_init 99 = .ok (.newarray .long, 2) := by decide +kernel
theorem dX5_init_101 : decode cX5_init 101 = .ok (.putfield 46, 3) := by decide +kernel
theorem dX5_init_104 : decode cX5_init 104 = .ok (.aload_n 0, 1) := by decide +kernel
theorem dX5_init_105 : decode cX5_init 105 = .ok (.iconst 4, 1) := by decide +kernel
theorem dX5_init_106 : decode cX5_init 106 = .ok (.newarray .long, 2) := by decide +kernel
theorem dX5_init_108 : decode cX5_init 108 = .ok (.putfield 50, 3) := by decide +kernel
theorem dX5_init_111 : decode cX5_init 111 = .ok (.aload_n 0, 1) := by decide +kernel
theorem dX5_init_112 : decode cX5_init 112 = .ok (.bipush 10, 2) := by decide +kernel
theorem dX5_init_114 : decode cX5_init 114 = .ok (.newarray .int, 2) := by decide +kernel
theorem dX5_init_116 : decode cX5_init 116 = .ok (.putfield 53, 3) := by decide +kernel
theorem dX5_init_119 : decode cX5_init 119 = .ok (.aload_n 0, 1) := by decide +kernel
theorem dX5_init_120 : decode cX5_init 120 = .ok (.bipush 10, 2) := by decide +kernel
theorem dX5_init_122 : decode cX5_init 122 = .ok (.newarray .int, 2) := by decide +kernel
theorem dX5_init_124 : decode cX5_init 124 = .ok (.putfield 56, 3) := by decide +kernel
theorem dX5_init_127 : decode cX5_init 127 = .ok (.aload_n 0, 1) := by decide +kernel
theorem dX5_init_128 : decode cX5_init 128 = .ok (.bipush 10, 2) := by decide +kernel
theorem dX5_init_130 : decode cX5_init 130 = .ok (.newarray .int, 2) := by decide +kernel
theorem dX5_init_132 : decode cX5_init 132 = .ok (.putfield 59, 3) := by decide +kernel
theorem dX5_init_135 : decode cX5_init 135 = .ok (.aload_n 0, 1) := by decide +kernel
theorem dX5_init_136 : decode cX5_init 136 = .ok (.iconst 5, 1) := by decide +kernel
theorem dX5_init_137 : decode cX5_init 137 = .ok (.newarray .int, 2) := by decide +kernel
theorem dX5_init_139 : decode cX5_init 139 = .ok (.putfield 62, 3) := by decide +kernel
theorem dX5_init_142 : decode cX5_init 142 = .ok (.aload_n 0, 1) := by decide +kernel
theorem dX5_init_143 : decode cX5_init 143 = .ok (.iconst 5, 1) := by decide +kernel
theorem dX5_init_144 : decode cX5_init 144 = .ok (.newarray .long, 2) := by decide +kernel
theorem dX5_init_146 : decode cX5_init 146 = .ok (.putfield 65, 3) := by decide +kernel
theorem dX5_init_149 : decode cX5_init 149 = .ok (.aload_n 0, 1) := by decide +kernel
theorem dX5_init_150 : decode cX5_init 150 = .ok (.iconst 5, 1) := by decide +kernel
theorem dX5_init_151 : decode cX5_init 151 = .ok (.newarray .long, 2) := by decide +kernel
theorem dX5_init_153 : decode cX5_init 153 = .ok (.putfield 68, 3) := by decide +kernel
theorem dX5_init_156 : decode cX5_init 156 = .ok (.aload_n 0, 1) := by decide +kernel
theorem dX5_init_157 : decode cX5_init 157 = .ok (.iconst 5, 1) := by decide +kernel
theorem dX5_init_158 : decode cX5_init 158 = .ok (.newarray .int, 2) := by decide +kernel
theorem dX5_init_160 : decode cX5_init 160 = .ok (.putfield 71, 3) := by decide +kernel
theorem dX5_init_163 : decode cX5_init 163 = .ok (.aload_n 0, 1) := by decide +kernel
theorem dX5_init_164 : decode cX5_init 164 = .ok (.iconst 5, 1) := by decide +kernel
theorem dX5_init_165 : decode cX5_init 165 = .ok (.newarray .int, 2) := by decide +kernel
theorem dX5_init_167 : decode cX5_init 167 = .ok (.putfield 74, 3) := by decide +kernel
theorem dX5_init_170 : decode cX5_init 170 = .ok (.aload_n 0, 1) := by decide +kernel
theorem dX5_init_171 : decode cX5_init 171 = .ok (.iconst 3, 1) := by decide +kernel
theorem dX5_init_172 : decode cX5_init 172 = .ok (.newarray .boolean, 2) := by decide +kernel
theorem dX5_init_174 : decode cX5_init 174 = .ok (.putfield 77, 3) := by decide +kernel
theorem dX5_init_177 : decode cX5_init 177 = .ok (.aload_n 0, 1) := by decide +kernel
theorem dX5_init_178 : decode cX5_init 178 = .ok (.getfield 7, 3) := by decide +kernel
theorem dX5_init_181 : decode cX5_init 181 = .ok (.iconst 0, 1) := by decide +kernel
theorem dX5_init_182 : decode cX5_init 182 = .ok (.iconst 2, 1) := by decide +kernel
theorem dX5_init_183 : decode cX5_init 183 = .ok (.iastore, 1) := by decide +kernel
theorem dX5_init_184 : decode cX5_init 184 = .ok (.return_, 1) := by decide +kernel
theorem dX5_in_0 : decode cX5_in 0 = .ok (.iload_n 0, 1) := by decide +kernel
theorem dX5_in_1 : decode cX5_in 1 = .ok (.iload_n 1, 1) := by decide +kernel
theorem dX5_in_2 : decode cX5_in 2 = .ok (.if_icmp .lt 12, 3) := by decide +kernel
theorem dX5_in_5 : decode cX5_in 5 = .ok (.iload_n 0, 1) := by decide +kernel
theorem dX5_in_6 : decode cX5_in 6 = .ok (.iload_n 2, 1) := by decide +kernel
theorem dX5_in_7 : decode cX5_in 7 = .ok (.if_icmp .gt 7, 3) := by decide +kernel
theorem dX5_in_10 : decode cX5_in 10 = .ok (.iconst 1, 1) := by decide +kernel
theorem dX5_in_11 : decode cX5_in 11 = .ok (.goto 4, 3) := by decide +kernel
theorem dX5_in_14 : decode cX5_in 14 = .ok (.iconst 0, 1) := by decide +kernel
theorem dX5_in_15 : decode cX5_in 15 = .ok (.ireturn, 1) := by decide +kernel
theorem dX5_move_0 : decode cX5_move 0 = .ok (.iconst 0, 1) := by decide +kernel
theorem dX5_move_1 : decode cX5_move 1 = .ok (.istore 4, 2) := by decide +kernel
theorem dX5_move_3 : decode cX5_move 3 = .ok (.iload 4, 2) := by decide +kernel
theorem dX5_move_5 : decode cX5_move 5 = .ok (.iload_n 1, 1) := by decide +kernel
theorem dX5_move_6 : decode cX5_move 6 = .ok (.if_icmp .ge 25, 3) := by decide +kernel
theorem dX5_move_9 : decode cX5_move 9 = .ok (.aload_n 0, 1) := by decide +kernel
theorem dX5_move_10 : decode cX5_move 10 = .ok (.iload_n 1, 1) := by decide +kernel
theorem dX5_move_11 : decode cX5_move 11 = .ok (.iload_n 3, 1) := by decide +kernel
theorem dX5_move_12 : decode cX5_move 12 = .ok (.imul, 1) := by decide +kernel
theorem dX5_move_13 : decode cX5_move 13 = .ok (.iload 4, 2) := by decide +kernel
theorem dX5_move_15 : decode cX5_move 15 = .ok (.iadd, 1) := by decide +kernel
theorem dX5_move_16 : decode cX5_move 16 = .ok (.aload_n 0, 1) := by decide +kernel
theorem dX5_move_17 : decode cX5_move 17 = .ok (.iload_n 1, 1) := by decide +kernel
theorem dX5_move_18 : decode cX5_move 18 = .ok (.iload_n 2, 1) := by decide +kernel
theorem dX5_move_19 : decode cX5_move 19 = .ok (.imul, 1) := by decide +kernel
theorem dX5_move_20 : decode cX5_move 20 = .ok (.iload 4, 2) := by decide +kernel
theorem dX5_move_22 : decode cX5_move 22 = .ok (.iadd, 1) := by decide +kernel
theorem dX5_move_23 : decode cX5_move 23 = .ok (.iaload, 1) := by decide +kernel
theorem dX5_move_24 : decode cX5_move 24 = .ok (.iastore, 1) := by decide +kernel
theorem dX5_move_25 : decode cX5_move 25 = .ok (.iinc 4 1, 3) := by decide +kernel
theorem dX5_move_28 : decode cX5_move 28 = .ok (.goto (-25), 3) := by decide +kernel
theorem dX5_move_31 : decode cX5_move 31 = .ok (.return_, 1) := by decide +kernel
theorem dX5_copy_0 : decode cX5_copy 0 = .ok (.aload_n 0, 1) := by decide +kernel
theorem dX5_copy_1 : decode cX5_copy 1 = .ok (.getfield 7, 3) := by decide +kernel
theorem dX5_copy_4 : decode cX5_copy 4 = .ok (.iconst 1, 1) := by decide +kernel
theorem dX5_copy_5 : decode cX5_copy 5 = .ok (.iload_n 1, 1) := by decide +kernel
theorem dX5_copy_6 : decode cX5_copy 6 = .ok (.iload_n 2, 1) := by decide +kernel
theorem dX5_copy_7 : decode cX5_copy 7 = .ok (.invokestatic 85, 3) := by decide +kernel
theorem dX5_copy_10 : decode cX5_copy 10 = .ok (.aload_n 0, 1) := by decide +kernel
theorem dX5_copy_11 : decode cX5_copy 11 = .ok (.getfield 13, 3) := by decide +kernel
theorem dX5_copy_14 : decode cX5_copy 14 = .ok (.iconst 1, 1) := by decide +kernel
theorem dX5_copy_15 : decode cX5_copy 15 = .ok (.iload_n 1, 1) := by decide +kernel
theorem dX5_copy_16 : decode cX5_copy 16 = .ok (.iload_n 2, 1) := by decide +kernel
theorem dX5_copy_17 : decode cX5_copy 17 = .ok (.invokestatic 85, 3) := by decide +kernel
theorem dX5_copy_20 : decode cX5_copy 20 = .ok (.aload_n 0, 1) := by decide +kernel
theorem dX5_copy_21 : decode cX5_copy 21 = .ok (.getfield 16, 3) := by decide +kernel
theorem dX5_copy_24 : decode cX5_copy 24 = .ok (.bipush 10, 2) := by decide +kernel
theorem dX5_copy_26 : decode cX5_copy 26 = .ok (.iload_n 1, 1) := by decide +kernel
theorem dX5_copy_27 : decode cX5_copy 27 = .ok (.iload_n 2, 1) := by decide +kernel
theorem dX5_copy_28 : decode cX5_copy 28 = .ok (.invokestatic 85, 3) := by decide +kernel
theorem dX5_copy_31 : decode cX5_copy 31 = .ok (.aload_n 0, 1) := by decide +kernel
theorem dX5_copy_32 : decode cX5_copy 32 = .ok (.getfield 19, 3) := by decide +kernel
theorem dX5_copy_35 : decode cX5_copy 35 = .ok (.bipush 10, 2) := by decide +kernel
theorem dX5_copy_37 : decode cX5_copy 37 = .ok (.iload_n 1, 1) := by decide +kernel
theorem dX5_copy_38 : decode cX5_copy 38 = .ok (.iload_n 2, 1) := by decide +kernel
theorem dX5_copy_39 : decode cX5_copy 39 = .ok (.invokestatic 85, 3) := by decide +kernel
theorem dX5_copy_42 : decode cX5_copy 42 = .ok (.aload_n 0, 1) := by decide +kernel
theorem dX5_copy_43 : decode cX5_copy 43 = .ok (.getfield 22, 3) := by decide +kernel
theorem dX5_copy_46 : decode cX5_copy 46 = .ok (.bipush 10, 2) := by decide +kernel
theorem dX5_copy_48 : decode cX5_copy 48 = .ok (.iload_n 1, 1) := by decide +kernel
theorem dX5_copy_49 : decode cX5_copy 49 = .ok (.iload_n 2, 1) := by decide +kernel
theorem dX5_copy_50 : decode cX5_copy 50 = .ok (.invokestatic 85, 3) := by decide +kernel
theorem dX5_copy_53 : decode cX5_copy 53 = .ok (.aload_n 0, 1) := by decide +kernel
theorem dX5_copy_54 : decode cX5_copy 54 = .ok (.getfield 25, 3) := by decide +kernel
theorem dX5_copy_57 : decode cX5_copy 57 = .ok (.bipush 10, 2) := by decide +kernel
theorem dX5_copy_59 : decode cX5_copy 59 = .ok (.iload_n 1, 1) := by decide +kernel
theorem dX5_copy_60 : decode cX5_copy 60 = .ok (.iload_n 2, 1) := by decide +kernel
theorem dX5_copy_61 : decode cX5_copy 61 = .ok (.invokestatic 85, 3) := by decide +kernel
theorem dX5_copy_64 : decode cX5_copy 64 = .ok (.aload_n 0, 1) := by decide +kernel
theorem dX5_copy_65 : decode cX5_copy 65 = .ok (.getfield 28, 3) := by decide +kernel
theorem dX5_copy_68 : decode cX5_copy 68 = .ok (.bipush 10, 2) := by decide +kernel
theorem dX5_copy_70 : decode cX5_copy 70 = .ok (.iload_n 1, 1) := by decide +kernel
theorem dX5_copy_71 : decode cX5_copy 71 = .ok (.iload_n 2, 1) := by decide +kernel
theorem dX5_copy_72 : decode cX5_copy 72 = .ok (.invokestatic 85, 3) := by decide +kernel
theorem dX5_copy_75 : decode cX5_copy 75 = .ok (.aload_n 0, 1) := by decide +kernel
theorem dX5_copy_76 : decode cX5_copy 76 = .ok (.getfield 31, 3) := by decide +kernel
theorem dX5_copy_79 : decode cX5_copy 79 = .ok (.bipush 10, 2) := by decide +kernel
theorem dX5_copy_81 : decode cX5_copy 81 = .ok (.iload_n 1, 1) := by decide +kernel
theorem dX5_copy_82 : decode cX5_copy 82 = .ok (.iload_n 2, 1) := by decide +kernel
theorem dX5_copy_83 : decode cX5_copy 83 = .ok (.invokestatic 85, 3) := by decide +kernel
theorem dX5_copy_86 : decode cX5_copy 86 = .ok (.aload_n 0, 1) := by decide +kernel
theorem dX5_copy_87 : decode cX5_copy 87 = .ok (.getfield 34, 3) := by decide +kernel
theorem dX5_copy_90 : decode cX5_copy 90 = .ok (.bipush 10, 2) := by decide +kernel
theorem dX5_copy_92 : decode cX5_copy 92 = .ok (.iload_n 1, 1) := by decide +kernel
theorem dX5_copy_93 : decode cX5_copy 93 = .ok (.iload_n 2, 1) := by decide +kernel
theorem dX5_copy_94 : decode cX5_copy 94 = .ok (.invokestatic 85, 3) := by decide +kernel
theorem dX5_copy_97 : decode cX5_copy 97 = .ok (.aload_n 0, 1) := by decide +kernel
theorem dX5_copy_98 : decode cX5_copy 98 = .ok (.getfield 37, 3) := by decide +kernel
theorem dX5_copy_101 : decode cX5_copy 101 = .ok (.bipush 10, 2) := by decide +kernel
theorem dX5_copy_103 : decode cX5_copy 103 = .ok (.iload_n 1, 1) := by decide +kernel
theorem dX5_copy_104 : decode cX5_copy 104 = .ok (.iload_n 2, 1) := by decide +kernel
theorem dX5_copy_105 : decode cX5_copy 105 = .ok (.invokestatic 85, 3) := by decide +kernel
theorem dX5_copy_108 : decode cX5_copy 108 = .ok (.aload_n 0, 1) := by decide +kernel
theorem dX5_copy_109 : decode cX5_copy 109 = .ok (.getfield 40, 3) := by decide +kernel
theorem dX5_copy_112 : decode cX5_copy 112 = .ok (.iconst 1, 1) := by decide +kernel
theorem dX5_copy_113 : decode cX5_copy 113 = .ok (.iload_n 1, 1) := by decide +kernel
theorem dX5_copy_114 : decode cX5_copy 114 = .ok (.iload_n 2, 1) := by decide +kernel
theorem dX5_copy_115 : decode cX5_copy 115 = .ok (.invokestatic 85, 3) := by decide +kernel
theorem dX5_copy_118 : decode cX5_copy 118 = .ok (.aload_n 0, 1) := by decide +kernel
theorem dX5_copy_119 : decode cX5_copy 119 = .ok (.getfield 43, 3) := by decide +kernel
theorem dX5_copy_122 : decode cX5_copy 122 = .ok (.iconst 5, 1) := by decide +kernel
theorem dX5_copy_123 : decode cX5_copy 123 = .ok (.iload_n 1, 1) := by decide +kernel
theorem dX5_copy_124 : decode cX5_copy 124 = .ok (.iload_n 2, 1) := by decide +kernel
theorem dX5_copy_125 : decode cX5_copy 125 = .ok (.invokestatic 85, 3) := by decide +kernel
theorem dX5_copy_128 : decode cX5_copy 128 = .ok (.aload_n 0, 1) := by decide +kernel
theorem dX5_copy_129 : decode cX5_copy 129 = .ok (.getfield 46, 3) := by decide +kernel
theorem dX5_copy_132 : decode cX5_copy 132 = .ok (.iload_n 2, 1) := by decide +kernel
theorem dX5_copy_133 : decode cX5_copy 133 = .ok (.aload_n 0, 1) := by decide +kernel
theorem dX5_copy_134 : decode cX5_copy 134 = .ok (.getfield 46, 3) := by decide +kernel
theorem dX5_copy_137 : decode cX5_copy 137 = .ok (.iload_n 1, 1) := by decide +kernel
theorem dX5_copy_138 : decode cX5_copy 138 = .ok (.laload, 1) := by decide +kernel
theorem dX5_copy_139 : decode cX5_copy 139 = .ok (.lastore, 1) := by decide +kernel
theorem dX5_copy_140 : decode cX5_copy 140 = .ok (.aload_n 0, 1) := by decide +kernel
theorem dX5_copy_141 : decode cX5_copy 141 = .ok (.getfield 50, 3) := by decide +kernel
theorem dX5_copy_144 : decode cX5_copy 144 = .ok (.iload_n 2, 1) := by decide +kernel
theorem dX5_copy_145 : decode cX5_copy 145 = .ok (.aload_n 0, 1) := by decide +kernel
theorem dX5_copy_146 : decode cX5_copy 146 = .ok (.getfield 50, 3) := by decide +kernel
theorem dX5_copy_149 : decode cX5_copy 149 = .ok (.iload_n 1, 1) := by decide +kernel
theorem dX5_copy_150 : decode cX5_copy 150 = .ok (.laload, 1) := by decide +kernel
theorem dX5_copy_151 : decode cX5_copy 151 = .ok (.lastore, 1) := by decide +kernel
theorem dX5_copy_152 : decode cX5_copy 152 = .ok (.return_, 1) := by decide +kernel
theorem dX5_isLane_0 : decode cX5_isLane 0 = .ok (.iload_n 1, 1) := by decide +kernel
theorem dX5_isLane_1 : decode cX5_isLane 1 = .ok (.iconst 0, 1) := by decide +kernel
theorem dX5_isLane_2 : decode cX5_isLane 2 = .ok (.aload_n 0, 1) := by decide +kernel
theorem dX5_isLane_3 : decode cX5_isLane 3 = .ok (.getfield 13, 3) := by decide +kernel
theorem dX5_isLane_6 : decode cX5_isLane 6 = .ok (.iconst 0, 1) := by decide +kernel
theorem dX5_isLane_7 : decode cX5_isLane 7 = .ok (.iaload, 1) := by decide +kernel
theorem dX5_isLane_8 : decode cX5_isLane 8 = .ok (.iconst 1, 1) := by decide +kernel
theorem dX5_isLane_9 : decode cX5_isLane 9 = .ok (.isub, 1) := by decide +kernel
theorem dX5_isLane_10 : decode cX5_isLane 10 = .ok (.invokestatic 89, 3) := by decide +kernel
theorem dX5_isLane_13 : decode cX5_isLane 13 = .ok (.ireturn, 1) := by decide +kernel
theorem dX5_isPost_0 : decode cX5_isPost 0 = .ok (.iload_n 1, 1) := by decide +kernel
theorem dX5_isPost_1 : decode cX5_isPost 1 = .ok (.iconst 0, 1) := by decide +kernel
theorem dX5_isPost_2 : decode cX5_isPost 2 = .ok (.aload_n 0, 1) := by decide +kernel
theorem dX5_isPost_3 : decode cX5_isPost 3 = .ok (.getfield 7, 3) := by decide +kernel
theorem dX5_isPost_6 : decode cX5_isPost 6 = .ok (.iconst 0, 1) := by decide +kernel
theorem dX5_isPost_7 : decode cX5_isPost 7 = .ok (.iaload, 1) := by decide +kernel
theorem dX5_isPost_8 : decode cX5_isPost 8 = .ok (.iconst 1, 1) := by decide +kernel
theorem dX5_isPost_9 : decode cX5_isPost 9 = .ok (.isub, 1) := by decide +kernel
theorem dX5_isPost_10 : decode cX5_isPost 10 = .ok (.invokestatic 89, 3) := by decide +kernel
theorem dX5_isPost_13 : decode cX5_isPost 13 = .ok (.ireturn, 1) := by decide +kernel
theorem dX5_posts_0 : decode cX5_posts 0 = .ok (.aload_n 0, 1) := by decide +kernel
theorem dX5_posts_1 : decode cX5_posts 1 = .ok (.iconst 0, 1) := by decide +kernel
theorem dX5_posts_2 : decode cX5_posts 2 = .ok (.putfield 81, 3) := by decide +kernel
theorem dX5_posts_5 : decode cX5_posts 5 = .ok (.iload_n 1, 1) := by decide +kernel
theorem dX5_posts_6 : decode cX5_posts 6 = .ok (.iconst 2, 1) := by decide +kernel
theorem dX5_posts_7 : decode cX5_posts 7 = .ok (.iconst 5, 1) := by decide +kernel
theorem dX5_posts_8 : decode cX5_posts 8 = .ok (.invokestatic 89, 3) := by decide +kernel
theorem dX5_posts_11 : decode cX5_posts 11 = .ok (.ifCond .ne 5, 3) := by decide +kernel
theorem dX5_posts_14 : decode cX5_posts 14 = .ok (.iconst 0, 1) := by decide +kernel
theorem dX5_posts_15 : decode cX5_posts 15 = .ok (.ireturn, 1) := by decide +kernel
theorem dX5_posts_16 : decode cX5_posts 16 = .ok (.aload_n 0, 1) := by decide +kernel
theorem dX5_posts_17 : decode cX5_posts 17 = .ok (.getfield 7, 3) := by decide +kernel
theorem dX5_posts_20 : decode cX5_posts 20 = .ok (.iconst 0, 1) := by decide +kernel
theorem dX5_posts_21 : decode cX5_posts 21 = .ok (.iload_n 1, 1) := by decide +kernel
theorem dX5_posts_22 : decode cX5_posts 22 = .ok (.iastore, 1) := by decide +kernel
theorem dX5_posts_23 : decode cX5_posts 23 = .ok (.aload_n 0, 1) := by decide +kernel
theorem dX5_posts_24 : decode cX5_posts 24 = .ok (.getfield 13, 3) := by decide +kernel
theorem dX5_posts_27 : decode cX5_posts 27 = .ok (.iconst 0, 1) := by decide +kernel
theorem dX5_posts_28 : decode cX5_posts 28 = .ok (.iconst 0, 1) := by decide +kernel
theorem dX5_posts_29 : decode cX5_posts 29 = .ok (.iastore, 1) := by decide +kernel
theorem dX5_posts_30 : decode cX5_posts 30 = .ok (.aload_n 0, 1) := by decide +kernel
theorem dX5_posts_31 : decode cX5_posts 31 = .ok (.getfield 40, 3) := by decide +kernel
theorem dX5_posts_34 : decode cX5_posts 34 = .ok (.iconst 0, 1) := by decide +kernel
theorem dX5_posts_35 : decode cX5_posts 35 = .ok (.iconst 0, 1) := by decide +kernel
theorem dX5_posts_36 : decode cX5_posts 36 = .ok (.iastore, 1) := by decide +kernel
theorem dX5_posts_37 : decode cX5_posts 37 = .ok (.iconst 1, 1) := by decide +kernel
theorem dX5_posts_38 : decode cX5_posts 38 = .ok (.ireturn, 1) := by decide +kernel
theorem dX5_lane_0 : decode cX5_lane 0 = .ok (.aload_n 0, 1) := by decide +kernel
theorem dX5_lane_1 : decode cX5_lane 1 = .ok (.iconst 0, 1) := by decide +kernel
theorem dX5_lane_2 : decode cX5_lane 2 = .ok (.putfield 81, 3) := by decide +kernel
theorem dX5_lane_5 : decode cX5_lane 5 = .ok (.aload_n 0, 1) := by decide +kernel
theorem dX5_lane_6 : decode cX5_lane 6 = .ok (.getfield 13, 3) := by decide +kernel
theorem dX5_lane_9 : decode cX5_lane 9 = .ok (.iconst 0, 1) := by decide +kernel
theorem dX5_lane_10 : decode cX5_lane 10 = .ok (.iaload, 1) := by decide +kernel
theorem dX5_lane_11 : decode cX5_lane 11 = .ok (.bipush 10, 2) := by decide +kernel
theorem dX5_lane_13 : decode cX5_lane 13 = .ok (.if_icmp .eq 72, 3) := by decide +kernel
theorem dX5_lane_16 : decode cX5_lane 16 = .ok (.aload_n 0, 1) := by decide +kernel
theorem dX5_lane_17 : decode cX5_lane 17 = .ok (.iload_n 1, 1) := by decide +kernel
theorem dX5_lane_18 : decode cX5_lane 18 = .ok (.invokevirtual 93, 3) := by decide +kernel
theorem dX5_lane_21 : decode cX5_lane 21 = .ok (.ifCond .eq 64, 3) := by decide +kernel
theorem dX5_lane_24 : decode cX5_lane 24 = .ok (.aload_n 0, 1) := by decide +kernel
theorem dX5_lane_25 : decode cX5_lane 25 = .ok (.iload_n 2, 1) := by decide +kernel
theorem dX5_lane_26 : decode cX5_lane 26 = .ok (.invokevirtual 93, 3) := by decide +kernel
theorem dX5_lane_29 : decode cX5_lane 29 = .ok (.ifCond .eq 56, 3) := by decide +kernel
theorem dX5_lane_32 : decode cX5_lane 32 = .ok (.iload_n 1, 1) := by decide +kernel
theorem dX5_lane_33 : decode cX5_lane 33 = .ok (.iload_n 2, 1) := by decide +kernel
theorem dX5_lane_34 : decode cX5_lane 34 = .ok (.if_icmp .eq 51, 3) := by decide +kernel
theorem dX5_lane_37 : decode cX5_lane 37 = .ok (.iload_n 2, 1) := by decide +kernel
theorem dX5_lane_38 : decode cX5_lane 38 = .ok (.ifCond .eq 47, 3) := by decide +kernel
theorem dX5_lane_41 : decode cX5_lane 41 = .ok (.iload_n 1, 1) := by decide +kernel
theorem dX5_lane_42 : decode cX5_lane 42 = .ok (.aload_n 0, 1) := by decide +kernel
theorem dX5_lane_43 : decode cX5_lane 43 = .ok (.getfield 7, 3) := by decide +kernel
theorem dX5_lane_46 : decode cX5_lane 46 = .ok (.iconst 0, 1) := by decide +kernel
theorem dX5_lane_47 : decode cX5_lane 47 = .ok (.iaload, 1) := by decide +kernel
theorem dX5_lane_48 : decode cX5_lane 48 = .ok (.iconst 1, 1) := by decide +kernel
theorem dX5_lane_49 : decode cX5_lane 49 = .ok (.isub, 1) := by decide +kernel
theorem dX5_lane_50 : decode cX5_lane 50 = .ok (.if_icmp .eq 35, 3) := by decide +kernel
theorem dX5_lane_53 : decode cX5_lane 53 = .ok (.iload_n 3, 1) := by decide +kernel
theorem dX5_lane_54 : decode cX5_lane 54 = .ok (.iconst 0, 1) := by decide +kernel
theorem dX5_lane_55 : decode cX5_lane 55 = .ok (.bipush 100, 2) := by decide +kernel
theorem dX5_lane_57 : decode cX5_lane 57 = .ok (.invokestatic 89, 3) := by decide +kernel
theorem dX5_lane_60 : decode cX5_lane 60 = .ok (.ifCond .eq 25, 3) := by decide +kernel
theorem dX5_lane_63 : decode cX5_lane 63 = .ok (.iload 4, 2) := by decide +kernel
theorem dX5_lane_65 : decode cX5_lane 65 = .ok (.iconst 1, 1) := by decide +kernel
theorem dX5_lane_66 : decode cX5_lane 66 = .ok (.bipush 9, 2) := by decide +kernel
theorem dX5_lane_68 : decode cX5_lane 68 = .ok (.invokestatic 89, 3) := by decide +kernel
theorem dX5_lane_71 : decode cX5_lane 71 = .ok (.ifCond .eq 14, 3) := by decide +kernel
theorem dX5_lane_74 : decode cX5_lane 74 = .ok (.iload 5, 2) := by decide +kernel
theorem dX5_lane_76 : decode cX5_lane 76 = .ok (.iconst 1, 1) := by decide +kernel
theorem dX5_lane_77 : decode cX5_lane 77 = .ok (.bipush 9, 2) := by decide +kernel
theorem dX5_lane_79 : decode cX5_lane 79 = .ok (.invokestatic 89, 3) := by decide +kernel
theorem dX5_lane_82 : decode cX5_lane 82 = .ok (.ifCond .ne 5, 3) := by decide +kernel
theorem dX5_lane_85 : decode cX5_lane 85 = .ok (.iconst (-1), 1) := by decide +kernel
theorem dX5_lane_86 : decode cX5_lane 86 = .ok (.ireturn, 1) := by decide +kernel
theorem dX5_lane_87 : decode cX5_lane 87 = .ok (.aload_n 0, 1) := by decide +kernel
theorem dX5_lane_88 : decode cX5_lane 88 = .ok (.getfield 13, 3) := by decide +kernel
theorem dX5_lane_91 : decode cX5_lane 91 = .ok (.iconst 0, 1) := by decide +kernel
theorem dX5_lane_92 : decode cX5_lane 92 = .ok (.iaload, 1) := by decide +kernel
theorem dX5_lane_93 : decode cX5_lane 93 = .ok (.istore 6, 2) := by decide +kernel
theorem dX5_lane_95 : decode cX5_lane 95 = .ok (.aload_n 0, 1) := by decide +kernel
theorem dX5_lane_96 : decode cX5_lane 96 = .ok (.getfield 13, 3) := by decide +kernel
theorem dX5_lane_99 : decode cX5_lane 99 = .ok (.iconst 0, 1) := by decide +kernel
theorem dX5_lane_100 : decode cX5_lane 100 = .ok (.dup2, 1) := by decide +kernel
theorem dX5_lane_101 : decode cX5_lane 101 = .ok (.iaload, 1) := by decide +kernel
theorem dX5_lane_102 : decode cX5_lane 102 = .ok (.iconst 1, 1) := by decide +kernel
theorem dX5_lane_103 : decode cX5_lane 103 = .ok (.iadd, 1) := by decide +kernel
theorem dX5_lane_104 : decode cX5_lane 104 = .ok (.iastore, 1) := by decide +kernel
theorem dX5_lane_105 : decode cX5_lane 105 = .ok (.aload_n 0, 1) := by decide +kernel
theorem dX5_lane_106 : decode cX5_lane 106 = .ok (.getfield 16, 3) := by decide +kernel
theorem dX5_lane_109 : decode cX5_lane 109 = .ok (.iload 6, 2) := by decide +kernel
theorem dX5_lane_111 : decode cX5_lane 111 = .ok (.iload_n 1, 1) := by decide +kernel
theorem dX5_lane_112 : decode cX5_lane 112 = .ok (.iastore, 1) := by decide +kernel
theorem dX5_lane_113 : decode cX5_lane 113 = .ok (.aload_n 0, 1) := by decide +kernel
theorem dX5_lane_114 : decode cX5_lane 114 = .ok (.getfield 19, 3) := by decide +kernel
theorem dX5_lane_117 : decode cX5_lane 117 = .ok (.iload 6, 2) := by decide +kernel
theorem dX5_lane_119 : decode cX5_lane 119 = .ok (.iload_n 2, 1) := by decide +kernel
theorem dX5_lane_120 : decode cX5_lane 120 = .ok (.iastore, 1) := by decide +kernel
theorem dX5_lane_121 : decode cX5_lane 121 = .ok (.aload_n 0, 1) := by decide +kernel
theorem dX5_lane_122 : decode cX5_lane 122 = .ok (.getfield 22, 3) := by decide +kernel
theorem dX5_lane_125 : decode cX5_lane 125 = .ok (.iload 6, 2) := by decide +kernel
theorem dX5_lane_127 : decode cX5_lane 127 = .ok (.iload_n 3, 1) := by decide +kernel
theorem dX5_lane_128 : decode cX5_lane 128 = .ok (.iastore, 1) := by decide +kernel
theorem dX5_lane_129 : decode cX5_lane 129 = .ok (.aload_n 0, 1) := by decide +kernel
theorem dX5_lane_130 : decode cX5_lane 130 = .ok (.getfield 25, 3) := by decide +kernel
theorem dX5_lane_133 : decode cX5_lane 133 = .ok (.iload 6, 2) := by decide +kernel
theorem dX5_lane_135 : decode cX5_lane 135 = .ok (.iload 4, 2) := by decide +kernel
theorem dX5_lane_137 : decode cX5_lane 137 = .ok (.iastore, 1) := by decide +kernel
theorem dX5_lane_138 : decode cX5_lane 138 = .ok (.aload_n 0, 1) := by decide +kernel
theorem dX5_lane_139 : decode cX5_lane 139 = .ok (.getfield 28, 3) := by decide +kernel
theorem dX5_lane_142 : decode cX5_lane 142 = .ok (.iload 6, 2) := by decide +kernel
theorem dX5_lane_144 : decode cX5_lane 144 = .ok (.iload 5, 2) := by decide +kernel
theorem dX5_lane_146 : decode cX5_lane 146 = .ok (.iastore, 1) := by decide +kernel
theorem dX5_lane_147 : decode cX5_lane 147 = .ok (.aload_n 0, 1) := by decide +kernel
theorem dX5_lane_148 : decode cX5_lane 148 = .ok (.getfield 31, 3) := by decide +kernel
theorem dX5_lane_151 : decode cX5_lane 151 = .ok (.iload 6, 2) := by decide +kernel
theorem dX5_lane_153 : decode cX5_lane 153 = .ok (.iconst 0, 1) := by decide +kernel
theorem dX5_lane_154 : decode cX5_lane 154 = .ok (.iastore, 1) := by decide +kernel
theorem dX5_lane_155 : decode cX5_lane 155 = .ok (.aload_n 0, 1) := by decide +kernel
theorem dX5_lane_156 : decode cX5_lane 156 = .ok (.getfield 34, 3) := by decide +kernel
theorem dX5_lane_159 : decode cX5_lane 159 = .ok (.iload 6, 2) := by decide +kernel
theorem dX5_lane_161 : decode cX5_lane 161 = .ok (.iconst 0, 1) := by decide +kernel
theorem dX5_lane_162 : decode cX5_lane 162 = .ok (.iastore, 1) := by decide +kernel
theorem dX5_lane_163 : decode cX5_lane 163 = .ok (.aload_n 0, 1) := by decide +kernel
theorem dX5_lane_164 : decode cX5_lane 164 = .ok (.getfield 37, 3) := by decide +kernel
theorem dX5_lane_167 : decode cX5_lane 167 = .ok (.iload 6, 2) := by decide +kernel
theorem dX5_lane_169 : decode cX5_lane 169 = .ok (.iconst 1, 1) := by decide +kernel
theorem dX5_lane_170 : decode cX5_lane 170 = .ok (.iastore, 1) := by decide +kernel
theorem dX5_lane_171 : decode cX5_lane 171 = .ok (.iload 6, 2) := by decide +kernel
theorem dX5_lane_173 : decode cX5_lane 173 = .ok (.ireturn, 1) := by decide +kernel
theorem dX5_room_0 : decode cX5_room 0 = .ok (.aload_n 0, 1) := by decide +kernel
theorem dX5_room_1 : decode cX5_room 1 = .ok (.iconst 0, 1) := by decide +kernel
theorem dX5_room_2 : decode cX5_room 2 = .ok (.putfield 81, 3) := by decide +kernel
theorem dX5_room_5 : decode cX5_room 5 = .ok (.aload_n 0, 1) := by decide +kernel
theorem dX5_room_6 : decode cX5_room 6 = .ok (.iload_n 1, 1) := by decide +kernel
theorem dX5_room_7 : decode cX5_room 7 = .ok (.invokevirtual 97, 3) := by decide +kernel
theorem dX5_room_10 : decode cX5_room 10 = .ok (.ifCond .eq 13, 3) := by decide +kernel
theorem dX5_room_13 : decode cX5_room 13 = .ok (.iload_n 2, 1) := by decide +kernel
theorem dX5_room_14 : decode cX5_room 14 = .ok (.iconst 0, 1) := by decide +kernel
theorem dX5_room_15 : decode cX5_room 15 = .ok (.bipush 100, 2) := by decide +kernel
theorem dX5_room_17 : decode cX5_room 17 = .ok (.invokestatic 89, 3) := by decide +kernel
theorem dX5_room_20 : decode cX5_room 20 = .ok (.ifCond .ne 5, 3) := by decide +kernel
theorem dX5_room_23 : decode cX5_room 23 = .ok (.iconst 0, 1) := by decide +kernel
theorem dX5_room_24 : decode cX5_room 24 = .ok (.ireturn, 1) := by decide +kernel
theorem dX5_room_25 : decode cX5_room 25 = .ok (.aload_n 0, 1) := by decide +kernel
theorem dX5_room_26 : decode cX5_room 26 = .ok (.getfield 22, 3) := by decide +kernel
theorem dX5_room_29 : decode cX5_room 29 = .ok (.iload_n 1, 1) := by decide +kernel
theorem dX5_room_30 : decode cX5_room 30 = .ok (.iload_n 2, 1) := by decide +kernel
theorem dX5_room_31 : decode cX5_room 31 = .ok (.iastore, 1) := by decide +kernel
theorem dX5_room_32 : decode cX5_room 32 = .ok (.iconst 1, 1) := by decide +kernel
theorem dX5_room_33 : decode cX5_room 33 = .ok (.ireturn, 1) := by decide +kernel
theorem dX5_share_0 : decode cX5_share 0 = .ok (.aload_n 0, 1) := by decide +kernel
theorem dX5_share_1 : decode cX5_share 1 = .ok (.iconst 0, 1) := by decide +kernel
theorem dX5_share_2 : decode cX5_share 2 = .ok (.putfield 81, 3) := by decide +kernel
theorem dX5_share_5 : decode cX5_share 5 = .ok (.aload_n 0, 1) := by decide +kernel
theorem dX5_share_6 : decode cX5_share 6 = .ok (.iload_n 1, 1) := by decide +kernel
theorem dX5_share_7 : decode cX5_share 7 = .ok (.invokevirtual 97, 3) := by decide +kernel
theorem dX5_share_10 : decode cX5_share 10 = .ok (.ifCond .eq 34, 3) := by decide +kernel
theorem dX5_share_13 : decode cX5_share 13 = .ok (.iload_n 2, 1) := by decide +kernel
theorem dX5_share_14 : decode cX5_share 14 = .ok (.iconst 1, 1) := by decide +kernel
theorem dX5_share_15 : decode cX5_share 15 = .ok (.bipush 9, 2) := by decide +kernel
theorem dX5_share_17 : decode cX5_share 17 = .ok (.invokestatic 89, 3) := by decide +kernel
theorem dX5_share_20 : decode cX5_share 20 = .ok (.ifCond .eq 24, 3) := by decide +kernel
theorem dX5_share_23 : decode cX5_share 23 = .ok (.iload_n 3, 1) := by decide +kernel
theorem dX5_share_24 : decode cX5_share 24 = .ok (.iconst 1, 1) := by decide +kernel
theorem dX5_share_25 : decode cX5_share 25 = .ok (.bipush 9, 2) := by decide +kernel
theorem dX5_share_27 : decode cX5_share 27 = .ok (.invokestatic 89, 3) := by decide +kernel
theorem dX5_share_30 : decode cX5_share 30 = .ok (.ifCond .eq 14, 3) := by decide +kernel
theorem dX5_share_33 : decode cX5_share 33 = .ok (.iload 4, 2) := by decide +kernel
theorem dX5_share_35 : decode cX5_share 35 = .ok (.iconst 0, 1) := by decide +kernel
theorem dX5_share_36 : decode cX5_share 36 = .ok (.bipush 8, 2) := by decide +kernel
theorem dX5_share_38 : decode cX5_share 38 = .ok (.invokestatic 89, 3) := by decide +kernel
theorem dX5_share_41 : decode cX5_share 41 = .ok (.ifCond .ne 5, 3) := by decide +kernel
theorem dX5_share_44 : decode cX5_share 44 = .ok (.iconst 0, 1) := by decide +kernel
theorem dX5_share_45 : decode cX5_share 45 = .ok (.ireturn, 1) := by decide +kernel
theorem dX5_share_46 : decode cX5_share 46 = .ok (.aload_n 0, 1) := by decide +kernel
theorem dX5_share_47 : decode cX5_share 47 = .ok (.getfield 25, 3) := by decide +kernel
theorem dX5_share_50 : decode cX5_share 50 = .ok (.iload_n 1, 1) := by decide +kernel
theorem dX5_share_51 : decode cX5_share 51 = .ok (.iload_n 2, 1) := by decide +kernel
theorem dX5_share_52 : decode cX5_share 52 = .ok (.iastore, 1) := by decide +kernel
theorem dX5_share_53 : decode cX5_share 53 = .ok (.aload_n 0, 1) := by decide +kernel
theorem dX5_share_54 : decode cX5_share 54 = .ok (.getfield 28, 3) := by decide +kernel
theorem dX5_share_57 : decode cX5_share 57 = .ok (.iload_n 1, 1) := by decide +kernel
theorem dX5_share_58 : decode cX5_share 58 = .ok (.iload_n 3, 1) := by decide +kernel
theorem dX5_share_59 : decode cX5_share 59 = .ok (.iastore, 1) := by decide +kernel
theorem dX5_share_60 : decode cX5_share 60 = .ok (.aload_n 0, 1) := by decide +kernel
theorem dX5_share_61 : decode cX5_share 61 = .ok (.getfield 31, 3) := by decide +kernel
theorem dX5_share_64 : decode cX5_share 64 = .ok (.iload_n 1, 1) := by decide +kernel
theorem dX5_share_65 : decode cX5_share 65 = .ok (.iload 4, 2) := by decide +kernel
theorem dX5_share_67 : decode cX5_share 67 = .ok (.iastore, 1) := by decide +kernel
theorem dX5_share_68 : decode cX5_share 68 = .ok (.iconst 1, 1) := by decide +kernel
theorem dX5_share_69 : decode cX5_share 69 = .ok (.ireturn, 1) := by decide +kernel
theorem dX5_tell_0 : decode cX5_tell 0 = .ok (.aload_n 0, 1) := by decide +kernel
theorem dX5_tell_1 : decode cX5_tell 1 = .ok (.iconst 0, 1) := by decide +kernel
theorem dX5_tell_2 : decode cX5_tell 2 = .ok (.putfield 81, 3) := by decide +kernel
theorem dX5_tell_5 : decode cX5_tell 5 = .ok (.aload_n 0, 1) := by decide +kernel
theorem dX5_tell_6 : decode cX5_tell 6 = .ok (.iload_n 1, 1) := by decide +kernel
theorem dX5_tell_7 : decode cX5_tell 7 = .ok (.invokevirtual 97, 3) := by decide +kernel
theorem dX5_tell_10 : decode cX5_tell 10 = .ok (.ifCond .ne 5, 3) := by decide +kernel
theorem dX5_tell_13 : decode cX5_tell 13 = .ok (.iconst (-1), 1) := by decide +kernel
theorem dX5_tell_14 : decode cX5_tell 14 = .ok (.ireturn, 1) := by decide +kernel
theorem dX5_tell_15 : decode cX5_tell 15 = .ok (.iload_n 2, 1) := by decide +kernel
theorem dX5_tell_16 : decode cX5_tell 16 = .ok (.tableswitch 127 0 7 #[48, 55, 62, 69, 76, 83, 90, 90], 48) := by decide +kernel
theorem dX5_tell_64 : decode cX5_tell 64 = .ok (.aload_n 0, 1) := by decide +kernel
theorem dX5_tell_65 : decode cX5_tell 65 = .ok (.getfield 16, 3) := by decide +kernel
theorem dX5_tell_68 : decode cX5_tell 68 = .ok (.iload_n 1, 1) := by decide +kernel
theorem dX5_tell_69 : decode cX5_tell 69 = .ok (.iaload, 1) := by decide +kernel
theorem dX5_tell_70 : decode cX5_tell 70 = .ok (.ireturn, 1) := by decide +kernel
theorem dX5_tell_71 : decode cX5_tell 71 = .ok (.aload_n 0, 1) := by decide +kernel
theorem dX5_tell_72 : decode cX5_tell 72 = .ok (.getfield 19, 3) := by decide +kernel
theorem dX5_tell_75 : decode cX5_tell 75 = .ok (.iload_n 1, 1) := by decide +kernel
theorem dX5_tell_76 : decode cX5_tell 76 = .ok (.iaload, 1) := by decide +kernel
theorem dX5_tell_77 : decode cX5_tell 77 = .ok (.ireturn, 1) := by decide +kernel
theorem dX5_tell_78 : decode cX5_tell 78 = .ok (.aload_n 0, 1) := by decide +kernel
theorem dX5_tell_79 : decode cX5_tell 79 = .ok (.getfield 22, 3) := by decide +kernel
theorem dX5_tell_82 : decode cX5_tell 82 = .ok (.iload_n 1, 1) := by decide +kernel
theorem dX5_tell_83 : decode cX5_tell 83 = .ok (.iaload, 1) := by decide +kernel
theorem dX5_tell_84 : decode cX5_tell 84 = .ok (.ireturn, 1) := by decide +kernel
theorem dX5_tell_85 : decode cX5_tell 85 = .ok (.aload_n 0, 1) := by decide +kernel
theorem dX5_tell_86 : decode cX5_tell 86 = .ok (.getfield 25, 3) := by decide +kernel
theorem dX5_tell_89 : decode cX5_tell 89 = .ok (.iload_n 1, 1) := by decide +kernel
theorem dX5_tell_90 : decode cX5_tell 90 = .ok (.iaload, 1) := by decide +kernel
theorem dX5_tell_91 : decode cX5_tell 91 = .ok (.ireturn, 1) := by decide +kernel
theorem dX5_tell_92 : decode cX5_tell 92 = .ok (.aload_n 0, 1) := by decide +kernel
theorem dX5_tell_93 : decode cX5_tell 93 = .ok (.getfield 28, 3) := by decide +kernel
theorem dX5_tell_96 : decode cX5_tell 96 = .ok (.iload_n 1, 1) := by decide +kernel
theorem dX5_tell_97 : decode cX5_tell 97 = .ok (.iaload, 1) := by decide +kernel
theorem dX5_tell_98 : decode cX5_tell 98 = .ok (.ireturn, 1) := by decide +kernel
theorem dX5_tell_99 : decode cX5_tell 99 = .ok (.aload_n 0, 1) := by decide +kernel
theorem dX5_tell_100 : decode cX5_tell 100 = .ok (.getfield 31, 3) := by decide +kernel
theorem dX5_tell_103 : decode cX5_tell 103 = .ok (.iload_n 1, 1) := by decide +kernel
theorem dX5_tell_104 : decode cX5_tell 104 = .ok (.iaload, 1) := by decide +kernel
theorem dX5_tell_105 : decode cX5_tell 105 = .ok (.ireturn, 1) := by decide +kernel
theorem dX5_tell_106 : decode cX5_tell 106 = .ok (.aload_n 0, 1) := by decide +kernel
theorem dX5_tell_107 : decode cX5_tell 107 = .ok (.aload_n 0, 1) := by decide +kernel
theorem dX5_tell_108 : decode cX5_tell 108 = .ok (.getfield 34, 3) := by decide +kernel
theorem dX5_tell_111 : decode cX5_tell 111 = .ok (.iload_n 1, 1) := by decide +kernel
theorem dX5_tell_112 : decode cX5_tell 112 = .ok (.iaload, 1) := by decide +kernel
theorem dX5_tell_113 : decode cX5_tell 113 = .ok (.i2l, 1) := by decide +kernel
theorem dX5_tell_114 : decode cX5_tell 114 = .ok (.aload_n 0, 1) := by decide +kernel
theorem dX5_tell_115 : decode cX5_tell 115 = .ok (.getfield 37, 3) := by decide +kernel
theorem dX5_tell_118 : decode cX5_tell 118 = .ok (.iload_n 1, 1) := by decide +kernel
theorem dX5_tell_119 : decode cX5_tell 119 = .ok (.iaload, 1) := by decide +kernel
theorem dX5_tell_120 : decode cX5_tell 120 = .ok (.i2l, 1) := by decide +kernel
theorem dX5_tell_121 : decode cX5_tell 121 = .ok (.invokevirtual 100, 3) := by decide +kernel
theorem dX5_tell_124 : decode cX5_tell 124 = .ok (.iload_n 2, 1) := by decide +kernel
theorem dX5_tell_125 : decode cX5_tell 125 = .ok (.bipush 6, 2) := by decide +kernel
theorem dX5_tell_127 : decode cX5_tell 127 = .ok (.if_icmp .ne 10, 3) := by decide +kernel
theorem dX5_tell_130 : decode cX5_tell 130 = .ok (.aload_n 0, 1) := by decide +kernel
theorem dX5_tell_131 : decode cX5_tell 131 = .ok (.getfield 104, 3) := by decide +kernel
theorem dX5_tell_134 : decode cX5_tell 134 = .ok (.goto 7, 3) := by decide +kernel
theorem dX5_tell_137 : decode cX5_tell 137 = .ok (.aload_n 0, 1) := by decide +kernel
theorem dX5_tell_138 : decode cX5_tell 138 = .ok (.getfield 108, 3) := by decide +kernel
theorem dX5_tell_141 : decode cX5_tell 141 = .ok (.l2i, 1) := by decide +kernel
theorem dX5_tell_142 : decode cX5_tell 142 = .ok (.ireturn, 1) := by decide +kernel
theorem dX5_tell_143 : decode cX5_tell 143 = .ok (.iconst (-1), 1) := by decide +kernel
theorem dX5_tell_144 : decode cX5_tell 144 = .ok (.ireturn, 1) := by decide +kernel
theorem dX5_gcd_0 : decode cX5_gcd 0 = .ok (.lload_n 0, 1) := by decide +kernel
theorem dX5_gcd_1 : decode cX5_gcd 1 = .ok (.lconst 0, 1) := by decide +kernel
theorem dX5_gcd_2 : decode cX5_gcd 2 = .ok (.lcmp, 1) := by decide +kernel
theorem dX5_gcd_3 : decode cX5_gcd 3 = .ok (.ifCond .ge 8, 3) := by decide +kernel
theorem dX5_gcd_6 : decode cX5_gcd 6 = .ok (.lload_n 0, 1) := by decide +kernel
theorem dX5_gcd_7 : decode cX5_gcd 7 = .ok (.lneg, 1) := by decide +kernel
theorem dX5_gcd_8 : decode cX5_gcd 8 = .ok (.goto 4, 3) := by decide +kernel
theorem dX5_gcd_11 : decode cX5_gcd 11 = .ok (.lload_n 0, 1) := by decide +kernel
theorem dX5_gcd_12 : decode cX5_gcd 12 = .ok (.lstore 4, 2) := by decide +kernel
theorem dX5_gcd_14 : decode cX5_gcd 14 = .ok (.lload_n 2, 1) := by decide +kernel
theorem dX5_gcd_15 : decode cX5_gcd 15 = .ok (.lstore 6, 2) := by decide +kernel
theorem dX5_gcd_17 : decode cX5_gcd 17 = .ok (.lload 6, 2) := by decide +kernel
theorem dX5_gcd_19 : decode cX5_gcd 19 = .ok (.lconst 0, 1) := by decide +kernel
theorem dX5_gcd_20 : decode cX5_gcd 20 = .ok (.lcmp, 1) := by decide +kernel
theorem dX5_gcd_21 : decode cX5_gcd 21 = .ok (.ifCond .eq 21, 3) := by decide +kernel
theorem dX5_gcd_24 : decode cX5_gcd 24 = .ok (.lload 4, 2) := by decide +kernel
theorem dX5_gcd_26 : decode cX5_gcd 26 = .ok (.lload 6, 2) := by decide +kernel
theorem dX5_gcd_28 : decode cX5_gcd 28 = .ok (.lrem, 1) := by decide +kernel
theorem dX5_gcd_29 : decode cX5_gcd 29 = .ok (.lstore 8, 2) := by decide +kernel
theorem dX5_gcd_31 : decode cX5_gcd 31 = .ok (.lload 6, 2) := by decide +kernel
theorem dX5_gcd_33 : decode cX5_gcd 33 = .ok (.lstore 4, 2) := by decide +kernel
theorem dX5_gcd_35 : decode cX5_gcd 35 = .ok (.lload 8, 2) := by decide +kernel
theorem dX5_gcd_37 : decode cX5_gcd 37 = .ok (.lstore 6, 2) := by decide +kernel
theorem dX5_gcd_39 : decode cX5_gcd 39 = .ok (.goto (-22), 3) := by decide +kernel
theorem dX5_gcd_42 : decode cX5_gcd 42 = .ok (.lload 4, 2) := by decide +kernel
theorem dX5_gcd_44 : decode cX5_gcd 44 = .ok (.lreturn, 1) := by decide +kernel
theorem dX5_put_0 : decode cX5_put 0 = .ok (.lload_n 1, 1) := by decide +kernel
theorem dX5_put_1 : decode cX5_put 1 = .ok (.lload_n 3, 1) := by decide +kernel
theorem dX5_put_2 : decode cX5_put 2 = .ok (.invokestatic 111, 3) := by decide +kernel
theorem dX5_put_5 : decode cX5_put 5 = .ok (.lstore 5, 2) := by decide +kernel
theorem dX5_put_7 : decode cX5_put 7 = .ok (.aload_n 0, 1) := by decide +kernel
theorem dX5_put_8 : decode cX5_put 8 = .ok (.lload_n 1, 1) := by decide +kernel
theorem dX5_put_9 : decode cX5_put 9 = .ok (.lload 5, 2) := by decide +kernel
theorem dX5_put_11 : decode cX5_put 11 = .ok (.ldiv, 1) := by decide +kernel
theorem dX5_put_12 : decode cX5_put 12 = .ok (.putfield 104, 3) := by decide +kernel
theorem dX5_put_15 : decode cX5_put 15 = .ok (.aload_n 0, 1) := by decide +kernel
theorem dX5_put_16 : decode cX5_put 16 = .ok (.lload_n 3, 1) := by decide +kernel
theorem dX5_put_17 : decode cX5_put 17 = .ok (.lload 5, 2) := by decide +kernel
theorem dX5_put_19 : decode cX5_put 19 = .ok (.ldiv, 1) := by decide +kernel
theorem dX5_put_20 : decode cX5_put 20 = .ok (.putfield 108, 3) := by decide +kernel
theorem dX5_put_23 : decode cX5_put 23 = .ok (.return_, 1) := by decide +kernel
theorem dX5_isLess_0 : decode cX5_isLess 0 = .ok (.lload_n 0, 1) := by decide +kernel
theorem dX5_isLess_1 : decode cX5_isLess 1 = .ok (.lstore 8, 2) := by decide +kernel
theorem dX5_isLess_3 : decode cX5_isLess 3 = .ok (.lload_n 2, 1) := by decide +kernel
theorem dX5_isLess_4 : decode cX5_isLess 4 = .ok (.lstore 10, 2) := by decide +kernel
theorem dX5_isLess_6 : decode cX5_isLess 6 = .ok (.lload 4, 2) := by decide +kernel
theorem dX5_isLess_8 : decode cX5_isLess 8 = .ok (.lstore 12, 2) := by decide +kernel
theorem dX5_isLess_10 : decode cX5_isLess 10 = .ok (.lload 6, 2) := by decide +kernel
theorem dX5_isLess_12 : decode cX5_isLess 12 = .ok (.lstore 14, 2) := by decide +kernel
theorem dX5_isLess_14 : decode cX5_isLess 14 = .ok (.lload 8, 2) := by decide +kernel
theorem dX5_isLess_16 : decode cX5_isLess 16 = .ok (.lload 10, 2) := by decide +kernel
theorem dX5_isLess_18 : decode cX5_isLess 18 = .ok (.ldiv, 1) := by decide +kernel
theorem dX5_isLess_19 : decode cX5_isLess 19 = .ok (.lstore 16, 2) := by decide +kernel
theorem dX5_isLess_21 : decode cX5_isLess 21 = .ok (.lload 12, 2) := by decide +kernel
theorem dX5_isLess_23 : decode cX5_isLess 23 = .ok (.lload 14, 2) := by decide +kernel
theorem dX5_isLess_25 : decode cX5_isLess 25 = .ok (.ldiv, 1) := by decide +kernel
theorem dX5_isLess_26 : decode cX5_isLess 26 = .ok (.lstore 18, 2) := by decide +kernel
theorem dX5_isLess_28 : decode cX5_isLess 28 = .ok (.lload 16, 2) := by decide +kernel
theorem dX5_isLess_30 : decode cX5_isLess 30 = .ok (.lload 18, 2) := by decide +kernel
theorem dX5_isLess_32 : decode cX5_isLess 32 = .ok (.lcmp, 1) := by decide +kernel
theorem dX5_isLess_33 : decode cX5_isLess 33 = .ok (.ifCond .eq 17, 3) := by decide +kernel
theorem dX5_isLess_36 : decode cX5_isLess 36 = .ok (.lload 16, 2) := by decide +kernel
theorem dX5_isLess_38 : decode cX5_isLess 38 = .ok (.lload 18, 2) := by decide +kernel
theorem dX5_isLess_40 : decode cX5_isLess 40 = .ok (.lcmp, 1) := by decide +kernel
theorem dX5_isLess_41 : decode cX5_isLess 41 = .ok (.ifCond .ge 7, 3) := by decide +kernel
theorem dX5_isLess_44 : decode cX5_isLess 44 = .ok (.iconst 1, 1) := by decide +kernel
theorem dX5_isLess_45 : decode cX5_isLess 45 = .ok (.goto 4, 3) := by decide +kernel
theorem dX5_isLess_48 : decode cX5_isLess 48 = .ok (.iconst 0, 1) := by decide +kernel
theorem dX5_isLess_49 : decode cX5_isLess 49 = .ok (.ireturn, 1) := by decide +kernel
theorem dX5_isLess_50 : decode cX5_isLess 50 = .ok (.lload 8, 2) := by decide +kernel
theorem dX5_isLess_52 : decode cX5_isLess 52 = .ok (.lload 16, 2) := by decide +kernel
theorem dX5_isLess_54 : decode cX5_isLess 54 = .ok (.lload 10, 2) := by decide +kernel
theorem dX5_isLess_56 : decode cX5_isLess 56 = .ok (.lmul, 1) := by decide +kernel
theorem dX5_isLess_57 : decode cX5_isLess 57 = .ok (.lsub, 1) := by decide +kernel
theorem dX5_isLess_58 : decode cX5_isLess 58 = .ok (.lstore 8, 2) := by decide +kernel
theorem dX5_isLess_60 : decode cX5_isLess 60 = .ok (.lload 12, 2) := by decide +kernel
theorem dX5_isLess_62 : decode cX5_isLess 62 = .ok (.lload 18, 2) := by decide +kernel
theorem dX5_isLess_64 : decode cX5_isLess 64 = .ok (.lload 14, 2) := by decide +kernel
theorem dX5_isLess_66 : decode cX5_isLess 66 = .ok (.lmul, 1) := by decide +kernel
theorem dX5_isLess_67 : decode cX5_isLess 67 = .ok (.lsub, 1) := by decide +kernel
theorem dX5_isLess_68 : decode cX5_isLess 68 = .ok (.lstore 12, 2) := by decide +kernel
theorem dX5_isLess_70 : decode cX5_isLess 70 = .ok (.lload 8, 2) := by decide +kernel
theorem dX5_isLess_72 : decode cX5_isLess 72 = .ok (.lconst 0, 1) := by decide +kernel
theorem dX5_isLess_73 : decode cX5_isLess 73 = .ok (.lcmp, 1) := by decide +kernel
theorem dX5_isLess_74 : decode cX5_isLess 74 = .ok (.ifCond .eq 10, 3) := by decide +kernel
theorem dX5_isLess_77 : decode cX5_isLess 77 = .ok (.lload 12, 2) := by decide +kernel
theorem dX5_isLess_79 : decode cX5_isLess 79 = .ok (.lconst 0, 1) := by decide +kernel
theorem dX5_isLess_80 : decode cX5_isLess 80 = .ok (.lcmp, 1) := by decide +kernel
theorem dX5_isLess_81 : decode cX5_isLess 81 = .ok (.ifCond .ne 23, 3) := by decide +kernel
theorem dX5_isLess_84 : decode cX5_isLess 84 = .ok (.lload 8, 2) := by decide +kernel
theorem dX5_isLess_86 : decode cX5_isLess 86 = .ok (.lconst 0, 1) := by decide +kernel
theorem dX5_isLess_87 : decode cX5_isLess 87 = .ok (.lcmp, 1) := by decide +kernel
theorem dX5_isLess_88 : decode cX5_isLess 88 = .ok (.ifCond .ne 14, 3) := by decide +kernel
theorem dX5_isLess_91 : decode cX5_isLess 91 = .ok (.lload 12, 2) := by decide +kernel
theorem dX5_isLess_93 : decode cX5_isLess 93 = .ok (.lconst 0, 1) := by decide +kernel
theorem dX5_isLess_94 : decode cX5_isLess 94 = .ok (.lcmp, 1) := by decide +kernel
theorem dX5_isLess_95 : decode cX5_isLess 95 = .ok (.ifCond .le 7, 3) := by decide +kernel
theorem dX5_isLess_98 : decode cX5_isLess 98 = .ok (.iconst 1, 1) := by decide +kernel
theorem dX5_isLess_99 : decode cX5_isLess 99 = .ok (.goto 4, 3) := by decide +kernel
theorem dX5_isLess_102 : decode cX5_isLess 102 = .ok (.iconst 0, 1) := by decide +kernel
theorem dX5_isLess_103 : decode cX5_isLess 103 = .ok (.ireturn, 1) := by decide +kernel
theorem dX5_isLess_104 : decode cX5_isLess 104 = .ok (.lload 8, 2) := by decide +kernel
theorem dX5_isLess_106 : decode cX5_isLess 106 = .ok (.lstore 20, 2) := by decide +kernel
theorem dX5_isLess_108 : decode cX5_isLess 108 = .ok (.lload 10, 2) := by decide +kernel
theorem dX5_isLess_110 : decode cX5_isLess 110 = .ok (.lstore 22, 2) := by decide +kernel
theorem dX5_isLess_112 : decode cX5_isLess 112 = .ok (.lload 14, 2) := by decide +kernel
theorem dX5_isLess_114 : decode cX5_isLess 114 = .ok (.lstore 8, 2) := by decide +kernel
theorem dX5_isLess_116 : decode cX5_isLess 116 = .ok (.lload 12, 2) := by decide +kernel
theorem dX5_isLess_118 : decode cX5_isLess 118 = .ok (.lstore 10, 2) := by decide +kernel
theorem dX5_isLess_120 : decode cX5_isLess 120 = .ok (.lload 22, 2) := by decide +kernel
theorem dX5_isLess_122 : decode cX5_isLess 122 = .ok (.lstore 12, 2) := by decide +kernel
theorem dX5_isLess_124 : decode cX5_isLess 124 = .ok (.lload 20, 2) := by decide +kernel
theorem dX5_isLess_126 : decode cX5_isLess 126 = .ok (.lstore 14, 2) := by decide +kernel
theorem dX5_isLess_128 : decode cX5_isLess 128 = .ok (.goto (-114), 3) := by decide +kernel
theorem dX5_setShares_0 : decode cX5_setShares 0 = .ok (.iconst 0, 1) := by decide +kernel
theorem dX5_setShares_1 : decode cX5_setShares 1 = .ok (.istore_n 2, 1) := by decide +kernel
theorem dX5_setShares_2 : decode cX5_setShares 2 = .ok (.iload_n 2, 1) := by decide +kernel
theorem dX5_setShares_3 : decode cX5_setShares 3 = .ok (.aload_n 0, 1) := by decide +kernel
theorem dX5_setShares_4 : decode cX5_setShares 4 = .ok (.getfield 13, 3) := by decide +kernel
theorem dX5_setShares_7 : decode cX5_setShares 7 = .ok (.iconst 0, 1) := by decide +kernel
theorem dX5_setShares_8 : decode cX5_setShares 8 = .ok (.iaload, 1) := by decide +kernel
theorem dX5_setShares_9 : decode cX5_setShares 9 = .ok (.if_icmp .ge 92, 3) := by decide +kernel
theorem dX5_setShares_12 : decode cX5_setShares 12 = .ok (.iload_n 1, 1) := by decide +kernel
theorem dX5_setShares_13 : decode cX5_setShares 13 = .ok (.ifCond .ne 7, 3) := by decide +kernel
theorem dX5_setShares_16 : decode cX5_setShares 16 = .ok (.iconst 0, 1) := by decide +kernel
theorem dX5_setShares_17 : decode cX5_setShares 17 = .ok (.goto 24, 3) := by decide +kernel
theorem dX5_setShares_20 : decode cX5_setShares 20 = .ok (.iload_n 1, 1) := by decide +kernel
theorem dX5_setShares_21 : decode cX5_setShares 21 = .ok (.iconst 1, 1) := by decide +kernel
theorem dX5_setShares_22 : decode cX5_setShares 22 = .ok (.if_icmp .ne 13, 3) := by decide +kernel
theorem dX5_setShares_25 : decode cX5_setShares 25 = .ok (.aload_n 0, 1) := by decide +kernel
theorem dX5_setShares_26 : decode cX5_setShares 26 = .ok (.getfield 31, 3) := by decide +kernel
theorem dX5_setShares_29 : decode cX5_setShares 29 = .ok (.iload_n 2, 1) := by decide +kernel
theorem dX5_setShares_30 : decode cX5_setShares 30 = .ok (.iaload, 1) := by decide +kernel
theorem dX5_setShares_31 : decode cX5_setShares 31 = .ok (.ineg, 1) := by decide +kernel
theorem dX5_setShares_32 : decode cX5_setShares 32 = .ok (.goto 9, 3) := by decide +kernel
theorem dX5_setShares_35 : decode cX5_setShares 35 = .ok (.aload_n 0, 1) := by decide +kernel
theorem dX5_setShares_36 : decode cX5_setShares 36 = .ok (.getfield 31, 3) := by decide +kernel
theorem dX5_setShares_39 : decode cX5_setShares 39 = .ok (.iload_n 2, 1) := by decide +kernel
theorem dX5_setShares_40 : decode cX5_setShares 40 = .ok (.iaload, 1) := by decide +kernel
theorem dX5_setShares_41 : decode cX5_setShares 41 = .ok (.istore_n 3, 1) := by decide +kernel
theorem dX5_setShares_42 : decode cX5_setShares 42 = .ok (.aload_n 0, 1) := by decide +kernel
theorem dX5_setShares_43 : decode cX5_setShares 43 = .ok (.getfield 53, 3) := by decide +kernel
theorem dX5_setShares_46 : decode cX5_setShares 46 = .ok (.iload_n 2, 1) := by decide +kernel
theorem dX5_setShares_47 : decode cX5_setShares 47 = .ok (.aload_n 0, 1) := by decide +kernel
theorem dX5_setShares_48 : decode cX5_setShares 48 = .ok (.getfield 25, 3) := by decide +kernel
theorem dX5_setShares_51 : decode cX5_setShares 51 = .ok (.iload_n 2, 1) := by decide +kernel
theorem dX5_setShares_52 : decode cX5_setShares 52 = .ok (.iaload, 1) := by decide +kernel
theorem dX5_setShares_53 : decode cX5_setShares 53 = .ok (.iload_n 3, 1) := by decide +kernel
theorem dX5_setShares_54 : decode cX5_setShares 54 = .ok (.iadd, 1) := by decide +kernel
theorem dX5_setShares_55 : decode cX5_setShares 55 = .ok (.ifCond .ge 7, 3) := by decide +kernel
theorem dX5_setShares_58 : decode cX5_setShares 58 = .ok (.iconst 0, 1) := by decide +kernel
theorem dX5_setShares_59 : decode cX5_setShares 59 = .ok (.goto 11, 3) := by decide +kernel
theorem dX5_setShares_62 : decode cX5_setShares 62 = .ok (.aload_n 0, 1) := by decide +kernel
theorem dX5_setShares_63 : decode cX5_setShares 63 = .ok (.getfield 25, 3) := by decide +kernel
theorem dX5_setShares_66 : decode cX5_setShares 66 = .ok (.iload_n 2, 1) := by decide +kernel
theorem dX5_setShares_67 : decode cX5_setShares 67 = .ok (.iaload, 1) := by decide +kernel
theorem dX5_setShares_68 : decode cX5_setShares 68 = .ok (.iload_n 3, 1) := by decide +kernel
theorem dX5_setShares_69 : decode cX5_setShares 69 = .ok (.iadd, 1) := by decide +kernel
theorem dX5_setShares_70 : decode cX5_setShares 70 = .ok (.iastore, 1) := by decide +kernel
theorem dX5_setShares_71 : decode cX5_setShares 71 = .ok (.aload_n 0, 1) := by decide +kernel
theorem dX5_setShares_72 : decode cX5_setShares 72 = .ok (.getfield 56, 3) := by decide +kernel
theorem dX5_setShares_75 : decode cX5_setShares 75 = .ok (.iload_n 2, 1) := by decide +kernel
theorem dX5_setShares_76 : decode cX5_setShares 76 = .ok (.aload_n 0, 1) := by decide +kernel
theorem dX5_setShares_77 : decode cX5_setShares 77 = .ok (.getfield 28, 3) := by decide +kernel
theorem dX5_setShares_80 : decode cX5_setShares 80 = .ok (.iload_n 2, 1) := by decide +kernel
theorem dX5_setShares_81 : decode cX5_setShares 81 = .ok (.iaload, 1) := by decide +kernel
theorem dX5_setShares_82 : decode cX5_setShares 82 = .ok (.iastore, 1) := by decide +kernel
theorem dX5_setShares_83 : decode cX5_setShares 83 = .ok (.aload_n 0, 1) := by decide +kernel
theorem dX5_setShares_84 : decode cX5_setShares 84 = .ok (.getfield 59, 3) := by decide +kernel
theorem dX5_setShares_87 : decode cX5_setShares 87 = .ok (.iload_n 2, 1) := by decide +kernel
theorem dX5_setShares_88 : decode cX5_setShares 88 = .ok (.aload_n 0, 1) := by decide +kernel
theorem dX5_setShares_89 : decode cX5_setShares 89 = .ok (.getfield 22, 3) := by decide +kernel
theorem dX5_setShares_92 : decode cX5_setShares 92 = .ok (.iload_n 2, 1) := by decide +kernel
theorem dX5_setShares_93 : decode cX5_setShares 93 = .ok (.iaload, 1) := by decide +kernel
theorem dX5_setShares_94 : decode cX5_setShares 94 = .ok (.iastore, 1) := by decide +kernel
theorem dX5_setShares_95 : decode cX5_setShares 95 = .ok (.iinc 2 1, 3) := by decide +kernel
theorem dX5_setShares_98 : decode cX5_setShares 98 = .ok (.goto (-96), 3) := by decide +kernel
theorem dX5_setShares_101 : decode cX5_setShares 101 = .ok (.return_, 1) := by decide +kernel
theorem dX5_findPrices_0 : decode cX5_findPrices 0 = .ok (.aload_n 0, 1) := by decide +kernel
theorem dX5_findPrices_1 : decode cX5_findPrices 1 = .ok (.getfield 7, 3) := by decide +kernel
theorem dX5_findPrices_4 : decode cX5_findPrices 4 = .ok (.iconst 0, 1) := by decide +kernel
theorem dX5_findPrices_5 : decode cX5_findPrices 5 = .ok (.iaload, 1) := by decide +kernel
theorem dX5_findPrices_6 : decode cX5_findPrices 6 = .ok (.iconst 1, 1) := by decide +kernel
theorem dX5_findPrices_7 : decode cX5_findPrices 7 = .ok (.isub, 1) := by decide +kernel
theorem dX5_findPrices_8 : decode cX5_findPrices 8 = .ok (.istore_n 1, 1) := by decide +kernel
theorem dX5_findPrices_9 : decode cX5_findPrices 9 = .ok (.iconst 0, 1) := by decide +kernel
theorem dX5_findPrices_10 : decode cX5_findPrices 10 = .ok (.istore_n 2, 1) := by decide +kernel
theorem dX5_findPrices_11 : decode cX5_findPrices 11 = .ok (.iload_n 2, 1) := by decide +kernel
theorem dX5_findPrices_12 : decode cX5_findPrices 12 = .ok (.iload_n 1, 1) := by decide +kernel
theorem dX5_findPrices_13 : decode cX5_findPrices 13 = .ok (.if_icmp .gt 55, 3) := by decide +kernel
theorem dX5_findPrices_16 : decode cX5_findPrices 16 = .ok (.aload_n 0, 1) := by decide +kernel
theorem dX5_findPrices_17 : decode cX5_findPrices 17 = .ok (.getfield 65, 3) := by decide +kernel
theorem dX5_findPrices_20 : decode cX5_findPrices 20 = .ok (.iload_n 2, 1) := by decide +kernel
theorem dX5_findPrices_21 : decode cX5_findPrices 21 = .ok (.iload_n 2, 1) := by decide +kernel
theorem dX5_findPrices_22 : decode cX5_findPrices 22 = .ok (.iload_n 1, 1) := by decide +kernel
theorem dX5_findPrices_23 : decode cX5_findPrices 23 = .ok (.if_icmp .ne 7, 3) := by decide +kernel
theorem dX5_findPrices_26 : decode cX5_findPrices 26 = .ok (.lconst 1, 1) := by decide +kernel
theorem dX5_findPrices_27 : decode cX5_findPrices 27 = .ok (.goto 4, 3) := by decide +kernel
theorem dX5_findPrices_30 : decode cX5_findPrices 30 = .ok (.lconst 0, 1) := by decide +kernel
theorem dX5_findPrices_31 : decode cX5_findPrices 31 = .ok (.lastore, 1) := by decide +kernel
theorem dX5_findPrices_32 : decode cX5_findPrices 32 = .ok (.aload_n 0, 1) := by decide +kernel
theorem dX5_findPrices_33 : decode cX5_findPrices 33 = .ok (.getfield 68, 3) := by decide +kernel
theorem dX5_findPrices_36 : decode cX5_findPrices 36 = .ok (.iload_n 2, 1) := by decide +kernel
theorem dX5_findPrices_37 : decode cX5_findPrices 37 = .ok (.iload_n 2, 1) := by decide +kernel
theorem dX5_findPrices_38 : decode cX5_findPrices 38 = .ok (.iload_n 1, 1) := by decide +kernel
theorem dX5_findPrices_39 : decode cX5_findPrices 39 = .ok (.if_icmp .eq 17, 3) := by decide +kernel
theorem dX5_findPrices_42 : decode cX5_findPrices 42 = .ok (.iload_n 2, 1) := by decide +kernel
theorem dX5_findPrices_43 : decode cX5_findPrices 43 = .ok (.ifCond .eq 13, 3) := by decide +kernel
theorem dX5_findPrices_46 : decode cX5_findPrices 46 = .ok (.aload_n 0, 1) := by decide +kernel
theorem dX5_findPrices_47 : decode cX5_findPrices 47 = .ok (.getfield 62, 3) := by decide +kernel
theorem dX5_findPrices_50 : decode cX5_findPrices 50 = .ok (.iload_n 2, 1) := by decide +kernel
theorem dX5_findPrices_51 : decode cX5_findPrices 51 = .ok (.iaload, 1) := by decide +kernel
theorem dX5_findPrices_52 : decode cX5_findPrices 52 = .ok (.iconst (-1), 1) := by decide +kernel
theorem dX5_findPrices_53 : decode cX5_findPrices 53 = .ok (.if_icmp .ne 7, 3) := by decide +kernel
theorem dX5_findPrices_56 : decode cX5_findPrices 56 = .ok (.lconst 1, 1) := by decide +kernel
theorem dX5_findPrices_57 : decode cX5_findPrices 57 = .ok (.goto 4, 3) := by decide +kernel
theorem dX5_findPrices_60 : decode cX5_findPrices 60 = .ok (.lconst 0, 1) := by decide +kernel
theorem dX5_findPrices_61 : decode cX5_findPrices 61 = .ok (.lastore, 1) := by decide +kernel
theorem dX5_findPrices_62 : decode cX5_findPrices 62 = .ok (.iinc 2 1, 3) := by decide +kernel
theorem dX5_findPrices_65 : decode cX5_findPrices 65 = .ok (.goto (-54), 3) := by decide +kernel
theorem dX5_findPrices_68 : decode cX5_findPrices 68 = .ok (.iconst 0, 1) := by decide +kernel
theorem dX5_findPrices_69 : decode cX5_findPrices 69 = .ok (.istore_n 2, 1) := by decide +kernel
theorem dX5_findPrices_70 : decode cX5_findPrices 70 = .ok (.iload_n 2, 1) := by decide +kernel
theorem dX5_findPrices_71 : decode cX5_findPrices 71 = .ok (.iconst 3, 1) := by decide +kernel
theorem dX5_findPrices_72 : decode cX5_findPrices 72 = .ok (.if_icmp .ge 207, 3) := by decide +kernel
theorem dX5_findPrices_75 : decode cX5_findPrices 75 = .ok (.iconst 1, 1) := by decide +kernel
theorem dX5_findPrices_76 : decode cX5_findPrices 76 = .ok (.istore_n 3, 1) := by decide +kernel
theorem dX5_findPrices_77 : decode cX5_findPrices 77 = .ok (.iload_n 3, 1) := by decide +kernel
theorem dX5_findPrices_78 : decode cX5_findPrices 78 = .ok (.iload_n 1, 1) := by decide +kernel
theorem dX5_findPrices_79 : decode cX5_findPrices 79 = .ok (.if_icmp .ge 194, 3) := by decide +kernel
theorem dX5_findPrices_82 : decode cX5_findPrices 82 = .ok (.aload_n 0, 1) := by decide +kernel
theorem dX5_findPrices_83 : decode cX5_findPrices 83 = .ok (.getfield 68, 3) := by decide +kernel
theorem dX5_findPrices_86 : decode cX5_findPrices 86 = .ok (.iload_n 3, 1) := by decide +kernel
theorem dX5_findPrices_87 : decode cX5_findPrices 87 = .ok (.laload, 1) := by decide +kernel
theorem dX5_findPrices_88 : decode cX5_findPrices 88 = .ok (.lconst 0, 1) := by decide +kernel
theorem dX5_findPrices_89 : decode cX5_findPrices 89 = .ok (.lcmp, 1) := by decide +kernel
theorem dX5_findPrices_90 : decode cX5_findPrices 90 = .ok (.ifCond .le 6, 3) := by decide +kernel
theorem dX5_findPrices_93 : decode cX5_findPrices 93 = .ok (.goto 174, 3) := by decide +kernel
theorem dX5_findPrices_96 : decode cX5_findPrices 96 = .ok (.aload_n 0, 1) := by decide +kernel
theorem dX5_findPrices_97 : decode cX5_findPrices 97 = .ok (.getfield 62, 3) := by decide +kernel
theorem dX5_findPrices_100 : decode cX5_findPrices 100 = .ok (.iload_n 3, 1) := by decide +kernel
theorem dX5_findPrices_101 : decode cX5_findPrices 101 = .ok (.iaload, 1) := by decide +kernel
theorem dX5_findPrices_102 : decode cX5_findPrices 102 = .ok (.istore 4, 2) := by decide +kernel
theorem dX5_findPrices_104 : decode cX5_findPrices 104 = .ok (.aload_n 0, 1) := by decide +kernel
theorem dX5_findPrices_105 : decode cX5_findPrices 105 = .ok (.getfield 16, 3) := by decide +kernel
theorem dX5_findPrices_108 : decode cX5_findPrices 108 = .ok (.iload 4, 2) := by decide +kernel
theorem dX5_findPrices_110 : decode cX5_findPrices 110 = .ok (.iaload, 1) := by decide +kernel
theorem dX5_findPrices_111 : decode cX5_findPrices 111 = .ok (.iload_n 3, 1) := by decide +kernel
theorem dX5_findPrices_112 : decode cX5_findPrices 112 = .ok (.if_icmp .ne 13, 3) := by decide +kernel
theorem dX5_findPrices_115 : decode cX5_findPrices 115 = .ok (.aload_n 0, 1) := by decide +kernel
theorem dX5_findPrices_116 : decode cX5_findPrices 116 = .ok (.getfield 19, 3) := by decide +kernel
theorem dX5_findPrices_119 : decode cX5_findPrices 119 = .ok (.iload 4, 2) := by decide +kernel
theorem dX5_findPrices_121 : decode cX5_findPrices 121 = .ok (.iaload, 1) := by decide +kernel
theorem dX5_findPrices_122 : decode cX5_findPrices 122 = .ok (.goto 10, 3) := by decide +kernel
theorem dX5_findPrices_125 : decode cX5_findPrices 125 = .ok (.aload_n 0, 1) := by decide +kernel
theorem dX5_findPrices_126 : decode cX5_findPrices 126 = .ok (.getfield 16, 3) := by decide +kernel
theorem dX5_findPrices_129 : decode cX5_findPrices 129 = .ok (.iload 4, 2) := by decide +kernel
theorem dX5_findPrices_131 : decode cX5_findPrices 131 = .ok (.iaload, 1) := by decide +kernel
theorem dX5_findPrices_132 : decode cX5_findPrices 132 = .ok (.istore 5, 2) := by decide +kernel
theorem dX5_findPrices_134 : decode cX5_findPrices 134 = .ok (.aload_n 0, 1) := by decide +kernel
theorem dX5_findPrices_135 : decode cX5_findPrices 135 = .ok (.getfield 68, 3) := by decide +kernel
theorem dX5_findPrices_138 : decode cX5_findPrices 138 = .ok (.iload 5, 2) := by decide +kernel
theorem dX5_findPrices_140 : decode cX5_findPrices 140 = .ok (.laload, 1) := by decide +kernel
theorem dX5_findPrices_141 : decode cX5_findPrices 141 = .ok (.lconst 0, 1) := by decide +kernel
theorem dX5_findPrices_142 : decode cX5_findPrices 142 = .ok (.lcmp, 1) := by decide +kernel
theorem dX5_findPrices_143 : decode cX5_findPrices 143 = .ok (.ifCond .ne 6, 3) := by decide +kernel
theorem dX5_findPrices_146 : decode cX5_findPrices 146 = .ok (.goto 121, 3) := by decide +kernel
theorem dX5_findPrices_149 : decode cX5_findPrices 149 = .ok (.aload_n 0, 1) := by decide +kernel
theorem dX5_findPrices_150 : decode cX5_findPrices 150 = .ok (.getfield 16, 3) := by decide +kernel
theorem dX5_findPrices_153 : decode cX5_findPrices 153 = .ok (.iload 4, 2) := by decide +kernel
theorem dX5_findPrices_155 : decode cX5_findPrices 155 = .ok (.iaload, 1) := by decide +kernel
theorem dX5_findPrices_156 : decode cX5_findPrices 156 = .ok (.iload_n 3, 1) := by decide +kernel
theorem dX5_findPrices_157 : decode cX5_findPrices 157 = .ok (.if_icmp .ne 42, 3) := by decide +kernel
theorem dX5_findPrices_160 : decode cX5_findPrices 160 = .ok (.aload_n 0, 1) := by decide +kernel
theorem dX5_findPrices_161 : decode cX5_findPrices 161 = .ok (.aload_n 0, 1) := by decide +kernel
theorem dX5_findPrices_162 : decode cX5_findPrices 162 = .ok (.getfield 65, 3) := by decide +kernel
theorem dX5_findPrices_165 : decode cX5_findPrices 165 = .ok (.iload 5, 2) := by decide +kernel
theorem dX5_findPrices_167 : decode cX5_findPrices 167 = .ok (.laload, 1) := by decide +kernel
theorem dX5_findPrices_168 : decode cX5_findPrices 168 = .ok (.aload_n 0, 1) := by decide +kernel
theorem dX5_findPrices_169 : decode cX5_findPrices 169 = .ok (.getfield 53, 3) := by decide +kernel
theorem dX5_findPrices_172 : decode cX5_findPrices 172 = .ok (.iload 4, 2) := by decide +kernel
theorem dX5_findPrices_174 : decode cX5_findPrices 174 = .ok (.iaload, 1) := by decide +kernel
theorem dX5_findPrices_175 : decode cX5_findPrices 175 = .ok (.i2l, 1) := by decide +kernel
theorem dX5_findPrices_176 : decode cX5_findPrices 176 = .ok (.lmul, 1) := by decide +kernel
theorem dX5_findPrices_177 : decode cX5_findPrices 177 = .ok (.aload_n 0, 1) := by decide +kernel
theorem dX5_findPrices_178 : decode cX5_findPrices 178 = .ok (.getfield 68, 3) := by decide +kernel
theorem dX5_findPrices_181 : decode cX5_findPrices 181 = .ok (.iload 5, 2) := by decide +kernel
theorem dX5_findPrices_183 : decode cX5_findPrices 183 = .ok (.laload, 1) := by decide +kernel
theorem dX5_findPrices_184 : decode cX5_findPrices 184 = .ok (.aload_n 0, 1) := by decide +kernel
theorem dX5_findPrices_185 : decode cX5_findPrices 185 = .ok (.getfield 56, 3) := by decide +kernel
theorem dX5_findPrices_188 : decode cX5_findPrices 188 = .ok (.iload 4, 2) := by decide +kernel
theorem dX5_findPrices_190 : decode cX5_findPrices 190 = .ok (.iaload, 1) := by decide +kernel
theorem dX5_findPrices_191 : decode cX5_findPrices 191 = .ok (.i2l, 1) := by decide +kernel
theorem dX5_findPrices_192 : decode cX5_findPrices 192 = .ok (.lmul, 1) := by decide +kernel
theorem dX5_findPrices_193 : decode cX5_findPrices 193 = .ok (.invokevirtual 100, 3) := by decide +kernel
theorem dX5_findPrices_196 : decode cX5_findPrices 196 = .ok (.goto 51, 3) := by decide +kernel
theorem dX5_findPrices_199 : decode cX5_findPrices 199 = .ok (.aload_n 0, 1) := by decide +kernel
theorem dX5_findPrices_200 : decode cX5_findPrices 200 = .ok (.getfield 53, 3) := by decide +kernel
theorem dX5_findPrices_203 : decode cX5_findPrices 203 = .ok (.iload 4, 2) := by decide +kernel
theorem dX5_findPrices_205 : decode cX5_findPrices 205 = .ok (.iaload, 1) := by decide +kernel
theorem dX5_findPrices_206 : decode cX5_findPrices 206 = .ok (.ifCond .ne 5, 3) := by decide +kernel
theorem dX5_findPrices_209 : decode cX5_findPrices 209 = .ok (.iconst 0, 1) := by decide +kernel
theorem dX5_findPrices_210 : decode cX5_findPrices 210 = .ok (.ireturn, 1) := by decide +kernel
theorem dX5_findPrices_211 : decode cX5_findPrices 211 = .ok (.aload_n 0, 1) := by decide +kernel
theorem dX5_findPrices_212 : decode cX5_findPrices 212 = .ok (.aload_n 0, 1) := by decide +kernel
theorem dX5_findPrices_213 : decode cX5_findPrices 213 = .ok (.getfield 65, 3) := by decide +kernel
theorem dX5_findPrices_216 : decode cX5_findPrices 216 = .ok (.iload 5, 2) := by decide +kernel
theorem dX5_findPrices_218 : decode cX5_findPrices 218 = .ok (.laload, 1) := by decide +kernel
theorem dX5_findPrices_219 : decode cX5_findPrices 219 = .ok (.aload_n 0, 1) := by decide +kernel
theorem dX5_findPrices_220 : decode cX5_findPrices 220 = .ok (.getfield 56, 3) := by decide +kernel
theorem dX5_findPrices_223 : decode cX5_findPrices 223 = .ok (.iload 4, 2) := by decide +kernel
theorem dX5_findPrices_225 : decode cX5_findPrices 225 = .ok (.iaload, 1) := by decide +kernel
theorem dX5_findPrices_226 : decode cX5_findPrices 226 = .ok (.i2l, 1) := by decide +kernel
theorem dX5_findPrices_227 : decode cX5_findPrices 227 = .ok (.lmul, 1) := by decide +kernel
theorem dX5_findPrices_228 : decode cX5_findPrices 228 = .ok (.aload_n 0, 1) := by decide +kernel
theorem dX5_findPrices_229 : decode cX5_findPrices 229 = .ok (.getfield 68, 3) := by decide +kernel
theorem dX5_findPrices_232 : decode cX5_findPrices 232 = .ok (.iload 5, 2) := by decide +kernel
theorem dX5_findPrices_234 : decode cX5_findPrices 234 = .ok (.laload, 1) := by decide +kernel
theorem dX5_findPrices_235 : decode cX5_findPrices 235 = .ok (.aload_n 0, 1) := by decide +kernel
theorem dX5_findPrices_236 : decode cX5_findPrices 236 = .ok (.getfield 53, 3) := by decide +kernel
theorem dX5_findPrices_239 : decode cX5_findPrices 239 = .ok (.iload 4, 2) := by decide +kernel
theorem dX5_findPrices_241 : decode cX5_findPrices 241 = .ok (.iaload, 1) := by decide +kernel
theorem dX5_findPrices_242 : decode cX5_findPrices 242 = .ok (.i2l, 1) := by decide +kernel
theorem dX5_findPrices_243 : decode cX5_findPrices 243 = .ok (.lmul, 1) := by decide +kernel
theorem dX5_findPrices_244 : decode cX5_findPrices 244 = .ok (.invokevirtual 100, 3) := by decide +kernel
theorem dX5_findPrices_247 : decode cX5_findPrices 247 = .ok (.aload_n 0, 1) := by decide +kernel
theorem dX5_findPrices_248 : decode cX5_findPrices 248 = .ok (.getfield 65, 3) := by decide +kernel
theorem dX5_findPrices_251 : decode cX5_findPrices 251 = .ok (.iload_n 3, 1) := by decide +kernel
theorem dX5_findPrices_252 : decode cX5_findPrices 252 = .ok (.aload_n 0, 1) := by decide +kernel
theorem dX5_findPrices_253 : decode cX5_findPrices 253 = .ok (.getfield 104, 3) := by decide +kernel
theorem dX5_findPrices_256 : decode cX5_findPrices 256 = .ok (.lastore, 1) := by decide +kernel
theorem dX5_findPrices_257 : decode cX5_findPrices 257 = .ok (.aload_n 0, 1) := by decide +kernel
theorem dX5_findPrices_258 : decode cX5_findPrices 258 = .ok (.getfield 68, 3) := by decide +kernel
theorem dX5_findPrices_261 : decode cX5_findPrices 261 = .ok (.iload_n 3, 1) := by decide +kernel
theorem dX5_findPrices_262 : decode cX5_findPrices 262 = .ok (.aload_n 0, 1) := by decide +kernel
theorem dX5_findPrices_263 : decode cX5_findPrices 263 = .ok (.getfield 108, 3) := by decide +kernel
theorem dX5_findPrices_266 : decode cX5_findPrices 266 = .ok (.lastore, 1) := by decide +kernel
theorem dX5_findPrices_267 : decode cX5_findPrices 267 = .ok (.iinc 3 1, 3) := by decide +kernel
theorem dX5_findPrices_270 : decode cX5_findPrices 270 = .ok (.goto (-193), 3) := by decide +kernel
theorem dX5_findPrices_273 : decode cX5_findPrices 273 = .ok (.iinc 2 1, 3) := by decide +kernel
theorem dX5_findPrices_276 : decode cX5_findPrices 276 = .ok (.goto (-206), 3) := by decide +kernel
theorem dX5_findPrices_279 : decode cX5_findPrices 279 = .ok (.iconst 1, 1) := by decide +kernel
theorem dX5_findPrices_280 : decode cX5_findPrices 280 = .ok (.istore_n 2, 1) := by decide +kernel
theorem dX5_findPrices_281 : decode cX5_findPrices 281 = .ok (.iload_n 2, 1) := by decide +kernel
theorem dX5_findPrices_282 : decode cX5_findPrices 282 = .ok (.iload_n 1, 1) := by decide +kernel
theorem dX5_findPrices_283 : decode cX5_findPrices 283 = .ok (.if_icmp .ge 22, 3) := by decide +kernel
theorem dX5_findPrices_286 : decode cX5_findPrices 286 = .ok (.aload_n 0, 1) := by decide +kernel
theorem dX5_findPrices_287 : decode cX5_findPrices 287 = .ok (.getfield 68, 3) := by decide +kernel
theorem dX5_findPrices_290 : decode cX5_findPrices 290 = .ok (.iload_n 2, 1) := by decide +kernel
theorem dX5_findPrices_291 : decode cX5_findPrices 291 = .ok (.laload, 1) := by decide +kernel
theorem dX5_findPrices_292 : decode cX5_findPrices 292 = .ok (.lconst 0, 1) := by decide +kernel
theorem dX5_findPrices_293 : decode cX5_findPrices 293 = .ok (.lcmp, 1) := by decide +kernel
theorem dX5_findPrices_294 : decode cX5_findPrices 294 = .ok (.ifCond .ne 5, 3) := by decide +kernel
theorem dX5_findPrices_297 : decode cX5_findPrices 297 = .ok (.iconst 0, 1) := by decide +kernel
theorem dX5_findPrices_298 : decode cX5_findPrices 298 = .ok (.ireturn, 1) := by decide +kernel
theorem dX5_findPrices_299 : decode cX5_findPrices 299 = .ok (.iinc 2 1, 3) := by decide +kernel
theorem dX5_findPrices_302 : decode cX5_findPrices 302 = .ok (.goto (-21), 3) := by decide +kernel
theorem dX5_findPrices_305 : decode cX5_findPrices 305 = .ok (.iconst 1, 1) := by decide +kernel
theorem dX5_findPrices_306 : decode cX5_findPrices 306 = .ok (.ireturn, 1) := by decide +kernel
theorem dX5_findWorth_0 : decode cX5_findWorth 0 = .ok (.lconst 0, 1) := by decide +kernel
theorem dX5_findWorth_1 : decode cX5_findWorth 1 = .ok (.lstore_n 1, 1) := by decide +kernel
theorem dX5_findWorth_2 : decode cX5_findWorth 2 = .ok (.lconst 1, 1) := by decide +kernel
theorem dX5_findWorth_3 : decode cX5_findWorth 3 = .ok (.lstore_n 3, 1) := by decide +kernel
theorem dX5_findWorth_4 : decode cX5_findWorth 4 = .ok (.iconst 0, 1) := by decide +kernel
theorem dX5_findWorth_5 : decode cX5_findWorth 5 = .ok (.istore 5, 2) := by decide +kernel
theorem dX5_findWorth_7 : decode cX5_findWorth 7 = .ok (.iload 5, 2) := by decide +kernel
theorem dX5_findWorth_9 : decode cX5_findWorth 9 = .ok (.aload_n 0, 1) := by decide +kernel
theorem dX5_findWorth_10 : decode cX5_findWorth 10 = .ok (.getfield 13, 3) := by decide +kernel
theorem dX5_findWorth_13 : decode cX5_findWorth 13 = .ok (.iconst 0, 1) := by decide +kernel
theorem dX5_findWorth_14 : decode cX5_findWorth 14 = .ok (.iaload, 1) := by decide +kernel
theorem dX5_findWorth_15 : decode cX5_findWorth 15 = .ok (.if_icmp .ge 201, 3) := by decide +kernel
theorem dX5_findWorth_18 : decode cX5_findWorth 18 = .ok (.aload_n 0, 1) := by decide +kernel
theorem dX5_findWorth_19 : decode cX5_findWorth 19 = .ok (.getfield 53, 3) := by decide +kernel
theorem dX5_findWorth_22 : decode cX5_findWorth 22 = .ok (.iload 5, 2) := by decide +kernel
theorem dX5_findWorth_24 : decode cX5_findWorth 24 = .ok (.iaload, 1) := by decide +kernel
theorem dX5_findWorth_25 : decode cX5_findWorth 25 = .ok (.i2l, 1) := by decide +kernel
theorem dX5_findWorth_26 : decode cX5_findWorth 26 = .ok (.aload_n 0, 1) := by decide +kernel
theorem dX5_findWorth_27 : decode cX5_findWorth 27 = .ok (.getfield 65, 3) := by decide +kernel
theorem dX5_findWorth_30 : decode cX5_findWorth 30 = .ok (.aload_n 0, 1) := by decide +kernel
theorem dX5_findWorth_31 : decode cX5_findWorth 31 = .ok (.getfield 19, 3) := by decide +kernel
theorem dX5_findWorth_34 : decode cX5_findWorth 34 = .ok (.iload 5, 2) := by decide +kernel
theorem dX5_findWorth_36 : decode cX5_findWorth 36 = .ok (.iaload, 1) := by decide +kernel
theorem dX5_findWorth_37 : decode cX5_findWorth 37 = .ok (.laload, 1) := by decide +kernel
theorem dX5_findWorth_38 : decode cX5_findWorth 38 = .ok (.lmul, 1) := by decide +kernel
theorem dX5_findWorth_39 : decode cX5_findWorth 39 = .ok (.aload_n 0, 1) := by decide +kernel
theorem dX5_findWorth_40 : decode cX5_findWorth 40 = .ok (.getfield 68, 3) := by decide +kernel
theorem dX5_findWorth_43 : decode cX5_findWorth 43 = .ok (.aload_n 0, 1) := by decide +kernel
theorem dX5_findWorth_44 : decode cX5_findWorth 44 = .ok (.getfield 16, 3) := by decide +kernel
theorem dX5_findWorth_47 : decode cX5_findWorth 47 = .ok (.iload 5, 2) := by decide +kernel
theorem dX5_findWorth_49 : decode cX5_findWorth 49 = .ok (.iaload, 1) := by decide +kernel
theorem dX5_findWorth_50 : decode cX5_findWorth 50 = .ok (.laload, 1) := by decide +kernel
theorem dX5_findWorth_51 : decode cX5_findWorth 51 = .ok (.lmul, 1) := by decide +kernel
theorem dX5_findWorth_52 : decode cX5_findWorth 52 = .ok (.aload_n 0, 1) := by decide +kernel
theorem dX5_findWorth_53 : decode cX5_findWorth 53 = .ok (.getfield 65, 3) := by decide +kernel
theorem dX5_findWorth_56 : decode cX5_findWorth 56 = .ok (.aload_n 0, 1) := by decide +kernel
theorem dX5_findWorth_57 : decode cX5_findWorth 57 = .ok (.getfield 16, 3) := by decide +kernel
theorem dX5_findWorth_60 : decode cX5_findWorth 60 = .ok (.iload 5, 2) := by decide +kernel
theorem dX5_findWorth_62 : decode cX5_findWorth 62 = .ok (.iaload, 1) := by decide +kernel
theorem dX5_findWorth_63 : decode cX5_findWorth 63 = .ok (.laload, 1) := by decide +kernel
theorem dX5_findWorth_64 : decode cX5_findWorth 64 = .ok (.aload_n 0, 1) := by decide +kernel
theorem dX5_findWorth_65 : decode cX5_findWorth 65 = .ok (.getfield 56, 3) := by decide +kernel
theorem dX5_findWorth_68 : decode cX5_findWorth 68 = .ok (.iload 5, 2) := by decide +kernel
theorem dX5_findWorth_70 : decode cX5_findWorth 70 = .ok (.iaload, 1) := by decide +kernel
theorem dX5_findWorth_71 : decode cX5_findWorth 71 = .ok (.i2l, 1) := by decide +kernel
theorem dX5_findWorth_72 : decode cX5_findWorth 72 = .ok (.lmul, 1) := by decide +kernel
theorem dX5_findWorth_73 : decode cX5_findWorth 73 = .ok (.aload_n 0, 1) := by decide +kernel
theorem dX5_findWorth_74 : decode cX5_findWorth 74 = .ok (.getfield 68, 3) := by decide +kernel
theorem dX5_findWorth_77 : decode cX5_findWorth 77 = .ok (.aload_n 0, 1) := by decide +kernel
theorem dX5_findWorth_78 : decode cX5_findWorth 78 = .ok (.getfield 19, 3) := by decide +kernel
theorem dX5_findWorth_81 : decode cX5_findWorth 81 = .ok (.iload 5, 2) := by decide +kernel
theorem dX5_findWorth_83 : decode cX5_findWorth 83 = .ok (.iaload, 1) := by decide +kernel
theorem dX5_findWorth_84 : decode cX5_findWorth 84 = .ok (.laload, 1) := by decide +kernel
theorem dX5_findWorth_85 : decode cX5_findWorth 85 = .ok (.lmul, 1) := by decide +kernel
theorem dX5_findWorth_86 : decode cX5_findWorth 86 = .ok (.lsub, 1) := by decide +kernel
theorem dX5_findWorth_87 : decode cX5_findWorth 87 = .ok (.lstore 6, 2) := by decide +kernel
theorem dX5_findWorth_89 : decode cX5_findWorth 89 = .ok (.lload 6, 2) := by decide +kernel
theorem dX5_findWorth_91 : decode cX5_findWorth 91 = .ok (.lconst 0, 1) := by decide +kernel
theorem dX5_findWorth_92 : decode cX5_findWorth 92 = .ok (.lcmp, 1) := by decide +kernel
theorem dX5_findWorth_93 : decode cX5_findWorth 93 = .ok (.ifCond .le 117, 3) := by decide +kernel
theorem dX5_findWorth_96 : decode cX5_findWorth 96 = .ok (.aload_n 0, 1) := by decide +kernel
theorem dX5_findWorth_97 : decode cX5_findWorth 97 = .ok (.getfield 59, 3) := by decide +kernel
theorem dX5_findWorth_100 : decode cX5_findWorth 100 = .ok (.iload 5, 2) := by decide +kernel
theorem dX5_findWorth_102 : decode cX5_findWorth 102 = .ok (.iaload, 1) := by decide +kernel
theorem dX5_findWorth_103 : decode cX5_findWorth 103 = .ok (.ifCond .ne 6, 3) := by decide +kernel
theorem dX5_findWorth_106 : decode cX5_findWorth 106 = .ok (.goto 104, 3) := by decide +kernel
theorem dX5_findWorth_109 : decode cX5_findWorth 109 = .ok (.aload_n 0, 1) := by decide +kernel
theorem dX5_findWorth_110 : decode cX5_findWorth 110 = .ok (.lload 6, 2) := by decide +kernel
theorem dX5_findWorth_112 : decode cX5_findWorth 112 = .ok (.aload_n 0, 1) := by decide +kernel
theorem dX5_findWorth_113 : decode cX5_findWorth 113 = .ok (.getfield 59, 3) := by decide +kernel
theorem dX5_findWorth_116 : decode cX5_findWorth 116 = .ok (.iload 5, 2) := by decide +kernel
theorem dX5_findWorth_118 : decode cX5_findWorth 118 = .ok (.iaload, 1) := by decide +kernel
theorem dX5_findWorth_119 : decode cX5_findWorth 119 = .ok (.i2l, 1) := by decide +kernel
theorem dX5_findWorth_120 : decode cX5_findWorth 120 = .ok (.lmul, 1) := by decide +kernel
theorem dX5_findWorth_121 : decode cX5_findWorth 121 = .ok (.aload_n 0, 1) := by decide +kernel
theorem dX5_findWorth_122 : decode cX5_findWorth 122 = .ok (.getfield 56, 3) := by decide +kernel
theorem dX5_findWorth_125 : decode cX5_findWorth 125 = .ok (.iload 5, 2) := by decide +kernel
theorem dX5_findWorth_127 : decode cX5_findWorth 127 = .ok (.iaload, 1) := by decide +kernel
theorem dX5_findWorth_128 : decode cX5_findWorth 128 = .ok (.i2l, 1) := by decide +kernel
theorem dX5_findWorth_129 : decode cX5_findWorth 129 = .ok (.aload_n 0, 1) := by decide +kernel
theorem dX5_findWorth_130 : decode cX5_findWorth 130 = .ok (.getfield 68, 3) := by decide +kernel
theorem dX5_findWorth_133 : decode cX5_findWorth 133 = .ok (.aload_n 0, 1) := by decide +kernel
theorem dX5_findWorth_134 : decode cX5_findWorth 134 = .ok (.getfield 19, 3) := by decide +kernel
theorem dX5_findWorth_137 : decode cX5_findWorth 137 = .ok (.iload 5, 2) := by decide +kernel
theorem dX5_findWorth_139 : decode cX5_findWorth 139 = .ok (.iaload, 1) := by decide +kernel
theorem dX5_findWorth_140 : decode cX5_findWorth 140 = .ok (.laload, 1) := by decide +kernel
theorem dX5_findWorth_141 : decode cX5_findWorth 141 = .ok (.lmul, 1) := by decide +kernel
theorem dX5_findWorth_142 : decode cX5_findWorth 142 = .ok (.aload_n 0, 1) := by decide +kernel
theorem dX5_findWorth_143 : decode cX5_findWorth 143 = .ok (.getfield 68, 3) := by decide +kernel
theorem dX5_findWorth_146 : decode cX5_findWorth 146 = .ok (.aload_n 0, 1) := by decide +kernel
theorem dX5_findWorth_147 : decode cX5_findWorth 147 = .ok (.getfield 16, 3) := by decide +kernel
theorem dX5_findWorth_150 : decode cX5_findWorth 150 = .ok (.iload 5, 2) := by decide +kernel
theorem dX5_findWorth_152 : decode cX5_findWorth 152 = .ok (.iaload, 1) := by decide +kernel
theorem dX5_findWorth_153 : decode cX5_findWorth 153 = .ok (.laload, 1) := by decide +kernel
theorem dX5_findWorth_154 : decode cX5_findWorth 154 = .ok (.lmul, 1) := by decide +kernel
theorem dX5_findWorth_155 : decode cX5_findWorth 155 = .ok (.invokevirtual 100, 3) := by decide +kernel
theorem dX5_findWorth_158 : decode cX5_findWorth 158 = .ok (.lload_n 3, 1) := by decide +kernel
theorem dX5_findWorth_159 : decode cX5_findWorth 159 = .ok (.aload_n 0, 1) := by decide +kernel
theorem dX5_findWorth_160 : decode cX5_findWorth 160 = .ok (.getfield 108, 3) := by decide +kernel
theorem dX5_findWorth_163 : decode cX5_findWorth 163 = .ok (.invokestatic 111, 3) := by decide +kernel
theorem dX5_findWorth_166 : decode cX5_findWorth 166 = .ok (.lstore 8, 2) := by decide +kernel
theorem dX5_findWorth_168 : decode cX5_findWorth 168 = .ok (.aload_n 0, 1) := by decide +kernel
theorem dX5_findWorth_169 : decode cX5_findWorth 169 = .ok (.lload_n 1, 1) := by decide +kernel
theorem dX5_findWorth_170 : decode cX5_findWorth 170 = .ok (.aload_n 0, 1) := by decide +kernel
theorem dX5_findWorth_171 : decode cX5_findWorth 171 = .ok (.getfield 108, 3) := by decide +kernel
theorem dX5_findWorth_174 : decode cX5_findWorth 174 = .ok (.lload 8, 2) := by decide +kernel
theorem dX5_findWorth_176 : decode cX5_findWorth 176 = .ok (.ldiv, 1) := by decide +kernel
theorem dX5_findWorth_177 : decode cX5_findWorth 177 = .ok (.lmul, 1) := by decide +kernel
theorem dX5_findWorth_178 : decode cX5_findWorth 178 = .ok (.aload_n 0, 1) := by decide +kernel
theorem dX5_findWorth_179 : decode cX5_findWorth 179 = .ok (.getfield 104, 3) := by decide +kernel
theorem dX5_findWorth_182 : decode cX5_findWorth 182 = .ok (.lload_n 3, 1) := by decide +kernel
theorem dX5_findWorth_183 : decode cX5_findWorth 183 = .ok (.lload 8, 2) := by decide +kernel
theorem dX5_findWorth_185 : decode cX5_findWorth 185 = .ok (.ldiv, 1) := by decide +kernel
theorem dX5_findWorth_186 : decode cX5_findWorth 186 = .ok (.lmul, 1) := by decide +kernel
theorem dX5_findWorth_187 : decode cX5_findWorth 187 = .ok (.ladd, 1) := by decide +kernel
theorem dX5_findWorth_188 : decode cX5_findWorth 188 = .ok (.lload_n 3, 1) := by decide +kernel
theorem dX5_findWorth_189 : decode cX5_findWorth 189 = .ok (.lload 8, 2) := by decide +kernel
theorem dX5_findWorth_191 : decode cX5_findWorth 191 = .ok (.ldiv, 1) := by decide +kernel
end
section
theorem dX5_findWorth_192 : decode cX5_findWorth 192 = .ok (.aload_n 0, 1) := by decide +kernel
theorem dX5_findWorth_193 : decode cX5_findWorth 193 = .ok (.getfield 108, 3) := by decide +kernel
theorem dX5_findWorth_196 : decode cX5_findWorth 196 = .ok (.lmul, 1) := by decide +kernel
theorem dX5_findWorth_197 : decode cX5_findWorth 197 = .ok (.invokevirtual 100, 3) := by decide +kernel
theorem dX5_findWorth_200 : decode cX5_findWorth 200 = .ok (.aload_n 0, 1) := by decide +kernel
theorem dX5_findWorth_201 : decode cX5_findWorth 201 = .ok (.getfield 104, 3) := by decide +kernel
theorem dX5_findWorth_204 : decode cX5_findWorth 204 = .ok (.lstore_n 1, 1) := by decide +kernel
theorem dX5_findWorth_205 : decode cX5_findWorth 205 = .ok (.aload_n 0, 1) := by decide +kernel
theorem dX5_findWorth_206 : decode cX5_findWorth 206 = .ok (.getfield 108, 3) := by decide +kernel
theorem dX5_findWorth_209 : decode cX5_findWorth 209 = .ok (.lstore_n 3, 1) := by decide +kernel
theorem dX5_findWorth_210 : decode cX5_findWorth 210 = .ok (.iinc 5 1, 3) := by decide +kernel
theorem dX5_findWorth_213 : decode cX5_findWorth 213 = .ok (.goto (-206), 3) := by decide +kernel
theorem dX5_findWorth_216 : decode cX5_findWorth 216 = .ok (.aload_n 0, 1) := by decide +kernel
theorem dX5_findWorth_217 : decode cX5_findWorth 217 = .ok (.lload_n 1, 1) := by decide +kernel
theorem dX5_findWorth_218 : decode cX5_findWorth 218 = .ok (.putfield 104, 3) := by decide +kernel
theorem dX5_findWorth_221 : decode cX5_findWorth 221 = .ok (.aload_n 0, 1) := by decide +kernel
theorem dX5_findWorth_222 : decode cX5_findWorth 222 = .ok (.lload_n 3, 1) := by decide +kernel
theorem dX5_findWorth_223 : decode cX5_findWorth 223 = .ok (.putfield 108, 3) := by decide +kernel
theorem dX5_findWorth_226 : decode cX5_findWorth 226 = .ok (.return_, 1) := by decide +kernel
theorem dX5_nextChoice_0 : decode cX5_nextChoice 0 = .ok (.iconst 1, 1) := by decide +kernel
theorem dX5_nextChoice_1 : decode cX5_nextChoice 1 = .ok (.istore_n 1, 1) := by decide +kernel
theorem dX5_nextChoice_2 : decode cX5_nextChoice 2 = .ok (.iload_n 1, 1) := by decide +kernel
theorem dX5_nextChoice_3 : decode cX5_nextChoice 3 = .ok (.aload_n 0, 1) := by decide +kernel
theorem dX5_nextChoice_4 : decode cX5_nextChoice 4 = .ok (.getfield 7, 3) := by decide +kernel
theorem dX5_nextChoice_7 : decode cX5_nextChoice 7 = .ok (.iconst 0, 1) := by decide +kernel
theorem dX5_nextChoice_8 : decode cX5_nextChoice 8 = .ok (.iaload, 1) := by decide +kernel
theorem dX5_nextChoice_9 : decode cX5_nextChoice 9 = .ok (.iconst 1, 1) := by decide +kernel
theorem dX5_nextChoice_10 : decode cX5_nextChoice 10 = .ok (.isub, 1) := by decide +kernel
theorem dX5_nextChoice_11 : decode cX5_nextChoice 11 = .ok (.if_icmp .ge 101, 3) := by decide +kernel
theorem dX5_nextChoice_14 : decode cX5_nextChoice 14 = .ok (.aload_n 0, 1) := by decide +kernel
theorem dX5_nextChoice_15 : decode cX5_nextChoice 15 = .ok (.getfield 62, 3) := by decide +kernel
theorem dX5_nextChoice_18 : decode cX5_nextChoice 18 = .ok (.iload_n 1, 1) := by decide +kernel
theorem dX5_nextChoice_19 : decode cX5_nextChoice 19 = .ok (.dup2, 1) := by decide +kernel
theorem dX5_nextChoice_20 : decode cX5_nextChoice 20 = .ok (.iaload, 1) := by decide +kernel
theorem dX5_nextChoice_21 : decode cX5_nextChoice 21 = .ok (.iconst 1, 1) := by decide +kernel
theorem dX5_nextChoice_22 : decode cX5_nextChoice 22 = .ok (.iadd, 1) := by decide +kernel
theorem dX5_nextChoice_23 : decode cX5_nextChoice 23 = .ok (.iastore, 1) := by decide +kernel
theorem dX5_nextChoice_24 : decode cX5_nextChoice 24 = .ok (.aload_n 0, 1) := by decide +kernel
theorem dX5_nextChoice_25 : decode cX5_nextChoice 25 = .ok (.getfield 62, 3) := by decide +kernel
theorem dX5_nextChoice_28 : decode cX5_nextChoice 28 = .ok (.iload_n 1, 1) := by decide +kernel
theorem dX5_nextChoice_29 : decode cX5_nextChoice 29 = .ok (.iaload, 1) := by decide +kernel
theorem dX5_nextChoice_30 : decode cX5_nextChoice 30 = .ok (.aload_n 0, 1) := by decide +kernel
theorem dX5_nextChoice_31 : decode cX5_nextChoice 31 = .ok (.getfield 13, 3) := by decide +kernel
theorem dX5_nextChoice_34 : decode cX5_nextChoice 34 = .ok (.iconst 0, 1) := by decide +kernel
theorem dX5_nextChoice_35 : decode cX5_nextChoice 35 = .ok (.iaload, 1) := by decide +kernel
theorem dX5_nextChoice_36 : decode cX5_nextChoice 36 = .ok (.if_icmp .ge 46, 3) := by decide +kernel
theorem dX5_nextChoice_39 : decode cX5_nextChoice 39 = .ok (.aload_n 0, 1) := by decide +kernel
theorem dX5_nextChoice_40 : decode cX5_nextChoice 40 = .ok (.getfield 16, 3) := by decide +kernel
theorem dX5_nextChoice_43 : decode cX5_nextChoice 43 = .ok (.aload_n 0, 1) := by decide +kernel
theorem dX5_nextChoice_44 : decode cX5_nextChoice 44 = .ok (.getfield 62, 3) := by decide +kernel
theorem dX5_nextChoice_47 : decode cX5_nextChoice 47 = .ok (.iload_n 1, 1) := by decide +kernel
theorem dX5_nextChoice_48 : decode cX5_nextChoice 48 = .ok (.iaload, 1) := by decide +kernel
theorem dX5_nextChoice_49 : decode cX5_nextChoice 49 = .ok (.iaload, 1) := by decide +kernel
theorem dX5_nextChoice_50 : decode cX5_nextChoice 50 = .ok (.iload_n 1, 1) := by decide +kernel
theorem dX5_nextChoice_51 : decode cX5_nextChoice 51 = .ok (.if_icmp .eq 31, 3) := by decide +kernel
theorem dX5_nextChoice_54 : decode cX5_nextChoice 54 = .ok (.aload_n 0, 1) := by decide +kernel
theorem dX5_nextChoice_55 : decode cX5_nextChoice 55 = .ok (.getfield 19, 3) := by decide +kernel
theorem dX5_nextChoice_58 : decode cX5_nextChoice 58 = .ok (.aload_n 0, 1) := by decide +kernel
theorem dX5_nextChoice_59 : decode cX5_nextChoice 59 = .ok (.getfield 62, 3) := by decide +kernel
theorem dX5_nextChoice_62 : decode cX5_nextChoice 62 = .ok (.iload_n 1, 1) := by decide +kernel
theorem dX5_nextChoice_63 : decode cX5_nextChoice 63 = .ok (.iaload, 1) := by decide +kernel
theorem dX5_nextChoice_64 : decode cX5_nextChoice 64 = .ok (.iaload, 1) := by decide +kernel
theorem dX5_nextChoice_65 : decode cX5_nextChoice 65 = .ok (.iload_n 1, 1) := by decide +kernel
theorem dX5_nextChoice_66 : decode cX5_nextChoice 66 = .ok (.if_icmp .eq 16, 3) := by decide +kernel
theorem dX5_nextChoice_69 : decode cX5_nextChoice 69 = .ok (.aload_n 0, 1) := by decide +kernel
theorem dX5_nextChoice_70 : decode cX5_nextChoice 70 = .ok (.getfield 62, 3) := by decide +kernel
theorem dX5_nextChoice_73 : decode cX5_nextChoice 73 = .ok (.iload_n 1, 1) := by decide +kernel
theorem dX5_nextChoice_74 : decode cX5_nextChoice 74 = .ok (.dup2, 1) := by decide +kernel
theorem dX5_nextChoice_75 : decode cX5_nextChoice 75 = .ok (.iaload, 1) := by decide +kernel
theorem dX5_nextChoice_76 : decode cX5_nextChoice 76 = .ok (.iconst 1, 1) := by decide +kernel
theorem dX5_nextChoice_77 : decode cX5_nextChoice 77 = .ok (.iadd, 1) := by decide +kernel
theorem dX5_nextChoice_78 : decode cX5_nextChoice 78 = .ok (.iastore, 1) := by decide +kernel
theorem dX5_nextChoice_79 : decode cX5_nextChoice 79 = .ok (.goto (-55), 3) := by decide +kernel
theorem dX5_nextChoice_82 : decode cX5_nextChoice 82 = .ok (.aload_n 0, 1) := by decide +kernel
theorem dX5_nextChoice_83 : decode cX5_nextChoice 83 = .ok (.getfield 62, 3) := by decide +kernel
theorem dX5_nextChoice_86 : decode cX5_nextChoice 86 = .ok (.iload_n 1, 1) := by decide +kernel
theorem dX5_nextChoice_87 : decode cX5_nextChoice 87 = .ok (.iaload, 1) := by decide +kernel
theorem dX5_nextChoice_88 : decode cX5_nextChoice 88 = .ok (.aload_n 0, 1) := by decide +kernel
theorem dX5_nextChoice_89 : decode cX5_nextChoice 89 = .ok (.getfield 13, 3) := by decide +kernel
theorem dX5_nextChoice_92 : decode cX5_nextChoice 92 = .ok (.iconst 0, 1) := by decide +kernel
theorem dX5_nextChoice_93 : decode cX5_nextChoice 93 = .ok (.iaload, 1) := by decide +kernel
theorem dX5_nextChoice_94 : decode cX5_nextChoice 94 = .ok (.if_icmp .ge 5, 3) := by decide +kernel
theorem dX5_nextChoice_97 : decode cX5_nextChoice 97 = .ok (.iconst 1, 1) := by decide +kernel
theorem dX5_nextChoice_98 : decode cX5_nextChoice 98 = .ok (.ireturn, 1) := by decide +kernel
theorem dX5_nextChoice_99 : decode cX5_nextChoice 99 = .ok (.aload_n 0, 1) := by decide +kernel
theorem dX5_nextChoice_100 : decode cX5_nextChoice 100 = .ok (.getfield 62, 3) := by decide +kernel
theorem dX5_nextChoice_103 : decode cX5_nextChoice 103 = .ok (.iload_n 1, 1) := by decide +kernel
theorem dX5_nextChoice_104 : decode cX5_nextChoice 104 = .ok (.iconst (-1), 1) := by decide +kernel
theorem dX5_nextChoice_105 : decode cX5_nextChoice 105 = .ok (.iastore, 1) := by decide +kernel
theorem dX5_nextChoice_106 : decode cX5_nextChoice 106 = .ok (.iinc 1 1, 3) := by decide +kernel
theorem dX5_nextChoice_109 : decode cX5_nextChoice 109 = .ok (.goto (-107), 3) := by decide +kernel
theorem dX5_nextChoice_112 : decode cX5_nextChoice 112 = .ok (.iconst 0, 1) := by decide +kernel
theorem dX5_nextChoice_113 : decode cX5_nextChoice 113 = .ok (.ireturn, 1) := by decide +kernel
theorem dX5_findMost_0 : decode cX5_findMost 0 = .ok (.iconst 0, 1) := by decide +kernel
theorem dX5_findMost_1 : decode cX5_findMost 1 = .ok (.istore_n 1, 1) := by decide +kernel
theorem dX5_findMost_2 : decode cX5_findMost 2 = .ok (.iload_n 1, 1) := by decide +kernel
theorem dX5_findMost_3 : decode cX5_findMost 3 = .ok (.iconst 5, 1) := by decide +kernel
theorem dX5_findMost_4 : decode cX5_findMost 4 = .ok (.if_icmp .ge 16, 3) := by decide +kernel
theorem dX5_findMost_7 : decode cX5_findMost 7 = .ok (.aload_n 0, 1) := by decide +kernel
theorem dX5_findMost_8 : decode cX5_findMost 8 = .ok (.getfield 62, 3) := by decide +kernel
theorem dX5_findMost_11 : decode cX5_findMost 11 = .ok (.iload_n 1, 1) := by decide +kernel
theorem dX5_findMost_12 : decode cX5_findMost 12 = .ok (.iconst (-1), 1) := by decide +kernel
theorem dX5_findMost_13 : decode cX5_findMost 13 = .ok (.iastore, 1) := by decide +kernel
theorem dX5_findMost_14 : decode cX5_findMost 14 = .ok (.iinc 1 1, 3) := by decide +kernel
theorem dX5_findMost_17 : decode cX5_findMost 17 = .ok (.goto (-15), 3) := by decide +kernel
theorem dX5_findMost_20 : decode cX5_findMost 20 = .ok (.iconst 0, 1) := by decide +kernel
theorem dX5_findMost_21 : decode cX5_findMost 21 = .ok (.istore_n 1, 1) := by decide +kernel
theorem dX5_findMost_22 : decode cX5_findMost 22 = .ok (.iconst 1, 1) := by decide +kernel
theorem dX5_findMost_23 : decode cX5_findMost 23 = .ok (.istore_n 2, 1) := by decide +kernel
theorem dX5_findMost_24 : decode cX5_findMost 24 = .ok (.iload_n 2, 1) := by decide +kernel
theorem dX5_findMost_25 : decode cX5_findMost 25 = .ok (.ifCond .eq 66, 3) := by decide +kernel
theorem dX5_findMost_28 : decode cX5_findMost 28 = .ok (.aload_n 0, 1) := by decide +kernel
theorem dX5_findMost_29 : decode cX5_findMost 29 = .ok (.invokevirtual 115, 3) := by decide +kernel
theorem dX5_findMost_32 : decode cX5_findMost 32 = .ok (.ifCond .eq 51, 3) := by decide +kernel
theorem dX5_findMost_35 : decode cX5_findMost 35 = .ok (.aload_n 0, 1) := by decide +kernel
theorem dX5_findMost_36 : decode cX5_findMost 36 = .ok (.invokevirtual 119, 3) := by decide +kernel
theorem dX5_findMost_39 : decode cX5_findMost 39 = .ok (.iload_n 1, 1) := by decide +kernel
theorem dX5_findMost_40 : decode cX5_findMost 40 = .ok (.ifCond .eq 25, 3) := by decide +kernel
theorem dX5_findMost_43 : decode cX5_findMost 43 = .ok (.aload_n 0, 1) := by decide +kernel
theorem dX5_findMost_44 : decode cX5_findMost 44 = .ok (.getfield 104, 3) := by decide +kernel
theorem dX5_findMost_47 : decode cX5_findMost 47 = .ok (.aload_n 0, 1) := by decide +kernel
theorem dX5_findMost_48 : decode cX5_findMost 48 = .ok (.getfield 108, 3) := by decide +kernel
theorem dX5_findMost_51 : decode cX5_findMost 51 = .ok (.aload_n 0, 1) := by decide +kernel
theorem dX5_findMost_52 : decode cX5_findMost 52 = .ok (.getfield 122, 3) := by decide +kernel
theorem dX5_findMost_55 : decode cX5_findMost 55 = .ok (.aload_n 0, 1) := by decide +kernel
theorem dX5_findMost_56 : decode cX5_findMost 56 = .ok (.getfield 125, 3) := by decide +kernel
theorem dX5_findMost_59 : decode cX5_findMost 59 = .ok (.invokestatic 128, 3) := by decide +kernel
theorem dX5_findMost_62 : decode cX5_findMost 62 = .ok (.ifCond .eq 21, 3) := by decide +kernel
theorem dX5_findMost_65 : decode cX5_findMost 65 = .ok (.aload_n 0, 1) := by decide +kernel
theorem dX5_findMost_66 : decode cX5_findMost 66 = .ok (.aload_n 0, 1) := by decide +kernel
theorem dX5_findMost_67 : decode cX5_findMost 67 = .ok (.getfield 104, 3) := by decide +kernel
theorem dX5_findMost_70 : decode cX5_findMost 70 = .ok (.putfield 122, 3) := by decide +kernel
theorem dX5_findMost_73 : decode cX5_findMost 73 = .ok (.aload_n 0, 1) := by decide +kernel
theorem dX5_findMost_74 : decode cX5_findMost 74 = .ok (.aload_n 0, 1) := by decide +kernel
theorem dX5_findMost_75 : decode cX5_findMost 75 = .ok (.getfield 108, 3) := by decide +kernel
theorem dX5_findMost_78 : decode cX5_findMost 78 = .ok (.putfield 125, 3) := by decide +kernel
theorem dX5_findMost_81 : decode cX5_findMost 81 = .ok (.iconst 1, 1) := by decide +kernel
theorem dX5_findMost_82 : decode cX5_findMost 82 = .ok (.istore_n 1, 1) := by decide +kernel
theorem dX5_findMost_83 : decode cX5_findMost 83 = .ok (.aload_n 0, 1) := by decide +kernel
theorem dX5_findMost_84 : decode cX5_findMost 84 = .ok (.invokevirtual 132, 3) := by decide +kernel
theorem dX5_findMost_87 : decode cX5_findMost 87 = .ok (.istore_n 2, 1) := by decide +kernel
theorem dX5_findMost_88 : decode cX5_findMost 88 = .ok (.goto (-64), 3) := by decide +kernel
theorem dX5_findMost_91 : decode cX5_findMost 91 = .ok (.return_, 1) := by decide +kernel
theorem dX5_most_0 : decode cX5_most 0 = .ok (.aload_n 0, 1) := by decide +kernel
theorem dX5_most_1 : decode cX5_most 1 = .ok (.iconst 0, 1) := by decide +kernel
theorem dX5_most_2 : decode cX5_most 2 = .ok (.putfield 81, 3) := by decide +kernel
theorem dX5_most_5 : decode cX5_most 5 = .ok (.iload_n 1, 1) := by decide +kernel
theorem dX5_most_6 : decode cX5_most 6 = .ok (.iconst 0, 1) := by decide +kernel
theorem dX5_most_7 : decode cX5_most 7 = .ok (.iconst 2, 1) := by decide +kernel
theorem dX5_most_8 : decode cX5_most 8 = .ok (.invokestatic 89, 3) := by decide +kernel
theorem dX5_most_11 : decode cX5_most 11 = .ok (.ifCond .ne 7, 3) := by decide +kernel
theorem dX5_most_14 : decode cX5_most 14 = .ok (.ldc2_w 135, 3) := by decide +kernel
theorem dX5_most_17 : decode cX5_most 17 = .ok (.lreturn, 1) := by decide +kernel
theorem dX5_most_18 : decode cX5_most 18 = .ok (.aload_n 0, 1) := by decide +kernel
theorem dX5_most_19 : decode cX5_most 19 = .ok (.iload_n 1, 1) := by decide +kernel
theorem dX5_most_20 : decode cX5_most 20 = .ok (.invokevirtual 137, 3) := by decide +kernel
theorem dX5_most_23 : decode cX5_most 23 = .ok (.aload_n 0, 1) := by decide +kernel
theorem dX5_most_24 : decode cX5_most 24 = .ok (.invokevirtual 141, 3) := by decide +kernel
theorem dX5_most_27 : decode cX5_most 27 = .ok (.iload_n 2, 1) := by decide +kernel
theorem dX5_most_28 : decode cX5_most 28 = .ok (.ifCond .eq 10, 3) := by decide +kernel
theorem dX5_most_31 : decode cX5_most 31 = .ok (.aload_n 0, 1) := by decide +kernel
theorem dX5_most_32 : decode cX5_most 32 = .ok (.getfield 125, 3) := by decide +kernel
theorem dX5_most_35 : decode cX5_most 35 = .ok (.goto 7, 3) := by decide +kernel
theorem dX5_most_38 : decode cX5_most 38 = .ok (.aload_n 0, 1) := by decide +kernel
theorem dX5_most_39 : decode cX5_most 39 = .ok (.getfield 122, 3) := by decide +kernel
theorem dX5_most_42 : decode cX5_most 42 = .ok (.lreturn, 1) := by decide +kernel
theorem dX5_more_0 : decode cX5_more 0 = .ok (.aload_n 0, 1) := by decide +kernel
theorem dX5_more_1 : decode cX5_more 1 = .ok (.iconst 0, 1) := by decide +kernel
theorem dX5_more_2 : decode cX5_more 2 = .ok (.putfield 81, 3) := by decide +kernel
theorem dX5_more_5 : decode cX5_more 5 = .ok (.aload_n 0, 1) := by decide +kernel
theorem dX5_more_6 : decode cX5_more 6 = .ok (.iload_n 1, 1) := by decide +kernel
theorem dX5_more_7 : decode cX5_more 7 = .ok (.invokevirtual 97, 3) := by decide +kernel
theorem dX5_more_10 : decode cX5_more 10 = .ok (.ifCond .eq 13, 3) := by decide +kernel
theorem dX5_more_13 : decode cX5_more 13 = .ok (.iload_n 2, 1) := by decide +kernel
theorem dX5_more_14 : decode cX5_more 14 = .ok (.iconst 0, 1) := by decide +kernel
theorem dX5_more_15 : decode cX5_more 15 = .ok (.bipush 100, 2) := by decide +kernel
theorem dX5_more_17 : decode cX5_more 17 = .ok (.invokestatic 89, 3) := by decide +kernel
theorem dX5_more_20 : decode cX5_more 20 = .ok (.ifCond .ne 5, 3) := by decide +kernel
theorem dX5_more_23 : decode cX5_more 23 = .ok (.lconst 0, 1) := by decide +kernel
theorem dX5_more_24 : decode cX5_more 24 = .ok (.lreturn, 1) := by decide +kernel
theorem dX5_more_25 : decode cX5_more 25 = .ok (.aload_n 0, 1) := by decide +kernel
theorem dX5_more_26 : decode cX5_more 26 = .ok (.iconst 0, 1) := by decide +kernel
theorem dX5_more_27 : decode cX5_more 27 = .ok (.invokevirtual 137, 3) := by decide +kernel
theorem dX5_more_30 : decode cX5_more 30 = .ok (.aload_n 0, 1) := by decide +kernel
theorem dX5_more_31 : decode cX5_more 31 = .ok (.invokevirtual 141, 3) := by decide +kernel
theorem dX5_more_34 : decode cX5_more 34 = .ok (.aload_n 0, 1) := by decide +kernel
theorem dX5_more_35 : decode cX5_more 35 = .ok (.getfield 122, 3) := by decide +kernel
theorem dX5_more_38 : decode cX5_more 38 = .ok (.lstore 4, 2) := by decide +kernel
theorem dX5_more_40 : decode cX5_more 40 = .ok (.aload_n 0, 1) := by decide +kernel
theorem dX5_more_41 : decode cX5_more 41 = .ok (.getfield 125, 3) := by decide +kernel
theorem dX5_more_44 : decode cX5_more 44 = .ok (.lstore 6, 2) := by decide +kernel
theorem dX5_more_46 : decode cX5_more 46 = .ok (.aload_n 0, 1) := by decide +kernel
theorem dX5_more_47 : decode cX5_more 47 = .ok (.getfield 59, 3) := by decide +kernel
theorem dX5_more_50 : decode cX5_more 50 = .ok (.iload_n 1, 1) := by decide +kernel
theorem dX5_more_51 : decode cX5_more 51 = .ok (.iload_n 2, 1) := by decide +kernel
theorem dX5_more_52 : decode cX5_more 52 = .ok (.iastore, 1) := by decide +kernel
theorem dX5_more_53 : decode cX5_more 53 = .ok (.aload_n 0, 1) := by decide +kernel
theorem dX5_more_54 : decode cX5_more 54 = .ok (.invokevirtual 141, 3) := by decide +kernel
theorem dX5_more_57 : decode cX5_more 57 = .ok (.lload 6, 2) := by decide +kernel
theorem dX5_more_59 : decode cX5_more 59 = .ok (.aload_n 0, 1) := by decide +kernel
theorem dX5_more_60 : decode cX5_more 60 = .ok (.getfield 125, 3) := by decide +kernel
theorem dX5_more_63 : decode cX5_more 63 = .ok (.invokestatic 111, 3) := by decide +kernel
theorem dX5_more_66 : decode cX5_more 66 = .ok (.lstore 8, 2) := by decide +kernel
theorem dX5_more_68 : decode cX5_more 68 = .ok (.aload_n 0, 1) := by decide +kernel
theorem dX5_more_69 : decode cX5_more 69 = .ok (.aload_n 0, 1) := by decide +kernel
theorem dX5_more_70 : decode cX5_more 70 = .ok (.getfield 122, 3) := by decide +kernel
theorem dX5_more_73 : decode cX5_more 73 = .ok (.lload 6, 2) := by decide +kernel
theorem dX5_more_75 : decode cX5_more 75 = .ok (.lload 8, 2) := by decide +kernel
theorem dX5_more_77 : decode cX5_more 77 = .ok (.ldiv, 1) := by decide +kernel
theorem dX5_more_78 : decode cX5_more 78 = .ok (.lmul, 1) := by decide +kernel
theorem dX5_more_79 : decode cX5_more 79 = .ok (.lload 4, 2) := by decide +kernel
theorem dX5_more_81 : decode cX5_more 81 = .ok (.aload_n 0, 1) := by decide +kernel
theorem dX5_more_82 : decode cX5_more 82 = .ok (.getfield 125, 3) := by decide +kernel
theorem dX5_more_85 : decode cX5_more 85 = .ok (.lload 8, 2) := by decide +kernel
theorem dX5_more_87 : decode cX5_more 87 = .ok (.ldiv, 1) := by decide +kernel
theorem dX5_more_88 : decode cX5_more 88 = .ok (.lmul, 1) := by decide +kernel
theorem dX5_more_89 : decode cX5_more 89 = .ok (.lsub, 1) := by decide +kernel
theorem dX5_more_90 : decode cX5_more 90 = .ok (.aload_n 0, 1) := by decide +kernel
theorem dX5_more_91 : decode cX5_more 91 = .ok (.getfield 125, 3) := by decide +kernel
theorem dX5_more_94 : decode cX5_more 94 = .ok (.lload 8, 2) := by decide +kernel
theorem dX5_more_96 : decode cX5_more 96 = .ok (.ldiv, 1) := by decide +kernel
theorem dX5_more_97 : decode cX5_more 97 = .ok (.lload 6, 2) := by decide +kernel
theorem dX5_more_99 : decode cX5_more 99 = .ok (.lmul, 1) := by decide +kernel
theorem dX5_more_100 : decode cX5_more 100 = .ok (.invokevirtual 100, 3) := by decide +kernel
theorem dX5_more_103 : decode cX5_more 103 = .ok (.iload_n 3, 1) := by decide +kernel
theorem dX5_more_104 : decode cX5_more 104 = .ok (.ifCond .eq 10, 3) := by decide +kernel
theorem dX5_more_107 : decode cX5_more 107 = .ok (.aload_n 0, 1) := by decide +kernel
theorem dX5_more_108 : decode cX5_more 108 = .ok (.getfield 108, 3) := by decide +kernel
theorem dX5_more_111 : decode cX5_more 111 = .ok (.goto 7, 3) := by decide +kernel
theorem dX5_more_114 : decode cX5_more 114 = .ok (.aload_n 0, 1) := by decide +kernel
theorem dX5_more_115 : decode cX5_more 115 = .ok (.getfield 104, 3) := by decide +kernel
theorem dX5_more_118 : decode cX5_more 118 = .ok (.lreturn, 1) := by decide +kernel
theorem dX5_productUp_0 : decode cX5_productUp 0 = .ok (.lconst 1, 1) := by decide +kernel
theorem dX5_productUp_1 : decode cX5_productUp 1 = .ok (.lstore_n 2, 1) := by decide +kernel
theorem dX5_productUp_2 : decode cX5_productUp 2 = .ok (.iconst 0, 1) := by decide +kernel
theorem dX5_productUp_3 : decode cX5_productUp 3 = .ok (.istore 4, 2) := by decide +kernel
theorem dX5_productUp_5 : decode cX5_productUp 5 = .ok (.iload 4, 2) := by decide +kernel
theorem dX5_productUp_7 : decode cX5_productUp 7 = .ok (.iload_n 1, 1) := by decide +kernel
theorem dX5_productUp_8 : decode cX5_productUp 8 = .ok (.if_icmp .ge 25, 3) := by decide +kernel
theorem dX5_productUp_11 : decode cX5_productUp 11 = .ok (.lload_n 2, 1) := by decide +kernel
theorem dX5_productUp_12 : decode cX5_productUp 12 = .ok (.aload_n 0, 1) := by decide +kernel
theorem dX5_productUp_13 : decode cX5_productUp 13 = .ok (.getfield 25, 3) := by decide +kernel
theorem dX5_productUp_16 : decode cX5_productUp 16 = .ok (.aload_n 0, 1) := by decide +kernel
theorem dX5_productUp_17 : decode cX5_productUp 17 = .ok (.getfield 71, 3) := by decide +kernel
theorem dX5_productUp_20 : decode cX5_productUp 20 = .ok (.iload 4, 2) := by decide +kernel
theorem dX5_productUp_22 : decode cX5_productUp 22 = .ok (.iaload, 1) := by decide +kernel
theorem dX5_productUp_23 : decode cX5_productUp 23 = .ok (.iaload, 1) := by decide +kernel
theorem dX5_productUp_24 : decode cX5_productUp 24 = .ok (.i2l, 1) := by decide +kernel
theorem dX5_productUp_25 : decode cX5_productUp 25 = .ok (.lmul, 1) := by decide +kernel
theorem dX5_productUp_26 : decode cX5_productUp 26 = .ok (.lstore_n 2, 1) := by decide +kernel
theorem dX5_productUp_27 : decode cX5_productUp 27 = .ok (.iinc 4 1, 3) := by decide +kernel
theorem dX5_productUp_30 : decode cX5_productUp 30 = .ok (.goto (-25), 3) := by decide +kernel
theorem dX5_productUp_33 : decode cX5_productUp 33 = .ok (.lload_n 2, 1) := by decide +kernel
theorem dX5_productUp_34 : decode cX5_productUp 34 = .ok (.lreturn, 1) := by decide +kernel
theorem dX5_productDown_0 : decode cX5_productDown 0 = .ok (.lconst 1, 1) := by decide +kernel
theorem dX5_productDown_1 : decode cX5_productDown 1 = .ok (.lstore_n 2, 1) := by decide +kernel
theorem dX5_productDown_2 : decode cX5_productDown 2 = .ok (.iconst 0, 1) := by decide +kernel
theorem dX5_productDown_3 : decode cX5_productDown 3 = .ok (.istore 4, 2) := by decide +kernel
theorem dX5_productDown_5 : decode cX5_productDown 5 = .ok (.iload 4, 2) := by decide +kernel
theorem dX5_productDown_7 : decode cX5_productDown 7 = .ok (.iload_n 1, 1) := by decide +kernel
theorem dX5_productDown_8 : decode cX5_productDown 8 = .ok (.if_icmp .ge 25, 3) := by decide +kernel
theorem dX5_productDown_11 : decode cX5_productDown 11 = .ok (.lload_n 2, 1) := by decide +kernel
theorem dX5_productDown_12 : decode cX5_productDown 12 = .ok (.aload_n 0, 1) := by decide +kernel
theorem dX5_productDown_13 : decode cX5_productDown 13 = .ok (.getfield 28, 3) := by decide +kernel
theorem dX5_productDown_16 : decode cX5_productDown 16 = .ok (.aload_n 0, 1) := by decide +kernel
theorem dX5_productDown_17 : decode cX5_productDown 17 = .ok (.getfield 71, 3) := by decide +kernel
theorem dX5_productDown_20 : decode cX5_productDown 20 = .ok (.iload 4, 2) := by decide +kernel
theorem dX5_productDown_22 : decode cX5_productDown 22 = .ok (.iaload, 1) := by decide +kernel
theorem dX5_productDown_23 : decode cX5_productDown 23 = .ok (.iaload, 1) := by decide +kernel
theorem dX5_productDown_24 : decode cX5_productDown 24 = .ok (.i2l, 1) := by decide +kernel
theorem dX5_productDown_25 : decode cX5_productDown 25 = .ok (.lmul, 1) := by decide +kernel
theorem dX5_productDown_26 : decode cX5_productDown 26 = .ok (.lstore_n 2, 1) := by decide +kernel
theorem dX5_productDown_27 : decode cX5_productDown 27 = .ok (.iinc 4 1, 3) := by decide +kernel
theorem dX5_productDown_30 : decode cX5_productDown 30 = .ok (.goto (-25), 3) := by decide +kernel
theorem dX5_productDown_33 : decode cX5_productDown 33 = .ok (.lload_n 2, 1) := by decide +kernel
theorem dX5_productDown_34 : decode cX5_productDown 34 = .ok (.lreturn, 1) := by decide +kernel
theorem dX5_takes_0 : decode cX5_takes 0 = .ok (.aload_n 0, 1) := by decide +kernel
theorem dX5_takes_1 : decode cX5_takes 1 = .ok (.iload_n 1, 1) := by decide +kernel
theorem dX5_takes_2 : decode cX5_takes 2 = .ok (.invokevirtual 144, 3) := by decide +kernel
theorem dX5_takes_5 : decode cX5_takes 5 = .ok (.lstore_n 2, 1) := by decide +kernel
theorem dX5_takes_6 : decode cX5_takes 6 = .ok (.aload_n 0, 1) := by decide +kernel
theorem dX5_takes_7 : decode cX5_takes 7 = .ok (.iload_n 1, 1) := by decide +kernel
theorem dX5_takes_8 : decode cX5_takes 8 = .ok (.invokevirtual 148, 3) := by decide +kernel
theorem dX5_takes_11 : decode cX5_takes 11 = .ok (.lstore 4, 2) := by decide +kernel
theorem dX5_takes_13 : decode cX5_takes 13 = .ok (.aload_n 0, 1) := by decide +kernel
theorem dX5_takes_14 : decode cX5_takes 14 = .ok (.getfield 151, 3) := by decide +kernel
theorem dX5_takes_17 : decode cX5_takes 17 = .ok (.ifCond .eq 20, 3) := by decide +kernel
theorem dX5_takes_20 : decode cX5_takes 20 = .ok (.lload_n 2, 1) := by decide +kernel
theorem dX5_takes_21 : decode cX5_takes 21 = .ok (.aload_n 0, 1) := by decide +kernel
theorem dX5_takes_22 : decode cX5_takes 22 = .ok (.getfield 154, 3) := by decide +kernel
theorem dX5_takes_25 : decode cX5_takes 25 = .ok (.lmul, 1) := by decide +kernel
theorem dX5_takes_26 : decode cX5_takes 26 = .ok (.aload_n 0, 1) := by decide +kernel
theorem dX5_takes_27 : decode cX5_takes 27 = .ok (.getfield 157, 3) := by decide +kernel
theorem dX5_takes_30 : decode cX5_takes 30 = .ok (.lload 4, 2) := by decide +kernel
theorem dX5_takes_32 : decode cX5_takes 32 = .ok (.lmul, 1) := by decide +kernel
theorem dX5_takes_33 : decode cX5_takes 33 = .ok (.lcmp, 1) := by decide +kernel
theorem dX5_takes_34 : decode cX5_takes 34 = .ok (.ifCond .le 7, 3) := by decide +kernel
theorem dX5_takes_37 : decode cX5_takes 37 = .ok (.iconst 1, 1) := by decide +kernel
theorem dX5_takes_38 : decode cX5_takes 38 = .ok (.goto 4, 3) := by decide +kernel
theorem dX5_takes_41 : decode cX5_takes 41 = .ok (.iconst 0, 1) := by decide +kernel
theorem dX5_takes_42 : decode cX5_takes 42 = .ok (.istore 6, 2) := by decide +kernel
theorem dX5_takes_44 : decode cX5_takes 44 = .ok (.iload 6, 2) := by decide +kernel
theorem dX5_takes_46 : decode cX5_takes 46 = .ok (.ifCond .ne 105, 3) := by decide +kernel
theorem dX5_takes_49 : decode cX5_takes 49 = .ok (.lload_n 2, 1) := by decide +kernel
theorem dX5_takes_50 : decode cX5_takes 50 = .ok (.aload_n 0, 1) := by decide +kernel
theorem dX5_takes_51 : decode cX5_takes 51 = .ok (.getfield 154, 3) := by decide +kernel
theorem dX5_takes_54 : decode cX5_takes 54 = .ok (.lmul, 1) := by decide +kernel
theorem dX5_takes_55 : decode cX5_takes 55 = .ok (.aload_n 0, 1) := by decide +kernel
theorem dX5_takes_56 : decode cX5_takes 56 = .ok (.getfield 157, 3) := by decide +kernel
theorem dX5_takes_59 : decode cX5_takes 59 = .ok (.lload 4, 2) := by decide +kernel
theorem dX5_takes_61 : decode cX5_takes 61 = .ok (.lmul, 1) := by decide +kernel
theorem dX5_takes_62 : decode cX5_takes 62 = .ok (.lcmp, 1) := by decide +kernel
theorem dX5_takes_63 : decode cX5_takes 63 = .ok (.ifCond .ne 88, 3) := by decide +kernel
theorem dX5_takes_66 : decode cX5_takes 66 = .ok (.iload_n 1, 1) := by decide +kernel
theorem dX5_takes_67 : decode cX5_takes 67 = .ok (.aload_n 0, 1) := by decide +kernel
theorem dX5_takes_68 : decode cX5_takes 68 = .ok (.getfield 151, 3) := by decide +kernel
theorem dX5_takes_71 : decode cX5_takes 71 = .ok (.if_icmp .ge 7, 3) := by decide +kernel
theorem dX5_takes_74 : decode cX5_takes 74 = .ok (.iconst 1, 1) := by decide +kernel
theorem dX5_takes_75 : decode cX5_takes 75 = .ok (.goto 4, 3) := by decide +kernel
theorem dX5_takes_78 : decode cX5_takes 78 = .ok (.iconst 0, 1) := by decide +kernel
theorem dX5_takes_79 : decode cX5_takes 79 = .ok (.istore 6, 2) := by decide +kernel
theorem dX5_takes_81 : decode cX5_takes 81 = .ok (.iload_n 1, 1) := by decide +kernel
theorem dX5_takes_82 : decode cX5_takes 82 = .ok (.aload_n 0, 1) := by decide +kernel
theorem dX5_takes_83 : decode cX5_takes 83 = .ok (.getfield 151, 3) := by decide +kernel
theorem dX5_takes_86 : decode cX5_takes 86 = .ok (.if_icmp .ne 65, 3) := by decide +kernel
theorem dX5_takes_89 : decode cX5_takes 89 = .ok (.iconst 0, 1) := by decide +kernel
theorem dX5_takes_90 : decode cX5_takes 90 = .ok (.istore 7, 2) := by decide +kernel
theorem dX5_takes_92 : decode cX5_takes 92 = .ok (.iload 7, 2) := by decide +kernel
theorem dX5_takes_94 : decode cX5_takes 94 = .ok (.iload_n 1, 1) := by decide +kernel
theorem dX5_takes_95 : decode cX5_takes 95 = .ok (.if_icmp .ge 26, 3) := by decide +kernel
theorem dX5_takes_98 : decode cX5_takes 98 = .ok (.aload_n 0, 1) := by decide +kernel
theorem dX5_takes_99 : decode cX5_takes 99 = .ok (.getfield 71, 3) := by decide +kernel
theorem dX5_takes_102 : decode cX5_takes 102 = .ok (.iload 7, 2) := by decide +kernel
theorem dX5_takes_104 : decode cX5_takes 104 = .ok (.iaload, 1) := by decide +kernel
theorem dX5_takes_105 : decode cX5_takes 105 = .ok (.aload_n 0, 1) := by decide +kernel
theorem dX5_takes_106 : decode cX5_takes 106 = .ok (.getfield 74, 3) := by decide +kernel
theorem dX5_takes_109 : decode cX5_takes 109 = .ok (.iload 7, 2) := by decide +kernel
theorem dX5_takes_111 : decode cX5_takes 111 = .ok (.iaload, 1) := by decide +kernel
theorem dX5_takes_112 : decode cX5_takes 112 = .ok (.if_icmp .ne 9, 3) := by decide +kernel
theorem dX5_takes_115 : decode cX5_takes 115 = .ok (.iinc 7 1, 3) := by decide +kernel
theorem dX5_takes_118 : decode cX5_takes 118 = .ok (.goto (-26), 3) := by decide +kernel
theorem dX5_takes_121 : decode cX5_takes 121 = .ok (.iload 7, 2) := by decide +kernel
theorem dX5_takes_123 : decode cX5_takes 123 = .ok (.iload_n 1, 1) := by decide +kernel
theorem dX5_takes_124 : decode cX5_takes 124 = .ok (.if_icmp .ge 24, 3) := by decide +kernel
theorem dX5_takes_127 : decode cX5_takes 127 = .ok (.aload_n 0, 1) := by decide +kernel
theorem dX5_takes_128 : decode cX5_takes 128 = .ok (.getfield 71, 3) := by decide +kernel
theorem dX5_takes_131 : decode cX5_takes 131 = .ok (.iload 7, 2) := by decide +kernel
theorem dX5_takes_133 : decode cX5_takes 133 = .ok (.iaload, 1) := by decide +kernel
theorem dX5_takes_134 : decode cX5_takes 134 = .ok (.aload_n 0, 1) := by decide +kernel
theorem dX5_takes_135 : decode cX5_takes 135 = .ok (.getfield 74, 3) := by decide +kernel
theorem dX5_takes_138 : decode cX5_takes 138 = .ok (.iload 7, 2) := by decide +kernel
theorem dX5_takes_140 : decode cX5_takes 140 = .ok (.iaload, 1) := by decide +kernel
theorem dX5_takes_141 : decode cX5_takes 141 = .ok (.if_icmp .ge 7, 3) := by decide +kernel
theorem dX5_takes_144 : decode cX5_takes 144 = .ok (.iconst 1, 1) := by decide +kernel
theorem dX5_takes_145 : decode cX5_takes 145 = .ok (.goto 4, 3) := by decide +kernel
theorem dX5_takes_148 : decode cX5_takes 148 = .ok (.iconst 0, 1) := by decide +kernel
theorem dX5_takes_149 : decode cX5_takes 149 = .ok (.istore 6, 2) := by decide +kernel
theorem dX5_takes_151 : decode cX5_takes 151 = .ok (.iload 6, 2) := by decide +kernel
theorem dX5_takes_153 : decode cX5_takes 153 = .ok (.ifCond .eq 48, 3) := by decide +kernel
theorem dX5_takes_156 : decode cX5_takes 156 = .ok (.aload_n 0, 1) := by decide +kernel
theorem dX5_takes_157 : decode cX5_takes 157 = .ok (.iload_n 1, 1) := by decide +kernel
theorem dX5_takes_158 : decode cX5_takes 158 = .ok (.putfield 151, 3) := by decide +kernel
theorem dX5_takes_161 : decode cX5_takes 161 = .ok (.aload_n 0, 1) := by decide +kernel
theorem dX5_takes_162 : decode cX5_takes 162 = .ok (.lload_n 2, 1) := by decide +kernel
theorem dX5_takes_163 : decode cX5_takes 163 = .ok (.putfield 157, 3) := by decide +kernel
theorem dX5_takes_166 : decode cX5_takes 166 = .ok (.aload_n 0, 1) := by decide +kernel
theorem dX5_takes_167 : decode cX5_takes 167 = .ok (.lload 4, 2) := by decide +kernel
theorem dX5_takes_169 : decode cX5_takes 169 = .ok (.putfield 154, 3) := by decide +kernel
theorem dX5_takes_172 : decode cX5_takes 172 = .ok (.iconst 0, 1) := by decide +kernel
theorem dX5_takes_173 : decode cX5_takes 173 = .ok (.istore 7, 2) := by decide +kernel
theorem dX5_takes_175 : decode cX5_takes 175 = .ok (.iload 7, 2) := by decide +kernel
theorem dX5_takes_177 : decode cX5_takes 177 = .ok (.iload_n 1, 1) := by decide +kernel
theorem dX5_takes_178 : decode cX5_takes 178 = .ok (.if_icmp .ge 23, 3) := by decide +kernel
theorem dX5_takes_181 : decode cX5_takes 181 = .ok (.aload_n 0, 1) := by decide +kernel
theorem dX5_takes_182 : decode cX5_takes 182 = .ok (.getfield 74, 3) := by decide +kernel
theorem dX5_takes_185 : decode cX5_takes 185 = .ok (.iload 7, 2) := by decide +kernel
theorem dX5_takes_187 : decode cX5_takes 187 = .ok (.aload_n 0, 1) := by decide +kernel
theorem dX5_takes_188 : decode cX5_takes 188 = .ok (.getfield 71, 3) := by decide +kernel
theorem dX5_takes_191 : decode cX5_takes 191 = .ok (.iload 7, 2) := by decide +kernel
theorem dX5_takes_193 : decode cX5_takes 193 = .ok (.iaload, 1) := by decide +kernel
theorem dX5_takes_194 : decode cX5_takes 194 = .ok (.iastore, 1) := by decide +kernel
theorem dX5_takes_195 : decode cX5_takes 195 = .ok (.iinc 7 1, 3) := by decide +kernel
theorem dX5_takes_198 : decode cX5_takes 198 = .ok (.goto (-23), 3) := by decide +kernel
theorem dX5_takes_201 : decode cX5_takes 201 = .ok (.return_, 1) := by decide +kernel
theorem dX5_isOn_0 : decode cX5_isOn 0 = .ok (.iconst 0, 1) := by decide +kernel
theorem dX5_isOn_1 : decode cX5_isOn 1 = .ok (.istore_n 3, 1) := by decide +kernel
theorem dX5_isOn_2 : decode cX5_isOn 2 = .ok (.iload_n 3, 1) := by decide +kernel
theorem dX5_isOn_3 : decode cX5_isOn 3 = .ok (.iload_n 1, 1) := by decide +kernel
theorem dX5_isOn_4 : decode cX5_isOn 4 = .ok (.if_icmp .ge 26, 3) := by decide +kernel
theorem dX5_isOn_7 : decode cX5_isOn 7 = .ok (.aload_n 0, 1) := by decide +kernel
theorem dX5_isOn_8 : decode cX5_isOn 8 = .ok (.getfield 16, 3) := by decide +kernel
theorem dX5_isOn_11 : decode cX5_isOn 11 = .ok (.aload_n 0, 1) := by decide +kernel
theorem dX5_isOn_12 : decode cX5_isOn 12 = .ok (.getfield 71, 3) := by decide +kernel
theorem dX5_isOn_15 : decode cX5_isOn 15 = .ok (.iload_n 3, 1) := by decide +kernel
theorem dX5_isOn_16 : decode cX5_isOn 16 = .ok (.iaload, 1) := by decide +kernel
theorem dX5_isOn_17 : decode cX5_isOn 17 = .ok (.iaload, 1) := by decide +kernel
theorem dX5_isOn_18 : decode cX5_isOn 18 = .ok (.iload_n 2, 1) := by decide +kernel
theorem dX5_isOn_19 : decode cX5_isOn 19 = .ok (.if_icmp .ne 5, 3) := by decide +kernel
theorem dX5_isOn_22 : decode cX5_isOn 22 = .ok (.iconst 1, 1) := by decide +kernel
theorem dX5_isOn_23 : decode cX5_isOn 23 = .ok (.ireturn, 1) := by decide +kernel
theorem dX5_isOn_24 : decode cX5_isOn 24 = .ok (.iinc 3 1, 3) := by decide +kernel
theorem dX5_isOn_27 : decode cX5_isOn 27 = .ok (.goto (-25), 3) := by decide +kernel
theorem dX5_isOn_30 : decode cX5_isOn 30 = .ok (.iconst 0, 1) := by decide +kernel
theorem dX5_isOn_31 : decode cX5_isOn 31 = .ok (.ireturn, 1) := by decide +kernel
theorem dX5_goAll_0 : decode cX5_goAll 0 = .ok (.iconst 0, 1) := by decide +kernel
theorem dX5_goAll_1 : decode cX5_goAll 1 = .ok (.istore 4, 2) := by decide +kernel
theorem dX5_goAll_3 : decode cX5_goAll 3 = .ok (.aload_n 0, 1) := by decide +kernel
theorem dX5_goAll_4 : decode cX5_goAll 4 = .ok (.getfield 71, 3) := by decide +kernel
theorem dX5_goAll_7 : decode cX5_goAll 7 = .ok (.iconst 0, 1) := by decide +kernel
theorem dX5_goAll_8 : decode cX5_goAll 8 = .ok (.iconst (-1), 1) := by decide +kernel
theorem dX5_goAll_9 : decode cX5_goAll 9 = .ok (.iastore, 1) := by decide +kernel
theorem dX5_goAll_10 : decode cX5_goAll 10 = .ok (.iload 4, 2) := by decide +kernel
theorem dX5_goAll_12 : decode cX5_goAll 12 = .ok (.ifCond .lt 210, 3) := by decide +kernel
theorem dX5_goAll_15 : decode cX5_goAll 15 = .ok (.aload_n 0, 1) := by decide +kernel
theorem dX5_goAll_16 : decode cX5_goAll 16 = .ok (.getfield 71, 3) := by decide +kernel
theorem dX5_goAll_19 : decode cX5_goAll 19 = .ok (.iload 4, 2) := by decide +kernel
theorem dX5_goAll_21 : decode cX5_goAll 21 = .ok (.dup2, 1) := by decide +kernel
theorem dX5_goAll_22 : decode cX5_goAll 22 = .ok (.iaload, 1) := by decide +kernel
theorem dX5_goAll_23 : decode cX5_goAll 23 = .ok (.iconst 1, 1) := by decide +kernel
theorem dX5_goAll_24 : decode cX5_goAll 24 = .ok (.iadd, 1) := by decide +kernel
theorem dX5_goAll_25 : decode cX5_goAll 25 = .ok (.iastore, 1) := by decide +kernel
theorem dX5_goAll_26 : decode cX5_goAll 26 = .ok (.aload_n 0, 1) := by decide +kernel
theorem dX5_goAll_27 : decode cX5_goAll 27 = .ok (.getfield 71, 3) := by decide +kernel
theorem dX5_goAll_30 : decode cX5_goAll 30 = .ok (.iload 4, 2) := by decide +kernel
theorem dX5_goAll_32 : decode cX5_goAll 32 = .ok (.iaload, 1) := by decide +kernel
theorem dX5_goAll_33 : decode cX5_goAll 33 = .ok (.aload_n 0, 1) := by decide +kernel
theorem dX5_goAll_34 : decode cX5_goAll 34 = .ok (.getfield 13, 3) := by decide +kernel
theorem dX5_goAll_37 : decode cX5_goAll 37 = .ok (.iconst 0, 1) := by decide +kernel
theorem dX5_goAll_38 : decode cX5_goAll 38 = .ok (.iaload, 1) := by decide +kernel
theorem dX5_goAll_39 : decode cX5_goAll 39 = .ok (.if_icmp .lt 9, 3) := by decide +kernel
theorem dX5_goAll_42 : decode cX5_goAll 42 = .ok (.iinc 4 (-1), 3) := by decide +kernel
theorem dX5_goAll_45 : decode cX5_goAll 45 = .ok (.goto (-35), 3) := by decide +kernel
theorem dX5_goAll_48 : decode cX5_goAll 48 = .ok (.iload 4, 2) := by decide +kernel
theorem dX5_goAll_50 : decode cX5_goAll 50 = .ok (.ifCond .ne 7, 3) := by decide +kernel
theorem dX5_goAll_53 : decode cX5_goAll 53 = .ok (.iload_n 1, 1) := by decide +kernel
theorem dX5_goAll_54 : decode cX5_goAll 54 = .ok (.goto 17, 3) := by decide +kernel
theorem dX5_goAll_57 : decode cX5_goAll 57 = .ok (.aload_n 0, 1) := by decide +kernel
theorem dX5_goAll_58 : decode cX5_goAll 58 = .ok (.getfield 19, 3) := by decide +kernel
theorem dX5_goAll_61 : decode cX5_goAll 61 = .ok (.aload_n 0, 1) := by decide +kernel
theorem dX5_goAll_62 : decode cX5_goAll 62 = .ok (.getfield 71, 3) := by decide +kernel
theorem dX5_goAll_65 : decode cX5_goAll 65 = .ok (.iload 4, 2) := by decide +kernel
theorem dX5_goAll_67 : decode cX5_goAll 67 = .ok (.iconst 1, 1) := by decide +kernel
theorem dX5_goAll_68 : decode cX5_goAll 68 = .ok (.isub, 1) := by decide +kernel
theorem dX5_goAll_69 : decode cX5_goAll 69 = .ok (.iaload, 1) := by decide +kernel
theorem dX5_goAll_70 : decode cX5_goAll 70 = .ok (.iaload, 1) := by decide +kernel
theorem dX5_goAll_71 : decode cX5_goAll 71 = .ok (.istore 5, 2) := by decide +kernel
theorem dX5_goAll_73 : decode cX5_goAll 73 = .ok (.aload_n 0, 1) := by decide +kernel
theorem dX5_goAll_74 : decode cX5_goAll 74 = .ok (.getfield 19, 3) := by decide +kernel
theorem dX5_goAll_77 : decode cX5_goAll 77 = .ok (.aload_n 0, 1) := by decide +kernel
theorem dX5_goAll_78 : decode cX5_goAll 78 = .ok (.getfield 71, 3) := by decide +kernel
theorem dX5_goAll_81 : decode cX5_goAll 81 = .ok (.iload 4, 2) := by decide +kernel
theorem dX5_goAll_83 : decode cX5_goAll 83 = .ok (.iaload, 1) := by decide +kernel
theorem dX5_goAll_84 : decode cX5_goAll 84 = .ok (.iaload, 1) := by decide +kernel
theorem dX5_goAll_85 : decode cX5_goAll 85 = .ok (.istore 6, 2) := by decide +kernel
theorem dX5_goAll_87 : decode cX5_goAll 87 = .ok (.aload_n 0, 1) := by decide +kernel
theorem dX5_goAll_88 : decode cX5_goAll 88 = .ok (.getfield 16, 3) := by decide +kernel
theorem dX5_goAll_91 : decode cX5_goAll 91 = .ok (.aload_n 0, 1) := by decide +kernel
theorem dX5_goAll_92 : decode cX5_goAll 92 = .ok (.getfield 71, 3) := by decide +kernel
theorem dX5_goAll_95 : decode cX5_goAll 95 = .ok (.iload 4, 2) := by decide +kernel
theorem dX5_goAll_97 : decode cX5_goAll 97 = .ok (.iaload, 1) := by decide +kernel
theorem dX5_goAll_98 : decode cX5_goAll 98 = .ok (.iaload, 1) := by decide +kernel
theorem dX5_goAll_99 : decode cX5_goAll 99 = .ok (.iload 5, 2) := by decide +kernel
theorem dX5_goAll_101 : decode cX5_goAll 101 = .ok (.if_icmp .eq 6, 3) := by decide +kernel
theorem dX5_goAll_104 : decode cX5_goAll 104 = .ok (.goto (-94), 3) := by decide +kernel
theorem dX5_goAll_107 : decode cX5_goAll 107 = .ok (.iload 6, 2) := by decide +kernel
theorem dX5_goAll_109 : decode cX5_goAll 109 = .ok (.iload_n 2, 1) := by decide +kernel
theorem dX5_goAll_110 : decode cX5_goAll 110 = .ok (.if_icmp .ne 69, 3) := by decide +kernel
theorem dX5_goAll_113 : decode cX5_goAll 113 = .ok (.iload_n 3, 1) := by decide +kernel
theorem dX5_goAll_114 : decode cX5_goAll 114 = .ok (.ifCond .ne 14, 3) := by decide +kernel
theorem dX5_goAll_117 : decode cX5_goAll 117 = .ok (.aload_n 0, 1) := by decide +kernel
theorem dX5_goAll_118 : decode cX5_goAll 118 = .ok (.iload 4, 2) := by decide +kernel
theorem dX5_goAll_120 : decode cX5_goAll 120 = .ok (.iconst 1, 1) := by decide +kernel
theorem dX5_goAll_121 : decode cX5_goAll 121 = .ok (.iadd, 1) := by decide +kernel
theorem dX5_goAll_122 : decode cX5_goAll 122 = .ok (.invokevirtual 160, 3) := by decide +kernel
theorem dX5_goAll_125 : decode cX5_goAll 125 = .ok (.goto 94, 3) := by decide +kernel
theorem dX5_goAll_128 : decode cX5_goAll 128 = .ok (.aload_n 0, 1) := by decide +kernel
theorem dX5_goAll_129 : decode cX5_goAll 129 = .ok (.dup, 1) := by decide +kernel
theorem dX5_goAll_130 : decode cX5_goAll 130 = .ok (.getfield 163, 3) := by decide +kernel
theorem dX5_goAll_133 : decode cX5_goAll 133 = .ok (.iconst 1, 1) := by decide +kernel
theorem dX5_goAll_134 : decode cX5_goAll 134 = .ok (.iadd, 1) := by decide +kernel
theorem dX5_goAll_135 : decode cX5_goAll 135 = .ok (.putfield 163, 3) := by decide +kernel
theorem dX5_goAll_138 : decode cX5_goAll 138 = .ok (.aload_n 0, 1) := by decide +kernel
theorem dX5_goAll_139 : decode cX5_goAll 139 = .ok (.iload 4, 2) := by decide +kernel
theorem dX5_goAll_141 : decode cX5_goAll 141 = .ok (.iconst 1, 1) := by decide +kernel
theorem dX5_goAll_142 : decode cX5_goAll 142 = .ok (.iadd, 1) := by decide +kernel
theorem dX5_goAll_143 : decode cX5_goAll 143 = .ok (.invokevirtual 144, 3) := by decide +kernel
theorem dX5_goAll_146 : decode cX5_goAll 146 = .ok (.aload_n 0, 1) := by decide +kernel
theorem dX5_goAll_147 : decode cX5_goAll 147 = .ok (.iload 4, 2) := by decide +kernel
theorem dX5_goAll_149 : decode cX5_goAll 149 = .ok (.iconst 1, 1) := by decide +kernel
theorem dX5_goAll_150 : decode cX5_goAll 150 = .ok (.iadd, 1) := by decide +kernel
theorem dX5_goAll_151 : decode cX5_goAll 151 = .ok (.invokevirtual 148, 3) := by decide +kernel
theorem dX5_goAll_154 : decode cX5_goAll 154 = .ok (.lcmp, 1) := by decide +kernel
theorem dX5_goAll_155 : decode cX5_goAll 155 = .ok (.ifCond .le 64, 3) := by decide +kernel
theorem dX5_goAll_158 : decode cX5_goAll 158 = .ok (.aload_n 0, 1) := by decide +kernel
theorem dX5_goAll_159 : decode cX5_goAll 159 = .ok (.dup, 1) := by decide +kernel
theorem dX5_goAll_160 : decode cX5_goAll 160 = .ok (.getfield 166, 3) := by decide +kernel
theorem dX5_goAll_163 : decode cX5_goAll 163 = .ok (.iconst 1, 1) := by decide +kernel
theorem dX5_goAll_164 : decode cX5_goAll 164 = .ok (.iadd, 1) := by decide +kernel
theorem dX5_goAll_165 : decode cX5_goAll 165 = .ok (.putfield 166, 3) := by decide +kernel
theorem dX5_goAll_168 : decode cX5_goAll 168 = .ok (.aload_n 0, 1) := by decide +kernel
theorem dX5_goAll_169 : decode cX5_goAll 169 = .ok (.iload 4, 2) := by decide +kernel
theorem dX5_goAll_171 : decode cX5_goAll 171 = .ok (.iconst 1, 1) := by decide +kernel
theorem dX5_goAll_172 : decode cX5_goAll 172 = .ok (.iadd, 1) := by decide +kernel
theorem dX5_goAll_173 : decode cX5_goAll 173 = .ok (.invokevirtual 160, 3) := by decide +kernel
theorem dX5_goAll_176 : decode cX5_goAll 176 = .ok (.goto 43, 3) := by decide +kernel
theorem dX5_goAll_179 : decode cX5_goAll 179 = .ok (.aload_n 0, 1) := by decide +kernel
theorem dX5_goAll_180 : decode cX5_goAll 180 = .ok (.iload 4, 2) := by decide +kernel
theorem dX5_goAll_182 : decode cX5_goAll 182 = .ok (.iconst 1, 1) := by decide +kernel
theorem dX5_goAll_183 : decode cX5_goAll 183 = .ok (.iadd, 1) := by decide +kernel
theorem dX5_goAll_184 : decode cX5_goAll 184 = .ok (.iload 6, 2) := by decide +kernel
theorem dX5_goAll_186 : decode cX5_goAll 186 = .ok (.invokevirtual 169, 3) := by decide +kernel
theorem dX5_goAll_189 : decode cX5_goAll 189 = .ok (.ifCond .ne 30, 3) := by decide +kernel
theorem dX5_goAll_192 : decode cX5_goAll 192 = .ok (.iload_n 3, 1) := by decide +kernel
theorem dX5_goAll_193 : decode cX5_goAll 193 = .ok (.ifCond .eq 9, 3) := by decide +kernel
theorem dX5_goAll_196 : decode cX5_goAll 196 = .ok (.iload 6, 2) := by decide +kernel
theorem dX5_goAll_198 : decode cX5_goAll 198 = .ok (.iload_n 1, 1) := by decide +kernel
theorem dX5_goAll_199 : decode cX5_goAll 199 = .ok (.if_icmp .le 20, 3) := by decide +kernel
theorem dX5_goAll_202 : decode cX5_goAll 202 = .ok (.iload 4, 2) := by decide +kernel
theorem dX5_goAll_204 : decode cX5_goAll 204 = .ok (.iconst 4, 1) := by decide +kernel
theorem dX5_goAll_205 : decode cX5_goAll 205 = .ok (.if_icmp .ge 14, 3) := by decide +kernel
theorem dX5_goAll_208 : decode cX5_goAll 208 = .ok (.iinc 4 1, 3) := by decide +kernel
theorem dX5_goAll_211 : decode cX5_goAll 211 = .ok (.aload_n 0, 1) := by decide +kernel
theorem dX5_goAll_212 : decode cX5_goAll 212 = .ok (.getfield 71, 3) := by decide +kernel
theorem dX5_goAll_215 : decode cX5_goAll 215 = .ok (.iload 4, 2) := by decide +kernel
theorem dX5_goAll_217 : decode cX5_goAll 217 = .ok (.iconst (-1), 1) := by decide +kernel
theorem dX5_goAll_218 : decode cX5_goAll 218 = .ok (.iastore, 1) := by decide +kernel
theorem dX5_goAll_219 : decode cX5_goAll 219 = .ok (.goto (-209), 3) := by decide +kernel
theorem dX5_goAll_222 : decode cX5_goAll 222 = .ok (.return_, 1) := by decide +kernel
theorem dX5_keep_0 : decode cX5_keep 0 = .ok (.aload_n 0, 1) := by decide +kernel
theorem dX5_keep_1 : decode cX5_keep 1 = .ok (.getfield 40, 3) := by decide +kernel
theorem dX5_keep_4 : decode cX5_keep 4 = .ok (.iconst 0, 1) := by decide +kernel
theorem dX5_keep_5 : decode cX5_keep 5 = .ok (.aload_n 0, 1) := by decide +kernel
theorem dX5_keep_6 : decode cX5_keep 6 = .ok (.getfield 151, 3) := by decide +kernel
theorem dX5_keep_9 : decode cX5_keep 9 = .ok (.iastore, 1) := by decide +kernel
theorem dX5_keep_10 : decode cX5_keep 10 = .ok (.aload_n 0, 1) := by decide +kernel
theorem dX5_keep_11 : decode cX5_keep 11 = .ok (.getfield 151, 3) := by decide +kernel
theorem dX5_keep_14 : decode cX5_keep 14 = .ok (.ifCond .ne 5, 3) := by decide +kernel
theorem dX5_keep_17 : decode cX5_keep 17 = .ok (.iconst (-1), 1) := by decide +kernel
theorem dX5_keep_18 : decode cX5_keep 18 = .ok (.ireturn, 1) := by decide +kernel
theorem dX5_keep_19 : decode cX5_keep 19 = .ok (.iconst 0, 1) := by decide +kernel
theorem dX5_keep_20 : decode cX5_keep 20 = .ok (.istore_n 1, 1) := by decide +kernel
theorem dX5_keep_21 : decode cX5_keep 21 = .ok (.iload_n 1, 1) := by decide +kernel
theorem dX5_keep_22 : decode cX5_keep 22 = .ok (.aload_n 0, 1) := by decide +kernel
theorem dX5_keep_23 : decode cX5_keep 23 = .ok (.getfield 151, 3) := by decide +kernel
theorem dX5_keep_26 : decode cX5_keep 26 = .ok (.if_icmp .ge 21, 3) := by decide +kernel
theorem dX5_keep_29 : decode cX5_keep 29 = .ok (.aload_n 0, 1) := by decide +kernel
theorem dX5_keep_30 : decode cX5_keep 30 = .ok (.getfield 43, 3) := by decide +kernel
theorem dX5_keep_33 : decode cX5_keep 33 = .ok (.iload_n 1, 1) := by decide +kernel
theorem dX5_keep_34 : decode cX5_keep 34 = .ok (.aload_n 0, 1) := by decide +kernel
theorem dX5_keep_35 : decode cX5_keep 35 = .ok (.getfield 74, 3) := by decide +kernel
theorem dX5_keep_38 : decode cX5_keep 38 = .ok (.iload_n 1, 1) := by decide +kernel
theorem dX5_keep_39 : decode cX5_keep 39 = .ok (.iaload, 1) := by decide +kernel
theorem dX5_keep_40 : decode cX5_keep 40 = .ok (.iastore, 1) := by decide +kernel
theorem dX5_keep_41 : decode cX5_keep 41 = .ok (.iinc 1 1, 3) := by decide +kernel
theorem dX5_keep_44 : decode cX5_keep 44 = .ok (.goto (-23), 3) := by decide +kernel
theorem dX5_keep_47 : decode cX5_keep 47 = .ok (.aload_n 0, 1) := by decide +kernel
theorem dX5_keep_48 : decode cX5_keep 48 = .ok (.aload_n 0, 1) := by decide +kernel
theorem dX5_keep_49 : decode cX5_keep 49 = .ok (.getfield 157, 3) := by decide +kernel
theorem dX5_keep_52 : decode cX5_keep 52 = .ok (.aload_n 0, 1) := by decide +kernel
theorem dX5_keep_53 : decode cX5_keep 53 = .ok (.getfield 154, 3) := by decide +kernel
theorem dX5_keep_56 : decode cX5_keep 56 = .ok (.invokevirtual 100, 3) := by decide +kernel
theorem dX5_keep_59 : decode cX5_keep 59 = .ok (.aload_n 0, 1) := by decide +kernel
theorem dX5_keep_60 : decode cX5_keep 60 = .ok (.getfield 46, 3) := by decide +kernel
theorem dX5_keep_63 : decode cX5_keep 63 = .ok (.iconst 0, 1) := by decide +kernel
theorem dX5_keep_64 : decode cX5_keep 64 = .ok (.aload_n 0, 1) := by decide +kernel
theorem dX5_keep_65 : decode cX5_keep 65 = .ok (.getfield 104, 3) := by decide +kernel
theorem dX5_keep_68 : decode cX5_keep 68 = .ok (.lastore, 1) := by decide +kernel
theorem dX5_keep_69 : decode cX5_keep 69 = .ok (.aload_n 0, 1) := by decide +kernel
theorem dX5_keep_70 : decode cX5_keep 70 = .ok (.getfield 50, 3) := by decide +kernel
theorem dX5_keep_73 : decode cX5_keep 73 = .ok (.iconst 0, 1) := by decide +kernel
theorem dX5_keep_74 : decode cX5_keep 74 = .ok (.aload_n 0, 1) := by decide +kernel
theorem dX5_keep_75 : decode cX5_keep 75 = .ok (.getfield 108, 3) := by decide +kernel
theorem dX5_keep_78 : decode cX5_keep 78 = .ok (.lastore, 1) := by decide +kernel
theorem dX5_keep_79 : decode cX5_keep 79 = .ok (.aload_n 0, 1) := by decide +kernel
theorem dX5_keep_80 : decode cX5_keep 80 = .ok (.getfield 151, 3) := by decide +kernel
theorem dX5_keep_83 : decode cX5_keep 83 = .ok (.ireturn, 1) := by decide +kernel
theorem dX5_way_0 : decode cX5_way 0 = .ok (.aload_n 0, 1) := by decide +kernel
theorem dX5_way_1 : decode cX5_way 1 = .ok (.iconst 0, 1) := by decide +kernel
theorem dX5_way_2 : decode cX5_way 2 = .ok (.putfield 81, 3) := by decide +kernel
theorem dX5_way_5 : decode cX5_way 5 = .ok (.aload_n 0, 1) := by decide +kernel
theorem dX5_way_6 : decode cX5_way 6 = .ok (.iconst 0, 1) := by decide +kernel
theorem dX5_way_7 : decode cX5_way 7 = .ok (.putfield 151, 3) := by decide +kernel
theorem dX5_way_10 : decode cX5_way 10 = .ok (.aload_n 0, 1) := by decide +kernel
theorem dX5_way_11 : decode cX5_way 11 = .ok (.iload_n 1, 1) := by decide +kernel
theorem dX5_way_12 : decode cX5_way 12 = .ok (.invokevirtual 93, 3) := by decide +kernel
theorem dX5_way_15 : decode cX5_way 15 = .ok (.ifCond .eq 23, 3) := by decide +kernel
theorem dX5_way_18 : decode cX5_way 18 = .ok (.aload_n 0, 1) := by decide +kernel
theorem dX5_way_19 : decode cX5_way 19 = .ok (.iload_n 2, 1) := by decide +kernel
theorem dX5_way_20 : decode cX5_way 20 = .ok (.invokevirtual 93, 3) := by decide +kernel
theorem dX5_way_23 : decode cX5_way 23 = .ok (.ifCond .eq 15, 3) := by decide +kernel
theorem dX5_way_26 : decode cX5_way 26 = .ok (.iload_n 1, 1) := by decide +kernel
theorem dX5_way_27 : decode cX5_way 27 = .ok (.iload_n 2, 1) := by decide +kernel
theorem dX5_way_28 : decode cX5_way 28 = .ok (.if_icmp .eq 10, 3) := by decide +kernel
theorem dX5_way_31 : decode cX5_way 31 = .ok (.aload_n 0, 1) := by decide +kernel
theorem dX5_way_32 : decode cX5_way 32 = .ok (.iload_n 1, 1) := by decide +kernel
theorem dX5_way_33 : decode cX5_way 33 = .ok (.iload_n 2, 1) := by decide +kernel
theorem dX5_way_34 : decode cX5_way 34 = .ok (.iconst 0, 1) := by decide +kernel
theorem dX5_way_35 : decode cX5_way 35 = .ok (.invokevirtual 173, 3) := by decide +kernel
theorem dX5_way_38 : decode cX5_way 38 = .ok (.aload_n 0, 1) := by decide +kernel
theorem dX5_way_39 : decode cX5_way 39 = .ok (.invokevirtual 177, 3) := by decide +kernel
theorem dX5_way_42 : decode cX5_way 42 = .ok (.ireturn, 1) := by decide +kernel
theorem dX5_findRings_0 : decode cX5_findRings 0 = .ok (.aload_n 0, 1) := by decide +kernel
theorem dX5_findRings_1 : decode cX5_findRings 1 = .ok (.iconst 0, 1) := by decide +kernel
theorem dX5_findRings_2 : decode cX5_findRings 2 = .ok (.putfield 151, 3) := by decide +kernel
theorem dX5_findRings_5 : decode cX5_findRings 5 = .ok (.aload_n 0, 1) := by decide +kernel
theorem dX5_findRings_6 : decode cX5_findRings 6 = .ok (.iconst 0, 1) := by decide +kernel
theorem dX5_findRings_7 : decode cX5_findRings 7 = .ok (.putfield 163, 3) := by decide +kernel
theorem dX5_findRings_10 : decode cX5_findRings 10 = .ok (.aload_n 0, 1) := by decide +kernel
theorem dX5_findRings_11 : decode cX5_findRings 11 = .ok (.iconst 0, 1) := by decide +kernel
theorem dX5_findRings_12 : decode cX5_findRings 12 = .ok (.putfield 166, 3) := by decide +kernel
theorem dX5_findRings_15 : decode cX5_findRings 15 = .ok (.iconst 1, 1) := by decide +kernel
theorem dX5_findRings_16 : decode cX5_findRings 16 = .ok (.istore_n 1, 1) := by decide +kernel
theorem dX5_findRings_17 : decode cX5_findRings 17 = .ok (.iload_n 1, 1) := by decide +kernel
theorem dX5_findRings_18 : decode cX5_findRings 18 = .ok (.aload_n 0, 1) := by decide +kernel
theorem dX5_findRings_19 : decode cX5_findRings 19 = .ok (.getfield 7, 3) := by decide +kernel
theorem dX5_findRings_22 : decode cX5_findRings 22 = .ok (.iconst 0, 1) := by decide +kernel
theorem dX5_findRings_23 : decode cX5_findRings 23 = .ok (.iaload, 1) := by decide +kernel
theorem dX5_findRings_24 : decode cX5_findRings 24 = .ok (.iconst 1, 1) := by decide +kernel
theorem dX5_findRings_25 : decode cX5_findRings 25 = .ok (.isub, 1) := by decide +kernel
theorem dX5_findRings_26 : decode cX5_findRings 26 = .ok (.if_icmp .ge 16, 3) := by decide +kernel
theorem dX5_findRings_29 : decode cX5_findRings 29 = .ok (.aload_n 0, 1) := by decide +kernel
theorem dX5_findRings_30 : decode cX5_findRings 30 = .ok (.iload_n 1, 1) := by decide +kernel
theorem dX5_findRings_31 : decode cX5_findRings 31 = .ok (.iload_n 1, 1) := by decide +kernel
theorem dX5_findRings_32 : decode cX5_findRings 32 = .ok (.iconst 1, 1) := by decide +kernel
theorem dX5_findRings_33 : decode cX5_findRings 33 = .ok (.invokevirtual 173, 3) := by decide +kernel
theorem dX5_findRings_36 : decode cX5_findRings 36 = .ok (.iinc 1 1, 3) := by decide +kernel
theorem dX5_findRings_39 : decode cX5_findRings 39 = .ok (.goto (-22), 3) := by decide +kernel
theorem dX5_findRings_42 : decode cX5_findRings 42 = .ok (.return_, 1) := by decide +kernel
theorem dX5_ring_0 : decode cX5_ring 0 = .ok (.aload_n 0, 1) := by decide +kernel
theorem dX5_ring_1 : decode cX5_ring 1 = .ok (.iconst 0, 1) := by decide +kernel
theorem dX5_ring_2 : decode cX5_ring 2 = .ok (.putfield 81, 3) := by decide +kernel
theorem dX5_ring_5 : decode cX5_ring 5 = .ok (.aload_n 0, 1) := by decide +kernel
theorem dX5_ring_6 : decode cX5_ring 6 = .ok (.invokevirtual 181, 3) := by decide +kernel
theorem dX5_ring_9 : decode cX5_ring 9 = .ok (.aload_n 0, 1) := by decide +kernel
theorem dX5_ring_10 : decode cX5_ring 10 = .ok (.invokevirtual 177, 3) := by decide +kernel
theorem dX5_ring_13 : decode cX5_ring 13 = .ok (.ireturn, 1) := by decide +kernel
theorem dX5_row_0 : decode cX5_row 0 = .ok (.aload_n 0, 1) := by decide +kernel
theorem dX5_row_1 : decode cX5_row 1 = .ok (.iconst 0, 1) := by decide +kernel
theorem dX5_row_2 : decode cX5_row 2 = .ok (.putfield 81, 3) := by decide +kernel
theorem dX5_row_5 : decode cX5_row 5 = .ok (.iload_n 1, 1) := by decide +kernel
theorem dX5_row_6 : decode cX5_row 6 = .ok (.iconst 0, 1) := by decide +kernel
theorem dX5_row_7 : decode cX5_row 7 = .ok (.aload_n 0, 1) := by decide +kernel
theorem dX5_row_8 : decode cX5_row 8 = .ok (.getfield 40, 3) := by decide +kernel
theorem dX5_row_11 : decode cX5_row 11 = .ok (.iconst 0, 1) := by decide +kernel
theorem dX5_row_12 : decode cX5_row 12 = .ok (.iaload, 1) := by decide +kernel
theorem dX5_row_13 : decode cX5_row 13 = .ok (.iconst 1, 1) := by decide +kernel
theorem dX5_row_14 : decode cX5_row 14 = .ok (.isub, 1) := by decide +kernel
theorem dX5_row_15 : decode cX5_row 15 = .ok (.invokestatic 89, 3) := by decide +kernel
theorem dX5_row_18 : decode cX5_row 18 = .ok (.ifCond .eq 12, 3) := by decide +kernel
theorem dX5_row_21 : decode cX5_row 21 = .ok (.aload_n 0, 1) := by decide +kernel
theorem dX5_row_22 : decode cX5_row 22 = .ok (.getfield 43, 3) := by decide +kernel
theorem dX5_row_25 : decode cX5_row 25 = .ok (.iload_n 1, 1) := by decide +kernel
theorem dX5_row_26 : decode cX5_row 26 = .ok (.iaload, 1) := by decide +kernel
theorem dX5_row_27 : decode cX5_row 27 = .ok (.goto 4, 3) := by decide +kernel
theorem dX5_row_30 : decode cX5_row 30 = .ok (.iconst (-1), 1) := by decide +kernel
theorem dX5_row_31 : decode cX5_row 31 = .ok (.ireturn, 1) := by decide +kernel
theorem dX5_gain_0 : decode cX5_gain 0 = .ok (.aload_n 0, 1) := by decide +kernel
theorem dX5_gain_1 : decode cX5_gain 1 = .ok (.iconst 0, 1) := by decide +kernel
theorem dX5_gain_2 : decode cX5_gain 2 = .ok (.putfield 81, 3) := by decide +kernel
theorem dX5_gain_5 : decode cX5_gain 5 = .ok (.aload_n 0, 1) := by decide +kernel
theorem dX5_gain_6 : decode cX5_gain 6 = .ok (.getfield 40, 3) := by decide +kernel
theorem dX5_gain_9 : decode cX5_gain 9 = .ok (.iconst 0, 1) := by decide +kernel
theorem dX5_gain_10 : decode cX5_gain 10 = .ok (.iaload, 1) := by decide +kernel
theorem dX5_gain_11 : decode cX5_gain 11 = .ok (.ifCond .ne 7, 3) := by decide +kernel
theorem dX5_gain_14 : decode cX5_gain 14 = .ok (.lconst 0, 1) := by decide +kernel
theorem dX5_gain_15 : decode cX5_gain 15 = .ok (.goto 22, 3) := by decide +kernel
theorem dX5_gain_18 : decode cX5_gain 18 = .ok (.iload_n 1, 1) := by decide +kernel
theorem dX5_gain_19 : decode cX5_gain 19 = .ok (.ifCond .eq 12, 3) := by decide +kernel
theorem dX5_gain_22 : decode cX5_gain 22 = .ok (.aload_n 0, 1) := by decide +kernel
theorem dX5_gain_23 : decode cX5_gain 23 = .ok (.getfield 50, 3) := by decide +kernel
theorem dX5_gain_26 : decode cX5_gain 26 = .ok (.iconst 0, 1) := by decide +kernel
theorem dX5_gain_27 : decode cX5_gain 27 = .ok (.laload, 1) := by decide +kernel
theorem dX5_gain_28 : decode cX5_gain 28 = .ok (.goto 9, 3) := by decide +kernel
theorem dX5_gain_31 : decode cX5_gain 31 = .ok (.aload_n 0, 1) := by decide +kernel
theorem dX5_gain_32 : decode cX5_gain 32 = .ok (.getfield 46, 3) := by decide +kernel
theorem dX5_gain_35 : decode cX5_gain 35 = .ok (.iconst 0, 1) := by decide +kernel
theorem dX5_gain_36 : decode cX5_gain 36 = .ok (.laload, 1) := by decide +kernel
theorem dX5_gain_37 : decode cX5_gain 37 = .ok (.lreturn, 1) := by decide +kernel
theorem dX5_send_0 : decode cX5_send 0 = .ok (.aload_n 0, 1) := by decide +kernel
theorem dX5_send_1 : decode cX5_send 1 = .ok (.iconst 0, 1) := by decide +kernel
theorem dX5_send_2 : decode cX5_send 2 = .ok (.putfield 81, 3) := by decide +kernel
theorem dX5_send_5 : decode cX5_send 5 = .ok (.aload_n 0, 1) := by decide +kernel
theorem dX5_send_6 : decode cX5_send 6 = .ok (.iload_n 1, 1) := by decide +kernel
theorem dX5_send_7 : decode cX5_send 7 = .ok (.invokevirtual 97, 3) := by decide +kernel
theorem dX5_send_10 : decode cX5_send 10 = .ok (.ifCond .eq 24, 3) := by decide +kernel
theorem dX5_send_13 : decode cX5_send 13 = .ok (.iload_n 2, 1) := by decide +kernel
theorem dX5_send_14 : decode cX5_send 14 = .ok (.iconst 0, 1) := by decide +kernel
theorem dX5_send_15 : decode cX5_send 15 = .ok (.sipush 1000, 3) := by decide +kernel
theorem dX5_send_18 : decode cX5_send 18 = .ok (.invokestatic 89, 3) := by decide +kernel
theorem dX5_send_21 : decode cX5_send 21 = .ok (.ifCond .eq 13, 3) := by decide +kernel
theorem dX5_send_24 : decode cX5_send 24 = .ok (.iload_n 3, 1) := by decide +kernel
theorem dX5_send_25 : decode cX5_send 25 = .ok (.iconst 1, 1) := by decide +kernel
theorem dX5_send_26 : decode cX5_send 26 = .ok (.bipush 9, 2) := by decide +kernel
theorem dX5_send_28 : decode cX5_send 28 = .ok (.invokestatic 89, 3) := by decide +kernel
theorem dX5_send_31 : decode cX5_send 31 = .ok (.ifCond .ne 5, 3) := by decide +kernel
theorem dX5_send_34 : decode cX5_send 34 = .ok (.iconst 0, 1) := by decide +kernel
theorem dX5_send_35 : decode cX5_send 35 = .ok (.ireturn, 1) := by decide +kernel
theorem dX5_send_36 : decode cX5_send 36 = .ok (.aload_n 0, 1) := by decide +kernel
theorem dX5_send_37 : decode cX5_send 37 = .ok (.getfield 34, 3) := by decide +kernel
theorem dX5_send_40 : decode cX5_send 40 = .ok (.iload_n 1, 1) := by decide +kernel
theorem dX5_send_41 : decode cX5_send 41 = .ok (.iload_n 2, 1) := by decide +kernel
theorem dX5_send_42 : decode cX5_send 42 = .ok (.iastore, 1) := by decide +kernel
theorem dX5_send_43 : decode cX5_send 43 = .ok (.aload_n 0, 1) := by decide +kernel
theorem dX5_send_44 : decode cX5_send 44 = .ok (.getfield 37, 3) := by decide +kernel
theorem dX5_send_47 : decode cX5_send 47 = .ok (.iload_n 1, 1) := by decide +kernel
theorem dX5_send_48 : decode cX5_send 48 = .ok (.iload_n 3, 1) := by decide +kernel
theorem dX5_send_49 : decode cX5_send 49 = .ok (.iastore, 1) := by decide +kernel
theorem dX5_send_50 : decode cX5_send 50 = .ok (.iconst 1, 1) := by decide +kernel
theorem dX5_send_51 : decode cX5_send 51 = .ok (.ireturn, 1) := by decide +kernel
theorem dX5_arrives_0 : decode cX5_arrives 0 = .ok (.lconst 0, 1) := by decide +kernel
theorem dX5_arrives_1 : decode cX5_arrives 1 = .ok (.lstore_n 2, 1) := by decide +kernel
theorem dX5_arrives_2 : decode cX5_arrives 2 = .ok (.iconst 0, 1) := by decide +kernel
theorem dX5_arrives_3 : decode cX5_arrives 3 = .ok (.istore 4, 2) := by decide +kernel
theorem dX5_arrives_5 : decode cX5_arrives 5 = .ok (.iload 4, 2) := by decide +kernel
theorem dX5_arrives_7 : decode cX5_arrives 7 = .ok (.aload_n 0, 1) := by decide +kernel
theorem dX5_arrives_8 : decode cX5_arrives 8 = .ok (.getfield 13, 3) := by decide +kernel
theorem dX5_arrives_11 : decode cX5_arrives 11 = .ok (.iconst 0, 1) := by decide +kernel
theorem dX5_arrives_12 : decode cX5_arrives 12 = .ok (.iaload, 1) := by decide +kernel
theorem dX5_arrives_13 : decode cX5_arrives 13 = .ok (.if_icmp .ge 65, 3) := by decide +kernel
theorem dX5_arrives_16 : decode cX5_arrives 16 = .ok (.lload_n 2, 1) := by decide +kernel
theorem dX5_arrives_17 : decode cX5_arrives 17 = .ok (.aload_n 0, 1) := by decide +kernel
theorem dX5_arrives_18 : decode cX5_arrives 18 = .ok (.getfield 19, 3) := by decide +kernel
theorem dX5_arrives_21 : decode cX5_arrives 21 = .ok (.iload 4, 2) := by decide +kernel
theorem dX5_arrives_23 : decode cX5_arrives 23 = .ok (.iaload, 1) := by decide +kernel
theorem dX5_arrives_24 : decode cX5_arrives 24 = .ok (.iload_n 1, 1) := by decide +kernel
theorem dX5_arrives_25 : decode cX5_arrives 25 = .ok (.if_icmp .ne 44, 3) := by decide +kernel
theorem dX5_arrives_28 : decode cX5_arrives 28 = .ok (.ldc2_w 184, 3) := by decide +kernel
theorem dX5_arrives_31 : decode cX5_arrives 31 = .ok (.aload_n 0, 1) := by decide +kernel
theorem dX5_arrives_32 : decode cX5_arrives 32 = .ok (.getfield 37, 3) := by decide +kernel
theorem dX5_arrives_35 : decode cX5_arrives 35 = .ok (.iload 4, 2) := by decide +kernel
theorem dX5_arrives_37 : decode cX5_arrives 37 = .ok (.iaload, 1) := by decide +kernel
theorem dX5_arrives_38 : decode cX5_arrives 38 = .ok (.aload_n 0, 1) := by decide +kernel
theorem dX5_arrives_39 : decode cX5_arrives 39 = .ok (.getfield 28, 3) := by decide +kernel
theorem dX5_arrives_42 : decode cX5_arrives 42 = .ok (.iload 4, 2) := by decide +kernel
theorem dX5_arrives_44 : decode cX5_arrives 44 = .ok (.iaload, 1) := by decide +kernel
theorem dX5_arrives_45 : decode cX5_arrives 45 = .ok (.imul, 1) := by decide +kernel
theorem dX5_arrives_46 : decode cX5_arrives 46 = .ok (.i2l, 1) := by decide +kernel
theorem dX5_arrives_47 : decode cX5_arrives 47 = .ok (.ldiv, 1) := by decide +kernel
theorem dX5_arrives_48 : decode cX5_arrives 48 = .ok (.aload_n 0, 1) := by decide +kernel
theorem dX5_arrives_49 : decode cX5_arrives 49 = .ok (.getfield 34, 3) := by decide +kernel
theorem dX5_arrives_52 : decode cX5_arrives 52 = .ok (.iload 4, 2) := by decide +kernel
theorem dX5_arrives_54 : decode cX5_arrives 54 = .ok (.iaload, 1) := by decide +kernel
theorem dX5_arrives_55 : decode cX5_arrives 55 = .ok (.i2l, 1) := by decide +kernel
theorem dX5_arrives_56 : decode cX5_arrives 56 = .ok (.lmul, 1) := by decide +kernel
theorem dX5_arrives_57 : decode cX5_arrives 57 = .ok (.aload_n 0, 1) := by decide +kernel
theorem dX5_arrives_58 : decode cX5_arrives 58 = .ok (.getfield 25, 3) := by decide +kernel
theorem dX5_arrives_61 : decode cX5_arrives 61 = .ok (.iload 4, 2) := by decide +kernel
theorem dX5_arrives_63 : decode cX5_arrives 63 = .ok (.iaload, 1) := by decide +kernel
theorem dX5_arrives_64 : decode cX5_arrives 64 = .ok (.i2l, 1) := by decide +kernel
theorem dX5_arrives_65 : decode cX5_arrives 65 = .ok (.lmul, 1) := by decide +kernel
theorem dX5_arrives_66 : decode cX5_arrives 66 = .ok (.goto 4, 3) := by decide +kernel
theorem dX5_arrives_69 : decode cX5_arrives 69 = .ok (.lconst 0, 1) := by decide +kernel
theorem dX5_arrives_70 : decode cX5_arrives 70 = .ok (.ladd, 1) := by decide +kernel
theorem dX5_arrives_71 : decode cX5_arrives 71 = .ok (.lstore_n 2, 1) := by decide +kernel
theorem dX5_arrives_72 : decode cX5_arrives 72 = .ok (.iinc 4 1, 3) := by decide +kernel
theorem dX5_arrives_75 : decode cX5_arrives 75 = .ok (.goto (-70), 3) := by decide +kernel
theorem dX5_arrives_78 : decode cX5_arrives 78 = .ok (.lload_n 2, 1) := by decide +kernel
theorem dX5_arrives_79 : decode cX5_arrives 79 = .ok (.lreturn, 1) := by decide +kernel
theorem dX5_leaves_0 : decode cX5_leaves 0 = .ok (.lconst 0, 1) := by decide +kernel
theorem dX5_leaves_1 : decode cX5_leaves 1 = .ok (.lstore_n 2, 1) := by decide +kernel
theorem dX5_leaves_2 : decode cX5_leaves 2 = .ok (.iconst 0, 1) := by decide +kernel
theorem dX5_leaves_3 : decode cX5_leaves 3 = .ok (.istore 4, 2) := by decide +kernel
theorem dX5_leaves_5 : decode cX5_leaves 5 = .ok (.iload 4, 2) := by decide +kernel
theorem dX5_leaves_7 : decode cX5_leaves 7 = .ok (.aload_n 0, 1) := by decide +kernel
theorem dX5_leaves_8 : decode cX5_leaves 8 = .ok (.getfield 13, 3) := by decide +kernel
theorem dX5_leaves_11 : decode cX5_leaves 11 = .ok (.iconst 0, 1) := by decide +kernel
theorem dX5_leaves_12 : decode cX5_leaves 12 = .ok (.iaload, 1) := by decide +kernel
theorem dX5_leaves_13 : decode cX5_leaves 13 = .ok (.if_icmp .ge 48, 3) := by decide +kernel
theorem dX5_leaves_16 : decode cX5_leaves 16 = .ok (.lload_n 2, 1) := by decide +kernel
theorem dX5_leaves_17 : decode cX5_leaves 17 = .ok (.aload_n 0, 1) := by decide +kernel
theorem dX5_leaves_18 : decode cX5_leaves 18 = .ok (.getfield 16, 3) := by decide +kernel
theorem dX5_leaves_21 : decode cX5_leaves 21 = .ok (.iload 4, 2) := by decide +kernel
theorem dX5_leaves_23 : decode cX5_leaves 23 = .ok (.iaload, 1) := by decide +kernel
theorem dX5_leaves_24 : decode cX5_leaves 24 = .ok (.iload_n 1, 1) := by decide +kernel
theorem dX5_leaves_25 : decode cX5_leaves 25 = .ok (.if_icmp .ne 27, 3) := by decide +kernel
theorem dX5_leaves_28 : decode cX5_leaves 28 = .ok (.ldc2_w 184, 3) := by decide +kernel
theorem dX5_leaves_31 : decode cX5_leaves 31 = .ok (.aload_n 0, 1) := by decide +kernel
theorem dX5_leaves_32 : decode cX5_leaves 32 = .ok (.getfield 37, 3) := by decide +kernel
theorem dX5_leaves_35 : decode cX5_leaves 35 = .ok (.iload 4, 2) := by decide +kernel
theorem dX5_leaves_37 : decode cX5_leaves 37 = .ok (.iaload, 1) := by decide +kernel
theorem dX5_leaves_38 : decode cX5_leaves 38 = .ok (.i2l, 1) := by decide +kernel
theorem dX5_leaves_39 : decode cX5_leaves 39 = .ok (.ldiv, 1) := by decide +kernel
theorem dX5_leaves_40 : decode cX5_leaves 40 = .ok (.aload_n 0, 1) := by decide +kernel
theorem dX5_leaves_41 : decode cX5_leaves 41 = .ok (.getfield 34, 3) := by decide +kernel
theorem dX5_leaves_44 : decode cX5_leaves 44 = .ok (.iload 4, 2) := by decide +kernel
theorem dX5_leaves_46 : decode cX5_leaves 46 = .ok (.iaload, 1) := by decide +kernel
theorem dX5_leaves_47 : decode cX5_leaves 47 = .ok (.i2l, 1) := by decide +kernel
theorem dX5_leaves_48 : decode cX5_leaves 48 = .ok (.lmul, 1) := by decide +kernel
theorem dX5_leaves_49 : decode cX5_leaves 49 = .ok (.goto 4, 3) := by decide +kernel
theorem dX5_leaves_52 : decode cX5_leaves 52 = .ok (.lconst 0, 1) := by decide +kernel
theorem dX5_leaves_53 : decode cX5_leaves 53 = .ok (.ladd, 1) := by decide +kernel
theorem dX5_leaves_54 : decode cX5_leaves 54 = .ok (.lstore_n 2, 1) := by decide +kernel
theorem dX5_leaves_55 : decode cX5_leaves 55 = .ok (.iinc 4 1, 3) := by decide +kernel
theorem dX5_leaves_58 : decode cX5_leaves 58 = .ok (.goto (-53), 3) := by decide +kernel
theorem dX5_leaves_61 : decode cX5_leaves 61 = .ok (.lload_n 2, 1) := by decide +kernel
theorem dX5_leaves_62 : decode cX5_leaves 62 = .ok (.lreturn, 1) := by decide +kernel
theorem dX5_right_0 : decode cX5_right 0 = .ok (.aload_n 0, 1) := by decide +kernel
theorem dX5_right_1 : decode cX5_right 1 = .ok (.iconst 0, 1) := by decide +kernel
theorem dX5_right_2 : decode cX5_right 2 = .ok (.putfield 81, 3) := by decide +kernel
theorem dX5_right_5 : decode cX5_right 5 = .ok (.iconst 0, 1) := by decide +kernel
theorem dX5_right_6 : decode cX5_right 6 = .ok (.istore_n 1, 1) := by decide +kernel
theorem dX5_right_7 : decode cX5_right 7 = .ok (.iload_n 1, 1) := by decide +kernel
theorem dX5_right_8 : decode cX5_right 8 = .ok (.aload_n 0, 1) := by decide +kernel
theorem dX5_right_9 : decode cX5_right 9 = .ok (.getfield 13, 3) := by decide +kernel
theorem dX5_right_12 : decode cX5_right 12 = .ok (.iconst 0, 1) := by decide +kernel
theorem dX5_right_13 : decode cX5_right 13 = .ok (.iaload, 1) := by decide +kernel
theorem dX5_right_14 : decode cX5_right 14 = .ok (.if_icmp .ge 33, 3) := by decide +kernel
theorem dX5_right_17 : decode cX5_right 17 = .ok (.aload_n 0, 1) := by decide +kernel
theorem dX5_right_18 : decode cX5_right 18 = .ok (.getfield 34, 3) := by decide +kernel
theorem dX5_right_21 : decode cX5_right 21 = .ok (.iload_n 1, 1) := by decide +kernel
theorem dX5_right_22 : decode cX5_right 22 = .ok (.iaload, 1) := by decide +kernel
theorem dX5_right_23 : decode cX5_right 23 = .ok (.aload_n 0, 1) := by decide +kernel
theorem dX5_right_24 : decode cX5_right 24 = .ok (.getfield 22, 3) := by decide +kernel
theorem dX5_right_27 : decode cX5_right 27 = .ok (.iload_n 1, 1) := by decide +kernel
theorem dX5_right_28 : decode cX5_right 28 = .ok (.iaload, 1) := by decide +kernel
theorem dX5_right_29 : decode cX5_right 29 = .ok (.aload_n 0, 1) := by decide +kernel
theorem dX5_right_30 : decode cX5_right 30 = .ok (.getfield 37, 3) := by decide +kernel
theorem dX5_right_33 : decode cX5_right 33 = .ok (.iload_n 1, 1) := by decide +kernel
theorem dX5_right_34 : decode cX5_right 34 = .ok (.iaload, 1) := by decide +kernel
theorem dX5_right_35 : decode cX5_right 35 = .ok (.imul, 1) := by decide +kernel
theorem dX5_right_36 : decode cX5_right 36 = .ok (.if_icmp .le 5, 3) := by decide +kernel
theorem dX5_right_39 : decode cX5_right 39 = .ok (.iconst 0, 1) := by decide +kernel
theorem dX5_right_40 : decode cX5_right 40 = .ok (.ireturn, 1) := by decide +kernel
theorem dX5_right_41 : decode cX5_right 41 = .ok (.iinc 1 1, 3) := by decide +kernel
theorem dX5_right_44 : decode cX5_right 44 = .ok (.goto (-37), 3) := by decide +kernel
theorem dX5_right_47 : decode cX5_right 47 = .ok (.iconst 1, 1) := by decide +kernel
theorem dX5_right_48 : decode cX5_right 48 = .ok (.istore_n 1, 1) := by decide +kernel
theorem dX5_right_49 : decode cX5_right 49 = .ok (.iload_n 1, 1) := by decide +kernel
theorem dX5_right_50 : decode cX5_right 50 = .ok (.aload_n 0, 1) := by decide +kernel
theorem dX5_right_51 : decode cX5_right 51 = .ok (.getfield 7, 3) := by decide +kernel
theorem dX5_right_54 : decode cX5_right 54 = .ok (.iconst 0, 1) := by decide +kernel
theorem dX5_right_55 : decode cX5_right 55 = .ok (.iaload, 1) := by decide +kernel
theorem dX5_right_56 : decode cX5_right 56 = .ok (.iconst 1, 1) := by decide +kernel
theorem dX5_right_57 : decode cX5_right 57 = .ok (.isub, 1) := by decide +kernel
theorem dX5_right_58 : decode cX5_right 58 = .ok (.if_icmp .ge 25, 3) := by decide +kernel
theorem dX5_right_61 : decode cX5_right 61 = .ok (.aload_n 0, 1) := by decide +kernel
theorem dX5_right_62 : decode cX5_right 62 = .ok (.iload_n 1, 1) := by decide +kernel
theorem dX5_right_63 : decode cX5_right 63 = .ok (.invokevirtual 186, 3) := by decide +kernel
theorem dX5_right_66 : decode cX5_right 66 = .ok (.aload_n 0, 1) := by decide +kernel
theorem dX5_right_67 : decode cX5_right 67 = .ok (.iload_n 1, 1) := by decide +kernel
theorem dX5_right_68 : decode cX5_right 68 = .ok (.invokevirtual 189, 3) := by decide +kernel
theorem dX5_right_71 : decode cX5_right 71 = .ok (.lcmp, 1) := by decide +kernel
theorem dX5_right_72 : decode cX5_right 72 = .ok (.ifCond .ge 5, 3) := by decide +kernel
theorem dX5_right_75 : decode cX5_right 75 = .ok (.iconst 0, 1) := by decide +kernel
theorem dX5_right_76 : decode cX5_right 76 = .ok (.ireturn, 1) := by decide +kernel
theorem dX5_right_77 : decode cX5_right 77 = .ok (.iinc 1 1, 3) := by decide +kernel
theorem dX5_right_80 : decode cX5_right 80 = .ok (.goto (-31), 3) := by decide +kernel
theorem dX5_right_83 : decode cX5_right 83 = .ok (.iconst 1, 1) := by decide +kernel
theorem dX5_right_84 : decode cX5_right 84 = .ok (.ireturn, 1) := by decide +kernel
theorem dX5_left_0 : decode cX5_left 0 = .ok (.aload_n 0, 1) := by decide +kernel
theorem dX5_left_1 : decode cX5_left 1 = .ok (.iconst 0, 1) := by decide +kernel
theorem dX5_left_2 : decode cX5_left 2 = .ok (.putfield 81, 3) := by decide +kernel
theorem dX5_left_5 : decode cX5_left 5 = .ok (.aload_n 0, 1) := by decide +kernel
theorem dX5_left_6 : decode cX5_left 6 = .ok (.iload_n 1, 1) := by decide +kernel
theorem dX5_left_7 : decode cX5_left 7 = .ok (.invokevirtual 93, 3) := by decide +kernel
theorem dX5_left_10 : decode cX5_left 10 = .ok (.ifCond .ne 5, 3) := by decide +kernel
theorem dX5_left_13 : decode cX5_left 13 = .ok (.lconst 0, 1) := by decide +kernel
theorem dX5_left_14 : decode cX5_left 14 = .ok (.lreturn, 1) := by decide +kernel
theorem dX5_left_15 : decode cX5_left 15 = .ok (.iload_n 1, 1) := by decide +kernel
theorem dX5_left_16 : decode cX5_left 16 = .ok (.ifCond .ne 11, 3) := by decide +kernel
theorem dX5_left_19 : decode cX5_left 19 = .ok (.aload_n 0, 1) := by decide +kernel
theorem dX5_left_20 : decode cX5_left 20 = .ok (.iconst 0, 1) := by decide +kernel
theorem dX5_left_21 : decode cX5_left 21 = .ok (.invokevirtual 189, 3) := by decide +kernel
theorem dX5_left_24 : decode cX5_left 24 = .ok (.goto 34, 3) := by decide +kernel
theorem dX5_left_27 : decode cX5_left 27 = .ok (.iload_n 1, 1) := by decide +kernel
theorem dX5_left_28 : decode cX5_left 28 = .ok (.aload_n 0, 1) := by decide +kernel
theorem dX5_left_29 : decode cX5_left 29 = .ok (.getfield 7, 3) := by decide +kernel
theorem dX5_left_32 : decode cX5_left 32 = .ok (.iconst 0, 1) := by decide +kernel
theorem dX5_left_33 : decode cX5_left 33 = .ok (.iaload, 1) := by decide +kernel
theorem dX5_left_34 : decode cX5_left 34 = .ok (.iconst 1, 1) := by decide +kernel
theorem dX5_left_35 : decode cX5_left 35 = .ok (.isub, 1) := by decide +kernel
theorem dX5_left_36 : decode cX5_left 36 = .ok (.if_icmp .ne 11, 3) := by decide +kernel
theorem dX5_left_39 : decode cX5_left 39 = .ok (.aload_n 0, 1) := by decide +kernel
theorem dX5_left_40 : decode cX5_left 40 = .ok (.iload_n 1, 1) := by decide +kernel
theorem dX5_left_41 : decode cX5_left 41 = .ok (.invokevirtual 186, 3) := by decide +kernel
theorem dX5_left_44 : decode cX5_left 44 = .ok (.goto 14, 3) := by decide +kernel
theorem dX5_left_47 : decode cX5_left 47 = .ok (.aload_n 0, 1) := by decide +kernel
theorem dX5_left_48 : decode cX5_left 48 = .ok (.iload_n 1, 1) := by decide +kernel
theorem dX5_left_49 : decode cX5_left 49 = .ok (.invokevirtual 186, 3) := by decide +kernel
theorem dX5_left_52 : decode cX5_left 52 = .ok (.aload_n 0, 1) := by decide +kernel
theorem dX5_left_53 : decode cX5_left 53 = .ok (.iload_n 1, 1) := by decide +kernel
theorem dX5_left_54 : decode cX5_left 54 = .ok (.invokevirtual 189, 3) := by decide +kernel
theorem dX5_left_57 : decode cX5_left 57 = .ok (.lsub, 1) := by decide +kernel
theorem dX5_left_58 : decode cX5_left 58 = .ok (.lstore_n 3, 1) := by decide +kernel
theorem dX5_left_59 : decode cX5_left 59 = .ok (.aload_n 0, 1) := by decide +kernel
theorem dX5_left_60 : decode cX5_left 60 = .ok (.lload_n 3, 1) := by decide +kernel
theorem dX5_left_61 : decode cX5_left 61 = .ok (.ldc2_w 184, 3) := by decide +kernel
theorem dX5_left_64 : decode cX5_left 64 = .ok (.invokevirtual 100, 3) := by decide +kernel
theorem dX5_left_67 : decode cX5_left 67 = .ok (.iload_n 2, 1) := by decide +kernel
theorem dX5_left_68 : decode cX5_left 68 = .ok (.ifCond .eq 10, 3) := by decide +kernel
theorem dX5_left_71 : decode cX5_left 71 = .ok (.aload_n 0, 1) := by decide +kernel
theorem dX5_left_72 : decode cX5_left 72 = .ok (.getfield 108, 3) := by decide +kernel
theorem dX5_left_75 : decode cX5_left 75 = .ok (.goto 7, 3) := by decide +kernel
theorem dX5_left_78 : decode cX5_left 78 = .ok (.aload_n 0, 1) := by decide +kernel
theorem dX5_left_79 : decode cX5_left 79 = .ok (.getfield 104, 3) := by decide +kernel
theorem dX5_left_82 : decode cX5_left 82 = .ok (.lreturn, 1) := by decide +kernel
theorem dX5_count_0 : decode cX5_count 0 = .ok (.aload_n 0, 1) := by decide +kernel
theorem dX5_count_1 : decode cX5_count 1 = .ok (.iconst 0, 1) := by decide +kernel
theorem dX5_count_2 : decode cX5_count 2 = .ok (.putfield 81, 3) := by decide +kernel
theorem dX5_count_5 : decode cX5_count 5 = .ok (.iload_n 1, 1) := by decide +kernel
theorem dX5_count_6 : decode cX5_count 6 = .ok (.tableswitch 76 0 4 #[34, 41, 48, 48, 69], 34) := by decide +kernel
theorem dX5_count_40 : decode cX5_count 40 = .ok (.aload_n 0, 1) := by decide +kernel
theorem dX5_count_41 : decode cX5_count 41 = .ok (.getfield 7, 3) := by decide +kernel
theorem dX5_count_44 : decode cX5_count 44 = .ok (.iconst 0, 1) := by decide +kernel
theorem dX5_count_45 : decode cX5_count 45 = .ok (.iaload, 1) := by decide +kernel
theorem dX5_count_46 : decode cX5_count 46 = .ok (.ireturn, 1) := by decide +kernel
theorem dX5_count_47 : decode cX5_count 47 = .ok (.aload_n 0, 1) := by decide +kernel
theorem dX5_count_48 : decode cX5_count 48 = .ok (.getfield 13, 3) := by decide +kernel
theorem dX5_count_51 : decode cX5_count 51 = .ok (.iconst 0, 1) := by decide +kernel
theorem dX5_count_52 : decode cX5_count 52 = .ok (.iaload, 1) := by decide +kernel
theorem dX5_count_53 : decode cX5_count 53 = .ok (.ireturn, 1) := by decide +kernel
theorem dX5_count_54 : decode cX5_count 54 = .ok (.aload_n 0, 1) := by decide +kernel
theorem dX5_count_55 : decode cX5_count 55 = .ok (.invokevirtual 181, 3) := by decide +kernel
theorem dX5_count_58 : decode cX5_count 58 = .ok (.iload_n 1, 1) := by decide +kernel
theorem dX5_count_59 : decode cX5_count 59 = .ok (.iconst 2, 1) := by decide +kernel
theorem dX5_count_60 : decode cX5_count 60 = .ok (.if_icmp .ne 10, 3) := by decide +kernel
theorem dX5_count_63 : decode cX5_count 63 = .ok (.aload_n 0, 1) := by decide +kernel
theorem dX5_count_64 : decode cX5_count 64 = .ok (.getfield 163, 3) := by decide +kernel
theorem dX5_count_67 : decode cX5_count 67 = .ok (.goto 7, 3) := by decide +kernel
theorem dX5_count_70 : decode cX5_count 70 = .ok (.aload_n 0, 1) := by decide +kernel
theorem dX5_count_71 : decode cX5_count 71 = .ok (.getfield 166, 3) := by decide +kernel
theorem dX5_count_74 : decode cX5_count 74 = .ok (.ireturn, 1) := by decide +kernel
theorem dX5_count_75 : decode cX5_count 75 = .ok (.aload_n 0, 1) := by decide +kernel
theorem dX5_count_76 : decode cX5_count 76 = .ok (.getfield 40, 3) := by decide +kernel
theorem dX5_count_79 : decode cX5_count 79 = .ok (.iconst 0, 1) := by decide +kernel
theorem dX5_count_80 : decode cX5_count 80 = .ok (.iaload, 1) := by decide +kernel
theorem dX5_count_81 : decode cX5_count 81 = .ok (.ireturn, 1) := by decide +kernel
theorem dX5_count_82 : decode cX5_count 82 = .ok (.iconst (-1), 1) := by decide +kernel
theorem dX5_count_83 : decode cX5_count 83 = .ok (.ireturn, 1) := by decide +kernel
theorem dX5_image_0 : decode cX5_image 0 = .ok (.aload_n 0, 1) := by decide +kernel
theorem dX5_image_1 : decode cX5_image 1 = .ok (.iconst 0, 1) := by decide +kernel
theorem dX5_image_2 : decode cX5_image 2 = .ok (.putfield 81, 3) := by decide +kernel
theorem dX5_image_5 : decode cX5_image 5 = .ok (.iload_n 1, 1) := by decide +kernel
theorem dX5_image_6 : decode cX5_image 6 = .ok (.iconst 0, 1) := by decide +kernel
theorem dX5_image_7 : decode cX5_image 7 = .ok (.iconst 2, 1) := by decide +kernel
theorem dX5_image_8 : decode cX5_image 8 = .ok (.invokestatic 89, 3) := by decide +kernel
theorem dX5_image_11 : decode cX5_image 11 = .ok (.ifCond .ne 5, 3) := by decide +kernel
theorem dX5_image_14 : decode cX5_image 14 = .ok (.iconst 0, 1) := by decide +kernel
theorem dX5_image_15 : decode cX5_image 15 = .ok (.ireturn, 1) := by decide +kernel
theorem dX5_image_16 : decode cX5_image 16 = .ok (.aload_n 0, 1) := by decide +kernel
theorem dX5_image_17 : decode cX5_image 17 = .ok (.iconst 0, 1) := by decide +kernel
theorem dX5_image_18 : decode cX5_image 18 = .ok (.iload_n 1, 1) := by decide +kernel
theorem dX5_image_19 : decode cX5_image 19 = .ok (.iconst 1, 1) := by decide +kernel
theorem dX5_image_20 : decode cX5_image 20 = .ok (.iadd, 1) := by decide +kernel
theorem dX5_image_21 : decode cX5_image 21 = .ok (.invokevirtual 192, 3) := by decide +kernel
theorem dX5_image_24 : decode cX5_image 24 = .ok (.aload_n 0, 1) := by decide +kernel
theorem dX5_image_25 : decode cX5_image 25 = .ok (.getfield 77, 3) := by decide +kernel
theorem dX5_image_28 : decode cX5_image 28 = .ok (.iload_n 1, 1) := by decide +kernel
theorem dX5_image_29 : decode cX5_image 29 = .ok (.iconst 1, 1) := by decide +kernel
theorem dX5_image_30 : decode cX5_image 30 = .ok (.bastore, 1) := by decide +kernel
theorem dX5_image_31 : decode cX5_image 31 = .ok (.iconst 1, 1) := by decide +kernel
theorem dX5_image_32 : decode cX5_image 32 = .ok (.ireturn, 1) := by decide +kernel
theorem dX5_again_0 : decode cX5_again 0 = .ok (.aload_n 0, 1) := by decide +kernel
theorem dX5_again_1 : decode cX5_again 1 = .ok (.iconst 0, 1) := by decide +kernel
theorem dX5_again_2 : decode cX5_again 2 = .ok (.putfield 81, 3) := by decide +kernel
theorem dX5_again_5 : decode cX5_again 5 = .ok (.iload_n 1, 1) := by decide +kernel
theorem dX5_again_6 : decode cX5_again 6 = .ok (.iconst 0, 1) := by decide +kernel
theorem dX5_again_7 : decode cX5_again 7 = .ok (.iconst 2, 1) := by decide +kernel
theorem dX5_again_8 : decode cX5_again 8 = .ok (.invokestatic 89, 3) := by decide +kernel
theorem dX5_again_11 : decode cX5_again 11 = .ok (.ifCond .eq 12, 3) := by decide +kernel
theorem dX5_again_14 : decode cX5_again 14 = .ok (.aload_n 0, 1) := by decide +kernel
theorem dX5_again_15 : decode cX5_again 15 = .ok (.getfield 77, 3) := by decide +kernel
theorem dX5_again_18 : decode cX5_again 18 = .ok (.iload_n 1, 1) := by decide +kernel
theorem dX5_again_19 : decode cX5_again 19 = .ok (.baload, 1) := by decide +kernel
theorem dX5_again_20 : decode cX5_again 20 = .ok (.ifCond .ne 5, 3) := by decide +kernel
theorem dX5_again_23 : decode cX5_again 23 = .ok (.iconst 0, 1) := by decide +kernel
theorem dX5_again_24 : decode cX5_again 24 = .ok (.ireturn, 1) := by decide +kernel
theorem dX5_again_25 : decode cX5_again 25 = .ok (.aload_n 0, 1) := by decide +kernel
theorem dX5_again_26 : decode cX5_again 26 = .ok (.iload_n 1, 1) := by decide +kernel
theorem dX5_again_27 : decode cX5_again 27 = .ok (.iconst 1, 1) := by decide +kernel
theorem dX5_again_28 : decode cX5_again 28 = .ok (.iadd, 1) := by decide +kernel
theorem dX5_again_29 : decode cX5_again 29 = .ok (.iconst 0, 1) := by decide +kernel
theorem dX5_again_30 : decode cX5_again 30 = .ok (.invokevirtual 192, 3) := by decide +kernel
theorem dX5_again_33 : decode cX5_again 33 = .ok (.iconst 1, 1) := by decide +kernel
theorem dX5_again_34 : decode cX5_again 34 = .ok (.ireturn, 1) := by decide +kernel
end
section
theorem dL_law_0 : decode cL_law 0 = .ok (.new 7, 3) := by decide +kernel
theorem dL_law_3 : decode cL_law 3 = .ok (.dup, 1) := by decide +kernel
theorem dL_law_4 : decode cL_law 4 = .ok (.invokespecial 9, 3) := by decide +kernel
theorem dL_law_7 : decode cL_law 7 = .ok (.astore_n 1, 1) := by decide +kernel
theorem dL_law_8 : decode cL_law 8 = .ok (.new 10, 3) := by decide +kernel
theorem dL_law_11 : decode cL_law 11 = .ok (.dup, 1) := by decide +kernel
theorem dL_law_12 : decode cL_law 12 = .ok (.invokespecial 12, 3) := by decide +kernel
theorem dL_law_15 : decode cL_law 15 = .ok (.astore_n 2, 1) := by decide +kernel
theorem dL_law_16 : decode cL_law 16 = .ok (.iconst 0, 1) := by decide +kernel
theorem dL_law_17 : decode cL_law 17 = .ok (.istore_n 3, 1) := by decide +kernel
theorem dL_law_18 : decode cL_law 18 = .ok (.iload_n 3, 1) := by decide +kernel
theorem dL_law_19 : decode cL_law 19 = .ok (.aload_n 0, 1) := by decide +kernel
theorem dL_law_20 : decode cL_law 20 = .ok (.arraylength, 1) := by decide +kernel
theorem dL_law_21 : decode cL_law 21 = .ok (.bipush 6, 2) := by decide +kernel
theorem dL_law_23 : decode cL_law 23 = .ok (.isub, 1) := by decide +kernel
theorem dL_law_24 : decode cL_law 24 = .ok (.if_icmp .gt 697, 3) := by decide +kernel
theorem dL_law_27 : decode cL_law 27 = .ok (.aload_n 0, 1) := by decide +kernel
theorem dL_law_28 : decode cL_law 28 = .ok (.iload_n 3, 1) := by decide +kernel
theorem dL_law_29 : decode cL_law 29 = .ok (.iaload, 1) := by decide +kernel
theorem dL_law_30 : decode cL_law 30 = .ok (.bipush 31, 2) := by decide +kernel
theorem dL_law_32 : decode cL_law 32 = .ok (.iand, 1) := by decide +kernel
theorem dL_law_33 : decode cL_law 33 = .ok (.tableswitch 682 0 16 #[83, 106, 169, 202, 255, 288, 338, 398, 431, 444, 467, 507, 550, 563, 613, 636, 659], 83) := by decide +kernel
theorem dL_law_116 : decode cL_law 116 = .ok (.aload_n 1, 1) := by decide +kernel
theorem dL_law_117 : decode cL_law 117 = .ok (.aload_n 0, 1) := by decide +kernel
theorem dL_law_118 : decode cL_law 118 = .ok (.iload_n 3, 1) := by decide +kernel
theorem dL_law_119 : decode cL_law 119 = .ok (.iconst 1, 1) := by decide +kernel
theorem dL_law_120 : decode cL_law 120 = .ok (.iadd, 1) := by decide +kernel
theorem dL_law_121 : decode cL_law 121 = .ok (.iaload, 1) := by decide +kernel
theorem dL_law_122 : decode cL_law 122 = .ok (.invokevirtual 13, 3) := by decide +kernel
theorem dL_law_125 : decode cL_law 125 = .ok (.aload_n 2, 1) := by decide +kernel
theorem dL_law_126 : decode cL_law 126 = .ok (.aload_n 0, 1) := by decide +kernel
theorem dL_law_127 : decode cL_law 127 = .ok (.iload_n 3, 1) := by decide +kernel
theorem dL_law_128 : decode cL_law 128 = .ok (.iconst 1, 1) := by decide +kernel
theorem dL_law_129 : decode cL_law 129 = .ok (.iadd, 1) := by decide +kernel
theorem dL_law_130 : decode cL_law 130 = .ok (.iaload, 1) := by decide +kernel
theorem dL_law_131 : decode cL_law 131 = .ok (.invokevirtual 17, 3) := by decide +kernel
theorem dL_law_134 : decode cL_law 134 = .ok (.if_icmp .eq 581, 3) := by decide +kernel
theorem dL_law_137 : decode cL_law 137 = .ok (.iconst 0, 1) := by decide +kernel
theorem dL_law_138 : decode cL_law 138 = .ok (.ireturn, 1) := by decide +kernel
theorem dL_law_139 : decode cL_law 139 = .ok (.aload_n 1, 1) := by decide +kernel
theorem dL_law_140 : decode cL_law 140 = .ok (.aload_n 0, 1) := by decide +kernel
theorem dL_law_141 : decode cL_law 141 = .ok (.iload_n 3, 1) := by decide +kernel
theorem dL_law_142 : decode cL_law 142 = .ok (.iconst 1, 1) := by decide +kernel
theorem dL_law_143 : decode cL_law 143 = .ok (.iadd, 1) := by decide +kernel
theorem dL_law_144 : decode cL_law 144 = .ok (.iaload, 1) := by decide +kernel
theorem dL_law_145 : decode cL_law 145 = .ok (.aload_n 0, 1) := by decide +kernel
theorem dL_law_146 : decode cL_law 146 = .ok (.iload_n 3, 1) := by decide +kernel
theorem dL_law_147 : decode cL_law 147 = .ok (.iconst 2, 1) := by decide +kernel
theorem dL_law_148 : decode cL_law 148 = .ok (.iadd, 1) := by decide +kernel
theorem dL_law_149 : decode cL_law 149 = .ok (.iaload, 1) := by decide +kernel
theorem dL_law_150 : decode cL_law 150 = .ok (.aload_n 0, 1) := by decide +kernel
theorem dL_law_151 : decode cL_law 151 = .ok (.iload_n 3, 1) := by decide +kernel
theorem dL_law_152 : decode cL_law 152 = .ok (.iconst 3, 1) := by decide +kernel
theorem dL_law_153 : decode cL_law 153 = .ok (.iadd, 1) := by decide +kernel
theorem dL_law_154 : decode cL_law 154 = .ok (.iaload, 1) := by decide +kernel
theorem dL_law_155 : decode cL_law 155 = .ok (.aload_n 0, 1) := by decide +kernel
theorem dL_law_156 : decode cL_law 156 = .ok (.iload_n 3, 1) := by decide +kernel
theorem dL_law_157 : decode cL_law 157 = .ok (.iconst 4, 1) := by decide +kernel
theorem dL_law_158 : decode cL_law 158 = .ok (.iadd, 1) := by decide +kernel
theorem dL_law_159 : decode cL_law 159 = .ok (.iaload, 1) := by decide +kernel
theorem dL_law_160 : decode cL_law 160 = .ok (.aload_n 0, 1) := by decide +kernel
theorem dL_law_161 : decode cL_law 161 = .ok (.iload_n 3, 1) := by decide +kernel
theorem dL_law_162 : decode cL_law 162 = .ok (.iconst 5, 1) := by decide +kernel
theorem dL_law_163 : decode cL_law 163 = .ok (.iadd, 1) := by decide +kernel
theorem dL_law_164 : decode cL_law 164 = .ok (.iaload, 1) := by decide +kernel
theorem dL_law_165 : decode cL_law 165 = .ok (.invokevirtual 18, 3) := by decide +kernel
theorem dL_law_168 : decode cL_law 168 = .ok (.aload_n 2, 1) := by decide +kernel
theorem dL_law_169 : decode cL_law 169 = .ok (.aload_n 0, 1) := by decide +kernel
theorem dL_law_170 : decode cL_law 170 = .ok (.iload_n 3, 1) := by decide +kernel
theorem dL_law_171 : decode cL_law 171 = .ok (.iconst 1, 1) := by decide +kernel
theorem dL_law_172 : decode cL_law 172 = .ok (.iadd, 1) := by decide +kernel
theorem dL_law_173 : decode cL_law 173 = .ok (.iaload, 1) := by decide +kernel
theorem dL_law_174 : decode cL_law 174 = .ok (.aload_n 0, 1) := by decide +kernel
theorem dL_law_175 : decode cL_law 175 = .ok (.iload_n 3, 1) := by decide +kernel
theorem dL_law_176 : decode cL_law 176 = .ok (.iconst 2, 1) := by decide +kernel
theorem dL_law_177 : decode cL_law 177 = .ok (.iadd, 1) := by decide +kernel
theorem dL_law_178 : decode cL_law 178 = .ok (.iaload, 1) := by decide +kernel
theorem dL_law_179 : decode cL_law 179 = .ok (.aload_n 0, 1) := by decide +kernel
theorem dL_law_180 : decode cL_law 180 = .ok (.iload_n 3, 1) := by decide +kernel
theorem dL_law_181 : decode cL_law 181 = .ok (.iconst 3, 1) := by decide +kernel
theorem dL_law_182 : decode cL_law 182 = .ok (.iadd, 1) := by decide +kernel
theorem dL_law_183 : decode cL_law 183 = .ok (.iaload, 1) := by decide +kernel
theorem dL_law_184 : decode cL_law 184 = .ok (.aload_n 0, 1) := by decide +kernel
theorem dL_law_185 : decode cL_law 185 = .ok (.iload_n 3, 1) := by decide +kernel
theorem dL_law_186 : decode cL_law 186 = .ok (.iconst 4, 1) := by decide +kernel
theorem dL_law_187 : decode cL_law 187 = .ok (.iadd, 1) := by decide +kernel
theorem dL_law_188 : decode cL_law 188 = .ok (.iaload, 1) := by decide +kernel
theorem dL_law_189 : decode cL_law 189 = .ok (.aload_n 0, 1) := by decide +kernel
theorem dL_law_190 : decode cL_law 190 = .ok (.iload_n 3, 1) := by decide +kernel
theorem dL_law_191 : decode cL_law 191 = .ok (.iconst 5, 1) := by decide +kernel
theorem dL_law_192 : decode cL_law 192 = .ok (.iadd, 1) := by decide +kernel
theorem dL_law_193 : decode cL_law 193 = .ok (.iaload, 1) := by decide +kernel
theorem dL_law_194 : decode cL_law 194 = .ok (.invokevirtual 22, 3) := by decide +kernel
theorem dL_law_197 : decode cL_law 197 = .ok (.if_icmp .eq 518, 3) := by decide +kernel
theorem dL_law_200 : decode cL_law 200 = .ok (.iconst 0, 1) := by decide +kernel
theorem dL_law_201 : decode cL_law 201 = .ok (.ireturn, 1) := by decide +kernel
theorem dL_law_202 : decode cL_law 202 = .ok (.aload_n 1, 1) := by decide +kernel
theorem dL_law_203 : decode cL_law 203 = .ok (.aload_n 0, 1) := by decide +kernel
theorem dL_law_204 : decode cL_law 204 = .ok (.iload_n 3, 1) := by decide +kernel
theorem dL_law_205 : decode cL_law 205 = .ok (.iconst 1, 1) := by decide +kernel
theorem dL_law_206 : decode cL_law 206 = .ok (.iadd, 1) := by decide +kernel
theorem dL_law_207 : decode cL_law 207 = .ok (.iaload, 1) := by decide +kernel
theorem dL_law_208 : decode cL_law 208 = .ok (.aload_n 0, 1) := by decide +kernel
theorem dL_law_209 : decode cL_law 209 = .ok (.iload_n 3, 1) := by decide +kernel
theorem dL_law_210 : decode cL_law 210 = .ok (.iconst 2, 1) := by decide +kernel
theorem dL_law_211 : decode cL_law 211 = .ok (.iadd, 1) := by decide +kernel
theorem dL_law_212 : decode cL_law 212 = .ok (.iaload, 1) := by decide +kernel
theorem dL_law_213 : decode cL_law 213 = .ok (.invokevirtual 23, 3) := by decide +kernel
theorem dL_law_216 : decode cL_law 216 = .ok (.aload_n 2, 1) := by decide +kernel
theorem dL_law_217 : decode cL_law 217 = .ok (.aload_n 0, 1) := by decide +kernel
theorem dL_law_218 : decode cL_law 218 = .ok (.iload_n 3, 1) := by decide +kernel
theorem dL_law_219 : decode cL_law 219 = .ok (.iconst 1, 1) := by decide +kernel
theorem dL_law_220 : decode cL_law 220 = .ok (.iadd, 1) := by decide +kernel
theorem dL_law_221 : decode cL_law 221 = .ok (.iaload, 1) := by decide +kernel
theorem dL_law_222 : decode cL_law 222 = .ok (.aload_n 0, 1) := by decide +kernel
theorem dL_law_223 : decode cL_law 223 = .ok (.iload_n 3, 1) := by decide +kernel
theorem dL_law_224 : decode cL_law 224 = .ok (.iconst 2, 1) := by decide +kernel
theorem dL_law_225 : decode cL_law 225 = .ok (.iadd, 1) := by decide +kernel
theorem dL_law_226 : decode cL_law 226 = .ok (.iaload, 1) := by decide +kernel
theorem dL_law_227 : decode cL_law 227 = .ok (.invokevirtual 27, 3) := by decide +kernel
theorem dL_law_230 : decode cL_law 230 = .ok (.if_icmp .eq 485, 3) := by decide +kernel
theorem dL_law_233 : decode cL_law 233 = .ok (.iconst 0, 1) := by decide +kernel
theorem dL_law_234 : decode cL_law 234 = .ok (.ireturn, 1) := by decide +kernel
theorem dL_law_235 : decode cL_law 235 = .ok (.aload_n 1, 1) := by decide +kernel
theorem dL_law_236 : decode cL_law 236 = .ok (.aload_n 0, 1) := by decide +kernel
theorem dL_law_237 : decode cL_law 237 = .ok (.iload_n 3, 1) := by decide +kernel
theorem dL_law_238 : decode cL_law 238 = .ok (.iconst 1, 1) := by decide +kernel
theorem dL_law_239 : decode cL_law 239 = .ok (.iadd, 1) := by decide +kernel
theorem dL_law_240 : decode cL_law 240 = .ok (.iaload, 1) := by decide +kernel
theorem dL_law_241 : decode cL_law 241 = .ok (.aload_n 0, 1) := by decide +kernel
theorem dL_law_242 : decode cL_law 242 = .ok (.iload_n 3, 1) := by decide +kernel
theorem dL_law_243 : decode cL_law 243 = .ok (.iconst 2, 1) := by decide +kernel
theorem dL_law_244 : decode cL_law 244 = .ok (.iadd, 1) := by decide +kernel
theorem dL_law_245 : decode cL_law 245 = .ok (.iaload, 1) := by decide +kernel
theorem dL_law_246 : decode cL_law 246 = .ok (.aload_n 0, 1) := by decide +kernel
theorem dL_law_247 : decode cL_law 247 = .ok (.iload_n 3, 1) := by decide +kernel
theorem dL_law_248 : decode cL_law 248 = .ok (.iconst 3, 1) := by decide +kernel
theorem dL_law_249 : decode cL_law 249 = .ok (.iadd, 1) := by decide +kernel
theorem dL_law_250 : decode cL_law 250 = .ok (.iaload, 1) := by decide +kernel
theorem dL_law_251 : decode cL_law 251 = .ok (.aload_n 0, 1) := by decide +kernel
theorem dL_law_252 : decode cL_law 252 = .ok (.iload_n 3, 1) := by decide +kernel
theorem dL_law_253 : decode cL_law 253 = .ok (.iconst 4, 1) := by decide +kernel
theorem dL_law_254 : decode cL_law 254 = .ok (.iadd, 1) := by decide +kernel
theorem dL_law_255 : decode cL_law 255 = .ok (.iaload, 1) := by decide +kernel
theorem dL_law_256 : decode cL_law 256 = .ok (.invokevirtual 28, 3) := by decide +kernel
theorem dL_law_259 : decode cL_law 259 = .ok (.aload_n 2, 1) := by decide +kernel
theorem dL_law_260 : decode cL_law 260 = .ok (.aload_n 0, 1) := by decide +kernel
theorem dL_law_261 : decode cL_law 261 = .ok (.iload_n 3, 1) := by decide +kernel
theorem dL_law_262 : decode cL_law 262 = .ok (.iconst 1, 1) := by decide +kernel
theorem dL_law_263 : decode cL_law 263 = .ok (.iadd, 1) := by decide +kernel
theorem dL_law_264 : decode cL_law 264 = .ok (.iaload, 1) := by decide +kernel
theorem dL_law_265 : decode cL_law 265 = .ok (.aload_n 0, 1) := by decide +kernel
theorem dL_law_266 : decode cL_law 266 = .ok (.iload_n 3, 1) := by decide +kernel
theorem dL_law_267 : decode cL_law 267 = .ok (.iconst 2, 1) := by decide +kernel
theorem dL_law_268 : decode cL_law 268 = .ok (.iadd, 1) := by decide +kernel
theorem dL_law_269 : decode cL_law 269 = .ok (.iaload, 1) := by decide +kernel
theorem dL_law_270 : decode cL_law 270 = .ok (.aload_n 0, 1) := by decide +kernel
theorem dL_law_271 : decode cL_law 271 = .ok (.iload_n 3, 1) := by decide +kernel
theorem dL_law_272 : decode cL_law 272 = .ok (.iconst 3, 1) := by decide +kernel
theorem dL_law_273 : decode cL_law 273 = .ok (.iadd, 1) := by decide +kernel
theorem dL_law_274 : decode cL_law 274 = .ok (.iaload, 1) := by decide +kernel
theorem dL_law_275 : decode cL_law 275 = .ok (.aload_n 0, 1) := by decide +kernel
theorem dL_law_276 : decode cL_law 276 = .ok (.iload_n 3, 1) := by decide +kernel
theorem dL_law_277 : decode cL_law 277 = .ok (.iconst 4, 1) := by decide +kernel
theorem dL_law_278 : decode cL_law 278 = .ok (.iadd, 1) := by decide +kernel
theorem dL_law_279 : decode cL_law 279 = .ok (.iaload, 1) := by decide +kernel
theorem dL_law_280 : decode cL_law 280 = .ok (.invokevirtual 32, 3) := by decide +kernel
theorem dL_law_283 : decode cL_law 283 = .ok (.if_icmp .eq 432, 3) := by decide +kernel
theorem dL_law_286 : decode cL_law 286 = .ok (.iconst 0, 1) := by decide +kernel
theorem dL_law_287 : decode cL_law 287 = .ok (.ireturn, 1) := by decide +kernel
theorem dL_law_288 : decode cL_law 288 = .ok (.aload_n 1, 1) := by decide +kernel
theorem dL_law_289 : decode cL_law 289 = .ok (.aload_n 0, 1) := by decide +kernel
theorem dL_law_290 : decode cL_law 290 = .ok (.iload_n 3, 1) := by decide +kernel
theorem dL_law_291 : decode cL_law 291 = .ok (.iconst 1, 1) := by decide +kernel
theorem dL_law_292 : decode cL_law 292 = .ok (.iadd, 1) := by decide +kernel
theorem dL_law_293 : decode cL_law 293 = .ok (.iaload, 1) := by decide +kernel
theorem dL_law_294 : decode cL_law 294 = .ok (.aload_n 0, 1) := by decide +kernel
theorem dL_law_295 : decode cL_law 295 = .ok (.iload_n 3, 1) := by decide +kernel
theorem dL_law_296 : decode cL_law 296 = .ok (.iconst 2, 1) := by decide +kernel
theorem dL_law_297 : decode cL_law 297 = .ok (.iadd, 1) := by decide +kernel
theorem dL_law_298 : decode cL_law 298 = .ok (.iaload, 1) := by decide +kernel
theorem dL_law_299 : decode cL_law 299 = .ok (.invokevirtual 33, 3) := by decide +kernel
theorem dL_law_302 : decode cL_law 302 = .ok (.aload_n 2, 1) := by decide +kernel
theorem dL_law_303 : decode cL_law 303 = .ok (.aload_n 0, 1) := by decide +kernel
theorem dL_law_304 : decode cL_law 304 = .ok (.iload_n 3, 1) := by decide +kernel
theorem dL_law_305 : decode cL_law 305 = .ok (.iconst 1, 1) := by decide +kernel
theorem dL_law_306 : decode cL_law 306 = .ok (.iadd, 1) := by decide +kernel
theorem dL_law_307 : decode cL_law 307 = .ok (.iaload, 1) := by decide +kernel
theorem dL_law_308 : decode cL_law 308 = .ok (.aload_n 0, 1) := by decide +kernel
theorem dL_law_309 : decode cL_law 309 = .ok (.iload_n 3, 1) := by decide +kernel
theorem dL_law_310 : decode cL_law 310 = .ok (.iconst 2, 1) := by decide +kernel
theorem dL_law_311 : decode cL_law 311 = .ok (.iadd, 1) := by decide +kernel
theorem dL_law_312 : decode cL_law 312 = .ok (.iaload, 1) := by decide +kernel
theorem dL_law_313 : decode cL_law 313 = .ok (.invokevirtual 37, 3) := by decide +kernel
theorem dL_law_316 : decode cL_law 316 = .ok (.if_icmp .eq 399, 3) := by decide +kernel
theorem dL_law_319 : decode cL_law 319 = .ok (.iconst 0, 1) := by decide +kernel
theorem dL_law_320 : decode cL_law 320 = .ok (.ireturn, 1) := by decide +kernel
theorem dL_law_321 : decode cL_law 321 = .ok (.aload_n 1, 1) := by decide +kernel
theorem dL_law_322 : decode cL_law 322 = .ok (.aload_n 0, 1) := by decide +kernel
theorem dL_law_323 : decode cL_law 323 = .ok (.iload_n 3, 1) := by decide +kernel
theorem dL_law_324 : decode cL_law 324 = .ok (.iconst 1, 1) := by decide +kernel
theorem dL_law_325 : decode cL_law 325 = .ok (.iadd, 1) := by decide +kernel
theorem dL_law_326 : decode cL_law 326 = .ok (.iaload, 1) := by decide +kernel
theorem dL_law_327 : decode cL_law 327 = .ok (.aload_n 0, 1) := by decide +kernel
theorem dL_law_328 : decode cL_law 328 = .ok (.iload_n 3, 1) := by decide +kernel
theorem dL_law_329 : decode cL_law 329 = .ok (.iconst 2, 1) := by decide +kernel
theorem dL_law_330 : decode cL_law 330 = .ok (.iadd, 1) := by decide +kernel
theorem dL_law_331 : decode cL_law 331 = .ok (.iaload, 1) := by decide +kernel
theorem dL_law_332 : decode cL_law 332 = .ok (.ifCond .eq 7, 3) := by decide +kernel
theorem dL_law_335 : decode cL_law 335 = .ok (.iconst 1, 1) := by decide +kernel
theorem dL_law_336 : decode cL_law 336 = .ok (.goto 4, 3) := by decide +kernel
theorem dL_law_339 : decode cL_law 339 = .ok (.iconst 0, 1) := by decide +kernel
theorem dL_law_340 : decode cL_law 340 = .ok (.invokevirtual 38, 3) := by decide +kernel
theorem dL_law_343 : decode cL_law 343 = .ok (.aload_n 2, 1) := by decide +kernel
theorem dL_law_344 : decode cL_law 344 = .ok (.aload_n 0, 1) := by decide +kernel
theorem dL_law_345 : decode cL_law 345 = .ok (.iload_n 3, 1) := by decide +kernel
theorem dL_law_346 : decode cL_law 346 = .ok (.iconst 1, 1) := by decide +kernel
theorem dL_law_347 : decode cL_law 347 = .ok (.iadd, 1) := by decide +kernel
theorem dL_law_348 : decode cL_law 348 = .ok (.iaload, 1) := by decide +kernel
theorem dL_law_349 : decode cL_law 349 = .ok (.aload_n 0, 1) := by decide +kernel
theorem dL_law_350 : decode cL_law 350 = .ok (.iload_n 3, 1) := by decide +kernel
theorem dL_law_351 : decode cL_law 351 = .ok (.iconst 2, 1) := by decide +kernel
theorem dL_law_352 : decode cL_law 352 = .ok (.iadd, 1) := by decide +kernel
theorem dL_law_353 : decode cL_law 353 = .ok (.iaload, 1) := by decide +kernel
theorem dL_law_354 : decode cL_law 354 = .ok (.ifCond .eq 7, 3) := by decide +kernel
theorem dL_law_357 : decode cL_law 357 = .ok (.iconst 1, 1) := by decide +kernel
theorem dL_law_358 : decode cL_law 358 = .ok (.goto 4, 3) := by decide +kernel
theorem dL_law_361 : decode cL_law 361 = .ok (.iconst 0, 1) := by decide +kernel
theorem dL_law_362 : decode cL_law 362 = .ok (.invokevirtual 42, 3) := by decide +kernel
theorem dL_law_365 : decode cL_law 365 = .ok (.lcmp, 1) := by decide +kernel
theorem dL_law_366 : decode cL_law 366 = .ok (.ifCond .eq 349, 3) := by decide +kernel
theorem dL_law_369 : decode cL_law 369 = .ok (.iconst 0, 1) := by decide +kernel
theorem dL_law_370 : decode cL_law 370 = .ok (.ireturn, 1) := by decide +kernel
theorem dL_law_371 : decode cL_law 371 = .ok (.aload_n 1, 1) := by decide +kernel
theorem dL_law_372 : decode cL_law 372 = .ok (.aload_n 0, 1) := by decide +kernel
theorem dL_law_373 : decode cL_law 373 = .ok (.iload_n 3, 1) := by decide +kernel
theorem dL_law_374 : decode cL_law 374 = .ok (.iconst 1, 1) := by decide +kernel
theorem dL_law_375 : decode cL_law 375 = .ok (.iadd, 1) := by decide +kernel
theorem dL_law_376 : decode cL_law 376 = .ok (.iaload, 1) := by decide +kernel
theorem dL_law_377 : decode cL_law 377 = .ok (.aload_n 0, 1) := by decide +kernel
theorem dL_law_378 : decode cL_law 378 = .ok (.iload_n 3, 1) := by decide +kernel
theorem dL_law_379 : decode cL_law 379 = .ok (.iconst 2, 1) := by decide +kernel
theorem dL_law_380 : decode cL_law 380 = .ok (.iadd, 1) := by decide +kernel
theorem dL_law_381 : decode cL_law 381 = .ok (.iaload, 1) := by decide +kernel
theorem dL_law_382 : decode cL_law 382 = .ok (.aload_n 0, 1) := by decide +kernel
theorem dL_law_383 : decode cL_law 383 = .ok (.iload_n 3, 1) := by decide +kernel
theorem dL_law_384 : decode cL_law 384 = .ok (.iconst 3, 1) := by decide +kernel
theorem dL_law_385 : decode cL_law 385 = .ok (.iadd, 1) := by decide +kernel
theorem dL_law_386 : decode cL_law 386 = .ok (.iaload, 1) := by decide +kernel
theorem dL_law_387 : decode cL_law 387 = .ok (.ifCond .eq 7, 3) := by decide +kernel
theorem dL_law_390 : decode cL_law 390 = .ok (.iconst 1, 1) := by decide +kernel
theorem dL_law_391 : decode cL_law 391 = .ok (.goto 4, 3) := by decide +kernel
theorem dL_law_394 : decode cL_law 394 = .ok (.iconst 0, 1) := by decide +kernel
theorem dL_law_395 : decode cL_law 395 = .ok (.invokevirtual 43, 3) := by decide +kernel
theorem dL_law_398 : decode cL_law 398 = .ok (.aload_n 2, 1) := by decide +kernel
theorem dL_law_399 : decode cL_law 399 = .ok (.aload_n 0, 1) := by decide +kernel
theorem dL_law_400 : decode cL_law 400 = .ok (.iload_n 3, 1) := by decide +kernel
theorem dL_law_401 : decode cL_law 401 = .ok (.iconst 1, 1) := by decide +kernel
theorem dL_law_402 : decode cL_law 402 = .ok (.iadd, 1) := by decide +kernel
theorem dL_law_403 : decode cL_law 403 = .ok (.iaload, 1) := by decide +kernel
theorem dL_law_404 : decode cL_law 404 = .ok (.aload_n 0, 1) := by decide +kernel
theorem dL_law_405 : decode cL_law 405 = .ok (.iload_n 3, 1) := by decide +kernel
theorem dL_law_406 : decode cL_law 406 = .ok (.iconst 2, 1) := by decide +kernel
theorem dL_law_407 : decode cL_law 407 = .ok (.iadd, 1) := by decide +kernel
theorem dL_law_408 : decode cL_law 408 = .ok (.iaload, 1) := by decide +kernel
theorem dL_law_409 : decode cL_law 409 = .ok (.aload_n 0, 1) := by decide +kernel
theorem dL_law_410 : decode cL_law 410 = .ok (.iload_n 3, 1) := by decide +kernel
theorem dL_law_411 : decode cL_law 411 = .ok (.iconst 3, 1) := by decide +kernel
theorem dL_law_412 : decode cL_law 412 = .ok (.iadd, 1) := by decide +kernel
theorem dL_law_413 : decode cL_law 413 = .ok (.iaload, 1) := by decide +kernel
theorem dL_law_414 : decode cL_law 414 = .ok (.ifCond .eq 7, 3) := by decide +kernel
theorem dL_law_417 : decode cL_law 417 = .ok (.iconst 1, 1) := by decide +kernel
theorem dL_law_418 : decode cL_law 418 = .ok (.goto 4, 3) := by decide +kernel
theorem dL_law_421 : decode cL_law 421 = .ok (.iconst 0, 1) := by decide +kernel
theorem dL_law_422 : decode cL_law 422 = .ok (.invokevirtual 47, 3) := by decide +kernel
theorem dL_law_425 : decode cL_law 425 = .ok (.lcmp, 1) := by decide +kernel
theorem dL_law_426 : decode cL_law 426 = .ok (.ifCond .eq 289, 3) := by decide +kernel
theorem dL_law_429 : decode cL_law 429 = .ok (.iconst 0, 1) := by decide +kernel
theorem dL_law_430 : decode cL_law 430 = .ok (.ireturn, 1) := by decide +kernel
theorem dL_law_431 : decode cL_law 431 = .ok (.aload_n 1, 1) := by decide +kernel
theorem dL_law_432 : decode cL_law 432 = .ok (.aload_n 0, 1) := by decide +kernel
theorem dL_law_433 : decode cL_law 433 = .ok (.iload_n 3, 1) := by decide +kernel
theorem dL_law_434 : decode cL_law 434 = .ok (.iconst 1, 1) := by decide +kernel
theorem dL_law_435 : decode cL_law 435 = .ok (.iadd, 1) := by decide +kernel
theorem dL_law_436 : decode cL_law 436 = .ok (.iaload, 1) := by decide +kernel
theorem dL_law_437 : decode cL_law 437 = .ok (.aload_n 0, 1) := by decide +kernel
theorem dL_law_438 : decode cL_law 438 = .ok (.iload_n 3, 1) := by decide +kernel
theorem dL_law_439 : decode cL_law 439 = .ok (.iconst 2, 1) := by decide +kernel
theorem dL_law_440 : decode cL_law 440 = .ok (.iadd, 1) := by decide +kernel
theorem dL_law_441 : decode cL_law 441 = .ok (.iaload, 1) := by decide +kernel
theorem dL_law_442 : decode cL_law 442 = .ok (.invokevirtual 48, 3) := by decide +kernel
theorem dL_law_445 : decode cL_law 445 = .ok (.aload_n 2, 1) := by decide +kernel
theorem dL_law_446 : decode cL_law 446 = .ok (.aload_n 0, 1) := by decide +kernel
theorem dL_law_447 : decode cL_law 447 = .ok (.iload_n 3, 1) := by decide +kernel
theorem dL_law_448 : decode cL_law 448 = .ok (.iconst 1, 1) := by decide +kernel
theorem dL_law_449 : decode cL_law 449 = .ok (.iadd, 1) := by decide +kernel
theorem dL_law_450 : decode cL_law 450 = .ok (.iaload, 1) := by decide +kernel
theorem dL_law_451 : decode cL_law 451 = .ok (.aload_n 0, 1) := by decide +kernel
theorem dL_law_452 : decode cL_law 452 = .ok (.iload_n 3, 1) := by decide +kernel
theorem dL_law_453 : decode cL_law 453 = .ok (.iconst 2, 1) := by decide +kernel
theorem dL_law_454 : decode cL_law 454 = .ok (.iadd, 1) := by decide +kernel
theorem dL_law_455 : decode cL_law 455 = .ok (.iaload, 1) := by decide +kernel
theorem dL_law_456 : decode cL_law 456 = .ok (.invokevirtual 51, 3) := by decide +kernel
theorem dL_law_459 : decode cL_law 459 = .ok (.if_icmp .eq 256, 3) := by decide +kernel
theorem dL_law_462 : decode cL_law 462 = .ok (.iconst 0, 1) := by decide +kernel
theorem dL_law_463 : decode cL_law 463 = .ok (.ireturn, 1) := by decide +kernel
theorem dL_law_464 : decode cL_law 464 = .ok (.aload_n 1, 1) := by decide +kernel
theorem dL_law_465 : decode cL_law 465 = .ok (.invokevirtual 52, 3) := by decide +kernel
theorem dL_law_468 : decode cL_law 468 = .ok (.aload_n 2, 1) := by decide +kernel
theorem dL_law_469 : decode cL_law 469 = .ok (.invokevirtual 56, 3) := by decide +kernel
theorem dL_law_472 : decode cL_law 472 = .ok (.if_icmp .eq 243, 3) := by decide +kernel
theorem dL_law_475 : decode cL_law 475 = .ok (.iconst 0, 1) := by decide +kernel
theorem dL_law_476 : decode cL_law 476 = .ok (.ireturn, 1) := by decide +kernel
theorem dL_law_477 : decode cL_law 477 = .ok (.aload_n 1, 1) := by decide +kernel
theorem dL_law_478 : decode cL_law 478 = .ok (.aload_n 0, 1) := by decide +kernel
theorem dL_law_479 : decode cL_law 479 = .ok (.iload_n 3, 1) := by decide +kernel
theorem dL_law_480 : decode cL_law 480 = .ok (.iconst 1, 1) := by decide +kernel
theorem dL_law_481 : decode cL_law 481 = .ok (.iadd, 1) := by decide +kernel
theorem dL_law_482 : decode cL_law 482 = .ok (.iaload, 1) := by decide +kernel
theorem dL_law_483 : decode cL_law 483 = .ok (.invokevirtual 57, 3) := by decide +kernel
theorem dL_law_486 : decode cL_law 486 = .ok (.aload_n 2, 1) := by decide +kernel
theorem dL_law_487 : decode cL_law 487 = .ok (.aload_n 0, 1) := by decide +kernel
theorem dL_law_488 : decode cL_law 488 = .ok (.iload_n 3, 1) := by decide +kernel
theorem dL_law_489 : decode cL_law 489 = .ok (.iconst 1, 1) := by decide +kernel
theorem dL_law_490 : decode cL_law 490 = .ok (.iadd, 1) := by decide +kernel
theorem dL_law_491 : decode cL_law 491 = .ok (.iaload, 1) := by decide +kernel
theorem dL_law_492 : decode cL_law 492 = .ok (.invokevirtual 61, 3) := by decide +kernel
theorem dL_law_495 : decode cL_law 495 = .ok (.if_icmp .eq 220, 3) := by decide +kernel
theorem dL_law_498 : decode cL_law 498 = .ok (.iconst 0, 1) := by decide +kernel
theorem dL_law_499 : decode cL_law 499 = .ok (.ireturn, 1) := by decide +kernel
theorem dL_law_500 : decode cL_law 500 = .ok (.aload_n 1, 1) := by decide +kernel
theorem dL_law_501 : decode cL_law 501 = .ok (.aload_n 0, 1) := by decide +kernel
theorem dL_law_502 : decode cL_law 502 = .ok (.iload_n 3, 1) := by decide +kernel
theorem dL_law_503 : decode cL_law 503 = .ok (.iconst 1, 1) := by decide +kernel
theorem dL_law_504 : decode cL_law 504 = .ok (.iadd, 1) := by decide +kernel
theorem dL_law_505 : decode cL_law 505 = .ok (.iaload, 1) := by decide +kernel
theorem dL_law_506 : decode cL_law 506 = .ok (.ifCond .eq 7, 3) := by decide +kernel
theorem dL_law_509 : decode cL_law 509 = .ok (.iconst 1, 1) := by decide +kernel
theorem dL_law_510 : decode cL_law 510 = .ok (.goto 4, 3) := by decide +kernel
theorem dL_law_513 : decode cL_law 513 = .ok (.iconst 0, 1) := by decide +kernel
theorem dL_law_514 : decode cL_law 514 = .ok (.invokevirtual 62, 3) := by decide +kernel
theorem dL_law_517 : decode cL_law 517 = .ok (.aload_n 2, 1) := by decide +kernel
theorem dL_law_518 : decode cL_law 518 = .ok (.aload_n 0, 1) := by decide +kernel
theorem dL_law_519 : decode cL_law 519 = .ok (.iload_n 3, 1) := by decide +kernel
theorem dL_law_520 : decode cL_law 520 = .ok (.iconst 1, 1) := by decide +kernel
theorem dL_law_521 : decode cL_law 521 = .ok (.iadd, 1) := by decide +kernel
theorem dL_law_522 : decode cL_law 522 = .ok (.iaload, 1) := by decide +kernel
theorem dL_law_523 : decode cL_law 523 = .ok (.ifCond .eq 7, 3) := by decide +kernel
theorem dL_law_526 : decode cL_law 526 = .ok (.iconst 1, 1) := by decide +kernel
theorem dL_law_527 : decode cL_law 527 = .ok (.goto 4, 3) := by decide +kernel
theorem dL_law_530 : decode cL_law 530 = .ok (.iconst 0, 1) := by decide +kernel
theorem dL_law_531 : decode cL_law 531 = .ok (.invokevirtual 66, 3) := by decide +kernel
theorem dL_law_534 : decode cL_law 534 = .ok (.lcmp, 1) := by decide +kernel
theorem dL_law_535 : decode cL_law 535 = .ok (.ifCond .eq 180, 3) := by decide +kernel
theorem dL_law_538 : decode cL_law 538 = .ok (.iconst 0, 1) := by decide +kernel
theorem dL_law_539 : decode cL_law 539 = .ok (.ireturn, 1) := by decide +kernel
theorem dL_law_540 : decode cL_law 540 = .ok (.aload_n 1, 1) := by decide +kernel
theorem dL_law_541 : decode cL_law 541 = .ok (.aload_n 0, 1) := by decide +kernel
theorem dL_law_542 : decode cL_law 542 = .ok (.iload_n 3, 1) := by decide +kernel
theorem dL_law_543 : decode cL_law 543 = .ok (.iconst 1, 1) := by decide +kernel
theorem dL_law_544 : decode cL_law 544 = .ok (.iadd, 1) := by decide +kernel
theorem dL_law_545 : decode cL_law 545 = .ok (.iaload, 1) := by decide +kernel
theorem dL_law_546 : decode cL_law 546 = .ok (.aload_n 0, 1) := by decide +kernel
theorem dL_law_547 : decode cL_law 547 = .ok (.iload_n 3, 1) := by decide +kernel
theorem dL_law_548 : decode cL_law 548 = .ok (.iconst 2, 1) := by decide +kernel
theorem dL_law_549 : decode cL_law 549 = .ok (.iadd, 1) := by decide +kernel
theorem dL_law_550 : decode cL_law 550 = .ok (.iaload, 1) := by decide +kernel
theorem dL_law_551 : decode cL_law 551 = .ok (.aload_n 0, 1) := by decide +kernel
theorem dL_law_552 : decode cL_law 552 = .ok (.iload_n 3, 1) := by decide +kernel
theorem dL_law_553 : decode cL_law 553 = .ok (.iconst 3, 1) := by decide +kernel
theorem dL_law_554 : decode cL_law 554 = .ok (.iadd, 1) := by decide +kernel
theorem dL_law_555 : decode cL_law 555 = .ok (.iaload, 1) := by decide +kernel
theorem dL_law_556 : decode cL_law 556 = .ok (.invokevirtual 67, 3) := by decide +kernel
theorem dL_law_559 : decode cL_law 559 = .ok (.aload_n 2, 1) := by decide +kernel
theorem dL_law_560 : decode cL_law 560 = .ok (.aload_n 0, 1) := by decide +kernel
theorem dL_law_561 : decode cL_law 561 = .ok (.iload_n 3, 1) := by decide +kernel
theorem dL_law_562 : decode cL_law 562 = .ok (.iconst 1, 1) := by decide +kernel
theorem dL_law_563 : decode cL_law 563 = .ok (.iadd, 1) := by decide +kernel
theorem dL_law_564 : decode cL_law 564 = .ok (.iaload, 1) := by decide +kernel
theorem dL_law_565 : decode cL_law 565 = .ok (.aload_n 0, 1) := by decide +kernel
theorem dL_law_566 : decode cL_law 566 = .ok (.iload_n 3, 1) := by decide +kernel
theorem dL_law_567 : decode cL_law 567 = .ok (.iconst 2, 1) := by decide +kernel
theorem dL_law_568 : decode cL_law 568 = .ok (.iadd, 1) := by decide +kernel
theorem dL_law_569 : decode cL_law 569 = .ok (.iaload, 1) := by decide +kernel
theorem dL_law_570 : decode cL_law 570 = .ok (.aload_n 0, 1) := by decide +kernel
theorem dL_law_571 : decode cL_law 571 = .ok (.iload_n 3, 1) := by decide +kernel
theorem dL_law_572 : decode cL_law 572 = .ok (.iconst 3, 1) := by decide +kernel
theorem dL_law_573 : decode cL_law 573 = .ok (.iadd, 1) := by decide +kernel
theorem dL_law_574 : decode cL_law 574 = .ok (.iaload, 1) := by decide +kernel
theorem dL_law_575 : decode cL_law 575 = .ok (.invokevirtual 71, 3) := by decide +kernel
theorem dL_law_578 : decode cL_law 578 = .ok (.if_icmp .eq 137, 3) := by decide +kernel
theorem dL_law_581 : decode cL_law 581 = .ok (.iconst 0, 1) := by decide +kernel
theorem dL_law_582 : decode cL_law 582 = .ok (.ireturn, 1) := by decide +kernel
theorem dL_law_583 : decode cL_law 583 = .ok (.aload_n 1, 1) := by decide +kernel
theorem dL_law_584 : decode cL_law 584 = .ok (.invokevirtual 72, 3) := by decide +kernel
theorem dL_law_587 : decode cL_law 587 = .ok (.aload_n 2, 1) := by decide +kernel
theorem dL_law_588 : decode cL_law 588 = .ok (.invokevirtual 76, 3) := by decide +kernel
theorem dL_law_591 : decode cL_law 591 = .ok (.if_icmp .eq 124, 3) := by decide +kernel
theorem dL_law_594 : decode cL_law 594 = .ok (.iconst 0, 1) := by decide +kernel
theorem dL_law_595 : decode cL_law 595 = .ok (.ireturn, 1) := by decide +kernel
theorem dL_law_596 : decode cL_law 596 = .ok (.aload_n 1, 1) := by decide +kernel
theorem dL_law_597 : decode cL_law 597 = .ok (.aload_n 0, 1) := by decide +kernel
theorem dL_law_598 : decode cL_law 598 = .ok (.iload_n 3, 1) := by decide +kernel
theorem dL_law_599 : decode cL_law 599 = .ok (.iconst 1, 1) := by decide +kernel
theorem dL_law_600 : decode cL_law 600 = .ok (.iadd, 1) := by decide +kernel
theorem dL_law_601 : decode cL_law 601 = .ok (.iaload, 1) := by decide +kernel
theorem dL_law_602 : decode cL_law 602 = .ok (.aload_n 0, 1) := by decide +kernel
theorem dL_law_603 : decode cL_law 603 = .ok (.iload_n 3, 1) := by decide +kernel
theorem dL_law_604 : decode cL_law 604 = .ok (.iconst 2, 1) := by decide +kernel
theorem dL_law_605 : decode cL_law 605 = .ok (.iadd, 1) := by decide +kernel
theorem dL_law_606 : decode cL_law 606 = .ok (.iaload, 1) := by decide +kernel
theorem dL_law_607 : decode cL_law 607 = .ok (.ifCond .eq 7, 3) := by decide +kernel
theorem dL_law_610 : decode cL_law 610 = .ok (.iconst 1, 1) := by decide +kernel
theorem dL_law_611 : decode cL_law 611 = .ok (.goto 4, 3) := by decide +kernel
theorem dL_law_614 : decode cL_law 614 = .ok (.iconst 0, 1) := by decide +kernel
theorem dL_law_615 : decode cL_law 615 = .ok (.invokevirtual 77, 3) := by decide +kernel
theorem dL_law_618 : decode cL_law 618 = .ok (.aload_n 2, 1) := by decide +kernel
theorem dL_law_619 : decode cL_law 619 = .ok (.aload_n 0, 1) := by decide +kernel
theorem dL_law_620 : decode cL_law 620 = .ok (.iload_n 3, 1) := by decide +kernel
theorem dL_law_621 : decode cL_law 621 = .ok (.iconst 1, 1) := by decide +kernel
theorem dL_law_622 : decode cL_law 622 = .ok (.iadd, 1) := by decide +kernel
theorem dL_law_623 : decode cL_law 623 = .ok (.iaload, 1) := by decide +kernel
theorem dL_law_624 : decode cL_law 624 = .ok (.aload_n 0, 1) := by decide +kernel
theorem dL_law_625 : decode cL_law 625 = .ok (.iload_n 3, 1) := by decide +kernel
theorem dL_law_626 : decode cL_law 626 = .ok (.iconst 2, 1) := by decide +kernel
theorem dL_law_627 : decode cL_law 627 = .ok (.iadd, 1) := by decide +kernel
theorem dL_law_628 : decode cL_law 628 = .ok (.iaload, 1) := by decide +kernel
theorem dL_law_629 : decode cL_law 629 = .ok (.ifCond .eq 7, 3) := by decide +kernel
theorem dL_law_632 : decode cL_law 632 = .ok (.iconst 1, 1) := by decide +kernel
theorem dL_law_633 : decode cL_law 633 = .ok (.goto 4, 3) := by decide +kernel
theorem dL_law_636 : decode cL_law 636 = .ok (.iconst 0, 1) := by decide +kernel
theorem dL_law_637 : decode cL_law 637 = .ok (.invokevirtual 80, 3) := by decide +kernel
theorem dL_law_640 : decode cL_law 640 = .ok (.lcmp, 1) := by decide +kernel
theorem dL_law_641 : decode cL_law 641 = .ok (.ifCond .eq 74, 3) := by decide +kernel
theorem dL_law_644 : decode cL_law 644 = .ok (.iconst 0, 1) := by decide +kernel
theorem dL_law_645 : decode cL_law 645 = .ok (.ireturn, 1) := by decide +kernel
theorem dL_law_646 : decode cL_law 646 = .ok (.aload_n 1, 1) := by decide +kernel
theorem dL_law_647 : decode cL_law 647 = .ok (.aload_n 0, 1) := by decide +kernel
theorem dL_law_648 : decode cL_law 648 = .ok (.iload_n 3, 1) := by decide +kernel
theorem dL_law_649 : decode cL_law 649 = .ok (.iconst 1, 1) := by decide +kernel
theorem dL_law_650 : decode cL_law 650 = .ok (.iadd, 1) := by decide +kernel
theorem dL_law_651 : decode cL_law 651 = .ok (.iaload, 1) := by decide +kernel
theorem dL_law_652 : decode cL_law 652 = .ok (.invokevirtual 81, 3) := by decide +kernel
theorem dL_law_655 : decode cL_law 655 = .ok (.aload_n 2, 1) := by decide +kernel
theorem dL_law_656 : decode cL_law 656 = .ok (.aload_n 0, 1) := by decide +kernel
theorem dL_law_657 : decode cL_law 657 = .ok (.iload_n 3, 1) := by decide +kernel
theorem dL_law_658 : decode cL_law 658 = .ok (.iconst 1, 1) := by decide +kernel
theorem dL_law_659 : decode cL_law 659 = .ok (.iadd, 1) := by decide +kernel
theorem dL_law_660 : decode cL_law 660 = .ok (.iaload, 1) := by decide +kernel
theorem dL_law_661 : decode cL_law 661 = .ok (.invokevirtual 84, 3) := by decide +kernel
theorem dL_law_664 : decode cL_law 664 = .ok (.if_icmp .eq 51, 3) := by decide +kernel
theorem dL_law_667 : decode cL_law 667 = .ok (.iconst 0, 1) := by decide +kernel
theorem dL_law_668 : decode cL_law 668 = .ok (.ireturn, 1) := by decide +kernel
theorem dL_law_669 : decode cL_law 669 = .ok (.aload_n 1, 1) := by decide +kernel
theorem dL_law_670 : decode cL_law 670 = .ok (.aload_n 0, 1) := by decide +kernel
theorem dL_law_671 : decode cL_law 671 = .ok (.iload_n 3, 1) := by decide +kernel
theorem dL_law_672 : decode cL_law 672 = .ok (.iconst 1, 1) := by decide +kernel
theorem dL_law_673 : decode cL_law 673 = .ok (.iadd, 1) := by decide +kernel
theorem dL_law_674 : decode cL_law 674 = .ok (.iaload, 1) := by decide +kernel
theorem dL_law_675 : decode cL_law 675 = .ok (.invokevirtual 85, 3) := by decide +kernel
theorem dL_law_678 : decode cL_law 678 = .ok (.aload_n 2, 1) := by decide +kernel
theorem dL_law_679 : decode cL_law 679 = .ok (.aload_n 0, 1) := by decide +kernel
theorem dL_law_680 : decode cL_law 680 = .ok (.iload_n 3, 1) := by decide +kernel
theorem dL_law_681 : decode cL_law 681 = .ok (.iconst 1, 1) := by decide +kernel
theorem dL_law_682 : decode cL_law 682 = .ok (.iadd, 1) := by decide +kernel
theorem dL_law_683 : decode cL_law 683 = .ok (.iaload, 1) := by decide +kernel
theorem dL_law_684 : decode cL_law 684 = .ok (.invokevirtual 88, 3) := by decide +kernel
theorem dL_law_687 : decode cL_law 687 = .ok (.if_icmp .eq 28, 3) := by decide +kernel
theorem dL_law_690 : decode cL_law 690 = .ok (.iconst 0, 1) := by decide +kernel
theorem dL_law_691 : decode cL_law 691 = .ok (.ireturn, 1) := by decide +kernel
theorem dL_law_692 : decode cL_law 692 = .ok (.aload_n 1, 1) := by decide +kernel
theorem dL_law_693 : decode cL_law 693 = .ok (.aload_n 0, 1) := by decide +kernel
theorem dL_law_694 : decode cL_law 694 = .ok (.iload_n 3, 1) := by decide +kernel
theorem dL_law_695 : decode cL_law 695 = .ok (.iconst 1, 1) := by decide +kernel
theorem dL_law_696 : decode cL_law 696 = .ok (.iadd, 1) := by decide +kernel
theorem dL_law_697 : decode cL_law 697 = .ok (.iaload, 1) := by decide +kernel
theorem dL_law_698 : decode cL_law 698 = .ok (.invokevirtual 89, 3) := by decide +kernel
theorem dL_law_701 : decode cL_law 701 = .ok (.aload_n 2, 1) := by decide +kernel
theorem dL_law_702 : decode cL_law 702 = .ok (.aload_n 0, 1) := by decide +kernel
theorem dL_law_703 : decode cL_law 703 = .ok (.iload_n 3, 1) := by decide +kernel
theorem dL_law_704 : decode cL_law 704 = .ok (.iconst 1, 1) := by decide +kernel
theorem dL_law_705 : decode cL_law 705 = .ok (.iadd, 1) := by decide +kernel
theorem dL_law_706 : decode cL_law 706 = .ok (.iaload, 1) := by decide +kernel
theorem dL_law_707 : decode cL_law 707 = .ok (.invokevirtual 92, 3) := by decide +kernel
theorem dL_law_710 : decode cL_law 710 = .ok (.if_icmp .eq 5, 3) := by decide +kernel
theorem dL_law_713 : decode cL_law 713 = .ok (.iconst 0, 1) := by decide +kernel
theorem dL_law_714 : decode cL_law 714 = .ok (.ireturn, 1) := by decide +kernel
theorem dL_law_715 : decode cL_law 715 = .ok (.iinc 3 6, 3) := by decide +kernel
theorem dL_law_718 : decode cL_law 718 = .ok (.goto (-700), 3) := by decide +kernel
theorem dL_law_721 : decode cL_law 721 = .ok (.iconst 1, 1) := by decide +kernel
theorem dL_law_722 : decode cL_law 722 = .ok (.ireturn, 1) := by decide +kernel
end
section
/-! THE PICTURE: 108 cells, made in a fixed order behind the heap that the law finds (size sz): cell k lies at sz + k.
ly k: its kind (0..5 an object of that class of vwCl, 6 int[], 7 long[], 8 boolean[], 9 Net[], 10 int[][]) and length.
M k j: the whole number in place j of cell k; rf k j: the cell that place j of cell k refers to. -/
def lyL : List (Nat × Nat) := [(4, 0), (1, 0), (10, 10), (6, 8), (6, 8), (6, 8), (6, 8), (6, 8), (6, 8), (6, 8), (6, 8), (6, 8), (6, 8), (6, 4), (9, 3), (8, 3), (3, 0), (6, 4), (0, 0), (6, 4), (0, 0), (2, 0), (6, 10), (6, 10), (6, 10), (6, 10), (6, 10), (10, 13), (6, 5), (6, 5), (6, 5), (6, 5), (6, 5), (6, 5), (6, 5), (6, 5), (6, 5), (6, 5), (6, 5), (6, 5), (6, 5), (7, 5), (0, 0), (0, 0), (0, 0), (1, 0), (10, 10), (6, 8), (6, 8), (6, 8), (6, 8), (6, 8), (6, 8), (6, 8), (6, 8), (6, 8), (6, 8), (6, 4), (1, 0), (10, 10), (6, 8), (6, 8), (6, 8), (6, 8), (6, 8), (6, 8), (6, 8), (6, 8), (6, 8), (6, 8), (6, 4), (1, 0), (10, 10), (6, 8), (6, 8), (6, 8), (6, 8), (6, 8), (6, 8), (6, 8), (6, 8), (6, 8), (6, 8), (6, 4), (5, 0), (6, 4), (6, 4), (6, 40), (6, 40), (6, 40), (6, 40), (6, 40), (6, 40), (6, 40), (6, 40), (6, 4), (6, 20), (7, 4), (7, 4), (6, 10), (6, 10), (6, 10), (6, 5), (7, 5), (7, 5), (6, 5), (6, 5), (8, 3)]
def ly (k : Nat) : Nat × Nat := lyL.getD k (99, 0)
abbrev GG : Type := va_G × (Nat → ClassId) × Nat × Nat
abbrev RF : Type := Nat → Nat → Option Nat
abbrev MM : Type := Nat → Nat → Int
abbrev gz (G : GG) : Nat := G.2.2.1
def clN (ci : Nat) : Nat := match ci with
  | 0 => 2
  | 1 => 5
  | 2 => 17
  | 3 => 9
  | 4 => 8
  | _ => 33
def clT (ci : Nat) : Nat → FieldType := match ci with
  | 0 => tyX0
  | 1 => tyX1
  | 2 => tyX2
  | 3 => tyX3
  | 4 => tyX4
  | _ => tyX5
def fv (t : FieldType) (z : Int) (r : Option Nat) (sz : Nat) : Value := match t with
  | .long => .long (Int64.ofInt z)
  | .int => .int (Int32.ofInt z)
  | .boolean => .int (Int32.ofInt z)
  | _ => va_rf (r.map (fun q => sz + q))
def ceK (G : GG) (len : Nat) (rf : Nat → Option Nat) (M : Nat → Int) : Nat → va_E
  | 6 => .inl (G.2.1 6, len, .inl (fun j => Int32.ofInt (M j)))
  | 7 => .inl (G.2.1 7, len, .inr (.inl (fun j => Int64.ofInt (M j))))
  | 8 => .inl (G.2.1 8, len, .inl (fun j => Int32.ofInt (M j)))
  | 9 => .inl (G.2.1 9, len, .inr (.inr (.inr (.inr (fun j => (rf j).map (fun q => gz G + q))))))
  | 10 => .inl (G.2.1 10, len, .inr (.inr (.inr (.inr (fun j => (rf j).map (fun q => gz G + q))))))
  | ci => .inr (ci, (List.range (clN ci)).map (fun j => fv (clT ci j) (M j) (rf j) (gz G)))
def ce (G : GG) (rf : RF) (M : MM) (k : Nat) : va_E := ceK G (ly k).2 (rf k) (M k) (ly k).1
def wl (G : GG) (n : Nat) (rf : RF) (M : MM) : va_W := (List.range n).map (fun k => (gz G + k, ce G rf M k))
theorem wl_get {G : GG} {n k : Nat} {rf : RF} {M : MM} (hk : k < n) : (wl G n rf M)[k]? = some (gz G + k, ce G rf M k) := by
  simp [wl, hk]
theorem wl_len {G : GG} {n : Nat} {rf : RF} {M : MM} : (wl G n rf M).length = n := by simp [wl]
theorem wl_set {G : GG} {n k : Nat} {rf rf' : RF} {M M' : MM} {e : va_E} (h1 : ce G rf' M' k = e) (h2 : ∀ j, j ≠ k → ce G rf' M' j = ce G rf M j) : (wl G n rf M).set k (gz G + k, e) = wl G n rf' M' := by
  apply List.ext_getElem?
  intro i
  by_cases hi : i < n
  · rw [wl_get hi, List.getElem?_set]
    by_cases hk : k = i
    · subst hk
      rw [if_pos rfl, if_pos (by rw [wl_len]; exact hi), h1]
    · rw [if_neg hk, wl_get hi, h2 i (fun q => hk q.symm)]
  · rw [List.getElem?_eq_none (by rw [List.length_set, wl_len]; omega), List.getElem?_eq_none (by rw [wl_len]; omega)]
theorem wl_D {G : GG} {n : Nat} {rf : RF} {M : MM} : va_D (fun q => gz G ≤ q) (wl G n rf M) := by
  have hlt : ∀ (i : Nat) (x : Nat × va_E), (wl G n rf M)[i]? = some x → x.1 = gz G + i := fun i x hx => by
    have hi : i < n := by
      have := (List.getElem?_eq_some_iff.mp hx).1
      rwa [wl_len] at this
    rw [wl_get hi] at hx
    cases hx
    rfl
  refine ⟨fun i j x y hi hj hxy => ?_, fun k x hx => ?_⟩
  · have := hlt i x hi
    have := hlt j y hj
    omega
  · have := hlt k x hx
    show gz G ≤ x.1
    omega
/-! values: .ref k stands for the cell k, .retAddr 0 for the script, .retAddr 1 for 'not known' -/
abbrev jk : Value := .retAddr 1
def cv (G : GG) : Value → Value
  | .ref k => .ref (gz G + k)
  | .retAddr 0 => .ref G.2.2.2
  | v => v
abbrev vi (z : Int) : Value := .int (Int32.ofInt z)
abbrev vl (z : Int) : Value := .long (Int64.ofInt z)
theorem cv_cat (G : GG) (v : Value) : (cv G v).category = v.category := by
  cases v with
  | retAddr p => cases p <;> rfl
  | _ => rfl
theorem cv_sum (G : GG) (st : List Value) : ((st.map (cv G)).map fun v => v.category).sum = (st.map fun v => v.category).sum := by
  rw [List.map_map]
  congr 1
  apply List.map_congr_left
  intro v _
  exact cv_cat G v
def LH (G : GG) (ls : Array Slot) (nL : Nat) (lv : List Value) : Prop := ls.size = nL ∧ lv_wf ls ∧ ∀ (i : Nat) (v : Value), lv[i]? = some v → v ≠ jk → ls[i]? = some (.val (cv G v))
def kl : Nat → List Value → List Value
  | 0, lv => lv
  | j + 1, lv => match lv[j]? with
    | some (.long _) => lv.set j jk
    | some (.double _) => lv.set j jk
    | _ => lv
def st1 (lv : List Value) (i : Nat) (v : Value) : List Value := (kl i lv).set i v
def st2 (lv : List Value) (i : Nat) (v : Value) : List Value := ((kl i lv).set i v).set (i + 1) jk
theorem kl_at {i j : Nat} {lv : List Value} {u : Value} (hu : u ≠ jk) (h : (kl i lv)[j]? = some u) : lv[j]? = some u ∧ ¬ (j + 1 = i ∧ u.category = 2) := by
  cases i with
  | zero => exact ⟨h, fun q => by omega⟩
  | succ i =>
    have key : (lv.set i jk)[j]? = some u → lv[j]? = some u ∧ ¬ (j + 1 = i + 1 ∧ u.category = 2) := by
      intro h
      rw [List.getElem?_set] at h
      by_cases hij : i = j
      · rw [if_pos hij] at h
        split at h
        · cases h; exact absurd rfl hu
        · cases h
      · rw [if_neg hij] at h
        exact ⟨h, fun q => hij (by omega)⟩
    simp only [kl] at h
    split at h
    · exact key h
    · exact key h
    · rename_i h1 h2
      refine ⟨h, fun q => ?_⟩
      obtain ⟨q1, q2⟩ := q
      have e : j = i := by omega
      subst e
      cases u with
      | long x => exact h1 x h
      | double x => exact h2 x h
      | _ => simp [Value.category] at q2
theorem LH.has {G : GG} {ls : Array Slot} {nL : Nat} {lv : List Value} (h : LH G ls nL lv) : lv_has ls nL ((List.range lv.length).filterMap (fun i => match lv[i]? with | some v => if v = jk then none else some (i, cv G v) | none => none)) := by
  refine ⟨h.1, h.2.1, fun q hq => ?_⟩
  obtain ⟨i, -, hi⟩ := List.mem_filterMap.mp hq
  split at hi
  · rename_i v hv
    split at hi
    · cases hi
    · rename_i hne
      cases hi
      exact h.2.2 i v hv hne
  · cases hi
theorem LH.mem {G : GG} {lv : List Value} {i : Nat} {v : Value} (hv : lv[i]? = some v) (hne : v ≠ jk) : (i, cv G v) ∈ (List.range lv.length).filterMap (fun i => match lv[i]? with | some v => if v = jk then none else some (i, cv G v) | none => none) := by
  refine List.mem_filterMap.mpr ⟨i, List.mem_range.mpr (List.getElem?_eq_some_iff.mp hv).1, ?_⟩
  rw [hv]
  simp only [hne, if_false]
theorem LH.store1 {G : GG} {ls : Array Slot} {nL : Nat} {lv : List Value} {i : Nat} {v : Value} (h : LH G ls nL lv) (hi : i < nL) (hc : v.category = 1) : ∃ ls', storeLocals ls i (cv G v) = some ls' ∧ LH G ls' nL (st1 lv i v) := by
  obtain ⟨ls', e, h'⟩ := lv_store1 (v := cv G v) h.has hi (by rw [cv_cat]; exact hc)
  refine ⟨ls', e, h'.1, h'.2.1, fun j u hu hne => ?_⟩
  unfold st1 at hu
  rw [List.getElem?_set] at hu
  by_cases hij : i = j
  · rw [if_pos hij] at hu
    split at hu
    · cases hu
      subst hij
      exact h'.2.2 (i, cv G v) List.mem_cons_self
    · cases hu
  · rw [if_neg hij] at hu
    obtain ⟨h1, h2⟩ := kl_at hne hu
    refine h'.2.2 (j, cv G u) (List.mem_cons_of_mem _ (List.mem_filter.mpr ⟨LH.mem h1 hne, ?_⟩))
    simp only [Bool.and_eq_true, Bool.not_eq_true', beq_eq_false_iff_ne, ne_eq, Bool.and_eq_false_iff, cv_cat]
    refine ⟨fun q => hij q.symm, ?_⟩
    by_cases e1 : j + 1 = i
    · exact Or.inr (fun q => h2 ⟨e1, q⟩)
    · exact Or.inl e1
theorem LH.store2 {G : GG} {ls : Array Slot} {nL : Nat} {lv : List Value} {i : Nat} {v : Value} (h : LH G ls nL lv) (hi : i + 1 < nL) (hc : v.category = 2) : ∃ ls', storeLocals ls i (cv G v) = some ls' ∧ LH G ls' nL (st2 lv i v) := by
  obtain ⟨ls', e, h'⟩ := lv_store2 (v := cv G v) h.has hi (by rw [cv_cat]; exact hc)
  refine ⟨ls', e, h'.1, h'.2.1, fun j u hu hne => ?_⟩
  unfold st2 at hu
  rw [List.getElem?_set] at hu
  by_cases hij2 : i + 1 = j
  · rw [if_pos hij2] at hu
    split at hu
    · cases hu; exact absurd rfl hne
    · cases hu
  rw [if_neg hij2, List.getElem?_set] at hu
  by_cases hij : i = j
  · rw [if_pos hij] at hu
    split at hu
    · cases hu
      subst hij
      exact h'.2.2 (i, cv G v) List.mem_cons_self
    · cases hu
  · rw [if_neg hij] at hu
    obtain ⟨h1, h2⟩ := kl_at hne hu
    refine h'.2.2 (j, cv G u) (List.mem_cons_of_mem _ (List.mem_filter.mpr ⟨LH.mem h1 hne, ?_⟩))
    simp only [Bool.and_eq_true, Bool.not_eq_true', beq_eq_false_iff_ne, ne_eq, Bool.and_eq_false_iff, cv_cat]
    refine ⟨fun q => hij q.symm, fun q => hij2 q.symm, ?_⟩
    by_cases e1 : j + 1 = i
    · exact Or.inr (fun q => h2 ⟨e1, q⟩)
    · exact Or.inl e1
/-! a method's entry -/
def lvx : List Value → List Value
  | [] => []
  | v :: t => match v with
    | .long x => .long x :: jk :: lvx t
    | .double x => .double x :: jk :: lvx t
    | v => v :: lvx t
def lv0 (nL : Nat) (av : List Value) : List Value := lvx av ++ List.replicate (nL - (lvx av).length) jk
theorem lvx_at (G : GG) : ∀ (av : List Value) (i : Nat) (v : Value), (lvx av)[i]? = some v → v ≠ jk → (lg_sl (av.map (cv G)))[i]? = some (.val (cv G v))
  | [], i, v, h, _ => by simp [lvx] at h
  | a :: t, i, v, h, hne => by
    have ih := lvx_at G t
    have h1 : ∀ (a : Value), a.category = 1 → (a :: lvx t)[i]? = some v → (lg_sl ((a :: t).map (cv G)))[i]? = some (.val (cv G v)) := by
      intro a ha h
      have e : lg_sl ((a :: t).map (cv G)) = Slot.val (cv G a) :: lg_sl (t.map (cv G)) := by
        simp [lg_sl, cv_cat, ha]
      rw [e]
      cases i with
      | zero => simp at h; subst h; rfl
      | succ i => simp at h ⊢; exact ih i v h hne
    have h2 : ∀ (a : Value), a.category = 2 → (a :: jk :: lvx t)[i]? = some v → (lg_sl ((a :: t).map (cv G)))[i]? = some (.val (cv G v)) := by
      intro a ha h
      have e : lg_sl ((a :: t).map (cv G)) = Slot.val (cv G a) :: Slot.second :: lg_sl (t.map (cv G)) := by
        simp [lg_sl, cv_cat, ha]
      rw [e]
      match i, h with
      | 0, h => simp at h; subst h; rfl
      | 1, h => simp at h; exact absurd h.symm hne
      | i + 2, h => simp at h ⊢; exact ih i v h hne
    cases a with
    | long x => exact h2 _ rfl h
    | double x => exact h2 _ rfl h
    | _ => exact h1 _ rfl h
theorem lvx_len (G : GG) : ∀ (av : List Value), (lg_sl (av.map (cv G))).length = (lvx av).length
  | [] => rfl
  | a :: t => by
    have ih := lvx_len G t
    have e : lg_sl ((a :: t).map (cv G)) = (if (cv G a).category = 2 then [Slot.val (cv G a), Slot.second] else [Slot.val (cv G a)]) ++ lg_sl (t.map (cv G)) := by
      simp [lg_sl]
    rw [e, List.length_append, ih, cv_cat]
    cases a <;> simp [lvx, Value.category] <;> omega
theorem LH.entry (G : GG) (av : List Value) (nL : Nat) (h : (lvx av).length ≤ nL) : LH G ((lg_sl (av.map (cv G)) ++ List.replicate (nL - (lg_sl (av.map (cv G))).length) Slot.unset).toArray) nL (lv0 nL av) := by
  have h1 := lv_entry (av.map (cv G)) (n := nL) (by rw [lvx_len]; exact h)
  refine ⟨h1.1, h1.2.1, fun i v hi hne => ?_⟩
  unfold lv0 at hi
  by_cases hl : i < (lvx av).length
  · rw [List.getElem?_append_left hl] at hi
    have := lvx_at G av i v hi hne
    rw [List.getElem?_toArray, List.getElem?_append_left (by rw [lvx_len]; exact hl)]
    exact this
  · rw [List.getElem?_append_right (by omega), List.getElem?_replicate] at hi
    split at hi
    · cases hi; exact absurd rfl hne
    · cases hi
end
section
/-! whole numbers for the machine's ints and longs -/
abbrev I32 (z : Int) : Prop := -2147483648 ≤ z ∧ z < 2147483648
abbrev I64 (z : Int) : Prop := -9223372036854775808 ≤ z ∧ z < 9223372036854775808
theorem i32_t {z : Int} (h : I32 z) : (Int32.ofInt z).toInt = z := by
  rw [Int32.toInt_ofInt]
  exact Int.bmod_eq_of_le (by simp; omega) (by simp; omega)
theorem i64_t {z : Int} (h : I64 z) : (Int64.ofInt z).toInt = z := by
  rw [Int64.toInt_ofInt]
  exact Int.bmod_eq_of_le (by simp; omega) (by simp; omega)
theorem i32_eq {x y : Int} (hx : I32 x) (hy : I32 y) : Int32.ofInt x = Int32.ofInt y ↔ x = y := by
  rw [← Int32.toInt_inj, i32_t hx, i32_t hy]
theorem i32_le {x y : Int} (hx : I32 x) (hy : I32 y) : Int32.ofInt x ≤ Int32.ofInt y ↔ x ≤ y := by
  rw [Int32.le_iff_toInt_le, i32_t hx, i32_t hy]
theorem i32_lt {x y : Int} (hx : I32 x) (hy : I32 y) : Int32.ofInt x < Int32.ofInt y ↔ x < y := by
  rw [Int32.lt_iff_toInt_lt, i32_t hx, i32_t hy]
theorem i64_eq {x y : Int} (hx : I64 x) (hy : I64 y) : Int64.ofInt x = Int64.ofInt y ↔ x = y := by
  rw [← Int64.toInt_inj, i64_t hx, i64_t hy]
theorem i64_lt {x y : Int} (hx : I64 x) (hy : I64 y) : Int64.ofInt x < Int64.ofInt y ↔ x < y := by
  rw [Int64.lt_iff_toInt_lt, i64_t hx, i64_t hy]
theorem i64_le {x y : Int} (hx : I64 x) (hy : I64 y) : Int64.ofInt x ≤ Int64.ofInt y ↔ x ≤ y := by
  rw [Int64.le_iff_toInt_le, i64_t hx, i64_t hy]
theorem i32_i2l {x : Int} (hx : I32 x) : (Int32.ofInt x).toInt64 = Int64.ofInt x := by
  rw [← Int64.toInt_inj, Int32.toInt_toInt64, i32_t hx, i64_t ⟨by omega, by omega⟩]
theorem i64_l2i (x : Int) : (Int64.ofInt x).toInt32 = Int32.ofInt x := by
  rw [← Int32.toInt_inj, Int64.toInt_toInt32, Int64.toInt_ofInt, Int32.toInt_ofInt]
  exact Int.bmod_bmod_of_dvd (by decide)
theorem i64_ne0 {y : Int} (hy : I64 y) (h : y ≠ 0) : ¬ Int64.ofInt y = 0 := fun q => h ((i64_eq (y := 0) hy ⟨by omega, by omega⟩).mp q)
theorem i32_ne0 {y : Int} (hy : I32 y) (h : y ≠ 0) : ¬ Int32.ofInt y = 0 := fun q => h ((i32_eq (y := 0) hy ⟨by omega, by omega⟩).mp q)
theorem i64_div {x y : Int} (hx : I64 x) (hy : I64 y) : Int64.ofInt x / Int64.ofInt y = Int64.ofInt (x.tdiv y) := by
  rw [← Int64.toInt_inj, Int64.toInt_div, i64_t hx, i64_t hy, Int64.toInt_ofInt]
theorem i32_div {x y : Int} (hx : I32 x) (hy : I32 y) : Int32.ofInt x / Int32.ofInt y = Int32.ofInt (x.tdiv y) := by
  rw [← Int32.toInt_inj, Int32.toInt_div, i32_t hx, i32_t hy, Int32.toInt_ofInt]
theorem i64_rem {x y : Int} (hx : I64 x) (hy : I64 y) : Int64.ofInt x - Int64.ofInt x / Int64.ofInt y * Int64.ofInt y = Int64.ofInt (x.tmod y) := by
  rw [i64_div hx hy, ← Int64.ofInt_mul, ← Int64.ofInt_sub]
  congr 1
  have := Int.mul_tdiv_add_tmod x y
  rw [Int.mul_comm] at this
  omega
theorem i32_in {i : Int} {n : Nat} (h0 : 0 ≤ i) (h1 : i < n) (hn : n < 2147483648) : vp_in (Int32.ofInt i) n := by
  rw [vp_in_iff, i32_t ⟨by omega, by omega⟩]
  exact ⟨h0, h1⟩
theorem i32_cl {i : Int} (h0 : 0 ≤ i) (h1 : i < 2147483648) : (Int32.ofInt i).toNatClampNeg = i.toNat := by
  show (Int32.ofInt i).toInt.toNat = i.toNat
  rw [i32_t ⟨by omega, by omega⟩]
theorem i32_of (x : Int32) : x = Int32.ofInt x.toInt ∧ I32 x.toInt := by
  refine ⟨(Int32.ofInt_toInt x).symm, ?_⟩
  have h1 := Int32.le_toInt x
  have h2 := Int32.toInt_lt x
  exact ⟨by omega, by omega⟩
theorem i32_bip {n : Int} (h1 : -128 ≤ n) (h2 : n < 128) : (Int8.ofInt n).toInt32 = Int32.ofInt n := by
  rw [← Int32.toInt_inj, Int8.toInt_toInt32, Int8.toInt_ofInt, i32_t ⟨by omega, by omega⟩]
  exact Int.bmod_eq_of_le (by simp; omega) (by simp; omega)
theorem i32_sip {n : Int} (h1 : -32768 ≤ n) (h2 : n < 32768) : (Int16.ofInt n).toInt32 = Int32.ofInt n := by
  rw [← Int32.toInt_inj, Int16.toInt_toInt32, Int16.toInt_ofInt, i32_t ⟨by omega, by omega⟩]
  exact Int.bmod_eq_of_le (by simp; omega) (by simp; omega)
theorem i64_lc (n : Nat) : Int64.ofNat n = Int64.ofInt n := (Int64.ofInt_eq_ofNat).symm
def up2 (M : MM) (c k : Nat) (x : Int) : MM := fun c' => if c' = c then (fun k' => if k' = k then x else M c' k') else M c'
theorem up2_self (M : MM) (c k : Nat) (x : Int) : up2 M c k x c k = x := by simp [up2]
theorem up2_ne (M : MM) (c k : Nat) (x : Int) {c' : Nat} (h : c' ≠ c) : up2 M c k x c' = M c' := by simp [up2, h]
theorem up2_in (M : MM) (c k : Nat) (x : Int) (k' : Nat) : up2 M c k x c k' = if k' = k then x else M c k' := by simp [up2]
def upr (f : RF) (c k : Nat) (x : Option Nat) : RF := fun c' => if c' = c then (fun k' => if k' = k then x else f c' k') else f c'
end
section
/-! the tables' words at a state; they stay when the machine warms up -/
def nestW : Cond → Bool
  | .fieldLinkNest .. => true
  | .methodLinkNest .. => true
  | _ => false
def okW (w : Cond) : Bool := w.onTables && (goodWord w || nestW w)
def AO (ty : FieldType) (U : State) : Prop := (Cond.arrayOver ty).before #[] U = true
def TB (U : State) : Prop := (∀ w ∈ lw_tbl, okW w = true → va_Nw w U) ∧ AO (.object RX1) U ∧ AO (.array .int) U
theorem AO.use {ty : FieldType} {U : State} {A : Array Value} (h : AO ty U) : (Cond.arrayOver ty).before A U = true := h
theorem AO.same {ty : FieldType} {u U : State} (h : u.vm = U.vm) (hT : AO ty u) : AO ty U := by
  have e : (Cond.arrayOver ty).before #[] (u.setVm U.vm) = (Cond.arrayOver ty).before #[] U := rfl
  have e2 : u.setVm U.vm = u := by rw [← h]; rfl
  rw [e2] at e
  exact e.symm.trans hT
theorem AO.warm {ty : FieldType} {s U : State} (hW : s.WarmedH U.vm) (hT : AO ty s) : AO ty U := by
  have e := Cond.arrayOver_setVmC (args := #[]) hW.alike ty
  exact (show (Cond.arrayOver ty).before #[] U = _ from rfl).trans (e.trans hT)
theorem TB.use {U : State} (h : TB U) {A : Array Value} {w : Cond} (hw : w ∈ lw_tbl) (ho : okW w = true) : w.before A U = true := by
  have h1 := ho
  simp only [okW, Bool.and_eq_true] at h1
  exact va_Nw.use h1.1 (h.1 w hw ho)
theorem TB.same {u U : State} (h : u.vm = U.vm) (hT : TB u) : TB U := ⟨fun w hw ho => by
  have h1 := ho
  simp only [okW, Bool.and_eq_true] at h1
  exact va_Nw.same h1.1 h (hT.1 w hw ho), hT.2.1.same h, hT.2.2.same h⟩
theorem TB.warm {s U : State} (hW : s.WarmedH U.vm) (hT : TB s) : TB U := ⟨fun w hw ho => by
  have h1 := ho
  simp only [okW, Bool.and_eq_true, Bool.or_eq_true] at h1
  obtain ⟨h1, h2⟩ := h1
  rcases h2 with h2 | h2
  · exact word_at hW (good_of_word h2) (hT.1 w hw ho)
  · have hz := hT.1 w hw ho
    cases w with
    | fieldLinkNest a i b n d h => exact va_Nw.warmF hW hz
    | methodLinkNest a i x h => exact va_Nw.warmM hW hz
    | _ => simp [nestW] at h2, hT.2.1.warm hW, hT.2.2.warm hW⟩
set_option maxRecDepth 100000 in
theorem tb_a1 : Cond.arrayOver (.object RX1) ∈ lw_tbl := by decide +kernel
set_option maxRecDepth 100000 in
theorem tb_a2 : Cond.arrayOver (.array .int) ∈ lw_tbl := by decide +kernel
theorem TB.of {A : Array Value} {U : State} (h : ∀ w ∈ lw_tbl, w.before A U = true) : TB U := ⟨fun w hw ho => by
  have h1 := ho
  simp only [okW, Bool.and_eq_true] at h1
  exact va_Nw.of h1.1 (h w hw), h _ tb_a1, h _ tb_a2⟩
set_option maxRecDepth 100000 in
theorem tb_u0 : ∀ w ∈ u_ws RX0 TX0 2, w ∈ lw_tbl ∧ okW w = true := by decide +kernel
set_option maxRecDepth 100000 in
theorem tb_u1 : ∀ w ∈ u_ws RX1 TX1 5, w ∈ lw_tbl ∧ okW w = true := by decide +kernel
set_option maxRecDepth 100000 in
theorem tb_u2 : ∀ w ∈ u_ws RX2 TX2 17, w ∈ lw_tbl ∧ okW w = true := by decide +kernel
set_option maxRecDepth 100000 in
theorem tb_u3 : ∀ w ∈ u_ws RX3 TX3 9, w ∈ lw_tbl ∧ okW w = true := by decide +kernel
set_option maxRecDepth 100000 in
theorem tb_u4 : ∀ w ∈ u_ws RX4 TX4 8, w ∈ lw_tbl ∧ okW w = true := by decide +kernel
set_option maxRecDepth 100000 in
theorem tb_u5 : ∀ w ∈ u_ws RX5 TX5 33, w ∈ lw_tbl ∧ okW w = true := by decide +kernel
end
section
/-! THE ABSTRACT MACHINE'S JUDGEMENT: from pc, with locals lv, stack st, n cells (k of them, of w slots, made since the entry), references rf and numbers M, the machine comes to its end -/
abbrev EE : Type := Program × Launch × Env × Room × State × MethodId × Array Value × List Frame × Method × Code × (State → Prop)
abbrev eP (E : EE) : Program := E.1
abbrev eL (E : EE) : Launch := E.2.1
abbrev eE (E : EE) : Env := E.2.2.1
abbrev eR (E : EE) : Room := E.2.2.2.1
abbrev eS (E : EE) : State := E.2.2.2.2.1
abbrev eM (E : EE) : MethodId := E.2.2.2.2.2.1
abbrev eA (E : EE) : Array Value := E.2.2.2.2.2.2.1
abbrev eB (E : EE) : List Frame := E.2.2.2.2.2.2.2.1
abbrev eT (E : EE) : Method := E.2.2.2.2.2.2.2.2.1
abbrev eC (E : EE) : Code := E.2.2.2.2.2.2.2.2.2.1
abbrev eQ (E : EE) : State → Prop := E.2.2.2.2.2.2.2.2.2.2
abbrev WW (E : EE) (H : Heap) (locs : List Loc) (k w : Nat) (g : JFrame) : Prop := W (eP E) (eL E) (eE E) (eR E) (eS E) (eM E) (eA E) (eB E) (eT E) (eC E) H locs k w (eQ E) g
def AW (G : GG) (E : EE) (nL pc : Nat) (lv st : List Value) (n k w : Nat) (rf : RF) (M : MM) : Prop :=
  ∀ (H : Heap) (locs : List Loc) (ls : Array Slot), va_P G.1 vwCl (wl G n rf M) H → va_S (fun q => gz G ≤ q) (eS E).heap H locs → LH G ls nL lv → WW E H locs k w (F0 (eM E) pc ls (st.map (cv G)))
def tysOf (G : GG) : List (ClassId × FieldType) := [(G.2.1 6, .int), (G.2.1 7, .long), (G.2.1 8, .boolean), (G.2.1 9, .object RX1), (G.2.1 10, .array .int)]
def KK (G : GG) (U : State) : Prop := va_K G.1 vwCl (tysOf G) U ∧ TB U
def Am (G : GG) (E : EE) (cc : ByteArray) (nL : Nat) (own : String) (n0 d kc wc : Nat) : Prop :=
  (eP E).tables.exec = Jvm.exec ∧ (eC E).code = cc ∧ (eC E).maxLocals = nL ∧ (eS E).vm.findClass own = some (eM E).cls ∧ KK G (eS E) ∧ (eS E).heap.size = gz G + n0 ∧ d ≤ (eR E).frames ∧ 60 * d ≤ (eR E).locals ∧ kc ≤ (eR E).cells ∧ wc ≤ (eR E).slots
section AWR
variable {G : GG} {E : EE} {cc : ByteArray} {nL : Nat} {own : String} {n0 d kc wc pc : Nat} {lv st : List Value} {n k w : Nat} {rf : RF} {M : MM}
theorem a_of {pc' : Nat} {lv' st' : List Value} (h : ∀ (H : Heap) (locs : List Loc) (ls : Array Slot), LH G ls nL lv → (∀ ls', LH G ls' nL lv' → WW E H locs k w (F0 (eM E) pc' ls' (st'.map (cv G)))) → WW E H locs k w (F0 (eM E) pc ls (st.map (cv G)))) (kk : AW G E nL pc' lv' st' n k w rf M) : AW G E nL pc lv st n k w rf M :=
  fun H locs ls hP hS hL => h H locs ls hL (fun ls' hL' => kk H locs ls' hP hS hL')

theorem a_iconst (A : Am G E cc nL own n0 d kc wc) {z : Int} (D : decode cc pc = .ok (.iconst z, 1)) (kk : AW G E nL (pc + 1) lv (vi z :: st) n k w rf M) : AW G E nL pc lv (st) n k w rf M := by
  intro H locs ls hP hS hL
  exact lv_iconst A.1 A.2.1 D rfl (kk H locs ls hP hS hL)
theorem a_bipush (A : Am G E cc nL own n0 d kc wc) {z : Int} (D : decode cc pc = .ok (.bipush z, 2)) (h : -128 ≤ z ∧ z < 128) (kk : AW G E nL (pc + 2) lv (vi z :: st) n k w rf M) : AW G E nL pc lv (st) n k w rf M := by
  intro H locs ls hP hS hL
  exact lv_bipush A.1 A.2.1 D (i32_bip h.1 h.2) (kk H locs ls hP hS hL)
theorem a_sipush (A : Am G E cc nL own n0 d kc wc) {z : Int} (D : decode cc pc = .ok (.sipush z, 3)) (h : -32768 ≤ z ∧ z < 32768) (kk : AW G E nL (pc + 3) lv (vi z :: st) n k w rf M) : AW G E nL pc lv (st) n k w rf M := by
  intro H locs ls hP hS hL
  exact lv_sipush A.1 A.2.1 D (i32_sip h.1 h.2) (kk H locs ls hP hS hL)
theorem a_lconst0 (A : Am G E cc nL own n0 d kc wc) (D : decode cc pc = .ok (.lconst 0, 1)) (kk : AW G E nL (pc + 1) lv (vl 0 :: st) n k w rf M) : AW G E nL pc lv (st) n k w rf M := by
  intro H locs ls hP hS hL
  exact lv_lconst A.1 A.2.1 D (by decide) (kk H locs ls hP hS hL)
theorem a_lconst1 (A : Am G E cc nL own n0 d kc wc) (D : decode cc pc = .ok (.lconst 1, 1)) (kk : AW G E nL (pc + 1) lv (vl 1 :: st) n k w rf M) : AW G E nL pc lv (st) n k w rf M := by
  intro H locs ls hP hS hL
  exact lv_lconst A.1 A.2.1 D (by decide) (kk H locs ls hP hS hL)
theorem a_ldc2 (A : Am G E cc nL own n0 d kc wc) {ix : Nat} {z : Int} (hw : Cond.constantLong own ix (Int64.ofInt z) ∈ lw_tbl) (D : decode cc pc = .ok (.ldc2_w ix, 3)) (kk : AW G E nL (pc + 3) lv (vl z :: st) n k w rf M) : AW G E nL pc lv (st) n k w rf M := by
  intro H locs ls hP hS hL
  exact lv_ldc2 A.1 A.2.1 A.2.2.2.1 (A.2.2.2.2.1.2.use hw rfl) D (kk H locs ls hP hS hL)
theorem a_iload_n (A : Am G E cc nL own n0 d kc wc) {q : Fin 4} {z : Int} (D : decode cc pc = .ok (.iload_n q, 1)) (h : lv[(q : Nat)]? = some (vi z)) (kk : AW G E nL (pc + 1) lv (vi z :: st) n k w rf M) : AW G E nL pc lv (st) n k w rf M := by
  intro H locs ls hP hS hL
  exact lv_iload_n A.1 A.2.1 D rfl (hL.2.2 _ _ h (by intro q; cases q)) (kk H locs ls hP hS hL)
theorem a_iload (A : Am G E cc nL own n0 d kc wc) {q : Nat} {z : Int} (D : decode cc pc = .ok (.iload q, 2)) (h : lv[q]? = some (vi z)) (kk : AW G E nL (pc + 2) lv (vi z :: st) n k w rf M) : AW G E nL pc lv (st) n k w rf M := by
  intro H locs ls hP hS hL
  exact lv_iload A.1 A.2.1 D (hL.2.2 _ _ h (by intro q; cases q)) (kk H locs ls hP hS hL)
theorem a_lload_n (A : Am G E cc nL own n0 d kc wc) {q : Fin 4} {z : Int} (D : decode cc pc = .ok (.lload_n q, 1)) (h : lv[(q : Nat)]? = some (vl z)) (kk : AW G E nL (pc + 1) lv (vl z :: st) n k w rf M) : AW G E nL pc lv (st) n k w rf M := by
  intro H locs ls hP hS hL
  exact lv_lload_n A.1 A.2.1 D rfl (hL.2.2 _ _ h (by intro q; cases q)) (kk H locs ls hP hS hL)
theorem a_lload (A : Am G E cc nL own n0 d kc wc) {q : Nat} {z : Int} (D : decode cc pc = .ok (.lload q, 2)) (h : lv[q]? = some (vl z)) (kk : AW G E nL (pc + 2) lv (vl z :: st) n k w rf M) : AW G E nL pc lv (st) n k w rf M := by
  intro H locs ls hP hS hL
  exact lv_lload A.1 A.2.1 D (hL.2.2 _ _ h (by intro q; cases q)) (kk H locs ls hP hS hL)
theorem a_aload_n (A : Am G E cc nL own n0 d kc wc) {q : Fin 4} {z : Nat} (D : decode cc pc = .ok (.aload_n q, 1)) (h : lv[(q : Nat)]? = some (.ref z)) (kk : AW G E nL (pc + 1) lv (.ref z :: st) n k w rf M) : AW G E nL pc lv (st) n k w rf M := by
  intro H locs ls hP hS hL
  exact lv_aload_n A.1 A.2.1 D rfl (hL.2.2 _ _ h (by intro q; cases q)) (kk H locs ls hP hS hL)
theorem a_aload (A : Am G E cc nL own n0 d kc wc) {q : Nat} {z : Nat} (D : decode cc pc = .ok (.aload q, 2)) (h : lv[q]? = some (.ref z)) (kk : AW G E nL (pc + 2) lv (.ref z :: st) n k w rf M) : AW G E nL pc lv (st) n k w rf M := by
  intro H locs ls hP hS hL
  exact lv_aload A.1 A.2.1 D (hL.2.2 _ _ h (by intro q; cases q)) (kk H locs ls hP hS hL)
theorem a_aloadS (A : Am G E cc nL own n0 d kc wc) {q : Fin 4} (D : decode cc pc = .ok (.aload_n q, 1)) (h : lv[(q : Nat)]? = some (.retAddr 0)) (kk : AW G E nL (pc + 1) lv (.retAddr 0 :: st) n k w rf M) : AW G E nL pc lv (st) n k w rf M := by
  intro H locs ls hP hS hL
  exact lv_aload_n A.1 A.2.1 D rfl (hL.2.2 _ _ h (by intro q; cases q)) (kk H locs ls hP hS hL)
theorem a_istore_n (A : Am G E cc nL own n0 d kc wc) {q : Fin 4} {z : Int} (D : decode cc pc = .ok (.istore_n q, 1)) (hq : (q : Nat) < nL) {lv' : List Value} (hl : st1 lv (q : Nat) (vi z) = lv') (kk : AW G E nL (pc + 1) lv' st n k w rf M) : AW G E nL pc lv (vi z :: st) n k w rf M := by
  intro H locs ls hP hS hL
  subst hl
  obtain ⟨ls', e', h'⟩ := LH.store1 (v := vi z) hL hq rfl
  intro T hT X
  obtain ⟨t, a, b⟩ := kk H locs ls' hP hS h' T hT X
  refine ⟨t, ?_, b⟩
  jvm_step X.here [X.here.top, A.1, A.2.1, D, cv, e']
  exact ⟨ls', e', a⟩
theorem a_istore (A : Am G E cc nL own n0 d kc wc) {q : Nat} {z : Int} (D : decode cc pc = .ok (.istore q, 2)) (hq : q < nL) {lv' : List Value} (hl : st1 lv q (vi z) = lv') (kk : AW G E nL (pc + 2) lv' st n k w rf M) : AW G E nL pc lv (vi z :: st) n k w rf M := by
  intro H locs ls hP hS hL
  subst hl
  obtain ⟨ls', e', h'⟩ := LH.store1 (v := vi z) hL hq rfl
  intro T hT X
  obtain ⟨t, a, b⟩ := kk H locs ls' hP hS h' T hT X
  refine ⟨t, ?_, b⟩
  jvm_step X.here [X.here.top, A.1, A.2.1, D, cv, e']
  exact ⟨ls', e', a⟩
theorem a_lstore_n (A : Am G E cc nL own n0 d kc wc) {q : Fin 4} {z : Int} (D : decode cc pc = .ok (.lstore_n q, 1)) (hq : (q : Nat) + 1 < nL) {lv' : List Value} (hl : st2 lv (q : Nat) (vl z) = lv') (kk : AW G E nL (pc + 1) lv' st n k w rf M) : AW G E nL pc lv (vl z :: st) n k w rf M := by
  intro H locs ls hP hS hL
  subst hl
  obtain ⟨ls', e', h'⟩ := LH.store2 (v := vl z) hL hq rfl
  intro T hT X
  obtain ⟨t, a, b⟩ := kk H locs ls' hP hS h' T hT X
  refine ⟨t, ?_, b⟩
  jvm_step X.here [X.here.top, A.1, A.2.1, D, cv, e']
  exact ⟨ls', e', a⟩
theorem a_lstore (A : Am G E cc nL own n0 d kc wc) {q : Nat} {z : Int} (D : decode cc pc = .ok (.lstore q, 2)) (hq : q + 1 < nL) {lv' : List Value} (hl : st2 lv q (vl z) = lv') (kk : AW G E nL (pc + 2) lv' st n k w rf M) : AW G E nL pc lv (vl z :: st) n k w rf M := by
  intro H locs ls hP hS hL
  subst hl
  obtain ⟨ls', e', h'⟩ := LH.store2 (v := vl z) hL hq rfl
  intro T hT X
  obtain ⟨t, a, b⟩ := kk H locs ls' hP hS h' T hT X
  refine ⟨t, ?_, b⟩
  jvm_step X.here [X.here.top, A.1, A.2.1, D, cv, e']
  exact ⟨ls', e', a⟩
theorem a_astore_n (A : Am G E cc nL own n0 d kc wc) {q : Fin 4} {z : Nat} (D : decode cc pc = .ok (.astore_n q, 1)) (hq : (q : Nat) < nL) {lv' : List Value} (hl : st1 lv (q : Nat) (.ref z) = lv') (kk : AW G E nL (pc + 1) lv' st n k w rf M) : AW G E nL pc lv (.ref z :: st) n k w rf M := by
  intro H locs ls hP hS hL
  subst hl
  obtain ⟨ls', e', h'⟩ := LH.store1 (v := .ref z) hL hq rfl
  intro T hT X
  obtain ⟨t, a, b⟩ := kk H locs ls' hP hS h' T hT X
  refine ⟨t, ?_, b⟩
  jvm_step X.here [X.here.top, A.1, A.2.1, D, cv, e' , Value.isRef]
  exact ⟨ls', e', a⟩
theorem a_astore (A : Am G E cc nL own n0 d kc wc) {q : Nat} {z : Nat} (D : decode cc pc = .ok (.astore q, 2)) (hq : q < nL) {lv' : List Value} (hl : st1 lv q (.ref z) = lv') (kk : AW G E nL (pc + 2) lv' st n k w rf M) : AW G E nL pc lv (.ref z :: st) n k w rf M := by
  intro H locs ls hP hS hL
  subst hl
  obtain ⟨ls', e', h'⟩ := LH.store1 (v := .ref z) hL hq rfl
  intro T hT X
  obtain ⟨t, a, b⟩ := kk H locs ls' hP hS h' T hT X
  refine ⟨t, ?_, b⟩
  jvm_step X.here [X.here.top, A.1, A.2.1, D, cv, e' , Value.isRef]
  exact ⟨ls', e', a⟩
theorem a_iinc (A : Am G E cc nL own n0 d kc wc) {q : Nat} {z c : Int} (D : decode cc pc = .ok (.iinc q c, 3)) (h : lv[q]? = some (vi z)) (hq : q < nL) {lv' : List Value} (hl : st1 lv q (vi (z + c)) = lv') (kk : AW G E nL (pc + 3) lv' st n k w rf M) : AW G E nL pc lv (st) n k w rf M := by
  intro H locs ls hP hS hL
  subst hl
  obtain ⟨ls', e', h'⟩ := LH.store1 (v := vi (z + c)) hL hq rfl
  have hg : ls[q]? = some (.val (.int (Int32.ofInt z))) := hL.2.2 _ _ h (by intro q; cases q)
  have e2 : storeLocals ls q (.int (Int32.ofInt z + Int32.ofInt c)) = some ls' := by rw [← Int32.ofInt_add]; exact e'
  intro T hT X
  obtain ⟨t, a, b⟩ := kk H locs ls' hP hS h' T hT X
  refine ⟨t, ?_, b⟩
  jvm_step X.here [X.here.top, A.1, A.2.1, D, hg, e2]
  exact a
theorem a_iadd (A : Am G E cc nL own n0 d kc wc) {x y : Int} (D : decode cc pc = .ok (.iadd, 1)) (kk : AW G E nL (pc + 1) lv (vi (x + y) :: st) n k w rf M) : AW G E nL pc lv (vi y :: vi x :: st) n k w rf M := by
  intro H locs ls hP hS hL
  refine lv_iadd A.1 A.2.1 D ?_
  have h := kk H locs ls hP hS hL
  rw [← Int32.ofInt_add]
  exact h
theorem a_isub (A : Am G E cc nL own n0 d kc wc) {x y : Int} (D : decode cc pc = .ok (.isub, 1)) (kk : AW G E nL (pc + 1) lv (vi (x - y) :: st) n k w rf M) : AW G E nL pc lv (vi y :: vi x :: st) n k w rf M := by
  intro H locs ls hP hS hL
  refine lv_isub A.1 A.2.1 D ?_
  have h := kk H locs ls hP hS hL
  rw [← Int32.ofInt_sub]
  exact h
theorem a_imul (A : Am G E cc nL own n0 d kc wc) {x y : Int} (D : decode cc pc = .ok (.imul, 1)) (kk : AW G E nL (pc + 1) lv (vi (x * y) :: st) n k w rf M) : AW G E nL pc lv (vi y :: vi x :: st) n k w rf M := by
  intro H locs ls hP hS hL
  refine lv_imul A.1 A.2.1 D ?_
  have h := kk H locs ls hP hS hL
  rw [← Int32.ofInt_mul]
  exact h
theorem a_ladd (A : Am G E cc nL own n0 d kc wc) {x y : Int} (D : decode cc pc = .ok (.ladd, 1)) (kk : AW G E nL (pc + 1) lv (vl (x + y) :: st) n k w rf M) : AW G E nL pc lv (vl y :: vl x :: st) n k w rf M := by
  intro H locs ls hP hS hL
  refine lv_ladd A.1 A.2.1 D ?_
  have h := kk H locs ls hP hS hL
  rw [← Int64.ofInt_add]
  exact h
theorem a_lsub (A : Am G E cc nL own n0 d kc wc) {x y : Int} (D : decode cc pc = .ok (.lsub, 1)) (kk : AW G E nL (pc + 1) lv (vl (x - y) :: st) n k w rf M) : AW G E nL pc lv (vl y :: vl x :: st) n k w rf M := by
  intro H locs ls hP hS hL
  refine lv_lsub A.1 A.2.1 D ?_
  have h := kk H locs ls hP hS hL
  rw [← Int64.ofInt_sub]
  exact h
theorem a_lmul (A : Am G E cc nL own n0 d kc wc) {x y : Int} (D : decode cc pc = .ok (.lmul, 1)) (kk : AW G E nL (pc + 1) lv (vl (x * y) :: st) n k w rf M) : AW G E nL pc lv (vl y :: vl x :: st) n k w rf M := by
  intro H locs ls hP hS hL
  refine lv_lmul A.1 A.2.1 D ?_
  have h := kk H locs ls hP hS hL
  rw [← Int64.ofInt_mul]
  exact h
theorem a_ineg (A : Am G E cc nL own n0 d kc wc) {x : Int} (D : decode cc pc = .ok (.ineg, 1)) (kk : AW G E nL (pc + 1) lv (vi (-x) :: st) n k w rf M) : AW G E nL pc lv (vi x :: st) n k w rf M := by
  intro H locs ls hP hS hL
  refine lv_ineg A.1 A.2.1 D ?_
  rw [← Int32.ofInt_neg]
  exact kk H locs ls hP hS hL
theorem a_lneg (A : Am G E cc nL own n0 d kc wc) {x : Int} (D : decode cc pc = .ok (.lneg, 1)) (kk : AW G E nL (pc + 1) lv (vl (-x) :: st) n k w rf M) : AW G E nL pc lv (vl x :: st) n k w rf M := by
  intro H locs ls hP hS hL
  refine lv_lneg A.1 A.2.1 D ?_
  rw [← Int64.ofInt_neg]
  exact kk H locs ls hP hS hL
theorem a_idiv (A : Am G E cc nL own n0 d kc wc) {x y : Int} (D : decode cc pc = .ok (.idiv, 1)) (hx : I32 x) (hy : I32 y) (h0 : y ≠ 0) (kk : AW G E nL (pc + 1) lv (vi (x.tdiv y) :: st) n k w rf M) : AW G E nL pc lv (vi y :: vi x :: st) n k w rf M := by
  intro H locs ls hP hS hL
  refine lv_idiv A.1 A.2.1 D (i32_ne0 hy h0) ?_
  rw [i32_div hx hy]
  exact kk H locs ls hP hS hL
theorem a_ldiv (A : Am G E cc nL own n0 d kc wc) {x y : Int} (D : decode cc pc = .ok (.ldiv, 1)) (hx : I64 x) (hy : I64 y) (h0 : y ≠ 0) (kk : AW G E nL (pc + 1) lv (vl (x.tdiv y) :: st) n k w rf M) : AW G E nL pc lv (vl y :: vl x :: st) n k w rf M := by
  intro H locs ls hP hS hL
  refine lv_ldiv A.1 A.2.1 D (i64_ne0 hy h0) ?_
  rw [i64_div hx hy]
  exact kk H locs ls hP hS hL
theorem a_lrem (A : Am G E cc nL own n0 d kc wc) {x y : Int} (D : decode cc pc = .ok (.lrem, 1)) (hx : I64 x) (hy : I64 y) (h0 : y ≠ 0) (kk : AW G E nL (pc + 1) lv (vl (x.tmod y) :: st) n k w rf M) : AW G E nL pc lv (vl y :: vl x :: st) n k w rf M := by
  intro H locs ls hP hS hL
  refine lv_lrem A.1 A.2.1 D (i64_ne0 hy h0) ?_
  rw [i64_rem hx hy]
  exact kk H locs ls hP hS hL
theorem a_i2l (A : Am G E cc nL own n0 d kc wc) {x : Int} (D : decode cc pc = .ok (.i2l, 1)) (hx : I32 x) (kk : AW G E nL (pc + 1) lv (vl x :: st) n k w rf M) : AW G E nL pc lv (vi x :: st) n k w rf M := by
  intro H locs ls hP hS hL
  exact lv_i2l A.1 A.2.1 D (i32_i2l hx) (kk H locs ls hP hS hL)
theorem a_l2i (A : Am G E cc nL own n0 d kc wc) {x : Int} (D : decode cc pc = .ok (.l2i, 1)) (kk : AW G E nL (pc + 1) lv (vi x :: st) n k w rf M) : AW G E nL pc lv (vl x :: st) n k w rf M := by
  intro H locs ls hP hS hL
  exact lv_l2i A.1 A.2.1 D (i64_l2i x) (kk H locs ls hP hS hL)
theorem a_ishl (A : Am G E cc nL own n0 d kc wc) {x y z : Int} (D : decode cc pc = .ok (.ishl, 1)) (hz : Int32.ofInt x <<< (Int32.ofInt y &&& 31) = Int32.ofInt z) (kk : AW G E nL (pc + 1) lv (vi z :: st) n k w rf M) : AW G E nL pc lv (vi y :: vi x :: st) n k w rf M := by
  intro H locs ls hP hS hL
  refine lv_ishl A.1 A.2.1 D ?_
  rw [hz]
  exact kk H locs ls hP hS hL
theorem a_iand (A : Am G E cc nL own n0 d kc wc) {x y z : Int} (D : decode cc pc = .ok (.iand, 1)) (hz : Int32.ofInt x &&& Int32.ofInt y = Int32.ofInt z) (kk : AW G E nL (pc + 1) lv (vi z :: st) n k w rf M) : AW G E nL pc lv (vi y :: vi x :: st) n k w rf M := by
  intro H locs ls hP hS hL
  refine lv_iand A.1 A.2.1 D ?_
  rw [hz]
  exact kk H locs ls hP hS hL
theorem a_ior (A : Am G E cc nL own n0 d kc wc) {x y z : Int} (D : decode cc pc = .ok (.ior, 1)) (hz : Int32.ofInt x ||| Int32.ofInt y = Int32.ofInt z) (kk : AW G E nL (pc + 1) lv (vi z :: st) n k w rf M) : AW G E nL pc lv (vi y :: vi x :: st) n k w rf M := by
  intro H locs ls hP hS hL
  refine lv_ior A.1 A.2.1 D ?_
  rw [hz]
  exact kk H locs ls hP hS hL
theorem a_dup (A : Am G E cc nL own n0 d kc wc) {v : Value} (D : decode cc pc = .ok (.dup, 1)) (hv : v.category = 1) (kk : AW G E nL (pc + 1) lv (v :: v :: st) n k w rf M) : AW G E nL pc lv (v :: st) n k w rf M := by
  intro H locs ls hP hS hL
  exact lv_dup A.1 A.2.1 D (by rw [cv_cat]; exact hv) (kk H locs ls hP hS hL)
theorem a_dup2 (A : Am G E cc nL own n0 d kc wc) {u v : Value} (D : decode cc pc = .ok (.dup2, 1)) (hu : u.category = 1) (hv : v.category = 1) (kk : AW G E nL (pc + 1) lv (u :: v :: u :: v :: st) n k w rf M) : AW G E nL pc lv (u :: v :: st) n k w rf M := by
  intro H locs ls hP hS hL
  exact lv_dup2_11 A.1 A.2.1 D (by rw [cv_cat]; exact hu) (by rw [cv_cat]; exact hv) (kk H locs ls hP hS hL)
theorem a_goto (A : Am G E cc nL own n0 d kc wc) {off : Int} {tgt : Nat} (D : decode cc pc = .ok (.goto off, 3)) (ht : (pc : Int) + off = (tgt : Int)) (kk : AW G E nL (tgt) lv (st) n k w rf M) : AW G E nL pc lv (st) n k w rf M := by
  intro H locs ls hP hS hL
  exact lv_goto A.1 A.2.1 D ht (kk H locs ls hP hS hL)
theorem a_icmp_eq (A : Am G E cc nL own n0 d kc wc) {x y off : Int} {tgt : Nat} (D : decode cc pc = .ok (.if_icmp .eq off, 3)) (ht : (pc : Int) + off = (tgt : Int)) (hx : I32 x) (hy : I32 y) (kt : x = y → AW G E nL tgt lv st n k w rf M) (kf : ¬ x = y → AW G E nL (pc + 3) lv st n k w rf M) : AW G E nL pc lv (vi y :: vi x :: st) n k w rf M := by
  intro H locs ls hP hS hL
  exact lv_icmp_eq A.1 A.2.1 D ht (fun q => kt ((i32_eq hx hy).mp q) H locs ls hP hS hL) (fun q => kf (by have q2 := mt (i32_eq hx hy).mpr q; omega) H locs ls hP hS hL)
theorem a_if_eq (A : Am G E cc nL own n0 d kc wc) {x off : Int} {tgt : Nat} (D : decode cc pc = .ok (.ifCond .eq off, 3)) (ht : (pc : Int) + off = (tgt : Int)) (hx : I32 x) (kt : x = 0 → AW G E nL tgt lv st n k w rf M) (kf : ¬ x = 0 → AW G E nL (pc + 3) lv st n k w rf M) : AW G E nL pc lv (vi x :: st) n k w rf M := by
  intro H locs ls hP hS hL
  have hy : I32 0 := ⟨by omega, by omega⟩
  have e0 : Int32.ofInt 0 = 0 := rfl
  refine lv_if_eq A.1 A.2.1 D ht (fun q => kt ?_ H locs ls hP hS hL) (fun q => kf ?_ H locs ls hP hS hL)
  · rw [← e0] at q
    exact (i32_eq hx hy).mp q
  · rw [← e0] at q
    have q2 := mt (i32_eq hx hy).mpr q; omega
theorem a_lcmp_eq (A : Am G E cc nL own n0 d kc wc) {x y off : Int} {tgt : Nat} (D1 : decode cc pc = .ok (.lcmp, 1)) (D : decode cc (pc + 1) = .ok (.ifCond .eq off, 3)) (ht : (pc : Int) + 1 + off = (tgt : Int)) (hx : I64 x) (hy : I64 y) (kt : x = y → AW G E nL tgt lv st n k w rf M) (kf : ¬ x = y → AW G E nL (pc + 4) lv st n k w rf M) : AW G E nL pc lv (vl y :: vl x :: st) n k w rf M := by
  intro H locs ls hP hS hL
  refine W.lcmp A.1 A.2.1 D1 ?_
  have h1 := i64_lt hx hy
  have h2 := i64_lt hy hx
  have h3 := i64_eq hx hy
  refine lv_if_eq A.1 A.2.1 D (by omega) (fun q => kt ?_ H locs ls hP hS hL) (fun q => kf ?_ H locs ls hP hS hL)
  all_goals
    simp only [lg_cmp, gt_iff_lt, h1, h2, h3] at q
    rcases Int.lt_trichotomy x y with c | c | c
    · first | omega | (exfalso; rw [if_neg (by omega), if_neg (by omega)] at q; revert q; decide)
    · first | omega | (exfalso; rw [if_neg (by omega), if_pos c] at q; revert q; decide)
    · first | omega | (exfalso; rw [if_pos c] at q; revert q; decide)
theorem a_icmp_ne (A : Am G E cc nL own n0 d kc wc) {x y off : Int} {tgt : Nat} (D : decode cc pc = .ok (.if_icmp .ne off, 3)) (ht : (pc : Int) + off = (tgt : Int)) (hx : I32 x) (hy : I32 y) (kt : ¬ x = y → AW G E nL tgt lv st n k w rf M) (kf : x = y → AW G E nL (pc + 3) lv st n k w rf M) : AW G E nL pc lv (vi y :: vi x :: st) n k w rf M := by
  intro H locs ls hP hS hL
  exact lv_icmp_ne A.1 A.2.1 D ht (fun q => kt ((not_congr (i32_eq hx hy)).mp q) H locs ls hP hS hL) (fun q => kf ((i32_eq hx hy).mp q) H locs ls hP hS hL)
theorem a_if_ne (A : Am G E cc nL own n0 d kc wc) {x off : Int} {tgt : Nat} (D : decode cc pc = .ok (.ifCond .ne off, 3)) (ht : (pc : Int) + off = (tgt : Int)) (hx : I32 x) (kt : ¬ x = 0 → AW G E nL tgt lv st n k w rf M) (kf : x = 0 → AW G E nL (pc + 3) lv st n k w rf M) : AW G E nL pc lv (vi x :: st) n k w rf M := by
  intro H locs ls hP hS hL
  have hy : I32 0 := ⟨by omega, by omega⟩
  have e0 : Int32.ofInt 0 = 0 := rfl
  refine lv_if_ne A.1 A.2.1 D ht (fun q => kt ?_ H locs ls hP hS hL) (fun q => kf ?_ H locs ls hP hS hL)
  · rw [← e0] at q
    exact (not_congr (i32_eq hx hy)).mp q
  · rw [← e0] at q
    exact (i32_eq hx hy).mp q
theorem a_lcmp_ne (A : Am G E cc nL own n0 d kc wc) {x y off : Int} {tgt : Nat} (D1 : decode cc pc = .ok (.lcmp, 1)) (D : decode cc (pc + 1) = .ok (.ifCond .ne off, 3)) (ht : (pc : Int) + 1 + off = (tgt : Int)) (hx : I64 x) (hy : I64 y) (kt : ¬ x = y → AW G E nL tgt lv st n k w rf M) (kf : x = y → AW G E nL (pc + 4) lv st n k w rf M) : AW G E nL pc lv (vl y :: vl x :: st) n k w rf M := by
  intro H locs ls hP hS hL
  refine W.lcmp A.1 A.2.1 D1 ?_
  have h1 := i64_lt hx hy
  have h2 := i64_lt hy hx
  have h3 := i64_eq hx hy
  refine lv_if_ne A.1 A.2.1 D (by omega) (fun q => kt ?_ H locs ls hP hS hL) (fun q => kf ?_ H locs ls hP hS hL)
  all_goals
    simp only [lg_cmp, gt_iff_lt, h1, h2, h3] at q
    rcases Int.lt_trichotomy x y with c | c | c
    · first | omega | (exfalso; rw [if_neg (by omega), if_neg (by omega)] at q; revert q; decide)
    · first | omega | (exfalso; rw [if_neg (by omega), if_pos c] at q; revert q; decide)
    · first | omega | (exfalso; rw [if_pos c] at q; revert q; decide)
theorem a_icmp_lt (A : Am G E cc nL own n0 d kc wc) {x y off : Int} {tgt : Nat} (D : decode cc pc = .ok (.if_icmp .lt off, 3)) (ht : (pc : Int) + off = (tgt : Int)) (hx : I32 x) (hy : I32 y) (kt : x < y → AW G E nL tgt lv st n k w rf M) (kf : y ≤ x → AW G E nL (pc + 3) lv st n k w rf M) : AW G E nL pc lv (vi y :: vi x :: st) n k w rf M := by
  intro H locs ls hP hS hL
  exact lv_icmp_lt A.1 A.2.1 D ht (fun q => kt ((i32_lt hx hy).mp q) H locs ls hP hS hL) (fun q => kf (by have q2 := mt (i32_lt hx hy).mpr q; omega) H locs ls hP hS hL)
theorem a_if_lt (A : Am G E cc nL own n0 d kc wc) {x off : Int} {tgt : Nat} (D : decode cc pc = .ok (.ifCond .lt off, 3)) (ht : (pc : Int) + off = (tgt : Int)) (hx : I32 x) (kt : x < 0 → AW G E nL tgt lv st n k w rf M) (kf : 0 ≤ x → AW G E nL (pc + 3) lv st n k w rf M) : AW G E nL pc lv (vi x :: st) n k w rf M := by
  intro H locs ls hP hS hL
  have hy : I32 0 := ⟨by omega, by omega⟩
  have e0 : Int32.ofInt 0 = 0 := rfl
  refine lv_if_lt A.1 A.2.1 D ht (fun q => kt ?_ H locs ls hP hS hL) (fun q => kf ?_ H locs ls hP hS hL)
  · rw [← e0] at q
    exact (i32_lt hx hy).mp q
  · rw [← e0] at q
    have q2 := mt (i32_lt hx hy).mpr q; omega
theorem a_lcmp_lt (A : Am G E cc nL own n0 d kc wc) {x y off : Int} {tgt : Nat} (D1 : decode cc pc = .ok (.lcmp, 1)) (D : decode cc (pc + 1) = .ok (.ifCond .lt off, 3)) (ht : (pc : Int) + 1 + off = (tgt : Int)) (hx : I64 x) (hy : I64 y) (kt : x < y → AW G E nL tgt lv st n k w rf M) (kf : y ≤ x → AW G E nL (pc + 4) lv st n k w rf M) : AW G E nL pc lv (vl y :: vl x :: st) n k w rf M := by
  intro H locs ls hP hS hL
  refine W.lcmp A.1 A.2.1 D1 ?_
  have h1 := i64_lt hx hy
  have h2 := i64_lt hy hx
  have h3 := i64_eq hx hy
  refine lv_if_lt A.1 A.2.1 D (by omega) (fun q => kt ?_ H locs ls hP hS hL) (fun q => kf ?_ H locs ls hP hS hL)
  all_goals
    simp only [lg_cmp, gt_iff_lt, h1, h2, h3] at q
    rcases Int.lt_trichotomy x y with c | c | c
    · first | omega | (exfalso; rw [if_neg (by omega), if_neg (by omega)] at q; revert q; decide)
    · first | omega | (exfalso; rw [if_neg (by omega), if_pos c] at q; revert q; decide)
    · first | omega | (exfalso; rw [if_pos c] at q; revert q; decide)
theorem a_icmp_ge (A : Am G E cc nL own n0 d kc wc) {x y off : Int} {tgt : Nat} (D : decode cc pc = .ok (.if_icmp .ge off, 3)) (ht : (pc : Int) + off = (tgt : Int)) (hx : I32 x) (hy : I32 y) (kt : y ≤ x → AW G E nL tgt lv st n k w rf M) (kf : x < y → AW G E nL (pc + 3) lv st n k w rf M) : AW G E nL pc lv (vi y :: vi x :: st) n k w rf M := by
  intro H locs ls hP hS hL
  exact lv_icmp_ge A.1 A.2.1 D ht (fun q => kt ((i32_le hy hx).mp q) H locs ls hP hS hL) (fun q => kf (by have q2 := mt (i32_le hy hx).mpr q; omega) H locs ls hP hS hL)
theorem a_if_ge (A : Am G E cc nL own n0 d kc wc) {x off : Int} {tgt : Nat} (D : decode cc pc = .ok (.ifCond .ge off, 3)) (ht : (pc : Int) + off = (tgt : Int)) (hx : I32 x) (kt : 0 ≤ x → AW G E nL tgt lv st n k w rf M) (kf : x < 0 → AW G E nL (pc + 3) lv st n k w rf M) : AW G E nL pc lv (vi x :: st) n k w rf M := by
  intro H locs ls hP hS hL
  have hy : I32 0 := ⟨by omega, by omega⟩
  have e0 : Int32.ofInt 0 = 0 := rfl
  refine lv_if_ge A.1 A.2.1 D ht (fun q => kt ?_ H locs ls hP hS hL) (fun q => kf ?_ H locs ls hP hS hL)
  · rw [← e0] at q
    exact (i32_le hy hx).mp q
  · rw [← e0] at q
    have q2 := mt (i32_le hy hx).mpr q; omega
theorem a_lcmp_ge (A : Am G E cc nL own n0 d kc wc) {x y off : Int} {tgt : Nat} (D1 : decode cc pc = .ok (.lcmp, 1)) (D : decode cc (pc + 1) = .ok (.ifCond .ge off, 3)) (ht : (pc : Int) + 1 + off = (tgt : Int)) (hx : I64 x) (hy : I64 y) (kt : y ≤ x → AW G E nL tgt lv st n k w rf M) (kf : x < y → AW G E nL (pc + 4) lv st n k w rf M) : AW G E nL pc lv (vl y :: vl x :: st) n k w rf M := by
  intro H locs ls hP hS hL
  refine W.lcmp A.1 A.2.1 D1 ?_
  have h1 := i64_lt hx hy
  have h2 := i64_lt hy hx
  have h3 := i64_eq hx hy
  refine lv_if_ge A.1 A.2.1 D (by omega) (fun q => kt ?_ H locs ls hP hS hL) (fun q => kf ?_ H locs ls hP hS hL)
  all_goals
    simp only [lg_cmp, gt_iff_lt, h1, h2, h3] at q
    rcases Int.lt_trichotomy x y with c | c | c
    · first | omega | (exfalso; rw [if_neg (by omega), if_neg (by omega)] at q; revert q; decide)
    · first | omega | (exfalso; rw [if_neg (by omega), if_pos c] at q; revert q; decide)
    · first | omega | (exfalso; rw [if_pos c] at q; revert q; decide)
theorem a_icmp_gt (A : Am G E cc nL own n0 d kc wc) {x y off : Int} {tgt : Nat} (D : decode cc pc = .ok (.if_icmp .gt off, 3)) (ht : (pc : Int) + off = (tgt : Int)) (hx : I32 x) (hy : I32 y) (kt : y < x → AW G E nL tgt lv st n k w rf M) (kf : x ≤ y → AW G E nL (pc + 3) lv st n k w rf M) : AW G E nL pc lv (vi y :: vi x :: st) n k w rf M := by
  intro H locs ls hP hS hL
  exact lv_icmp_gt A.1 A.2.1 D ht (fun q => kt ((i32_lt hy hx).mp q) H locs ls hP hS hL) (fun q => kf (by have q2 := mt (i32_lt hy hx).mpr q; omega) H locs ls hP hS hL)
theorem a_if_gt (A : Am G E cc nL own n0 d kc wc) {x off : Int} {tgt : Nat} (D : decode cc pc = .ok (.ifCond .gt off, 3)) (ht : (pc : Int) + off = (tgt : Int)) (hx : I32 x) (kt : 0 < x → AW G E nL tgt lv st n k w rf M) (kf : x ≤ 0 → AW G E nL (pc + 3) lv st n k w rf M) : AW G E nL pc lv (vi x :: st) n k w rf M := by
  intro H locs ls hP hS hL
  have hy : I32 0 := ⟨by omega, by omega⟩
  have e0 : Int32.ofInt 0 = 0 := rfl
  refine lv_if_gt A.1 A.2.1 D ht (fun q => kt ?_ H locs ls hP hS hL) (fun q => kf ?_ H locs ls hP hS hL)
  · rw [← e0] at q
    exact (i32_lt hy hx).mp q
  · rw [← e0] at q
    have q2 := mt (i32_lt hy hx).mpr q; omega
theorem a_lcmp_gt (A : Am G E cc nL own n0 d kc wc) {x y off : Int} {tgt : Nat} (D1 : decode cc pc = .ok (.lcmp, 1)) (D : decode cc (pc + 1) = .ok (.ifCond .gt off, 3)) (ht : (pc : Int) + 1 + off = (tgt : Int)) (hx : I64 x) (hy : I64 y) (kt : y < x → AW G E nL tgt lv st n k w rf M) (kf : x ≤ y → AW G E nL (pc + 4) lv st n k w rf M) : AW G E nL pc lv (vl y :: vl x :: st) n k w rf M := by
  intro H locs ls hP hS hL
  refine W.lcmp A.1 A.2.1 D1 ?_
  have h1 := i64_lt hx hy
  have h2 := i64_lt hy hx
  have h3 := i64_eq hx hy
  refine lv_if_gt A.1 A.2.1 D (by omega) (fun q => kt ?_ H locs ls hP hS hL) (fun q => kf ?_ H locs ls hP hS hL)
  all_goals
    simp only [lg_cmp, gt_iff_lt, h1, h2, h3] at q
    rcases Int.lt_trichotomy x y with c | c | c
    · first | omega | (exfalso; rw [if_neg (by omega), if_neg (by omega)] at q; revert q; decide)
    · first | omega | (exfalso; rw [if_neg (by omega), if_pos c] at q; revert q; decide)
    · first | omega | (exfalso; rw [if_pos c] at q; revert q; decide)
theorem a_icmp_le (A : Am G E cc nL own n0 d kc wc) {x y off : Int} {tgt : Nat} (D : decode cc pc = .ok (.if_icmp .le off, 3)) (ht : (pc : Int) + off = (tgt : Int)) (hx : I32 x) (hy : I32 y) (kt : x ≤ y → AW G E nL tgt lv st n k w rf M) (kf : y < x → AW G E nL (pc + 3) lv st n k w rf M) : AW G E nL pc lv (vi y :: vi x :: st) n k w rf M := by
  intro H locs ls hP hS hL
  exact lv_icmp_le A.1 A.2.1 D ht (fun q => kt ((i32_le hx hy).mp q) H locs ls hP hS hL) (fun q => kf (by have q2 := mt (i32_le hx hy).mpr q; omega) H locs ls hP hS hL)
theorem a_if_le (A : Am G E cc nL own n0 d kc wc) {x off : Int} {tgt : Nat} (D : decode cc pc = .ok (.ifCond .le off, 3)) (ht : (pc : Int) + off = (tgt : Int)) (hx : I32 x) (kt : x ≤ 0 → AW G E nL tgt lv st n k w rf M) (kf : 0 < x → AW G E nL (pc + 3) lv st n k w rf M) : AW G E nL pc lv (vi x :: st) n k w rf M := by
  intro H locs ls hP hS hL
  have hy : I32 0 := ⟨by omega, by omega⟩
  have e0 : Int32.ofInt 0 = 0 := rfl
  refine lv_if_le A.1 A.2.1 D ht (fun q => kt ?_ H locs ls hP hS hL) (fun q => kf ?_ H locs ls hP hS hL)
  · rw [← e0] at q
    exact (i32_le hx hy).mp q
  · rw [← e0] at q
    have q2 := mt (i32_le hx hy).mpr q; omega
theorem a_lcmp_le (A : Am G E cc nL own n0 d kc wc) {x y off : Int} {tgt : Nat} (D1 : decode cc pc = .ok (.lcmp, 1)) (D : decode cc (pc + 1) = .ok (.ifCond .le off, 3)) (ht : (pc : Int) + 1 + off = (tgt : Int)) (hx : I64 x) (hy : I64 y) (kt : x ≤ y → AW G E nL tgt lv st n k w rf M) (kf : y < x → AW G E nL (pc + 4) lv st n k w rf M) : AW G E nL pc lv (vl y :: vl x :: st) n k w rf M := by
  intro H locs ls hP hS hL
  refine W.lcmp A.1 A.2.1 D1 ?_
  have h1 := i64_lt hx hy
  have h2 := i64_lt hy hx
  have h3 := i64_eq hx hy
  refine lv_if_le A.1 A.2.1 D (by omega) (fun q => kt ?_ H locs ls hP hS hL) (fun q => kf ?_ H locs ls hP hS hL)
  all_goals
    simp only [lg_cmp, gt_iff_lt, h1, h2, h3] at q
    rcases Int.lt_trichotomy x y with c | c | c
    · first | omega | (exfalso; rw [if_neg (by omega), if_neg (by omega)] at q; revert q; decide)
    · first | omega | (exfalso; rw [if_neg (by omega), if_pos c] at q; revert q; decide)
    · first | omega | (exfalso; rw [if_pos c] at q; revert q; decide)
end AWR
end
section
/-! fields and arrays -/
def CF (ci : Nat) (C : String) (T : u_T) (N : Nat) (ty : Nat → FieldType) : Prop := vwCl[ci]? = some (C, T, N) ∧ clN ci = N ∧ clT ci = ty ∧ ci < 6 ∧ (∀ w ∈ u_ws C T N, w ∈ lw_tbl ∧ okW w = true) ∧ (∀ k, k < N → parseFieldDescriptor (T k).2.2.1 = some (ty k)) ∧ (∀ a, a < N → ∀ b, b < N → a ≠ b → (T a).2.1 ≠ (T b).2.1)
theorem cf0 : CF 0 RX0 TX0 2 tyX0 := ⟨rfl, rfl, rfl, by decide, tb_u0, tyX0_ok, nmX0⟩
theorem cf1 : CF 1 RX1 TX1 5 tyX1 := ⟨rfl, rfl, rfl, by decide, tb_u1, tyX1_ok, nmX1⟩
theorem cf2 : CF 2 RX2 TX2 17 tyX2 := ⟨rfl, rfl, rfl, by decide, tb_u2, tyX2_ok, nmX2⟩
theorem cf3 : CF 3 RX3 TX3 9 tyX3 := ⟨rfl, rfl, rfl, by decide, tb_u3, tyX3_ok, nmX3⟩
theorem cf4 : CF 4 RX4 TX4 8 tyX4 := ⟨rfl, rfl, rfl, by decide, tb_u4, tyX4_ok, nmX4⟩
theorem cf5 : CF 5 RX5 TX5 33 tyX5 := ⟨rfl, rfl, rfl, by decide, tb_u5, tyX5_ok, nmX5⟩
def FL (own : String) (ix : Nat) (T : u_T) (j : Nat) : Prop := Cond.fieldLink own ix (T j).1 (T j).2.1 (T j).2.2.1 ∈ lw_tbl ∨ Cond.fieldLinkNest own ix (T j).1 (T j).2.1 (T j).2.2.1 RX4 ∈ lw_tbl
theorem ce_obj {G : GG} {rf : RF} {M : MM} {a ci len : Nat} (h : ly a = (ci, len)) (hc : ci < 6) : ce G rf M a = .inr (ci, (List.range (clN ci)).map (fun j => fv (clT ci j) (M a j) (rf a j) (gz G))) := by
  unfold ce
  rw [h]
  match ci, hc with
  | 0, _ => rfl
  | 1, _ => rfl
  | 2, _ => rfl
  | 3, _ => rfl
  | 4, _ => rfl
  | 5, _ => rfl
theorem ce_same {G : GG} {rf rf' : RF} {M M' : MM} {c : Nat} (h1 : M' c = M c) (h2 : rf' c = rf c) : ce G rf' M' c = ce G rf M c := by
  unfold ce
  rw [h1, h2]
theorem rng_set {α : Type} (f g : Nat → α) (N j : Nat) (v : α) (h : ∀ i, i < N → g i = if i = j then v else f i) : ((List.range N).map f).set j v = (List.range N).map g := by
  apply List.ext_getElem?
  intro i
  by_cases hi : i < N
  · rw [List.getElem?_set]
    by_cases hj : j = i
    · subst hj
      simp [hi, h j hi]
    · rw [if_neg hj]
      simp [hi, h i hi, Ne.symm hj]
  · rw [List.getElem?_eq_none (by simp; omega), List.getElem?_eq_none (by simp; omega)]
section AHR
variable {G : GG} {E : EE} {cc : ByteArray} {nL : Nat} {own : String} {n0 d kc wc pc : Nat} {lv st : List Value} {n k w : Nat} {rf : RF} {M : MM}
theorem Am.words (A : Am G E cc nL own n0 d kc wc) {ci N : Nat} {C : String} {T : u_T} {ty : Nat → FieldType} (C0 : CF ci C T N ty) : ∀ w ∈ u_ws C T N, w.before (eA E) (eS E) = true := fun w hw => A.2.2.2.2.1.2.use (C0.2.2.2.2.1 w hw).1 (C0.2.2.2.2.1 w hw).2
theorem a_get (A : Am G E cc nL own n0 d kc wc) {ci N len a ix : Nat} {C : String} {T : u_T} {ty : Nat → FieldType} (C0 : CF ci C T N ty) (hl : ly a = (ci, len)) (ha : a < n) (j : Nat) (hj : j < N) (hf : FL own ix T j) (D : decode cc pc = .ok (.getfield ix, 3)) {v : Value} (hv : fv (ty j) (M a j) (rf a j) (gz G) = cv G v) (kk : AW G E nL (pc + 3) lv (v :: st) n k w rf M) : AW G E nL pc lv (.ref a :: st) n k w rf M := by
  intro H locs ls hP hS hL
  have hts := A.words C0
  obtain ⟨c1, c2, c3, c4, -, -, -⟩ := C0
  have he : (wl G n rf M)[a]? = some (gz G + a, .inr (ci, (List.range N).map (fun j => fv (ty j) (M a j) (rf a j) (gz G)))) := by
    rw [wl_get ha, ce_obj hl c4, c2, c3]
  have hv2 : ((List.range N).map (fun j => fv (ty j) (M a j) (rf a j) (gz G)))[j]? = some (cv G v) := by
    simp [hj, hv]
  rcases hf with hf | hf
  · exact va_get A.1 A.2.1 hts (fun _ h => h) A.2.2.2.1 A.2.2.2.2.1.1 hP a he c1 j hj (A.2.2.2.2.1.2.use hf rfl) (fun _ h => h) hv2 D (kk H locs ls hP hS hL)
  · exact va_getN A.1 A.2.1 hts (fun _ h => h) A.2.2.2.1 A.2.2.2.2.1.1 hP a he c1 j hj (A.2.2.2.2.1.2.use hf rfl) (fun _ h => h) hv2 D (kk H locs ls hP hS hL)
theorem a_getI (A : Am G E cc nL own n0 d kc wc) {ci N len a ix : Nat} {C : String} {T : u_T} {ty : Nat → FieldType} (C0 : CF ci C T N ty) (hl : ly a = (ci, len)) (ha : a < n) (j : Nat) (hj : j < N) (hf : FL own ix T j) (ht : ty j = .int ∨ ty j = .boolean) (D : decode cc pc = .ok (.getfield ix, 3)) {x : Int} (hv : M a j = x) (kk : AW G E nL (pc + 3) lv (vi x :: st) n k w rf M) : AW G E nL pc lv (.ref a :: st) n k w rf M :=
  a_get A C0 hl ha j hj hf D (by rcases ht with h | h <;> rw [h, hv] <;> rfl) kk
theorem a_getL (A : Am G E cc nL own n0 d kc wc) {ci N len a ix : Nat} {C : String} {T : u_T} {ty : Nat → FieldType} (C0 : CF ci C T N ty) (hl : ly a = (ci, len)) (ha : a < n) (j : Nat) (hj : j < N) (hf : FL own ix T j) (ht : ty j = .long) (D : decode cc pc = .ok (.getfield ix, 3)) {x : Int} (hv : M a j = x) (kk : AW G E nL (pc + 3) lv (vl x :: st) n k w rf M) : AW G E nL pc lv (.ref a :: st) n k w rf M :=
  a_get A C0 hl ha j hj hf D (by rw [ht, hv]; rfl) kk
theorem a_getR (A : Am G E cc nL own n0 d kc wc) {ci N len a ix r : Nat} {C : String} {T : u_T} {ty : Nat → FieldType} (C0 : CF ci C T N ty) (hl : ly a = (ci, len)) (ha : a < n) (j : Nat) (hj : j < N) (hf : FL own ix T j) (ht : (∃ c, ty j = .object c) ∨ ∃ t, ty j = .array t) (hr : rf a j = some r) (D : decode cc pc = .ok (.getfield ix, 3)) (kk : AW G E nL (pc + 3) lv (.ref r :: st) n k w rf M) : AW G E nL pc lv (.ref a :: st) n k w rf M :=
  a_get A C0 hl ha j hj hf D (by rw [hr]; rcases ht with ⟨_, h⟩ | ⟨_, h⟩ <;> rw [h] <;> rfl) kk
/-- putfield: of a field that isn't final; or of a final one in its own constructor -/
theorem a_put (A : Am G E cc nL own n0 d kc wc) {ci N len a ix : Nat} {C : String} {T : u_T} {ty : Nat → FieldType} (C0 : CF ci C T N ty) (hl : ly a = (ci, len)) (ha : a < n) (j : Nat) (hj : j < N) (hf : FL own ix T j) (hfin : (T j).2.2.2 = false ∨ ((T j).2.2.2 = true ∧ (eT E).name = "<init>" ∧ (T j).1 = own ∧ Cond.fieldLink own ix (T j).1 (T j).2.1 (T j).2.2.1 ∈ lw_tbl)) (D : decode cc pc = .ok (.putfield ix, 3)) {v : Value} {rf' : RF} {M' : MM}
    (hn : narrow (ty j) (cv G v) = cv G v) (hfit : fits (ty j) (cv G v) = true) (h1 : ∀ i, i < N → fv (ty i) (M' a i) (rf' a i) (gz G) = if i = j then cv G v else fv (ty i) (M a i) (rf a i) (gz G)) (h2 : ∀ c, c ≠ a → M' c = M c ∧ rf' c = rf c) (kk : AW G E nL (pc + 3) lv st n k w rf' M') : AW G E nL pc lv (v :: .ref a :: st) n k w rf M := by
  intro H locs ls hP hS hL
  have hts := A.words C0
  obtain ⟨c1, c2, c3, c4, -, c6, c7⟩ := C0
  have he : (wl G n rf M)[a]? = some (gz G + a, .inr (ci, (List.range N).map (fun j => fv (ty j) (M a j) (rf a j) (gz G)))) := by
    rw [wl_get ha, ce_obj hl c4, c2, c3]
  have hs : (wl G n rf M).set a (gz G + a, .inr (ci, ((List.range N).map (fun j => fv (ty j) (M a j) (rf a j) (gz G))).set j (cv G v))) = wl G n rf' M' := by
    refine wl_set ?_ (fun c hc => ce_same (h2 c hc).1 (h2 c hc).2)
    rw [ce_obj hl c4, c2, c3, rng_set _ _ _ _ _ h1]
  have go : ∀ (H1 : Heap) (locs1 : List Loc), va_P G.1 vwCl ((wl G n rf M).set a (gz G + a, .inr (ci, ((List.range N).map (fun j => fv (ty j) (M a j) (rf a j) (gz G))).set j (cv G v)))) H1 → va_D (fun q => gz G ≤ q) ((wl G n rf M).set a (gz G + a, .inr (ci, ((List.range N).map (fun j => fv (ty j) (M a j) (rf a j) (gz G))).set j (cv G v)))) → va_S (fun q => gz G ≤ q) (eS E).heap H1 locs1 → WW E H1 locs1 k w (F0 (eM E) (pc + 3) ls (st.map (cv G))) := by
    intro H1 locs1 hP1 _ hS1
    rw [hs] at hP1
    exact kk H1 locs1 ls hP1 hS1 hL
  rcases hfin with hfin | ⟨hfin, hm, hd, hf2⟩
  · rcases hf with hf | hf
    · exact va_put A.1 A.2.1 hts (fun _ h => h) ty c6 c7 A.2.2.2.1 A.2.2.2.2.1.1 hP wl_D hS a he c1 j hj (A.2.2.2.2.1.2.use hf rfl) (fun _ h => h) hfin (c6 j hj) hn hfit (by simp; exact hj) D go
    · exact va_putN A.1 A.2.1 hts (fun _ h => h) ty c6 c7 A.2.2.2.1 A.2.2.2.2.1.1 hP wl_D hS a he c1 j hj (A.2.2.2.2.1.2.use hf rfl) (fun _ h => h) hfin (c6 j hj) hn hfit (by simp; exact hj) D go
  · exact va_putF A.1 A.2.1 hts (fun _ h => h) ty c6 c7 A.2.2.2.1 A.2.2.2.2.1.1 hP wl_D hS a he c1 j hj (A.2.2.2.2.1.2.use hf2 rfl) (fun _ h => h) hfin hm hd (c6 j hj) hn hfit (by simp; exact hj) D go
theorem a_putI (A : Am G E cc nL own n0 d kc wc) {ci N len a ix : Nat} {C : String} {T : u_T} {ty : Nat → FieldType} (C0 : CF ci C T N ty) (hl : ly a = (ci, len)) (ha : a < n) (j : Nat) (hj : j < N) (hf : FL own ix T j) (ht : ty j = .int) (hfin : (T j).2.2.2 = false) (D : decode cc pc = .ok (.putfield ix, 3)) {x : Int} (kk : AW G E nL (pc + 3) lv st n k w rf (up2 M a j x)) : AW G E nL pc lv (vi x :: .ref a :: st) n k w rf M := by
  refine a_put A C0 hl ha j hj hf (Or.inl hfin) D (by rw [ht]; rfl) (by rw [ht]; rfl) (fun i hi => ?_) (fun c hc => ⟨up2_ne _ _ _ _ hc, rfl⟩) kk
  rw [up2_in]
  by_cases e : i = j
  · rw [if_pos e, if_pos e, e, ht]; rfl
  · rw [if_neg e, if_neg e]
theorem a_putZ (A : Am G E cc nL own n0 d kc wc) {ci N len a ix : Nat} {C : String} {T : u_T} {ty : Nat → FieldType} (C0 : CF ci C T N ty) (hl : ly a = (ci, len)) (ha : a < n) (j : Nat) (hj : j < N) (hf : FL own ix T j) (ht : ty j = .boolean) (hfin : (T j).2.2.2 = false) (D : decode cc pc = .ok (.putfield ix, 3)) {x : Int} (hx : x = 0 ∨ x = 1) (kk : AW G E nL (pc + 3) lv st n k w rf (up2 M a j x)) : AW G E nL pc lv (vi x :: .ref a :: st) n k w rf M := by
  refine a_put A C0 hl ha j hj hf (Or.inl hfin) D (by rw [ht]; rcases hx with rfl | rfl <;> rfl) (by rw [ht]; rcases hx with rfl | rfl <;> rfl) (fun i hi => ?_) (fun c hc => ⟨up2_ne _ _ _ _ hc, rfl⟩) kk
  rw [up2_in]
  by_cases e : i = j
  · rw [if_pos e, if_pos e, e, ht]; rfl
  · rw [if_neg e, if_neg e]
theorem a_putL (A : Am G E cc nL own n0 d kc wc) {ci N len a ix : Nat} {C : String} {T : u_T} {ty : Nat → FieldType} (C0 : CF ci C T N ty) (hl : ly a = (ci, len)) (ha : a < n) (j : Nat) (hj : j < N) (hf : FL own ix T j) (ht : ty j = .long) (hfin : (T j).2.2.2 = false) (D : decode cc pc = .ok (.putfield ix, 3)) {x : Int} (kk : AW G E nL (pc + 3) lv st n k w rf (up2 M a j x)) : AW G E nL pc lv (vl x :: .ref a :: st) n k w rf M := by
  refine a_put A C0 hl ha j hj hf (Or.inl hfin) D (by rw [ht]; rfl) (by rw [ht]; rfl) (fun i hi => ?_) (fun c hc => ⟨up2_ne _ _ _ _ hc, rfl⟩) kk
  rw [up2_in]
  by_cases e : i = j
  · rw [if_pos e, if_pos e, e, ht]; rfl
  · rw [if_neg e, if_neg e]
theorem a_putR (A : Am G E cc nL own n0 d kc wc) {ci N len a ix r : Nat} {C : String} {T : u_T} {ty : Nat → FieldType} (C0 : CF ci C T N ty) (hl : ly a = (ci, len)) (ha : a < n) (j : Nat) (hj : j < N) (hf : Cond.fieldLink own ix (T j).1 (T j).2.1 (T j).2.2.1 ∈ lw_tbl) (ht : (∃ c, ty j = .object c) ∨ ∃ t, ty j = .array t) (hfin : (T j).2.2.2 = true) (hm : (eT E).name = "<init>") (hd : (T j).1 = own) (D : decode cc pc = .ok (.putfield ix, 3)) (kk : AW G E nL (pc + 3) lv st n k w (upr rf a j (some r)) M) : AW G E nL pc lv (.ref r :: .ref a :: st) n k w rf M := by
  refine a_put A C0 hl ha j hj (Or.inl hf) (Or.inr ⟨hfin, hm, hd, hf⟩) D (by rcases ht with ⟨_, h⟩ | ⟨_, h⟩ <;> rw [h] <;> rfl) (by rcases ht with ⟨_, h⟩ | ⟨_, h⟩ <;> rw [h] <;> rfl) (fun i hi => ?_) (fun c hc => ⟨rfl, by simp [upr, hc]⟩) kk
  by_cases e : i = j
  · rw [if_pos e, e]
    have e2 : upr rf a j (some r) a j = some r := by simp [upr]
    rw [e2]
    rcases ht with ⟨_, h⟩ | ⟨_, h⟩ <;> rw [h] <;> rfl
  · rw [if_neg e]
    have e2 : upr rf a j (some r) a i = rf a i := by simp [upr, e]
    rw [e2]
/-! arrays -/
theorem a_iaload (A : Am G E cc nL own n0 d kc wc) {a len : Nat} {i : Int} (D : decode cc pc = .ok (.iaload, 1)) (hl : ly a = (6, len)) (ha : a < n) (hb : len ≤ 100) (hi : 0 ≤ i ∧ i < len) {x : Int} (hv : M a i.toNat = x) (kk : AW G E nL (pc + 1) lv (vi x :: st) n k w rf M) : AW G E nL pc lv (vi i :: .ref a :: st) n k w rf M := by
  intro H locs ls hP hS hL
  have he : (wl G n rf M)[a]? = some (gz G + a, .inl (G.2.1 6, len, .inl (fun j => Int32.ofInt (M a j)))) := by
    rw [wl_get ha]; unfold ce; rw [hl]; rfl
  refine va_iald A.1 A.2.1 A.2.2.2.2.1.1 hP a 0 he rfl (i32_in hi.1 hi.2 (by omega)) D ?_
  rw [i32_cl hi.1 (by omega), hv]
  exact kk H locs ls hP hS hL
theorem a_baload (A : Am G E cc nL own n0 d kc wc) {a len : Nat} {i : Int} (D : decode cc pc = .ok (.baload, 1)) (hl : ly a = (8, len)) (ha : a < n) (hb : len ≤ 100) (hi : 0 ≤ i ∧ i < len) {x : Int} (hv : M a i.toNat = x) (kk : AW G E nL (pc + 1) lv (vi x :: st) n k w rf M) : AW G E nL pc lv (vi i :: .ref a :: st) n k w rf M := by
  intro H locs ls hP hS hL
  have he : (wl G n rf M)[a]? = some (gz G + a, .inl (G.2.1 8, len, .inl (fun j => Int32.ofInt (M a j)))) := by
    rw [wl_get ha]; unfold ce; rw [hl]; rfl
  refine va_zald A.1 A.2.1 A.2.2.2.2.1.1 hP a 2 he rfl (i32_in hi.1 hi.2 (by omega)) D ?_
  rw [i32_cl hi.1 (by omega), hv]
  exact kk H locs ls hP hS hL
theorem a_laload (A : Am G E cc nL own n0 d kc wc) {a len : Nat} {i : Int} (D : decode cc pc = .ok (.laload, 1)) (hl : ly a = (7, len)) (ha : a < n) (hb : len ≤ 100) (hi : 0 ≤ i ∧ i < len) {x : Int} (hv : M a i.toNat = x) (kk : AW G E nL (pc + 1) lv (vl x :: st) n k w rf M) : AW G E nL pc lv (vi i :: .ref a :: st) n k w rf M := by
  intro H locs ls hP hS hL
  have he : (wl G n rf M)[a]? = some (gz G + a, .inl (G.2.1 7, len, .inr (.inl (fun j => Int64.ofInt (M a j))))) := by
    rw [wl_get ha]; unfold ce; rw [hl]; rfl
  refine va_lald A.1 A.2.1 A.2.2.2.2.1.1 hP a 1 he rfl (i32_in hi.1 hi.2 (by omega)) D ?_
  rw [i32_cl hi.1 (by omega), hv]
  exact kk H locs ls hP hS hL
theorem a_aaload (A : Am G E cc nL own n0 d kc wc) {a len r kd : Nat} {i : Int} (D : decode cc pc = .ok (.aaload, 1)) (hl : ly a = (kd, len)) (hk : kd = 9 ∨ kd = 10) (ha : a < n) (hb : len ≤ 100) (hi : 0 ≤ i ∧ i < len) (hr : rf a i.toNat = some r) (kk : AW G E nL (pc + 1) lv (.ref r :: st) n k w rf M) : AW G E nL pc lv (vi i :: .ref a :: st) n k w rf M := by
  intro H locs ls hP hS hL
  have hin := i32_in hi.1 hi.2 (by omega)
  have hlt : (Int32.ofInt i).toNatClampNeg < len := Nat.not_le.mp fun q => hin (Or.inr q)
  have hcl := i32_cl hi.1 (by omega)
  have hv : va_rf ((rf a (Int32.ofInt i).toNatClampNeg).map (fun q => gz G + q)) = .ref (gz G + r) := by rw [hcl, hr]; rfl
  have key : ∀ (cA : ClassId) (t0 : Nat) (ty : FieldType), ty.isReference = true → (tysOf G)[t0]? = some (cA, ty) → (wl G n rf M)[a]? = some (gz G + a, .inl (cA, len, .inr (.inr (.inr (.inr (fun j => (rf a j).map (fun q => gz G + q))))))) → WW E H locs k w (F0 (eM E) pc ls ((vi i :: .ref a :: st).map (cv G))) := by
    intro cA t0 ty hty ht he
    refine W.aald (v := .ref (gz G + r)) (ty := ty) A.1 A.2.1 (hP a _ he) ((A.2.2.2.2.1.1.2 t0 _ ht).1 len (fun j => va_rf ((rf a j).map (fun q => gz G + q)))) hty (fun q => by cases q) (by show ¬ (Int32.ofInt i < 0 ∨ (arrV _ _ _).slots.size ≤ _); rw [arrV_size]; exact hin) (by show (arrV _ _ _).slots[_]? = _; rw [arrV_read _ _ hlt, hv]) rfl rfl D ?_
    exact kk H locs ls hP hS hL
  rcases hk with rfl | rfl
  · exact key (G.2.1 9) 3 (.object RX1) rfl rfl (by rw [wl_get ha]; unfold ce; rw [hl]; rfl)
  · exact key (G.2.1 10) 4 (.array .int) rfl rfl (by rw [wl_get ha]; unfold ce; rw [hl]; rfl)
theorem upd_of (f : Nat → Int) (j : Nat) (x : Int) : upd (fun i => Int32.ofInt (f i)) j (Int32.ofInt x) = fun i => Int32.ofInt (if i = j then x else f i) := by
  funext i
  by_cases h : i = j
  · simp [upd, h]
  · simp [upd, h]
theorem updL_of (f : Nat → Int) (j : Nat) (x : Int) : vp_updL (fun i => Int64.ofInt (f i)) j (Int64.ofInt x) = fun i => Int64.ofInt (if i = j then x else f i) := by
  funext i
  by_cases h : i = j
  · simp [vp_updL, h]
  · simp [vp_updL, h]
theorem a_iastore (A : Am G E cc nL own n0 d kc wc) {a len : Nat} {i x : Int} (D : decode cc pc = .ok (.iastore, 1)) (hl : ly a = (6, len)) (ha : a < n) (hb : len ≤ 100) (hi : 0 ≤ i ∧ i < len) {j : Nat} (hj : i.toNat = j) (kk : AW G E nL (pc + 1) lv st n k w rf (up2 M a j x)) : AW G E nL pc lv (vi x :: vi i :: .ref a :: st) n k w rf M := by
  subst hj
  intro H locs ls hP hS hL
  have he : (wl G n rf M)[a]? = some (gz G + a, .inl (G.2.1 6, len, .inl (fun j => Int32.ofInt (M a j)))) := by
    rw [wl_get ha]; unfold ce; rw [hl]; rfl
  refine va_iast A.1 A.2.1 A.2.2.2.2.1.1 hP wl_D hS a 0 he rfl (i32_in hi.1 hi.2 (by omega)) D (fun H1 locs1 hP1 _ hS1 => ?_)
  rw [i32_cl hi.1 (by omega), upd_of, wl_set (rf' := rf) (M' := up2 M a i.toNat x) (by unfold ce; rw [hl]; simp only [ceK, up2_in]) (fun c hc => ce_same (up2_ne _ _ _ _ hc) rfl)] at hP1
  exact kk H1 locs1 ls hP1 hS1 hL
theorem a_lastore (A : Am G E cc nL own n0 d kc wc) {a len : Nat} {i x : Int} (D : decode cc pc = .ok (.lastore, 1)) (hl : ly a = (7, len)) (ha : a < n) (hb : len ≤ 100) (hi : 0 ≤ i ∧ i < len) {j : Nat} (hj : i.toNat = j) (kk : AW G E nL (pc + 1) lv st n k w rf (up2 M a j x)) : AW G E nL pc lv (vl x :: vi i :: .ref a :: st) n k w rf M := by
  subst hj
  intro H locs ls hP hS hL
  have he : (wl G n rf M)[a]? = some (gz G + a, .inl (G.2.1 7, len, .inr (.inl (fun j => Int64.ofInt (M a j))))) := by
    rw [wl_get ha]; unfold ce; rw [hl]; rfl
  refine va_last A.1 A.2.1 A.2.2.2.2.1.1 hP wl_D hS a 1 he rfl (i32_in hi.1 hi.2 (by omega)) D (fun H1 locs1 hP1 _ hS1 => ?_)
  rw [i32_cl hi.1 (by omega), updL_of, wl_set (rf' := rf) (M' := up2 M a i.toNat x) (by unfold ce; rw [hl]; simp only [ceK, up2_in]) (fun c hc => ce_same (up2_ne _ _ _ _ hc) rfl)] at hP1
  exact kk H1 locs1 ls hP1 hS1 hL
theorem a_bastore (A : Am G E cc nL own n0 d kc wc) {a len : Nat} {i x : Int} (D : decode cc pc = .ok (.bastore, 1)) (hl : ly a = (8, len)) (ha : a < n) (hb : len ≤ 100) (hi : 0 ≤ i ∧ i < len) {j : Nat} (hj : i.toNat = j) (hx : x = 0 ∨ x = 1) (kk : AW G E nL (pc + 1) lv st n k w rf (up2 M a j x)) : AW G E nL pc lv (vi x :: vi i :: .ref a :: st) n k w rf M := by
  subst hj
  intro H locs ls hP hS hL
  have he : (wl G n rf M)[a]? = some (gz G + a, .inl (G.2.1 8, len, .inl (fun j => Int32.ofInt (M a j)))) := by
    rw [wl_get ha]; unfold ce; rw [hl]; rfl
  refine va_zast A.1 A.2.1 A.2.2.2.2.1.1 hP wl_D hS a 2 he rfl (i32_in hi.1 hi.2 (by omega)) D (fun H1 locs1 hP1 _ hS1 => ?_)
  have hx2 : vp_nar .boolean (Int32.ofInt x) = Int32.ofInt x := by rcases hx with rfl | rfl <;> decide
  rw [hx2, i32_cl hi.1 (by omega), upd_of, wl_set (rf' := rf) (M' := up2 M a i.toNat x) (by unfold ce; rw [hl]; simp only [ceK, up2_in]) (fun c hc => ce_same (up2_ne _ _ _ _ hc) rfl)] at hP1
  exact kk H1 locs1 ls hP1 hS1 hL
end AHR
end
section
/-! contracts, calls, returns -/
def rmA (d kc wc : Nat) : Room := { frames := d, cells := kc, slots := wc, locals := 60 * d }
def PcA (G : GG) (av : List Value) (n : Nat) (rf : RF) (M : MM) : Array Value → State → Prop := va_Pc (av.map (cv G)) (fun U => U.heap.size = gz G + n ∧ va_P G.1 vwCl (wl G n rf M) U.heap ∧ KK G U)
def QcA (G : GG) (n : Nat) (Post : Option Value → RF → MM → Prop) : Array Value → State → Outcome → State → Prop := fun _ st oc t => (∃ (r : Option Value) (rf' : RF) (M' : MM), oc = .returned (r.map (cv G)) ∧ Post r rf' M' ∧ va_P G.1 vwCl (wl G n rf' M') t.heap) ∧ va_F (fun q => gz G ≤ q) st t
/-- a method's contract: from n cells with rf and M, called with av, at most d frames deep, it makes kc cells of wc slots and ends with Post -/
def CT (G : GG) (l : Launch) (y : MethodName) (cc : ByteArray) (mL : Nat) (ret : Option FieldType) (d kc wc : Nat) (av : List Value) (n : Nat) (rf : RF) (M : MM) (Post : Option Value → RF → MM → Prop) : Prop :=
  Met l y [Cond.code y cc mL ret] (rmA d kc wc) (PcA G av n rf M) (QcA G (n + kc) Post) kc wc (fun q => gz G ≤ q)
def RT (E : EE) (G : GG) (y : MethodName) (n kc wc : Nat) (ret : Option FieldType) (Post : Option Value → RF → MM → Prop) : Prop := eQ E = MQ (eB E) (QcA G n Post) (eA E) (eS E) kc wc (fun q => gz G ≤ q) ∧ (eT E).sig.returnType = ret ∧ (eT E).locks = false ∧ (eT E).name = y.name
theorem KK.moved {G : GG} {s U : State} (hW : s.WarmedH U.vm) (h : KK G s) : KK G U := ⟨va_K.moved hW.alike h.1, h.2.warm hW⟩
theorem CT.intro {G : GG} {l : Launch} {y : MethodName} {cc : ByteArray} {mL : Nat} {ret : Option FieldType} {d kc wc : Nat} {av : List Value} {n : Nat} {rf : RF} {M : MM} {Post : Option Value → RF → MM → Prop} (hy : plainName y.cls = true) (hlen : (lvx av).length ≤ mL)
    (body : ∀ E : EE, eL E = l → Am G E cc mL y.cls n d kc wc → RT E G y (n + kc) kc wc ret Post → AW G E mL 0 (lv0 mL av) [] n 0 0 rf M) : CT G l y cc mL ret d kc wc av n rf M Post := by
  refine Met.ofW (cc := cc) (maxL := mL) (ret := ret) hy rfl ?_
  intro p e s m args below meth c s₁ B hml hv
  obtain ⟨rfl, hsz, hP, hK⟩ := hv
  have hown : s.vm.findClass y.cls = some m.cls := findClass_of_methodNamed B.named
  rw [lg_entry_eq]
  exact body (p, l, e, rmA d kc wc, s, m, _, below, meth, c, _) rfl ⟨B.exec, B.bytes, hml, hown, hK, hsz, Nat.le_refl _, Nat.le_refl _, Nat.le_refl _, Nat.le_refl _⟩ ⟨rfl, B.returns, B.notSynchronized, (name_of_methodNamed B.named B.method).1⟩ s.heap [] _ hP va_S.rf (LH.entry G av mL hlen)
def MI (y : MethodName) (cy : ByteArray) (mL : Nat) (ret : Option FieldType) (na : Nat) : Prop := Cond.code y cy mL ret ∈ lw_tbl ∧ Cond.initialized y.cls ∈ lw_tbl ∧ y.cls ≠ "java/lang/invoke/MethodHandle" ∧ y.cls ≠ "java/lang/invoke/VarHandle" ∧ (parseMethodDescriptor y.desc).map (fun d => d.parameters.length) = some na ∧ mL ≤ 41
def MV (y : MethodName) : Prop := Cond.instanceMethod y ∈ lw_tbl ∧ Cond.selects y.cls y y ∈ lw_tbl
def CS (own : String) (ix : Nat) (y : MethodName) : Prop := Cond.methodLink own ix y ∈ lw_tbl ∨ Cond.methodLinkNest own ix y RX4 ∈ lw_tbl
section ACR
variable {G : GG} {E : EE} {cc : ByteArray} {nL : Nat} {own : String} {n0 d kc wc pc : Nat} {lv st : List Value} {n k w : Nat} {rf : RF} {M : MM}
theorem a_size (A : Am G E cc nL own n0 d kc wc) (hn : n = n0 + k) (kk : ∀ (H : Heap) (locs : List Loc) (ls : Array Slot), va_P G.1 vwCl (wl G n rf M) H → va_S (fun q => gz G ≤ q) (eS E).heap H locs → LH G ls nL lv → H.size = gz G + n → WW E H locs k w (F0 (eM E) pc ls (st.map (cv G)))) : AW G E nL pc lv st n k w rf M := by
  intro H locs ls hP hS hL T hT X
  have h1 : H.size ≤ (eS E).heap.size + k := by rw [← hT]; exact X.heapSize
  have h2 : gz G + n ≤ H.size := by
    rcases Nat.eq_zero_or_pos n with h0 | h0
    · have := hS.1
      rw [A.2.2.2.2.2.1] at this
      omega
    · have := (hP (n - 1) _ (wl_get (by omega))).lt
      dsimp only at this
      omega
  rw [A.2.2.2.2.2.1] at h1
  exact kk H locs ls hP hS hL (by omega) T hT X
theorem PcA.blind (av : List Value) : FrameBlind (PcA G av n rf M) := by
  intro a U g mk q
  obtain ⟨q0, q1, q2, q3, q4⟩ := q
  exact ⟨q0, q1, q2, va_K.moved (u := U) (U := U.calling g mk a) (Vm.Alike.refl U.vm) q3, TB.same (u := U) (U := U.calling g mk a) (show U.vm = (U.calling g mk a).vm from rfl) q4⟩
theorem PcA.at (A : Am G E cc nL own n0 d kc wc) {av : List Value} {H : Heap} (hP : va_P G.1 vwCl (wl G n rf M) H) (hz : H.size = gz G + n) : ∀ U : State, U.heap = H → (eS E).WarmedH U.vm → PcA G av n rf M (av.map (cv G)).toArray U := by
  intro U hU hW
  exact ⟨rfl, by rw [hU]; exact hz, by rw [hU]; exact hP, KK.moved hW A.2.2.2.2.1⟩
theorem a_run (A : Am G E cc nL own n0 d kc wc) (hn : n = n0 + k) {kc' wc' : Nat} {rest : List Value} {Post : Option Value → RF → MM → Prop} {a : Array Value}
    (hr : ∀ (H : Heap) (locs : List Loc) (ls : Array Slot), va_P G.1 vwCl (wl G n rf M) H → LH G ls nL lv → H.size = gz G + n → va_Run (eP E) (eL E) (eE E) (eR E) (eS E) (eM E) (eA E) (eB E) (eT E) (eC E) H locs k w kc' wc' (F0 (eM E) pc ls (st.map (cv G))) (rest.map (cv G)) (QcA G (n + kc') Post a) (fun q => gz G ≤ q))
    (kk : ∀ (r : Option Value) (rf' : RF) (M' : MM), Post r rf' M' → AW G E nL (pc + 3) lv (r.toList ++ rest) (n + kc') (k + kc') (w + wc') rf' M') : AW G E nL pc lv st n k w rf M := by
  refine a_size A hn (fun H locs ls hP hS hL hz T hT X => ?_)
  obtain ⟨v, st₀, t, T', L, h0, X', hL2, e1, e2, ⟨⟨r, rf', M', hv, hp, hb⟩, hz2, hk2⟩, go⟩ := hr H locs ls hP hL hz T hT X
  cases hv
  rw [h0] at hz2 hk2
  have hS' : va_S (fun q => gz G ≤ q) (eS E).heap T'.heap (locs ++ L) := ⟨Nat.le_trans hS.1 (by rw [e1]; exact hz2), fun q h1 h2 => by rw [e1, hk2 q (Nat.lt_of_lt_of_le h1 hS.1) h2]; exact hS.2.1 q h1 h2, fun q hq => by
    rcases List.mem_append.mp hq with h | h
    · exact hS.2.2 q h
    · exact hL2 q h⟩
  obtain ⟨t2, a1, b1⟩ := kk r rf' M' hp T'.heap (locs ++ L) ls (by rw [e1]; exact hb) hS' hL T' rfl X'
  refine ⟨t2, go t2 ?_, b1⟩
  have e3 : (r.map (cv G)).toList ++ rest.map (cv G) = (r.toList ++ rest).map (cv G) := by
    cases r <;> simp
  show Steps _ _ _ (T'.setTop { F0 (eM E) pc ls (st.map (cv G)) with pc := pc + 3, stack := (r.map (cv G)).toList ++ rest.map (cv G) }) t2
  rw [e3]
  exact a1
theorem code_ok (y : MethodName) (cy : ByteArray) (mL : Nat) (ret : Option FieldType) : okW (Cond.code y cy mL ret) = true := rfl
theorem a_cb (A : Am G E cc nL own n0 d kc wc) {y : MethodName} {cy : ByteArray} {mL : Nat} {ret : Option FieldType} {na d' kc' wc' : Nat} (I : MI y cy mL ret na) (hd : d' + 1 ≤ d) :
    ((rmA d' kc' wc').cells = kc' ∧ (rmA d' kc' wc').slots = wc' ∧ (rmA d' kc' wc').frames + 1 ≤ (eR E).frames ∧ 8 + (mL + 11) + (rmA d' kc' wc').locals ≤ (eR E).locals ∧ (∀ w ∈ [Cond.code y cy mL ret], ∀ (a' : Array Value) (U : State), (eS E).WarmedH U.vm → w.before a' U = true) ∧ Cond.code y cy mL ret ∈ [Cond.code y cy mL ret]) ∧
    (Cond.code y cy mL ret).before (eA E) (eS E) = true ∧ (Cond.initialized y.cls).before (eA E) (eS E) = true ∧ (y.cls ≠ "java/lang/invoke/MethodHandle" ∧ y.cls ≠ "java/lang/invoke/VarHandle") ∧ (∀ sig, parseMethodDescriptor y.desc = some sig → na = sig.parameters.length) := by
  obtain ⟨h1, h2, h3, h4, h5, h6⟩ := I
  have hT := A.2.2.2.2.1.2
  have hf := A.2.2.2.2.2.2.1
  have hl := A.2.2.2.2.2.2.2.1
  refine ⟨⟨rfl, rfl, by show d' + 1 ≤ _; omega, by show 8 + (mL + 11) + 60 * d' ≤ _; omega, fun w hw a' U hW => ?_, List.mem_singleton.mpr rfl⟩, hT.use h1 rfl, hT.use h2 rfl, ⟨h3, h4⟩, fun sig h => ?_⟩
  · rw [List.mem_singleton.mp hw]
    exact (hT.warm hW).use h1 rfl
  · rw [h] at h5
    exact (Option.some.inj h5).symm
theorem a_invV (A : Am G E cc nL own n0 d kc wc) (hn : n = n0 + k) {y : MethodName} {cy : ByteArray} {mL : Nat} {ret : Option FieldType} {na d' kc' wc' a ci N len ix : Nat} {T : u_T} {ty : Nat → FieldType} {As rest : List Value} {Post : Option Value → RF → MM → Prop}
    (hM : CT G (eL E) y cy mL ret d' kc' wc' (.ref a :: As) n rf M Post) (hd : d' + 1 ≤ d) (I : MI y cy mL ret na) (V : MV y) (hs : CS own ix y) (C0 : CF ci y.cls T N ty) (hl : ly a = (ci, len)) (ha : a < n) (hlen : As.length = na) (D : decode cc pc = .ok (.invokevirtual ix, 3)) (hst : st = As.reverse ++ .ref a :: rest) (hrest : (rest.map fun v => v.category).sum ≤ 8) (hk : k + kc' ≤ kc ∧ w + wc' ≤ wc)
    (kk : ∀ (r : Option Value) (rf' : RF) (M' : MM), Post r rf' M' → AW G E nL (pc + 3) lv (r.toList ++ rest) (n + kc') (k + kc') (w + wc') rf' M') : AW G E nL pc lv st n k w rf M := by
  refine a_run A hn (a := ((Value.ref a :: As).map (cv G)).toArray) (rest := rest) (fun H locs ls hP hL hz => ?_) kk
  obtain ⟨c1, c2, c3, c4, -, -, -⟩ := C0
  have he : (wl G n rf M)[a]? = some (gz G + a, .inr (ci, (List.range N).map (fun j => fv (ty j) (M a j) (rf a j) (gz G)))) := by
    rw [wl_get ha, ce_obj hl c4, c2, c3]
  have hrecv := va_recv A.2.2.2.2.1.1 hP c1 he
  obtain ⟨b1, b2, b3, b4, b5⟩ := a_cb (kc' := kc') (wc' := wc') A I hd
  have hT := A.2.2.2.2.1.2
  have hi : (Cond.instanceMethod y).before (eA E) (eS E) = true := hT.use V.1 rfl
  have hsel : (Cond.selects y.cls y y).before (eA E) (eS E) = true := hT.use V.2 rfl
  have hcells : k + kc' ≤ (eR E).cells ∧ w + wc' ≤ (eR E).slots := ⟨Nat.le_trans hk.1 A.2.2.2.2.2.2.2.2.1, Nat.le_trans hk.2 A.2.2.2.2.2.2.2.2.2⟩
  have hstack : (F0 (eM E) pc ls (st.map (cv G))).stack = (As.map (cv G)).reverse ++ .ref (gz G + a) :: rest.map (cv G) := by
    subst hst
    show (As.reverse ++ .ref a :: rest).map (cv G) = _
    rw [List.map_append, List.map_reverse]
    rfl
  have hroom : 2 * (F0 (eM E) pc ls (st.map (cv G))).monitorRoom + ((rest.map (cv G)).map fun v => v.category).sum ≤ 8 := by
    rw [cv_sum]
    show 2 * 0 + _ ≤ 8
    omega
  rcases hs with hs | hs
  · exact va_runV (Ts := []) (As := As.map (cv G)) ⟨A.1, A.2.1, A.2.2.1, A.2.2.2.1, fun _ h => by cases h⟩ hM ⟨⟨b1.1, b1.2.1, b1.2.2.1, b1.2.2.2.1, b1.2.2.2.2.1, b1.2.2.2.2.2, b2, b3, b4, b5, hT.use hs rfl⟩, hi, hsel⟩ ⟨PcA.blind _, hrecv, PcA.at A hP hz⟩ rfl (by simp [hlen]) hL.1 hstack hroom D hcells
  · exact va_runVN (Ts := []) (As := As.map (cv G)) ⟨A.1, A.2.1, A.2.2.1, A.2.2.2.1, fun _ h => by cases h⟩ hM ⟨⟨b1, b2, b3, b4, b5, hT.use hs rfl⟩, hi, hsel⟩ ⟨PcA.blind _, hrecv, PcA.at A hP hz⟩ rfl (by simp [hlen]) hL.1 hstack hroom D hcells
theorem a_invS (A : Am G E cc nL own n0 d kc wc) (hn : n = n0 + k) {y : MethodName} {cy : ByteArray} {mL : Nat} {ret : Option FieldType} {na d' kc' wc' ix : Nat} {As rest : List Value} {Post : Option Value → RF → MM → Prop}
    (hM : CT G (eL E) y cy mL ret d' kc' wc' As n rf M Post) (hd : d' + 1 ≤ d) (I : MI y cy mL ret na) (V : Cond.static y ∈ lw_tbl) (hs : CS own ix y) (hlen : As.length = na) (D : decode cc pc = .ok (.invokestatic ix, 3)) (hst : st = As.reverse ++ rest) (hrest : (rest.map fun v => v.category).sum ≤ 8) (hk : k + kc' ≤ kc ∧ w + wc' ≤ wc)
    (kk : ∀ (r : Option Value) (rf' : RF) (M' : MM), Post r rf' M' → AW G E nL (pc + 3) lv (r.toList ++ rest) (n + kc') (k + kc') (w + wc') rf' M') : AW G E nL pc lv st n k w rf M := by
  refine a_run A hn (a := (As.map (cv G)).toArray) (rest := rest) (fun H locs ls hP hL hz => ?_) kk
  obtain ⟨b1, b2, b3, b4, b5⟩ := a_cb (kc' := kc') (wc' := wc') A I hd
  have hT := A.2.2.2.2.1.2
  have hi : (Cond.static y).before (eA E) (eS E) = true := hT.use V rfl
  have hcells : k + kc' ≤ (eR E).cells ∧ w + wc' ≤ (eR E).slots := ⟨Nat.le_trans hk.1 A.2.2.2.2.2.2.2.2.1, Nat.le_trans hk.2 A.2.2.2.2.2.2.2.2.2⟩
  have hstack : (F0 (eM E) pc ls (st.map (cv G))).stack = (As.map (cv G)).reverse ++ rest.map (cv G) := by
    subst hst
    show (As.reverse ++ rest).map (cv G) = _
    rw [List.map_append, List.map_reverse]
  have hroom : 2 * (F0 (eM E) pc ls (st.map (cv G))).monitorRoom + ((rest.map (cv G)).map fun v => v.category).sum ≤ 8 := by
    rw [cv_sum]
    show 2 * 0 + _ ≤ 8
    omega
  rcases hs with hs | hs
  · exact va_runS (Ts := []) (As := As.map (cv G)) ⟨A.1, A.2.1, A.2.2.1, A.2.2.2.1, fun _ h => by cases h⟩ hM ⟨⟨b1.1, b1.2.1, b1.2.2.1, b1.2.2.2.1, b1.2.2.2.2.1, b1.2.2.2.2.2, b2, b3, b4, b5, hT.use hs rfl⟩, hi⟩ ⟨PcA.blind _, PcA.at A hP hz⟩ rfl (by simp [hlen]) hL.1 hstack hroom D hcells
  · exact va_runSN (Ts := []) (As := As.map (cv G)) ⟨A.1, A.2.1, A.2.2.1, A.2.2.2.1, fun _ h => by cases h⟩ hM ⟨⟨b1, b2, b3, b4, b5, hT.use hs rfl⟩, hi, trivial⟩ ⟨PcA.blind _, PcA.at A hP hz⟩ rfl (by simp [hlen]) hL.1 hstack hroom D hcells
theorem a_invI (A : Am G E cc nL own n0 d kc wc) (hn : n = n0 + k) {y : MethodName} {cy : ByteArray} {mL : Nat} {na d' kc' wc' a ix : Nat} {As rest : List Value} {Post : Option Value → RF → MM → Prop}
    (hM : CT G (eL E) y cy mL none d' kc' wc' (.ref a :: As) n rf M Post) (hd : d' + 1 ≤ d) (I : MI y cy mL none na) (V : Cond.instanceMethod y ∈ lw_tbl) (hy : y.name = "<init>") (hs : CS own ix y) (hlen : As.length = na) (D : decode cc pc = .ok (.invokespecial ix, 3)) (hst : st = As.reverse ++ .ref a :: rest) (hrest : (rest.map fun v => v.category).sum ≤ 8) (hk : k + kc' ≤ kc ∧ w + wc' ≤ wc)
    (kk : ∀ (r : Option Value) (rf' : RF) (M' : MM), Post r rf' M' → AW G E nL (pc + 3) lv (r.toList ++ rest) (n + kc') (k + kc') (w + wc') rf' M') : AW G E nL pc lv st n k w rf M := by
  refine a_run A hn (a := ((Value.ref a :: As).map (cv G)).toArray) (rest := rest) (fun H locs ls hP hL hz => ?_) kk
  obtain ⟨b1, b2, b3, b4, b5⟩ := a_cb (kc' := kc') (wc' := wc') A I hd
  have hT := A.2.2.2.2.1.2
  have hi : (Cond.instanceMethod y).before (eA E) (eS E) = true := hT.use V rfl
  have hcells : k + kc' ≤ (eR E).cells ∧ w + wc' ≤ (eR E).slots := ⟨Nat.le_trans hk.1 A.2.2.2.2.2.2.2.2.1, Nat.le_trans hk.2 A.2.2.2.2.2.2.2.2.2⟩
  have hstack : (F0 (eM E) pc ls (st.map (cv G))).stack = (As.map (cv G)).reverse ++ .ref (gz G + a) :: rest.map (cv G) := by
    subst hst
    show (As.reverse ++ .ref a :: rest).map (cv G) = _
    rw [List.map_append, List.map_reverse]
    rfl
  have hroom : 2 * (F0 (eM E) pc ls (st.map (cv G))).monitorRoom + ((rest.map (cv G)).map fun v => v.category).sum ≤ 8 := by
    rw [cv_sum]
    show 2 * 0 + _ ≤ 8
    omega
  rcases hs with hs | hs
  · exact va_runI (Ts := []) (As := As.map (cv G)) ⟨A.1, A.2.1, A.2.2.1, A.2.2.2.1, fun _ h => by cases h⟩ hM ⟨⟨b1.1, b1.2.1, b1.2.2.1, b1.2.2.2.1, b1.2.2.2.2.1, b1.2.2.2.2.2, b2, b3, b4, b5, hT.use hs rfl⟩, hy, hi⟩ ⟨PcA.blind _, PcA.at A hP hz⟩ rfl (by simp [hlen]) hL.1 hstack hroom D hcells
  · exact va_runIN (Ts := []) (As := As.map (cv G)) ⟨A.1, A.2.1, A.2.2.1, A.2.2.2.1, fun _ h => by cases h⟩ hM ⟨⟨b1, b2, b3, b4, b5, hT.use hs rfl⟩, hy, hi⟩ ⟨PcA.blind _, PcA.at A hP hz⟩ rfl (by simp [hlen]) hL.1 hstack hroom D hcells
/-! returns -/
theorem a_ret {y : MethodName} {ret : Option FieldType} {Post : Option Value → RF → MM → Prop} (T0 : RT E G y n kc wc ret Post) {r : Option Value} (hp : Post r rf M) {pc0 : Nat} {st0 : List Value}
    (go : ∀ (H : Heap) (locs : List Loc) (ls : Array Slot), (∀ t : State, t.heap = H → (eS E).WarmedH t.vm → QcA G n Post (eA E) (eS E) (.returned (r.map (cv G))) t) → (∀ q ∈ locs, gz G ≤ q.base) → W (eP E) (eL E) (eE E) (eR E) (eS E) (eM E) (eA E) (eB E) (eT E) (eC E) H locs kc wc (MQ (eB E) (QcA G n Post) (eA E) (eS E) kc wc (fun q => gz G ≤ q)) (F0 (eM E) pc0 ls st0)) (hst : st.map (cv G) = st0) : AW G E nL pc0 lv st n kc wc rf M := by
  intro H locs ls hP hS hL
  rw [hst]
  show W _ _ _ _ _ _ _ _ _ _ _ _ _ _ (eQ E) _
  rw [T0.1]
  exact go H locs ls (fun t ht hW => ⟨⟨r, rf, M, rfl, hp, by rw [ht]; exact hP⟩, hS.F ht⟩) hS.2.2
theorem a_ireturn (A : Am G E cc nL own n0 d kc wc) {y : MethodName} {Post : Option Value → RF → MM → Prop} (T0 : RT E G y n kc wc (some .int) Post) {z : Int} (D : decode cc pc = .ok (.ireturn, 1)) (hp : Post (some (vi z)) rf M) : AW G E nL pc lv [vi z] n kc wc rf M :=
  a_ret T0 hp (fun _ _ _ hq hf => W.iret A.1 A.2.1 T0.2.1 hq hf D T0.2.2.1) rfl
theorem a_zreturn (A : Am G E cc nL own n0 d kc wc) {y : MethodName} {Post : Option Value → RF → MM → Prop} (T0 : RT E G y n kc wc (some .boolean) Post) {z : Int} (D : decode cc pc = .ok (.ireturn, 1)) (hz : z = 0 ∨ z = 1) (hp : Post (some (vi z)) rf M) : AW G E nL pc lv [vi z] n kc wc rf M :=
  a_ret T0 hp (fun _ _ _ hq hf => W.zret A.1 A.2.1 T0.2.1 (by rcases hz with rfl | rfl <;> rfl) hq hf D T0.2.2.1) rfl
theorem a_lreturn (A : Am G E cc nL own n0 d kc wc) {y : MethodName} {Post : Option Value → RF → MM → Prop} (T0 : RT E G y n kc wc (some .long) Post) {z : Int} (D : decode cc pc = .ok (.lreturn, 1)) (hp : Post (some (vl z)) rf M) : AW G E nL pc lv [vl z] n kc wc rf M :=
  a_ret T0 hp (fun _ _ _ hq hf => W.lret A.1 A.2.1 T0.2.1 hq hf D T0.2.2.1) rfl
theorem a_areturn (A : Am G E cc nL own n0 d kc wc) {y : MethodName} {Post : Option Value → RF → MM → Prop} {t : FieldType} (T0 : RT E G y n kc wc (some (.array t)) Post) {z : Nat} (D : decode cc pc = .ok (.areturn, 1)) (hp : Post (some (.ref z)) rf M) : AW G E nL pc lv [.ref z] n kc wc rf M :=
  a_ret T0 hp (fun _ _ _ hq hf => W.aret A.1 A.2.1 T0.2.1 (Or.inr ⟨_, rfl⟩) (Or.inr ⟨_, rfl⟩) hq hf D T0.2.2.1) rfl
theorem a_return (A : Am G E cc nL own n0 d kc wc) {y : MethodName} {Post : Option Value → RF → MM → Prop} (T0 : RT E G y n kc wc none Post) (D : decode cc pc = .ok (.return_, 1)) (hp : Post none rf M) : AW G E nL pc lv [] n kc wc rf M :=
  a_ret T0 hp (fun _ _ _ hq hf => W.vret A.1 A.2.1 T0.2.1 hq hf D T0.2.2.1) rfl
end ACR
end
section
/-! Math.max, Math.abs, System.arraycopy, switches, the script -/
section AMR
variable {G : GG} {E : EE} {cc : ByteArray} {nL : Nat} {own : String} {n0 d kc wc pc : Nat} {lv st : List Value} {n k w : Nat} {rf : RF} {M : MM}
theorem a_max (A : Am G E cc nL own n0 d kc wc) {ix : Nat} {x y : Int} (hw : Cond.methodLink own ix Lib.Math.max.name ∈ lw_tbl) (h1 : Cond.static Lib.Math.max.name ∈ lw_tbl) (h2 : Cond.initialized "java/lang/Math" ∈ lw_tbl) (h3 : Cond.code Lib.Math.max.name Lib.Math.max.code 2 (some .int) ∈ lw_tbl) (D : decode cc pc = .ok (.invokestatic ix, 3)) (hd : 1 ≤ d) (hk : k ≤ kc ∧ w ≤ wc) (hrest : (st.map fun v => v.category).sum ≤ 8) (hx : I32 x) (hy : I32 y)
    (kk : AW G E nL (pc + 3) lv (vi (if x < y then y else x) :: st) n k w rf M) : AW G E nL pc lv (vi y :: vi x :: st) n k w rf M := by
  intro H locs ls hP hS hL
  have hT := A.2.2.2.2.1.2
  have hf := A.2.2.2.2.2.2.1
  have hlo := A.2.2.2.2.2.2.2.1
  refine va_mmax A.1 A.2.1 (by rw [hL.1]; exact A.2.2.1) A.2.2.2.1 (hT.use hw rfl) (hT.use h1 rfl) (hT.use h2 rfl) (hT.use h3 rfl) (by omega) (by rw [cv_sum]; omega) (Nat.le_trans hk.1 A.2.2.2.2.2.2.2.2.1) (Nat.le_trans hk.2 A.2.2.2.2.2.2.2.2.2) D ?_
  have e : (if Int32.ofInt x < Int32.ofInt y then Int32.ofInt y else Int32.ofInt x) = Int32.ofInt (if x < y then y else x) := by
    by_cases h : x < y
    · rw [if_pos h, if_pos ((i32_lt hx hy).mpr h)]
    · rw [if_neg h, if_neg (fun q => h ((i32_lt hx hy).mp q))]
  rw [e]
  exact kk H locs ls hP hS hL
theorem a_abs (A : Am G E cc nL own n0 d kc wc) {ix : Nat} {x : Int} (hw : Cond.methodLink own ix Lib.MathLoose.abs_long.x ∈ lw_tbl) (h1 : Cond.static Lib.MathLoose.abs_long.x ∈ lw_tbl) (h2 : Cond.initialized "java/lang/Math" ∈ lw_tbl) (h3 : Cond.code Lib.MathLoose.abs_long.x Lib.MathLoose.abs_long.code 2 (some .long) ∈ lw_tbl) (D : decode cc pc = .ok (.invokestatic ix, 3)) (hd : 1 ≤ d) (hk : k ≤ kc ∧ w ≤ wc) (hrest : (st.map fun v => v.category).sum ≤ 8) (hx : I64 x)
    (kk : AW G E nL (pc + 3) lv (vl (x.natAbs : Int) :: st) n k w rf M) : AW G E nL pc lv (vl x :: st) n k w rf M := by
  intro H locs ls hP hS hL
  have hT := A.2.2.2.2.1.2
  have hf := A.2.2.2.2.2.2.1
  have hlo := A.2.2.2.2.2.2.2.1
  refine va_mabs_long A.1 A.2.1 (by rw [hL.1]; exact A.2.2.1) A.2.2.2.1 (hT.use hw rfl) (hT.use h1 rfl) (hT.use h2 rfl) (hT.use h3 rfl) (by omega) (by rw [cv_sum]; omega) (Nat.le_trans hk.1 A.2.2.2.2.2.2.2.2.1) (Nat.le_trans hk.2 A.2.2.2.2.2.2.2.2.2) D ?_
  have e : (if 0 < Int64.ofInt x then Int64.ofInt x else -Int64.ofInt x) = Int64.ofInt (x.natAbs : Int) := by
    have h0 : (0 : Int64) < Int64.ofInt x ↔ 0 < x := i64_lt (x := 0) (by omega) hx
    by_cases h : 0 < x
    · rw [if_pos (h0.mpr h)]
      congr 1
      omega
    · rw [if_neg (fun q => h (h0.mp q)), ← Int64.ofInt_neg]
      congr 1
      omega
  rw [e]
  exact kk H locs ls hP hS hL
/-- the first m places of a0 into a1 -/
def cp2 (M : MM) (a0 a1 m : Nat) : MM := fun c => if c = a1 then (fun j => if j < m then M a0 j else M c j) else M c
theorem a_copy (A : Am G E cc nL own n0 d kc wc) {ix a0 a1 l0 l1 : Nat} {m : Int} (hw : Cond.methodLink own ix arraycopyName ∈ lw_tbl) (h1 : Cond.native arraycopyName ∈ lw_tbl) (h2 : Cond.static arraycopyName ∈ lw_tbl) (h3 : Cond.initialized "java/lang/System" ∈ lw_tbl) (D : decode cc pc = .ok (.invokestatic ix, 3)) (hd : 1 ≤ d) (hrest : (st.map fun v => v.category).sum ≤ 8) (hl0 : ly a0 = (6, l0)) (ha0 : a0 < n) (hl1 : ly a1 = (6, l1)) (ha1 : a1 < n) (hm : 0 ≤ m ∧ m ≤ l0 ∧ m ≤ l1 ∧ m ≤ 100)
    (kk : AW G E nL (pc + 3) lv st n k w rf (cp2 M a0 a1 m.toNat)) : AW G E nL pc lv (vi m :: vi 0 :: .ref a1 :: vi 0 :: .ref a0 :: st) n k w rf M := by
  intro H locs ls hP hS hL
  have hT := A.2.2.2.2.1.2
  have hf := A.2.2.2.2.2.2.1
  have hlo := A.2.2.2.2.2.2.2.1
  have he0 : (wl G n rf M)[a0]? = some (gz G + a0, .inl (G.2.1 6, l0, .inl (fun j => Int32.ofInt (M a0 j)))) := by
    rw [wl_get ha0]; unfold ce; rw [hl0]; rfl
  have he1 : (wl G n rf M)[a1]? = some (gz G + a1, .inl (G.2.1 6, l1, .inl (fun j => Int32.ofInt (M a1 j)))) := by
    rw [wl_get ha1]; unfold ce; rw [hl1]; rfl
  have hcl : (Int32.ofInt m).toNatClampNeg = m.toNat := i32_cl hm.1 (by omega)
  have h00 : (Int32.ofInt 0).toNatClampNeg = 0 := rfl
  have hmm : ¬ Int32.ofInt m < 0 := fun q => by
    have := (i32_lt (x := m) (y := 0) (by omega) (by omega)).mp q
    omega
  have hnat : nativeFrameWords "java/lang/System" "arraycopy" 5 + 11 ≤ 52 := by decide
  refine va_copyi (ty := .int) A.1 A.2.1 (by rw [hL.1]; exact A.2.2.1) A.2.2.2.1 (hT.use hw rfl) (hT.use h1 rfl) (hT.use h2 rfl) (hT.use h3 rfl) A.2.2.2.2.1.1 hP wl_D hS a0 a1 0 0 he0 he1 rfl rfl rfl (sp := Int32.ofInt 0) (dp := Int32.ofInt 0) (by decide) (by decide) hmm (by rw [h00, hcl]; omega) (by rw [h00, hcl]; omega) (fun _ _ => rfl) (by omega) (by rw [cv_sum]; omega) D (fun H1 locs1 hP1 _ hS1 => ?_)
  rw [h00, hcl, wl_set (rf' := rf) (M' := cp2 M a0 a1 m.toNat) ?_ (fun c hc => ce_same (by simp [cp2, hc]) rfl)] at hP1
  · exact kk H1 locs1 ls hP1 hS1 hL
  · unfold ce
    rw [hl1]
    simp only [ceK, cp2, va_cpy]
    congr 3
    congr 1
    funext j
    by_cases h : j < m.toNat
    · simp [h, va_cpy]
    · simp [h, va_cpy]
theorem a_tswI (A : Am G E cc nL own n0 d kc wc) {dflt lo hi off x : Int} {offs : Array Int} {len tgt : Nat} (D : decode cc pc = .ok (.tableswitch dflt lo hi offs, len)) (hx : I32 x) (h1 : lo ≤ x) (h2 : x ≤ hi) (ho : offs[(x - lo).toNat]? = some off) (ht : (pc : Int) + off = (tgt : Int)) (kk : AW G E nL tgt lv st n k w rf M) : AW G E nL pc lv (vi x :: st) n k w rf M := by
  intro H locs ls hP hS hL
  exact lv_tableIn A.1 A.2.1 D (by rw [i32_t hx]; omega) (by rw [i32_t hx]; omega) (by rw [i32_t hx]; exact ho) ht (kk H locs ls hP hS hL)
theorem a_tswO (A : Am G E cc nL own n0 d kc wc) {dflt lo hi x : Int} {offs : Array Int} {len tgt : Nat} (D : decode cc pc = .ok (.tableswitch dflt lo hi offs, len)) (hx : I32 x) (h1 : x < lo ∨ hi < x) (ht : (pc : Int) + dflt = (tgt : Int)) (kk : AW G E nL tgt lv st n k w rf M) : AW G E nL pc lv (vi x :: st) n k w rf M := by
  intro H locs ls hP hS hL
  exact lv_tableOut A.1 A.2.1 D (by rw [i32_t hx]; exact h1) ht (kk H locs ls hP hS hL)
theorem a_saload (A : Am G E cc nL own n0 d kc wc) {L : Nat} {xs : Nat → Int32} {i : Int} (hX : va_X G.2.2.2 L xs (eS E) (eS E).heap) (hb : G.2.2.2 < gz G) (D : decode cc pc = .ok (.iaload, 1)) (hi : 0 ≤ i ∧ i < L) (hL0 : L ≤ 3072) (kk : AW G E nL (pc + 1) lv (vi (xs i.toNat).toInt :: st) n k w rf M) : AW G E nL pc lv (vi i :: .retAddr 0 :: st) n k w rf M := by
  intro H locs ls hP hS hL
  refine va_sld A.1 A.2.1 hX (by rw [A.2.2.2.2.2.1]; omega) (by show ¬ gz G ≤ _; omega) hS (i32_in hi.1 hi.2 (by omega)) D ?_
  have := kk H locs ls hP hS hL
  rw [i32_cl hi.1 (by omega)]
  have e := (i32_of (xs i.toNat)).1
  rw [e]
  exact this
theorem a_slen (A : Am G E cc nL own n0 d kc wc) {L : Nat} {xs : Nat → Int32} (hX : va_X G.2.2.2 L xs (eS E) (eS E).heap) (hb : G.2.2.2 < gz G) (D : decode cc pc = .ok (.arraylength, 1)) (kk : AW G E nL (pc + 1) lv (vi L :: st) n k w rf M) : AW G E nL pc lv (.retAddr 0 :: st) n k w rf M := by
  intro H locs ls hP hS hL
  refine va_slen A.1 A.2.1 hX (by rw [A.2.2.2.2.2.1]; omega) (by show ¬ gz G ≤ _; omega) hS D ?_
  exact kk H locs ls hP hS hL
end AMR
end
section
theorem tbm {w : Cond} (i : Nat) (h : tables_1[i]? = some w) : w ∈ lw_tbl := List.mem_append_right (k2_sels lw_privs) (List.mem_of_getElem? h)
theorem tbs {w : Cond} (i : Nat) (h : (k2_sels lw_privs)[i]? = some w) : w ∈ lw_tbl := List.mem_append_left tables_1 (List.mem_of_getElem? h)
theorem fl_X1_9 : FL RX1 9 TX1 0 := Or.inl (tbm 25 (by decide +kernel))
theorem fk_X1_9 : Cond.fieldLink RX1 9 (TX1 0).1 (TX1 0).2.1 (TX1 0).2.2.1 ∈ lw_tbl := tbm 25 (by decide +kernel)
theorem fl_X4_55 : FL RX4 55 TX1 0 := Or.inr (tbm 26 (by decide +kernel))
theorem fl_X3_53 : FL RX3 53 TX1 0 := Or.inr (tbm 27 (by decide +kernel))
theorem fl_X1_15 : FL RX1 15 TX1 1 := Or.inl (tbm 28 (by decide +kernel))
theorem fk_X1_15 : Cond.fieldLink RX1 15 (TX1 1).1 (TX1 1).2.1 (TX1 1).2.2.1 ∈ lw_tbl := tbm 28 (by decide +kernel)
theorem fl_X2_68 : FL RX2 68 TX1 1 := Or.inr (tbm 29 (by decide +kernel))
theorem fl_X4_59 : FL RX4 59 TX1 1 := Or.inr (tbm 30 (by decide +kernel))
theorem fl_X3_58 : FL RX3 58 TX1 1 := Or.inr (tbm 31 (by decide +kernel))
theorem fl_X1_20 : FL RX1 20 TX1 2 := Or.inl (tbm 32 (by decide +kernel))
theorem fk_X1_20 : Cond.fieldLink RX1 20 (TX1 2).1 (TX1 2).2.1 (TX1 2).2.2.1 ∈ lw_tbl := tbm 32 (by decide +kernel)
theorem fl_X2_71 : FL RX2 71 TX1 2 := Or.inr (tbm 33 (by decide +kernel))
theorem fl_X4_76 : FL RX4 76 TX1 2 := Or.inr (tbm 34 (by decide +kernel))
theorem fl_X3_61 : FL RX3 61 TX1 2 := Or.inr (tbm 35 (by decide +kernel))
theorem fl_X1_23 : FL RX1 23 TX1 3 := Or.inl (tbm 36 (by decide +kernel))
theorem fk_X1_23 : Cond.fieldLink RX1 23 (TX1 3).1 (TX1 3).2.1 (TX1 3).2.2.1 ∈ lw_tbl := tbm 36 (by decide +kernel)
theorem fl_X4_123 : FL RX4 123 TX1 3 := Or.inr (tbm 37 (by decide +kernel))
theorem fl_X1_27 : FL RX1 27 TX1 4 := Or.inl (tbm 38 (by decide +kernel))
theorem fk_X1_27 : Cond.fieldLink RX1 27 (TX1 4).1 (TX1 4).2.1 (TX1 4).2.2.1 ∈ lw_tbl := tbm 38 (by decide +kernel)
theorem fl_X4_120 : FL RX4 120 TX1 4 := Or.inr (tbm 39 (by decide +kernel))
theorem fl_X0_7 : FL RX0 7 TX0 0 := Or.inl (tbm 65 (by decide +kernel))
theorem fk_X0_7 : Cond.fieldLink RX0 7 (TX0 0).1 (TX0 0).2.1 (TX0 0).2.2.1 ∈ lw_tbl := tbm 65 (by decide +kernel)
theorem fl_X0_13 : FL RX0 13 TX0 1 := Or.inl (tbm 66 (by decide +kernel))
theorem fk_X0_13 : Cond.fieldLink RX0 13 (TX0 1).1 (TX0 1).2.1 (TX0 1).2.2.1 ∈ lw_tbl := tbm 66 (by decide +kernel)
theorem fl_X3_9 : FL RX3 9 TX3 0 := Or.inl (tbm 73 (by decide +kernel))
theorem fk_X3_9 : Cond.fieldLink RX3 9 (TX3 0).1 (TX3 0).2.1 (TX3 0).2.2.1 ∈ lw_tbl := tbm 73 (by decide +kernel)
theorem fl_X3_18 : FL RX3 18 TX3 1 := Or.inl (tbm 74 (by decide +kernel))
theorem fk_X3_18 : Cond.fieldLink RX3 18 (TX3 1).1 (TX3 1).2.1 (TX3 1).2.2.1 ∈ lw_tbl := tbm 74 (by decide +kernel)
theorem fl_X3_22 : FL RX3 22 TX3 2 := Or.inl (tbm 75 (by decide +kernel))
theorem fk_X3_22 : Cond.fieldLink RX3 22 (TX3 2).1 (TX3 2).2.1 (TX3 2).2.2.1 ∈ lw_tbl := tbm 75 (by decide +kernel)
theorem fl_X4_156 : FL RX4 156 TX3 2 := Or.inr (tbm 76 (by decide +kernel))
theorem fl_X3_25 : FL RX3 25 TX3 3 := Or.inl (tbm 77 (by decide +kernel))
theorem fk_X3_25 : Cond.fieldLink RX3 25 (TX3 3).1 (TX3 3).2.1 (TX3 3).2.2.1 ∈ lw_tbl := tbm 77 (by decide +kernel)
theorem fl_X3_28 : FL RX3 28 TX3 4 := Or.inl (tbm 78 (by decide +kernel))
theorem fk_X3_28 : Cond.fieldLink RX3 28 (TX3 4).1 (TX3 4).2.1 (TX3 4).2.2.1 ∈ lw_tbl := tbm 78 (by decide +kernel)
theorem fl_X4_153 : FL RX4 153 TX3 4 := Or.inr (tbm 79 (by decide +kernel))
theorem fl_X3_32 : FL RX3 32 TX3 5 := Or.inl (tbm 80 (by decide +kernel))
theorem fk_X3_32 : Cond.fieldLink RX3 32 (TX3 5).1 (TX3 5).2.1 (TX3 5).2.2.1 ∈ lw_tbl := tbm 80 (by decide +kernel)
theorem fl_X3_35 : FL RX3 35 TX3 6 := Or.inl (tbm 81 (by decide +kernel))
theorem fk_X3_35 : Cond.fieldLink RX3 35 (TX3 6).1 (TX3 6).2.1 (TX3 6).2.2.1 ∈ lw_tbl := tbm 81 (by decide +kernel)
theorem fl_X3_39 : FL RX3 39 TX3 7 := Or.inl (tbm 82 (by decide +kernel))
theorem fk_X3_39 : Cond.fieldLink RX3 39 (TX3 7).1 (TX3 7).2.1 (TX3 7).2.2.1 ∈ lw_tbl := tbm 82 (by decide +kernel)
theorem fl_X4_144 : FL RX4 144 TX3 7 := Or.inr (tbm 83 (by decide +kernel))
theorem fl_X3_42 : FL RX3 42 TX3 8 := Or.inl (tbm 84 (by decide +kernel))
theorem fk_X3_42 : Cond.fieldLink RX3 42 (TX3 8).1 (TX3 8).2.1 (TX3 8).2.2.1 ∈ lw_tbl := tbm 84 (by decide +kernel)
theorem fl_X4_147 : FL RX4 147 TX3 8 := Or.inr (tbm 85 (by decide +kernel))
theorem fl_X2_9 : FL RX2 9 TX2 0 := Or.inl (tbm 112 (by decide +kernel))
theorem fk_X2_9 : Cond.fieldLink RX2 9 (TX2 0).1 (TX2 0).2.1 (TX2 0).2.2.1 ∈ lw_tbl := tbm 112 (by decide +kernel)
theorem fl_X2_15 : FL RX2 15 TX2 1 := Or.inl (tbm 113 (by decide +kernel))
theorem fk_X2_15 : Cond.fieldLink RX2 15 (TX2 1).1 (TX2 1).2.1 (TX2 1).2.2.1 ∈ lw_tbl := tbm 113 (by decide +kernel)
theorem fl_X2_18 : FL RX2 18 TX2 2 := Or.inl (tbm 114 (by decide +kernel))
theorem fk_X2_18 : Cond.fieldLink RX2 18 (TX2 2).1 (TX2 2).2.1 (TX2 2).2.2.1 ∈ lw_tbl := tbm 114 (by decide +kernel)
theorem fl_X2_21 : FL RX2 21 TX2 3 := Or.inl (tbm 115 (by decide +kernel))
theorem fk_X2_21 : Cond.fieldLink RX2 21 (TX2 3).1 (TX2 3).2.1 (TX2 3).2.2.1 ∈ lw_tbl := tbm 115 (by decide +kernel)
theorem fl_X2_24 : FL RX2 24 TX2 4 := Or.inl (tbm 116 (by decide +kernel))
theorem fk_X2_24 : Cond.fieldLink RX2 24 (TX2 4).1 (TX2 4).2.1 (TX2 4).2.2.1 ∈ lw_tbl := tbm 116 (by decide +kernel)
theorem fl_X2_27 : FL RX2 27 TX2 5 := Or.inl (tbm 117 (by decide +kernel))
theorem fk_X2_27 : Cond.fieldLink RX2 27 (TX2 5).1 (TX2 5).2.1 (TX2 5).2.2.1 ∈ lw_tbl := tbm 117 (by decide +kernel)
theorem fl_X2_33 : FL RX2 33 TX2 6 := Or.inl (tbm 118 (by decide +kernel))
theorem fk_X2_33 : Cond.fieldLink RX2 33 (TX2 6).1 (TX2 6).2.1 (TX2 6).2.2.1 ∈ lw_tbl := tbm 118 (by decide +kernel)
theorem fl_X2_36 : FL RX2 36 TX2 7 := Or.inl (tbm 119 (by decide +kernel))
theorem fk_X2_36 : Cond.fieldLink RX2 36 (TX2 7).1 (TX2 7).2.1 (TX2 7).2.2.1 ∈ lw_tbl := tbm 119 (by decide +kernel)
theorem fl_X2_39 : FL RX2 39 TX2 8 := Or.inl (tbm 120 (by decide +kernel))
theorem fk_X2_39 : Cond.fieldLink RX2 39 (TX2 8).1 (TX2 8).2.1 (TX2 8).2.2.1 ∈ lw_tbl := tbm 120 (by decide +kernel)
theorem fl_X2_43 : FL RX2 43 TX2 9 := Or.inl (tbm 121 (by decide +kernel))
theorem fk_X2_43 : Cond.fieldLink RX2 43 (TX2 9).1 (TX2 9).2.1 (TX2 9).2.2.1 ∈ lw_tbl := tbm 121 (by decide +kernel)
theorem fl_X2_47 : FL RX2 47 TX2 10 := Or.inl (tbm 122 (by decide +kernel))
theorem fk_X2_47 : Cond.fieldLink RX2 47 (TX2 10).1 (TX2 10).2.1 (TX2 10).2.2.1 ∈ lw_tbl := tbm 122 (by decide +kernel)
theorem fl_X2_50 : FL RX2 50 TX2 11 := Or.inl (tbm 123 (by decide +kernel))
theorem fk_X2_50 : Cond.fieldLink RX2 50 (TX2 11).1 (TX2 11).2.1 (TX2 11).2.2.1 ∈ lw_tbl := tbm 123 (by decide +kernel)
theorem fl_X2_53 : FL RX2 53 TX2 12 := Or.inl (tbm 124 (by decide +kernel))
theorem fk_X2_53 : Cond.fieldLink RX2 53 (TX2 12).1 (TX2 12).2.1 (TX2 12).2.2.1 ∈ lw_tbl := tbm 124 (by decide +kernel)
theorem fl_X2_56 : FL RX2 56 TX2 13 := Or.inl (tbm 125 (by decide +kernel))
theorem fk_X2_56 : Cond.fieldLink RX2 56 (TX2 13).1 (TX2 13).2.1 (TX2 13).2.2.1 ∈ lw_tbl := tbm 125 (by decide +kernel)
theorem fl_X2_59 : FL RX2 59 TX2 14 := Or.inl (tbm 126 (by decide +kernel))
theorem fk_X2_59 : Cond.fieldLink RX2 59 (TX2 14).1 (TX2 14).2.1 (TX2 14).2.2.1 ∈ lw_tbl := tbm 126 (by decide +kernel)
theorem fl_X2_62 : FL RX2 62 TX2 15 := Or.inl (tbm 127 (by decide +kernel))
theorem fk_X2_62 : Cond.fieldLink RX2 62 (TX2 15).1 (TX2 15).2.1 (TX2 15).2.2.1 ∈ lw_tbl := tbm 127 (by decide +kernel)
theorem fl_X2_65 : FL RX2 65 TX2 16 := Or.inl (tbm 128 (by decide +kernel))
theorem fk_X2_65 : Cond.fieldLink RX2 65 (TX2 16).1 (TX2 16).2.1 (TX2 16).2.2.1 ∈ lw_tbl := tbm 128 (by decide +kernel)
theorem fl_X4_12 : FL RX4 12 TX4 0 := Or.inl (tbm 167 (by decide +kernel))
theorem fk_X4_12 : Cond.fieldLink RX4 12 (TX4 0).1 (TX4 0).2.1 (TX4 0).2.2.1 ∈ lw_tbl := tbm 167 (by decide +kernel)
theorem fl_X4_16 : FL RX4 16 TX4 1 := Or.inl (tbm 168 (by decide +kernel))
theorem fk_X4_16 : Cond.fieldLink RX4 16 (TX4 1).1 (TX4 1).2.1 (TX4 1).2.2.1 ∈ lw_tbl := tbm 168 (by decide +kernel)
theorem fl_X4_20 : FL RX4 20 TX4 2 := Or.inl (tbm 169 (by decide +kernel))
theorem fk_X4_20 : Cond.fieldLink RX4 20 (TX4 2).1 (TX4 2).2.1 (TX4 2).2.2.1 ∈ lw_tbl := tbm 169 (by decide +kernel)
theorem fl_X4_27 : FL RX4 27 TX4 3 := Or.inl (tbm 170 (by decide +kernel))
theorem fk_X4_27 : Cond.fieldLink RX4 27 (TX4 3).1 (TX4 3).2.1 (TX4 3).2.2.1 ∈ lw_tbl := tbm 170 (by decide +kernel)
theorem fl_X4_34 : FL RX4 34 TX4 4 := Or.inl (tbm 171 (by decide +kernel))
theorem fk_X4_34 : Cond.fieldLink RX4 34 (TX4 4).1 (TX4 4).2.1 (TX4 4).2.2.1 ∈ lw_tbl := tbm 171 (by decide +kernel)
theorem fl_X4_41 : FL RX4 41 TX4 5 := Or.inl (tbm 172 (by decide +kernel))
theorem fk_X4_41 : Cond.fieldLink RX4 41 (TX4 5).1 (TX4 5).2.1 (TX4 5).2.2.1 ∈ lw_tbl := tbm 172 (by decide +kernel)
theorem fl_X4_45 : FL RX4 45 TX4 6 := Or.inl (tbm 173 (by decide +kernel))
theorem fk_X4_45 : Cond.fieldLink RX4 45 (TX4 6).1 (TX4 6).2.1 (TX4 6).2.2.1 ∈ lw_tbl := tbm 173 (by decide +kernel)
theorem fl_X4_48 : FL RX4 48 TX4 7 := Or.inl (tbm 174 (by decide +kernel))
theorem fk_X4_48 : Cond.fieldLink RX4 48 (TX4 7).1 (TX4 7).2.1 (TX4 7).2.2.1 ∈ lw_tbl := tbm 174 (by decide +kernel)
theorem fl_X5_81 : FL RX5 81 TX5 0 := Or.inl (tbm 428 (by decide +kernel))
theorem fk_X5_81 : Cond.fieldLink RX5 81 (TX5 0).1 (TX5 0).2.1 (TX5 0).2.2.1 ∈ lw_tbl := tbm 428 (by decide +kernel)
theorem fl_X5_7 : FL RX5 7 TX5 1 := Or.inl (tbm 429 (by decide +kernel))
theorem fk_X5_7 : Cond.fieldLink RX5 7 (TX5 1).1 (TX5 1).2.1 (TX5 1).2.2.1 ∈ lw_tbl := tbm 429 (by decide +kernel)
theorem fl_X5_13 : FL RX5 13 TX5 2 := Or.inl (tbm 430 (by decide +kernel))
theorem fk_X5_13 : Cond.fieldLink RX5 13 (TX5 2).1 (TX5 2).2.1 (TX5 2).2.2.1 ∈ lw_tbl := tbm 430 (by decide +kernel)
theorem fl_X5_16 : FL RX5 16 TX5 3 := Or.inl (tbm 431 (by decide +kernel))
theorem fk_X5_16 : Cond.fieldLink RX5 16 (TX5 3).1 (TX5 3).2.1 (TX5 3).2.2.1 ∈ lw_tbl := tbm 431 (by decide +kernel)
theorem fl_X5_19 : FL RX5 19 TX5 4 := Or.inl (tbm 432 (by decide +kernel))
theorem fk_X5_19 : Cond.fieldLink RX5 19 (TX5 4).1 (TX5 4).2.1 (TX5 4).2.2.1 ∈ lw_tbl := tbm 432 (by decide +kernel)
theorem fl_X5_22 : FL RX5 22 TX5 5 := Or.inl (tbm 433 (by decide +kernel))
theorem fk_X5_22 : Cond.fieldLink RX5 22 (TX5 5).1 (TX5 5).2.1 (TX5 5).2.2.1 ∈ lw_tbl := tbm 433 (by decide +kernel)
theorem fl_X5_25 : FL RX5 25 TX5 6 := Or.inl (tbm 434 (by decide +kernel))
theorem fk_X5_25 : Cond.fieldLink RX5 25 (TX5 6).1 (TX5 6).2.1 (TX5 6).2.2.1 ∈ lw_tbl := tbm 434 (by decide +kernel)
theorem fl_X5_28 : FL RX5 28 TX5 7 := Or.inl (tbm 435 (by decide +kernel))
theorem fk_X5_28 : Cond.fieldLink RX5 28 (TX5 7).1 (TX5 7).2.1 (TX5 7).2.2.1 ∈ lw_tbl := tbm 435 (by decide +kernel)
theorem fl_X5_31 : FL RX5 31 TX5 8 := Or.inl (tbm 436 (by decide +kernel))
theorem fk_X5_31 : Cond.fieldLink RX5 31 (TX5 8).1 (TX5 8).2.1 (TX5 8).2.2.1 ∈ lw_tbl := tbm 436 (by decide +kernel)
theorem fl_X5_34 : FL RX5 34 TX5 9 := Or.inl (tbm 437 (by decide +kernel))
theorem fk_X5_34 : Cond.fieldLink RX5 34 (TX5 9).1 (TX5 9).2.1 (TX5 9).2.2.1 ∈ lw_tbl := tbm 437 (by decide +kernel)
theorem fl_X5_37 : FL RX5 37 TX5 10 := Or.inl (tbm 438 (by decide +kernel))
theorem fk_X5_37 : Cond.fieldLink RX5 37 (TX5 10).1 (TX5 10).2.1 (TX5 10).2.2.1 ∈ lw_tbl := tbm 438 (by decide +kernel)
theorem fl_X5_40 : FL RX5 40 TX5 11 := Or.inl (tbm 439 (by decide +kernel))
theorem fk_X5_40 : Cond.fieldLink RX5 40 (TX5 11).1 (TX5 11).2.1 (TX5 11).2.2.1 ∈ lw_tbl := tbm 439 (by decide +kernel)
theorem fl_X5_43 : FL RX5 43 TX5 12 := Or.inl (tbm 440 (by decide +kernel))
theorem fk_X5_43 : Cond.fieldLink RX5 43 (TX5 12).1 (TX5 12).2.1 (TX5 12).2.2.1 ∈ lw_tbl := tbm 440 (by decide +kernel)
theorem fl_X5_46 : FL RX5 46 TX5 13 := Or.inl (tbm 441 (by decide +kernel))
theorem fk_X5_46 : Cond.fieldLink RX5 46 (TX5 13).1 (TX5 13).2.1 (TX5 13).2.2.1 ∈ lw_tbl := tbm 441 (by decide +kernel)
theorem fl_X5_50 : FL RX5 50 TX5 14 := Or.inl (tbm 442 (by decide +kernel))
theorem fk_X5_50 : Cond.fieldLink RX5 50 (TX5 14).1 (TX5 14).2.1 (TX5 14).2.2.1 ∈ lw_tbl := tbm 442 (by decide +kernel)
theorem fl_X5_104 : FL RX5 104 TX5 15 := Or.inl (tbm 443 (by decide +kernel))
theorem fk_X5_104 : Cond.fieldLink RX5 104 (TX5 15).1 (TX5 15).2.1 (TX5 15).2.2.1 ∈ lw_tbl := tbm 443 (by decide +kernel)
theorem fl_X5_108 : FL RX5 108 TX5 16 := Or.inl (tbm 444 (by decide +kernel))
theorem fk_X5_108 : Cond.fieldLink RX5 108 (TX5 16).1 (TX5 16).2.1 (TX5 16).2.2.1 ∈ lw_tbl := tbm 444 (by decide +kernel)
theorem fl_X5_53 : FL RX5 53 TX5 17 := Or.inl (tbm 445 (by decide +kernel))
theorem fk_X5_53 : Cond.fieldLink RX5 53 (TX5 17).1 (TX5 17).2.1 (TX5 17).2.2.1 ∈ lw_tbl := tbm 445 (by decide +kernel)
theorem fl_X5_56 : FL RX5 56 TX5 18 := Or.inl (tbm 446 (by decide +kernel))
theorem fk_X5_56 : Cond.fieldLink RX5 56 (TX5 18).1 (TX5 18).2.1 (TX5 18).2.2.1 ∈ lw_tbl := tbm 446 (by decide +kernel)
theorem fl_X5_59 : FL RX5 59 TX5 19 := Or.inl (tbm 447 (by decide +kernel))
theorem fk_X5_59 : Cond.fieldLink RX5 59 (TX5 19).1 (TX5 19).2.1 (TX5 19).2.2.1 ∈ lw_tbl := tbm 447 (by decide +kernel)
theorem fl_X5_62 : FL RX5 62 TX5 20 := Or.inl (tbm 448 (by decide +kernel))
theorem fk_X5_62 : Cond.fieldLink RX5 62 (TX5 20).1 (TX5 20).2.1 (TX5 20).2.2.1 ∈ lw_tbl := tbm 448 (by decide +kernel)
theorem fl_X5_65 : FL RX5 65 TX5 21 := Or.inl (tbm 449 (by decide +kernel))
theorem fk_X5_65 : Cond.fieldLink RX5 65 (TX5 21).1 (TX5 21).2.1 (TX5 21).2.2.1 ∈ lw_tbl := tbm 449 (by decide +kernel)
theorem fl_X5_68 : FL RX5 68 TX5 22 := Or.inl (tbm 450 (by decide +kernel))
theorem fk_X5_68 : Cond.fieldLink RX5 68 (TX5 22).1 (TX5 22).2.1 (TX5 22).2.2.1 ∈ lw_tbl := tbm 450 (by decide +kernel)
theorem fl_X5_122 : FL RX5 122 TX5 23 := Or.inl (tbm 451 (by decide +kernel))
theorem fk_X5_122 : Cond.fieldLink RX5 122 (TX5 23).1 (TX5 23).2.1 (TX5 23).2.2.1 ∈ lw_tbl := tbm 451 (by decide +kernel)
theorem fl_X5_125 : FL RX5 125 TX5 24 := Or.inl (tbm 452 (by decide +kernel))
theorem fk_X5_125 : Cond.fieldLink RX5 125 (TX5 24).1 (TX5 24).2.1 (TX5 24).2.2.1 ∈ lw_tbl := tbm 452 (by decide +kernel)
theorem fl_X5_71 : FL RX5 71 TX5 25 := Or.inl (tbm 453 (by decide +kernel))
theorem fk_X5_71 : Cond.fieldLink RX5 71 (TX5 25).1 (TX5 25).2.1 (TX5 25).2.2.1 ∈ lw_tbl := tbm 453 (by decide +kernel)
theorem fl_X5_74 : FL RX5 74 TX5 26 := Or.inl (tbm 454 (by decide +kernel))
theorem fk_X5_74 : Cond.fieldLink RX5 74 (TX5 26).1 (TX5 26).2.1 (TX5 26).2.2.1 ∈ lw_tbl := tbm 454 (by decide +kernel)
theorem fl_X5_151 : FL RX5 151 TX5 27 := Or.inl (tbm 455 (by decide +kernel))
theorem fk_X5_151 : Cond.fieldLink RX5 151 (TX5 27).1 (TX5 27).2.1 (TX5 27).2.2.1 ∈ lw_tbl := tbm 455 (by decide +kernel)
theorem fl_X5_157 : FL RX5 157 TX5 28 := Or.inl (tbm 456 (by decide +kernel))
theorem fk_X5_157 : Cond.fieldLink RX5 157 (TX5 28).1 (TX5 28).2.1 (TX5 28).2.2.1 ∈ lw_tbl := tbm 456 (by decide +kernel)
theorem fl_X5_154 : FL RX5 154 TX5 29 := Or.inl (tbm 457 (by decide +kernel))
theorem fk_X5_154 : Cond.fieldLink RX5 154 (TX5 29).1 (TX5 29).2.1 (TX5 29).2.2.1 ∈ lw_tbl := tbm 457 (by decide +kernel)
theorem fl_X5_163 : FL RX5 163 TX5 30 := Or.inl (tbm 458 (by decide +kernel))
theorem fk_X5_163 : Cond.fieldLink RX5 163 (TX5 30).1 (TX5 30).2.1 (TX5 30).2.2.1 ∈ lw_tbl := tbm 458 (by decide +kernel)
theorem fl_X5_166 : FL RX5 166 TX5 31 := Or.inl (tbm 459 (by decide +kernel))
theorem fk_X5_166 : Cond.fieldLink RX5 166 (TX5 31).1 (TX5 31).2.1 (TX5 31).2.2.1 ∈ lw_tbl := tbm 459 (by decide +kernel)
theorem fl_X5_77 : FL RX5 77 TX5 32 := Or.inl (tbm 460 (by decide +kernel))
theorem fk_X5_77 : Cond.fieldLink RX5 77 (TX5 32).1 (TX5 32).2.1 (TX5 32).2.2.1 ∈ lw_tbl := tbm 460 (by decide +kernel)
theorem mi_X4_init : MI yX4_init cX4_init 2 none 0 := ⟨tbm 13 (by decide +kernel), tbm 1 (by decide +kernel), by decide +kernel, by decide +kernel, by decide +kernel, by decide⟩
theorem mn_X4_init : Cond.instanceMethod yX4_init ∈ lw_tbl := tbm 12 (by decide +kernel)
theorem mi_X1_init : MI yX1_init cX1_init 1 none 0 := ⟨tbm 21 (by decide +kernel), tbm 2 (by decide +kernel), by decide +kernel, by decide +kernel, by decide +kernel, by decide⟩
theorem mn_X1_init : Cond.instanceMethod yX1_init ∈ lw_tbl := tbm 20 (by decide +kernel)
theorem mi_X3_init : MI yX3_init cX3_init 1 none 0 := ⟨tbm 57 (by decide +kernel), tbm 3 (by decide +kernel), by decide +kernel, by decide +kernel, by decide +kernel, by decide⟩
theorem mn_X3_init : Cond.instanceMethod yX3_init ∈ lw_tbl := tbm 56 (by decide +kernel)
theorem mi_X0_init : MI yX0_init cX0_init 1 none 0 := ⟨tbm 63 (by decide +kernel), tbm 4 (by decide +kernel), by decide +kernel, by decide +kernel, by decide +kernel, by decide⟩
theorem mn_X0_init : Cond.instanceMethod yX0_init ∈ lw_tbl := tbm 62 (by decide +kernel)
theorem mi_X2_init : MI yX2_init cX2_init 1 none 0 := ⟨tbm 109 (by decide +kernel), tbm 5 (by decide +kernel), by decide +kernel, by decide +kernel, by decide +kernel, by decide⟩
theorem mn_X2_init : Cond.instanceMethod yX2_init ∈ lw_tbl := tbm 108 (by decide +kernel)
theorem mi_X4_posts : MI yX4_posts cX4_posts 2 (some .boolean) 1 := ⟨tbm 195 (by decide +kernel), tbm 1 (by decide +kernel), by decide +kernel, by decide +kernel, by decide +kernel, by decide⟩
theorem mn_X4_posts : Cond.instanceMethod yX4_posts ∈ lw_tbl := tbm 193 (by decide +kernel)
theorem mv_X4_posts : MV yX4_posts := ⟨mn_X4_posts, tbm 194 (by decide +kernel)⟩
theorem mi_X4_within : MI yX4_within cX4_within 3 (some .boolean) 3 := ⟨tbm 198 (by decide +kernel), tbm 1 (by decide +kernel), by decide +kernel, by decide +kernel, by decide +kernel, by decide⟩
theorem ms_X4_within : Cond.static yX4_within ∈ lw_tbl := tbm 197 (by decide +kernel)
theorem mi_X1_dropRow : MI yX1_dropRow cX1_dropRow 1 none 0 := ⟨tbm 202 (by decide +kernel), tbm 2 (by decide +kernel), by decide +kernel, by decide +kernel, by decide +kernel, by decide⟩
theorem mn_X1_dropRow : Cond.instanceMethod yX1_dropRow ∈ lw_tbl := tbm 200 (by decide +kernel)
theorem mv_X1_dropRow : MV yX1_dropRow := ⟨mn_X1_dropRow, tbm 201 (by decide +kernel)⟩
theorem mi_X4_lane : MI yX4_lane cX4_lane 8 (some .int) 5 := ⟨tbm 206 (by decide +kernel), tbm 1 (by decide +kernel), by decide +kernel, by decide +kernel, by decide +kernel, by decide⟩
theorem mn_X4_lane : Cond.instanceMethod yX4_lane ∈ lw_tbl := tbm 204 (by decide +kernel)
theorem mv_X4_lane : MV yX4_lane := ⟨mn_X4_lane, tbm 205 (by decide +kernel)⟩
theorem mi_X1_canLead : MI yX1_canLead cX1_canLead 3 (some .boolean) 2 := ⟨tbm 210 (by decide +kernel), tbm 2 (by decide +kernel), by decide +kernel, by decide +kernel, by decide +kernel, by decide⟩
theorem mn_X1_canLead : Cond.instanceMethod yX1_canLead ∈ lw_tbl := tbm 208 (by decide +kernel)
theorem mv_X1_canLead : MV yX1_canLead := ⟨mn_X1_canLead, tbm 209 (by decide +kernel)⟩
theorem mi_X1_hasPost : MI yX1_hasPost cX1_hasPost 2 (some .boolean) 1 := ⟨tbm 214 (by decide +kernel), tbm 2 (by decide +kernel), by decide +kernel, by decide +kernel, by decide +kernel, by decide⟩
theorem mn_X1_hasPost : Cond.instanceMethod yX1_hasPost ∈ lw_tbl := tbm 212 (by decide +kernel)
theorem mv_X1_hasPost : MV yX1_hasPost := ⟨mn_X1_hasPost, tbm 213 (by decide +kernel)⟩
theorem mi_X1_lastPost : MI yX1_lastPost cX1_lastPost 1 (some .int) 0 := ⟨tbm 218 (by decide +kernel), tbm 2 (by decide +kernel), by decide +kernel, by decide +kernel, by decide +kernel, by decide⟩
theorem mn_X1_lastPost : Cond.instanceMethod yX1_lastPost ∈ lw_tbl := tbm 216 (by decide +kernel)
theorem mv_X1_lastPost : MV yX1_lastPost := ⟨mn_X1_lastPost, tbm 217 (by decide +kernel)⟩
theorem mi_X4_isRoom : MI yX4_isRoom cX4_isRoom 1 (some .boolean) 1 := ⟨tbm 222 (by decide +kernel), tbm 1 (by decide +kernel), by decide +kernel, by decide +kernel, by decide +kernel, by decide⟩
theorem ms_X4_isRoom : Cond.static yX4_isRoom ∈ lw_tbl := tbm 221 (by decide +kernel)
theorem mi_X4_isShare : MI yX4_isShare cX4_isShare 2 (some .boolean) 2 := ⟨tbm 225 (by decide +kernel), tbm 1 (by decide +kernel), by decide +kernel, by decide +kernel, by decide +kernel, by decide⟩
theorem ms_X4_isShare : Cond.static yX4_isShare ∈ lw_tbl := tbm 224 (by decide +kernel)
theorem mi_X4_room : MI yX4_room cX4_room 3 (some .boolean) 2 := ⟨tbm 229 (by decide +kernel), tbm 1 (by decide +kernel), by decide +kernel, by decide +kernel, by decide +kernel, by decide⟩
theorem mn_X4_room : Cond.instanceMethod yX4_room ∈ lw_tbl := tbm 227 (by decide +kernel)
theorem mv_X4_room : MV yX4_room := ⟨mn_X4_room, tbm 228 (by decide +kernel)⟩
theorem mi_X1_hasLane : MI yX1_hasLane cX1_hasLane 2 (some .boolean) 1 := ⟨tbm 233 (by decide +kernel), tbm 2 (by decide +kernel), by decide +kernel, by decide +kernel, by decide +kernel, by decide⟩
theorem mn_X1_hasLane : Cond.instanceMethod yX1_hasLane ∈ lw_tbl := tbm 231 (by decide +kernel)
theorem mv_X1_hasLane : MV yX1_hasLane := ⟨mn_X1_hasLane, tbm 232 (by decide +kernel)⟩
theorem mi_X4_share : MI yX4_share cX4_share 5 (some .boolean) 4 := ⟨tbm 237 (by decide +kernel), tbm 1 (by decide +kernel), by decide +kernel, by decide +kernel, by decide +kernel, by decide⟩
theorem mn_X4_share : Cond.instanceMethod yX4_share ∈ lw_tbl := tbm 235 (by decide +kernel)
theorem mv_X4_share : MV yX4_share := ⟨mn_X4_share, tbm 236 (by decide +kernel)⟩
theorem mi_X4_tell : MI yX4_tell cX4_tell 3 (some .int) 2 := ⟨tbm 241 (by decide +kernel), tbm 1 (by decide +kernel), by decide +kernel, by decide +kernel, by decide +kernel, by decide⟩
theorem mn_X4_tell : Cond.instanceMethod yX4_tell ∈ lw_tbl := tbm 239 (by decide +kernel)
theorem mv_X4_tell : MV yX4_tell := ⟨mn_X4_tell, tbm 240 (by decide +kernel)⟩
theorem mi_X4_most : MI yX4_most cX4_most 3 (some .long) 2 := ⟨tbm 245 (by decide +kernel), tbm 1 (by decide +kernel), by decide +kernel, by decide +kernel, by decide +kernel, by decide⟩
theorem mn_X4_most : Cond.instanceMethod yX4_most ∈ lw_tbl := tbm 243 (by decide +kernel)
theorem mv_X4_most : MV yX4_most := ⟨mn_X4_most, tbm 244 (by decide +kernel)⟩
theorem mi_X2_load : MI yX2_load cX2_load 5 none 2 := ⟨tbm 250 (by decide +kernel), tbm 5 (by decide +kernel), by decide +kernel, by decide +kernel, by decide +kernel, by decide⟩
theorem mn_X2_load : Cond.instanceMethod yX2_load ∈ lw_tbl := tbm 248 (by decide +kernel)
theorem mv_X2_load : MV yX2_load := ⟨mn_X2_load, tbm 249 (by decide +kernel)⟩
theorem mi_X2_upperOfShare : MI yX2_upperOfShare cX2_upperOfShare 2 (some .int) 2 := ⟨tbm 254 (by decide +kernel), tbm 5 (by decide +kernel), by decide +kernel, by decide +kernel, by decide +kernel, by decide⟩
theorem ms_X2_upperOfShare : Cond.static yX2_upperOfShare ∈ lw_tbl := tbm 253 (by decide +kernel)
theorem mi_X2_findLeast : MI yX2_findLeast cX2_findLeast 5 none 1 := ⟨tbm 261 (by decide +kernel), tbm 5 (by decide +kernel), by decide +kernel, by decide +kernel, by decide +kernel, by decide⟩
theorem mn_X2_findLeast : Cond.instanceMethod yX2_findLeast ∈ lw_tbl := tbm 259 (by decide +kernel)
theorem mv_X2_findLeast : MV yX2_findLeast := ⟨mn_X2_findLeast, tbm 260 (by decide +kernel)⟩
theorem mi_X2_layPlanes : MI yX2_layPlanes cX2_layPlanes 3 none 0 := ⟨tbm 265 (by decide +kernel), tbm 5 (by decide +kernel), by decide +kernel, by decide +kernel, by decide +kernel, by decide⟩
theorem mn_X2_layPlanes : Cond.instanceMethod yX2_layPlanes ∈ lw_tbl := tbm 264 (by decide +kernel)
theorem mv_X2_layPlanes : MV yX2_layPlanes := ⟨mn_X2_layPlanes, tbs 0 (by decide +kernel)⟩
theorem mi_X2_emptyPlane : MI yX2_emptyPlane cX2_emptyPlane 3 (some (.array .int)) 0 := ⟨tbm 269 (by decide +kernel), tbm 5 (by decide +kernel), by decide +kernel, by decide +kernel, by decide +kernel, by decide⟩
theorem mn_X2_emptyPlane : Cond.instanceMethod yX2_emptyPlane ∈ lw_tbl := tbm 268 (by decide +kernel)
theorem mv_X2_emptyPlane : MV yX2_emptyPlane := ⟨mn_X2_emptyPlane, tbs 1 (by decide +kernel)⟩
theorem mi_X2_bendsTheSum : MI yX2_bendsTheSum cX2_bendsTheSum 2 (some .boolean) 1 := ⟨tbm 273 (by decide +kernel), tbm 5 (by decide +kernel), by decide +kernel, by decide +kernel, by decide +kernel, by decide⟩
theorem mn_X2_bendsTheSum : Cond.instanceMethod yX2_bendsTheSum ∈ lw_tbl := tbm 272 (by decide +kernel)
theorem mv_X2_bendsTheSum : MV yX2_bendsTheSum := ⟨mn_X2_bendsTheSum, tbs 2 (by decide +kernel)⟩
theorem mi_X2_crossTwo : MI yX2_crossTwo cX2_crossTwo 3 none 2 := ⟨tbm 277 (by decide +kernel), tbm 5 (by decide +kernel), by decide +kernel, by decide +kernel, by decide +kernel, by decide⟩
theorem mn_X2_crossTwo : Cond.instanceMethod yX2_crossTwo ∈ lw_tbl := tbm 276 (by decide +kernel)
theorem mv_X2_crossTwo : MV yX2_crossTwo := ⟨mn_X2_crossTwo, tbs 3 (by decide +kernel)⟩
theorem mi_X2_meetsAtCorner : MI yX2_meetsAtCorner cX2_meetsAtCorner 5 (some .boolean) 1 := ⟨tbm 281 (by decide +kernel), tbm 5 (by decide +kernel), by decide +kernel, by decide +kernel, by decide +kernel, by decide⟩
theorem mn_X2_meetsAtCorner : Cond.instanceMethod yX2_meetsAtCorner ∈ lw_tbl := tbm 280 (by decide +kernel)
theorem mv_X2_meetsAtCorner : MV yX2_meetsAtCorner := ⟨mn_X2_meetsAtCorner, tbs 4 (by decide +kernel)⟩
theorem mi_X2_weighCorner : MI yX2_weighCorner cX2_weighCorner 6 none 0 := ⟨tbm 285 (by decide +kernel), tbm 5 (by decide +kernel), by decide +kernel, by decide +kernel, by decide +kernel, by decide⟩
theorem mn_X2_weighCorner : Cond.instanceMethod yX2_weighCorner ∈ lw_tbl := tbm 284 (by decide +kernel)
theorem mv_X2_weighCorner : MV yX2_weighCorner := ⟨mn_X2_weighCorner, tbs 5 (by decide +kernel)⟩
theorem mi_X4_partsOfOne : MI yX4_partsOfOne cX4_partsOfOne 1 (some .int) 1 := ⟨tbm 288 (by decide +kernel), tbm 1 (by decide +kernel), by decide +kernel, by decide +kernel, by decide +kernel, by decide⟩
theorem ms_X4_partsOfOne : Cond.static yX4_partsOfOne ∈ lw_tbl := tbm 287 (by decide +kernel)
theorem mi_X0_set : MI yX0_set cX0_set 7 none 2 := ⟨tbm 293 (by decide +kernel), tbm 4 (by decide +kernel), by decide +kernel, by decide +kernel, by decide +kernel, by decide⟩
theorem mn_X0_set : Cond.instanceMethod yX0_set ∈ lw_tbl := tbm 291 (by decide +kernel)
theorem mv_X0_set : MV yX0_set := ⟨mn_X0_set, tbm 292 (by decide +kernel)⟩
theorem mi_X0_commonDivisor : MI yX0_commonDivisor cX0_commonDivisor 11 (some .long) 2 := ⟨tbm 299 (by decide +kernel), tbm 4 (by decide +kernel), by decide +kernel, by decide +kernel, by decide +kernel, by decide⟩
theorem ms_X0_commonDivisor : Cond.static yX0_commonDivisor ∈ lw_tbl := tbm 298 (by decide +kernel)
theorem mi_X0_number : MI yX0_number cX0_number 2 (some .long) 1 := ⟨tbm 303 (by decide +kernel), tbm 4 (by decide +kernel), by decide +kernel, by decide +kernel, by decide +kernel, by decide⟩
theorem mn_X0_number : Cond.instanceMethod yX0_number ∈ lw_tbl := tbm 301 (by decide +kernel)
theorem mv_X0_number : MV yX0_number := ⟨mn_X0_number, tbm 302 (by decide +kernel)⟩
theorem mi_X4_more : MI yX4_more cX4_more 4 (some .long) 3 := ⟨tbm 307 (by decide +kernel), tbm 1 (by decide +kernel), by decide +kernel, by decide +kernel, by decide +kernel, by decide⟩
theorem mn_X4_more : Cond.instanceMethod yX4_more ∈ lw_tbl := tbm 305 (by decide +kernel)
theorem mv_X4_more : MV yX4_more := ⟨mn_X4_more, tbm 306 (by decide +kernel)⟩
theorem mi_X2_changeRoom : MI yX2_changeRoom cX2_changeRoom 3 none 2 := ⟨tbm 311 (by decide +kernel), tbm 5 (by decide +kernel), by decide +kernel, by decide +kernel, by decide +kernel, by decide⟩
theorem mn_X2_changeRoom : Cond.instanceMethod yX2_changeRoom ∈ lw_tbl := tbm 309 (by decide +kernel)
theorem mv_X2_changeRoom : MV yX2_changeRoom := ⟨mn_X2_changeRoom, tbm 310 (by decide +kernel)⟩
theorem mi_X0_setDifference : MI yX0_setDifference cX0_setDifference 3 none 2 := ⟨tbm 315 (by decide +kernel), tbm 4 (by decide +kernel), by decide +kernel, by decide +kernel, by decide +kernel, by decide⟩
theorem mn_X0_setDifference : Cond.instanceMethod yX0_setDifference ∈ lw_tbl := tbm 313 (by decide +kernel)
theorem mv_X0_setDifference : MV yX0_setDifference := ⟨mn_X0_setDifference, tbm 314 (by decide +kernel)⟩
theorem mi_X4_way : MI yX4_way cX4_way 3 (some .int) 2 := ⟨tbm 320 (by decide +kernel), tbm 1 (by decide +kernel), by decide +kernel, by decide +kernel, by decide +kernel, by decide⟩
theorem mn_X4_way : Cond.instanceMethod yX4_way ∈ lw_tbl := tbm 318 (by decide +kernel)
theorem mv_X4_way : MV yX4_way := ⟨mn_X4_way, tbm 319 (by decide +kernel)⟩
theorem mi_X3_findWays : MI yX3_findWays cX3_findWays 4 none 3 := ⟨tbm 325 (by decide +kernel), tbm 3 (by decide +kernel), by decide +kernel, by decide +kernel, by decide +kernel, by decide⟩
theorem mn_X3_findWays : Cond.instanceMethod yX3_findWays ∈ lw_tbl := tbm 323 (by decide +kernel)
theorem mv_X3_findWays : MV yX3_findWays := ⟨mn_X3_findWays, tbm 324 (by decide +kernel)⟩
theorem mi_X3_begin : MI yX3_begin cX3_begin 2 none 1 := ⟨tbm 329 (by decide +kernel), tbm 3 (by decide +kernel), by decide +kernel, by decide +kernel, by decide +kernel, by decide⟩
theorem mn_X3_begin : Cond.instanceMethod yX3_begin ∈ lw_tbl := tbm 328 (by decide +kernel)
theorem mv_X3_begin : MV yX3_begin := ⟨mn_X3_begin, tbs 6 (by decide +kernel)⟩
theorem mi_X3_walk : MI yX3_walk cX3_walk 8 none 4 := ⟨tbm 333 (by decide +kernel), tbm 3 (by decide +kernel), by decide +kernel, by decide +kernel, by decide +kernel, by decide⟩
theorem mn_X3_walk : Cond.instanceMethod yX3_walk ∈ lw_tbl := tbm 332 (by decide +kernel)
theorem mv_X3_walk : MV yX3_walk := ⟨mn_X3_walk, tbs 7 (by decide +kernel)⟩
theorem mi_X3_weigh : MI yX3_weigh cX3_weigh 3 none 2 := ⟨tbm 337 (by decide +kernel), tbm 3 (by decide +kernel), by decide +kernel, by decide +kernel, by decide +kernel, by decide⟩
theorem mn_X3_weigh : Cond.instanceMethod yX3_weigh ∈ lw_tbl := tbm 336 (by decide +kernel)
theorem mv_X3_weigh : MV yX3_weigh := ⟨mn_X3_weigh, tbs 8 (by decide +kernel)⟩
theorem mi_X1_multiplyShares : MI yX1_multiplyShares cX1_multiplyShares 9 none 3 := ⟨tbm 341 (by decide +kernel), tbm 2 (by decide +kernel), by decide +kernel, by decide +kernel, by decide +kernel, by decide⟩
theorem mn_X1_multiplyShares : Cond.instanceMethod yX1_multiplyShares ∈ lw_tbl := tbm 339 (by decide +kernel)
theorem mv_X1_multiplyShares : MV yX1_multiplyShares := ⟨mn_X1_multiplyShares, tbm 340 (by decide +kernel)⟩
theorem mi_X0_isAboveOne : MI yX0_isAboveOne cX0_isAboveOne 1 (some .boolean) 0 := ⟨tbm 346 (by decide +kernel), tbm 4 (by decide +kernel), by decide +kernel, by decide +kernel, by decide +kernel, by decide⟩
theorem mn_X0_isAboveOne : Cond.instanceMethod yX0_isAboveOne ∈ lw_tbl := tbm 344 (by decide +kernel)
theorem mv_X0_isAboveOne : MV yX0_isAboveOne := ⟨mn_X0_isAboveOne, tbm 345 (by decide +kernel)⟩
theorem mi_X3_trailIsBetter : MI yX3_trailIsBetter cX3_trailIsBetter 5 (some .boolean) 1 := ⟨tbm 350 (by decide +kernel), tbm 3 (by decide +kernel), by decide +kernel, by decide +kernel, by decide +kernel, by decide⟩
theorem mn_X3_trailIsBetter : Cond.instanceMethod yX3_trailIsBetter ∈ lw_tbl := tbm 349 (by decide +kernel)
theorem mv_X3_trailIsBetter : MV yX3_trailIsBetter := ⟨mn_X3_trailIsBetter, tbs 9 (by decide +kernel)⟩
theorem mi_X0_compareWith : MI yX0_compareWith cX0_compareWith 2 (some .long) 1 := ⟨tbm 354 (by decide +kernel), tbm 4 (by decide +kernel), by decide +kernel, by decide +kernel, by decide +kernel, by decide⟩
theorem mn_X0_compareWith : Cond.instanceMethod yX0_compareWith ∈ lw_tbl := tbm 352 (by decide +kernel)
theorem mv_X0_compareWith : MV yX0_compareWith := ⟨mn_X0_compareWith, tbm 353 (by decide +kernel)⟩
theorem mi_X4_takeBestRow : MI yX4_takeBestRow cX4_takeBestRow 1 (some .int) 0 := ⟨tbm 361 (by decide +kernel), tbm 1 (by decide +kernel), by decide +kernel, by decide +kernel, by decide +kernel, by decide⟩
theorem mn_X4_takeBestRow : Cond.instanceMethod yX4_takeBestRow ∈ lw_tbl := tbm 360 (by decide +kernel)
theorem mv_X4_takeBestRow : MV yX4_takeBestRow := ⟨mn_X4_takeBestRow, tbs 10 (by decide +kernel)⟩
theorem mi_X1_takeRow : MI yX1_takeRow cX1_takeRow 3 none 2 := ⟨tbm 365 (by decide +kernel), tbm 2 (by decide +kernel), by decide +kernel, by decide +kernel, by decide +kernel, by decide⟩
theorem mn_X1_takeRow : Cond.instanceMethod yX1_takeRow ∈ lw_tbl := tbm 363 (by decide +kernel)
theorem mv_X1_takeRow : MV yX1_takeRow := ⟨mn_X1_takeRow, tbm 364 (by decide +kernel)⟩
theorem mi_X4_ring : MI yX4_ring cX4_ring 1 (some .int) 0 := ⟨tbm 370 (by decide +kernel), tbm 1 (by decide +kernel), by decide +kernel, by decide +kernel, by decide +kernel, by decide⟩
theorem mn_X4_ring : Cond.instanceMethod yX4_ring ∈ lw_tbl := tbm 368 (by decide +kernel)
theorem mv_X4_ring : MV yX4_ring := ⟨mn_X4_ring, tbm 369 (by decide +kernel)⟩
theorem mi_X3_findRings : MI yX3_findRings cX3_findRings 3 none 1 := ⟨tbm 374 (by decide +kernel), tbm 3 (by decide +kernel), by decide +kernel, by decide +kernel, by decide +kernel, by decide⟩
theorem mn_X3_findRings : Cond.instanceMethod yX3_findRings ∈ lw_tbl := tbm 372 (by decide +kernel)
theorem mv_X3_findRings : MV yX3_findRings := ⟨mn_X3_findRings, tbm 373 (by decide +kernel)⟩
theorem mi_X4_row : MI yX4_row cX4_row 2 (some .int) 1 := ⟨tbm 378 (by decide +kernel), tbm 1 (by decide +kernel), by decide +kernel, by decide +kernel, by decide +kernel, by decide⟩
theorem mn_X4_row : Cond.instanceMethod yX4_row ∈ lw_tbl := tbm 376 (by decide +kernel)
theorem mv_X4_row : MV yX4_row := ⟨mn_X4_row, tbm 377 (by decide +kernel)⟩
theorem mi_X4_gain : MI yX4_gain cX4_gain 2 (some .long) 1 := ⟨tbm 382 (by decide +kernel), tbm 1 (by decide +kernel), by decide +kernel, by decide +kernel, by decide +kernel, by decide⟩
theorem mn_X4_gain : Cond.instanceMethod yX4_gain ∈ lw_tbl := tbm 380 (by decide +kernel)
theorem mv_X4_gain : MV yX4_gain := ⟨mn_X4_gain, tbm 381 (by decide +kernel)⟩
theorem mi_X4_send : MI yX4_send cX4_send 4 (some .boolean) 3 := ⟨tbm 387 (by decide +kernel), tbm 1 (by decide +kernel), by decide +kernel, by decide +kernel, by decide +kernel, by decide⟩
theorem mn_X4_send : Cond.instanceMethod yX4_send ∈ lw_tbl := tbm 385 (by decide +kernel)
theorem mv_X4_send : MV yX4_send := ⟨mn_X4_send, tbm 386 (by decide +kernel)⟩
theorem mi_X4_right : MI yX4_right cX4_right 3 (some .boolean) 0 := ⟨tbm 392 (by decide +kernel), tbm 1 (by decide +kernel), by decide +kernel, by decide +kernel, by decide +kernel, by decide⟩
theorem mn_X4_right : Cond.instanceMethod yX4_right ∈ lw_tbl := tbm 390 (by decide +kernel)
theorem mv_X4_right : MV yX4_right := ⟨mn_X4_right, tbm 391 (by decide +kernel)⟩
theorem mi_X1_balance : MI yX1_balance cX1_balance 8 (some .long) 1 := ⟨tbm 397 (by decide +kernel), tbm 2 (by decide +kernel), by decide +kernel, by decide +kernel, by decide +kernel, by decide⟩
theorem mn_X1_balance : Cond.instanceMethod yX1_balance ∈ lw_tbl := tbm 395 (by decide +kernel)
theorem mv_X1_balance : MV yX1_balance := ⟨mn_X1_balance, tbm 396 (by decide +kernel)⟩
theorem mi_X4_left : MI yX4_left cX4_left 5 (some .long) 2 := ⟨tbm 403 (by decide +kernel), tbm 1 (by decide +kernel), by decide +kernel, by decide +kernel, by decide +kernel, by decide⟩
theorem mn_X4_left : Cond.instanceMethod yX4_left ∈ lw_tbl := tbm 401 (by decide +kernel)
theorem mv_X4_left : MV yX4_left := ⟨mn_X4_left, tbm 402 (by decide +kernel)⟩
theorem mi_X4_count : MI yX4_count cX4_count 2 (some .int) 1 := ⟨tbm 408 (by decide +kernel), tbm 1 (by decide +kernel), by decide +kernel, by decide +kernel, by decide +kernel, by decide⟩
theorem mn_X4_count : Cond.instanceMethod yX4_count ∈ lw_tbl := tbm 406 (by decide +kernel)
theorem mv_X4_count : MV yX4_count := ⟨mn_X4_count, tbm 407 (by decide +kernel)⟩
theorem mi_X4_image : MI yX4_image cX4_image 2 (some .boolean) 1 := ⟨tbm 412 (by decide +kernel), tbm 1 (by decide +kernel), by decide +kernel, by decide +kernel, by decide +kernel, by decide⟩
theorem mn_X4_image : Cond.instanceMethod yX4_image ∈ lw_tbl := tbm 410 (by decide +kernel)
theorem mv_X4_image : MV yX4_image := ⟨mn_X4_image, tbm 411 (by decide +kernel)⟩
theorem mi_X1_take : MI yX1_take cX1_take 3 none 1 := ⟨tbm 416 (by decide +kernel), tbm 2 (by decide +kernel), by decide +kernel, by decide +kernel, by decide +kernel, by decide⟩
theorem mn_X1_take : Cond.instanceMethod yX1_take ∈ lw_tbl := tbm 414 (by decide +kernel)
theorem mv_X1_take : MV yX1_take := ⟨mn_X1_take, tbm 415 (by decide +kernel)⟩
theorem mi_X4_again : MI yX4_again cX4_again 2 (some .boolean) 1 := ⟨tbm 421 (by decide +kernel), tbm 1 (by decide +kernel), by decide +kernel, by decide +kernel, by decide +kernel, by decide⟩
theorem mn_X4_again : Cond.instanceMethod yX4_again ∈ lw_tbl := tbm 419 (by decide +kernel)
theorem mv_X4_again : MV yX4_again := ⟨mn_X4_again, tbm 420 (by decide +kernel)⟩
theorem mi_X5_init : MI yX5_init cX5_init 1 none 0 := ⟨tbm 426 (by decide +kernel), tbm 6 (by decide +kernel), by decide +kernel, by decide +kernel, by decide +kernel, by decide⟩
theorem mn_X5_init : Cond.instanceMethod yX5_init ∈ lw_tbl := tbm 425 (by decide +kernel)
theorem mi_X5_posts : MI yX5_posts cX5_posts 2 (some .boolean) 1 := ⟨tbm 531 (by decide +kernel), tbm 6 (by decide +kernel), by decide +kernel, by decide +kernel, by decide +kernel, by decide⟩
theorem mn_X5_posts : Cond.instanceMethod yX5_posts ∈ lw_tbl := tbm 529 (by decide +kernel)
theorem mv_X5_posts : MV yX5_posts := ⟨mn_X5_posts, tbm 530 (by decide +kernel)⟩
theorem mi_X5_in : MI yX5_in cX5_in 3 (some .boolean) 3 := ⟨tbm 534 (by decide +kernel), tbm 6 (by decide +kernel), by decide +kernel, by decide +kernel, by decide +kernel, by decide⟩
theorem ms_X5_in : Cond.static yX5_in ∈ lw_tbl := tbm 533 (by decide +kernel)
theorem mi_X5_lane : MI yX5_lane cX5_lane 7 (some .int) 5 := ⟨tbm 538 (by decide +kernel), tbm 6 (by decide +kernel), by decide +kernel, by decide +kernel, by decide +kernel, by decide⟩
theorem mn_X5_lane : Cond.instanceMethod yX5_lane ∈ lw_tbl := tbm 536 (by decide +kernel)
theorem mv_X5_lane : MV yX5_lane := ⟨mn_X5_lane, tbm 537 (by decide +kernel)⟩
theorem mi_X5_isPost : MI yX5_isPost cX5_isPost 2 (some .boolean) 1 := ⟨tbm 542 (by decide +kernel), tbm 6 (by decide +kernel), by decide +kernel, by decide +kernel, by decide +kernel, by decide⟩
theorem mn_X5_isPost : Cond.instanceMethod yX5_isPost ∈ lw_tbl := tbm 541 (by decide +kernel)
theorem mv_X5_isPost : MV yX5_isPost := ⟨mn_X5_isPost, tbs 11 (by decide +kernel)⟩
theorem mi_X5_room : MI yX5_room cX5_room 3 (some .boolean) 2 := ⟨tbm 546 (by decide +kernel), tbm 6 (by decide +kernel), by decide +kernel, by decide +kernel, by decide +kernel, by decide⟩
theorem mn_X5_room : Cond.instanceMethod yX5_room ∈ lw_tbl := tbm 544 (by decide +kernel)
theorem mv_X5_room : MV yX5_room := ⟨mn_X5_room, tbm 545 (by decide +kernel)⟩
theorem mi_X5_isLane : MI yX5_isLane cX5_isLane 2 (some .boolean) 1 := ⟨tbm 550 (by decide +kernel), tbm 6 (by decide +kernel), by decide +kernel, by decide +kernel, by decide +kernel, by decide⟩
theorem mn_X5_isLane : Cond.instanceMethod yX5_isLane ∈ lw_tbl := tbm 549 (by decide +kernel)
theorem mv_X5_isLane : MV yX5_isLane := ⟨mn_X5_isLane, tbs 12 (by decide +kernel)⟩
theorem mi_X5_share : MI yX5_share cX5_share 5 (some .boolean) 4 := ⟨tbm 554 (by decide +kernel), tbm 6 (by decide +kernel), by decide +kernel, by decide +kernel, by decide +kernel, by decide⟩
theorem mn_X5_share : Cond.instanceMethod yX5_share ∈ lw_tbl := tbm 552 (by decide +kernel)
theorem mv_X5_share : MV yX5_share := ⟨mn_X5_share, tbm 553 (by decide +kernel)⟩
theorem mi_X5_tell : MI yX5_tell cX5_tell 3 (some .int) 2 := ⟨tbm 558 (by decide +kernel), tbm 6 (by decide +kernel), by decide +kernel, by decide +kernel, by decide +kernel, by decide⟩
theorem mn_X5_tell : Cond.instanceMethod yX5_tell ∈ lw_tbl := tbm 556 (by decide +kernel)
theorem mv_X5_tell : MV yX5_tell := ⟨mn_X5_tell, tbm 557 (by decide +kernel)⟩
theorem mi_X5_put : MI yX5_put cX5_put 7 none 2 := ⟨tbm 562 (by decide +kernel), tbm 6 (by decide +kernel), by decide +kernel, by decide +kernel, by decide +kernel, by decide⟩
theorem mn_X5_put : Cond.instanceMethod yX5_put ∈ lw_tbl := tbm 561 (by decide +kernel)
theorem mv_X5_put : MV yX5_put := ⟨mn_X5_put, tbs 13 (by decide +kernel)⟩
theorem mi_X5_gcd : MI yX5_gcd cX5_gcd 10 (some .long) 2 := ⟨tbm 565 (by decide +kernel), tbm 6 (by decide +kernel), by decide +kernel, by decide +kernel, by decide +kernel, by decide⟩
theorem ms_X5_gcd : Cond.static yX5_gcd ∈ lw_tbl := tbm 564 (by decide +kernel)
theorem mi_X5_most : MI yX5_most cX5_most 3 (some .long) 2 := ⟨tbm 569 (by decide +kernel), tbm 6 (by decide +kernel), by decide +kernel, by decide +kernel, by decide +kernel, by decide⟩
theorem mn_X5_most : Cond.instanceMethod yX5_most ∈ lw_tbl := tbm 567 (by decide +kernel)
theorem mv_X5_most : MV yX5_most := ⟨mn_X5_most, tbm 568 (by decide +kernel)⟩
theorem mi_X5_setShares : MI yX5_setShares cX5_setShares 4 none 1 := ⟨tbm 574 (by decide +kernel), tbm 6 (by decide +kernel), by decide +kernel, by decide +kernel, by decide +kernel, by decide⟩
theorem mn_X5_setShares : Cond.instanceMethod yX5_setShares ∈ lw_tbl := tbm 573 (by decide +kernel)
theorem mv_X5_setShares : MV yX5_setShares := ⟨mn_X5_setShares, tbs 14 (by decide +kernel)⟩
theorem mi_X5_findMost : MI yX5_findMost cX5_findMost 3 none 0 := ⟨tbm 578 (by decide +kernel), tbm 6 (by decide +kernel), by decide +kernel, by decide +kernel, by decide +kernel, by decide⟩
theorem mn_X5_findMost : Cond.instanceMethod yX5_findMost ∈ lw_tbl := tbm 577 (by decide +kernel)
theorem mv_X5_findMost : MV yX5_findMost := ⟨mn_X5_findMost, tbs 15 (by decide +kernel)⟩
theorem mi_X5_findPrices : MI yX5_findPrices cX5_findPrices 6 (some .boolean) 0 := ⟨tbm 582 (by decide +kernel), tbm 6 (by decide +kernel), by decide +kernel, by decide +kernel, by decide +kernel, by decide⟩
theorem mn_X5_findPrices : Cond.instanceMethod yX5_findPrices ∈ lw_tbl := tbm 581 (by decide +kernel)
theorem mv_X5_findPrices : MV yX5_findPrices := ⟨mn_X5_findPrices, tbs 16 (by decide +kernel)⟩
theorem mi_X5_findWorth : MI yX5_findWorth cX5_findWorth 10 none 0 := ⟨tbm 586 (by decide +kernel), tbm 6 (by decide +kernel), by decide +kernel, by decide +kernel, by decide +kernel, by decide⟩
theorem mn_X5_findWorth : Cond.instanceMethod yX5_findWorth ∈ lw_tbl := tbm 585 (by decide +kernel)
theorem mv_X5_findWorth : MV yX5_findWorth := ⟨mn_X5_findWorth, tbs 17 (by decide +kernel)⟩
theorem mi_X5_isLess : MI yX5_isLess cX5_isLess 24 (some .boolean) 4 := ⟨tbm 589 (by decide +kernel), tbm 6 (by decide +kernel), by decide +kernel, by decide +kernel, by decide +kernel, by decide⟩
theorem ms_X5_isLess : Cond.static yX5_isLess ∈ lw_tbl := tbm 588 (by decide +kernel)
theorem mi_X5_nextChoice : MI yX5_nextChoice cX5_nextChoice 2 (some .boolean) 0 := ⟨tbm 593 (by decide +kernel), tbm 6 (by decide +kernel), by decide +kernel, by decide +kernel, by decide +kernel, by decide⟩
theorem mn_X5_nextChoice : Cond.instanceMethod yX5_nextChoice ∈ lw_tbl := tbm 592 (by decide +kernel)
theorem mv_X5_nextChoice : MV yX5_nextChoice := ⟨mn_X5_nextChoice, tbs 18 (by decide +kernel)⟩
theorem mi_X5_more : MI yX5_more cX5_more 10 (some .long) 3 := ⟨tbm 597 (by decide +kernel), tbm 6 (by decide +kernel), by decide +kernel, by decide +kernel, by decide +kernel, by decide⟩
theorem mn_X5_more : Cond.instanceMethod yX5_more ∈ lw_tbl := tbm 595 (by decide +kernel)
theorem mv_X5_more : MV yX5_more := ⟨mn_X5_more, tbm 596 (by decide +kernel)⟩
theorem mi_X5_way : MI yX5_way cX5_way 3 (some .int) 2 := ⟨tbm 601 (by decide +kernel), tbm 6 (by decide +kernel), by decide +kernel, by decide +kernel, by decide +kernel, by decide⟩
theorem mn_X5_way : Cond.instanceMethod yX5_way ∈ lw_tbl := tbm 599 (by decide +kernel)
theorem mv_X5_way : MV yX5_way := ⟨mn_X5_way, tbm 600 (by decide +kernel)⟩
theorem mi_X5_goAll : MI yX5_goAll cX5_goAll 7 none 3 := ⟨tbm 605 (by decide +kernel), tbm 6 (by decide +kernel), by decide +kernel, by decide +kernel, by decide +kernel, by decide⟩
theorem mn_X5_goAll : Cond.instanceMethod yX5_goAll ∈ lw_tbl := tbm 604 (by decide +kernel)
theorem mv_X5_goAll : MV yX5_goAll := ⟨mn_X5_goAll, tbs 19 (by decide +kernel)⟩
theorem mi_X5_takes : MI yX5_takes cX5_takes 8 none 1 := ⟨tbm 609 (by decide +kernel), tbm 6 (by decide +kernel), by decide +kernel, by decide +kernel, by decide +kernel, by decide⟩
theorem mn_X5_takes : Cond.instanceMethod yX5_takes ∈ lw_tbl := tbm 608 (by decide +kernel)
theorem mv_X5_takes : MV yX5_takes := ⟨mn_X5_takes, tbs 20 (by decide +kernel)⟩
theorem mi_X5_productUp : MI yX5_productUp cX5_productUp 5 (some .long) 1 := ⟨tbm 613 (by decide +kernel), tbm 6 (by decide +kernel), by decide +kernel, by decide +kernel, by decide +kernel, by decide⟩
theorem mn_X5_productUp : Cond.instanceMethod yX5_productUp ∈ lw_tbl := tbm 612 (by decide +kernel)
theorem mv_X5_productUp : MV yX5_productUp := ⟨mn_X5_productUp, tbs 21 (by decide +kernel)⟩
theorem mi_X5_productDown : MI yX5_productDown cX5_productDown 5 (some .long) 1 := ⟨tbm 617 (by decide +kernel), tbm 6 (by decide +kernel), by decide +kernel, by decide +kernel, by decide +kernel, by decide⟩
theorem mn_X5_productDown : Cond.instanceMethod yX5_productDown ∈ lw_tbl := tbm 616 (by decide +kernel)
theorem mv_X5_productDown : MV yX5_productDown := ⟨mn_X5_productDown, tbs 22 (by decide +kernel)⟩
theorem mi_X5_isOn : MI yX5_isOn cX5_isOn 4 (some .boolean) 2 := ⟨tbm 621 (by decide +kernel), tbm 6 (by decide +kernel), by decide +kernel, by decide +kernel, by decide +kernel, by decide⟩
theorem mn_X5_isOn : Cond.instanceMethod yX5_isOn ∈ lw_tbl := tbm 620 (by decide +kernel)
theorem mv_X5_isOn : MV yX5_isOn := ⟨mn_X5_isOn, tbs 23 (by decide +kernel)⟩
theorem mi_X5_keep : MI yX5_keep cX5_keep 2 (some .int) 0 := ⟨tbm 625 (by decide +kernel), tbm 6 (by decide +kernel), by decide +kernel, by decide +kernel, by decide +kernel, by decide⟩
theorem mn_X5_keep : Cond.instanceMethod yX5_keep ∈ lw_tbl := tbm 624 (by decide +kernel)
theorem mv_X5_keep : MV yX5_keep := ⟨mn_X5_keep, tbs 24 (by decide +kernel)⟩
theorem mi_X5_ring : MI yX5_ring cX5_ring 1 (some .int) 0 := ⟨tbm 629 (by decide +kernel), tbm 6 (by decide +kernel), by decide +kernel, by decide +kernel, by decide +kernel, by decide⟩
theorem mn_X5_ring : Cond.instanceMethod yX5_ring ∈ lw_tbl := tbm 627 (by decide +kernel)
theorem mv_X5_ring : MV yX5_ring := ⟨mn_X5_ring, tbm 628 (by decide +kernel)⟩
theorem mi_X5_findRings : MI yX5_findRings cX5_findRings 2 none 0 := ⟨tbm 633 (by decide +kernel), tbm 6 (by decide +kernel), by decide +kernel, by decide +kernel, by decide +kernel, by decide⟩
theorem mn_X5_findRings : Cond.instanceMethod yX5_findRings ∈ lw_tbl := tbm 632 (by decide +kernel)
theorem mv_X5_findRings : MV yX5_findRings := ⟨mn_X5_findRings, tbs 25 (by decide +kernel)⟩
theorem mi_X5_row : MI yX5_row cX5_row 2 (some .int) 1 := ⟨tbm 637 (by decide +kernel), tbm 6 (by decide +kernel), by decide +kernel, by decide +kernel, by decide +kernel, by decide⟩
theorem mn_X5_row : Cond.instanceMethod yX5_row ∈ lw_tbl := tbm 635 (by decide +kernel)
theorem mv_X5_row : MV yX5_row := ⟨mn_X5_row, tbm 636 (by decide +kernel)⟩
theorem mi_X5_gain : MI yX5_gain cX5_gain 2 (some .long) 1 := ⟨tbm 641 (by decide +kernel), tbm 6 (by decide +kernel), by decide +kernel, by decide +kernel, by decide +kernel, by decide⟩
theorem mn_X5_gain : Cond.instanceMethod yX5_gain ∈ lw_tbl := tbm 639 (by decide +kernel)
theorem mv_X5_gain : MV yX5_gain := ⟨mn_X5_gain, tbm 640 (by decide +kernel)⟩
theorem mi_X5_send : MI yX5_send cX5_send 4 (some .boolean) 3 := ⟨tbm 645 (by decide +kernel), tbm 6 (by decide +kernel), by decide +kernel, by decide +kernel, by decide +kernel, by decide⟩
theorem mn_X5_send : Cond.instanceMethod yX5_send ∈ lw_tbl := tbm 643 (by decide +kernel)
theorem mv_X5_send : MV yX5_send := ⟨mn_X5_send, tbm 644 (by decide +kernel)⟩
theorem mi_X5_right : MI yX5_right cX5_right 2 (some .boolean) 0 := ⟨tbm 649 (by decide +kernel), tbm 6 (by decide +kernel), by decide +kernel, by decide +kernel, by decide +kernel, by decide⟩
theorem mn_X5_right : Cond.instanceMethod yX5_right ∈ lw_tbl := tbm 647 (by decide +kernel)
theorem mv_X5_right : MV yX5_right := ⟨mn_X5_right, tbm 648 (by decide +kernel)⟩
theorem mi_X5_arrives : MI yX5_arrives cX5_arrives 5 (some .long) 1 := ⟨tbm 653 (by decide +kernel), tbm 6 (by decide +kernel), by decide +kernel, by decide +kernel, by decide +kernel, by decide⟩
theorem mn_X5_arrives : Cond.instanceMethod yX5_arrives ∈ lw_tbl := tbm 652 (by decide +kernel)
theorem mv_X5_arrives : MV yX5_arrives := ⟨mn_X5_arrives, tbs 26 (by decide +kernel)⟩
theorem mi_X5_leaves : MI yX5_leaves cX5_leaves 5 (some .long) 1 := ⟨tbm 658 (by decide +kernel), tbm 6 (by decide +kernel), by decide +kernel, by decide +kernel, by decide +kernel, by decide⟩
theorem mn_X5_leaves : Cond.instanceMethod yX5_leaves ∈ lw_tbl := tbm 657 (by decide +kernel)
theorem mv_X5_leaves : MV yX5_leaves := ⟨mn_X5_leaves, tbs 27 (by decide +kernel)⟩
theorem mi_X5_left : MI yX5_left cX5_left 5 (some .long) 2 := ⟨tbm 662 (by decide +kernel), tbm 6 (by decide +kernel), by decide +kernel, by decide +kernel, by decide +kernel, by decide⟩
theorem mn_X5_left : Cond.instanceMethod yX5_left ∈ lw_tbl := tbm 660 (by decide +kernel)
theorem mv_X5_left : MV yX5_left := ⟨mn_X5_left, tbm 661 (by decide +kernel)⟩
theorem mi_X5_count : MI yX5_count cX5_count 2 (some .int) 1 := ⟨tbm 666 (by decide +kernel), tbm 6 (by decide +kernel), by decide +kernel, by decide +kernel, by decide +kernel, by decide⟩
theorem mn_X5_count : Cond.instanceMethod yX5_count ∈ lw_tbl := tbm 664 (by decide +kernel)
theorem mv_X5_count : MV yX5_count := ⟨mn_X5_count, tbm 665 (by decide +kernel)⟩
theorem mi_X5_image : MI yX5_image cX5_image 2 (some .boolean) 1 := ⟨tbm 670 (by decide +kernel), tbm 6 (by decide +kernel), by decide +kernel, by decide +kernel, by decide +kernel, by decide⟩
theorem mn_X5_image : Cond.instanceMethod yX5_image ∈ lw_tbl := tbm 668 (by decide +kernel)
theorem mv_X5_image : MV yX5_image := ⟨mn_X5_image, tbm 669 (by decide +kernel)⟩
theorem mi_X5_copy : MI yX5_copy cX5_copy 3 none 2 := ⟨tbm 674 (by decide +kernel), tbm 6 (by decide +kernel), by decide +kernel, by decide +kernel, by decide +kernel, by decide⟩
theorem mn_X5_copy : Cond.instanceMethod yX5_copy ∈ lw_tbl := tbm 673 (by decide +kernel)
theorem mv_X5_copy : MV yX5_copy := ⟨mn_X5_copy, tbs 28 (by decide +kernel)⟩
theorem mi_X5_move : MI yX5_move cX5_move 5 none 4 := ⟨tbm 677 (by decide +kernel), tbm 6 (by decide +kernel), by decide +kernel, by decide +kernel, by decide +kernel, by decide⟩
theorem ms_X5_move : Cond.static yX5_move ∈ lw_tbl := tbm 676 (by decide +kernel)
theorem mi_X5_again : MI yX5_again cX5_again 2 (some .boolean) 1 := ⟨tbm 681 (by decide +kernel), tbm 6 (by decide +kernel), by decide +kernel, by decide +kernel, by decide +kernel, by decide⟩
theorem mn_X5_again : Cond.instanceMethod yX5_again ∈ lw_tbl := tbm 679 (by decide +kernel)
theorem mv_X5_again : MV yX5_again := ⟨mn_X5_again, tbm 680 (by decide +kernel)⟩
theorem cs_L_9 : CS RL 9 yX4_init := Or.inl (tbm 11 (by decide +kernel))
theorem cj_X4_3 : Cond.methodLink RX4 3 objectInit ∈ lw_tbl := tbm 14 (by decide +kernel)
theorem cs_X4_11 : CS RX4 11 yX1_init := Or.inr (tbm 19 (by decide +kernel))
theorem cj_X1_3 : Cond.methodLink RX1 3 objectInit ∈ lw_tbl := tbm 22 (by decide +kernel)
theorem cs_X4_26 : CS RX4 26 yX3_init := Or.inr (tbm 55 (by decide +kernel))
theorem cj_X3_3 : Cond.methodLink RX3 3 objectInit ∈ lw_tbl := tbm 58 (by decide +kernel)
theorem cs_X3_17 : CS RX3 17 yX0_init := Or.inr (tbm 61 (by decide +kernel))
theorem cj_X0_1 : Cond.methodLink RX0 1 objectInit ∈ lw_tbl := tbm 64 (by decide +kernel)
theorem cs_X4_33 : CS RX4 33 yX2_init := Or.inr (tbm 107 (by decide +kernel))
theorem cj_X2_3 : Cond.methodLink RX2 3 objectInit ∈ lw_tbl := tbm 110 (by decide +kernel)
theorem cs_X4_40 : CS RX4 40 yX0_init := Or.inr (tbm 166 (by decide +kernel))
theorem cs_L_13 : CS RL 13 yX4_posts := Or.inl (tbm 192 (by decide +kernel))
theorem cs_X4_51 : CS RX4 51 yX4_within := Or.inl (tbm 196 (by decide +kernel))
theorem cs_X4_62 : CS RX4 62 yX1_dropRow := Or.inl (tbm 199 (by decide +kernel))
theorem cs_L_18 : CS RL 18 yX4_lane := Or.inl (tbm 203 (by decide +kernel))
theorem cs_X4_65 : CS RX4 65 yX1_canLead := Or.inl (tbm 207 (by decide +kernel))
theorem cs_X1_48 : CS RX1 48 yX1_hasPost := Or.inl (tbm 211 (by decide +kernel))
theorem cs_X1_40 : CS RX1 40 yX1_lastPost := Or.inl (tbm 215 (by decide +kernel))
theorem cs_X1_44 : CS RX1 44 yX4_within := Or.inr (tbm 219 (by decide +kernel))
theorem cs_X4_69 : CS RX4 69 yX4_isRoom := Or.inl (tbm 220 (by decide +kernel))
theorem cs_X4_73 : CS RX4 73 yX4_isShare := Or.inl (tbm 223 (by decide +kernel))
theorem cs_L_23 : CS RL 23 yX4_room := Or.inl (tbm 226 (by decide +kernel))
theorem cs_X4_80 : CS RX4 80 yX1_hasLane := Or.inl (tbm 230 (by decide +kernel))
theorem cs_L_28 : CS RL 28 yX4_share := Or.inl (tbm 234 (by decide +kernel))
theorem cs_L_33 : CS RL 33 yX4_tell := Or.inl (tbm 238 (by decide +kernel))
theorem cs_L_38 : CS RL 38 yX4_most := Or.inl (tbm 242 (by decide +kernel))
theorem cs_X4_85 : CS RX4 85 yX2_load := Or.inl (tbm 247 (by decide +kernel))
theorem cs_X2_74 : CS RX2 74 yX1_lastPost := Or.inl (tbm 251 (by decide +kernel))
theorem cs_X2_78 : CS RX2 78 yX2_upperOfShare := Or.inl (tbm 252 (by decide +kernel))
theorem cj_X2_104 : Cond.methodLink RX2 104 Lib.Math.max.name ∈ lw_tbl := tbm 255 (by decide +kernel)
theorem cs_X4_89 : CS RX4 89 yX2_findLeast := Or.inl (tbm 258 (by decide +kernel))
theorem cs_X2_82 : CS RX2 82 yX2_layPlanes := Or.inl (tbm 262 (by decide +kernel))
theorem cs_X2_110 : CS RX2 110 yX2_emptyPlane := Or.inl (tbm 266 (by decide +kernel))
theorem cs_X2_114 : CS RX2 114 yX2_bendsTheSum := Or.inl (tbm 270 (by decide +kernel))
theorem cs_X2_85 : CS RX2 85 yX2_crossTwo := Or.inl (tbm 274 (by decide +kernel))
theorem cs_X2_89 : CS RX2 89 yX2_meetsAtCorner := Or.inl (tbm 278 (by decide +kernel))
theorem cs_X2_93 : CS RX2 93 yX2_weighCorner := Or.inl (tbm 282 (by decide +kernel))
theorem cs_X2_118 : CS RX2 118 yX4_partsOfOne := Or.inr (tbm 286 (by decide +kernel))
theorem cs_X2_98 : CS RX2 98 yX0_set := Or.inl (tbm 290 (by decide +kernel))
theorem cj_X0_16 : Cond.methodLink RX0 16 Lib.MathLoose.abs_long.x ∈ lw_tbl := tbm 294 (by decide +kernel)
theorem cs_X0_22 : CS RX0 22 yX0_commonDivisor := Or.inl (tbm 297 (by decide +kernel))
theorem cs_X4_93 : CS RX4 93 yX0_number := Or.inl (tbm 300 (by decide +kernel))
theorem cs_L_43 : CS RL 43 yX4_more := Or.inl (tbm 304 (by decide +kernel))
theorem cs_X4_97 : CS RX4 97 yX2_changeRoom := Or.inl (tbm 308 (by decide +kernel))
theorem cs_X4_101 : CS RX4 101 yX0_setDifference := Or.inl (tbm 312 (by decide +kernel))
theorem cs_X0_26 : CS RX0 26 yX0_set := Or.inl (tbm 316 (by decide +kernel))
theorem cs_L_48 : CS RL 48 yX4_way := Or.inl (tbm 317 (by decide +kernel))
theorem cs_X4_105 : CS RX4 105 yX1_hasPost := Or.inl (tbm 321 (by decide +kernel))
theorem cs_X4_108 : CS RX4 108 yX3_findWays := Or.inl (tbm 322 (by decide +kernel))
theorem cs_X3_45 : CS RX3 45 yX3_begin := Or.inl (tbm 326 (by decide +kernel))
theorem cs_X3_49 : CS RX3 49 yX3_walk := Or.inl (tbm 330 (by decide +kernel))
theorem cs_X3_65 : CS RX3 65 yX3_weigh := Or.inl (tbm 334 (by decide +kernel))
theorem cs_X3_69 : CS RX3 69 yX1_multiplyShares := Or.inl (tbm 338 (by decide +kernel))
theorem cs_X1_58 : CS RX1 58 yX0_set := Or.inl (tbm 342 (by decide +kernel))
theorem cs_X3_73 : CS RX3 73 yX0_isAboveOne := Or.inl (tbm 343 (by decide +kernel))
theorem cs_X3_77 : CS RX3 77 yX3_trailIsBetter := Or.inl (tbm 347 (by decide +kernel))
theorem cs_X3_87 : CS RX3 87 yX0_compareWith := Or.inl (tbm 351 (by decide +kernel))
theorem cj_X3_81 : Cond.methodLink RX3 81 arraycopyName ∈ lw_tbl := tbm 355 (by decide +kernel)
theorem cs_X4_112 : CS RX4 112 yX4_takeBestRow := Or.inl (tbm 358 (by decide +kernel))
theorem cs_X4_159 : CS RX4 159 yX1_takeRow := Or.inl (tbm 362 (by decide +kernel))
theorem cj_X1_30 : Cond.methodLink RX1 30 arraycopyName ∈ lw_tbl := tbm 366 (by decide +kernel)
theorem cs_L_52 : CS RL 52 yX4_ring := Or.inl (tbm 367 (by decide +kernel))
theorem cs_X4_116 : CS RX4 116 yX3_findRings := Or.inl (tbm 371 (by decide +kernel))
theorem cs_L_57 : CS RL 57 yX4_row := Or.inl (tbm 375 (by decide +kernel))
theorem cs_L_62 : CS RL 62 yX4_gain := Or.inl (tbm 379 (by decide +kernel))
theorem cs_X4_127 : CS RX4 127 yX1_multiplyShares := Or.inl (tbm 383 (by decide +kernel))
theorem cs_L_67 : CS RL 67 yX4_send := Or.inl (tbm 384 (by decide +kernel))
theorem cs_X4_131 : CS RX4 131 yX0_set := Or.inl (tbm 388 (by decide +kernel))
theorem cs_L_72 : CS RL 72 yX4_right := Or.inl (tbm 389 (by decide +kernel))
theorem cs_X4_135 : CS RX4 135 yX1_lastPost := Or.inl (tbm 393 (by decide +kernel))
theorem cs_X4_138 : CS RX4 138 yX1_balance := Or.inl (tbm 394 (by decide +kernel))
theorem cs_X1_52 : CS RX1 52 yX4_partsOfOne := Or.inr (tbm 398 (by decide +kernel))
theorem cs_L_77 : CS RL 77 yX4_left := Or.inl (tbm 400 (by decide +kernel))
theorem cs_L_81 : CS RL 81 yX4_count := Or.inl (tbm 405 (by decide +kernel))
theorem cs_L_85 : CS RL 85 yX4_image := Or.inl (tbm 409 (by decide +kernel))
theorem cs_X4_150 : CS RX4 150 yX1_take := Or.inl (tbm 413 (by decide +kernel))
theorem cs_X1_36 : CS RX1 36 yX1_takeRow := Or.inl (tbm 417 (by decide +kernel))
theorem cs_L_89 : CS RL 89 yX4_again := Or.inl (tbm 418 (by decide +kernel))
theorem cs_L_12 : CS RL 12 yX5_init := Or.inl (tbm 424 (by decide +kernel))
theorem cj_X5_1 : Cond.methodLink RX5 1 objectInit ∈ lw_tbl := tbm 427 (by decide +kernel)
theorem cs_L_17 : CS RL 17 yX5_posts := Or.inl (tbm 528 (by decide +kernel))
theorem cs_X5_89 : CS RX5 89 yX5_in := Or.inl (tbm 532 (by decide +kernel))
theorem cs_L_22 : CS RL 22 yX5_lane := Or.inl (tbm 535 (by decide +kernel))
theorem cs_X5_93 : CS RX5 93 yX5_isPost := Or.inl (tbm 539 (by decide +kernel))
theorem cs_L_27 : CS RL 27 yX5_room := Or.inl (tbm 543 (by decide +kernel))
theorem cs_X5_97 : CS RX5 97 yX5_isLane := Or.inl (tbm 547 (by decide +kernel))
theorem cs_L_32 : CS RL 32 yX5_share := Or.inl (tbm 551 (by decide +kernel))
theorem cs_L_37 : CS RL 37 yX5_tell := Or.inl (tbm 555 (by decide +kernel))
theorem cs_X5_100 : CS RX5 100 yX5_put := Or.inl (tbm 559 (by decide +kernel))
theorem cs_X5_111 : CS RX5 111 yX5_gcd := Or.inl (tbm 563 (by decide +kernel))
theorem cs_L_42 : CS RL 42 yX5_most := Or.inl (tbm 566 (by decide +kernel))
theorem cs_X5_137 : CS RX5 137 yX5_setShares := Or.inl (tbm 571 (by decide +kernel))
theorem cs_X5_141 : CS RX5 141 yX5_findMost := Or.inl (tbm 575 (by decide +kernel))
theorem cs_X5_115 : CS RX5 115 yX5_findPrices := Or.inl (tbm 579 (by decide +kernel))
theorem cs_X5_119 : CS RX5 119 yX5_findWorth := Or.inl (tbm 583 (by decide +kernel))
theorem cs_X5_128 : CS RX5 128 yX5_isLess := Or.inl (tbm 587 (by decide +kernel))
theorem cs_X5_132 : CS RX5 132 yX5_nextChoice := Or.inl (tbm 590 (by decide +kernel))
theorem cs_L_47 : CS RL 47 yX5_more := Or.inl (tbm 594 (by decide +kernel))
theorem cs_L_51 : CS RL 51 yX5_way := Or.inl (tbm 598 (by decide +kernel))
theorem cs_X5_173 : CS RX5 173 yX5_goAll := Or.inl (tbm 602 (by decide +kernel))
theorem cs_X5_160 : CS RX5 160 yX5_takes := Or.inl (tbm 606 (by decide +kernel))
theorem cs_X5_144 : CS RX5 144 yX5_productUp := Or.inl (tbm 610 (by decide +kernel))
theorem cs_X5_148 : CS RX5 148 yX5_productDown := Or.inl (tbm 614 (by decide +kernel))
theorem cs_X5_169 : CS RX5 169 yX5_isOn := Or.inl (tbm 618 (by decide +kernel))
theorem cs_X5_177 : CS RX5 177 yX5_keep := Or.inl (tbm 622 (by decide +kernel))
theorem cs_L_56 : CS RL 56 yX5_ring := Or.inl (tbm 626 (by decide +kernel))
theorem cs_X5_181 : CS RX5 181 yX5_findRings := Or.inl (tbm 630 (by decide +kernel))
theorem cs_L_61 : CS RL 61 yX5_row := Or.inl (tbm 634 (by decide +kernel))
theorem cs_L_66 : CS RL 66 yX5_gain := Or.inl (tbm 638 (by decide +kernel))
theorem cs_L_71 : CS RL 71 yX5_send := Or.inl (tbm 642 (by decide +kernel))
theorem cs_L_76 : CS RL 76 yX5_right := Or.inl (tbm 646 (by decide +kernel))
theorem cs_X5_186 : CS RX5 186 yX5_arrives := Or.inl (tbm 650 (by decide +kernel))
theorem cs_X5_189 : CS RX5 189 yX5_leaves := Or.inl (tbm 655 (by decide +kernel))
theorem cs_L_80 : CS RL 80 yX5_left := Or.inl (tbm 659 (by decide +kernel))
theorem cs_L_84 : CS RL 84 yX5_count := Or.inl (tbm 663 (by decide +kernel))
theorem cs_L_88 : CS RL 88 yX5_image := Or.inl (tbm 667 (by decide +kernel))
theorem cs_X5_192 : CS RX5 192 yX5_copy := Or.inl (tbm 671 (by decide +kernel))
theorem cs_X5_85 : CS RX5 85 yX5_move := Or.inl (tbm 675 (by decide +kernel))
theorem cs_L_92 : CS RL 92 yX5_again := Or.inl (tbm 678 (by decide +kernel))
theorem lk_X4_83 : Cond.constantLong RX4 83 (Int64.ofInt (-1)) ∈ lw_tbl := tbm 246 (by decide +kernel)
theorem lk_X2_96 : Cond.constantLong RX2 96 (Int64.ofInt (2520)) ∈ lw_tbl := tbm 289 (by decide +kernel)
theorem lk_X1_56 : Cond.constantLong RX1 56 (Int64.ofInt (2520)) ∈ lw_tbl := tbm 399 (by decide +kernel)
theorem lk_X4_142 : Cond.constantLong RX4 142 (Int64.ofInt (6350400)) ∈ lw_tbl := tbm 404 (by decide +kernel)
theorem lk_X5_135 : Cond.constantLong RX5 135 (Int64.ofInt (-1)) ∈ lw_tbl := tbm 570 (by decide +kernel)
theorem lk_X5_184 : Cond.constantLong RX5 184 (Int64.ofInt (6350400)) ∈ lw_tbl := tbm 654 (by decide +kernel)
theorem j_max1 : Cond.static Lib.Math.max.name ∈ lw_tbl := tbm 256 (by decide +kernel)
theorem j_max2 : Cond.code Lib.Math.max.name Lib.Math.max.code 2 (some .int) ∈ lw_tbl := tbm 257 (by decide +kernel)
theorem j_abs1 : Cond.static Lib.MathLoose.abs_long.x ∈ lw_tbl := tbm 295 (by decide +kernel)
theorem j_abs2 : Cond.code Lib.MathLoose.abs_long.x Lib.MathLoose.abs_long.code 2 (some .long) ∈ lw_tbl := tbm 296 (by decide +kernel)
theorem j_math : Cond.initialized "java/lang/Math" ∈ lw_tbl := tbm 7 (by decide +kernel)
theorem j_sys : Cond.initialized "java/lang/System" ∈ lw_tbl := tbm 8 (by decide +kernel)
theorem j_cp1 : Cond.native arraycopyName ∈ lw_tbl := tbm 357 (by decide +kernel)
theorem j_cp2 : Cond.static arraycopyName ∈ lw_tbl := tbm 356 (by decide +kernel)
end
section
section FRW
variable {G : GG} {E : EE} {cc : ByteArray} {nL : Nat} {n0 d kc wc pc : Nat} {lv st : List Value} {n k w : Nat} {rf : RF} {M : MM}
theorem gf_X1_9 (A : Am G E cc nL RX1 n0 d kc wc) {a len : Nat} (D : decode cc pc = .ok (.getfield 9, 3)) (hl : ly a = (1, len)) (ha : a < n) {x : Int} (hv : M a 0 = x) (kk : AW G E nL (pc + 3) lv (vi x :: st) n k w rf M) : AW G E nL pc lv (.ref a :: st) n k w rf M := a_getI A cf1 hl ha 0 (by decide) fl_X1_9 (Or.inl rfl) D hv kk
theorem pf_X1_9 (A : Am G E cc nL RX1 n0 d kc wc) {a len : Nat} {x : Int} (D : decode cc pc = .ok (.putfield 9, 3)) (hl : ly a = (1, len)) (ha : a < n) (kk : AW G E nL (pc + 3) lv st n k w rf (up2 M a 0 x)) : AW G E nL pc lv (vi x :: .ref a :: st) n k w rf M := a_putI A cf1 hl ha 0 (by decide) fl_X1_9 rfl rfl D kk
theorem gf_X4_55 (A : Am G E cc nL RX4 n0 d kc wc) {a len : Nat} (D : decode cc pc = .ok (.getfield 55, 3)) (hl : ly a = (1, len)) (ha : a < n) {x : Int} (hv : M a 0 = x) (kk : AW G E nL (pc + 3) lv (vi x :: st) n k w rf M) : AW G E nL pc lv (.ref a :: st) n k w rf M := a_getI A cf1 hl ha 0 (by decide) fl_X4_55 (Or.inl rfl) D hv kk
theorem pf_X4_55 (A : Am G E cc nL RX4 n0 d kc wc) {a len : Nat} {x : Int} (D : decode cc pc = .ok (.putfield 55, 3)) (hl : ly a = (1, len)) (ha : a < n) (kk : AW G E nL (pc + 3) lv st n k w rf (up2 M a 0 x)) : AW G E nL pc lv (vi x :: .ref a :: st) n k w rf M := a_putI A cf1 hl ha 0 (by decide) fl_X4_55 rfl rfl D kk
theorem gf_X3_53 (A : Am G E cc nL RX3 n0 d kc wc) {a len : Nat} (D : decode cc pc = .ok (.getfield 53, 3)) (hl : ly a = (1, len)) (ha : a < n) {x : Int} (hv : M a 0 = x) (kk : AW G E nL (pc + 3) lv (vi x :: st) n k w rf M) : AW G E nL pc lv (.ref a :: st) n k w rf M := a_getI A cf1 hl ha 0 (by decide) fl_X3_53 (Or.inl rfl) D hv kk
theorem pf_X3_53 (A : Am G E cc nL RX3 n0 d kc wc) {a len : Nat} {x : Int} (D : decode cc pc = .ok (.putfield 53, 3)) (hl : ly a = (1, len)) (ha : a < n) (kk : AW G E nL (pc + 3) lv st n k w rf (up2 M a 0 x)) : AW G E nL pc lv (vi x :: .ref a :: st) n k w rf M := a_putI A cf1 hl ha 0 (by decide) fl_X3_53 rfl rfl D kk
theorem gf_X1_15 (A : Am G E cc nL RX1 n0 d kc wc) {a len : Nat} (D : decode cc pc = .ok (.getfield 15, 3)) (hl : ly a = (1, len)) (ha : a < n) {x : Int} (hv : M a 1 = x) (kk : AW G E nL (pc + 3) lv (vi x :: st) n k w rf M) : AW G E nL pc lv (.ref a :: st) n k w rf M := a_getI A cf1 hl ha 1 (by decide) fl_X1_15 (Or.inl rfl) D hv kk
theorem pf_X1_15 (A : Am G E cc nL RX1 n0 d kc wc) {a len : Nat} {x : Int} (D : decode cc pc = .ok (.putfield 15, 3)) (hl : ly a = (1, len)) (ha : a < n) (kk : AW G E nL (pc + 3) lv st n k w rf (up2 M a 1 x)) : AW G E nL pc lv (vi x :: .ref a :: st) n k w rf M := a_putI A cf1 hl ha 1 (by decide) fl_X1_15 rfl rfl D kk
theorem gf_X2_68 (A : Am G E cc nL RX2 n0 d kc wc) {a len : Nat} (D : decode cc pc = .ok (.getfield 68, 3)) (hl : ly a = (1, len)) (ha : a < n) {x : Int} (hv : M a 1 = x) (kk : AW G E nL (pc + 3) lv (vi x :: st) n k w rf M) : AW G E nL pc lv (.ref a :: st) n k w rf M := a_getI A cf1 hl ha 1 (by decide) fl_X2_68 (Or.inl rfl) D hv kk
theorem pf_X2_68 (A : Am G E cc nL RX2 n0 d kc wc) {a len : Nat} {x : Int} (D : decode cc pc = .ok (.putfield 68, 3)) (hl : ly a = (1, len)) (ha : a < n) (kk : AW G E nL (pc + 3) lv st n k w rf (up2 M a 1 x)) : AW G E nL pc lv (vi x :: .ref a :: st) n k w rf M := a_putI A cf1 hl ha 1 (by decide) fl_X2_68 rfl rfl D kk
theorem gf_X4_59 (A : Am G E cc nL RX4 n0 d kc wc) {a len : Nat} (D : decode cc pc = .ok (.getfield 59, 3)) (hl : ly a = (1, len)) (ha : a < n) {x : Int} (hv : M a 1 = x) (kk : AW G E nL (pc + 3) lv (vi x :: st) n k w rf M) : AW G E nL pc lv (.ref a :: st) n k w rf M := a_getI A cf1 hl ha 1 (by decide) fl_X4_59 (Or.inl rfl) D hv kk
theorem pf_X4_59 (A : Am G E cc nL RX4 n0 d kc wc) {a len : Nat} {x : Int} (D : decode cc pc = .ok (.putfield 59, 3)) (hl : ly a = (1, len)) (ha : a < n) (kk : AW G E nL (pc + 3) lv st n k w rf (up2 M a 1 x)) : AW G E nL pc lv (vi x :: .ref a :: st) n k w rf M := a_putI A cf1 hl ha 1 (by decide) fl_X4_59 rfl rfl D kk
theorem gf_X3_58 (A : Am G E cc nL RX3 n0 d kc wc) {a len : Nat} (D : decode cc pc = .ok (.getfield 58, 3)) (hl : ly a = (1, len)) (ha : a < n) {x : Int} (hv : M a 1 = x) (kk : AW G E nL (pc + 3) lv (vi x :: st) n k w rf M) : AW G E nL pc lv (.ref a :: st) n k w rf M := a_getI A cf1 hl ha 1 (by decide) fl_X3_58 (Or.inl rfl) D hv kk
theorem pf_X3_58 (A : Am G E cc nL RX3 n0 d kc wc) {a len : Nat} {x : Int} (D : decode cc pc = .ok (.putfield 58, 3)) (hl : ly a = (1, len)) (ha : a < n) (kk : AW G E nL (pc + 3) lv st n k w rf (up2 M a 1 x)) : AW G E nL pc lv (vi x :: .ref a :: st) n k w rf M := a_putI A cf1 hl ha 1 (by decide) fl_X3_58 rfl rfl D kk
theorem gf_X1_20 (A : Am G E cc nL RX1 n0 d kc wc) {a len r : Nat} (D : decode cc pc = .ok (.getfield 20, 3)) (hl : ly a = (1, len)) (ha : a < n) (hr : rf a 2 = some r) (kk : AW G E nL (pc + 3) lv (.ref r :: st) n k w rf M) : AW G E nL pc lv (.ref a :: st) n k w rf M := a_getR A cf1 hl ha 2 (by decide) fl_X1_20 (Or.inr ⟨_, rfl⟩) hr D kk
theorem pf_X1_20 (A : Am G E cc nL RX1 n0 d kc wc) {a len r : Nat} (hm : (eT E).name = "<init>") (D : decode cc pc = .ok (.putfield 20, 3)) (hl : ly a = (1, len)) (ha : a < n) (kk : AW G E nL (pc + 3) lv st n k w (upr rf a 2 (some r)) M) : AW G E nL pc lv (.ref r :: .ref a :: st) n k w rf M := a_putR A cf1 hl ha 2 (by decide) fk_X1_20 (Or.inr ⟨_, rfl⟩) rfl hm rfl D kk
theorem gf_X2_71 (A : Am G E cc nL RX2 n0 d kc wc) {a len r : Nat} (D : decode cc pc = .ok (.getfield 71, 3)) (hl : ly a = (1, len)) (ha : a < n) (hr : rf a 2 = some r) (kk : AW G E nL (pc + 3) lv (.ref r :: st) n k w rf M) : AW G E nL pc lv (.ref a :: st) n k w rf M := a_getR A cf1 hl ha 2 (by decide) fl_X2_71 (Or.inr ⟨_, rfl⟩) hr D kk
theorem gf_X4_76 (A : Am G E cc nL RX4 n0 d kc wc) {a len r : Nat} (D : decode cc pc = .ok (.getfield 76, 3)) (hl : ly a = (1, len)) (ha : a < n) (hr : rf a 2 = some r) (kk : AW G E nL (pc + 3) lv (.ref r :: st) n k w rf M) : AW G E nL pc lv (.ref a :: st) n k w rf M := a_getR A cf1 hl ha 2 (by decide) fl_X4_76 (Or.inr ⟨_, rfl⟩) hr D kk
theorem gf_X3_61 (A : Am G E cc nL RX3 n0 d kc wc) {a len r : Nat} (D : decode cc pc = .ok (.getfield 61, 3)) (hl : ly a = (1, len)) (ha : a < n) (hr : rf a 2 = some r) (kk : AW G E nL (pc + 3) lv (.ref r :: st) n k w rf M) : AW G E nL pc lv (.ref a :: st) n k w rf M := a_getR A cf1 hl ha 2 (by decide) fl_X3_61 (Or.inr ⟨_, rfl⟩) hr D kk
theorem gf_X1_23 (A : Am G E cc nL RX1 n0 d kc wc) {a len r : Nat} (D : decode cc pc = .ok (.getfield 23, 3)) (hl : ly a = (1, len)) (ha : a < n) (hr : rf a 3 = some r) (kk : AW G E nL (pc + 3) lv (.ref r :: st) n k w rf M) : AW G E nL pc lv (.ref a :: st) n k w rf M := a_getR A cf1 hl ha 3 (by decide) fl_X1_23 (Or.inr ⟨_, rfl⟩) hr D kk
theorem pf_X1_23 (A : Am G E cc nL RX1 n0 d kc wc) {a len r : Nat} (hm : (eT E).name = "<init>") (D : decode cc pc = .ok (.putfield 23, 3)) (hl : ly a = (1, len)) (ha : a < n) (kk : AW G E nL (pc + 3) lv st n k w (upr rf a 3 (some r)) M) : AW G E nL pc lv (.ref r :: .ref a :: st) n k w rf M := a_putR A cf1 hl ha 3 (by decide) fk_X1_23 (Or.inr ⟨_, rfl⟩) rfl hm rfl D kk
theorem gf_X4_123 (A : Am G E cc nL RX4 n0 d kc wc) {a len r : Nat} (D : decode cc pc = .ok (.getfield 123, 3)) (hl : ly a = (1, len)) (ha : a < n) (hr : rf a 3 = some r) (kk : AW G E nL (pc + 3) lv (.ref r :: st) n k w rf M) : AW G E nL pc lv (.ref a :: st) n k w rf M := a_getR A cf1 hl ha 3 (by decide) fl_X4_123 (Or.inr ⟨_, rfl⟩) hr D kk
theorem gf_X1_27 (A : Am G E cc nL RX1 n0 d kc wc) {a len : Nat} (D : decode cc pc = .ok (.getfield 27, 3)) (hl : ly a = (1, len)) (ha : a < n) {x : Int} (hv : M a 4 = x) (kk : AW G E nL (pc + 3) lv (vi x :: st) n k w rf M) : AW G E nL pc lv (.ref a :: st) n k w rf M := a_getI A cf1 hl ha 4 (by decide) fl_X1_27 (Or.inl rfl) D hv kk
theorem pf_X1_27 (A : Am G E cc nL RX1 n0 d kc wc) {a len : Nat} {x : Int} (D : decode cc pc = .ok (.putfield 27, 3)) (hl : ly a = (1, len)) (ha : a < n) (kk : AW G E nL (pc + 3) lv st n k w rf (up2 M a 4 x)) : AW G E nL pc lv (vi x :: .ref a :: st) n k w rf M := a_putI A cf1 hl ha 4 (by decide) fl_X1_27 rfl rfl D kk
theorem gf_X4_120 (A : Am G E cc nL RX4 n0 d kc wc) {a len : Nat} (D : decode cc pc = .ok (.getfield 120, 3)) (hl : ly a = (1, len)) (ha : a < n) {x : Int} (hv : M a 4 = x) (kk : AW G E nL (pc + 3) lv (vi x :: st) n k w rf M) : AW G E nL pc lv (.ref a :: st) n k w rf M := a_getI A cf1 hl ha 4 (by decide) fl_X4_120 (Or.inl rfl) D hv kk
theorem pf_X4_120 (A : Am G E cc nL RX4 n0 d kc wc) {a len : Nat} {x : Int} (D : decode cc pc = .ok (.putfield 120, 3)) (hl : ly a = (1, len)) (ha : a < n) (kk : AW G E nL (pc + 3) lv st n k w rf (up2 M a 4 x)) : AW G E nL pc lv (vi x :: .ref a :: st) n k w rf M := a_putI A cf1 hl ha 4 (by decide) fl_X4_120 rfl rfl D kk
theorem gf_X0_7 (A : Am G E cc nL RX0 n0 d kc wc) {a len : Nat} (D : decode cc pc = .ok (.getfield 7, 3)) (hl : ly a = (0, len)) (ha : a < n) {x : Int} (hv : M a 0 = x) (kk : AW G E nL (pc + 3) lv (vl x :: st) n k w rf M) : AW G E nL pc lv (.ref a :: st) n k w rf M := a_getL A cf0 hl ha 0 (by decide) fl_X0_7 rfl D hv kk
theorem pf_X0_7 (A : Am G E cc nL RX0 n0 d kc wc) {a len : Nat} {x : Int} (D : decode cc pc = .ok (.putfield 7, 3)) (hl : ly a = (0, len)) (ha : a < n) (kk : AW G E nL (pc + 3) lv st n k w rf (up2 M a 0 x)) : AW G E nL pc lv (vl x :: .ref a :: st) n k w rf M := a_putL A cf0 hl ha 0 (by decide) fl_X0_7 rfl rfl D kk
theorem gf_X0_13 (A : Am G E cc nL RX0 n0 d kc wc) {a len : Nat} (D : decode cc pc = .ok (.getfield 13, 3)) (hl : ly a = (0, len)) (ha : a < n) {x : Int} (hv : M a 1 = x) (kk : AW G E nL (pc + 3) lv (vl x :: st) n k w rf M) : AW G E nL pc lv (.ref a :: st) n k w rf M := a_getL A cf0 hl ha 1 (by decide) fl_X0_13 rfl D hv kk
theorem pf_X0_13 (A : Am G E cc nL RX0 n0 d kc wc) {a len : Nat} {x : Int} (D : decode cc pc = .ok (.putfield 13, 3)) (hl : ly a = (0, len)) (ha : a < n) (kk : AW G E nL (pc + 3) lv st n k w rf (up2 M a 1 x)) : AW G E nL pc lv (vl x :: .ref a :: st) n k w rf M := a_putL A cf0 hl ha 1 (by decide) fl_X0_13 rfl rfl D kk
theorem gf_X3_9 (A : Am G E cc nL RX3 n0 d kc wc) {a len r : Nat} (D : decode cc pc = .ok (.getfield 9, 3)) (hl : ly a = (3, len)) (ha : a < n) (hr : rf a 0 = some r) (kk : AW G E nL (pc + 3) lv (.ref r :: st) n k w rf M) : AW G E nL pc lv (.ref a :: st) n k w rf M := a_getR A cf3 hl ha 0 (by decide) fl_X3_9 (Or.inr ⟨_, rfl⟩) hr D kk
theorem pf_X3_9 (A : Am G E cc nL RX3 n0 d kc wc) {a len r : Nat} (hm : (eT E).name = "<init>") (D : decode cc pc = .ok (.putfield 9, 3)) (hl : ly a = (3, len)) (ha : a < n) (kk : AW G E nL (pc + 3) lv st n k w (upr rf a 0 (some r)) M) : AW G E nL pc lv (.ref r :: .ref a :: st) n k w rf M := a_putR A cf3 hl ha 0 (by decide) fk_X3_9 (Or.inr ⟨_, rfl⟩) rfl hm rfl D kk
theorem gf_X3_18 (A : Am G E cc nL RX3 n0 d kc wc) {a len r : Nat} (D : decode cc pc = .ok (.getfield 18, 3)) (hl : ly a = (3, len)) (ha : a < n) (hr : rf a 1 = some r) (kk : AW G E nL (pc + 3) lv (.ref r :: st) n k w rf M) : AW G E nL pc lv (.ref a :: st) n k w rf M := a_getR A cf3 hl ha 1 (by decide) fl_X3_18 (Or.inl ⟨_, rfl⟩) hr D kk
theorem pf_X3_18 (A : Am G E cc nL RX3 n0 d kc wc) {a len r : Nat} (hm : (eT E).name = "<init>") (D : decode cc pc = .ok (.putfield 18, 3)) (hl : ly a = (3, len)) (ha : a < n) (kk : AW G E nL (pc + 3) lv st n k w (upr rf a 1 (some r)) M) : AW G E nL pc lv (.ref r :: .ref a :: st) n k w rf M := a_putR A cf3 hl ha 1 (by decide) fk_X3_18 (Or.inl ⟨_, rfl⟩) rfl hm rfl D kk
theorem gf_X3_22 (A : Am G E cc nL RX3 n0 d kc wc) {a len r : Nat} (D : decode cc pc = .ok (.getfield 22, 3)) (hl : ly a = (3, len)) (ha : a < n) (hr : rf a 2 = some r) (kk : AW G E nL (pc + 3) lv (.ref r :: st) n k w rf M) : AW G E nL pc lv (.ref a :: st) n k w rf M := a_getR A cf3 hl ha 2 (by decide) fl_X3_22 (Or.inr ⟨_, rfl⟩) hr D kk
theorem pf_X3_22 (A : Am G E cc nL RX3 n0 d kc wc) {a len r : Nat} (hm : (eT E).name = "<init>") (D : decode cc pc = .ok (.putfield 22, 3)) (hl : ly a = (3, len)) (ha : a < n) (kk : AW G E nL (pc + 3) lv st n k w (upr rf a 2 (some r)) M) : AW G E nL pc lv (.ref r :: .ref a :: st) n k w rf M := a_putR A cf3 hl ha 2 (by decide) fk_X3_22 (Or.inr ⟨_, rfl⟩) rfl hm rfl D kk
theorem gf_X4_156 (A : Am G E cc nL RX4 n0 d kc wc) {a len r : Nat} (D : decode cc pc = .ok (.getfield 156, 3)) (hl : ly a = (3, len)) (ha : a < n) (hr : rf a 2 = some r) (kk : AW G E nL (pc + 3) lv (.ref r :: st) n k w rf M) : AW G E nL pc lv (.ref a :: st) n k w rf M := a_getR A cf3 hl ha 2 (by decide) fl_X4_156 (Or.inr ⟨_, rfl⟩) hr D kk
theorem gf_X3_25 (A : Am G E cc nL RX3 n0 d kc wc) {a len r : Nat} (D : decode cc pc = .ok (.getfield 25, 3)) (hl : ly a = (3, len)) (ha : a < n) (hr : rf a 3 = some r) (kk : AW G E nL (pc + 3) lv (.ref r :: st) n k w rf M) : AW G E nL pc lv (.ref a :: st) n k w rf M := a_getR A cf3 hl ha 3 (by decide) fl_X3_25 (Or.inl ⟨_, rfl⟩) hr D kk
theorem pf_X3_25 (A : Am G E cc nL RX3 n0 d kc wc) {a len r : Nat} (hm : (eT E).name = "<init>") (D : decode cc pc = .ok (.putfield 25, 3)) (hl : ly a = (3, len)) (ha : a < n) (kk : AW G E nL (pc + 3) lv st n k w (upr rf a 3 (some r)) M) : AW G E nL pc lv (.ref r :: .ref a :: st) n k w rf M := a_putR A cf3 hl ha 3 (by decide) fk_X3_25 (Or.inl ⟨_, rfl⟩) rfl hm rfl D kk
theorem gf_X3_28 (A : Am G E cc nL RX3 n0 d kc wc) {a len : Nat} (D : decode cc pc = .ok (.getfield 28, 3)) (hl : ly a = (3, len)) (ha : a < n) {x : Int} (hv : M a 4 = x) (kk : AW G E nL (pc + 3) lv (vi x :: st) n k w rf M) : AW G E nL pc lv (.ref a :: st) n k w rf M := a_getI A cf3 hl ha 4 (by decide) fl_X3_28 (Or.inl rfl) D hv kk
theorem pf_X3_28 (A : Am G E cc nL RX3 n0 d kc wc) {a len : Nat} {x : Int} (D : decode cc pc = .ok (.putfield 28, 3)) (hl : ly a = (3, len)) (ha : a < n) (kk : AW G E nL (pc + 3) lv st n k w rf (up2 M a 4 x)) : AW G E nL pc lv (vi x :: .ref a :: st) n k w rf M := a_putI A cf3 hl ha 4 (by decide) fl_X3_28 rfl rfl D kk
theorem gf_X4_153 (A : Am G E cc nL RX4 n0 d kc wc) {a len : Nat} (D : decode cc pc = .ok (.getfield 153, 3)) (hl : ly a = (3, len)) (ha : a < n) {x : Int} (hv : M a 4 = x) (kk : AW G E nL (pc + 3) lv (vi x :: st) n k w rf M) : AW G E nL pc lv (.ref a :: st) n k w rf M := a_getI A cf3 hl ha 4 (by decide) fl_X4_153 (Or.inl rfl) D hv kk
theorem pf_X4_153 (A : Am G E cc nL RX4 n0 d kc wc) {a len : Nat} {x : Int} (D : decode cc pc = .ok (.putfield 153, 3)) (hl : ly a = (3, len)) (ha : a < n) (kk : AW G E nL (pc + 3) lv st n k w rf (up2 M a 4 x)) : AW G E nL pc lv (vi x :: .ref a :: st) n k w rf M := a_putI A cf3 hl ha 4 (by decide) fl_X4_153 rfl rfl D kk
theorem gf_X3_32 (A : Am G E cc nL RX3 n0 d kc wc) {a len : Nat} (D : decode cc pc = .ok (.getfield 32, 3)) (hl : ly a = (3, len)) (ha : a < n) {x : Int} (hv : M a 5 = x) (kk : AW G E nL (pc + 3) lv (vi x :: st) n k w rf M) : AW G E nL pc lv (.ref a :: st) n k w rf M := a_getI A cf3 hl ha 5 (by decide) fl_X3_32 (Or.inl rfl) D hv kk
theorem pf_X3_32 (A : Am G E cc nL RX3 n0 d kc wc) {a len : Nat} {x : Int} (D : decode cc pc = .ok (.putfield 32, 3)) (hl : ly a = (3, len)) (ha : a < n) (kk : AW G E nL (pc + 3) lv st n k w rf (up2 M a 5 x)) : AW G E nL pc lv (vi x :: .ref a :: st) n k w rf M := a_putI A cf3 hl ha 5 (by decide) fl_X3_32 rfl rfl D kk
theorem gf_X3_35 (A : Am G E cc nL RX3 n0 d kc wc) {a len : Nat} (D : decode cc pc = .ok (.getfield 35, 3)) (hl : ly a = (3, len)) (ha : a < n) {x : Int} (hv : M a 6 = x) (kk : AW G E nL (pc + 3) lv (vi x :: st) n k w rf M) : AW G E nL pc lv (.ref a :: st) n k w rf M := a_getI A cf3 hl ha 6 (by decide) fl_X3_35 (Or.inr rfl) D hv kk
theorem pf_X3_35 (A : Am G E cc nL RX3 n0 d kc wc) {a len : Nat} {x : Int} (D : decode cc pc = .ok (.putfield 35, 3)) (hl : ly a = (3, len)) (ha : a < n) (hx : x = 0 ∨ x = 1) (kk : AW G E nL (pc + 3) lv st n k w rf (up2 M a 6 x)) : AW G E nL pc lv (vi x :: .ref a :: st) n k w rf M := a_putZ A cf3 hl ha 6 (by decide) fl_X3_35 rfl rfl D hx kk
theorem gf_X3_39 (A : Am G E cc nL RX3 n0 d kc wc) {a len : Nat} (D : decode cc pc = .ok (.getfield 39, 3)) (hl : ly a = (3, len)) (ha : a < n) {x : Int} (hv : M a 7 = x) (kk : AW G E nL (pc + 3) lv (vi x :: st) n k w rf M) : AW G E nL pc lv (.ref a :: st) n k w rf M := a_getI A cf3 hl ha 7 (by decide) fl_X3_39 (Or.inl rfl) D hv kk
theorem pf_X3_39 (A : Am G E cc nL RX3 n0 d kc wc) {a len : Nat} {x : Int} (D : decode cc pc = .ok (.putfield 39, 3)) (hl : ly a = (3, len)) (ha : a < n) (kk : AW G E nL (pc + 3) lv st n k w rf (up2 M a 7 x)) : AW G E nL pc lv (vi x :: .ref a :: st) n k w rf M := a_putI A cf3 hl ha 7 (by decide) fl_X3_39 rfl rfl D kk
theorem gf_X4_144 (A : Am G E cc nL RX4 n0 d kc wc) {a len : Nat} (D : decode cc pc = .ok (.getfield 144, 3)) (hl : ly a = (3, len)) (ha : a < n) {x : Int} (hv : M a 7 = x) (kk : AW G E nL (pc + 3) lv (vi x :: st) n k w rf M) : AW G E nL pc lv (.ref a :: st) n k w rf M := a_getI A cf3 hl ha 7 (by decide) fl_X4_144 (Or.inl rfl) D hv kk
theorem pf_X4_144 (A : Am G E cc nL RX4 n0 d kc wc) {a len : Nat} {x : Int} (D : decode cc pc = .ok (.putfield 144, 3)) (hl : ly a = (3, len)) (ha : a < n) (kk : AW G E nL (pc + 3) lv st n k w rf (up2 M a 7 x)) : AW G E nL pc lv (vi x :: .ref a :: st) n k w rf M := a_putI A cf3 hl ha 7 (by decide) fl_X4_144 rfl rfl D kk
theorem gf_X3_42 (A : Am G E cc nL RX3 n0 d kc wc) {a len : Nat} (D : decode cc pc = .ok (.getfield 42, 3)) (hl : ly a = (3, len)) (ha : a < n) {x : Int} (hv : M a 8 = x) (kk : AW G E nL (pc + 3) lv (vi x :: st) n k w rf M) : AW G E nL pc lv (.ref a :: st) n k w rf M := a_getI A cf3 hl ha 8 (by decide) fl_X3_42 (Or.inl rfl) D hv kk
theorem pf_X3_42 (A : Am G E cc nL RX3 n0 d kc wc) {a len : Nat} {x : Int} (D : decode cc pc = .ok (.putfield 42, 3)) (hl : ly a = (3, len)) (ha : a < n) (kk : AW G E nL (pc + 3) lv st n k w rf (up2 M a 8 x)) : AW G E nL pc lv (vi x :: .ref a :: st) n k w rf M := a_putI A cf3 hl ha 8 (by decide) fl_X3_42 rfl rfl D kk
theorem gf_X4_147 (A : Am G E cc nL RX4 n0 d kc wc) {a len : Nat} (D : decode cc pc = .ok (.getfield 147, 3)) (hl : ly a = (3, len)) (ha : a < n) {x : Int} (hv : M a 8 = x) (kk : AW G E nL (pc + 3) lv (vi x :: st) n k w rf M) : AW G E nL pc lv (.ref a :: st) n k w rf M := a_getI A cf3 hl ha 8 (by decide) fl_X4_147 (Or.inl rfl) D hv kk
theorem pf_X4_147 (A : Am G E cc nL RX4 n0 d kc wc) {a len : Nat} {x : Int} (D : decode cc pc = .ok (.putfield 147, 3)) (hl : ly a = (3, len)) (ha : a < n) (kk : AW G E nL (pc + 3) lv st n k w rf (up2 M a 8 x)) : AW G E nL pc lv (vi x :: .ref a :: st) n k w rf M := a_putI A cf3 hl ha 8 (by decide) fl_X4_147 rfl rfl D kk
theorem gf_X2_9 (A : Am G E cc nL RX2 n0 d kc wc) {a len r : Nat} (D : decode cc pc = .ok (.getfield 9, 3)) (hl : ly a = (2, len)) (ha : a < n) (hr : rf a 0 = some r) (kk : AW G E nL (pc + 3) lv (.ref r :: st) n k w rf M) : AW G E nL pc lv (.ref a :: st) n k w rf M := a_getR A cf2 hl ha 0 (by decide) fl_X2_9 (Or.inr ⟨_, rfl⟩) hr D kk
theorem pf_X2_9 (A : Am G E cc nL RX2 n0 d kc wc) {a len r : Nat} (hm : (eT E).name = "<init>") (D : decode cc pc = .ok (.putfield 9, 3)) (hl : ly a = (2, len)) (ha : a < n) (kk : AW G E nL (pc + 3) lv st n k w (upr rf a 0 (some r)) M) : AW G E nL pc lv (.ref r :: .ref a :: st) n k w rf M := a_putR A cf2 hl ha 0 (by decide) fk_X2_9 (Or.inr ⟨_, rfl⟩) rfl hm rfl D kk
theorem gf_X2_15 (A : Am G E cc nL RX2 n0 d kc wc) {a len r : Nat} (D : decode cc pc = .ok (.getfield 15, 3)) (hl : ly a = (2, len)) (ha : a < n) (hr : rf a 1 = some r) (kk : AW G E nL (pc + 3) lv (.ref r :: st) n k w rf M) : AW G E nL pc lv (.ref a :: st) n k w rf M := a_getR A cf2 hl ha 1 (by decide) fl_X2_15 (Or.inr ⟨_, rfl⟩) hr D kk
theorem pf_X2_15 (A : Am G E cc nL RX2 n0 d kc wc) {a len r : Nat} (hm : (eT E).name = "<init>") (D : decode cc pc = .ok (.putfield 15, 3)) (hl : ly a = (2, len)) (ha : a < n) (kk : AW G E nL (pc + 3) lv st n k w (upr rf a 1 (some r)) M) : AW G E nL pc lv (.ref r :: .ref a :: st) n k w rf M := a_putR A cf2 hl ha 1 (by decide) fk_X2_15 (Or.inr ⟨_, rfl⟩) rfl hm rfl D kk
theorem gf_X2_18 (A : Am G E cc nL RX2 n0 d kc wc) {a len r : Nat} (D : decode cc pc = .ok (.getfield 18, 3)) (hl : ly a = (2, len)) (ha : a < n) (hr : rf a 2 = some r) (kk : AW G E nL (pc + 3) lv (.ref r :: st) n k w rf M) : AW G E nL pc lv (.ref a :: st) n k w rf M := a_getR A cf2 hl ha 2 (by decide) fl_X2_18 (Or.inr ⟨_, rfl⟩) hr D kk
theorem pf_X2_18 (A : Am G E cc nL RX2 n0 d kc wc) {a len r : Nat} (hm : (eT E).name = "<init>") (D : decode cc pc = .ok (.putfield 18, 3)) (hl : ly a = (2, len)) (ha : a < n) (kk : AW G E nL (pc + 3) lv st n k w (upr rf a 2 (some r)) M) : AW G E nL pc lv (.ref r :: .ref a :: st) n k w rf M := a_putR A cf2 hl ha 2 (by decide) fk_X2_18 (Or.inr ⟨_, rfl⟩) rfl hm rfl D kk
theorem gf_X2_21 (A : Am G E cc nL RX2 n0 d kc wc) {a len r : Nat} (D : decode cc pc = .ok (.getfield 21, 3)) (hl : ly a = (2, len)) (ha : a < n) (hr : rf a 3 = some r) (kk : AW G E nL (pc + 3) lv (.ref r :: st) n k w rf M) : AW G E nL pc lv (.ref a :: st) n k w rf M := a_getR A cf2 hl ha 3 (by decide) fl_X2_21 (Or.inr ⟨_, rfl⟩) hr D kk
theorem pf_X2_21 (A : Am G E cc nL RX2 n0 d kc wc) {a len r : Nat} (hm : (eT E).name = "<init>") (D : decode cc pc = .ok (.putfield 21, 3)) (hl : ly a = (2, len)) (ha : a < n) (kk : AW G E nL (pc + 3) lv st n k w (upr rf a 3 (some r)) M) : AW G E nL pc lv (.ref r :: .ref a :: st) n k w rf M := a_putR A cf2 hl ha 3 (by decide) fk_X2_21 (Or.inr ⟨_, rfl⟩) rfl hm rfl D kk
theorem gf_X2_24 (A : Am G E cc nL RX2 n0 d kc wc) {a len r : Nat} (D : decode cc pc = .ok (.getfield 24, 3)) (hl : ly a = (2, len)) (ha : a < n) (hr : rf a 4 = some r) (kk : AW G E nL (pc + 3) lv (.ref r :: st) n k w rf M) : AW G E nL pc lv (.ref a :: st) n k w rf M := a_getR A cf2 hl ha 4 (by decide) fl_X2_24 (Or.inr ⟨_, rfl⟩) hr D kk
theorem pf_X2_24 (A : Am G E cc nL RX2 n0 d kc wc) {a len r : Nat} (hm : (eT E).name = "<init>") (D : decode cc pc = .ok (.putfield 24, 3)) (hl : ly a = (2, len)) (ha : a < n) (kk : AW G E nL (pc + 3) lv st n k w (upr rf a 4 (some r)) M) : AW G E nL pc lv (.ref r :: .ref a :: st) n k w rf M := a_putR A cf2 hl ha 4 (by decide) fk_X2_24 (Or.inr ⟨_, rfl⟩) rfl hm rfl D kk
theorem gf_X2_27 (A : Am G E cc nL RX2 n0 d kc wc) {a len : Nat} (D : decode cc pc = .ok (.getfield 27, 3)) (hl : ly a = (2, len)) (ha : a < n) {x : Int} (hv : M a 5 = x) (kk : AW G E nL (pc + 3) lv (vi x :: st) n k w rf M) : AW G E nL pc lv (.ref a :: st) n k w rf M := a_getI A cf2 hl ha 5 (by decide) fl_X2_27 (Or.inl rfl) D hv kk
theorem pf_X2_27 (A : Am G E cc nL RX2 n0 d kc wc) {a len : Nat} {x : Int} (D : decode cc pc = .ok (.putfield 27, 3)) (hl : ly a = (2, len)) (ha : a < n) (kk : AW G E nL (pc + 3) lv st n k w rf (up2 M a 5 x)) : AW G E nL pc lv (vi x :: .ref a :: st) n k w rf M := a_putI A cf2 hl ha 5 (by decide) fl_X2_27 rfl rfl D kk
theorem gf_X2_33 (A : Am G E cc nL RX2 n0 d kc wc) {a len r : Nat} (D : decode cc pc = .ok (.getfield 33, 3)) (hl : ly a = (2, len)) (ha : a < n) (hr : rf a 6 = some r) (kk : AW G E nL (pc + 3) lv (.ref r :: st) n k w rf M) : AW G E nL pc lv (.ref a :: st) n k w rf M := a_getR A cf2 hl ha 6 (by decide) fl_X2_33 (Or.inr ⟨_, rfl⟩) hr D kk
theorem pf_X2_33 (A : Am G E cc nL RX2 n0 d kc wc) {a len r : Nat} (hm : (eT E).name = "<init>") (D : decode cc pc = .ok (.putfield 33, 3)) (hl : ly a = (2, len)) (ha : a < n) (kk : AW G E nL (pc + 3) lv st n k w (upr rf a 6 (some r)) M) : AW G E nL pc lv (.ref r :: .ref a :: st) n k w rf M := a_putR A cf2 hl ha 6 (by decide) fk_X2_33 (Or.inr ⟨_, rfl⟩) rfl hm rfl D kk
theorem gf_X2_36 (A : Am G E cc nL RX2 n0 d kc wc) {a len : Nat} (D : decode cc pc = .ok (.getfield 36, 3)) (hl : ly a = (2, len)) (ha : a < n) {x : Int} (hv : M a 7 = x) (kk : AW G E nL (pc + 3) lv (vi x :: st) n k w rf M) : AW G E nL pc lv (.ref a :: st) n k w rf M := a_getI A cf2 hl ha 7 (by decide) fl_X2_36 (Or.inl rfl) D hv kk
theorem pf_X2_36 (A : Am G E cc nL RX2 n0 d kc wc) {a len : Nat} {x : Int} (D : decode cc pc = .ok (.putfield 36, 3)) (hl : ly a = (2, len)) (ha : a < n) (kk : AW G E nL (pc + 3) lv st n k w rf (up2 M a 7 x)) : AW G E nL pc lv (vi x :: .ref a :: st) n k w rf M := a_putI A cf2 hl ha 7 (by decide) fl_X2_36 rfl rfl D kk
theorem gf_X2_39 (A : Am G E cc nL RX2 n0 d kc wc) {a len r : Nat} (D : decode cc pc = .ok (.getfield 39, 3)) (hl : ly a = (2, len)) (ha : a < n) (hr : rf a 8 = some r) (kk : AW G E nL (pc + 3) lv (.ref r :: st) n k w rf M) : AW G E nL pc lv (.ref a :: st) n k w rf M := a_getR A cf2 hl ha 8 (by decide) fl_X2_39 (Or.inr ⟨_, rfl⟩) hr D kk
theorem pf_X2_39 (A : Am G E cc nL RX2 n0 d kc wc) {a len r : Nat} (hm : (eT E).name = "<init>") (D : decode cc pc = .ok (.putfield 39, 3)) (hl : ly a = (2, len)) (ha : a < n) (kk : AW G E nL (pc + 3) lv st n k w (upr rf a 8 (some r)) M) : AW G E nL pc lv (.ref r :: .ref a :: st) n k w rf M := a_putR A cf2 hl ha 8 (by decide) fk_X2_39 (Or.inr ⟨_, rfl⟩) rfl hm rfl D kk
theorem gf_X2_43 (A : Am G E cc nL RX2 n0 d kc wc) {a len : Nat} (D : decode cc pc = .ok (.getfield 43, 3)) (hl : ly a = (2, len)) (ha : a < n) {x : Int} (hv : M a 9 = x) (kk : AW G E nL (pc + 3) lv (vl x :: st) n k w rf M) : AW G E nL pc lv (.ref a :: st) n k w rf M := a_getL A cf2 hl ha 9 (by decide) fl_X2_43 rfl D hv kk
theorem pf_X2_43 (A : Am G E cc nL RX2 n0 d kc wc) {a len : Nat} {x : Int} (D : decode cc pc = .ok (.putfield 43, 3)) (hl : ly a = (2, len)) (ha : a < n) (kk : AW G E nL (pc + 3) lv st n k w rf (up2 M a 9 x)) : AW G E nL pc lv (vl x :: .ref a :: st) n k w rf M := a_putL A cf2 hl ha 9 (by decide) fl_X2_43 rfl rfl D kk
theorem gf_X2_47 (A : Am G E cc nL RX2 n0 d kc wc) {a len : Nat} (D : decode cc pc = .ok (.getfield 47, 3)) (hl : ly a = (2, len)) (ha : a < n) {x : Int} (hv : M a 10 = x) (kk : AW G E nL (pc + 3) lv (vl x :: st) n k w rf M) : AW G E nL pc lv (.ref a :: st) n k w rf M := a_getL A cf2 hl ha 10 (by decide) fl_X2_47 rfl D hv kk
theorem pf_X2_47 (A : Am G E cc nL RX2 n0 d kc wc) {a len : Nat} {x : Int} (D : decode cc pc = .ok (.putfield 47, 3)) (hl : ly a = (2, len)) (ha : a < n) (kk : AW G E nL (pc + 3) lv st n k w rf (up2 M a 10 x)) : AW G E nL pc lv (vl x :: .ref a :: st) n k w rf M := a_putL A cf2 hl ha 10 (by decide) fl_X2_47 rfl rfl D kk
theorem gf_X2_50 (A : Am G E cc nL RX2 n0 d kc wc) {a len : Nat} (D : decode cc pc = .ok (.getfield 50, 3)) (hl : ly a = (2, len)) (ha : a < n) {x : Int} (hv : M a 11 = x) (kk : AW G E nL (pc + 3) lv (vl x :: st) n k w rf M) : AW G E nL pc lv (.ref a :: st) n k w rf M := a_getL A cf2 hl ha 11 (by decide) fl_X2_50 rfl D hv kk
theorem pf_X2_50 (A : Am G E cc nL RX2 n0 d kc wc) {a len : Nat} {x : Int} (D : decode cc pc = .ok (.putfield 50, 3)) (hl : ly a = (2, len)) (ha : a < n) (kk : AW G E nL (pc + 3) lv st n k w rf (up2 M a 11 x)) : AW G E nL pc lv (vl x :: .ref a :: st) n k w rf M := a_putL A cf2 hl ha 11 (by decide) fl_X2_50 rfl rfl D kk
theorem gf_X2_53 (A : Am G E cc nL RX2 n0 d kc wc) {a len : Nat} (D : decode cc pc = .ok (.getfield 53, 3)) (hl : ly a = (2, len)) (ha : a < n) {x : Int} (hv : M a 12 = x) (kk : AW G E nL (pc + 3) lv (vl x :: st) n k w rf M) : AW G E nL pc lv (.ref a :: st) n k w rf M := a_getL A cf2 hl ha 12 (by decide) fl_X2_53 rfl D hv kk
theorem pf_X2_53 (A : Am G E cc nL RX2 n0 d kc wc) {a len : Nat} {x : Int} (D : decode cc pc = .ok (.putfield 53, 3)) (hl : ly a = (2, len)) (ha : a < n) (kk : AW G E nL (pc + 3) lv st n k w rf (up2 M a 12 x)) : AW G E nL pc lv (vl x :: .ref a :: st) n k w rf M := a_putL A cf2 hl ha 12 (by decide) fl_X2_53 rfl rfl D kk
theorem gf_X2_56 (A : Am G E cc nL RX2 n0 d kc wc) {a len : Nat} (D : decode cc pc = .ok (.getfield 56, 3)) (hl : ly a = (2, len)) (ha : a < n) {x : Int} (hv : M a 13 = x) (kk : AW G E nL (pc + 3) lv (vl x :: st) n k w rf M) : AW G E nL pc lv (.ref a :: st) n k w rf M := a_getL A cf2 hl ha 13 (by decide) fl_X2_56 rfl D hv kk
theorem pf_X2_56 (A : Am G E cc nL RX2 n0 d kc wc) {a len : Nat} {x : Int} (D : decode cc pc = .ok (.putfield 56, 3)) (hl : ly a = (2, len)) (ha : a < n) (kk : AW G E nL (pc + 3) lv st n k w rf (up2 M a 13 x)) : AW G E nL pc lv (vl x :: .ref a :: st) n k w rf M := a_putL A cf2 hl ha 13 (by decide) fl_X2_56 rfl rfl D kk
theorem gf_X2_59 (A : Am G E cc nL RX2 n0 d kc wc) {a len : Nat} (D : decode cc pc = .ok (.getfield 59, 3)) (hl : ly a = (2, len)) (ha : a < n) {x : Int} (hv : M a 14 = x) (kk : AW G E nL (pc + 3) lv (vl x :: st) n k w rf M) : AW G E nL pc lv (.ref a :: st) n k w rf M := a_getL A cf2 hl ha 14 (by decide) fl_X2_59 rfl D hv kk
theorem pf_X2_59 (A : Am G E cc nL RX2 n0 d kc wc) {a len : Nat} {x : Int} (D : decode cc pc = .ok (.putfield 59, 3)) (hl : ly a = (2, len)) (ha : a < n) (kk : AW G E nL (pc + 3) lv st n k w rf (up2 M a 14 x)) : AW G E nL pc lv (vl x :: .ref a :: st) n k w rf M := a_putL A cf2 hl ha 14 (by decide) fl_X2_59 rfl rfl D kk
theorem gf_X2_62 (A : Am G E cc nL RX2 n0 d kc wc) {a len : Nat} (D : decode cc pc = .ok (.getfield 62, 3)) (hl : ly a = (2, len)) (ha : a < n) {x : Int} (hv : M a 15 = x) (kk : AW G E nL (pc + 3) lv (vl x :: st) n k w rf M) : AW G E nL pc lv (.ref a :: st) n k w rf M := a_getL A cf2 hl ha 15 (by decide) fl_X2_62 rfl D hv kk
theorem pf_X2_62 (A : Am G E cc nL RX2 n0 d kc wc) {a len : Nat} {x : Int} (D : decode cc pc = .ok (.putfield 62, 3)) (hl : ly a = (2, len)) (ha : a < n) (kk : AW G E nL (pc + 3) lv st n k w rf (up2 M a 15 x)) : AW G E nL pc lv (vl x :: .ref a :: st) n k w rf M := a_putL A cf2 hl ha 15 (by decide) fl_X2_62 rfl rfl D kk
theorem gf_X2_65 (A : Am G E cc nL RX2 n0 d kc wc) {a len : Nat} (D : decode cc pc = .ok (.getfield 65, 3)) (hl : ly a = (2, len)) (ha : a < n) {x : Int} (hv : M a 16 = x) (kk : AW G E nL (pc + 3) lv (vl x :: st) n k w rf M) : AW G E nL pc lv (.ref a :: st) n k w rf M := a_getL A cf2 hl ha 16 (by decide) fl_X2_65 rfl D hv kk
theorem pf_X2_65 (A : Am G E cc nL RX2 n0 d kc wc) {a len : Nat} {x : Int} (D : decode cc pc = .ok (.putfield 65, 3)) (hl : ly a = (2, len)) (ha : a < n) (kk : AW G E nL (pc + 3) lv st n k w rf (up2 M a 16 x)) : AW G E nL pc lv (vl x :: .ref a :: st) n k w rf M := a_putL A cf2 hl ha 16 (by decide) fl_X2_65 rfl rfl D kk
theorem gf_X4_12 (A : Am G E cc nL RX4 n0 d kc wc) {a len r : Nat} (D : decode cc pc = .ok (.getfield 12, 3)) (hl : ly a = (4, len)) (ha : a < n) (hr : rf a 0 = some r) (kk : AW G E nL (pc + 3) lv (.ref r :: st) n k w rf M) : AW G E nL pc lv (.ref a :: st) n k w rf M := a_getR A cf4 hl ha 0 (by decide) fl_X4_12 (Or.inl ⟨_, rfl⟩) hr D kk
theorem pf_X4_12 (A : Am G E cc nL RX4 n0 d kc wc) {a len r : Nat} (hm : (eT E).name = "<init>") (D : decode cc pc = .ok (.putfield 12, 3)) (hl : ly a = (4, len)) (ha : a < n) (kk : AW G E nL (pc + 3) lv st n k w (upr rf a 0 (some r)) M) : AW G E nL pc lv (.ref r :: .ref a :: st) n k w rf M := a_putR A cf4 hl ha 0 (by decide) fk_X4_12 (Or.inl ⟨_, rfl⟩) rfl hm rfl D kk
theorem gf_X4_16 (A : Am G E cc nL RX4 n0 d kc wc) {a len r : Nat} (D : decode cc pc = .ok (.getfield 16, 3)) (hl : ly a = (4, len)) (ha : a < n) (hr : rf a 1 = some r) (kk : AW G E nL (pc + 3) lv (.ref r :: st) n k w rf M) : AW G E nL pc lv (.ref a :: st) n k w rf M := a_getR A cf4 hl ha 1 (by decide) fl_X4_16 (Or.inr ⟨_, rfl⟩) hr D kk
theorem pf_X4_16 (A : Am G E cc nL RX4 n0 d kc wc) {a len r : Nat} (hm : (eT E).name = "<init>") (D : decode cc pc = .ok (.putfield 16, 3)) (hl : ly a = (4, len)) (ha : a < n) (kk : AW G E nL (pc + 3) lv st n k w (upr rf a 1 (some r)) M) : AW G E nL pc lv (.ref r :: .ref a :: st) n k w rf M := a_putR A cf4 hl ha 1 (by decide) fk_X4_16 (Or.inr ⟨_, rfl⟩) rfl hm rfl D kk
theorem gf_X4_20 (A : Am G E cc nL RX4 n0 d kc wc) {a len r : Nat} (D : decode cc pc = .ok (.getfield 20, 3)) (hl : ly a = (4, len)) (ha : a < n) (hr : rf a 2 = some r) (kk : AW G E nL (pc + 3) lv (.ref r :: st) n k w rf M) : AW G E nL pc lv (.ref a :: st) n k w rf M := a_getR A cf4 hl ha 2 (by decide) fl_X4_20 (Or.inr ⟨_, rfl⟩) hr D kk
theorem pf_X4_20 (A : Am G E cc nL RX4 n0 d kc wc) {a len r : Nat} (hm : (eT E).name = "<init>") (D : decode cc pc = .ok (.putfield 20, 3)) (hl : ly a = (4, len)) (ha : a < n) (kk : AW G E nL (pc + 3) lv st n k w (upr rf a 2 (some r)) M) : AW G E nL pc lv (.ref r :: .ref a :: st) n k w rf M := a_putR A cf4 hl ha 2 (by decide) fk_X4_20 (Or.inr ⟨_, rfl⟩) rfl hm rfl D kk
theorem gf_X4_27 (A : Am G E cc nL RX4 n0 d kc wc) {a len r : Nat} (D : decode cc pc = .ok (.getfield 27, 3)) (hl : ly a = (4, len)) (ha : a < n) (hr : rf a 3 = some r) (kk : AW G E nL (pc + 3) lv (.ref r :: st) n k w rf M) : AW G E nL pc lv (.ref a :: st) n k w rf M := a_getR A cf4 hl ha 3 (by decide) fl_X4_27 (Or.inl ⟨_, rfl⟩) hr D kk
theorem pf_X4_27 (A : Am G E cc nL RX4 n0 d kc wc) {a len r : Nat} (hm : (eT E).name = "<init>") (D : decode cc pc = .ok (.putfield 27, 3)) (hl : ly a = (4, len)) (ha : a < n) (kk : AW G E nL (pc + 3) lv st n k w (upr rf a 3 (some r)) M) : AW G E nL pc lv (.ref r :: .ref a :: st) n k w rf M := a_putR A cf4 hl ha 3 (by decide) fk_X4_27 (Or.inl ⟨_, rfl⟩) rfl hm rfl D kk
theorem gf_X4_34 (A : Am G E cc nL RX4 n0 d kc wc) {a len r : Nat} (D : decode cc pc = .ok (.getfield 34, 3)) (hl : ly a = (4, len)) (ha : a < n) (hr : rf a 4 = some r) (kk : AW G E nL (pc + 3) lv (.ref r :: st) n k w rf M) : AW G E nL pc lv (.ref a :: st) n k w rf M := a_getR A cf4 hl ha 4 (by decide) fl_X4_34 (Or.inl ⟨_, rfl⟩) hr D kk
theorem pf_X4_34 (A : Am G E cc nL RX4 n0 d kc wc) {a len r : Nat} (hm : (eT E).name = "<init>") (D : decode cc pc = .ok (.putfield 34, 3)) (hl : ly a = (4, len)) (ha : a < n) (kk : AW G E nL (pc + 3) lv st n k w (upr rf a 4 (some r)) M) : AW G E nL pc lv (.ref r :: .ref a :: st) n k w rf M := a_putR A cf4 hl ha 4 (by decide) fk_X4_34 (Or.inl ⟨_, rfl⟩) rfl hm rfl D kk
theorem gf_X4_41 (A : Am G E cc nL RX4 n0 d kc wc) {a len r : Nat} (D : decode cc pc = .ok (.getfield 41, 3)) (hl : ly a = (4, len)) (ha : a < n) (hr : rf a 5 = some r) (kk : AW G E nL (pc + 3) lv (.ref r :: st) n k w rf M) : AW G E nL pc lv (.ref a :: st) n k w rf M := a_getR A cf4 hl ha 5 (by decide) fl_X4_41 (Or.inl ⟨_, rfl⟩) hr D kk
theorem pf_X4_41 (A : Am G E cc nL RX4 n0 d kc wc) {a len r : Nat} (hm : (eT E).name = "<init>") (D : decode cc pc = .ok (.putfield 41, 3)) (hl : ly a = (4, len)) (ha : a < n) (kk : AW G E nL (pc + 3) lv st n k w (upr rf a 5 (some r)) M) : AW G E nL pc lv (.ref r :: .ref a :: st) n k w rf M := a_putR A cf4 hl ha 5 (by decide) fk_X4_41 (Or.inl ⟨_, rfl⟩) rfl hm rfl D kk
theorem gf_X4_45 (A : Am G E cc nL RX4 n0 d kc wc) {a len r : Nat} (D : decode cc pc = .ok (.getfield 45, 3)) (hl : ly a = (4, len)) (ha : a < n) (hr : rf a 6 = some r) (kk : AW G E nL (pc + 3) lv (.ref r :: st) n k w rf M) : AW G E nL pc lv (.ref a :: st) n k w rf M := a_getR A cf4 hl ha 6 (by decide) fl_X4_45 (Or.inl ⟨_, rfl⟩) hr D kk
theorem pf_X4_45 (A : Am G E cc nL RX4 n0 d kc wc) {a len r : Nat} (hm : (eT E).name = "<init>") (D : decode cc pc = .ok (.putfield 45, 3)) (hl : ly a = (4, len)) (ha : a < n) (kk : AW G E nL (pc + 3) lv st n k w (upr rf a 6 (some r)) M) : AW G E nL pc lv (.ref r :: .ref a :: st) n k w rf M := a_putR A cf4 hl ha 6 (by decide) fk_X4_45 (Or.inl ⟨_, rfl⟩) rfl hm rfl D kk
theorem gf_X4_48 (A : Am G E cc nL RX4 n0 d kc wc) {a len r : Nat} (D : decode cc pc = .ok (.getfield 48, 3)) (hl : ly a = (4, len)) (ha : a < n) (hr : rf a 7 = some r) (kk : AW G E nL (pc + 3) lv (.ref r :: st) n k w rf M) : AW G E nL pc lv (.ref a :: st) n k w rf M := a_getR A cf4 hl ha 7 (by decide) fl_X4_48 (Or.inl ⟨_, rfl⟩) hr D kk
theorem pf_X4_48 (A : Am G E cc nL RX4 n0 d kc wc) {a len r : Nat} (hm : (eT E).name = "<init>") (D : decode cc pc = .ok (.putfield 48, 3)) (hl : ly a = (4, len)) (ha : a < n) (kk : AW G E nL (pc + 3) lv st n k w (upr rf a 7 (some r)) M) : AW G E nL pc lv (.ref r :: .ref a :: st) n k w rf M := a_putR A cf4 hl ha 7 (by decide) fk_X4_48 (Or.inl ⟨_, rfl⟩) rfl hm rfl D kk
theorem gf_X5_81 (A : Am G E cc nL RX5 n0 d kc wc) {a len : Nat} (D : decode cc pc = .ok (.getfield 81, 3)) (hl : ly a = (5, len)) (ha : a < n) {x : Int} (hv : M a 0 = x) (kk : AW G E nL (pc + 3) lv (vi x :: st) n k w rf M) : AW G E nL pc lv (.ref a :: st) n k w rf M := a_getI A cf5 hl ha 0 (by decide) fl_X5_81 (Or.inl rfl) D hv kk
theorem pf_X5_81 (A : Am G E cc nL RX5 n0 d kc wc) {a len : Nat} {x : Int} (D : decode cc pc = .ok (.putfield 81, 3)) (hl : ly a = (5, len)) (ha : a < n) (kk : AW G E nL (pc + 3) lv st n k w rf (up2 M a 0 x)) : AW G E nL pc lv (vi x :: .ref a :: st) n k w rf M := a_putI A cf5 hl ha 0 (by decide) fl_X5_81 rfl rfl D kk
theorem gf_X5_7 (A : Am G E cc nL RX5 n0 d kc wc) {a len r : Nat} (D : decode cc pc = .ok (.getfield 7, 3)) (hl : ly a = (5, len)) (ha : a < n) (hr : rf a 1 = some r) (kk : AW G E nL (pc + 3) lv (.ref r :: st) n k w rf M) : AW G E nL pc lv (.ref a :: st) n k w rf M := a_getR A cf5 hl ha 1 (by decide) fl_X5_7 (Or.inr ⟨_, rfl⟩) hr D kk
theorem pf_X5_7 (A : Am G E cc nL RX5 n0 d kc wc) {a len r : Nat} (hm : (eT E).name = "<init>") (D : decode cc pc = .ok (.putfield 7, 3)) (hl : ly a = (5, len)) (ha : a < n) (kk : AW G E nL (pc + 3) lv st n k w (upr rf a 1 (some r)) M) : AW G E nL pc lv (.ref r :: .ref a :: st) n k w rf M := a_putR A cf5 hl ha 1 (by decide) fk_X5_7 (Or.inr ⟨_, rfl⟩) rfl hm rfl D kk
theorem gf_X5_13 (A : Am G E cc nL RX5 n0 d kc wc) {a len r : Nat} (D : decode cc pc = .ok (.getfield 13, 3)) (hl : ly a = (5, len)) (ha : a < n) (hr : rf a 2 = some r) (kk : AW G E nL (pc + 3) lv (.ref r :: st) n k w rf M) : AW G E nL pc lv (.ref a :: st) n k w rf M := a_getR A cf5 hl ha 2 (by decide) fl_X5_13 (Or.inr ⟨_, rfl⟩) hr D kk
theorem pf_X5_13 (A : Am G E cc nL RX5 n0 d kc wc) {a len r : Nat} (hm : (eT E).name = "<init>") (D : decode cc pc = .ok (.putfield 13, 3)) (hl : ly a = (5, len)) (ha : a < n) (kk : AW G E nL (pc + 3) lv st n k w (upr rf a 2 (some r)) M) : AW G E nL pc lv (.ref r :: .ref a :: st) n k w rf M := a_putR A cf5 hl ha 2 (by decide) fk_X5_13 (Or.inr ⟨_, rfl⟩) rfl hm rfl D kk
theorem gf_X5_16 (A : Am G E cc nL RX5 n0 d kc wc) {a len r : Nat} (D : decode cc pc = .ok (.getfield 16, 3)) (hl : ly a = (5, len)) (ha : a < n) (hr : rf a 3 = some r) (kk : AW G E nL (pc + 3) lv (.ref r :: st) n k w rf M) : AW G E nL pc lv (.ref a :: st) n k w rf M := a_getR A cf5 hl ha 3 (by decide) fl_X5_16 (Or.inr ⟨_, rfl⟩) hr D kk
theorem pf_X5_16 (A : Am G E cc nL RX5 n0 d kc wc) {a len r : Nat} (hm : (eT E).name = "<init>") (D : decode cc pc = .ok (.putfield 16, 3)) (hl : ly a = (5, len)) (ha : a < n) (kk : AW G E nL (pc + 3) lv st n k w (upr rf a 3 (some r)) M) : AW G E nL pc lv (.ref r :: .ref a :: st) n k w rf M := a_putR A cf5 hl ha 3 (by decide) fk_X5_16 (Or.inr ⟨_, rfl⟩) rfl hm rfl D kk
theorem gf_X5_19 (A : Am G E cc nL RX5 n0 d kc wc) {a len r : Nat} (D : decode cc pc = .ok (.getfield 19, 3)) (hl : ly a = (5, len)) (ha : a < n) (hr : rf a 4 = some r) (kk : AW G E nL (pc + 3) lv (.ref r :: st) n k w rf M) : AW G E nL pc lv (.ref a :: st) n k w rf M := a_getR A cf5 hl ha 4 (by decide) fl_X5_19 (Or.inr ⟨_, rfl⟩) hr D kk
theorem pf_X5_19 (A : Am G E cc nL RX5 n0 d kc wc) {a len r : Nat} (hm : (eT E).name = "<init>") (D : decode cc pc = .ok (.putfield 19, 3)) (hl : ly a = (5, len)) (ha : a < n) (kk : AW G E nL (pc + 3) lv st n k w (upr rf a 4 (some r)) M) : AW G E nL pc lv (.ref r :: .ref a :: st) n k w rf M := a_putR A cf5 hl ha 4 (by decide) fk_X5_19 (Or.inr ⟨_, rfl⟩) rfl hm rfl D kk
theorem gf_X5_22 (A : Am G E cc nL RX5 n0 d kc wc) {a len r : Nat} (D : decode cc pc = .ok (.getfield 22, 3)) (hl : ly a = (5, len)) (ha : a < n) (hr : rf a 5 = some r) (kk : AW G E nL (pc + 3) lv (.ref r :: st) n k w rf M) : AW G E nL pc lv (.ref a :: st) n k w rf M := a_getR A cf5 hl ha 5 (by decide) fl_X5_22 (Or.inr ⟨_, rfl⟩) hr D kk
theorem pf_X5_22 (A : Am G E cc nL RX5 n0 d kc wc) {a len r : Nat} (hm : (eT E).name = "<init>") (D : decode cc pc = .ok (.putfield 22, 3)) (hl : ly a = (5, len)) (ha : a < n) (kk : AW G E nL (pc + 3) lv st n k w (upr rf a 5 (some r)) M) : AW G E nL pc lv (.ref r :: .ref a :: st) n k w rf M := a_putR A cf5 hl ha 5 (by decide) fk_X5_22 (Or.inr ⟨_, rfl⟩) rfl hm rfl D kk
theorem gf_X5_25 (A : Am G E cc nL RX5 n0 d kc wc) {a len r : Nat} (D : decode cc pc = .ok (.getfield 25, 3)) (hl : ly a = (5, len)) (ha : a < n) (hr : rf a 6 = some r) (kk : AW G E nL (pc + 3) lv (.ref r :: st) n k w rf M) : AW G E nL pc lv (.ref a :: st) n k w rf M := a_getR A cf5 hl ha 6 (by decide) fl_X5_25 (Or.inr ⟨_, rfl⟩) hr D kk
theorem pf_X5_25 (A : Am G E cc nL RX5 n0 d kc wc) {a len r : Nat} (hm : (eT E).name = "<init>") (D : decode cc pc = .ok (.putfield 25, 3)) (hl : ly a = (5, len)) (ha : a < n) (kk : AW G E nL (pc + 3) lv st n k w (upr rf a 6 (some r)) M) : AW G E nL pc lv (.ref r :: .ref a :: st) n k w rf M := a_putR A cf5 hl ha 6 (by decide) fk_X5_25 (Or.inr ⟨_, rfl⟩) rfl hm rfl D kk
theorem gf_X5_28 (A : Am G E cc nL RX5 n0 d kc wc) {a len r : Nat} (D : decode cc pc = .ok (.getfield 28, 3)) (hl : ly a = (5, len)) (ha : a < n) (hr : rf a 7 = some r) (kk : AW G E nL (pc + 3) lv (.ref r :: st) n k w rf M) : AW G E nL pc lv (.ref a :: st) n k w rf M := a_getR A cf5 hl ha 7 (by decide) fl_X5_28 (Or.inr ⟨_, rfl⟩) hr D kk
theorem pf_X5_28 (A : Am G E cc nL RX5 n0 d kc wc) {a len r : Nat} (hm : (eT E).name = "<init>") (D : decode cc pc = .ok (.putfield 28, 3)) (hl : ly a = (5, len)) (ha : a < n) (kk : AW G E nL (pc + 3) lv st n k w (upr rf a 7 (some r)) M) : AW G E nL pc lv (.ref r :: .ref a :: st) n k w rf M := a_putR A cf5 hl ha 7 (by decide) fk_X5_28 (Or.inr ⟨_, rfl⟩) rfl hm rfl D kk
theorem gf_X5_31 (A : Am G E cc nL RX5 n0 d kc wc) {a len r : Nat} (D : decode cc pc = .ok (.getfield 31, 3)) (hl : ly a = (5, len)) (ha : a < n) (hr : rf a 8 = some r) (kk : AW G E nL (pc + 3) lv (.ref r :: st) n k w rf M) : AW G E nL pc lv (.ref a :: st) n k w rf M := a_getR A cf5 hl ha 8 (by decide) fl_X5_31 (Or.inr ⟨_, rfl⟩) hr D kk
theorem pf_X5_31 (A : Am G E cc nL RX5 n0 d kc wc) {a len r : Nat} (hm : (eT E).name = "<init>") (D : decode cc pc = .ok (.putfield 31, 3)) (hl : ly a = (5, len)) (ha : a < n) (kk : AW G E nL (pc + 3) lv st n k w (upr rf a 8 (some r)) M) : AW G E nL pc lv (.ref r :: .ref a :: st) n k w rf M := a_putR A cf5 hl ha 8 (by decide) fk_X5_31 (Or.inr ⟨_, rfl⟩) rfl hm rfl D kk
theorem gf_X5_34 (A : Am G E cc nL RX5 n0 d kc wc) {a len r : Nat} (D : decode cc pc = .ok (.getfield 34, 3)) (hl : ly a = (5, len)) (ha : a < n) (hr : rf a 9 = some r) (kk : AW G E nL (pc + 3) lv (.ref r :: st) n k w rf M) : AW G E nL pc lv (.ref a :: st) n k w rf M := a_getR A cf5 hl ha 9 (by decide) fl_X5_34 (Or.inr ⟨_, rfl⟩) hr D kk
theorem pf_X5_34 (A : Am G E cc nL RX5 n0 d kc wc) {a len r : Nat} (hm : (eT E).name = "<init>") (D : decode cc pc = .ok (.putfield 34, 3)) (hl : ly a = (5, len)) (ha : a < n) (kk : AW G E nL (pc + 3) lv st n k w (upr rf a 9 (some r)) M) : AW G E nL pc lv (.ref r :: .ref a :: st) n k w rf M := a_putR A cf5 hl ha 9 (by decide) fk_X5_34 (Or.inr ⟨_, rfl⟩) rfl hm rfl D kk
theorem gf_X5_37 (A : Am G E cc nL RX5 n0 d kc wc) {a len r : Nat} (D : decode cc pc = .ok (.getfield 37, 3)) (hl : ly a = (5, len)) (ha : a < n) (hr : rf a 10 = some r) (kk : AW G E nL (pc + 3) lv (.ref r :: st) n k w rf M) : AW G E nL pc lv (.ref a :: st) n k w rf M := a_getR A cf5 hl ha 10 (by decide) fl_X5_37 (Or.inr ⟨_, rfl⟩) hr D kk
theorem pf_X5_37 (A : Am G E cc nL RX5 n0 d kc wc) {a len r : Nat} (hm : (eT E).name = "<init>") (D : decode cc pc = .ok (.putfield 37, 3)) (hl : ly a = (5, len)) (ha : a < n) (kk : AW G E nL (pc + 3) lv st n k w (upr rf a 10 (some r)) M) : AW G E nL pc lv (.ref r :: .ref a :: st) n k w rf M := a_putR A cf5 hl ha 10 (by decide) fk_X5_37 (Or.inr ⟨_, rfl⟩) rfl hm rfl D kk
theorem gf_X5_40 (A : Am G E cc nL RX5 n0 d kc wc) {a len r : Nat} (D : decode cc pc = .ok (.getfield 40, 3)) (hl : ly a = (5, len)) (ha : a < n) (hr : rf a 11 = some r) (kk : AW G E nL (pc + 3) lv (.ref r :: st) n k w rf M) : AW G E nL pc lv (.ref a :: st) n k w rf M := a_getR A cf5 hl ha 11 (by decide) fl_X5_40 (Or.inr ⟨_, rfl⟩) hr D kk
theorem pf_X5_40 (A : Am G E cc nL RX5 n0 d kc wc) {a len r : Nat} (hm : (eT E).name = "<init>") (D : decode cc pc = .ok (.putfield 40, 3)) (hl : ly a = (5, len)) (ha : a < n) (kk : AW G E nL (pc + 3) lv st n k w (upr rf a 11 (some r)) M) : AW G E nL pc lv (.ref r :: .ref a :: st) n k w rf M := a_putR A cf5 hl ha 11 (by decide) fk_X5_40 (Or.inr ⟨_, rfl⟩) rfl hm rfl D kk
theorem gf_X5_43 (A : Am G E cc nL RX5 n0 d kc wc) {a len r : Nat} (D : decode cc pc = .ok (.getfield 43, 3)) (hl : ly a = (5, len)) (ha : a < n) (hr : rf a 12 = some r) (kk : AW G E nL (pc + 3) lv (.ref r :: st) n k w rf M) : AW G E nL pc lv (.ref a :: st) n k w rf M := a_getR A cf5 hl ha 12 (by decide) fl_X5_43 (Or.inr ⟨_, rfl⟩) hr D kk
theorem pf_X5_43 (A : Am G E cc nL RX5 n0 d kc wc) {a len r : Nat} (hm : (eT E).name = "<init>") (D : decode cc pc = .ok (.putfield 43, 3)) (hl : ly a = (5, len)) (ha : a < n) (kk : AW G E nL (pc + 3) lv st n k w (upr rf a 12 (some r)) M) : AW G E nL pc lv (.ref r :: .ref a :: st) n k w rf M := a_putR A cf5 hl ha 12 (by decide) fk_X5_43 (Or.inr ⟨_, rfl⟩) rfl hm rfl D kk
theorem gf_X5_46 (A : Am G E cc nL RX5 n0 d kc wc) {a len r : Nat} (D : decode cc pc = .ok (.getfield 46, 3)) (hl : ly a = (5, len)) (ha : a < n) (hr : rf a 13 = some r) (kk : AW G E nL (pc + 3) lv (.ref r :: st) n k w rf M) : AW G E nL pc lv (.ref a :: st) n k w rf M := a_getR A cf5 hl ha 13 (by decide) fl_X5_46 (Or.inr ⟨_, rfl⟩) hr D kk
theorem pf_X5_46 (A : Am G E cc nL RX5 n0 d kc wc) {a len r : Nat} (hm : (eT E).name = "<init>") (D : decode cc pc = .ok (.putfield 46, 3)) (hl : ly a = (5, len)) (ha : a < n) (kk : AW G E nL (pc + 3) lv st n k w (upr rf a 13 (some r)) M) : AW G E nL pc lv (.ref r :: .ref a :: st) n k w rf M := a_putR A cf5 hl ha 13 (by decide) fk_X5_46 (Or.inr ⟨_, rfl⟩) rfl hm rfl D kk
theorem gf_X5_50 (A : Am G E cc nL RX5 n0 d kc wc) {a len r : Nat} (D : decode cc pc = .ok (.getfield 50, 3)) (hl : ly a = (5, len)) (ha : a < n) (hr : rf a 14 = some r) (kk : AW G E nL (pc + 3) lv (.ref r :: st) n k w rf M) : AW G E nL pc lv (.ref a :: st) n k w rf M := a_getR A cf5 hl ha 14 (by decide) fl_X5_50 (Or.inr ⟨_, rfl⟩) hr D kk
theorem pf_X5_50 (A : Am G E cc nL RX5 n0 d kc wc) {a len r : Nat} (hm : (eT E).name = "<init>") (D : decode cc pc = .ok (.putfield 50, 3)) (hl : ly a = (5, len)) (ha : a < n) (kk : AW G E nL (pc + 3) lv st n k w (upr rf a 14 (some r)) M) : AW G E nL pc lv (.ref r :: .ref a :: st) n k w rf M := a_putR A cf5 hl ha 14 (by decide) fk_X5_50 (Or.inr ⟨_, rfl⟩) rfl hm rfl D kk
theorem gf_X5_104 (A : Am G E cc nL RX5 n0 d kc wc) {a len : Nat} (D : decode cc pc = .ok (.getfield 104, 3)) (hl : ly a = (5, len)) (ha : a < n) {x : Int} (hv : M a 15 = x) (kk : AW G E nL (pc + 3) lv (vl x :: st) n k w rf M) : AW G E nL pc lv (.ref a :: st) n k w rf M := a_getL A cf5 hl ha 15 (by decide) fl_X5_104 rfl D hv kk
theorem pf_X5_104 (A : Am G E cc nL RX5 n0 d kc wc) {a len : Nat} {x : Int} (D : decode cc pc = .ok (.putfield 104, 3)) (hl : ly a = (5, len)) (ha : a < n) (kk : AW G E nL (pc + 3) lv st n k w rf (up2 M a 15 x)) : AW G E nL pc lv (vl x :: .ref a :: st) n k w rf M := a_putL A cf5 hl ha 15 (by decide) fl_X5_104 rfl rfl D kk
theorem gf_X5_108 (A : Am G E cc nL RX5 n0 d kc wc) {a len : Nat} (D : decode cc pc = .ok (.getfield 108, 3)) (hl : ly a = (5, len)) (ha : a < n) {x : Int} (hv : M a 16 = x) (kk : AW G E nL (pc + 3) lv (vl x :: st) n k w rf M) : AW G E nL pc lv (.ref a :: st) n k w rf M := a_getL A cf5 hl ha 16 (by decide) fl_X5_108 rfl D hv kk
theorem pf_X5_108 (A : Am G E cc nL RX5 n0 d kc wc) {a len : Nat} {x : Int} (D : decode cc pc = .ok (.putfield 108, 3)) (hl : ly a = (5, len)) (ha : a < n) (kk : AW G E nL (pc + 3) lv st n k w rf (up2 M a 16 x)) : AW G E nL pc lv (vl x :: .ref a :: st) n k w rf M := a_putL A cf5 hl ha 16 (by decide) fl_X5_108 rfl rfl D kk
theorem gf_X5_53 (A : Am G E cc nL RX5 n0 d kc wc) {a len r : Nat} (D : decode cc pc = .ok (.getfield 53, 3)) (hl : ly a = (5, len)) (ha : a < n) (hr : rf a 17 = some r) (kk : AW G E nL (pc + 3) lv (.ref r :: st) n k w rf M) : AW G E nL pc lv (.ref a :: st) n k w rf M := a_getR A cf5 hl ha 17 (by decide) fl_X5_53 (Or.inr ⟨_, rfl⟩) hr D kk
theorem pf_X5_53 (A : Am G E cc nL RX5 n0 d kc wc) {a len r : Nat} (hm : (eT E).name = "<init>") (D : decode cc pc = .ok (.putfield 53, 3)) (hl : ly a = (5, len)) (ha : a < n) (kk : AW G E nL (pc + 3) lv st n k w (upr rf a 17 (some r)) M) : AW G E nL pc lv (.ref r :: .ref a :: st) n k w rf M := a_putR A cf5 hl ha 17 (by decide) fk_X5_53 (Or.inr ⟨_, rfl⟩) rfl hm rfl D kk
theorem gf_X5_56 (A : Am G E cc nL RX5 n0 d kc wc) {a len r : Nat} (D : decode cc pc = .ok (.getfield 56, 3)) (hl : ly a = (5, len)) (ha : a < n) (hr : rf a 18 = some r) (kk : AW G E nL (pc + 3) lv (.ref r :: st) n k w rf M) : AW G E nL pc lv (.ref a :: st) n k w rf M := a_getR A cf5 hl ha 18 (by decide) fl_X5_56 (Or.inr ⟨_, rfl⟩) hr D kk
theorem pf_X5_56 (A : Am G E cc nL RX5 n0 d kc wc) {a len r : Nat} (hm : (eT E).name = "<init>") (D : decode cc pc = .ok (.putfield 56, 3)) (hl : ly a = (5, len)) (ha : a < n) (kk : AW G E nL (pc + 3) lv st n k w (upr rf a 18 (some r)) M) : AW G E nL pc lv (.ref r :: .ref a :: st) n k w rf M := a_putR A cf5 hl ha 18 (by decide) fk_X5_56 (Or.inr ⟨_, rfl⟩) rfl hm rfl D kk
theorem gf_X5_59 (A : Am G E cc nL RX5 n0 d kc wc) {a len r : Nat} (D : decode cc pc = .ok (.getfield 59, 3)) (hl : ly a = (5, len)) (ha : a < n) (hr : rf a 19 = some r) (kk : AW G E nL (pc + 3) lv (.ref r :: st) n k w rf M) : AW G E nL pc lv (.ref a :: st) n k w rf M := a_getR A cf5 hl ha 19 (by decide) fl_X5_59 (Or.inr ⟨_, rfl⟩) hr D kk
theorem pf_X5_59 (A : Am G E cc nL RX5 n0 d kc wc) {a len r : Nat} (hm : (eT E).name = "<init>") (D : decode cc pc = .ok (.putfield 59, 3)) (hl : ly a = (5, len)) (ha : a < n) (kk : AW G E nL (pc + 3) lv st n k w (upr rf a 19 (some r)) M) : AW G E nL pc lv (.ref r :: .ref a :: st) n k w rf M := a_putR A cf5 hl ha 19 (by decide) fk_X5_59 (Or.inr ⟨_, rfl⟩) rfl hm rfl D kk
theorem gf_X5_62 (A : Am G E cc nL RX5 n0 d kc wc) {a len r : Nat} (D : decode cc pc = .ok (.getfield 62, 3)) (hl : ly a = (5, len)) (ha : a < n) (hr : rf a 20 = some r) (kk : AW G E nL (pc + 3) lv (.ref r :: st) n k w rf M) : AW G E nL pc lv (.ref a :: st) n k w rf M := a_getR A cf5 hl ha 20 (by decide) fl_X5_62 (Or.inr ⟨_, rfl⟩) hr D kk
theorem pf_X5_62 (A : Am G E cc nL RX5 n0 d kc wc) {a len r : Nat} (hm : (eT E).name = "<init>") (D : decode cc pc = .ok (.putfield 62, 3)) (hl : ly a = (5, len)) (ha : a < n) (kk : AW G E nL (pc + 3) lv st n k w (upr rf a 20 (some r)) M) : AW G E nL pc lv (.ref r :: .ref a :: st) n k w rf M := a_putR A cf5 hl ha 20 (by decide) fk_X5_62 (Or.inr ⟨_, rfl⟩) rfl hm rfl D kk
theorem gf_X5_65 (A : Am G E cc nL RX5 n0 d kc wc) {a len r : Nat} (D : decode cc pc = .ok (.getfield 65, 3)) (hl : ly a = (5, len)) (ha : a < n) (hr : rf a 21 = some r) (kk : AW G E nL (pc + 3) lv (.ref r :: st) n k w rf M) : AW G E nL pc lv (.ref a :: st) n k w rf M := a_getR A cf5 hl ha 21 (by decide) fl_X5_65 (Or.inr ⟨_, rfl⟩) hr D kk
theorem pf_X5_65 (A : Am G E cc nL RX5 n0 d kc wc) {a len r : Nat} (hm : (eT E).name = "<init>") (D : decode cc pc = .ok (.putfield 65, 3)) (hl : ly a = (5, len)) (ha : a < n) (kk : AW G E nL (pc + 3) lv st n k w (upr rf a 21 (some r)) M) : AW G E nL pc lv (.ref r :: .ref a :: st) n k w rf M := a_putR A cf5 hl ha 21 (by decide) fk_X5_65 (Or.inr ⟨_, rfl⟩) rfl hm rfl D kk
theorem gf_X5_68 (A : Am G E cc nL RX5 n0 d kc wc) {a len r : Nat} (D : decode cc pc = .ok (.getfield 68, 3)) (hl : ly a = (5, len)) (ha : a < n) (hr : rf a 22 = some r) (kk : AW G E nL (pc + 3) lv (.ref r :: st) n k w rf M) : AW G E nL pc lv (.ref a :: st) n k w rf M := a_getR A cf5 hl ha 22 (by decide) fl_X5_68 (Or.inr ⟨_, rfl⟩) hr D kk
theorem pf_X5_68 (A : Am G E cc nL RX5 n0 d kc wc) {a len r : Nat} (hm : (eT E).name = "<init>") (D : decode cc pc = .ok (.putfield 68, 3)) (hl : ly a = (5, len)) (ha : a < n) (kk : AW G E nL (pc + 3) lv st n k w (upr rf a 22 (some r)) M) : AW G E nL pc lv (.ref r :: .ref a :: st) n k w rf M := a_putR A cf5 hl ha 22 (by decide) fk_X5_68 (Or.inr ⟨_, rfl⟩) rfl hm rfl D kk
theorem gf_X5_122 (A : Am G E cc nL RX5 n0 d kc wc) {a len : Nat} (D : decode cc pc = .ok (.getfield 122, 3)) (hl : ly a = (5, len)) (ha : a < n) {x : Int} (hv : M a 23 = x) (kk : AW G E nL (pc + 3) lv (vl x :: st) n k w rf M) : AW G E nL pc lv (.ref a :: st) n k w rf M := a_getL A cf5 hl ha 23 (by decide) fl_X5_122 rfl D hv kk
theorem pf_X5_122 (A : Am G E cc nL RX5 n0 d kc wc) {a len : Nat} {x : Int} (D : decode cc pc = .ok (.putfield 122, 3)) (hl : ly a = (5, len)) (ha : a < n) (kk : AW G E nL (pc + 3) lv st n k w rf (up2 M a 23 x)) : AW G E nL pc lv (vl x :: .ref a :: st) n k w rf M := a_putL A cf5 hl ha 23 (by decide) fl_X5_122 rfl rfl D kk
theorem gf_X5_125 (A : Am G E cc nL RX5 n0 d kc wc) {a len : Nat} (D : decode cc pc = .ok (.getfield 125, 3)) (hl : ly a = (5, len)) (ha : a < n) {x : Int} (hv : M a 24 = x) (kk : AW G E nL (pc + 3) lv (vl x :: st) n k w rf M) : AW G E nL pc lv (.ref a :: st) n k w rf M := a_getL A cf5 hl ha 24 (by decide) fl_X5_125 rfl D hv kk
theorem pf_X5_125 (A : Am G E cc nL RX5 n0 d kc wc) {a len : Nat} {x : Int} (D : decode cc pc = .ok (.putfield 125, 3)) (hl : ly a = (5, len)) (ha : a < n) (kk : AW G E nL (pc + 3) lv st n k w rf (up2 M a 24 x)) : AW G E nL pc lv (vl x :: .ref a :: st) n k w rf M := a_putL A cf5 hl ha 24 (by decide) fl_X5_125 rfl rfl D kk
theorem gf_X5_71 (A : Am G E cc nL RX5 n0 d kc wc) {a len r : Nat} (D : decode cc pc = .ok (.getfield 71, 3)) (hl : ly a = (5, len)) (ha : a < n) (hr : rf a 25 = some r) (kk : AW G E nL (pc + 3) lv (.ref r :: st) n k w rf M) : AW G E nL pc lv (.ref a :: st) n k w rf M := a_getR A cf5 hl ha 25 (by decide) fl_X5_71 (Or.inr ⟨_, rfl⟩) hr D kk
theorem pf_X5_71 (A : Am G E cc nL RX5 n0 d kc wc) {a len r : Nat} (hm : (eT E).name = "<init>") (D : decode cc pc = .ok (.putfield 71, 3)) (hl : ly a = (5, len)) (ha : a < n) (kk : AW G E nL (pc + 3) lv st n k w (upr rf a 25 (some r)) M) : AW G E nL pc lv (.ref r :: .ref a :: st) n k w rf M := a_putR A cf5 hl ha 25 (by decide) fk_X5_71 (Or.inr ⟨_, rfl⟩) rfl hm rfl D kk
theorem gf_X5_74 (A : Am G E cc nL RX5 n0 d kc wc) {a len r : Nat} (D : decode cc pc = .ok (.getfield 74, 3)) (hl : ly a = (5, len)) (ha : a < n) (hr : rf a 26 = some r) (kk : AW G E nL (pc + 3) lv (.ref r :: st) n k w rf M) : AW G E nL pc lv (.ref a :: st) n k w rf M := a_getR A cf5 hl ha 26 (by decide) fl_X5_74 (Or.inr ⟨_, rfl⟩) hr D kk
theorem pf_X5_74 (A : Am G E cc nL RX5 n0 d kc wc) {a len r : Nat} (hm : (eT E).name = "<init>") (D : decode cc pc = .ok (.putfield 74, 3)) (hl : ly a = (5, len)) (ha : a < n) (kk : AW G E nL (pc + 3) lv st n k w (upr rf a 26 (some r)) M) : AW G E nL pc lv (.ref r :: .ref a :: st) n k w rf M := a_putR A cf5 hl ha 26 (by decide) fk_X5_74 (Or.inr ⟨_, rfl⟩) rfl hm rfl D kk
theorem gf_X5_151 (A : Am G E cc nL RX5 n0 d kc wc) {a len : Nat} (D : decode cc pc = .ok (.getfield 151, 3)) (hl : ly a = (5, len)) (ha : a < n) {x : Int} (hv : M a 27 = x) (kk : AW G E nL (pc + 3) lv (vi x :: st) n k w rf M) : AW G E nL pc lv (.ref a :: st) n k w rf M := a_getI A cf5 hl ha 27 (by decide) fl_X5_151 (Or.inl rfl) D hv kk
theorem pf_X5_151 (A : Am G E cc nL RX5 n0 d kc wc) {a len : Nat} {x : Int} (D : decode cc pc = .ok (.putfield 151, 3)) (hl : ly a = (5, len)) (ha : a < n) (kk : AW G E nL (pc + 3) lv st n k w rf (up2 M a 27 x)) : AW G E nL pc lv (vi x :: .ref a :: st) n k w rf M := a_putI A cf5 hl ha 27 (by decide) fl_X5_151 rfl rfl D kk
theorem gf_X5_157 (A : Am G E cc nL RX5 n0 d kc wc) {a len : Nat} (D : decode cc pc = .ok (.getfield 157, 3)) (hl : ly a = (5, len)) (ha : a < n) {x : Int} (hv : M a 28 = x) (kk : AW G E nL (pc + 3) lv (vl x :: st) n k w rf M) : AW G E nL pc lv (.ref a :: st) n k w rf M := a_getL A cf5 hl ha 28 (by decide) fl_X5_157 rfl D hv kk
theorem pf_X5_157 (A : Am G E cc nL RX5 n0 d kc wc) {a len : Nat} {x : Int} (D : decode cc pc = .ok (.putfield 157, 3)) (hl : ly a = (5, len)) (ha : a < n) (kk : AW G E nL (pc + 3) lv st n k w rf (up2 M a 28 x)) : AW G E nL pc lv (vl x :: .ref a :: st) n k w rf M := a_putL A cf5 hl ha 28 (by decide) fl_X5_157 rfl rfl D kk
theorem gf_X5_154 (A : Am G E cc nL RX5 n0 d kc wc) {a len : Nat} (D : decode cc pc = .ok (.getfield 154, 3)) (hl : ly a = (5, len)) (ha : a < n) {x : Int} (hv : M a 29 = x) (kk : AW G E nL (pc + 3) lv (vl x :: st) n k w rf M) : AW G E nL pc lv (.ref a :: st) n k w rf M := a_getL A cf5 hl ha 29 (by decide) fl_X5_154 rfl D hv kk
theorem pf_X5_154 (A : Am G E cc nL RX5 n0 d kc wc) {a len : Nat} {x : Int} (D : decode cc pc = .ok (.putfield 154, 3)) (hl : ly a = (5, len)) (ha : a < n) (kk : AW G E nL (pc + 3) lv st n k w rf (up2 M a 29 x)) : AW G E nL pc lv (vl x :: .ref a :: st) n k w rf M := a_putL A cf5 hl ha 29 (by decide) fl_X5_154 rfl rfl D kk
theorem gf_X5_163 (A : Am G E cc nL RX5 n0 d kc wc) {a len : Nat} (D : decode cc pc = .ok (.getfield 163, 3)) (hl : ly a = (5, len)) (ha : a < n) {x : Int} (hv : M a 30 = x) (kk : AW G E nL (pc + 3) lv (vi x :: st) n k w rf M) : AW G E nL pc lv (.ref a :: st) n k w rf M := a_getI A cf5 hl ha 30 (by decide) fl_X5_163 (Or.inl rfl) D hv kk
theorem pf_X5_163 (A : Am G E cc nL RX5 n0 d kc wc) {a len : Nat} {x : Int} (D : decode cc pc = .ok (.putfield 163, 3)) (hl : ly a = (5, len)) (ha : a < n) (kk : AW G E nL (pc + 3) lv st n k w rf (up2 M a 30 x)) : AW G E nL pc lv (vi x :: .ref a :: st) n k w rf M := a_putI A cf5 hl ha 30 (by decide) fl_X5_163 rfl rfl D kk
theorem gf_X5_166 (A : Am G E cc nL RX5 n0 d kc wc) {a len : Nat} (D : decode cc pc = .ok (.getfield 166, 3)) (hl : ly a = (5, len)) (ha : a < n) {x : Int} (hv : M a 31 = x) (kk : AW G E nL (pc + 3) lv (vi x :: st) n k w rf M) : AW G E nL pc lv (.ref a :: st) n k w rf M := a_getI A cf5 hl ha 31 (by decide) fl_X5_166 (Or.inl rfl) D hv kk
theorem pf_X5_166 (A : Am G E cc nL RX5 n0 d kc wc) {a len : Nat} {x : Int} (D : decode cc pc = .ok (.putfield 166, 3)) (hl : ly a = (5, len)) (ha : a < n) (kk : AW G E nL (pc + 3) lv st n k w rf (up2 M a 31 x)) : AW G E nL pc lv (vi x :: .ref a :: st) n k w rf M := a_putI A cf5 hl ha 31 (by decide) fl_X5_166 rfl rfl D kk
theorem gf_X5_77 (A : Am G E cc nL RX5 n0 d kc wc) {a len r : Nat} (D : decode cc pc = .ok (.getfield 77, 3)) (hl : ly a = (5, len)) (ha : a < n) (hr : rf a 32 = some r) (kk : AW G E nL (pc + 3) lv (.ref r :: st) n k w rf M) : AW G E nL pc lv (.ref a :: st) n k w rf M := a_getR A cf5 hl ha 32 (by decide) fl_X5_77 (Or.inr ⟨_, rfl⟩) hr D kk
theorem pf_X5_77 (A : Am G E cc nL RX5 n0 d kc wc) {a len r : Nat} (hm : (eT E).name = "<init>") (D : decode cc pc = .ok (.putfield 77, 3)) (hl : ly a = (5, len)) (ha : a < n) (kk : AW G E nL (pc + 3) lv st n k w (upr rf a 32 (some r)) M) : AW G E nL pc lv (.ref r :: .ref a :: st) n k w rf M := a_putR A cf5 hl ha 32 (by decide) fk_X5_77 (Or.inr ⟨_, rfl⟩) rfl hm rfl D kk
end FRW
end
section
/-! the time behind the constructors: 108 cells, references fixed -/
def rF : RF := fun c j => match c with
  | 0 => ([some 1, some 14, some 15, some 16, some 21, some 42, some 43, some 44] : List (Option Nat)).getD j none
  | 1 => ([none, none, some 2, some 13, none] : List (Option Nat)).getD j none
  | 2 => if j < 10 then some (3 + j) else none
  | 14 => if j < 3 then some (45 + 13 * j) else none
  | 16 => ([some 17, some 18, some 19, some 20] : List (Option Nat)).getD j none
  | 21 => ([some 22, some 23, some 24, some 25, some 26, none, some 27, none, some 41] : List (Option Nat)).getD j none
  | 27 => if j < 13 then some (28 + j) else none
  | 45 => ([none, none, some 46, some 57, none] : List (Option Nat)).getD j none
  | 46 => if j < 10 then some (47 + j) else none
  | 58 => ([none, none, some 59, some 70, none] : List (Option Nat)).getD j none
  | 59 => if j < 10 then some (60 + j) else none
  | 71 => ([none, none, some 72, some 83, none] : List (Option Nat)).getD j none
  | 72 => if j < 10 then some (73 + j) else none
  | 84 => ([none, some 85, some 86, some 87, some 88, some 89, some 90, some 91, some 92, some 93, some 94, some 95, some 96, some 97, some 98, none, none, some 99, some 100, some 101, some 102, some 103, some 104, none, none, some 105, some 106, none, none, none, none, none, some 107] : List (Option Nat)).getD j none
  | _ => none
abbrev AM (G : GG) (E : EE) (nL pc : Nat) (lv st : List Value) (M : MM) : Prop := AW G E nL pc lv st 108 0 0 rF M
abbrev AmM (G : GG) (E : EE) (cc : ByteArray) (nL : Nat) (own : String) (d : Nat) : Prop := Am G E cc nL own 108 d 0 0
/-- contracts of the main time, by the kind of the answer -/
def CMi (G : GG) (l : Launch) (y : MethodName) (cc : ByteArray) (mL : Nat) (ret : Option FieldType) (d : Nat) (av : List Value) (M : MM) (P : Int → MM → Prop) : Prop := CT G l y cc mL ret d 0 0 av 108 rF M (fun r rf' M' => rf' = rF ∧ ∃ z, r = some (vi z) ∧ P z M')
def CMl (G : GG) (l : Launch) (y : MethodName) (cc : ByteArray) (mL : Nat) (ret : Option FieldType) (d : Nat) (av : List Value) (M : MM) (P : Int → MM → Prop) : Prop := CT G l y cc mL ret d 0 0 av 108 rF M (fun r rf' M' => rf' = rF ∧ ∃ z, r = some (vl z) ∧ P z M')
def CMr (G : GG) (l : Launch) (y : MethodName) (cc : ByteArray) (mL : Nat) (ret : Option FieldType) (d : Nat) (av : List Value) (M : MM) (P : Nat → MM → Prop) : Prop := CT G l y cc mL ret d 0 0 av 108 rF M (fun r rf' M' => rf' = rF ∧ ∃ z, r = some (.ref z) ∧ P z M')
def CMv (G : GG) (l : Launch) (y : MethodName) (cc : ByteArray) (mL : Nat) (ret : Option FieldType) (d : Nat) (av : List Value) (M : MM) (P : MM → Prop) : Prop := CT G l y cc mL ret d 0 0 av 108 rF M (fun r rf' M' => rf' = rF ∧ r = none ∧ P M')
section MMR
variable {G : GG} {E : EE} {cc : ByteArray} {nL : Nat} {own : String} {d pc : Nat} {lv st : List Value} {M : MM}
variable {y : MethodName} {cy : ByteArray} {mL : Nat} {ret : Option FieldType} {na d' a ci N len ix : Nat} {T : u_T} {ty : Nat → FieldType} {As rest : List Value}
theorem m_invVi {P : Int → MM → Prop} (A : AmM G E cc nL own d) (hM : CMi G (eL E) y cy mL ret d' (.ref a :: As) M P) (hd : d' + 1 ≤ d) (I : MI y cy mL ret na) (V : MV y) (hs : CS own ix y) (C0 : CF ci y.cls T N ty) (D : decode cc pc = .ok (.invokevirtual ix, 3)) (hl : ly a = (ci, len)) (ha : a < 108) (hlen : As.length = na) (hst : st = As.reverse ++ .ref a :: rest) (hrest : (rest.map fun v => v.category).sum ≤ 8)
    (kk : ∀ (z : Int) (M' : MM), P z M' → AM G E nL (pc + 3) lv (vi z :: rest) M') : AM G E nL pc lv st M :=
  a_invV A rfl hM hd I V hs C0 hl ha hlen D hst hrest ⟨Nat.le_refl _, Nat.le_refl _⟩ (fun r rf' M' h => by obtain ⟨rfl, z, rfl, h⟩ := h; exact kk z M' h)
theorem m_invVl {P : Int → MM → Prop} (A : AmM G E cc nL own d) (hM : CMl G (eL E) y cy mL ret d' (.ref a :: As) M P) (hd : d' + 1 ≤ d) (I : MI y cy mL ret na) (V : MV y) (hs : CS own ix y) (C0 : CF ci y.cls T N ty) (D : decode cc pc = .ok (.invokevirtual ix, 3)) (hl : ly a = (ci, len)) (ha : a < 108) (hlen : As.length = na) (hst : st = As.reverse ++ .ref a :: rest) (hrest : (rest.map fun v => v.category).sum ≤ 8)
    (kk : ∀ (z : Int) (M' : MM), P z M' → AM G E nL (pc + 3) lv (vl z :: rest) M') : AM G E nL pc lv st M :=
  a_invV A rfl hM hd I V hs C0 hl ha hlen D hst hrest ⟨Nat.le_refl _, Nat.le_refl _⟩ (fun r rf' M' h => by obtain ⟨rfl, z, rfl, h⟩ := h; exact kk z M' h)
theorem m_invVr {P : Nat → MM → Prop} (A : AmM G E cc nL own d) (hM : CMr G (eL E) y cy mL ret d' (.ref a :: As) M P) (hd : d' + 1 ≤ d) (I : MI y cy mL ret na) (V : MV y) (hs : CS own ix y) (C0 : CF ci y.cls T N ty) (D : decode cc pc = .ok (.invokevirtual ix, 3)) (hl : ly a = (ci, len)) (ha : a < 108) (hlen : As.length = na) (hst : st = As.reverse ++ .ref a :: rest) (hrest : (rest.map fun v => v.category).sum ≤ 8)
    (kk : ∀ (z : Nat) (M' : MM), P z M' → AM G E nL (pc + 3) lv (.ref z :: rest) M') : AM G E nL pc lv st M :=
  a_invV A rfl hM hd I V hs C0 hl ha hlen D hst hrest ⟨Nat.le_refl _, Nat.le_refl _⟩ (fun r rf' M' h => by obtain ⟨rfl, z, rfl, h⟩ := h; exact kk z M' h)
theorem m_invVv {P : MM → Prop} (A : AmM G E cc nL own d) (hM : CMv G (eL E) y cy mL ret d' (.ref a :: As) M P) (hd : d' + 1 ≤ d) (I : MI y cy mL ret na) (V : MV y) (hs : CS own ix y) (C0 : CF ci y.cls T N ty) (D : decode cc pc = .ok (.invokevirtual ix, 3)) (hl : ly a = (ci, len)) (ha : a < 108) (hlen : As.length = na) (hst : st = As.reverse ++ .ref a :: rest) (hrest : (rest.map fun v => v.category).sum ≤ 8)
    (kk : ∀ (M' : MM), P M' → AM G E nL (pc + 3) lv rest M') : AM G E nL pc lv st M :=
  a_invV A rfl hM hd I V hs C0 hl ha hlen D hst hrest ⟨Nat.le_refl _, Nat.le_refl _⟩ (fun r rf' M' h => by obtain ⟨rfl, rfl, h⟩ := h; exact kk M' h)
theorem m_invSi {P : Int → MM → Prop} (A : AmM G E cc nL own d) (hM : CMi G (eL E) y cy mL ret d' As M P) (hd : d' + 1 ≤ d) (I : MI y cy mL ret na) (V : Cond.static y ∈ lw_tbl) (hs : CS own ix y) (D : decode cc pc = .ok (.invokestatic ix, 3)) (hlen : As.length = na) (hst : st = As.reverse ++ rest) (hrest : (rest.map fun v => v.category).sum ≤ 8)
    (kk : ∀ (z : Int) (M' : MM), P z M' → AM G E nL (pc + 3) lv (vi z :: rest) M') : AM G E nL pc lv st M :=
  a_invS A rfl hM hd I V hs hlen D hst hrest ⟨Nat.le_refl _, Nat.le_refl _⟩ (fun r rf' M' h => by obtain ⟨rfl, z, rfl, h⟩ := h; exact kk z M' h)
theorem m_invSl {P : Int → MM → Prop} (A : AmM G E cc nL own d) (hM : CMl G (eL E) y cy mL ret d' As M P) (hd : d' + 1 ≤ d) (I : MI y cy mL ret na) (V : Cond.static y ∈ lw_tbl) (hs : CS own ix y) (D : decode cc pc = .ok (.invokestatic ix, 3)) (hlen : As.length = na) (hst : st = As.reverse ++ rest) (hrest : (rest.map fun v => v.category).sum ≤ 8)
    (kk : ∀ (z : Int) (M' : MM), P z M' → AM G E nL (pc + 3) lv (vl z :: rest) M') : AM G E nL pc lv st M :=
  a_invS A rfl hM hd I V hs hlen D hst hrest ⟨Nat.le_refl _, Nat.le_refl _⟩ (fun r rf' M' h => by obtain ⟨rfl, z, rfl, h⟩ := h; exact kk z M' h)
theorem m_invSv {P : MM → Prop} (A : AmM G E cc nL own d) (hM : CMv G (eL E) y cy mL ret d' As M P) (hd : d' + 1 ≤ d) (I : MI y cy mL ret na) (V : Cond.static y ∈ lw_tbl) (hs : CS own ix y) (D : decode cc pc = .ok (.invokestatic ix, 3)) (hlen : As.length = na) (hst : st = As.reverse ++ rest) (hrest : (rest.map fun v => v.category).sum ≤ 8)
    (kk : ∀ (M' : MM), P M' → AM G E nL (pc + 3) lv rest M') : AM G E nL pc lv st M :=
  a_invS A rfl hM hd I V hs hlen D hst hrest ⟨Nat.le_refl _, Nat.le_refl _⟩ (fun r rf' M' h => by obtain ⟨rfl, rfl, h⟩ := h; exact kk M' h)
theorem m_ireturn {P : Int → MM → Prop} (A : AmM G E cc nL own d) (T0 : RT E G y 108 0 0 (some .int) (fun r rf' M' => rf' = rF ∧ ∃ z, r = some (vi z) ∧ P z M')) {z : Int} (D : decode cc pc = .ok (.ireturn, 1)) (hp : P z M) : AM G E nL pc lv [vi z] M := a_ireturn A T0 D ⟨rfl, z, rfl, hp⟩
theorem m_zreturn {P : Int → MM → Prop} (A : AmM G E cc nL own d) (T0 : RT E G y 108 0 0 (some .boolean) (fun r rf' M' => rf' = rF ∧ ∃ z, r = some (vi z) ∧ P z M')) {z : Int} (D : decode cc pc = .ok (.ireturn, 1)) (hz : z = 0 ∨ z = 1) (hp : P z M) : AM G E nL pc lv [vi z] M := a_zreturn A T0 D hz ⟨rfl, z, rfl, hp⟩
theorem m_lreturn {P : Int → MM → Prop} (A : AmM G E cc nL own d) (T0 : RT E G y 108 0 0 (some .long) (fun r rf' M' => rf' = rF ∧ ∃ z, r = some (vl z) ∧ P z M')) {z : Int} (D : decode cc pc = .ok (.lreturn, 1)) (hp : P z M) : AM G E nL pc lv [vl z] M := a_lreturn A T0 D ⟨rfl, z, rfl, hp⟩
theorem m_areturn {P : Nat → MM → Prop} {t : FieldType} (A : AmM G E cc nL own d) (T0 : RT E G y 108 0 0 (some (.array t)) (fun r rf' M' => rf' = rF ∧ ∃ z, r = some (.ref z) ∧ P z M')) {z : Nat} (D : decode cc pc = .ok (.areturn, 1)) (hp : P z M) : AM G E nL pc lv [.ref z] M := a_areturn A T0 D ⟨rfl, z, rfl, hp⟩
theorem m_return {P : MM → Prop} (A : AmM G E cc nL own d) (T0 : RT E G y 108 0 0 none (fun r rf' M' => rf' = rF ∧ r = none ∧ P M')) (D : decode cc pc = .ok (.return_, 1)) (hp : P M) : AM G E nL pc lv [] M := a_return A T0 D ⟨rfl, rfl, hp⟩
end MMR
end
section
set_option maxRecDepth 100000 in
set_option maxHeartbeats 4000000 in
theorem c_X5_in (G : GG) (l : Launch) (v lo hi : Int) (M : MM) (hv : I32 v) (hlo : I32 lo) (hhi : I32 hi) : CMi G l yX5_in cX5_in 3 (some .boolean) 1 [vi v, vi lo, vi hi] M (fun z M' => M' = M ∧ ((z = 1 ∧ lo ≤ v ∧ v ≤ hi) ∨ (z = 0 ∧ (v < lo ∨ hi < v)))) := by
  refine CT.intro (by decide) (Nat.le_of_ble_eq_true rfl) (fun E hE A T0 => ?_)
  subst hE
  refine a_iload_n (z := v) A dX5_in_0 rfl ?_
  refine a_iload_n (z := lo) A dX5_in_1 rfl ?_
  refine a_icmp_lt (tgt := 14) A dX5_in_2 (by decide) (by assumption) (by assumption) (fun h2 => ?_) (fun h2 => ?_)
  · refine a_iconst A dX5_in_14 ?_
    exact m_zreturn A T0 dX5_in_15 (by first | exact Or.inl rfl | exact Or.inr rfl | omega) (by exact ⟨rfl, by omega⟩)
  · refine a_iload_n (z := v) A dX5_in_5 rfl ?_
    refine a_iload_n (z := hi) A dX5_in_6 rfl ?_
    refine a_icmp_gt (tgt := 14) A dX5_in_7 (by decide) (by assumption) (by assumption) (fun h7 => ?_) (fun h7 => ?_)
    · refine a_iconst A dX5_in_14 ?_
      exact m_zreturn A T0 dX5_in_15 (by first | exact Or.inl rfl | exact Or.inr rfl | omega) (by exact ⟨rfl, by omega⟩)
    · refine a_iconst A dX5_in_10 ?_
      refine a_goto (tgt := 15) A dX5_in_11 (by decide) ?_
      exact m_zreturn A T0 dX5_in_15 (by first | exact Or.inl rfl | exact Or.inr rfl | omega) (by exact ⟨rfl, by omega⟩)
set_option maxRecDepth 100000 in
set_option maxHeartbeats 4000000 in
theorem c_X5_isLane (G : GG) (l : Launch) (k : Int) (M : MM) (hk : I32 k) (hL : 0 ≤ M 86 0 ∧ M 86 0 ≤ 10) : CMi G l yX5_isLane cX5_isLane 2 (some .boolean) 2 [.ref 84, vi k] M (fun z M' => M' = M ∧ ((z = 1 ∧ 0 ≤ k ∧ k < M 86 0) ∨ (z = 0 ∧ (k < 0 ∨ M 86 0 ≤ k)))) := by
  refine CT.intro (by decide) (Nat.le_of_ble_eq_true rfl) (fun E hE A T0 => ?_)
  subst hE
  refine a_iload_n (z := k) A dX5_isLane_0 rfl ?_
  refine a_iconst A dX5_isLane_1 ?_
  refine a_aload_n (z := 84) A dX5_isLane_2 rfl ?_
  refine gf_X5_13 (r := 86) A dX5_isLane_3 rfl (by decide) rfl ?_
  refine a_iconst A dX5_isLane_6 ?_
  refine a_iaload (i := 0) (x := M 86 0) A dX5_isLane_7 rfl (by decide) (by decide) (by omega) rfl ?_
  refine a_iconst A dX5_isLane_8 ?_
  refine a_isub (x := (M 86 0)) (y := 1) A dX5_isLane_9 ?_
  refine m_invSi A (c_X5_in G _ k 0 ((M 86 0) - 1) M (by omega) (by omega) (by omega)) (by decide) mi_X5_in ms_X5_in cs_X5_89 dX5_isLane_10 rfl rfl (Nat.le_of_ble_eq_true rfl) (fun z10 M10 h10 => ?_)
  obtain ⟨e10, hc10⟩ := h10
  have e10 := e10.symm
  subst e10
  exact m_zreturn A T0 dX5_isLane_13 (by first | exact Or.inl rfl | exact Or.inr rfl | omega) (by exact ⟨rfl, by omega⟩)
set_option maxRecDepth 100000 in
set_option maxHeartbeats 4000000 in
theorem c_X5_isPost (G : GG) (l : Launch) (k : Int) (M : MM) (hk : I32 k) (hP : 2 ≤ M 85 0 ∧ M 85 0 ≤ 5) : CMi G l yX5_isPost cX5_isPost 2 (some .boolean) 2 [.ref 84, vi k] M (fun z M' => M' = M ∧ ((z = 1 ∧ 0 ≤ k ∧ k < M 85 0) ∨ (z = 0 ∧ (k < 0 ∨ M 85 0 ≤ k)))) := by
  refine CT.intro (by decide) (Nat.le_of_ble_eq_true rfl) (fun E hE A T0 => ?_)
  subst hE
  refine a_iload_n (z := k) A dX5_isPost_0 rfl ?_
  refine a_iconst A dX5_isPost_1 ?_
  refine a_aload_n (z := 84) A dX5_isPost_2 rfl ?_
  refine gf_X5_7 (r := 85) A dX5_isPost_3 rfl (by decide) rfl ?_
  refine a_iconst A dX5_isPost_6 ?_
  refine a_iaload (i := 0) (x := M 85 0) A dX5_isPost_7 rfl (by decide) (by decide) (by omega) rfl ?_
  refine a_iconst A dX5_isPost_8 ?_
  refine a_isub (x := (M 85 0)) (y := 1) A dX5_isPost_9 ?_
  refine m_invSi A (c_X5_in G _ k 0 ((M 85 0) - 1) M (by omega) (by omega) (by omega)) (by decide) mi_X5_in ms_X5_in cs_X5_89 dX5_isPost_10 rfl rfl (Nat.le_of_ble_eq_true rfl) (fun z10 M10 h10 => ?_)
  obtain ⟨e10, hc10⟩ := h10
  have e10 := e10.symm
  subst e10
  exact m_zreturn A T0 dX5_isPost_13 (by first | exact Or.inl rfl | exact Or.inr rfl | omega) (by exact ⟨rfl, by omega⟩)
set_option maxRecDepth 100000 in
set_option maxHeartbeats 4000000 in
theorem c_X5_posts (G : GG) (l : Launch) (n : Int) (M : MM) (hn : I32 n) : CMi G l yX5_posts cX5_posts 2 (some .boolean) 2 [.ref 84, vi n] M (fun z M' => (z = 1 ∧ 2 ≤ n ∧ n ≤ 5 ∧ M' = up2 (up2 (up2 (up2 M 84 0 0) 85 0 n) 86 0 0) 95 0 0) ∨ (z = 0 ∧ (n < 2 ∨ 5 < n) ∧ M' = up2 M 84 0 0)) := by
  refine CT.intro (by decide) (Nat.le_of_ble_eq_true rfl) (fun E hE A T0 => ?_)
  subst hE
  refine a_aload_n (z := 84) A dX5_posts_0 rfl ?_
  refine a_iconst A dX5_posts_1 ?_
  refine pf_X5_81 A dX5_posts_2 rfl (by decide) ?_
  refine a_iload_n (z := n) A dX5_posts_5 rfl ?_
  refine a_iconst A dX5_posts_6 ?_
  refine a_iconst A dX5_posts_7 ?_
  refine m_invSi A (c_X5_in G _ n 2 5 (up2 M 84 0 0) (by omega) (by omega) (by omega)) (by decide) mi_X5_in ms_X5_in cs_X5_89 dX5_posts_8 rfl rfl (Nat.le_of_ble_eq_true rfl) (fun z8 M8 h8 => ?_)
  obtain ⟨e8, hc8⟩ := h8
  have e8 := e8.symm
  subst e8
  refine a_if_ne (tgt := 16) A dX5_posts_11 (by decide) (by omega) (fun h11 => ?_) (fun h11 => ?_)
  · refine a_aload_n (z := 84) A dX5_posts_16 rfl ?_
    refine gf_X5_7 (r := 85) A dX5_posts_17 rfl (by decide) rfl ?_
    refine a_iconst A dX5_posts_20 ?_
    refine a_iload_n (z := n) A dX5_posts_21 rfl ?_
    refine a_iastore (i := 0) (j := 0) A dX5_posts_22 rfl (by decide) (by decide) (by omega) rfl ?_
    refine a_aload_n (z := 84) A dX5_posts_23 rfl ?_
    refine gf_X5_13 (r := 86) A dX5_posts_24 rfl (by decide) rfl ?_
    refine a_iconst A dX5_posts_27 ?_
    refine a_iconst A dX5_posts_28 ?_
    refine a_iastore (i := 0) (j := 0) A dX5_posts_29 rfl (by decide) (by decide) (by omega) rfl ?_
    refine a_aload_n (z := 84) A dX5_posts_30 rfl ?_
    refine gf_X5_40 (r := 95) A dX5_posts_31 rfl (by decide) rfl ?_
    refine a_iconst A dX5_posts_34 ?_
    refine a_iconst A dX5_posts_35 ?_
    refine a_iastore (i := 0) (j := 0) A dX5_posts_36 rfl (by decide) (by decide) (by omega) rfl ?_
    refine a_iconst A dX5_posts_37 ?_
    exact m_zreturn A T0 dX5_posts_38 (by first | exact Or.inl rfl | exact Or.inr rfl | omega) (by first | exact Or.inl ⟨rfl, by omega, by omega, rfl⟩ | exact Or.inr ⟨rfl, by omega, rfl⟩)
  · refine a_iconst A dX5_posts_14 ?_
    exact m_zreturn A T0 dX5_posts_15 (by first | exact Or.inl rfl | exact Or.inr rfl | omega) (by first | exact Or.inl ⟨rfl, by omega, by omega, rfl⟩ | exact Or.inr ⟨rfl, by omega, rfl⟩)
set_option maxRecDepth 100000 in
set_option maxHeartbeats 4000000 in
theorem c_X5_lane (G : GG) (l : Launch) (fr t r p q : Int) (M : MM) (h1 : I32 fr) (h2 : I32 t) (h3 : I32 r) (h4 : I32 p) (h5 : I32 q) (hL : 0 ≤ M 86 0 ∧ M 86 0 ≤ 10) (hP : 2 ≤ M 85 0 ∧ M 85 0 ≤ 5) : CMi G l yX5_lane cX5_lane 7 (some .int) 3 [.ref 84, vi fr, vi t, vi r, vi p, vi q] M (fun z M' => (z = M 86 0 ∧ (M 86 0 < 10 ∧ 0 ≤ fr ∧ fr < M 85 0 - 1 ∧ 0 < t ∧ t < M 85 0 ∧ fr ≠ t ∧ 0 ≤ r ∧ r ≤ 100 ∧ 1 ≤ p ∧ p ≤ 9 ∧ 1 ≤ q ∧ q ≤ 9) ∧ M' = up2 (up2 (up2 (up2 (up2 (up2 (up2 (up2 (up2 (up2 M 84 0 0) 86 0 (M 86 0 + 1)) 87 (M 86 0).toNat fr) 88 (M 86 0).toNat t) 89 (M 86 0).toNat r) 90 (M 86 0).toNat p) 91 (M 86 0).toNat q) 92 (M 86 0).toNat 0) 93 (M 86 0).toNat 0) 94 (M 86 0).toNat 1) ∨ (z = -1 ∧ ¬ (M 86 0 < 10 ∧ 0 ≤ fr ∧ fr < M 85 0 - 1 ∧ 0 < t ∧ t < M 85 0 ∧ fr ≠ t ∧ 0 ≤ r ∧ r ≤ 100 ∧ 1 ≤ p ∧ p ≤ 9 ∧ 1 ≤ q ∧ q ≤ 9) ∧ M' = up2 M 84 0 0)) := by
  refine CT.intro (by decide) (Nat.le_of_ble_eq_true rfl) (fun E hE A T0 => ?_)
  subst hE
  refine a_aload_n (z := 84) A dX5_lane_0 rfl ?_
  refine a_iconst A dX5_lane_1 ?_
  refine pf_X5_81 A dX5_lane_2 rfl (by decide) ?_
  refine a_aload_n (z := 84) A dX5_lane_5 rfl ?_
  refine gf_X5_13 (r := 86) A dX5_lane_6 rfl (by decide) rfl ?_
  refine a_iconst A dX5_lane_9 ?_
  refine a_iaload (i := 0) (x := M 86 0) A dX5_lane_10 rfl (by decide) (by decide) (by omega) rfl ?_
  refine a_bipush A dX5_lane_11 (by decide) ?_
  refine a_icmp_eq (tgt := 85) A dX5_lane_13 (by decide) (by omega) (by omega) (fun h13 => ?_) (fun h13 => ?_)
  · refine a_iconst A dX5_lane_85 ?_
    exact m_ireturn A T0 dX5_lane_86 (by first | exact Or.inr ⟨rfl, by omega, rfl⟩ | exact Or.inl ⟨rfl, by omega, rfl⟩)
  · refine a_aload_n (z := 84) A dX5_lane_16 rfl ?_
    refine a_iload_n (z := fr) A dX5_lane_17 rfl ?_
    refine m_invVi A (c_X5_isPost G _ fr (up2 M 84 0 0) (by omega) hP) (by decide) mi_X5_isPost mv_X5_isPost cs_X5_93 cf5 dX5_lane_18 rfl (by decide) rfl rfl (Nat.le_of_ble_eq_true rfl) (fun z18 M18 h18 => ?_)
    obtain ⟨e18, hc18⟩ := h18
    have e18 := e18.symm
    subst e18
    have hc18 : (z18 = 1 ∧ 0 ≤ fr ∧ fr < M 85 0) ∨ (z18 = 0 ∧ (fr < 0 ∨ M 85 0 ≤ fr)) := hc18
    refine a_if_eq (tgt := 85) A dX5_lane_21 (by decide) (by omega) (fun h21 => ?_) (fun h21 => ?_)
    · refine a_iconst A dX5_lane_85 ?_
      exact m_ireturn A T0 dX5_lane_86 (by first | exact Or.inr ⟨rfl, by omega, rfl⟩ | exact Or.inl ⟨rfl, by omega, rfl⟩)
    · refine a_aload_n (z := 84) A dX5_lane_24 rfl ?_
      refine a_iload_n (z := t) A dX5_lane_25 rfl ?_
      refine m_invVi A (c_X5_isPost G _ t (up2 M 84 0 0) (by omega) hP) (by decide) mi_X5_isPost mv_X5_isPost cs_X5_93 cf5 dX5_lane_26 rfl (by decide) rfl rfl (Nat.le_of_ble_eq_true rfl) (fun z26 M26 h26 => ?_)
      obtain ⟨e26, hc26⟩ := h26
      have e26 := e26.symm
      subst e26
      have hc26 : (z26 = 1 ∧ 0 ≤ t ∧ t < M 85 0) ∨ (z26 = 0 ∧ (t < 0 ∨ M 85 0 ≤ t)) := hc26
      refine a_if_eq (tgt := 85) A dX5_lane_29 (by decide) (by omega) (fun h29 => ?_) (fun h29 => ?_)
      · refine a_iconst A dX5_lane_85 ?_
        exact m_ireturn A T0 dX5_lane_86 (by first | exact Or.inr ⟨rfl, by omega, rfl⟩ | exact Or.inl ⟨rfl, by omega, rfl⟩)
      · refine a_iload_n (z := fr) A dX5_lane_32 rfl ?_
        refine a_iload_n (z := t) A dX5_lane_33 rfl ?_
        refine a_icmp_eq (tgt := 85) A dX5_lane_34 (by decide) (by omega) (by omega) (fun h34 => ?_) (fun h34 => ?_)
        · refine a_iconst A dX5_lane_85 ?_
          exact m_ireturn A T0 dX5_lane_86 (by first | exact Or.inr ⟨rfl, by omega, rfl⟩ | exact Or.inl ⟨rfl, by omega, rfl⟩)
        · refine a_iload_n (z := t) A dX5_lane_37 rfl ?_
          refine a_if_eq (tgt := 85) A dX5_lane_38 (by decide) (by omega) (fun h38 => ?_) (fun h38 => ?_)
          · refine a_iconst A dX5_lane_85 ?_
            exact m_ireturn A T0 dX5_lane_86 (by first | exact Or.inr ⟨rfl, by omega, rfl⟩ | exact Or.inl ⟨rfl, by omega, rfl⟩)
          · refine a_iload_n (z := fr) A dX5_lane_41 rfl ?_
            refine a_aload_n (z := 84) A dX5_lane_42 rfl ?_
            refine gf_X5_7 (r := 85) A dX5_lane_43 rfl (by decide) rfl ?_
            refine a_iconst A dX5_lane_46 ?_
            refine a_iaload (i := 0) (x := M 85 0) A dX5_lane_47 rfl (by decide) (by decide) (by omega) rfl ?_
            refine a_iconst A dX5_lane_48 ?_
            refine a_isub (x := (M 85 0)) (y := 1) A dX5_lane_49 ?_
            refine a_icmp_eq (tgt := 85) A dX5_lane_50 (by decide) (by omega) (by omega) (fun h50 => ?_) (fun h50 => ?_)
            · refine a_iconst A dX5_lane_85 ?_
              exact m_ireturn A T0 dX5_lane_86 (by first | exact Or.inr ⟨rfl, by omega, rfl⟩ | exact Or.inl ⟨rfl, by omega, rfl⟩)
            · refine a_iload_n (z := r) A dX5_lane_53 rfl ?_
              refine a_iconst A dX5_lane_54 ?_
              refine a_bipush A dX5_lane_55 (by decide) ?_
              refine m_invSi A (c_X5_in G _ r 0 100 (up2 M 84 0 0) (by omega) (by omega) (by omega)) (by decide) mi_X5_in ms_X5_in cs_X5_89 dX5_lane_57 rfl rfl (Nat.le_of_ble_eq_true rfl) (fun z57 M57 h57 => ?_)
              obtain ⟨e57, hc57⟩ := h57
              have e57 := e57.symm
              subst e57
              refine a_if_eq (tgt := 85) A dX5_lane_60 (by decide) (by omega) (fun h60 => ?_) (fun h60 => ?_)
              · refine a_iconst A dX5_lane_85 ?_
                exact m_ireturn A T0 dX5_lane_86 (by first | exact Or.inr ⟨rfl, by omega, rfl⟩ | exact Or.inl ⟨rfl, by omega, rfl⟩)
              · refine a_iload (z := p) A dX5_lane_63 rfl ?_
                refine a_iconst A dX5_lane_65 ?_
                refine a_bipush A dX5_lane_66 (by decide) ?_
                refine m_invSi A (c_X5_in G _ p 1 9 (up2 M 84 0 0) (by omega) (by omega) (by omega)) (by decide) mi_X5_in ms_X5_in cs_X5_89 dX5_lane_68 rfl rfl (Nat.le_of_ble_eq_true rfl) (fun z68 M68 h68 => ?_)
                obtain ⟨e68, hc68⟩ := h68
                have e68 := e68.symm
                subst e68
                refine a_if_eq (tgt := 85) A dX5_lane_71 (by decide) (by omega) (fun h71 => ?_) (fun h71 => ?_)
                · refine a_iconst A dX5_lane_85 ?_
                  exact m_ireturn A T0 dX5_lane_86 (by first | exact Or.inr ⟨rfl, by omega, rfl⟩ | exact Or.inl ⟨rfl, by omega, rfl⟩)
                · refine a_iload (z := q) A dX5_lane_74 rfl ?_
                  refine a_iconst A dX5_lane_76 ?_
                  refine a_bipush A dX5_lane_77 (by decide) ?_
                  refine m_invSi A (c_X5_in G _ q 1 9 (up2 M 84 0 0) (by omega) (by omega) (by omega)) (by decide) mi_X5_in ms_X5_in cs_X5_89 dX5_lane_79 rfl rfl (Nat.le_of_ble_eq_true rfl) (fun z79 M79 h79 => ?_)
                  obtain ⟨e79, hc79⟩ := h79
                  have e79 := e79.symm
                  subst e79
                  refine a_if_ne (tgt := 87) A dX5_lane_82 (by decide) (by omega) (fun h82 => ?_) (fun h82 => ?_)
                  · refine a_aload_n (z := 84) A dX5_lane_87 rfl ?_
                    refine gf_X5_13 (r := 86) A dX5_lane_88 rfl (by decide) rfl ?_
                    refine a_iconst A dX5_lane_91 ?_
                    refine a_iaload (i := 0) (x := M 86 0) A dX5_lane_92 rfl (by decide) (by decide) (by omega) rfl ?_
                    refine a_istore (lv' := [.ref 84, vi fr, vi t, vi r, vi p, vi q, vi (M 86 0)]) A dX5_lane_93 (by decide) rfl ?_
                    refine a_aload_n (z := 84) A dX5_lane_95 rfl ?_
                    refine gf_X5_13 (r := 86) A dX5_lane_96 rfl (by decide) rfl ?_
                    refine a_iconst A dX5_lane_99 ?_
                    refine a_dup2 A dX5_lane_100 rfl rfl ?_
                    refine a_iaload (i := 0) (x := M 86 0) A dX5_lane_101 rfl (by decide) (by decide) (by omega) rfl ?_
                    refine a_iconst A dX5_lane_102 ?_
                    refine a_iadd (x := (M 86 0)) (y := 1) A dX5_lane_103 ?_
                    refine a_iastore (i := 0) (j := 0) A dX5_lane_104 rfl (by decide) (by decide) (by omega) rfl ?_
                    refine a_aload_n (z := 84) A dX5_lane_105 rfl ?_
                    refine gf_X5_16 (r := 87) A dX5_lane_106 rfl (by decide) rfl ?_
                    refine a_iload (z := (M 86 0)) A dX5_lane_109 rfl ?_
                    refine a_iload_n (z := fr) A dX5_lane_111 rfl ?_
                    refine a_iastore (i := (M 86 0)) (j := (M 86 0).toNat) A dX5_lane_112 rfl (by decide) (by decide) (by omega) rfl ?_
                    refine a_aload_n (z := 84) A dX5_lane_113 rfl ?_
                    refine gf_X5_19 (r := 88) A dX5_lane_114 rfl (by decide) rfl ?_
                    refine a_iload (z := (M 86 0)) A dX5_lane_117 rfl ?_
                    refine a_iload_n (z := t) A dX5_lane_119 rfl ?_
                    refine a_iastore (i := (M 86 0)) (j := (M 86 0).toNat) A dX5_lane_120 rfl (by decide) (by decide) (by omega) rfl ?_
                    refine a_aload_n (z := 84) A dX5_lane_121 rfl ?_
                    refine gf_X5_22 (r := 89) A dX5_lane_122 rfl (by decide) rfl ?_
                    refine a_iload (z := (M 86 0)) A dX5_lane_125 rfl ?_
                    refine a_iload_n (z := r) A dX5_lane_127 rfl ?_
                    refine a_iastore (i := (M 86 0)) (j := (M 86 0).toNat) A dX5_lane_128 rfl (by decide) (by decide) (by omega) rfl ?_
                    refine a_aload_n (z := 84) A dX5_lane_129 rfl ?_
                    refine gf_X5_25 (r := 90) A dX5_lane_130 rfl (by decide) rfl ?_
                    refine a_iload (z := (M 86 0)) A dX5_lane_133 rfl ?_
                    refine a_iload (z := p) A dX5_lane_135 rfl ?_
                    refine a_iastore (i := (M 86 0)) (j := (M 86 0).toNat) A dX5_lane_137 rfl (by decide) (by decide) (by omega) rfl ?_
                    refine a_aload_n (z := 84) A dX5_lane_138 rfl ?_
                    refine gf_X5_28 (r := 91) A dX5_lane_139 rfl (by decide) rfl ?_
                    refine a_iload (z := (M 86 0)) A dX5_lane_142 rfl ?_
                    refine a_iload (z := q) A dX5_lane_144 rfl ?_
                    refine a_iastore (i := (M 86 0)) (j := (M 86 0).toNat) A dX5_lane_146 rfl (by decide) (by decide) (by omega) rfl ?_
                    refine a_aload_n (z := 84) A dX5_lane_147 rfl ?_
                    refine gf_X5_31 (r := 92) A dX5_lane_148 rfl (by decide) rfl ?_
                    refine a_iload (z := (M 86 0)) A dX5_lane_151 rfl ?_
                    refine a_iconst A dX5_lane_153 ?_
                    refine a_iastore (i := (M 86 0)) (j := (M 86 0).toNat) A dX5_lane_154 rfl (by decide) (by decide) (by omega) rfl ?_
                    refine a_aload_n (z := 84) A dX5_lane_155 rfl ?_
                    refine gf_X5_34 (r := 93) A dX5_lane_156 rfl (by decide) rfl ?_
                    refine a_iload (z := (M 86 0)) A dX5_lane_159 rfl ?_
                    refine a_iconst A dX5_lane_161 ?_
                    refine a_iastore (i := (M 86 0)) (j := (M 86 0).toNat) A dX5_lane_162 rfl (by decide) (by decide) (by omega) rfl ?_
                    refine a_aload_n (z := 84) A dX5_lane_163 rfl ?_
                    refine gf_X5_37 (r := 94) A dX5_lane_164 rfl (by decide) rfl ?_
                    refine a_iload (z := (M 86 0)) A dX5_lane_167 rfl ?_
                    refine a_iconst A dX5_lane_169 ?_
                    refine a_iastore (i := (M 86 0)) (j := (M 86 0).toNat) A dX5_lane_170 rfl (by decide) (by decide) (by omega) rfl ?_
                    refine a_iload (z := (M 86 0)) A dX5_lane_171 rfl ?_
                    exact m_ireturn A T0 dX5_lane_173 (by first | exact Or.inr ⟨rfl, by omega, rfl⟩ | exact Or.inl ⟨rfl, by omega, rfl⟩)
                  · refine a_iconst A dX5_lane_85 ?_
                    exact m_ireturn A T0 dX5_lane_86 (by first | exact Or.inr ⟨rfl, by omega, rfl⟩ | exact Or.inl ⟨rfl, by omega, rfl⟩)
set_option maxRecDepth 100000 in
set_option maxHeartbeats 4000000 in
theorem c_X5_room (G : GG) (l : Launch) (k r : Int) (M : MM) (hk : I32 k) (hr : I32 r) (hL : 0 ≤ M 86 0 ∧ M 86 0 ≤ 10) : CMi G l yX5_room cX5_room 3 (some .boolean) 3 [.ref 84, vi k, vi r] M (fun z M' => (z = 1 ∧ 0 ≤ k ∧ k < M 86 0 ∧ 0 ≤ r ∧ r ≤ 100 ∧ M' = up2 (up2 M 84 0 0) 89 k.toNat r) ∨ (z = 0 ∧ ¬ (0 ≤ k ∧ k < M 86 0 ∧ 0 ≤ r ∧ r ≤ 100) ∧ M' = up2 M 84 0 0)) := by
  refine CT.intro (by decide) (Nat.le_of_ble_eq_true rfl) (fun E hE A T0 => ?_)
  subst hE
  refine a_aload_n (z := 84) A dX5_room_0 rfl ?_
  refine a_iconst A dX5_room_1 ?_
  refine pf_X5_81 A dX5_room_2 rfl (by decide) ?_
  refine a_aload_n (z := 84) A dX5_room_5 rfl ?_
  refine a_iload_n (z := k) A dX5_room_6 rfl ?_
  refine m_invVi A (c_X5_isLane G _ k (up2 M 84 0 0) (by omega) hL) (by decide) mi_X5_isLane mv_X5_isLane cs_X5_97 cf5 dX5_room_7 rfl (by decide) rfl rfl (Nat.le_of_ble_eq_true rfl) (fun z7 M7 h7 => ?_)
  obtain ⟨e7, hc7⟩ := h7
  have e7 := e7.symm
  subst e7
  have hc7 : (z7 = 1 ∧ 0 ≤ k ∧ k < M 86 0) ∨ (z7 = 0 ∧ (k < 0 ∨ M 86 0 ≤ k)) := hc7
  refine a_if_eq (tgt := 23) A dX5_room_10 (by decide) (by omega) (fun h10 => ?_) (fun h10 => ?_)
  · refine a_iconst A dX5_room_23 ?_
    exact m_zreturn A T0 dX5_room_24 (by first | exact Or.inl rfl | exact Or.inr rfl | omega) (by first | exact Or.inr ⟨rfl, by omega, rfl⟩ | exact Or.inl ⟨rfl, by omega, by omega, by omega, by omega, rfl⟩)
  · refine a_iload_n (z := r) A dX5_room_13 rfl ?_
    refine a_iconst A dX5_room_14 ?_
    refine a_bipush A dX5_room_15 (by decide) ?_
    refine m_invSi A (c_X5_in G _ r 0 100 (up2 M 84 0 0) (by omega) (by omega) (by omega)) (by decide) mi_X5_in ms_X5_in cs_X5_89 dX5_room_17 rfl rfl (Nat.le_of_ble_eq_true rfl) (fun z17 M17 h17 => ?_)
    obtain ⟨e17, hc17⟩ := h17
    have e17 := e17.symm
    subst e17
    refine a_if_ne (tgt := 25) A dX5_room_20 (by decide) (by omega) (fun h20 => ?_) (fun h20 => ?_)
    · refine a_aload_n (z := 84) A dX5_room_25 rfl ?_
      refine gf_X5_22 (r := 89) A dX5_room_26 rfl (by decide) rfl ?_
      refine a_iload_n (z := k) A dX5_room_29 rfl ?_
      refine a_iload_n (z := r) A dX5_room_30 rfl ?_
      refine a_iastore (i := k) (j := k.toNat) A dX5_room_31 rfl (by decide) (by decide) (by omega) rfl ?_
      refine a_iconst A dX5_room_32 ?_
      exact m_zreturn A T0 dX5_room_33 (by first | exact Or.inl rfl | exact Or.inr rfl | omega) (by first | exact Or.inr ⟨rfl, by omega, rfl⟩ | exact Or.inl ⟨rfl, by omega, by omega, by omega, by omega, rfl⟩)
    · refine a_iconst A dX5_room_23 ?_
      exact m_zreturn A T0 dX5_room_24 (by first | exact Or.inl rfl | exact Or.inr rfl | omega) (by first | exact Or.inr ⟨rfl, by omega, rfl⟩ | exact Or.inl ⟨rfl, by omega, by omega, by omega, by omega, rfl⟩)
set_option maxRecDepth 100000 in
set_option maxHeartbeats 4000000 in
theorem c_X5_share (G : GG) (l : Launch) (k p q b : Int) (M : MM) (hk : I32 k) (hp : I32 p) (hq : I32 q) (hb : I32 b) (hL : 0 ≤ M 86 0 ∧ M 86 0 ≤ 10) : CMi G l yX5_share cX5_share 5 (some .boolean) 3 [.ref 84, vi k, vi p, vi q, vi b] M (fun z M' => (z = 1 ∧ (0 ≤ k ∧ k < M 86 0 ∧ 1 ≤ p ∧ p ≤ 9 ∧ 1 ≤ q ∧ q ≤ 9 ∧ 0 ≤ b ∧ b ≤ 8) ∧ M' = up2 (up2 (up2 (up2 M 84 0 0) 90 k.toNat p) 91 k.toNat q) 92 k.toNat b) ∨ (z = 0 ∧ ¬ (0 ≤ k ∧ k < M 86 0 ∧ 1 ≤ p ∧ p ≤ 9 ∧ 1 ≤ q ∧ q ≤ 9 ∧ 0 ≤ b ∧ b ≤ 8) ∧ M' = up2 M 84 0 0)) := by
  refine CT.intro (by decide) (Nat.le_of_ble_eq_true rfl) (fun E hE A T0 => ?_)
  subst hE
  refine a_aload_n (z := 84) A dX5_share_0 rfl ?_
  refine a_iconst A dX5_share_1 ?_
  refine pf_X5_81 A dX5_share_2 rfl (by decide) ?_
  refine a_aload_n (z := 84) A dX5_share_5 rfl ?_
  refine a_iload_n (z := k) A dX5_share_6 rfl ?_
  refine m_invVi A (c_X5_isLane G _ k (up2 M 84 0 0) (by omega) hL) (by decide) mi_X5_isLane mv_X5_isLane cs_X5_97 cf5 dX5_share_7 rfl (by decide) rfl rfl (Nat.le_of_ble_eq_true rfl) (fun z7 M7 h7 => ?_)
  obtain ⟨e7, hc7⟩ := h7
  have e7 := e7.symm
  subst e7
  have hc7 : (z7 = 1 ∧ 0 ≤ k ∧ k < M 86 0) ∨ (z7 = 0 ∧ (k < 0 ∨ M 86 0 ≤ k)) := hc7
  refine a_if_eq (tgt := 44) A dX5_share_10 (by decide) (by omega) (fun h10 => ?_) (fun h10 => ?_)
  · refine a_iconst A dX5_share_44 ?_
    exact m_zreturn A T0 dX5_share_45 (by first | exact Or.inl rfl | exact Or.inr rfl | omega) (by first | exact Or.inr ⟨rfl, by omega, rfl⟩ | exact Or.inl ⟨rfl, by omega, rfl⟩)
  · refine a_iload_n (z := p) A dX5_share_13 rfl ?_
    refine a_iconst A dX5_share_14 ?_
    refine a_bipush A dX5_share_15 (by decide) ?_
    refine m_invSi A (c_X5_in G _ p 1 9 (up2 M 84 0 0) (by omega) (by omega) (by omega)) (by decide) mi_X5_in ms_X5_in cs_X5_89 dX5_share_17 rfl rfl (Nat.le_of_ble_eq_true rfl) (fun z17 M17 h17 => ?_)
    obtain ⟨e17, hc17⟩ := h17
    have e17 := e17.symm
    subst e17
    refine a_if_eq (tgt := 44) A dX5_share_20 (by decide) (by omega) (fun h20 => ?_) (fun h20 => ?_)
    · refine a_iconst A dX5_share_44 ?_
      exact m_zreturn A T0 dX5_share_45 (by first | exact Or.inl rfl | exact Or.inr rfl | omega) (by first | exact Or.inr ⟨rfl, by omega, rfl⟩ | exact Or.inl ⟨rfl, by omega, rfl⟩)
    · refine a_iload_n (z := q) A dX5_share_23 rfl ?_
      refine a_iconst A dX5_share_24 ?_
      refine a_bipush A dX5_share_25 (by decide) ?_
      refine m_invSi A (c_X5_in G _ q 1 9 (up2 M 84 0 0) (by omega) (by omega) (by omega)) (by decide) mi_X5_in ms_X5_in cs_X5_89 dX5_share_27 rfl rfl (Nat.le_of_ble_eq_true rfl) (fun z27 M27 h27 => ?_)
      obtain ⟨e27, hc27⟩ := h27
      have e27 := e27.symm
      subst e27
      refine a_if_eq (tgt := 44) A dX5_share_30 (by decide) (by omega) (fun h30 => ?_) (fun h30 => ?_)
      · refine a_iconst A dX5_share_44 ?_
        exact m_zreturn A T0 dX5_share_45 (by first | exact Or.inl rfl | exact Or.inr rfl | omega) (by first | exact Or.inr ⟨rfl, by omega, rfl⟩ | exact Or.inl ⟨rfl, by omega, rfl⟩)
      · refine a_iload (z := b) A dX5_share_33 rfl ?_
        refine a_iconst A dX5_share_35 ?_
        refine a_bipush A dX5_share_36 (by decide) ?_
        refine m_invSi A (c_X5_in G _ b 0 8 (up2 M 84 0 0) (by omega) (by omega) (by omega)) (by decide) mi_X5_in ms_X5_in cs_X5_89 dX5_share_38 rfl rfl (Nat.le_of_ble_eq_true rfl) (fun z38 M38 h38 => ?_)
        obtain ⟨e38, hc38⟩ := h38
        have e38 := e38.symm
        subst e38
        refine a_if_ne (tgt := 46) A dX5_share_41 (by decide) (by omega) (fun h41 => ?_) (fun h41 => ?_)
        · refine a_aload_n (z := 84) A dX5_share_46 rfl ?_
          refine gf_X5_25 (r := 90) A dX5_share_47 rfl (by decide) rfl ?_
          refine a_iload_n (z := k) A dX5_share_50 rfl ?_
          refine a_iload_n (z := p) A dX5_share_51 rfl ?_
          refine a_iastore (i := k) (j := k.toNat) A dX5_share_52 rfl (by decide) (by decide) (by omega) rfl ?_
          refine a_aload_n (z := 84) A dX5_share_53 rfl ?_
          refine gf_X5_28 (r := 91) A dX5_share_54 rfl (by decide) rfl ?_
          refine a_iload_n (z := k) A dX5_share_57 rfl ?_
          refine a_iload_n (z := q) A dX5_share_58 rfl ?_
          refine a_iastore (i := k) (j := k.toNat) A dX5_share_59 rfl (by decide) (by decide) (by omega) rfl ?_
          refine a_aload_n (z := 84) A dX5_share_60 rfl ?_
          refine gf_X5_31 (r := 92) A dX5_share_61 rfl (by decide) rfl ?_
          refine a_iload_n (z := k) A dX5_share_64 rfl ?_
          refine a_iload (z := b) A dX5_share_65 rfl ?_
          refine a_iastore (i := k) (j := k.toNat) A dX5_share_67 rfl (by decide) (by decide) (by omega) rfl ?_
          refine a_iconst A dX5_share_68 ?_
          exact m_zreturn A T0 dX5_share_69 (by first | exact Or.inl rfl | exact Or.inr rfl | omega) (by first | exact Or.inr ⟨rfl, by omega, rfl⟩ | exact Or.inl ⟨rfl, by omega, rfl⟩)
        · refine a_iconst A dX5_share_44 ?_
          exact m_zreturn A T0 dX5_share_45 (by first | exact Or.inl rfl | exact Or.inr rfl | omega) (by first | exact Or.inr ⟨rfl, by omega, rfl⟩ | exact Or.inl ⟨rfl, by omega, rfl⟩)
set_option maxRecDepth 100000 in
set_option maxHeartbeats 4000000 in
theorem c_X5_send (G : GG) (l : Launch) (k u v : Int) (M : MM) (hk : I32 k) (hu : I32 u) (hv : I32 v) (hL : 0 ≤ M 86 0 ∧ M 86 0 ≤ 10) : CMi G l yX5_send cX5_send 4 (some .boolean) 3 [.ref 84, vi k, vi u, vi v] M (fun z M' => (z = 1 ∧ (0 ≤ k ∧ k < M 86 0 ∧ 0 ≤ u ∧ u ≤ 1000 ∧ 1 ≤ v ∧ v ≤ 9) ∧ M' = up2 (up2 (up2 M 84 0 0) 93 k.toNat u) 94 k.toNat v) ∨ (z = 0 ∧ ¬ (0 ≤ k ∧ k < M 86 0 ∧ 0 ≤ u ∧ u ≤ 1000 ∧ 1 ≤ v ∧ v ≤ 9) ∧ M' = up2 M 84 0 0)) := by
  refine CT.intro (by decide) (Nat.le_of_ble_eq_true rfl) (fun E hE A T0 => ?_)
  subst hE
  refine a_aload_n (z := 84) A dX5_send_0 rfl ?_
  refine a_iconst A dX5_send_1 ?_
  refine pf_X5_81 A dX5_send_2 rfl (by decide) ?_
  refine a_aload_n (z := 84) A dX5_send_5 rfl ?_
  refine a_iload_n (z := k) A dX5_send_6 rfl ?_
  refine m_invVi A (c_X5_isLane G _ k (up2 M 84 0 0) (by omega) hL) (by decide) mi_X5_isLane mv_X5_isLane cs_X5_97 cf5 dX5_send_7 rfl (by decide) rfl rfl (Nat.le_of_ble_eq_true rfl) (fun z7 M7 h7 => ?_)
  obtain ⟨e7, hc7⟩ := h7
  have e7 := e7.symm
  subst e7
  have hc7 : (z7 = 1 ∧ 0 ≤ k ∧ k < M 86 0) ∨ (z7 = 0 ∧ (k < 0 ∨ M 86 0 ≤ k)) := hc7
  refine a_if_eq (tgt := 34) A dX5_send_10 (by decide) (by omega) (fun h10 => ?_) (fun h10 => ?_)
  · refine a_iconst A dX5_send_34 ?_
    exact m_zreturn A T0 dX5_send_35 (by first | exact Or.inl rfl | exact Or.inr rfl | omega) (by first | exact Or.inr ⟨rfl, by omega, rfl⟩ | exact Or.inl ⟨rfl, by omega, rfl⟩)
  · refine a_iload_n (z := u) A dX5_send_13 rfl ?_
    refine a_iconst A dX5_send_14 ?_
    refine a_sipush A dX5_send_15 (by decide) ?_
    refine m_invSi A (c_X5_in G _ u 0 1000 (up2 M 84 0 0) (by omega) (by omega) (by omega)) (by decide) mi_X5_in ms_X5_in cs_X5_89 dX5_send_18 rfl rfl (Nat.le_of_ble_eq_true rfl) (fun z18 M18 h18 => ?_)
    obtain ⟨e18, hc18⟩ := h18
    have e18 := e18.symm
    subst e18
    refine a_if_eq (tgt := 34) A dX5_send_21 (by decide) (by omega) (fun h21 => ?_) (fun h21 => ?_)
    · refine a_iconst A dX5_send_34 ?_
      exact m_zreturn A T0 dX5_send_35 (by first | exact Or.inl rfl | exact Or.inr rfl | omega) (by first | exact Or.inr ⟨rfl, by omega, rfl⟩ | exact Or.inl ⟨rfl, by omega, rfl⟩)
    · refine a_iload_n (z := v) A dX5_send_24 rfl ?_
      refine a_iconst A dX5_send_25 ?_
      refine a_bipush A dX5_send_26 (by decide) ?_
      refine m_invSi A (c_X5_in G _ v 1 9 (up2 M 84 0 0) (by omega) (by omega) (by omega)) (by decide) mi_X5_in ms_X5_in cs_X5_89 dX5_send_28 rfl rfl (Nat.le_of_ble_eq_true rfl) (fun z28 M28 h28 => ?_)
      obtain ⟨e28, hc28⟩ := h28
      have e28 := e28.symm
      subst e28
      refine a_if_ne (tgt := 36) A dX5_send_31 (by decide) (by omega) (fun h31 => ?_) (fun h31 => ?_)
      · refine a_aload_n (z := 84) A dX5_send_36 rfl ?_
        refine gf_X5_34 (r := 93) A dX5_send_37 rfl (by decide) rfl ?_
        refine a_iload_n (z := k) A dX5_send_40 rfl ?_
        refine a_iload_n (z := u) A dX5_send_41 rfl ?_
        refine a_iastore (i := k) (j := k.toNat) A dX5_send_42 rfl (by decide) (by decide) (by omega) rfl ?_
        refine a_aload_n (z := 84) A dX5_send_43 rfl ?_
        refine gf_X5_37 (r := 94) A dX5_send_44 rfl (by decide) rfl ?_
        refine a_iload_n (z := k) A dX5_send_47 rfl ?_
        refine a_iload_n (z := v) A dX5_send_48 rfl ?_
        refine a_iastore (i := k) (j := k.toNat) A dX5_send_49 rfl (by decide) (by decide) (by omega) rfl ?_
        refine a_iconst A dX5_send_50 ?_
        exact m_zreturn A T0 dX5_send_51 (by first | exact Or.inl rfl | exact Or.inr rfl | omega) (by first | exact Or.inr ⟨rfl, by omega, rfl⟩ | exact Or.inl ⟨rfl, by omega, rfl⟩)
      · refine a_iconst A dX5_send_34 ?_
        exact m_zreturn A T0 dX5_send_35 (by first | exact Or.inl rfl | exact Or.inr rfl | omega) (by first | exact Or.inr ⟨rfl, by omega, rfl⟩ | exact Or.inl ⟨rfl, by omega, rfl⟩)
set_option maxRecDepth 100000 in
set_option maxHeartbeats 4000000 in
theorem c_X5_row (G : GG) (l : Launch) (k : Int) (M : MM) (hk : I32 k) (hh : 0 ≤ M 95 0 ∧ M 95 0 ≤ 5) : CMi G l yX5_row cX5_row 2 (some .int) 3 [.ref 84, vi k] M (fun z M' => M' = up2 M 84 0 0 ∧ ((z = M 96 k.toNat ∧ 0 ≤ k ∧ k < M 95 0) ∨ (z = -1 ∧ (k < 0 ∨ M 95 0 ≤ k)))) := by
  refine CT.intro (by decide) (Nat.le_of_ble_eq_true rfl) (fun E hE A T0 => ?_)
  subst hE
  refine a_aload_n (z := 84) A dX5_row_0 rfl ?_
  refine a_iconst A dX5_row_1 ?_
  refine pf_X5_81 A dX5_row_2 rfl (by decide) ?_
  refine a_iload_n (z := k) A dX5_row_5 rfl ?_
  refine a_iconst A dX5_row_6 ?_
  refine a_aload_n (z := 84) A dX5_row_7 rfl ?_
  refine gf_X5_40 (r := 95) A dX5_row_8 rfl (by decide) rfl ?_
  refine a_iconst A dX5_row_11 ?_
  refine a_iaload (i := 0) (x := M 95 0) A dX5_row_12 rfl (by decide) (by decide) (by omega) rfl ?_
  refine a_iconst A dX5_row_13 ?_
  refine a_isub (x := (M 95 0)) (y := 1) A dX5_row_14 ?_
  refine m_invSi A (c_X5_in G _ k 0 ((M 95 0) - 1) (up2 M 84 0 0) (by omega) (by omega) (by omega)) (by decide) mi_X5_in ms_X5_in cs_X5_89 dX5_row_15 rfl rfl (Nat.le_of_ble_eq_true rfl) (fun z15 M15 h15 => ?_)
  obtain ⟨e15, hc15⟩ := h15
  have e15 := e15.symm
  subst e15
  refine a_if_eq (tgt := 30) A dX5_row_18 (by decide) (by omega) (fun h18 => ?_) (fun h18 => ?_)
  · refine a_iconst A dX5_row_30 ?_
    exact m_ireturn A T0 dX5_row_31 (by exact ⟨rfl, by omega⟩)
  · refine a_aload_n (z := 84) A dX5_row_21 rfl ?_
    refine gf_X5_43 (r := 96) A dX5_row_22 rfl (by decide) rfl ?_
    refine a_iload_n (z := k) A dX5_row_25 rfl ?_
    refine a_iaload (i := k) (x := M 96 k.toNat) A dX5_row_26 rfl (by decide) (by decide) (by omega) rfl ?_
    refine a_goto (tgt := 31) A dX5_row_27 (by decide) ?_
    exact m_ireturn A T0 dX5_row_31 (by exact ⟨rfl, by omega⟩)
set_option maxRecDepth 100000 in
set_option maxHeartbeats 4000000 in
theorem c_X5_gain (G : GG) (l : Launch) (b : Int) (M : MM) (hb : I32 b) (hh : 0 ≤ M 95 0 ∧ M 95 0 ≤ 5) : CMl G l yX5_gain cX5_gain 2 (some .long) 3 [.ref 84, vi b] M (fun z M' => M' = up2 M 84 0 0 ∧ ((z = 0 ∧ M 95 0 = 0) ∨ (M 95 0 ≠ 0 ∧ b ≠ 0 ∧ z = M 98 0) ∨ (M 95 0 ≠ 0 ∧ b = 0 ∧ z = M 97 0))) := by
  refine CT.intro (by decide) (Nat.le_of_ble_eq_true rfl) (fun E hE A T0 => ?_)
  subst hE
  refine a_aload_n (z := 84) A dX5_gain_0 rfl ?_
  refine a_iconst A dX5_gain_1 ?_
  refine pf_X5_81 A dX5_gain_2 rfl (by decide) ?_
  refine a_aload_n (z := 84) A dX5_gain_5 rfl ?_
  refine gf_X5_40 (r := 95) A dX5_gain_6 rfl (by decide) rfl ?_
  refine a_iconst A dX5_gain_9 ?_
  refine a_iaload (i := 0) (x := M 95 0) A dX5_gain_10 rfl (by decide) (by decide) (by omega) rfl ?_
  refine a_if_ne (tgt := 18) A dX5_gain_11 (by decide) (by omega) (fun h11 => ?_) (fun h11 => ?_)
  · refine a_iload_n (z := b) A dX5_gain_18 rfl ?_
    refine a_if_eq (tgt := 31) A dX5_gain_19 (by decide) (by omega) (fun h19 => ?_) (fun h19 => ?_)
    · refine a_aload_n (z := 84) A dX5_gain_31 rfl ?_
      refine gf_X5_46 (r := 97) A dX5_gain_32 rfl (by decide) rfl ?_
      refine a_iconst A dX5_gain_35 ?_
      refine a_laload (i := 0) (x := M 97 0) A dX5_gain_36 rfl (by decide) (by decide) (by omega) rfl ?_
      exact m_lreturn A T0 dX5_gain_37 (by exact ⟨rfl, by omega⟩)
    · refine a_aload_n (z := 84) A dX5_gain_22 rfl ?_
      refine gf_X5_50 (r := 98) A dX5_gain_23 rfl (by decide) rfl ?_
      refine a_iconst A dX5_gain_26 ?_
      refine a_laload (i := 0) (x := M 98 0) A dX5_gain_27 rfl (by decide) (by decide) (by omega) rfl ?_
      refine a_goto (tgt := 37) A dX5_gain_28 (by decide) ?_
      exact m_lreturn A T0 dX5_gain_37 (by exact ⟨rfl, by omega⟩)
  · refine a_lconst0 A dX5_gain_14 ?_
    refine a_goto (tgt := 37) A dX5_gain_15 (by decide) ?_
    exact m_lreturn A T0 dX5_gain_37 (by exact ⟨rfl, by omega⟩)
end
section
set_option maxRecDepth 100000 in
set_option maxHeartbeats 4000000 in
theorem gcd_loop5 {G : GG} {E : EE} {M : MM} {g : Int} (A : AmM G E cX5_gcd 10 yX5_gcd.cls 1) (T0 : RT E G yX5_gcd 108 0 0 (some .long) (fun r rf' M' => rf' = rF ∧ ∃ z, r = some (vl z) ∧ ((fun z M' => M' = M ∧ z = g)) z M')) (a b : Int) : ∀ (n x y : Nat) (w : Value), y < n → x < 9223372036854775808 → y < 9223372036854775808 → g = ((Nat.gcd x y : Nat) : Int) → AM G E 10 17 [vl a, jk, vl b, jk, vl (x : Int), jk, vl (y : Int), jk, w, jk] [] M := by
  intro n
  induction n with
  | zero => intro x y w h; exact absurd h (Nat.not_lt_zero _)
  | succ n ih =>
    intro x y w hn hx hy hg
    refine a_lload (z := (y : Int)) A dX5_gcd_17 rfl ?_
    refine a_lconst0 A dX5_gcd_19 ?_
    refine a_lcmp_eq (tgt := 42) A dX5_gcd_20 dX5_gcd_21 (by decide) (by omega) (by omega) (fun h20 => ?_) (fun h20 => ?_)
    · refine a_lload (z := (x : Int)) A dX5_gcd_42 rfl ?_
      exact m_lreturn A T0 dX5_gcd_44 (by exact ⟨rfl, by rw [hg, show y = 0 by omega, Nat.gcd_zero_right]⟩)
    · refine a_lload (z := (x : Int)) A dX5_gcd_24 rfl ?_
      refine a_lload (z := (y : Int)) A dX5_gcd_26 rfl ?_
      refine a_lrem A dX5_gcd_28 (by omega) (by omega) (by omega) ?_
      refine a_lstore (lv' := [vl a, jk, vl b, jk, vl (x : Int), jk, vl (y : Int), jk, vl ((x : Int).tmod (y : Int)), jk]) A dX5_gcd_29 (by decide) rfl ?_
      refine a_lload (z := (y : Int)) A dX5_gcd_31 rfl ?_
      refine a_lstore (lv' := [vl a, jk, vl b, jk, vl (y : Int), jk, vl (y : Int), jk, vl ((x : Int).tmod (y : Int)), jk]) A dX5_gcd_33 (by decide) rfl ?_
      refine a_lload (z := ((x : Int).tmod (y : Int))) A dX5_gcd_35 rfl ?_
      refine a_lstore (lv' := [vl a, jk, vl b, jk, vl (y : Int), jk, vl ((x : Int).tmod (y : Int)), jk, vl ((x : Int).tmod (y : Int)), jk]) A dX5_gcd_37 (by decide) rfl ?_
      refine a_goto (tgt := 17) A dX5_gcd_39 (by decide) ?_
      exact ih y (x % y) _ (by have := Nat.mod_lt x (show 0 < y by omega); omega) hy (by have := Nat.mod_lt x (show 0 < y by omega); omega) (by rw [hg, Nat.gcd_comm x y, Nat.gcd_rec y x, Nat.gcd_comm])
set_option maxRecDepth 100000 in
set_option maxHeartbeats 4000000 in
theorem c_X5_gcd (G : GG) (l : Launch) (a b : Int) (M : MM) (ha : -9223372036854775808 < a ∧ a < 9223372036854775808) (hb : 0 ≤ b ∧ b < 9223372036854775808) : CMl G l yX5_gcd cX5_gcd 10 (some .long) 1 [vl a, vl b] M (fun z M' => M' = M ∧ z = (Int.gcd a b : Int)) := by
  refine CT.intro (by decide) (Nat.le_of_ble_eq_true rfl) (fun E hE A T0 => ?_)
  subst hE
  refine a_lload_n (z := a) A dX5_gcd_0 rfl ?_
  refine a_lconst0 A dX5_gcd_1 ?_
  refine a_lcmp_ge (tgt := 11) A dX5_gcd_2 dX5_gcd_3 (by decide) (by omega) (by omega) (fun h2 => ?_) (fun h2 => ?_)
  · refine a_lload_n (z := a) A dX5_gcd_11 rfl ?_
    refine a_lstore (lv' := [vl a, jk, vl b, jk, vl a, jk, jk, jk, jk, jk]) A dX5_gcd_12 (by decide) rfl ?_
    refine a_lload_n (z := b) A dX5_gcd_14 rfl ?_
    refine a_lstore (lv' := [vl a, jk, vl b, jk, vl a, jk, vl b, jk, jk, jk]) A dX5_gcd_15 (by decide) rfl ?_
    obtain ⟨b', hb'⟩ : ∃ b' : Nat, b = (b' : Int) := ⟨b.toNat, by omega⟩
    subst hb'
    obtain ⟨a', ea⟩ : ∃ a' : Nat, a = (a' : Int) := ⟨a.toNat, by omega⟩
    subst ea
    exact gcd_loop5 A T0 _ _ (b' + 1) a' b' jk (by omega) (by omega) (by omega) rfl
  · refine a_lload_n (z := a) A dX5_gcd_6 rfl ?_
    refine a_lneg A dX5_gcd_7 ?_
    refine a_goto (tgt := 12) A dX5_gcd_8 (by decide) ?_
    refine a_lstore (lv' := [vl a, jk, vl b, jk, vl (-a), jk, jk, jk, jk, jk]) A dX5_gcd_12 (by decide) rfl ?_
    refine a_lload_n (z := b) A dX5_gcd_14 rfl ?_
    refine a_lstore (lv' := [vl a, jk, vl b, jk, vl (-a), jk, vl b, jk, jk, jk]) A dX5_gcd_15 (by decide) rfl ?_
    obtain ⟨b', hb'⟩ : ∃ b' : Nat, b = (b' : Int) := ⟨b.toNat, by omega⟩
    subst hb'
    rw [show -a = ((a.natAbs : Nat) : Int) by omega]
    exact gcd_loop5 A T0 _ _ (b' + 1) a.natAbs b' jk (by omega) (by omega) (by omega) rfl
end
section
/-! sums, lanes that may be, fractions in least terms -/
def sumZ (f : Nat → Int) : Nat → Int
  | 0 => 0
  | n + 1 => sumZ f n + f n
def LW (M : MM) (i : Nat) : Prop := 0 ≤ M 87 i ∧ M 87 i < M 85 0 - 1 ∧ 0 < M 88 i ∧ M 88 i < M 85 0 ∧ M 87 i ≠ M 88 i ∧ 0 ≤ M 89 i ∧ M 89 i ≤ 100 ∧ 1 ≤ M 90 i ∧ M 90 i ≤ 9 ∧ 1 ≤ M 91 i ∧ M 91 i ≤ 9 ∧ 0 ≤ M 92 i ∧ M 92 i ≤ 8 ∧ 0 ≤ M 93 i ∧ M 93 i ≤ 1000 ∧ 1 ≤ M 94 i ∧ M 94 i ≤ 9
def nU (a b : Int) : Int := a.tdiv (Int.gcd a b)
def nD (a b : Int) : Int := b.tdiv (Int.gcd a b)
theorem gcd_pos {a b : Int} (hb : 0 < b) : 0 < (Int.gcd a b : Int) ∧ (Int.gcd a b : Int) ≤ b := by
  have h1 : Int.gcd a b ∣ b.natAbs := by rw [Int.gcd_eq_natAbs_gcd_natAbs]; exact Nat.gcd_dvd_right _ _
  have h2 := Nat.le_of_dvd (by omega) h1
  have h3 := Nat.pos_of_dvd_of_pos h1 (by omega)
  omega
theorem mul_bd {a b A B : Int} (ha : 0 ≤ a ∧ a ≤ A) (hb : 0 ≤ b ∧ b ≤ B) : 0 ≤ a * b ∧ a * b ≤ A * B := ⟨Int.mul_nonneg ha.1 hb.1, Int.mul_le_mul ha.2 hb.2 hb.1 (by omega)⟩
theorem mul_pos9 {a b : Int} (ha : 1 ≤ a ∧ a ≤ 9) (hb : 1 ≤ b ∧ b ≤ 9) : 1 ≤ a * b ∧ a * b ≤ 81 := by
  have h1 := mul_bd (A := 9) (B := 9) ⟨by omega, ha.2⟩ ⟨by omega, hb.2⟩
  have h2 := Int.mul_le_mul ha.1 hb.1 (by omega) (by omega)
  omega
def arrF (M : MM) (v : Int) : Nat → Int := fun k => if M 88 k = v then (6350400 : Int).tdiv (M 94 k * M 91 k) * M 93 k * M 90 k else 0
def levF (M : MM) (v : Int) : Nat → Int := fun k => if M 87 k = v then (6350400 : Int).tdiv (M 94 k) * M 93 k else 0
set_option maxRecDepth 100000 in
set_option maxHeartbeats 4000000 in
theorem c_X5_put (G : GG) (l : Launch) (a b : Int) (M : MM) (ha : -9223372036854775808 < a ∧ a < 9223372036854775808) (hb : 0 < b ∧ b < 9223372036854775808) : CMv G l yX5_put cX5_put 7 none 2 [.ref 84, vl a, vl b] M (fun M' => M' = up2 (up2 M 84 15 (nU a b)) 84 16 (nD a b)) := by
  refine CT.intro (by decide) (Nat.le_of_ble_eq_true rfl) (fun E hE A T0 => ?_)
  subst hE
  have hg := gcd_pos (a := a) hb.1
  refine a_lload_n (z := a) A dX5_put_0 rfl ?_
  refine a_lload_n (z := b) A dX5_put_1 rfl ?_
  refine m_invSl A (c_X5_gcd G _ a b M (by omega) (by omega)) (by decide) mi_X5_gcd ms_X5_gcd cs_X5_111 dX5_put_2 rfl rfl (Nat.le_of_ble_eq_true rfl) (fun z2 M2 h2 => ?_)
  obtain ⟨e2, rfl⟩ := h2
  have e2 := e2.symm
  subst e2
  refine a_lstore (lv' := [.ref 84, vl a, jk, vl b, jk, vl (Int.gcd a b : Int), jk]) A dX5_put_5 (by decide) rfl ?_
  refine a_aload_n (z := 84) A dX5_put_7 rfl ?_
  refine a_lload_n (z := a) A dX5_put_8 rfl ?_
  refine a_lload (z := (Int.gcd a b : Int)) A dX5_put_9 rfl ?_
  refine a_ldiv A dX5_put_11 (by omega) (by omega) (by omega) ?_
  refine pf_X5_104 A dX5_put_12 rfl (by decide) ?_
  refine a_aload_n (z := 84) A dX5_put_15 rfl ?_
  refine a_lload_n (z := b) A dX5_put_16 rfl ?_
  refine a_lload (z := (Int.gcd a b : Int)) A dX5_put_17 rfl ?_
  refine a_ldiv A dX5_put_19 (by omega) (by omega) (by omega) ?_
  refine pf_X5_108 A dX5_put_20 rfl (by decide) ?_
  exact m_return A T0 dX5_put_23 (by rfl)
set_option maxRecDepth 100000 in
set_option maxHeartbeats 4000000 in
theorem c_X5_tell (G : GG) (l : Launch) (k w : Int) (M : MM) (hk : I32 k) (hw : I32 w) (hL : 0 ≤ M 86 0 ∧ M 86 0 ≤ 10) (hW : ∀ i : Nat, (i : Int) < M 86 0 → LW M i) : CMi G l yX5_tell cX5_tell 3 (some .int) 4 [.ref 84, vi k, vi w] M (fun z M' => (z = -1 ∧ (¬ (0 ≤ k ∧ k < M 86 0) ∨ w < 0 ∨ 7 < w) ∧ M' = up2 M 84 0 0) ∨ ((0 ≤ k ∧ k < M 86 0) ∧ M' = up2 M 84 0 0 ∧ ((w = 0 ∧ z = M 87 k.toNat) ∨ (w = 1 ∧ z = M 88 k.toNat) ∨ (w = 2 ∧ z = M 89 k.toNat) ∨ (w = 3 ∧ z = M 90 k.toNat) ∨ (w = 4 ∧ z = M 91 k.toNat) ∨ (w = 5 ∧ z = M 92 k.toNat))) ∨ ((0 ≤ k ∧ k < M 86 0) ∧ M' = up2 (up2 (up2 M 84 0 0) 84 15 (nU (M 93 k.toNat) (M 94 k.toNat))) 84 16 (nD (M 93 k.toNat) (M 94 k.toNat)) ∧ ((w = 6 ∧ z = nU (M 93 k.toNat) (M 94 k.toNat)) ∨ (w = 7 ∧ z = nD (M 93 k.toNat) (M 94 k.toNat))))) := by
  refine CT.intro (by decide) (Nat.le_of_ble_eq_true rfl) (fun E hE A T0 => ?_)
  subst hE
  refine a_aload_n (z := 84) A dX5_tell_0 rfl ?_
  refine a_iconst A dX5_tell_1 ?_
  refine pf_X5_81 A dX5_tell_2 rfl (by decide) ?_
  refine a_aload_n (z := 84) A dX5_tell_5 rfl ?_
  refine a_iload_n (z := k) A dX5_tell_6 rfl ?_
  refine m_invVi A (c_X5_isLane G _ k (up2 M 84 0 0) (by omega) hL) (by decide) mi_X5_isLane mv_X5_isLane cs_X5_97 cf5 dX5_tell_7 rfl (by decide) rfl rfl (Nat.le_of_ble_eq_true rfl) (fun z7 M7 h7 => ?_)
  obtain ⟨e7, hc7⟩ := h7
  have e7 := e7.symm
  subst e7
  have hc7 : (z7 = 1 ∧ 0 ≤ k ∧ k < M 86 0) ∨ (z7 = 0 ∧ (k < 0 ∨ M 86 0 ≤ k)) := hc7
  refine a_if_ne (tgt := 15) A dX5_tell_10 (by decide) (by omega) (fun h10 => ?_) (fun h10 => ?_)
  · have hl : LW M k.toNat := hW _ (by omega)
    unfold LW at hl
    refine a_iload_n (z := w) A dX5_tell_15 rfl ?_
    by_cases hsw : w < 0 ∨ 7 < w
    · refine a_tswO (tgt := 143) A dX5_tell_16 (by omega) hsw (by decide) ?_
      refine a_iconst A dX5_tell_143 ?_
      exact m_ireturn A T0 dX5_tell_144 (by first | exact Or.inl ⟨rfl, by omega, rfl⟩ | exact Or.inr (Or.inl ⟨by omega, rfl, by omega⟩) | exact Or.inr (Or.inr ⟨by omega, rfl, by omega⟩))
    · have hs2 : w = 0 ∨ w = 1 ∨ w = 2 ∨ w = 3 ∨ w = 4 ∨ w = 5 ∨ w = 6 ∨ w = 7 := by omega
      rcases hs2 with hs | hs | hs | hs | hs | hs | hs | hs
      · refine a_tswI (tgt := 64) (off := 48) A dX5_tell_16 (by omega) (by omega) (by omega) (by rw [hs]; rfl) (by decide) ?_
        refine a_aload_n (z := 84) A dX5_tell_64 rfl ?_
        refine gf_X5_16 (r := 87) A dX5_tell_65 rfl (by decide) rfl ?_
        refine a_iload_n (z := k) A dX5_tell_68 rfl ?_
        refine a_iaload (i := k) (x := M 87 k.toNat) A dX5_tell_69 rfl (by decide) (by decide) (by omega) rfl ?_
        exact m_ireturn A T0 dX5_tell_70 (by first | exact Or.inl ⟨rfl, by omega, rfl⟩ | exact Or.inr (Or.inl ⟨by omega, rfl, by omega⟩) | exact Or.inr (Or.inr ⟨by omega, rfl, by omega⟩))
      · refine a_tswI (tgt := 71) (off := 55) A dX5_tell_16 (by omega) (by omega) (by omega) (by rw [hs]; rfl) (by decide) ?_
        refine a_aload_n (z := 84) A dX5_tell_71 rfl ?_
        refine gf_X5_19 (r := 88) A dX5_tell_72 rfl (by decide) rfl ?_
        refine a_iload_n (z := k) A dX5_tell_75 rfl ?_
        refine a_iaload (i := k) (x := M 88 k.toNat) A dX5_tell_76 rfl (by decide) (by decide) (by omega) rfl ?_
        exact m_ireturn A T0 dX5_tell_77 (by first | exact Or.inl ⟨rfl, by omega, rfl⟩ | exact Or.inr (Or.inl ⟨by omega, rfl, by omega⟩) | exact Or.inr (Or.inr ⟨by omega, rfl, by omega⟩))
      · refine a_tswI (tgt := 78) (off := 62) A dX5_tell_16 (by omega) (by omega) (by omega) (by rw [hs]; rfl) (by decide) ?_
        refine a_aload_n (z := 84) A dX5_tell_78 rfl ?_
        refine gf_X5_22 (r := 89) A dX5_tell_79 rfl (by decide) rfl ?_
        refine a_iload_n (z := k) A dX5_tell_82 rfl ?_
        refine a_iaload (i := k) (x := M 89 k.toNat) A dX5_tell_83 rfl (by decide) (by decide) (by omega) rfl ?_
        exact m_ireturn A T0 dX5_tell_84 (by first | exact Or.inl ⟨rfl, by omega, rfl⟩ | exact Or.inr (Or.inl ⟨by omega, rfl, by omega⟩) | exact Or.inr (Or.inr ⟨by omega, rfl, by omega⟩))
      · refine a_tswI (tgt := 85) (off := 69) A dX5_tell_16 (by omega) (by omega) (by omega) (by rw [hs]; rfl) (by decide) ?_
        refine a_aload_n (z := 84) A dX5_tell_85 rfl ?_
        refine gf_X5_25 (r := 90) A dX5_tell_86 rfl (by decide) rfl ?_
        refine a_iload_n (z := k) A dX5_tell_89 rfl ?_
        refine a_iaload (i := k) (x := M 90 k.toNat) A dX5_tell_90 rfl (by decide) (by decide) (by omega) rfl ?_
        exact m_ireturn A T0 dX5_tell_91 (by first | exact Or.inl ⟨rfl, by omega, rfl⟩ | exact Or.inr (Or.inl ⟨by omega, rfl, by omega⟩) | exact Or.inr (Or.inr ⟨by omega, rfl, by omega⟩))
      · refine a_tswI (tgt := 92) (off := 76) A dX5_tell_16 (by omega) (by omega) (by omega) (by rw [hs]; rfl) (by decide) ?_
        refine a_aload_n (z := 84) A dX5_tell_92 rfl ?_
        refine gf_X5_28 (r := 91) A dX5_tell_93 rfl (by decide) rfl ?_
        refine a_iload_n (z := k) A dX5_tell_96 rfl ?_
        refine a_iaload (i := k) (x := M 91 k.toNat) A dX5_tell_97 rfl (by decide) (by decide) (by omega) rfl ?_
        exact m_ireturn A T0 dX5_tell_98 (by first | exact Or.inl ⟨rfl, by omega, rfl⟩ | exact Or.inr (Or.inl ⟨by omega, rfl, by omega⟩) | exact Or.inr (Or.inr ⟨by omega, rfl, by omega⟩))
      · refine a_tswI (tgt := 99) (off := 83) A dX5_tell_16 (by omega) (by omega) (by omega) (by rw [hs]; rfl) (by decide) ?_
        refine a_aload_n (z := 84) A dX5_tell_99 rfl ?_
        refine gf_X5_31 (r := 92) A dX5_tell_100 rfl (by decide) rfl ?_
        refine a_iload_n (z := k) A dX5_tell_103 rfl ?_
        refine a_iaload (i := k) (x := M 92 k.toNat) A dX5_tell_104 rfl (by decide) (by decide) (by omega) rfl ?_
        exact m_ireturn A T0 dX5_tell_105 (by first | exact Or.inl ⟨rfl, by omega, rfl⟩ | exact Or.inr (Or.inl ⟨by omega, rfl, by omega⟩) | exact Or.inr (Or.inr ⟨by omega, rfl, by omega⟩))
      · refine a_tswI (tgt := 106) (off := 90) A dX5_tell_16 (by omega) (by omega) (by omega) (by rw [hs]; rfl) (by decide) ?_
        refine a_aload_n (z := 84) A dX5_tell_106 rfl ?_
        refine a_aload_n (z := 84) A dX5_tell_107 rfl ?_
        refine gf_X5_34 (r := 93) A dX5_tell_108 rfl (by decide) rfl ?_
        refine a_iload_n (z := k) A dX5_tell_111 rfl ?_
        refine a_iaload (i := k) (x := M 93 k.toNat) A dX5_tell_112 rfl (by decide) (by decide) (by omega) rfl ?_
        refine a_i2l A dX5_tell_113 (by omega) ?_
        refine a_aload_n (z := 84) A dX5_tell_114 rfl ?_
        refine gf_X5_37 (r := 94) A dX5_tell_115 rfl (by decide) rfl ?_
        refine a_iload_n (z := k) A dX5_tell_118 rfl ?_
        refine a_iaload (i := k) (x := M 94 k.toNat) A dX5_tell_119 rfl (by decide) (by decide) (by omega) rfl ?_
        refine a_i2l A dX5_tell_120 (by omega) ?_
        refine m_invVv A (c_X5_put G _ (M 93 k.toNat) (M 94 k.toNat) (up2 M 84 0 0) (by omega) (by omega)) (by decide) mi_X5_put mv_X5_put cs_X5_100 cf5 dX5_tell_121 rfl (by decide) rfl rfl (Nat.le_of_ble_eq_true rfl) (fun M121 h121 => ?_)
        have h121 := h121.symm
        subst h121
        refine a_iload_n (z := w) A dX5_tell_124 rfl ?_
        refine a_bipush A dX5_tell_125 (by decide) ?_
        refine a_icmp_ne (tgt := 137) A dX5_tell_127 (by decide) (by omega) (by omega) (fun h127 => ?_) (fun h127 => ?_)
        · refine a_aload_n (z := 84) A dX5_tell_137 rfl ?_
          refine gf_X5_108 (x := (nD (M 93 k.toNat) (M 94 k.toNat))) A dX5_tell_138 rfl (by decide) rfl ?_
          refine a_l2i A dX5_tell_141 ?_
          exact m_ireturn A T0 dX5_tell_142 (by first | exact Or.inl ⟨rfl, by omega, rfl⟩ | exact Or.inr (Or.inl ⟨by omega, rfl, by omega⟩) | exact Or.inr (Or.inr ⟨by omega, rfl, by omega⟩))
        · refine a_aload_n (z := 84) A dX5_tell_130 rfl ?_
          refine gf_X5_104 (x := (nU (M 93 k.toNat) (M 94 k.toNat))) A dX5_tell_131 rfl (by decide) rfl ?_
          refine a_goto (tgt := 141) A dX5_tell_134 (by decide) ?_
          refine a_l2i A dX5_tell_141 ?_
          exact m_ireturn A T0 dX5_tell_142 (by first | exact Or.inl ⟨rfl, by omega, rfl⟩ | exact Or.inr (Or.inl ⟨by omega, rfl, by omega⟩) | exact Or.inr (Or.inr ⟨by omega, rfl, by omega⟩))
      · refine a_tswI (tgt := 106) (off := 90) A dX5_tell_16 (by omega) (by omega) (by omega) (by rw [hs]; rfl) (by decide) ?_
        refine a_aload_n (z := 84) A dX5_tell_106 rfl ?_
        refine a_aload_n (z := 84) A dX5_tell_107 rfl ?_
        refine gf_X5_34 (r := 93) A dX5_tell_108 rfl (by decide) rfl ?_
        refine a_iload_n (z := k) A dX5_tell_111 rfl ?_
        refine a_iaload (i := k) (x := M 93 k.toNat) A dX5_tell_112 rfl (by decide) (by decide) (by omega) rfl ?_
        refine a_i2l A dX5_tell_113 (by omega) ?_
        refine a_aload_n (z := 84) A dX5_tell_114 rfl ?_
        refine gf_X5_37 (r := 94) A dX5_tell_115 rfl (by decide) rfl ?_
        refine a_iload_n (z := k) A dX5_tell_118 rfl ?_
        refine a_iaload (i := k) (x := M 94 k.toNat) A dX5_tell_119 rfl (by decide) (by decide) (by omega) rfl ?_
        refine a_i2l A dX5_tell_120 (by omega) ?_
        refine m_invVv A (c_X5_put G _ (M 93 k.toNat) (M 94 k.toNat) (up2 M 84 0 0) (by omega) (by omega)) (by decide) mi_X5_put mv_X5_put cs_X5_100 cf5 dX5_tell_121 rfl (by decide) rfl rfl (Nat.le_of_ble_eq_true rfl) (fun M121 h121 => ?_)
        have h121 := h121.symm
        subst h121
        refine a_iload_n (z := w) A dX5_tell_124 rfl ?_
        refine a_bipush A dX5_tell_125 (by decide) ?_
        refine a_icmp_ne (tgt := 137) A dX5_tell_127 (by decide) (by omega) (by omega) (fun h127 => ?_) (fun h127 => ?_)
        · refine a_aload_n (z := 84) A dX5_tell_137 rfl ?_
          refine gf_X5_108 (x := (nD (M 93 k.toNat) (M 94 k.toNat))) A dX5_tell_138 rfl (by decide) rfl ?_
          refine a_l2i A dX5_tell_141 ?_
          exact m_ireturn A T0 dX5_tell_142 (by first | exact Or.inl ⟨rfl, by omega, rfl⟩ | exact Or.inr (Or.inl ⟨by omega, rfl, by omega⟩) | exact Or.inr (Or.inr ⟨by omega, rfl, by omega⟩))
        · refine a_aload_n (z := 84) A dX5_tell_130 rfl ?_
          refine gf_X5_104 (x := (nU (M 93 k.toNat) (M 94 k.toNat))) A dX5_tell_131 rfl (by decide) rfl ?_
          refine a_goto (tgt := 141) A dX5_tell_134 (by decide) ?_
          refine a_l2i A dX5_tell_141 ?_
          exact m_ireturn A T0 dX5_tell_142 (by first | exact Or.inl ⟨rfl, by omega, rfl⟩ | exact Or.inr (Or.inl ⟨by omega, rfl, by omega⟩) | exact Or.inr (Or.inr ⟨by omega, rfl, by omega⟩))
  · refine a_iconst A dX5_tell_13 ?_
    exact m_ireturn A T0 dX5_tell_14 (by first | exact Or.inl ⟨rfl, by omega, rfl⟩ | exact Or.inr (Or.inl ⟨by omega, rfl, by omega⟩) | exact Or.inr (Or.inr ⟨by omega, rfl, by omega⟩))
set_option maxRecDepth 100000 in
set_option maxHeartbeats 4000000 in
theorem arr_loop5 {G : GG} {E : EE} {P : Int → MM → Prop} (A : AmM G E cX5_arrives 5 yX5_arrives.cls 1) (T0 : RT E G yX5_arrives 108 0 0 (some .long) (fun r rf' M' => rf' = rF ∧ ∃ z, r = some (vl z) ∧ P z M')) (v : Int) (M : MM) (hv : I32 v) (hL : 0 ≤ M 86 0 ∧ M 86 0 ≤ 10) (hP : 2 ≤ M 85 0 ∧ M 85 0 ≤ 5) (hW : ∀ i : Nat, (i : Int) < M 86 0 → LW M i) (hp : P (sumZ (arrF M v) (M 86 0).toNat) M) : ∀ (n : Nat) (i : Nat), (M 86 0).toNat - i < n → (i : Int) ≤ M 86 0 → AM G E 5 5 [.ref 84, vi v, vl (sumZ (arrF M v) i), jk, vi (i : Int)] [] M := by
  intro n
  induction n with
  | zero => intro i hn hi; exfalso; omega
  | succ n ih =>
    intro i hn hi
    have hl0 : (i : Int) < M 86 0 → LW M i := hW i
    unfold LW at hl0
    have hm0 : (i : Int) < M 86 0 → 1 ≤ M 94 i * M 91 i ∧ M 94 i * M 91 i ≤ 81 := fun q => mul_pos9 (by omega) (by omega)
    refine a_iload (z := (i : Int)) A dX5_arrives_5 rfl ?_
    refine a_aload_n (z := 84) A dX5_arrives_7 rfl ?_
    refine gf_X5_13 (r := 86) A dX5_arrives_8 rfl (by decide) rfl ?_
    refine a_iconst A dX5_arrives_11 ?_
    refine a_iaload (i := 0) (x := M 86 0) A dX5_arrives_12 rfl (by decide) (by decide) (by omega) rfl ?_
    refine a_icmp_ge (tgt := 78) A dX5_arrives_13 (by decide) (by omega) (by omega) (fun h13 => ?_) (fun h13 => ?_)
    · refine a_lload_n (z := (sumZ (arrF M v) i)) A dX5_arrives_78 rfl ?_
      exact m_lreturn A T0 dX5_arrives_79 (by rw [show (M 86 0).toNat = i by omega] at hp; exact hp)
    · refine a_lload_n (z := (sumZ (arrF M v) i)) A dX5_arrives_16 rfl ?_
      refine a_aload_n (z := 84) A dX5_arrives_17 rfl ?_
      refine gf_X5_19 (r := 88) A dX5_arrives_18 rfl (by decide) rfl ?_
      refine a_iload (z := (i : Int)) A dX5_arrives_21 rfl ?_
      refine a_iaload (i := (i : Int)) (x := M 88 i) A dX5_arrives_23 rfl (by decide) (by decide) (by omega) rfl ?_
      refine a_iload_n (z := v) A dX5_arrives_24 rfl ?_
      refine a_icmp_ne (tgt := 69) A dX5_arrives_25 (by decide) (by omega) (by omega) (fun h25 => ?_) (fun h25 => ?_)
      · refine a_lconst0 A dX5_arrives_69 ?_
        refine a_ladd (x := (sumZ (arrF M v) i)) (y := 0) A dX5_arrives_70 ?_
        refine a_lstore_n (lv' := [.ref 84, vi v, vl ((sumZ (arrF M v) i) + 0), jk, vi (i : Int)]) A dX5_arrives_71 (by decide) rfl ?_
        refine a_iinc (z := (i : Int)) (lv' := [.ref 84, vi v, vl ((sumZ (arrF M v) i) + 0), jk, vi ((i : Int) + 1)]) A dX5_arrives_72 rfl (by decide) rfl ?_
        refine a_goto (tgt := 5) A dX5_arrives_75 (by decide) ?_
        rw [show ((sumZ (arrF M v) i) + 0) = sumZ (arrF M v) (i + 1) by simp [sumZ, arrF, h25]]
        exact ih (i + 1) (by omega) (by omega)
      · refine a_ldc2 A lk_X5_184 dX5_arrives_28 ?_
        refine a_aload_n (z := 84) A dX5_arrives_31 rfl ?_
        refine gf_X5_37 (r := 94) A dX5_arrives_32 rfl (by decide) rfl ?_
        refine a_iload (z := (i : Int)) A dX5_arrives_35 rfl ?_
        refine a_iaload (i := (i : Int)) (x := M 94 i) A dX5_arrives_37 rfl (by decide) (by decide) (by omega) rfl ?_
        refine a_aload_n (z := 84) A dX5_arrives_38 rfl ?_
        refine gf_X5_28 (r := 91) A dX5_arrives_39 rfl (by decide) rfl ?_
        refine a_iload (z := (i : Int)) A dX5_arrives_42 rfl ?_
        refine a_iaload (i := (i : Int)) (x := M 91 i) A dX5_arrives_44 rfl (by decide) (by decide) (by omega) rfl ?_
        refine a_imul (x := (M 94 i)) (y := (M 91 i)) A dX5_arrives_45 ?_
        refine a_i2l A dX5_arrives_46 (by omega) ?_
        refine a_ldiv A dX5_arrives_47 (by omega) (by omega) (by omega) ?_
        refine a_aload_n (z := 84) A dX5_arrives_48 rfl ?_
        refine gf_X5_34 (r := 93) A dX5_arrives_49 rfl (by decide) rfl ?_
        refine a_iload (z := (i : Int)) A dX5_arrives_52 rfl ?_
        refine a_iaload (i := (i : Int)) (x := M 93 i) A dX5_arrives_54 rfl (by decide) (by decide) (by omega) rfl ?_
        refine a_i2l A dX5_arrives_55 (by omega) ?_
        refine a_lmul (x := ((6350400 : Int).tdiv ((M 94 i) * (M 91 i)))) (y := (M 93 i)) A dX5_arrives_56 ?_
        refine a_aload_n (z := 84) A dX5_arrives_57 rfl ?_
        refine gf_X5_25 (r := 90) A dX5_arrives_58 rfl (by decide) rfl ?_
        refine a_iload (z := (i : Int)) A dX5_arrives_61 rfl ?_
        refine a_iaload (i := (i : Int)) (x := M 90 i) A dX5_arrives_63 rfl (by decide) (by decide) (by omega) rfl ?_
        refine a_i2l A dX5_arrives_64 (by omega) ?_
        refine a_lmul (x := (((6350400 : Int).tdiv ((M 94 i) * (M 91 i))) * (M 93 i))) (y := (M 90 i)) A dX5_arrives_65 ?_
        refine a_goto (tgt := 70) A dX5_arrives_66 (by decide) ?_
        refine a_ladd (x := (sumZ (arrF M v) i)) (y := ((((6350400 : Int).tdiv ((M 94 i) * (M 91 i))) * (M 93 i)) * (M 90 i))) A dX5_arrives_70 ?_
        refine a_lstore_n (lv' := [.ref 84, vi v, vl ((sumZ (arrF M v) i) + ((((6350400 : Int).tdiv ((M 94 i) * (M 91 i))) * (M 93 i)) * (M 90 i))), jk, vi (i : Int)]) A dX5_arrives_71 (by decide) rfl ?_
        refine a_iinc (z := (i : Int)) (lv' := [.ref 84, vi v, vl ((sumZ (arrF M v) i) + ((((6350400 : Int).tdiv ((M 94 i) * (M 91 i))) * (M 93 i)) * (M 90 i))), jk, vi ((i : Int) + 1)]) A dX5_arrives_72 rfl (by decide) rfl ?_
        refine a_goto (tgt := 5) A dX5_arrives_75 (by decide) ?_
        rw [show ((sumZ (arrF M v) i) + ((((6350400 : Int).tdiv ((M 94 i) * (M 91 i))) * (M 93 i)) * (M 90 i))) = sumZ (arrF M v) (i + 1) by simp [sumZ, arrF, h25]]
        exact ih (i + 1) (by omega) (by omega)
set_option maxRecDepth 100000 in
set_option maxHeartbeats 4000000 in
theorem lev_loop5 {G : GG} {E : EE} {P : Int → MM → Prop} (A : AmM G E cX5_leaves 5 yX5_leaves.cls 1) (T0 : RT E G yX5_leaves 108 0 0 (some .long) (fun r rf' M' => rf' = rF ∧ ∃ z, r = some (vl z) ∧ P z M')) (v : Int) (M : MM) (hv : I32 v) (hL : 0 ≤ M 86 0 ∧ M 86 0 ≤ 10) (hP : 2 ≤ M 85 0 ∧ M 85 0 ≤ 5) (hW : ∀ i : Nat, (i : Int) < M 86 0 → LW M i) (hp : P (sumZ (levF M v) (M 86 0).toNat) M) : ∀ (n : Nat) (i : Nat), (M 86 0).toNat - i < n → (i : Int) ≤ M 86 0 → AM G E 5 5 [.ref 84, vi v, vl (sumZ (levF M v) i), jk, vi (i : Int)] [] M := by
  intro n
  induction n with
  | zero => intro i hn hi; exfalso; omega
  | succ n ih =>
    intro i hn hi
    have hl0 : (i : Int) < M 86 0 → LW M i := hW i
    unfold LW at hl0
    refine a_iload (z := (i : Int)) A dX5_leaves_5 rfl ?_
    refine a_aload_n (z := 84) A dX5_leaves_7 rfl ?_
    refine gf_X5_13 (r := 86) A dX5_leaves_8 rfl (by decide) rfl ?_
    refine a_iconst A dX5_leaves_11 ?_
    refine a_iaload (i := 0) (x := M 86 0) A dX5_leaves_12 rfl (by decide) (by decide) (by omega) rfl ?_
    refine a_icmp_ge (tgt := 61) A dX5_leaves_13 (by decide) (by omega) (by omega) (fun h13 => ?_) (fun h13 => ?_)
    · refine a_lload_n (z := (sumZ (levF M v) i)) A dX5_leaves_61 rfl ?_
      exact m_lreturn A T0 dX5_leaves_62 (by rw [show (M 86 0).toNat = i by omega] at hp; exact hp)
    · refine a_lload_n (z := (sumZ (levF M v) i)) A dX5_leaves_16 rfl ?_
      refine a_aload_n (z := 84) A dX5_leaves_17 rfl ?_
      refine gf_X5_16 (r := 87) A dX5_leaves_18 rfl (by decide) rfl ?_
      refine a_iload (z := (i : Int)) A dX5_leaves_21 rfl ?_
      refine a_iaload (i := (i : Int)) (x := M 87 i) A dX5_leaves_23 rfl (by decide) (by decide) (by omega) rfl ?_
      refine a_iload_n (z := v) A dX5_leaves_24 rfl ?_
      refine a_icmp_ne (tgt := 52) A dX5_leaves_25 (by decide) (by omega) (by omega) (fun h25 => ?_) (fun h25 => ?_)
      · refine a_lconst0 A dX5_leaves_52 ?_
        refine a_ladd (x := (sumZ (levF M v) i)) (y := 0) A dX5_leaves_53 ?_
        refine a_lstore_n (lv' := [.ref 84, vi v, vl ((sumZ (levF M v) i) + 0), jk, vi (i : Int)]) A dX5_leaves_54 (by decide) rfl ?_
        refine a_iinc (z := (i : Int)) (lv' := [.ref 84, vi v, vl ((sumZ (levF M v) i) + 0), jk, vi ((i : Int) + 1)]) A dX5_leaves_55 rfl (by decide) rfl ?_
        refine a_goto (tgt := 5) A dX5_leaves_58 (by decide) ?_
        rw [show ((sumZ (levF M v) i) + 0) = sumZ (levF M v) (i + 1) by simp [sumZ, levF, h25]]
        exact ih (i + 1) (by omega) (by omega)
      · refine a_ldc2 A lk_X5_184 dX5_leaves_28 ?_
        refine a_aload_n (z := 84) A dX5_leaves_31 rfl ?_
        refine gf_X5_37 (r := 94) A dX5_leaves_32 rfl (by decide) rfl ?_
        refine a_iload (z := (i : Int)) A dX5_leaves_35 rfl ?_
        refine a_iaload (i := (i : Int)) (x := M 94 i) A dX5_leaves_37 rfl (by decide) (by decide) (by omega) rfl ?_
        refine a_i2l A dX5_leaves_38 (by omega) ?_
        refine a_ldiv A dX5_leaves_39 (by omega) (by omega) (by omega) ?_
        refine a_aload_n (z := 84) A dX5_leaves_40 rfl ?_
        refine gf_X5_34 (r := 93) A dX5_leaves_41 rfl (by decide) rfl ?_
        refine a_iload (z := (i : Int)) A dX5_leaves_44 rfl ?_
        refine a_iaload (i := (i : Int)) (x := M 93 i) A dX5_leaves_46 rfl (by decide) (by decide) (by omega) rfl ?_
        refine a_i2l A dX5_leaves_47 (by omega) ?_
        refine a_lmul (x := ((6350400 : Int).tdiv (M 94 i))) (y := (M 93 i)) A dX5_leaves_48 ?_
        refine a_goto (tgt := 53) A dX5_leaves_49 (by decide) ?_
        refine a_ladd (x := (sumZ (levF M v) i)) (y := (((6350400 : Int).tdiv (M 94 i)) * (M 93 i))) A dX5_leaves_53 ?_
        refine a_lstore_n (lv' := [.ref 84, vi v, vl ((sumZ (levF M v) i) + (((6350400 : Int).tdiv (M 94 i)) * (M 93 i))), jk, vi (i : Int)]) A dX5_leaves_54 (by decide) rfl ?_
        refine a_iinc (z := (i : Int)) (lv' := [.ref 84, vi v, vl ((sumZ (levF M v) i) + (((6350400 : Int).tdiv (M 94 i)) * (M 93 i))), jk, vi ((i : Int) + 1)]) A dX5_leaves_55 rfl (by decide) rfl ?_
        refine a_goto (tgt := 5) A dX5_leaves_58 (by decide) ?_
        rw [show ((sumZ (levF M v) i) + (((6350400 : Int).tdiv (M 94 i)) * (M 93 i))) = sumZ (levF M v) (i + 1) by simp [sumZ, levF, h25]]
        exact ih (i + 1) (by omega) (by omega)
set_option maxRecDepth 100000 in
set_option maxHeartbeats 4000000 in
theorem c_X5_arrives (G : GG) (l : Launch) (v : Int) (M : MM) (hv : I32 v) (hL : 0 ≤ M 86 0 ∧ M 86 0 ≤ 10) (hP : 2 ≤ M 85 0 ∧ M 85 0 ≤ 5) (hW : ∀ i : Nat, (i : Int) < M 86 0 → LW M i) : CMl G l yX5_arrives cX5_arrives 5 (some .long) 1 [.ref 84, vi v] M (fun z M' => M' = M ∧ z = sumZ (arrF M v) (M 86 0).toNat) := by
  refine CT.intro (by decide) (Nat.le_of_ble_eq_true rfl) (fun E hE A T0 => ?_)
  subst hE
  refine a_lconst0 A dX5_arrives_0 ?_
  refine a_lstore_n (lv' := [.ref 84, vi v, vl 0, jk, jk]) A dX5_arrives_1 (by decide) rfl ?_
  refine a_iconst A dX5_arrives_2 ?_
  refine a_istore (lv' := [.ref 84, vi v, vl 0, jk, vi 0]) A dX5_arrives_3 (by decide) rfl ?_
  exact arr_loop5 A T0 v M hv hL hP hW ⟨rfl, rfl⟩ ((M 86 0).toNat + 1) 0 (by omega) (by omega)
set_option maxRecDepth 100000 in
set_option maxHeartbeats 4000000 in
theorem c_X5_leaves (G : GG) (l : Launch) (v : Int) (M : MM) (hv : I32 v) (hL : 0 ≤ M 86 0 ∧ M 86 0 ≤ 10) (hP : 2 ≤ M 85 0 ∧ M 85 0 ≤ 5) (hW : ∀ i : Nat, (i : Int) < M 86 0 → LW M i) : CMl G l yX5_leaves cX5_leaves 5 (some .long) 1 [.ref 84, vi v] M (fun z M' => M' = M ∧ z = sumZ (levF M v) (M 86 0).toNat) := by
  refine CT.intro (by decide) (Nat.le_of_ble_eq_true rfl) (fun E hE A T0 => ?_)
  subst hE
  refine a_lconst0 A dX5_leaves_0 ?_
  refine a_lstore_n (lv' := [.ref 84, vi v, vl 0, jk, jk]) A dX5_leaves_1 (by decide) rfl ?_
  refine a_iconst A dX5_leaves_2 ?_
  refine a_istore (lv' := [.ref 84, vi v, vl 0, jk, vi 0]) A dX5_leaves_3 (by decide) rfl ?_
  exact lev_loop5 A T0 v M hv hL hP hW ⟨rfl, rfl⟩ ((M 86 0).toNat + 1) 0 (by omega) (by omega)
end
section
theorem sumZ_bd {f : Nat → Int} {c : Int} {n : Nat} (hc : 0 ≤ c) (h : ∀ i, i < n → 0 ≤ f i ∧ f i ≤ c) : 0 ≤ sumZ f n ∧ sumZ f n ≤ n * c := by
  induction n with
  | zero => simp [sumZ]
  | succ n ih =>
    have h1 := ih (fun i hi => h i (by omega))
    have h2 := h n (by omega)
    have h3 : ((n + 1 : Nat) : Int) * c = n * c + c := by push_cast; rw [Int.add_mul, Int.one_mul]
    rw [h3]
    simp only [sumZ]
    omega
theorem tdiv_bd {a b : Int} (ha : 0 ≤ a) (hb : 1 ≤ b) : 0 ≤ a.tdiv b ∧ a.tdiv b ≤ a := by
  rw [Int.tdiv_eq_ediv_of_nonneg ha]
  exact ⟨Int.ediv_nonneg ha (by omega), Int.ediv_le_self _ ha⟩
theorem arr_bd {M : MM} (hL : 0 ≤ M 86 0 ∧ M 86 0 ≤ 10) (hW : ∀ i : Nat, (i : Int) < M 86 0 → LW M i) (v : Int) : 0 ≤ sumZ (arrF M v) (M 86 0).toNat ∧ sumZ (arrF M v) (M 86 0).toNat ≤ 571536000000 := by
  have h := sumZ_bd (f := arrF M v) (c := 57153600000) (n := (M 86 0).toNat) (by omega) (fun i hi => by
    have hl := hW i (by omega)
    unfold LW at hl
    unfold arrF
    split
    · have h1 := mul_pos9 (a := M 94 i) (b := M 91 i) (by omega) (by omega)
      have h2 := tdiv_bd (a := 6350400) (b := M 94 i * M 91 i) (by omega) h1.1
      have h3 := mul_bd (A := 6350400) (B := 1000) h2 (b := M 93 i) (by omega)
      have h4 := mul_bd (A := 6350400 * 1000) (B := 9) h3 (b := M 90 i) (by omega)
      omega
    · omega)
  omega
theorem lev_bd {M : MM} (hL : 0 ≤ M 86 0 ∧ M 86 0 ≤ 10) (hW : ∀ i : Nat, (i : Int) < M 86 0 → LW M i) (v : Int) : 0 ≤ sumZ (levF M v) (M 86 0).toNat ∧ sumZ (levF M v) (M 86 0).toNat ≤ 571536000000 := by
  have h := sumZ_bd (f := levF M v) (c := 57153600000) (n := (M 86 0).toNat) (by omega) (fun i hi => by
    have hl := hW i (by omega)
    unfold LW at hl
    unfold levF
    split
    · have h2 := tdiv_bd (a := 6350400) (b := M 94 i) (by omega) (by omega)
      have h3 := mul_bd (A := 6350400) (B := 1000) h2 (b := M 93 i) (by omega)
      omega
    · omega)
  omega
def RG (M : MM) : Prop := (∀ i : Nat, (i : Int) < M 86 0 → M 93 i ≤ M 89 i * M 94 i) ∧ ∀ v : Nat, 1 ≤ v → (v : Int) < M 85 0 - 1 → sumZ (levF M v) (M 86 0).toNat ≤ sumZ (arrF M v) (M 86 0).toNat
set_option maxRecDepth 100000 in
set_option maxHeartbeats 4000000 in
theorem right_loop5b {G : GG} {E : EE} {P : Int → MM → Prop} (A : AmM G E cX5_right 2 yX5_right.cls 2) (T0 : RT E G yX5_right 108 0 0 (some .boolean) (fun r rf' M' => rf' = rF ∧ ∃ z, r = some (vi z) ∧ P z M')) (M : MM) (hL : 0 ≤ M 86 0 ∧ M 86 0 ≤ 10) (hP : 2 ≤ M 85 0 ∧ M 85 0 ≤ 5) (hW : ∀ i : Nat, (i : Int) < M 86 0 → LW M i) (h1 : ∀ i : Nat, (i : Int) < M 86 0 → M 93 i ≤ M 89 i * M 94 i) (hp1 : RG M → P 1 M) (hp0 : ¬ RG M → P 0 M) : ∀ (n : Nat) (v : Nat), 5 - v < n → 1 ≤ v → (v : Int) ≤ M 85 0 - 1 → (∀ u : Nat, 1 ≤ u → u < v → sumZ (levF M u) (M 86 0).toNat ≤ sumZ (arrF M u) (M 86 0).toNat) → AM G E 2 49 [.ref 84, vi (v : Int)] [] M := by
  intro n
  induction n with
  | zero => intro v hn hv1 hv hq; exfalso; omega
  | succ n ih =>
    intro v hn hv1 hv hq
    have ba := arr_bd hL hW v
    have bl := lev_bd hL hW v
    refine a_iload_n (z := (v : Int)) A dX5_right_49 rfl ?_
    refine a_aload_n (z := 84) A dX5_right_50 rfl ?_
    refine gf_X5_7 (r := 85) A dX5_right_51 rfl (by decide) rfl ?_
    refine a_iconst A dX5_right_54 ?_
    refine a_iaload (i := 0) (x := M 85 0) A dX5_right_55 rfl (by decide) (by decide) (by omega) rfl ?_
    refine a_iconst A dX5_right_56 ?_
    refine a_isub (x := (M 85 0)) (y := 1) A dX5_right_57 ?_
    refine a_icmp_ge (tgt := 83) A dX5_right_58 (by decide) (by omega) (by omega) (fun h58 => ?_) (fun h58 => ?_)
    · refine a_iconst A dX5_right_83 ?_
      exact m_zreturn A T0 dX5_right_84 (by first | exact Or.inl rfl | exact Or.inr rfl | omega) (hp1 ⟨h1, fun u h2 h3 => hq u h2 (by omega)⟩)
    · refine a_aload_n (z := 84) A dX5_right_61 rfl ?_
      refine a_iload_n (z := (v : Int)) A dX5_right_62 rfl ?_
      refine m_invVl A (c_X5_arrives G _ (v : Int) M (by omega) hL hP hW) (by decide) mi_X5_arrives mv_X5_arrives cs_X5_186 cf5 dX5_right_63 rfl (by decide) rfl rfl (Nat.le_of_ble_eq_true rfl) (fun z63 M63 h63 => ?_)
      obtain ⟨e63, rfl⟩ := h63
      have e63 := e63.symm
      subst e63
      refine a_aload_n (z := 84) A dX5_right_66 rfl ?_
      refine a_iload_n (z := (v : Int)) A dX5_right_67 rfl ?_
      refine m_invVl A (c_X5_leaves G _ (v : Int) M (by omega) hL hP hW) (by decide) mi_X5_leaves mv_X5_leaves cs_X5_189 cf5 dX5_right_68 rfl (by decide) rfl rfl (Nat.le_of_ble_eq_true rfl) (fun z68 M68 h68 => ?_)
      obtain ⟨e68, rfl⟩ := h68
      have e68 := e68.symm
      subst e68
      refine a_lcmp_ge (tgt := 77) A dX5_right_71 dX5_right_72 (by decide) (by omega) (by omega) (fun h71 => ?_) (fun h71 => ?_)
      · refine a_iinc (z := (v : Int)) (lv' := [.ref 84, vi ((v : Int) + 1)]) A dX5_right_77 rfl (by decide) rfl ?_
        refine a_goto (tgt := 49) A dX5_right_80 (by decide) ?_
        exact ih (v + 1) (by omega) (by omega) (by omega) (fun u h2 h3 => by rcases Nat.lt_or_ge u v with q | q; · exact hq u h2 q
                                                                             · rw [show u = v by omega]; omega)
      · refine a_iconst A dX5_right_75 ?_
        exact m_zreturn A T0 dX5_right_76 (by first | exact Or.inl rfl | exact Or.inr rfl | omega) (hp0 (fun q => by have := q.2 v hv1 (by omega); omega))
set_option maxRecDepth 100000 in
set_option maxHeartbeats 4000000 in
theorem right_loop5a {G : GG} {E : EE} {P : Int → MM → Prop} (A : AmM G E cX5_right 2 yX5_right.cls 2) (T0 : RT E G yX5_right 108 0 0 (some .boolean) (fun r rf' M' => rf' = rF ∧ ∃ z, r = some (vi z) ∧ P z M')) (M : MM) (hL : 0 ≤ M 86 0 ∧ M 86 0 ≤ 10) (hP : 2 ≤ M 85 0 ∧ M 85 0 ≤ 5) (hW : ∀ i : Nat, (i : Int) < M 86 0 → LW M i) (hp1 : RG M → P 1 M) (hp0 : ¬ RG M → P 0 M) : ∀ (n : Nat) (i : Nat), (M 86 0).toNat - i < n → (i : Int) ≤ M 86 0 → (∀ j : Nat, j < i → M 93 j ≤ M 89 j * M 94 j) → AM G E 2 7 [.ref 84, vi (i : Int)] [] M := by
  intro n
  induction n with
  | zero => intro i hn hi hq; exfalso; omega
  | succ n ih =>
    intro i hn hi hq
    have hl0 : (i : Int) < M 86 0 → LW M i := hW i
    unfold LW at hl0
    have hm0 : (i : Int) < M 86 0 → 0 ≤ M 89 i * M 94 i ∧ M 89 i * M 94 i ≤ 100 * 9 := fun q => mul_bd (by omega) (by omega)
    refine a_iload_n (z := (i : Int)) A dX5_right_7 rfl ?_
    refine a_aload_n (z := 84) A dX5_right_8 rfl ?_
    refine gf_X5_13 (r := 86) A dX5_right_9 rfl (by decide) rfl ?_
    refine a_iconst A dX5_right_12 ?_
    refine a_iaload (i := 0) (x := M 86 0) A dX5_right_13 rfl (by decide) (by decide) (by omega) rfl ?_
    refine a_icmp_ge (tgt := 47) A dX5_right_14 (by decide) (by omega) (by omega) (fun h14 => ?_) (fun h14 => ?_)
    · refine a_iconst A dX5_right_47 ?_
      refine a_istore_n (lv' := [.ref 84, vi 1]) A dX5_right_48 (by decide) rfl ?_
      exact right_loop5b A T0 M hL hP hW (fun j h2 => hq j (by omega)) hp1 hp0 6 1 (by omega) (by omega) (by omega) (fun u h2 h3 => by omega)
    · refine a_aload_n (z := 84) A dX5_right_17 rfl ?_
      refine gf_X5_34 (r := 93) A dX5_right_18 rfl (by decide) rfl ?_
      refine a_iload_n (z := (i : Int)) A dX5_right_21 rfl ?_
      refine a_iaload (i := (i : Int)) (x := M 93 i) A dX5_right_22 rfl (by decide) (by decide) (by omega) rfl ?_
      refine a_aload_n (z := 84) A dX5_right_23 rfl ?_
      refine gf_X5_22 (r := 89) A dX5_right_24 rfl (by decide) rfl ?_
      refine a_iload_n (z := (i : Int)) A dX5_right_27 rfl ?_
      refine a_iaload (i := (i : Int)) (x := M 89 i) A dX5_right_28 rfl (by decide) (by decide) (by omega) rfl ?_
      refine a_aload_n (z := 84) A dX5_right_29 rfl ?_
      refine gf_X5_37 (r := 94) A dX5_right_30 rfl (by decide) rfl ?_
      refine a_iload_n (z := (i : Int)) A dX5_right_33 rfl ?_
      refine a_iaload (i := (i : Int)) (x := M 94 i) A dX5_right_34 rfl (by decide) (by decide) (by omega) rfl ?_
      refine a_imul (x := (M 89 i)) (y := (M 94 i)) A dX5_right_35 ?_
      refine a_icmp_le (tgt := 41) A dX5_right_36 (by decide) (by omega) (by omega) (fun h36 => ?_) (fun h36 => ?_)
      · refine a_iinc (z := (i : Int)) (lv' := [.ref 84, vi ((i : Int) + 1)]) A dX5_right_41 rfl (by decide) rfl ?_
        refine a_goto (tgt := 7) A dX5_right_44 (by decide) ?_
        exact ih (i + 1) (by omega) (by omega) (fun j h2 => by rcases Nat.lt_or_ge j i with q | q; · exact hq j q
                                                               · rw [show j = i by omega]; omega)
      · refine a_iconst A dX5_right_39 ?_
        exact m_zreturn A T0 dX5_right_40 (by first | exact Or.inl rfl | exact Or.inr rfl | omega) (hp0 (fun q => by have := q.1 i (by omega); omega))
set_option maxRecDepth 100000 in
set_option maxHeartbeats 4000000 in
theorem c_X5_right (G : GG) (l : Launch) (M : MM) (hL : 0 ≤ M 86 0 ∧ M 86 0 ≤ 10) (hP : 2 ≤ M 85 0 ∧ M 85 0 ≤ 5) (hW : ∀ i : Nat, (i : Int) < M 86 0 → LW M i) : CMi G l yX5_right cX5_right 2 (some .boolean) 2 [.ref 84] M (fun z M' => M' = up2 M 84 0 0 ∧ ((z = 1 ∧ RG M) ∨ (z = 0 ∧ ¬ RG M))) := by
  refine CT.intro (by decide) (Nat.le_of_ble_eq_true rfl) (fun E hE A T0 => ?_)
  subst hE
  refine a_aload_n (z := 84) A dX5_right_0 rfl ?_
  refine a_iconst A dX5_right_1 ?_
  refine pf_X5_81 A dX5_right_2 rfl (by decide) ?_
  refine a_iconst A dX5_right_5 ?_
  refine a_istore_n (lv' := [.ref 84, vi 0]) A dX5_right_6 (by decide) rfl ?_
  exact right_loop5a A T0 (up2 M 84 0 0) hL hP hW (fun q => ⟨rfl, Or.inl ⟨rfl, q⟩⟩) (fun q => ⟨rfl, Or.inr ⟨rfl, q⟩⟩) ((M 86 0).toNat + 1) 0 (show (M 86 0).toNat - 0 < _ by omega) hL.1 (fun j h2 => by omega)
set_option maxRecDepth 100000 in
set_option maxHeartbeats 4000000 in
theorem c_X5_left (G : GG) (l : Launch) (v b : Int) (M : MM) (hv : I32 v) (hb : I32 b) (hL : 0 ≤ M 86 0 ∧ M 86 0 ≤ 10) (hP : 2 ≤ M 85 0 ∧ M 85 0 ≤ 5) (hW : ∀ i : Nat, (i : Int) < M 86 0 → LW M i) : CMl G l yX5_left cX5_left 5 (some .long) 4 [.ref 84, vi v, vi b] M (fun z M' => ((v < 0 ∨ M 85 0 ≤ v) ∧ z = 0 ∧ M' = up2 M 84 0 0) ∨ ((0 ≤ v ∧ v < M 85 0) ∧ ∃ s : Int, ((v = 0 ∧ s = sumZ (levF M 0) (M 86 0).toNat) ∨ (v ≠ 0 ∧ v = M 85 0 - 1 ∧ s = sumZ (arrF M v) (M 86 0).toNat) ∨ (v ≠ 0 ∧ v ≠ M 85 0 - 1 ∧ s = sumZ (arrF M v) (M 86 0).toNat - sumZ (levF M v) (M 86 0).toNat)) ∧ M' = up2 (up2 (up2 M 84 0 0) 84 15 (nU s 6350400)) 84 16 (nD s 6350400) ∧ ((b ≠ 0 ∧ z = nD s 6350400) ∨ (b = 0 ∧ z = nU s 6350400)))) := by
  refine CT.intro (by decide) (Nat.le_of_ble_eq_true rfl) (fun E hE A T0 => ?_)
  subst hE
  have ba := arr_bd hL hW v
  have bl := lev_bd hL hW v
  have bl0 := lev_bd hL hW 0
  refine a_aload_n (z := 84) A dX5_left_0 rfl ?_
  refine a_iconst A dX5_left_1 ?_
  refine pf_X5_81 A dX5_left_2 rfl (by decide) ?_
  refine a_aload_n (z := 84) A dX5_left_5 rfl ?_
  refine a_iload_n (z := v) A dX5_left_6 rfl ?_
  refine m_invVi A (c_X5_isPost G _ v (up2 M 84 0 0) (by omega) hP) (by decide) mi_X5_isPost mv_X5_isPost cs_X5_93 cf5 dX5_left_7 rfl (by decide) rfl rfl (Nat.le_of_ble_eq_true rfl) (fun z7 M7 h7 => ?_)
  obtain ⟨e7, hc7⟩ := h7
  have e7 := e7.symm
  subst e7
  have hc7 : (z7 = 1 ∧ 0 ≤ v ∧ v < M 85 0) ∨ (z7 = 0 ∧ (v < 0 ∨ M 85 0 ≤ v)) := hc7
  refine a_if_ne (tgt := 15) A dX5_left_10 (by decide) (by omega) (fun h10 => ?_) (fun h10 => ?_)
  · refine a_iload_n (z := v) A dX5_left_15 rfl ?_
    refine a_if_ne (tgt := 27) A dX5_left_16 (by decide) (by omega) (fun h16 => ?_) (fun h16 => ?_)
    · refine a_iload_n (z := v) A dX5_left_27 rfl ?_
      refine a_aload_n (z := 84) A dX5_left_28 rfl ?_
      refine gf_X5_7 (r := 85) A dX5_left_29 rfl (by decide) rfl ?_
      refine a_iconst A dX5_left_32 ?_
      refine a_iaload (i := 0) (x := M 85 0) A dX5_left_33 rfl (by decide) (by decide) (by omega) rfl ?_
      refine a_iconst A dX5_left_34 ?_
      refine a_isub (x := (M 85 0)) (y := 1) A dX5_left_35 ?_
      refine a_icmp_ne (tgt := 47) A dX5_left_36 (by decide) (by omega) (by omega) (fun h36 => ?_) (fun h36 => ?_)
      · refine a_aload_n (z := 84) A dX5_left_47 rfl ?_
        refine a_iload_n (z := v) A dX5_left_48 rfl ?_
        refine m_invVl A (c_X5_arrives G _ v (up2 M 84 0 0) (by omega) hL hP hW) (by decide) mi_X5_arrives mv_X5_arrives cs_X5_186 cf5 dX5_left_49 rfl (by decide) rfl rfl (Nat.le_of_ble_eq_true rfl) (fun z49 M49 h49 => ?_)
        obtain ⟨e49, rfl⟩ := h49
        have e49 := e49.symm
        subst e49
        refine a_aload_n (z := 84) A dX5_left_52 rfl ?_
        refine a_iload_n (z := v) A dX5_left_53 rfl ?_
        refine m_invVl A (c_X5_leaves G _ v (up2 M 84 0 0) (by omega) hL hP hW) (by decide) mi_X5_leaves mv_X5_leaves cs_X5_189 cf5 dX5_left_54 rfl (by decide) rfl rfl (Nat.le_of_ble_eq_true rfl) (fun z54 M54 h54 => ?_)
        obtain ⟨e54, rfl⟩ := h54
        have e54 := e54.symm
        subst e54
        refine a_lsub (x := (sumZ (arrF M v) (M 86 0).toNat)) (y := (sumZ (levF M v) (M 86 0).toNat)) A dX5_left_57 ?_
        refine a_lstore_n (lv' := [.ref 84, vi v, vi b, vl ((sumZ (arrF M v) (M 86 0).toNat) - (sumZ (levF M v) (M 86 0).toNat)), jk]) A dX5_left_58 (by decide) rfl ?_
        refine a_aload_n (z := 84) A dX5_left_59 rfl ?_
        refine a_lload_n (z := ((sumZ (arrF M v) (M 86 0).toNat) - (sumZ (levF M v) (M 86 0).toNat))) A dX5_left_60 rfl ?_
        refine a_ldc2 A lk_X5_184 dX5_left_61 ?_
        refine m_invVv A (c_X5_put G _ ((sumZ (arrF M v) (M 86 0).toNat) - (sumZ (levF M v) (M 86 0).toNat)) 6350400 (up2 M 84 0 0) (by omega) (by omega)) (by decide) mi_X5_put mv_X5_put cs_X5_100 cf5 dX5_left_64 rfl (by decide) rfl rfl (Nat.le_of_ble_eq_true rfl) (fun M64 h64 => ?_)
        have h64 := h64.symm
        subst h64
        refine a_iload_n (z := b) A dX5_left_67 rfl ?_
        refine a_if_eq (tgt := 78) A dX5_left_68 (by decide) (by omega) (fun h68 => ?_) (fun h68 => ?_)
        · refine a_aload_n (z := 84) A dX5_left_78 rfl ?_
          refine gf_X5_104 (x := (nU ((sumZ (arrF M v) (M 86 0).toNat) - (sumZ (levF M v) (M 86 0).toNat)) 6350400)) A dX5_left_79 rfl (by decide) rfl ?_
          exact m_lreturn A T0 dX5_left_82 (by first | exact Or.inl ⟨by omega, rfl, rfl⟩ | exact Or.inr ⟨by omega, _, Or.inl ⟨by omega, rfl⟩, rfl, by omega⟩ | exact Or.inr ⟨by omega, _, Or.inr (Or.inl ⟨by omega, by omega, rfl⟩), rfl, by omega⟩ | exact Or.inr ⟨by omega, _, Or.inr (Or.inr ⟨by omega, by omega, rfl⟩), rfl, by omega⟩)
        · refine a_aload_n (z := 84) A dX5_left_71 rfl ?_
          refine gf_X5_108 (x := (nD ((sumZ (arrF M v) (M 86 0).toNat) - (sumZ (levF M v) (M 86 0).toNat)) 6350400)) A dX5_left_72 rfl (by decide) rfl ?_
          refine a_goto (tgt := 82) A dX5_left_75 (by decide) ?_
          exact m_lreturn A T0 dX5_left_82 (by first | exact Or.inl ⟨by omega, rfl, rfl⟩ | exact Or.inr ⟨by omega, _, Or.inl ⟨by omega, rfl⟩, rfl, by omega⟩ | exact Or.inr ⟨by omega, _, Or.inr (Or.inl ⟨by omega, by omega, rfl⟩), rfl, by omega⟩ | exact Or.inr ⟨by omega, _, Or.inr (Or.inr ⟨by omega, by omega, rfl⟩), rfl, by omega⟩)
      · refine a_aload_n (z := 84) A dX5_left_39 rfl ?_
        refine a_iload_n (z := v) A dX5_left_40 rfl ?_
        refine m_invVl A (c_X5_arrives G _ v (up2 M 84 0 0) (by omega) hL hP hW) (by decide) mi_X5_arrives mv_X5_arrives cs_X5_186 cf5 dX5_left_41 rfl (by decide) rfl rfl (Nat.le_of_ble_eq_true rfl) (fun z41 M41 h41 => ?_)
        obtain ⟨e41, rfl⟩ := h41
        have e41 := e41.symm
        subst e41
        refine a_goto (tgt := 58) A dX5_left_44 (by decide) ?_
        refine a_lstore_n (lv' := [.ref 84, vi v, vi b, vl (sumZ (arrF M v) (M 86 0).toNat), jk]) A dX5_left_58 (by decide) rfl ?_
        refine a_aload_n (z := 84) A dX5_left_59 rfl ?_
        refine a_lload_n (z := (sumZ (arrF M v) (M 86 0).toNat)) A dX5_left_60 rfl ?_
        refine a_ldc2 A lk_X5_184 dX5_left_61 ?_
        refine m_invVv A (c_X5_put G _ (sumZ (arrF M v) (M 86 0).toNat) 6350400 (up2 M 84 0 0) (by omega) (by omega)) (by decide) mi_X5_put mv_X5_put cs_X5_100 cf5 dX5_left_64 rfl (by decide) rfl rfl (Nat.le_of_ble_eq_true rfl) (fun M64 h64 => ?_)
        have h64 := h64.symm
        subst h64
        refine a_iload_n (z := b) A dX5_left_67 rfl ?_
        refine a_if_eq (tgt := 78) A dX5_left_68 (by decide) (by omega) (fun h68 => ?_) (fun h68 => ?_)
        · refine a_aload_n (z := 84) A dX5_left_78 rfl ?_
          refine gf_X5_104 (x := (nU (sumZ (arrF M v) (M 86 0).toNat) 6350400)) A dX5_left_79 rfl (by decide) rfl ?_
          exact m_lreturn A T0 dX5_left_82 (by first | exact Or.inl ⟨by omega, rfl, rfl⟩ | exact Or.inr ⟨by omega, _, Or.inl ⟨by omega, rfl⟩, rfl, by omega⟩ | exact Or.inr ⟨by omega, _, Or.inr (Or.inl ⟨by omega, by omega, rfl⟩), rfl, by omega⟩ | exact Or.inr ⟨by omega, _, Or.inr (Or.inr ⟨by omega, by omega, rfl⟩), rfl, by omega⟩)
        · refine a_aload_n (z := 84) A dX5_left_71 rfl ?_
          refine gf_X5_108 (x := (nD (sumZ (arrF M v) (M 86 0).toNat) 6350400)) A dX5_left_72 rfl (by decide) rfl ?_
          refine a_goto (tgt := 82) A dX5_left_75 (by decide) ?_
          exact m_lreturn A T0 dX5_left_82 (by first | exact Or.inl ⟨by omega, rfl, rfl⟩ | exact Or.inr ⟨by omega, _, Or.inl ⟨by omega, rfl⟩, rfl, by omega⟩ | exact Or.inr ⟨by omega, _, Or.inr (Or.inl ⟨by omega, by omega, rfl⟩), rfl, by omega⟩ | exact Or.inr ⟨by omega, _, Or.inr (Or.inr ⟨by omega, by omega, rfl⟩), rfl, by omega⟩)
    · refine a_aload_n (z := 84) A dX5_left_19 rfl ?_
      refine a_iconst A dX5_left_20 ?_
      refine m_invVl A (c_X5_leaves G _ 0 (up2 M 84 0 0) (by omega) hL hP hW) (by decide) mi_X5_leaves mv_X5_leaves cs_X5_189 cf5 dX5_left_21 rfl (by decide) rfl rfl (Nat.le_of_ble_eq_true rfl) (fun z21 M21 h21 => ?_)
      obtain ⟨e21, rfl⟩ := h21
      have e21 := e21.symm
      subst e21
      refine a_goto (tgt := 58) A dX5_left_24 (by decide) ?_
      refine a_lstore_n (lv' := [.ref 84, vi v, vi b, vl (sumZ (levF M 0) (M 86 0).toNat), jk]) A dX5_left_58 (by decide) rfl ?_
      refine a_aload_n (z := 84) A dX5_left_59 rfl ?_
      refine a_lload_n (z := (sumZ (levF M 0) (M 86 0).toNat)) A dX5_left_60 rfl ?_
      refine a_ldc2 A lk_X5_184 dX5_left_61 ?_
      refine m_invVv A (c_X5_put G _ (sumZ (levF M 0) (M 86 0).toNat) 6350400 (up2 M 84 0 0) (by omega) (by omega)) (by decide) mi_X5_put mv_X5_put cs_X5_100 cf5 dX5_left_64 rfl (by decide) rfl rfl (Nat.le_of_ble_eq_true rfl) (fun M64 h64 => ?_)
      have h64 := h64.symm
      subst h64
      refine a_iload_n (z := b) A dX5_left_67 rfl ?_
      refine a_if_eq (tgt := 78) A dX5_left_68 (by decide) (by omega) (fun h68 => ?_) (fun h68 => ?_)
      · refine a_aload_n (z := 84) A dX5_left_78 rfl ?_
        refine gf_X5_104 (x := (nU (sumZ (levF M 0) (M 86 0).toNat) 6350400)) A dX5_left_79 rfl (by decide) rfl ?_
        exact m_lreturn A T0 dX5_left_82 (by first | exact Or.inl ⟨by omega, rfl, rfl⟩ | exact Or.inr ⟨by omega, _, Or.inl ⟨by omega, rfl⟩, rfl, by omega⟩ | exact Or.inr ⟨by omega, _, Or.inr (Or.inl ⟨by omega, by omega, rfl⟩), rfl, by omega⟩ | exact Or.inr ⟨by omega, _, Or.inr (Or.inr ⟨by omega, by omega, rfl⟩), rfl, by omega⟩)
      · refine a_aload_n (z := 84) A dX5_left_71 rfl ?_
        refine gf_X5_108 (x := (nD (sumZ (levF M 0) (M 86 0).toNat) 6350400)) A dX5_left_72 rfl (by decide) rfl ?_
        refine a_goto (tgt := 82) A dX5_left_75 (by decide) ?_
        exact m_lreturn A T0 dX5_left_82 (by first | exact Or.inl ⟨by omega, rfl, rfl⟩ | exact Or.inr ⟨by omega, _, Or.inl ⟨by omega, rfl⟩, rfl, by omega⟩ | exact Or.inr ⟨by omega, _, Or.inr (Or.inl ⟨by omega, by omega, rfl⟩), rfl, by omega⟩ | exact Or.inr ⟨by omega, _, Or.inr (Or.inr ⟨by omega, by omega, rfl⟩), rfl, by omega⟩)
  · refine a_lconst0 A dX5_left_13 ?_
    exact m_lreturn A T0 dX5_left_14 (by first | exact Or.inl ⟨by omega, rfl, rfl⟩ | exact Or.inr ⟨by omega, _, Or.inl ⟨by omega, rfl⟩, rfl, by omega⟩ | exact Or.inr ⟨by omega, _, Or.inr (Or.inl ⟨by omega, by omega, rfl⟩), rfl, by omega⟩ | exact Or.inr ⟨by omega, _, Or.inr (Or.inr ⟨by omega, by omega, rfl⟩), rfl, by omega⟩)
/-- m places from n * a on into those from n * b on, in cell c -/
def mvK (M : MM) (c n a b m : Nat) : MM := fun c' => if c' = c then (fun j => if n * b ≤ j ∧ j < n * b + m then M c' (n * a + (j - n * b)) else M c' j) else M c'
theorem mvK_0 (M : MM) (c n a b : Nat) : mvK M c n a b 0 = M := by
  funext c' j
  unfold mvK
  split
  · simp only []
    rw [if_neg (by omega)]
  · rfl
theorem mvK_ne (M : MM) {c c' n a b m : Nat} (h : c' ≠ c) : mvK M c n a b m c' = M c' := by simp [mvK, h]
theorem mvK_src (M : MM) {c n a b m k : Nat} (hab : n * a + n ≤ n * b ∨ n * b + n ≤ n * a) (hk : k < n) (hm : m ≤ n) : mvK M c n a b m c (n * a + k) = M c (n * a + k) := by
  unfold mvK
  rw [if_pos rfl]
  exact if_neg (by omega)
theorem mvK_succ (M : MM) {c n a b m : Nat} : up2 (mvK M c n a b m) c (n * b + m) (M c (n * a + m)) = mvK M c n a b (m + 1) := by
  funext c' j
  by_cases hc : c' = c
  · subst hc
    simp only [up2, mvK, if_true]
    by_cases hj : j = n * b + m
    · subst hj
      rw [if_pos rfl, if_pos (by omega)]
      congr 1
      omega
    · rw [if_neg hj]
      by_cases h : n * b ≤ j ∧ j < n * b + m
      · rw [if_pos h, if_pos (by omega)]
      · rw [if_neg h, if_neg (by omega)]
  · simp [up2, mvK, hc]
set_option maxRecDepth 100000 in
set_option maxHeartbeats 4000000 in
theorem move_loop5 {G : GG} {E : EE} {P : MM → Prop} (A : AmM G E cX5_move 5 yX5_move.cls 1) (T0 : RT E G yX5_move 108 0 0 none (fun r rf' M' => rf' = rF ∧ r = none ∧ P M')) (M : MM) (c N a b len : Nat) (hl_c : ly c = (6, len)) (ha_c : c < 108) (hlen : len ≤ 100) (hab : N * a + N ≤ N * b ∨ N * b + N ≤ N * a) (ha : N * a + N ≤ len) (hb : N * b + N ≤ len) (hp : P (mvK M c N a b N)) : ∀ (n : Nat) (m : Nat), N - m < n → m ≤ N → AM G E 5 3 [.ref c, vi (N : Int), vi (a : Int), vi (b : Int), vi (m : Int)] [] (mvK M c N a b m) := by
  intro n
  induction n with
  | zero => intro m hn hm; exfalso; omega
  | succ n ih =>
    intro m hn hm
    have ea : (N : Int) * (a : Int) = ((N * a : Nat) : Int) := by push_cast; rfl
    have eb : (N : Int) * (b : Int) = ((N * b : Nat) : Int) := by push_cast; rfl
    refine a_iload (z := (m : Int)) A dX5_move_3 rfl ?_
    refine a_iload_n (z := (N : Int)) A dX5_move_5 rfl ?_
    refine a_icmp_ge (tgt := 31) A dX5_move_6 (by decide) (by omega) (by omega) (fun h6 => ?_) (fun h6 => ?_)
    · exact m_return A T0 dX5_move_31 (by rw [show N = m by omega] at hp ⊢; exact hp)
    · refine a_aload_n (z := c) A dX5_move_9 rfl ?_
      refine a_iload_n (z := (N : Int)) A dX5_move_10 rfl ?_
      refine a_iload_n (z := (b : Int)) A dX5_move_11 rfl ?_
      refine a_imul (x := (N : Int)) (y := (b : Int)) A dX5_move_12 ?_
      refine a_iload (z := (m : Int)) A dX5_move_13 rfl ?_
      refine a_iadd (x := ((N : Int) * (b : Int))) (y := (m : Int)) A dX5_move_15 ?_
      refine a_aload_n (z := c) A dX5_move_16 rfl ?_
      refine a_iload_n (z := (N : Int)) A dX5_move_17 rfl ?_
      refine a_iload_n (z := (a : Int)) A dX5_move_18 rfl ?_
      refine a_imul (x := (N : Int)) (y := (a : Int)) A dX5_move_19 ?_
      refine a_iload (z := (m : Int)) A dX5_move_20 rfl ?_
      refine a_iadd (x := ((N : Int) * (a : Int))) (y := (m : Int)) A dX5_move_22 ?_
      refine a_iaload (i := (((N : Int) * (a : Int)) + (m : Int))) (x := (mvK M c N a b m) c (N * a + m)) A dX5_move_23 hl_c ha_c hlen (by omega) rfl ?_
      refine a_iastore (i := (((N : Int) * (b : Int)) + (m : Int))) (j := (N * b + m)) A dX5_move_24 hl_c ha_c hlen (by omega) rfl ?_
      refine a_iinc (z := (m : Int)) (lv' := [.ref c, vi (N : Int), vi (a : Int), vi (b : Int), vi ((m : Int) + 1)]) A dX5_move_25 rfl (by decide) rfl ?_
      refine a_goto (tgt := 3) A dX5_move_28 (by decide) ?_
      rw [mvK_src M hab (by omega) hm, mvK_succ]
      exact ih (m + 1) (by omega) (by omega)
set_option maxRecDepth 100000 in
set_option maxHeartbeats 4000000 in
theorem c_X5_move (G : GG) (l : Launch) (c N a b len : Nat) (M : MM) (hl_c : ly c = (6, len)) (ha_c : c < 108) (hlen : len ≤ 100) (hab : N * a + N ≤ N * b ∨ N * b + N ≤ N * a) (ha : N * a + N ≤ len) (hb : N * b + N ≤ len) : CMv G l yX5_move cX5_move 5 none 1 [.ref c, vi (N : Int), vi (a : Int), vi (b : Int)] M (fun M' => M' = mvK M c N a b N) := by
  refine CT.intro (by decide) (Nat.le_of_ble_eq_true rfl) (fun E hE A T0 => ?_)
  subst hE
  refine a_iconst A dX5_move_0 ?_
  refine a_istore (lv' := [.ref c, vi (N : Int), vi (a : Int), vi (b : Int), vi 0]) A dX5_move_1 (by decide) rfl ?_
  have := move_loop5 A T0 M c N a b len hl_c ha_c hlen hab ha hb rfl (N + 1) 0 (by omega) (by omega)
  rw [mvK_0] at this
  exact this
end
section
/-- slot a into slot b, all that is told -/
def cpM (M : MM) (a b : Nat) : MM :=
  let M1 := mvK (mvK (mvK (mvK (mvK (mvK (mvK (mvK (mvK (mvK (mvK (mvK M 85 1 a b 1) 86 1 a b 1) 87 10 a b 10) 88 10 a b 10) 89 10 a b 10) 90 10 a b 10) 91 10 a b 10) 92 10 a b 10) 93 10 a b 10) 94 10 a b 10) 95 1 a b 1) 96 5 a b 5
  up2 (up2 M1 97 b (M 97 a)) 98 b (M 98 a)
set_option maxRecDepth 100000 in
set_option maxHeartbeats 4000000 in
theorem c_X5_copy (G : GG) (l : Launch) (a b : Nat) (M : MM) (ha : a ≤ 3) (hb : b ≤ 3) (hab : a < b ∨ b < a) : CMv G l yX5_copy cX5_copy 3 none 2 [.ref 84, vi (a : Int), vi (b : Int)] M (fun M' => M' = cpM M a b) := by
  refine CT.intro (by decide) (Nat.le_of_ble_eq_true rfl) (fun E hE A T0 => ?_)
  subst hE
  refine a_aload_n (z := 84) A dX5_copy_0 rfl ?_
  refine gf_X5_7 (r := 85) A dX5_copy_1 rfl (by decide) rfl ?_
  refine a_iconst A dX5_copy_4 ?_
  refine a_iload_n (z := (a : Int)) A dX5_copy_5 rfl ?_
  refine a_iload_n (z := (b : Int)) A dX5_copy_6 rfl ?_
  refine m_invSv A (c_X5_move G _ 85 1 a b _ M rfl (by decide) (by decide) (by omega) (by omega) (by omega)) (by decide) mi_X5_move ms_X5_move cs_X5_85 dX5_copy_7 rfl rfl (Nat.le_of_ble_eq_true rfl) (fun M7 h7 => ?_)
  have h7 := h7.symm
  subst h7
  refine a_aload_n (z := 84) A dX5_copy_10 rfl ?_
  refine gf_X5_13 (r := 86) A dX5_copy_11 rfl (by decide) rfl ?_
  refine a_iconst A dX5_copy_14 ?_
  refine a_iload_n (z := (a : Int)) A dX5_copy_15 rfl ?_
  refine a_iload_n (z := (b : Int)) A dX5_copy_16 rfl ?_
  refine m_invSv A (c_X5_move G _ 86 1 a b _ (mvK M 85 1 a b 1) rfl (by decide) (by decide) (by omega) (by omega) (by omega)) (by decide) mi_X5_move ms_X5_move cs_X5_85 dX5_copy_17 rfl rfl (Nat.le_of_ble_eq_true rfl) (fun M17 h17 => ?_)
  have h17 := h17.symm
  subst h17
  refine a_aload_n (z := 84) A dX5_copy_20 rfl ?_
  refine gf_X5_16 (r := 87) A dX5_copy_21 rfl (by decide) rfl ?_
  refine a_bipush A dX5_copy_24 (by decide) ?_
  refine a_iload_n (z := (a : Int)) A dX5_copy_26 rfl ?_
  refine a_iload_n (z := (b : Int)) A dX5_copy_27 rfl ?_
  refine m_invSv A (c_X5_move G _ 87 10 a b _ (mvK (mvK M 85 1 a b 1) 86 1 a b 1) rfl (by decide) (by decide) (by omega) (by omega) (by omega)) (by decide) mi_X5_move ms_X5_move cs_X5_85 dX5_copy_28 rfl rfl (Nat.le_of_ble_eq_true rfl) (fun M28 h28 => ?_)
  have h28 := h28.symm
  subst h28
  refine a_aload_n (z := 84) A dX5_copy_31 rfl ?_
  refine gf_X5_19 (r := 88) A dX5_copy_32 rfl (by decide) rfl ?_
  refine a_bipush A dX5_copy_35 (by decide) ?_
  refine a_iload_n (z := (a : Int)) A dX5_copy_37 rfl ?_
  refine a_iload_n (z := (b : Int)) A dX5_copy_38 rfl ?_
  refine m_invSv A (c_X5_move G _ 88 10 a b _ (mvK (mvK (mvK M 85 1 a b 1) 86 1 a b 1) 87 10 a b 10) rfl (by decide) (by decide) (by omega) (by omega) (by omega)) (by decide) mi_X5_move ms_X5_move cs_X5_85 dX5_copy_39 rfl rfl (Nat.le_of_ble_eq_true rfl) (fun M39 h39 => ?_)
  have h39 := h39.symm
  subst h39
  refine a_aload_n (z := 84) A dX5_copy_42 rfl ?_
  refine gf_X5_22 (r := 89) A dX5_copy_43 rfl (by decide) rfl ?_
  refine a_bipush A dX5_copy_46 (by decide) ?_
  refine a_iload_n (z := (a : Int)) A dX5_copy_48 rfl ?_
  refine a_iload_n (z := (b : Int)) A dX5_copy_49 rfl ?_
  refine m_invSv A (c_X5_move G _ 89 10 a b _ (mvK (mvK (mvK (mvK M 85 1 a b 1) 86 1 a b 1) 87 10 a b 10) 88 10 a b 10) rfl (by decide) (by decide) (by omega) (by omega) (by omega)) (by decide) mi_X5_move ms_X5_move cs_X5_85 dX5_copy_50 rfl rfl (Nat.le_of_ble_eq_true rfl) (fun M50 h50 => ?_)
  have h50 := h50.symm
  subst h50
  refine a_aload_n (z := 84) A dX5_copy_53 rfl ?_
  refine gf_X5_25 (r := 90) A dX5_copy_54 rfl (by decide) rfl ?_
  refine a_bipush A dX5_copy_57 (by decide) ?_
  refine a_iload_n (z := (a : Int)) A dX5_copy_59 rfl ?_
  refine a_iload_n (z := (b : Int)) A dX5_copy_60 rfl ?_
  refine m_invSv A (c_X5_move G _ 90 10 a b _ (mvK (mvK (mvK (mvK (mvK M 85 1 a b 1) 86 1 a b 1) 87 10 a b 10) 88 10 a b 10) 89 10 a b 10) rfl (by decide) (by decide) (by omega) (by omega) (by omega)) (by decide) mi_X5_move ms_X5_move cs_X5_85 dX5_copy_61 rfl rfl (Nat.le_of_ble_eq_true rfl) (fun M61 h61 => ?_)
  have h61 := h61.symm
  subst h61
  refine a_aload_n (z := 84) A dX5_copy_64 rfl ?_
  refine gf_X5_28 (r := 91) A dX5_copy_65 rfl (by decide) rfl ?_
  refine a_bipush A dX5_copy_68 (by decide) ?_
  refine a_iload_n (z := (a : Int)) A dX5_copy_70 rfl ?_
  refine a_iload_n (z := (b : Int)) A dX5_copy_71 rfl ?_
  refine m_invSv A (c_X5_move G _ 91 10 a b _ (mvK (mvK (mvK (mvK (mvK (mvK M 85 1 a b 1) 86 1 a b 1) 87 10 a b 10) 88 10 a b 10) 89 10 a b 10) 90 10 a b 10) rfl (by decide) (by decide) (by omega) (by omega) (by omega)) (by decide) mi_X5_move ms_X5_move cs_X5_85 dX5_copy_72 rfl rfl (Nat.le_of_ble_eq_true rfl) (fun M72 h72 => ?_)
  have h72 := h72.symm
  subst h72
  refine a_aload_n (z := 84) A dX5_copy_75 rfl ?_
  refine gf_X5_31 (r := 92) A dX5_copy_76 rfl (by decide) rfl ?_
  refine a_bipush A dX5_copy_79 (by decide) ?_
  refine a_iload_n (z := (a : Int)) A dX5_copy_81 rfl ?_
  refine a_iload_n (z := (b : Int)) A dX5_copy_82 rfl ?_
  refine m_invSv A (c_X5_move G _ 92 10 a b _ (mvK (mvK (mvK (mvK (mvK (mvK (mvK M 85 1 a b 1) 86 1 a b 1) 87 10 a b 10) 88 10 a b 10) 89 10 a b 10) 90 10 a b 10) 91 10 a b 10) rfl (by decide) (by decide) (by omega) (by omega) (by omega)) (by decide) mi_X5_move ms_X5_move cs_X5_85 dX5_copy_83 rfl rfl (Nat.le_of_ble_eq_true rfl) (fun M83 h83 => ?_)
  have h83 := h83.symm
  subst h83
  refine a_aload_n (z := 84) A dX5_copy_86 rfl ?_
  refine gf_X5_34 (r := 93) A dX5_copy_87 rfl (by decide) rfl ?_
  refine a_bipush A dX5_copy_90 (by decide) ?_
  refine a_iload_n (z := (a : Int)) A dX5_copy_92 rfl ?_
  refine a_iload_n (z := (b : Int)) A dX5_copy_93 rfl ?_
  refine m_invSv A (c_X5_move G _ 93 10 a b _ (mvK (mvK (mvK (mvK (mvK (mvK (mvK (mvK M 85 1 a b 1) 86 1 a b 1) 87 10 a b 10) 88 10 a b 10) 89 10 a b 10) 90 10 a b 10) 91 10 a b 10) 92 10 a b 10) rfl (by decide) (by decide) (by omega) (by omega) (by omega)) (by decide) mi_X5_move ms_X5_move cs_X5_85 dX5_copy_94 rfl rfl (Nat.le_of_ble_eq_true rfl) (fun M94 h94 => ?_)
  have h94 := h94.symm
  subst h94
  refine a_aload_n (z := 84) A dX5_copy_97 rfl ?_
  refine gf_X5_37 (r := 94) A dX5_copy_98 rfl (by decide) rfl ?_
  refine a_bipush A dX5_copy_101 (by decide) ?_
  refine a_iload_n (z := (a : Int)) A dX5_copy_103 rfl ?_
  refine a_iload_n (z := (b : Int)) A dX5_copy_104 rfl ?_
  refine m_invSv A (c_X5_move G _ 94 10 a b _ (mvK (mvK (mvK (mvK (mvK (mvK (mvK (mvK (mvK M 85 1 a b 1) 86 1 a b 1) 87 10 a b 10) 88 10 a b 10) 89 10 a b 10) 90 10 a b 10) 91 10 a b 10) 92 10 a b 10) 93 10 a b 10) rfl (by decide) (by decide) (by omega) (by omega) (by omega)) (by decide) mi_X5_move ms_X5_move cs_X5_85 dX5_copy_105 rfl rfl (Nat.le_of_ble_eq_true rfl) (fun M105 h105 => ?_)
  have h105 := h105.symm
  subst h105
  refine a_aload_n (z := 84) A dX5_copy_108 rfl ?_
  refine gf_X5_40 (r := 95) A dX5_copy_109 rfl (by decide) rfl ?_
  refine a_iconst A dX5_copy_112 ?_
  refine a_iload_n (z := (a : Int)) A dX5_copy_113 rfl ?_
  refine a_iload_n (z := (b : Int)) A dX5_copy_114 rfl ?_
  refine m_invSv A (c_X5_move G _ 95 1 a b _ (mvK (mvK (mvK (mvK (mvK (mvK (mvK (mvK (mvK (mvK M 85 1 a b 1) 86 1 a b 1) 87 10 a b 10) 88 10 a b 10) 89 10 a b 10) 90 10 a b 10) 91 10 a b 10) 92 10 a b 10) 93 10 a b 10) 94 10 a b 10) rfl (by decide) (by decide) (by omega) (by omega) (by omega)) (by decide) mi_X5_move ms_X5_move cs_X5_85 dX5_copy_115 rfl rfl (Nat.le_of_ble_eq_true rfl) (fun M115 h115 => ?_)
  have h115 := h115.symm
  subst h115
  refine a_aload_n (z := 84) A dX5_copy_118 rfl ?_
  refine gf_X5_43 (r := 96) A dX5_copy_119 rfl (by decide) rfl ?_
  refine a_iconst A dX5_copy_122 ?_
  refine a_iload_n (z := (a : Int)) A dX5_copy_123 rfl ?_
  refine a_iload_n (z := (b : Int)) A dX5_copy_124 rfl ?_
  refine m_invSv A (c_X5_move G _ 96 5 a b _ (mvK (mvK (mvK (mvK (mvK (mvK (mvK (mvK (mvK (mvK (mvK M 85 1 a b 1) 86 1 a b 1) 87 10 a b 10) 88 10 a b 10) 89 10 a b 10) 90 10 a b 10) 91 10 a b 10) 92 10 a b 10) 93 10 a b 10) 94 10 a b 10) 95 1 a b 1) rfl (by decide) (by decide) (by omega) (by omega) (by omega)) (by decide) mi_X5_move ms_X5_move cs_X5_85 dX5_copy_125 rfl rfl (Nat.le_of_ble_eq_true rfl) (fun M125 h125 => ?_)
  have h125 := h125.symm
  subst h125
  refine a_aload_n (z := 84) A dX5_copy_128 rfl ?_
  refine gf_X5_46 (r := 97) A dX5_copy_129 rfl (by decide) rfl ?_
  refine a_iload_n (z := (b : Int)) A dX5_copy_132 rfl ?_
  refine a_aload_n (z := 84) A dX5_copy_133 rfl ?_
  refine gf_X5_46 (r := 97) A dX5_copy_134 rfl (by decide) rfl ?_
  refine a_iload_n (z := (a : Int)) A dX5_copy_137 rfl ?_
  refine a_laload (i := (a : Int)) (x := M 97 a) A dX5_copy_138 rfl (by decide) (by decide) (by omega) rfl ?_
  refine a_lastore (i := (b : Int)) (j := b) A dX5_copy_139 rfl (by decide) (by decide) (by omega) rfl ?_
  refine a_aload_n (z := 84) A dX5_copy_140 rfl ?_
  refine gf_X5_50 (r := 98) A dX5_copy_141 rfl (by decide) rfl ?_
  refine a_iload_n (z := (b : Int)) A dX5_copy_144 rfl ?_
  refine a_aload_n (z := 84) A dX5_copy_145 rfl ?_
  refine gf_X5_50 (r := 98) A dX5_copy_146 rfl (by decide) rfl ?_
  refine a_iload_n (z := (a : Int)) A dX5_copy_149 rfl ?_
  refine a_laload (i := (a : Int)) (x := M 98 a) A dX5_copy_150 rfl (by decide) (by decide) (by omega) rfl ?_
  refine a_lastore (i := (b : Int)) (j := b) A dX5_copy_151 rfl (by decide) (by decide) (by omega) rfl ?_
  exact m_return A T0 dX5_copy_152 (by rfl)
set_option maxRecDepth 100000 in
set_option maxHeartbeats 4000000 in
theorem c_X5_image (G : GG) (l : Launch) (k : Int) (M : MM) (hk : I32 k) : CMi G l yX5_image cX5_image 2 (some .boolean) 3 [.ref 84, vi k] M (fun z M' => (z = 0 ∧ (k < 0 ∨ 2 < k) ∧ M' = up2 M 84 0 0) ∨ (z = 1 ∧ (0 ≤ k ∧ k ≤ 2) ∧ M' = up2 (cpM (up2 M 84 0 0) 0 (k.toNat + 1)) 107 k.toNat 1)) := by
  refine CT.intro (by decide) (Nat.le_of_ble_eq_true rfl) (fun E hE A T0 => ?_)
  subst hE
  refine a_aload_n (z := 84) A dX5_image_0 rfl ?_
  refine a_iconst A dX5_image_1 ?_
  refine pf_X5_81 A dX5_image_2 rfl (by decide) ?_
  refine a_iload_n (z := k) A dX5_image_5 rfl ?_
  refine a_iconst A dX5_image_6 ?_
  refine a_iconst A dX5_image_7 ?_
  refine m_invSi A (c_X5_in G _ k 0 2 (up2 M 84 0 0) (by omega) (by omega) (by omega)) (by decide) mi_X5_in ms_X5_in cs_X5_89 dX5_image_8 rfl rfl (Nat.le_of_ble_eq_true rfl) (fun z8 M8 h8 => ?_)
  obtain ⟨e8, hc8⟩ := h8
  have e8 := e8.symm
  subst e8
  refine a_if_ne (tgt := 16) A dX5_image_11 (by decide) (by omega) (fun h11 => ?_) (fun h11 => ?_)
  · obtain ⟨q, hq⟩ : ∃ q : Nat, k = (q : Int) := ⟨k.toNat, by omega⟩
    subst hq
    refine a_aload_n (z := 84) A dX5_image_16 rfl ?_
    refine a_iconst A dX5_image_17 ?_
    refine a_iload_n (z := (q : Int)) A dX5_image_18 rfl ?_
    refine a_iconst A dX5_image_19 ?_
    refine a_iadd (x := (q : Int)) (y := 1) A dX5_image_20 ?_
    refine m_invVv A (c_X5_copy G _ 0 (q + 1) (up2 M 84 0 0) (by omega) (by omega) (by omega)) (by decide) mi_X5_copy mv_X5_copy cs_X5_192 cf5 dX5_image_21 rfl (by decide) rfl rfl (Nat.le_of_ble_eq_true rfl) (fun M21 h21 => ?_)
    have h21 := h21.symm
    subst h21
    refine a_aload_n (z := 84) A dX5_image_24 rfl ?_
    refine gf_X5_77 (r := 107) A dX5_image_25 rfl (by decide) rfl ?_
    refine a_iload_n (z := (q : Int)) A dX5_image_28 rfl ?_
    refine a_iconst A dX5_image_29 ?_
    refine a_bastore (i := (q : Int)) (j := q) A dX5_image_30 rfl (by decide) (by decide) (by omega) rfl (Or.inr rfl) ?_
    refine a_iconst A dX5_image_31 ?_
    exact m_zreturn A T0 dX5_image_32 (by first | exact Or.inl rfl | exact Or.inr rfl | omega) (by exact Or.inr ⟨rfl, by omega, rfl⟩)
  · refine a_iconst A dX5_image_14 ?_
    exact m_zreturn A T0 dX5_image_15 (by first | exact Or.inl rfl | exact Or.inr rfl | omega) (by exact Or.inl ⟨rfl, by omega, rfl⟩)
set_option maxRecDepth 100000 in
set_option maxHeartbeats 4000000 in
theorem c_X5_again (G : GG) (l : Launch) (k : Int) (M : MM) (hk : I32 k) (hz : ∀ j : Nat, j < 3 → M 107 j = 0 ∨ M 107 j = 1) : CMi G l yX5_again cX5_again 2 (some .boolean) 3 [.ref 84, vi k] M (fun z M' => (z = 0 ∧ ((k < 0 ∨ 2 < k) ∨ M 107 k.toNat = 0) ∧ M' = up2 M 84 0 0) ∨ (z = 1 ∧ (0 ≤ k ∧ k ≤ 2 ∧ M 107 k.toNat ≠ 0) ∧ M' = cpM (up2 M 84 0 0) (k.toNat + 1) 0)) := by
  refine CT.intro (by decide) (Nat.le_of_ble_eq_true rfl) (fun E hE A T0 => ?_)
  subst hE
  refine a_aload_n (z := 84) A dX5_again_0 rfl ?_
  refine a_iconst A dX5_again_1 ?_
  refine pf_X5_81 A dX5_again_2 rfl (by decide) ?_
  refine a_iload_n (z := k) A dX5_again_5 rfl ?_
  refine a_iconst A dX5_again_6 ?_
  refine a_iconst A dX5_again_7 ?_
  refine m_invSi A (c_X5_in G _ k 0 2 (up2 M 84 0 0) (by omega) (by omega) (by omega)) (by decide) mi_X5_in ms_X5_in cs_X5_89 dX5_again_8 rfl rfl (Nat.le_of_ble_eq_true rfl) (fun z8 M8 h8 => ?_)
  obtain ⟨e8, hc8⟩ := h8
  have e8 := e8.symm
  subst e8
  refine a_if_eq (tgt := 23) A dX5_again_11 (by decide) (by omega) (fun h11 => ?_) (fun h11 => ?_)
  · refine a_iconst A dX5_again_23 ?_
    exact m_zreturn A T0 dX5_again_24 (by first | exact Or.inl rfl | exact Or.inr rfl | omega) (by exact Or.inl ⟨rfl, Or.inl (by omega), rfl⟩)
  · obtain ⟨q, hq⟩ : ∃ q : Nat, k = (q : Int) := ⟨k.toNat, by omega⟩
    subst hq
    have hz' := hz q (by omega)
    refine a_aload_n (z := 84) A dX5_again_14 rfl ?_
    refine gf_X5_77 (r := 107) A dX5_again_15 rfl (by decide) rfl ?_
    refine a_iload_n (z := (q : Int)) A dX5_again_18 rfl ?_
    refine a_baload (i := (q : Int)) (x := M 107 q) A dX5_again_19 rfl (by decide) (by decide) (by omega) rfl ?_
    refine a_if_ne (tgt := 25) A dX5_again_20 (by decide) (by omega) (fun h20 => ?_) (fun h20 => ?_)
    · refine a_aload_n (z := 84) A dX5_again_25 rfl ?_
      refine a_iload_n (z := (q : Int)) A dX5_again_26 rfl ?_
      refine a_iconst A dX5_again_27 ?_
      refine a_iadd (x := (q : Int)) (y := 1) A dX5_again_28 ?_
      refine a_iconst A dX5_again_29 ?_
      refine m_invVv A (c_X5_copy G _ (q + 1) 0 (up2 M 84 0 0) (by omega) (by omega) (by omega)) (by decide) mi_X5_copy mv_X5_copy cs_X5_192 cf5 dX5_again_30 rfl (by decide) rfl rfl (Nat.le_of_ble_eq_true rfl) (fun M30 h30 => ?_)
      have h30 := h30.symm
      subst h30
      refine a_iconst A dX5_again_33 ?_
      exact m_zreturn A T0 dX5_again_34 (by first | exact Or.inl rfl | exact Or.inr rfl | omega) (by exact Or.inr ⟨rfl, ⟨by omega, by omega, h20⟩, rfl⟩)
    · refine a_iconst A dX5_again_23 ?_
      exact m_zreturn A T0 dX5_again_24 (by first | exact Or.inl rfl | exact Or.inr rfl | omega) (by exact Or.inl ⟨rfl, Or.inr h20, rfl⟩)
def prodZ (f : Nat → Int) : Nat → Int
  | 0 => 1
  | n + 1 => prodZ f n * f n
set_option maxRecDepth 100000 in
set_option maxHeartbeats 4000000 in
theorem pu_loop5 {G : GG} {E : EE} {P : Int → MM → Prop} (A : AmM G E cX5_productUp 5 yX5_productUp.cls 1) (T0 : RT E G yX5_productUp 108 0 0 (some .long) (fun r rf' M' => rf' = rF ∧ ∃ z, r = some (vl z) ∧ P z M')) (N : Nat) (M : MM) (hN : N ≤ 5) (hr : ∀ k, k < N → 0 ≤ M 105 k ∧ M 105 k < 40) (hv : ∀ k, k < N → I32 (M 90 (M 105 k).toNat)) (hp : P (prodZ (fun k => M 90 (M 105 k).toNat) N) M) : ∀ (n : Nat) (i : Nat), N - i < n → i ≤ N → AM G E 5 5 [.ref 84, vi (N : Int), vl (prodZ (fun k => M 90 (M 105 k).toNat) i), jk, vi (i : Int)] [] M := by
  intro n
  induction n with
  | zero => intro i hn hi; exfalso; omega
  | succ n ih =>
    intro i hn hi
    have hr0 : i < N → 0 ≤ M 105 i ∧ M 105 i < 40 := hr i
    have hv0 : i < N → I32 (M 90 (M 105 i).toNat) := hv i
    refine a_iload (z := (i : Int)) A dX5_productUp_5 rfl ?_
    refine a_iload_n (z := (N : Int)) A dX5_productUp_7 rfl ?_
    refine a_icmp_ge (tgt := 33) A dX5_productUp_8 (by decide) (by omega) (by omega) (fun h8 => ?_) (fun h8 => ?_)
    · refine a_lload_n (z := (prodZ (fun k => M 90 (M 105 k).toNat) i)) A dX5_productUp_33 rfl ?_
      exact m_lreturn A T0 dX5_productUp_34 (by rw [show N = i by omega] at hp; exact hp)
    · refine a_lload_n (z := (prodZ (fun k => M 90 (M 105 k).toNat) i)) A dX5_productUp_11 rfl ?_
      refine a_aload_n (z := 84) A dX5_productUp_12 rfl ?_
      refine gf_X5_25 (r := 90) A dX5_productUp_13 rfl (by decide) rfl ?_
      refine a_aload_n (z := 84) A dX5_productUp_16 rfl ?_
      refine gf_X5_71 (r := 105) A dX5_productUp_17 rfl (by decide) rfl ?_
      refine a_iload (z := (i : Int)) A dX5_productUp_20 rfl ?_
      refine a_iaload (i := (i : Int)) (x := M 105 i) A dX5_productUp_22 rfl (by decide) (by decide) (by omega) rfl ?_
      refine a_iaload (i := (M 105 i)) (x := M 90 ((M 105 i).toNat)) A dX5_productUp_23 rfl (by decide) (by decide) (by omega) rfl ?_
      refine a_i2l A dX5_productUp_24 (by omega) ?_
      refine a_lmul (x := (prodZ (fun k => M 90 (M 105 k).toNat) i)) (y := (M 90 ((M 105 i).toNat))) A dX5_productUp_25 ?_
      refine a_lstore_n (lv' := [.ref 84, vi (N : Int), vl ((prodZ (fun k => M 90 (M 105 k).toNat) i) * (M 90 ((M 105 i).toNat))), jk, vi (i : Int)]) A dX5_productUp_26 (by decide) rfl ?_
      refine a_iinc (z := (i : Int)) (lv' := [.ref 84, vi (N : Int), vl ((prodZ (fun k => M 90 (M 105 k).toNat) i) * (M 90 ((M 105 i).toNat))), jk, vi ((i : Int) + 1)]) A dX5_productUp_27 rfl (by decide) rfl ?_
      refine a_goto (tgt := 5) A dX5_productUp_30 (by decide) ?_
      exact ih (i + 1) (by omega) (by omega)
set_option maxRecDepth 100000 in
set_option maxHeartbeats 4000000 in
theorem c_X5_productUp (G : GG) (l : Launch) (N : Nat) (M : MM) (hN : N ≤ 5) (hr : ∀ k, k < N → 0 ≤ M 105 k ∧ M 105 k < 40) (hv : ∀ k, k < N → I32 (M 90 (M 105 k).toNat)) : CMl G l yX5_productUp cX5_productUp 5 (some .long) 1 [.ref 84, vi (N : Int)] M (fun z M' => M' = M ∧ z = prodZ (fun k => M 90 (M 105 k).toNat) N) := by
  refine CT.intro (by decide) (Nat.le_of_ble_eq_true rfl) (fun E hE A T0 => ?_)
  subst hE
  refine a_lconst1 A dX5_productUp_0 ?_
  refine a_lstore_n (lv' := [.ref 84, vi (N : Int), vl 1, jk, jk]) A dX5_productUp_1 (by decide) rfl ?_
  refine a_iconst A dX5_productUp_2 ?_
  refine a_istore (lv' := [.ref 84, vi (N : Int), vl 1, jk, vi 0]) A dX5_productUp_3 (by decide) rfl ?_
  exact pu_loop5 A T0 N M hN hr hv ⟨rfl, rfl⟩ (N + 1) 0 (by omega) (by omega)
set_option maxRecDepth 100000 in
set_option maxHeartbeats 4000000 in
theorem pd_loop5 {G : GG} {E : EE} {P : Int → MM → Prop} (A : AmM G E cX5_productDown 5 yX5_productDown.cls 1) (T0 : RT E G yX5_productDown 108 0 0 (some .long) (fun r rf' M' => rf' = rF ∧ ∃ z, r = some (vl z) ∧ P z M')) (N : Nat) (M : MM) (hN : N ≤ 5) (hr : ∀ k, k < N → 0 ≤ M 105 k ∧ M 105 k < 40) (hv : ∀ k, k < N → I32 (M 91 (M 105 k).toNat)) (hp : P (prodZ (fun k => M 91 (M 105 k).toNat) N) M) : ∀ (n : Nat) (i : Nat), N - i < n → i ≤ N → AM G E 5 5 [.ref 84, vi (N : Int), vl (prodZ (fun k => M 91 (M 105 k).toNat) i), jk, vi (i : Int)] [] M := by
  intro n
  induction n with
  | zero => intro i hn hi; exfalso; omega
  | succ n ih =>
    intro i hn hi
    have hr0 : i < N → 0 ≤ M 105 i ∧ M 105 i < 40 := hr i
    have hv0 : i < N → I32 (M 91 (M 105 i).toNat) := hv i
    refine a_iload (z := (i : Int)) A dX5_productDown_5 rfl ?_
    refine a_iload_n (z := (N : Int)) A dX5_productDown_7 rfl ?_
    refine a_icmp_ge (tgt := 33) A dX5_productDown_8 (by decide) (by omega) (by omega) (fun h8 => ?_) (fun h8 => ?_)
    · refine a_lload_n (z := (prodZ (fun k => M 91 (M 105 k).toNat) i)) A dX5_productDown_33 rfl ?_
      exact m_lreturn A T0 dX5_productDown_34 (by rw [show N = i by omega] at hp; exact hp)
    · refine a_lload_n (z := (prodZ (fun k => M 91 (M 105 k).toNat) i)) A dX5_productDown_11 rfl ?_
      refine a_aload_n (z := 84) A dX5_productDown_12 rfl ?_
      refine gf_X5_28 (r := 91) A dX5_productDown_13 rfl (by decide) rfl ?_
      refine a_aload_n (z := 84) A dX5_productDown_16 rfl ?_
      refine gf_X5_71 (r := 105) A dX5_productDown_17 rfl (by decide) rfl ?_
      refine a_iload (z := (i : Int)) A dX5_productDown_20 rfl ?_
      refine a_iaload (i := (i : Int)) (x := M 105 i) A dX5_productDown_22 rfl (by decide) (by decide) (by omega) rfl ?_
      refine a_iaload (i := (M 105 i)) (x := M 91 ((M 105 i).toNat)) A dX5_productDown_23 rfl (by decide) (by decide) (by omega) rfl ?_
      refine a_i2l A dX5_productDown_24 (by omega) ?_
      refine a_lmul (x := (prodZ (fun k => M 91 (M 105 k).toNat) i)) (y := (M 91 ((M 105 i).toNat))) A dX5_productDown_25 ?_
      refine a_lstore_n (lv' := [.ref 84, vi (N : Int), vl ((prodZ (fun k => M 91 (M 105 k).toNat) i) * (M 91 ((M 105 i).toNat))), jk, vi (i : Int)]) A dX5_productDown_26 (by decide) rfl ?_
      refine a_iinc (z := (i : Int)) (lv' := [.ref 84, vi (N : Int), vl ((prodZ (fun k => M 91 (M 105 k).toNat) i) * (M 91 ((M 105 i).toNat))), jk, vi ((i : Int) + 1)]) A dX5_productDown_27 rfl (by decide) rfl ?_
      refine a_goto (tgt := 5) A dX5_productDown_30 (by decide) ?_
      exact ih (i + 1) (by omega) (by omega)
set_option maxRecDepth 100000 in
set_option maxHeartbeats 4000000 in
theorem c_X5_productDown (G : GG) (l : Launch) (N : Nat) (M : MM) (hN : N ≤ 5) (hr : ∀ k, k < N → 0 ≤ M 105 k ∧ M 105 k < 40) (hv : ∀ k, k < N → I32 (M 91 (M 105 k).toNat)) : CMl G l yX5_productDown cX5_productDown 5 (some .long) 1 [.ref 84, vi (N : Int)] M (fun z M' => M' = M ∧ z = prodZ (fun k => M 91 (M 105 k).toNat) N) := by
  refine CT.intro (by decide) (Nat.le_of_ble_eq_true rfl) (fun E hE A T0 => ?_)
  subst hE
  refine a_lconst1 A dX5_productDown_0 ?_
  refine a_lstore_n (lv' := [.ref 84, vi (N : Int), vl 1, jk, jk]) A dX5_productDown_1 (by decide) rfl ?_
  refine a_iconst A dX5_productDown_2 ?_
  refine a_istore (lv' := [.ref 84, vi (N : Int), vl 1, jk, vi 0]) A dX5_productDown_3 (by decide) rfl ?_
  exact pd_loop5 A T0 N M hN hr hv ⟨rfl, rfl⟩ (N + 1) 0 (by omega) (by omega)
set_option maxRecDepth 100000 in
set_option maxHeartbeats 4000000 in
theorem ison_loop5 {G : GG} {E : EE} {P : Int → MM → Prop} (A : AmM G E cX5_isOn 4 yX5_isOn.cls 1) (T0 : RT E G yX5_isOn 108 0 0 (some .boolean) (fun r rf' M' => rf' = rF ∧ ∃ z, r = some (vi z) ∧ P z M')) (N : Nat) (v : Int) (M : MM) (hN : N ≤ 5) (hv0 : I32 v) (hr : ∀ k, k < N → 0 ≤ M 105 k ∧ M 105 k < 40) (hv : ∀ k, k < N → I32 (M 87 (M 105 k).toNat)) (hp1 : (∃ k, k < N ∧ M 87 (M 105 k).toNat = v) → P 1 M) (hp0 : (¬ ∃ k, k < N ∧ M 87 (M 105 k).toNat = v) → P 0 M) : ∀ (n : Nat) (i : Nat), N - i < n → i ≤ N → (∀ k, k < i → M 87 (M 105 k).toNat ≠ v) → AM G E 4 2 [.ref 84, vi (N : Int), vi v, vi (i : Int)] [] M := by
  intro n
  induction n with
  | zero => intro i hn hi hq; exfalso; omega
  | succ n ih =>
    intro i hn hi hq
    have hr0 : i < N → 0 ≤ M 105 i ∧ M 105 i < 40 := hr i
    have hvi : i < N → I32 (M 87 (M 105 i).toNat) := hv i
    refine a_iload_n (z := (i : Int)) A dX5_isOn_2 rfl ?_
    refine a_iload_n (z := (N : Int)) A dX5_isOn_3 rfl ?_
    refine a_icmp_ge (tgt := 30) A dX5_isOn_4 (by decide) (by omega) (by omega) (fun h4 => ?_) (fun h4 => ?_)
    · refine a_iconst A dX5_isOn_30 ?_
      exact m_zreturn A T0 dX5_isOn_31 (by first | exact Or.inl rfl | exact Or.inr rfl | omega) (hp0 (fun q => by obtain ⟨k, q1, q2⟩ := q; exact hq k (by omega) q2))
    · refine a_aload_n (z := 84) A dX5_isOn_7 rfl ?_
      refine gf_X5_16 (r := 87) A dX5_isOn_8 rfl (by decide) rfl ?_
      refine a_aload_n (z := 84) A dX5_isOn_11 rfl ?_
      refine gf_X5_71 (r := 105) A dX5_isOn_12 rfl (by decide) rfl ?_
      refine a_iload_n (z := (i : Int)) A dX5_isOn_15 rfl ?_
      refine a_iaload (i := (i : Int)) (x := M 105 i) A dX5_isOn_16 rfl (by decide) (by decide) (by omega) rfl ?_
      refine a_iaload (i := (M 105 i)) (x := M 87 ((M 105 i).toNat)) A dX5_isOn_17 rfl (by decide) (by decide) (by omega) rfl ?_
      refine a_iload_n (z := v) A dX5_isOn_18 rfl ?_
      refine a_icmp_ne (tgt := 24) A dX5_isOn_19 (by decide) (by omega) (by omega) (fun h19 => ?_) (fun h19 => ?_)
      · refine a_iinc (z := (i : Int)) (lv' := [.ref 84, vi (N : Int), vi v, vi ((i : Int) + 1)]) A dX5_isOn_24 rfl (by decide) rfl ?_
        refine a_goto (tgt := 2) A dX5_isOn_27 (by decide) ?_
        exact ih (i + 1) (by omega) (by omega) (lt_s hq h19)
      · refine a_iconst A dX5_isOn_22 ?_
        exact m_zreturn A T0 dX5_isOn_23 (by first | exact Or.inl rfl | exact Or.inr rfl | omega) (hp1 ⟨i, by omega, h19⟩)
set_option maxRecDepth 100000 in
set_option maxHeartbeats 4000000 in
theorem c_X5_isOn (G : GG) (l : Launch) (N : Nat) (v : Int) (M : MM) (hN : N ≤ 5) (hv0 : I32 v) (hr : ∀ k, k < N → 0 ≤ M 105 k ∧ M 105 k < 40) (hv : ∀ k, k < N → I32 (M 87 (M 105 k).toNat)) : CMi G l yX5_isOn cX5_isOn 4 (some .boolean) 1 [.ref 84, vi (N : Int), vi v] M (fun z M' => M' = M ∧ ((z = 1 ∧ ∃ k, k < N ∧ M 87 (M 105 k).toNat = v) ∨ (z = 0 ∧ ¬ ∃ k, k < N ∧ M 87 (M 105 k).toNat = v))) := by
  refine CT.intro (by decide) (Nat.le_of_ble_eq_true rfl) (fun E hE A T0 => ?_)
  subst hE
  refine a_iconst A dX5_isOn_0 ?_
  refine a_istore_n (lv' := [.ref 84, vi (N : Int), vi v, vi 0]) A dX5_isOn_1 (by decide) rfl ?_
  exact ison_loop5 A T0 N v M hN hv0 hr hv (fun q => ⟨rfl, Or.inl ⟨rfl, q⟩⟩) (fun q => ⟨rfl, Or.inr ⟨rfl, q⟩⟩) (N + 1) 0 (by omega) (by omega) (fun k hk => by omega)
end
section
/-- the row at 105 comes before the best one at 106, place by place -/
def LX (M : MM) (N : Nat) : Prop := ∃ k, k < N ∧ (∀ j, j < k → M 105 j = M 106 j) ∧ M 105 k < M 106 k
def BT (M : MM) (N : Nat) : Prop := M 84 27 = 0 ∨ M 84 28 * prodZ (fun k => M 91 (M 105 k).toNat) N < prodZ (fun k => M 90 (M 105 k).toNat) N * M 84 29 ∨ (prodZ (fun k => M 90 (M 105 k).toNat) N * M 84 29 = M 84 28 * prodZ (fun k => M 91 (M 105 k).toNat) N ∧ ((N : Int) < M 84 27 ∨ ((N : Int) = M 84 27 ∧ LX M N)))
def tkM (M : MM) (N : Nat) : MM := cp2 (up2 (up2 (up2 M 84 27 N) 84 28 (prodZ (fun k => M 90 (M 105 k).toNat) N)) 84 29 (prodZ (fun k => M 91 (M 105 k).toNat) N)) 105 106 N
theorem cp2_0 (M : MM) (a b : Nat) : cp2 M a b 0 = M := by
  funext c j
  unfold cp2
  split
  · simp
  · rfl
theorem cp2_succ (M : MM) {a b i : Nat} (h : a ≠ b) : up2 (cp2 M a b i) b i (M a i) = cp2 M a b (i + 1) := by
  funext c j
  by_cases hc : c = b
  · subst hc
    simp only [up2, cp2, if_true]
    by_cases hj : j = i
    · subst hj
      rw [if_pos rfl, if_pos (by omega)]
    · rw [if_neg hj]
      by_cases h2 : j < i
      · rw [if_pos h2, if_pos (by omega)]
      · rw [if_neg h2, if_neg (by omega)]
  · simp [up2, cp2, hc]
theorem prodZ_bd {f : Nat → Int} {n : Nat} (hn : n ≤ 5) (h : ∀ k, k < n → 1 ≤ f k ∧ f k ≤ 9) : 1 ≤ prodZ f n ∧ prodZ f n ≤ 59049 := by
  have key : ∀ m, m ≤ n → 1 ≤ prodZ f m ∧ prodZ f m ≤ 9 ^ m := by
    intro m
    induction m with
    | zero => intro _; simp [prodZ]
    | succ m ih =>
      intro hm
      have h1 := ih (by omega)
      have h2 := h m (by omega)
      have h3 := mul_bd (a := prodZ f m) (b := f m) (A := 9 ^ m) (B := 9) (by omega) (by omega)
      have h4 := Int.mul_le_mul h1.1 h2.1 (by omega) (by omega)
      simp only [prodZ]
      rw [Int.pow_succ]
      omega
  have h1 := key n (Nat.le_refl _)
  have h2 : (9 : Int) ^ n ≤ 59049 := by
    match n, hn with
    | 0, _ => decide
    | 1, _ => decide
    | 2, _ => decide
    | 3, _ => decide
    | 4, _ => decide
    | 5, _ => decide
  omega
set_option maxRecDepth 100000 in
set_option maxHeartbeats 4000000 in
theorem tk_cp5 {G : GG} {E : EE} {P : MM → Prop} (A : AmM G E cX5_takes 8 yX5_takes.cls 2) (T0 : RT E G yX5_takes 108 0 0 none (fun r rf' M' => rf' = rF ∧ r = none ∧ P M')) (N : Nat) (M : MM) (a b : Int) (z : Int) (hN : N ≤ 5) (hp : P (cp2 M 105 106 N)) : ∀ (n : Nat) (i : Nat), N - i < n → i ≤ N → AM G E 8 175 [.ref 84, vi (N : Int), vl a, jk, vl b, jk, vi z, vi (i : Int)] [] (cp2 M 105 106 i) := by
  intro n
  induction n with
  | zero => intro i hn hi; exfalso; omega
  | succ n ih =>
    intro i hn hi
    refine a_iload (z := (i : Int)) A dX5_takes_175 rfl ?_
    refine a_iload_n (z := (N : Int)) A dX5_takes_177 rfl ?_
    refine a_icmp_ge (tgt := 201) A dX5_takes_178 (by decide) (by omega) (by omega) (fun h178 => ?_) (fun h178 => ?_)
    · exact m_return A T0 dX5_takes_201 (by rw [show N = i by omega] at hp; exact hp)
    · refine a_aload_n (z := 84) A dX5_takes_181 rfl ?_
      refine gf_X5_74 (r := 106) A dX5_takes_182 rfl (by decide) rfl ?_
      refine a_iload (z := (i : Int)) A dX5_takes_185 rfl ?_
      refine a_aload_n (z := 84) A dX5_takes_187 rfl ?_
      refine gf_X5_71 (r := 105) A dX5_takes_188 rfl (by decide) rfl ?_
      refine a_iload (z := (i : Int)) A dX5_takes_191 rfl ?_
      refine a_iaload (i := (i : Int)) (x := M 105 i) A dX5_takes_193 rfl (by decide) (by decide) (by omega) rfl ?_
      refine a_iastore (i := (i : Int)) (j := i) A dX5_takes_194 rfl (by decide) (by decide) (by omega) rfl ?_
      refine a_iinc (z := (i : Int)) (lv' := [.ref 84, vi (N : Int), vl a, jk, vl b, jk, vi z, vi ((i : Int) + 1)]) A dX5_takes_195 rfl (by decide) rfl ?_
      refine a_goto (tgt := 175) A dX5_takes_198 (by decide) ?_
      rw [cp2_succ M (by decide)]
      exact ih (i + 1) (by omega) (by omega)
set_option maxRecDepth 100000 in
set_option maxHeartbeats 4000000 in
theorem tk_tail5 {G : GG} {E : EE} {P : MM → Prop} (A : AmM G E cX5_takes 8 yX5_takes.cls 2) (T0 : RT E G yX5_takes 108 0 0 none (fun r rf' M' => rf' = rF ∧ r = none ∧ P M')) (N : Nat) (M : MM) (hN : N ≤ 5) (hp1 : BT M N → P (tkM M N)) (hp0 : ¬ BT M N → P M) (z : Int) (w : Value) (hz : (z = 1 ∧ BT M N) ∨ (z = 0 ∧ ¬ BT M N)) : AM G E 8 151 [.ref 84, vi (N : Int), vl (prodZ (fun k => M 90 (M 105 k).toNat) N), jk, vl (prodZ (fun k => M 91 (M 105 k).toNat) N), jk, vi z, w] [] M := by
  refine a_iload (z := z) A dX5_takes_151 rfl ?_
  refine a_if_eq (tgt := 201) A dX5_takes_153 (by decide) (by omega) (fun h153 => ?_) (fun h153 => ?_)
  · exact m_return A T0 dX5_takes_201 (by rcases hz with hz | hz <;> first | exact hp0 hz.2 | omega)
  · refine a_aload_n (z := 84) A dX5_takes_156 rfl ?_
    refine a_iload_n (z := (N : Int)) A dX5_takes_157 rfl ?_
    refine pf_X5_151 A dX5_takes_158 rfl (by decide) ?_
    refine a_aload_n (z := 84) A dX5_takes_161 rfl ?_
    refine a_lload_n (z := (prodZ (fun k => M 90 (M 105 k).toNat) N)) A dX5_takes_162 rfl ?_
    refine pf_X5_157 A dX5_takes_163 rfl (by decide) ?_
    refine a_aload_n (z := 84) A dX5_takes_166 rfl ?_
    refine a_lload (z := (prodZ (fun k => M 91 (M 105 k).toNat) N)) A dX5_takes_167 rfl ?_
    refine pf_X5_154 A dX5_takes_169 rfl (by decide) ?_
    refine a_iconst A dX5_takes_172 ?_
    refine a_istore (lv' := [.ref 84, vi (N : Int), vl (prodZ (fun k => M 90 (M 105 k).toNat) N), jk, vl (prodZ (fun k => M 91 (M 105 k).toNat) N), jk, vi z, vi 0]) A dX5_takes_173 (by decide) rfl ?_
    rcases hz with hz | hz
    · have := tk_cp5 A T0 N (up2 (up2 (up2 M 84 27 N) 84 28 (prodZ (fun k => M 90 (M 105 k).toNat) N)) 84 29 (prodZ (fun k => M 91 (M 105 k).toNat) N)) (prodZ (fun k => M 90 (M 105 k).toNat) N) (prodZ (fun k => M 91 (M 105 k).toNat) N) z hN (hp1 hz.2) (N + 1) 0 (by omega) (by omega)
      rw [cp2_0] at this
      exact this
    · exact absurd hz.1 h153
set_option maxRecDepth 100000 in
set_option maxHeartbeats 4000000 in
theorem tk_lx5 {G : GG} {E : EE}  (A : AmM G E cX5_takes 8 yX5_takes.cls 2)  (N : Nat) (z6 : Int) (M : MM) (hN : 1 ≤ N ∧ N ≤ 5) (hr : ∀ k, k < N → 0 ≤ M 105 k ∧ M 105 k < 40) (hp9 : ∀ k, k < N → 1 ≤ M 90 (M 105 k).toNat ∧ M 90 (M 105 k).toNat ≤ 9) (hq9 : ∀ k, k < N → 1 ≤ M 91 (M 105 k).toNat ∧ M 91 (M 105 k).toNat ≤ 9) (hbm : 0 ≤ M 84 27 ∧ M 84 27 ≤ 5) (hbe : ∀ k : Nat, (k : Int) < M 84 27 → I32 (M 106 k)) (hbu : 0 ≤ M 84 28 ∧ M 84 28 ≤ 59049) (hbd : 0 ≤ M 84 29 ∧ M 84 29 ≤ 59049) (hk : ∀ (z : Int) (w : Value), (z = 1 ∧ LX M N) ∨ (z = 0 ∧ ¬ LX M N) → AM G E 8 151 [.ref 84, vi (N : Int), vl (prodZ (fun k => M 90 (M 105 k).toNat) N), jk, vl (prodZ (fun k => M 91 (M 105 k).toNat) N), jk, vi z, w] [] M) (hn2 : (N : Int) = M 84 27) : ∀ (n : Nat) (i : Nat), N - i < n → i ≤ N → (∀ j, j < i → M 105 j = M 106 j) → AM G E 8 92 [.ref 84, vi (N : Int), vl (prodZ (fun k => M 90 (M 105 k).toNat) N), jk, vl (prodZ (fun k => M 91 (M 105 k).toNat) N), jk, vi z6, vi (i : Int)] [] M := by
  intro n
  induction n with
  | zero => intro i hn hi hq; exfalso; omega
  | succ n ih =>
    intro i hn hi hq
    have hr0 : i < N → 0 ≤ M 105 i ∧ M 105 i < 40 := hr i
    have hb0 : i < N → I32 (M 106 i) := fun q => hbe i (by omega)
    refine a_iload (z := (i : Int)) A dX5_takes_92 rfl ?_
    refine a_iload_n (z := (N : Int)) A dX5_takes_94 rfl ?_
    refine a_icmp_ge (tgt := 121) A dX5_takes_95 (by decide) (by omega) (by omega) (fun h95 => ?_) (fun h95 => ?_)
    · refine a_iload (z := (i : Int)) A dX5_takes_121 rfl ?_
      refine a_iload_n (z := (N : Int)) A dX5_takes_123 rfl ?_
      refine a_icmp_ge (tgt := 148) A dX5_takes_124 (by decide) (by omega) (by omega) (fun h124 => ?_) (fun h124 => ?_)
      · refine a_iconst A dX5_takes_148 ?_
        refine a_istore (lv' := [.ref 84, vi (N : Int), vl (prodZ (fun k => M 90 (M 105 k).toNat) N), jk, vl (prodZ (fun k => M 91 (M 105 k).toNat) N), jk, vi 0, vi (i : Int)]) A dX5_takes_149 (by decide) rfl ?_
        exact hk 0 _ (Or.inr ⟨rfl, fun q => by
          obtain ⟨k, q1, q2, q3⟩ := q
          rcases Nat.lt_or_ge k i with c | c
          · have := hq k c; omega
          · rcases Nat.lt_or_ge i k with c2 | c2
            · have := q2 i c2; omega
            · have e : k = i := by omega
              subst e; omega⟩)
      · refine a_aload_n (z := 84) A dX5_takes_127 rfl ?_
        refine gf_X5_71 (r := 105) A dX5_takes_128 rfl (by decide) rfl ?_
        refine a_iload (z := (i : Int)) A dX5_takes_131 rfl ?_
        refine a_iaload (i := (i : Int)) (x := M 105 i) A dX5_takes_133 rfl (by decide) (by decide) (by omega) rfl ?_
        refine a_aload_n (z := 84) A dX5_takes_134 rfl ?_
        refine gf_X5_74 (r := 106) A dX5_takes_135 rfl (by decide) rfl ?_
        refine a_iload (z := (i : Int)) A dX5_takes_138 rfl ?_
        refine a_iaload (i := (i : Int)) (x := M 106 i) A dX5_takes_140 rfl (by decide) (by decide) (by omega) rfl ?_
        refine a_icmp_ge (tgt := 148) A dX5_takes_141 (by decide) (by omega) (by omega) (fun h141 => ?_) (fun h141 => ?_)
        · refine a_iconst A dX5_takes_148 ?_
          refine a_istore (lv' := [.ref 84, vi (N : Int), vl (prodZ (fun k => M 90 (M 105 k).toNat) N), jk, vl (prodZ (fun k => M 91 (M 105 k).toNat) N), jk, vi 0, vi (i : Int)]) A dX5_takes_149 (by decide) rfl ?_
          exact hk 0 _ (Or.inr ⟨rfl, fun q => by
            obtain ⟨k, q1, q2, q3⟩ := q
            rcases Nat.lt_or_ge k i with c | c
            · have := hq k c; omega
            · rcases Nat.lt_or_ge i k with c2 | c2
              · have := q2 i c2; omega
              · have e : k = i := by omega
                subst e; omega⟩)
        · refine a_iconst A dX5_takes_144 ?_
          refine a_goto (tgt := 149) A dX5_takes_145 (by decide) ?_
          refine a_istore (lv' := [.ref 84, vi (N : Int), vl (prodZ (fun k => M 90 (M 105 k).toNat) N), jk, vl (prodZ (fun k => M 91 (M 105 k).toNat) N), jk, vi 1, vi (i : Int)]) A dX5_takes_149 (by decide) rfl ?_
          exact hk 1 _ (Or.inl ⟨rfl, i, by omega, hq, by omega⟩)
    · refine a_aload_n (z := 84) A dX5_takes_98 rfl ?_
      refine gf_X5_71 (r := 105) A dX5_takes_99 rfl (by decide) rfl ?_
      refine a_iload (z := (i : Int)) A dX5_takes_102 rfl ?_
      refine a_iaload (i := (i : Int)) (x := M 105 i) A dX5_takes_104 rfl (by decide) (by decide) (by omega) rfl ?_
      refine a_aload_n (z := 84) A dX5_takes_105 rfl ?_
      refine gf_X5_74 (r := 106) A dX5_takes_106 rfl (by decide) rfl ?_
      refine a_iload (z := (i : Int)) A dX5_takes_109 rfl ?_
      refine a_iaload (i := (i : Int)) (x := M 106 i) A dX5_takes_111 rfl (by decide) (by decide) (by omega) rfl ?_
      refine a_icmp_ne (tgt := 121) A dX5_takes_112 (by decide) (by omega) (by omega) (fun h112 => ?_) (fun h112 => ?_)
      · refine a_iload (z := (i : Int)) A dX5_takes_121 rfl ?_
        refine a_iload_n (z := (N : Int)) A dX5_takes_123 rfl ?_
        refine a_icmp_ge (tgt := 148) A dX5_takes_124 (by decide) (by omega) (by omega) (fun h124 => ?_) (fun h124 => ?_)
        · refine a_iconst A dX5_takes_148 ?_
          refine a_istore (lv' := [.ref 84, vi (N : Int), vl (prodZ (fun k => M 90 (M 105 k).toNat) N), jk, vl (prodZ (fun k => M 91 (M 105 k).toNat) N), jk, vi 0, vi (i : Int)]) A dX5_takes_149 (by decide) rfl ?_
          exact hk 0 _ (Or.inr ⟨rfl, fun q => by
            obtain ⟨k, q1, q2, q3⟩ := q
            rcases Nat.lt_or_ge k i with c | c
            · have := hq k c; omega
            · rcases Nat.lt_or_ge i k with c2 | c2
              · have := q2 i c2; omega
              · have e : k = i := by omega
                subst e; omega⟩)
        · refine a_aload_n (z := 84) A dX5_takes_127 rfl ?_
          refine gf_X5_71 (r := 105) A dX5_takes_128 rfl (by decide) rfl ?_
          refine a_iload (z := (i : Int)) A dX5_takes_131 rfl ?_
          refine a_iaload (i := (i : Int)) (x := M 105 i) A dX5_takes_133 rfl (by decide) (by decide) (by omega) rfl ?_
          refine a_aload_n (z := 84) A dX5_takes_134 rfl ?_
          refine gf_X5_74 (r := 106) A dX5_takes_135 rfl (by decide) rfl ?_
          refine a_iload (z := (i : Int)) A dX5_takes_138 rfl ?_
          refine a_iaload (i := (i : Int)) (x := M 106 i) A dX5_takes_140 rfl (by decide) (by decide) (by omega) rfl ?_
          refine a_icmp_ge (tgt := 148) A dX5_takes_141 (by decide) (by omega) (by omega) (fun h141 => ?_) (fun h141 => ?_)
          · refine a_iconst A dX5_takes_148 ?_
            refine a_istore (lv' := [.ref 84, vi (N : Int), vl (prodZ (fun k => M 90 (M 105 k).toNat) N), jk, vl (prodZ (fun k => M 91 (M 105 k).toNat) N), jk, vi 0, vi (i : Int)]) A dX5_takes_149 (by decide) rfl ?_
            exact hk 0 _ (Or.inr ⟨rfl, fun q => by
              obtain ⟨k, q1, q2, q3⟩ := q
              rcases Nat.lt_or_ge k i with c | c
              · have := hq k c; omega
              · rcases Nat.lt_or_ge i k with c2 | c2
                · have := q2 i c2; omega
                · have e : k = i := by omega
                  subst e; omega⟩)
          · refine a_iconst A dX5_takes_144 ?_
            refine a_goto (tgt := 149) A dX5_takes_145 (by decide) ?_
            refine a_istore (lv' := [.ref 84, vi (N : Int), vl (prodZ (fun k => M 90 (M 105 k).toNat) N), jk, vl (prodZ (fun k => M 91 (M 105 k).toNat) N), jk, vi 1, vi (i : Int)]) A dX5_takes_149 (by decide) rfl ?_
            exact hk 1 _ (Or.inl ⟨rfl, i, by omega, hq, by omega⟩)
      · refine a_iinc (z := (i : Int)) (lv' := [.ref 84, vi (N : Int), vl (prodZ (fun k => M 90 (M 105 k).toNat) N), jk, vl (prodZ (fun k => M 91 (M 105 k).toNat) N), jk, vi z6, vi ((i : Int) + 1)]) A dX5_takes_115 rfl (by decide) rfl ?_
        refine a_goto (tgt := 92) A dX5_takes_118 (by decide) ?_
        exact ih (i + 1) (by omega) (by omega) (lt_s hq h112)
set_option maxRecDepth 100000 in
set_option maxHeartbeats 4000000 in
theorem c_X5_takes (G : GG) (l : Launch) (N : Nat) (M : MM) (hN : 1 ≤ N ∧ N ≤ 5) (hr : ∀ k, k < N → 0 ≤ M 105 k ∧ M 105 k < 40) (hp9 : ∀ k, k < N → 1 ≤ M 90 (M 105 k).toNat ∧ M 90 (M 105 k).toNat ≤ 9) (hq9 : ∀ k, k < N → 1 ≤ M 91 (M 105 k).toNat ∧ M 91 (M 105 k).toNat ≤ 9) (hbm : 0 ≤ M 84 27 ∧ M 84 27 ≤ 5) (hbe : ∀ k : Nat, (k : Int) < M 84 27 → I32 (M 106 k)) (hbu : 0 ≤ M 84 28 ∧ M 84 28 ≤ 59049) (hbd : 0 ≤ M 84 29 ∧ M 84 29 ≤ 59049) : CMv G l yX5_takes cX5_takes 8 none 2 [.ref 84, vi (N : Int)] M (fun M' => (BT M N ∧ M' = tkM M N) ∨ (¬ BT M N ∧ M' = M)) := by
  refine CT.intro (by decide) (Nat.le_of_ble_eq_true rfl) (fun E hE A T0 => ?_)
  subst hE
  have hpa := prodZ_bd (f := fun k => M 90 (M 105 k).toNat) hN.2 hp9
  have hpb := prodZ_bd (f := fun k => M 91 (M 105 k).toNat) hN.2 hq9
  have hm1 := mul_bd (a := (prodZ (fun k => M 90 (M 105 k).toNat) N)) (b := M 84 29) (A := 59049) (B := 59049) (by omega) (by omega)
  have hm2 := mul_bd (a := M 84 28) (b := (prodZ (fun k => M 91 (M 105 k).toNat) N)) (A := 59049) (B := 59049) (by omega) (by omega)
  refine a_aload_n (z := 84) A dX5_takes_0 rfl ?_
  refine a_iload_n (z := (N : Int)) A dX5_takes_1 rfl ?_
  refine m_invVl A (c_X5_productUp G _ N M hN.2 hr (fun k hk => by have := hp9 k hk; omega)) (by decide) mi_X5_productUp mv_X5_productUp cs_X5_144 cf5 dX5_takes_2 rfl (by decide) rfl rfl (Nat.le_of_ble_eq_true rfl) (fun z2 M2 h2 => ?_)
  obtain ⟨e2, rfl⟩ := h2
  have e2 := e2.symm
  subst e2
  refine a_lstore_n (lv' := [.ref 84, vi (N : Int), vl (prodZ (fun k => M 90 (M 105 k).toNat) N), jk, jk, jk, jk, jk]) A dX5_takes_5 (by decide) rfl ?_
  refine a_aload_n (z := 84) A dX5_takes_6 rfl ?_
  refine a_iload_n (z := (N : Int)) A dX5_takes_7 rfl ?_
  refine m_invVl A (c_X5_productDown G _ N M hN.2 hr (fun k hk => by have := hq9 k hk; omega)) (by decide) mi_X5_productDown mv_X5_productDown cs_X5_148 cf5 dX5_takes_8 rfl (by decide) rfl rfl (Nat.le_of_ble_eq_true rfl) (fun z8 M8 h8 => ?_)
  obtain ⟨e8, rfl⟩ := h8
  have e8 := e8.symm
  subst e8
  refine a_lstore (lv' := [.ref 84, vi (N : Int), vl (prodZ (fun k => M 90 (M 105 k).toNat) N), jk, vl (prodZ (fun k => M 91 (M 105 k).toNat) N), jk, jk, jk]) A dX5_takes_11 (by decide) rfl ?_
  refine a_aload_n (z := 84) A dX5_takes_13 rfl ?_
  refine gf_X5_151 (x := M 84 27) A dX5_takes_14 rfl (by decide) rfl ?_
  refine a_if_eq (tgt := 37) A dX5_takes_17 (by decide) (by omega) (fun h17 => ?_) (fun h17 => ?_)
  · refine a_iconst A dX5_takes_37 ?_
    refine a_goto (tgt := 42) A dX5_takes_38 (by decide) ?_
    refine a_istore (lv' := [.ref 84, vi (N : Int), vl (prodZ (fun k => M 90 (M 105 k).toNat) N), jk, vl (prodZ (fun k => M 91 (M 105 k).toNat) N), jk, vi 1, jk]) A dX5_takes_42 (by decide) rfl ?_
    refine a_iload (z := 1) A dX5_takes_44 rfl ?_
    refine a_if_ne (tgt := 151) A dX5_takes_46 (by decide) (by omega) (fun h46 => ?_) (fun h46 => ?_)
    · refine tk_tail5 A T0 N M hN.2 (fun q => Or.inl ⟨q, rfl⟩) (fun q => Or.inr ⟨q, rfl⟩) 1 _ ?_
      unfold BT
      omega
    · refine a_lload_n (z := (prodZ (fun k => M 90 (M 105 k).toNat) N)) A dX5_takes_49 rfl ?_
      refine a_aload_n (z := 84) A dX5_takes_50 rfl ?_
      refine gf_X5_154 (x := M 84 29) A dX5_takes_51 rfl (by decide) rfl ?_
      refine a_lmul (x := (prodZ (fun k => M 90 (M 105 k).toNat) N)) (y := (M 84 29)) A dX5_takes_54 ?_
      refine a_aload_n (z := 84) A dX5_takes_55 rfl ?_
      refine gf_X5_157 (x := M 84 28) A dX5_takes_56 rfl (by decide) rfl ?_
      refine a_lload (z := (prodZ (fun k => M 91 (M 105 k).toNat) N)) A dX5_takes_59 rfl ?_
      refine a_lmul (x := (M 84 28)) (y := (prodZ (fun k => M 91 (M 105 k).toNat) N)) A dX5_takes_61 ?_
      refine a_lcmp_ne (tgt := 151) A dX5_takes_62 dX5_takes_63 (by decide) (by omega) (by omega) (fun h62 => ?_) (fun h62 => ?_)
      · refine tk_tail5 A T0 N M hN.2 (fun q => Or.inl ⟨q, rfl⟩) (fun q => Or.inr ⟨q, rfl⟩) 1 _ ?_
        unfold BT
        omega
      · refine a_iload_n (z := (N : Int)) A dX5_takes_66 rfl ?_
        refine a_aload_n (z := 84) A dX5_takes_67 rfl ?_
        refine gf_X5_151 (x := M 84 27) A dX5_takes_68 rfl (by decide) rfl ?_
        refine a_icmp_ge (tgt := 78) A dX5_takes_71 (by decide) (by omega) (by omega) (fun h71 => ?_) (fun h71 => ?_)
        · refine a_iconst A dX5_takes_78 ?_
          refine a_istore (lv' := [.ref 84, vi (N : Int), vl (prodZ (fun k => M 90 (M 105 k).toNat) N), jk, vl (prodZ (fun k => M 91 (M 105 k).toNat) N), jk, vi 0, jk]) A dX5_takes_79 (by decide) rfl ?_
          refine a_iload_n (z := (N : Int)) A dX5_takes_81 rfl ?_
          refine a_aload_n (z := 84) A dX5_takes_82 rfl ?_
          refine gf_X5_151 (x := M 84 27) A dX5_takes_83 rfl (by decide) rfl ?_
          refine a_icmp_ne (tgt := 151) A dX5_takes_86 (by decide) (by omega) (by omega) (fun h86 => ?_) (fun h86 => ?_)
          · refine tk_tail5 A T0 N M hN.2 (fun q => Or.inl ⟨q, rfl⟩) (fun q => Or.inr ⟨q, rfl⟩) 0 _ ?_
            unfold BT
            omega
          · refine a_iconst A dX5_takes_89 ?_
            refine a_istore (lv' := [.ref 84, vi (N : Int), vl (prodZ (fun k => M 90 (M 105 k).toNat) N), jk, vl (prodZ (fun k => M 91 (M 105 k).toNat) N), jk, vi 0, vi 0]) A dX5_takes_90 (by decide) rfl ?_
            refine tk_lx5 A N _ M hN hr hp9 hq9 hbm hbe hbu hbd (fun z w hz => tk_tail5 A T0 N M hN.2 (fun q => Or.inl ⟨q, rfl⟩) (fun q => Or.inr ⟨q, rfl⟩) z w ?_) (by omega) (N + 1) 0 (by omega) (by omega) (fun j hj => by omega)
            unfold BT
            rcases hz with ⟨q1, q2⟩ | ⟨q1, q2⟩
            · exact Or.inl ⟨q1, Or.inr (Or.inr ⟨by omega, Or.inr ⟨by omega, q2⟩⟩)⟩
            · refine Or.inr ⟨q1, fun q => ?_⟩
              rcases q with q | q | ⟨q3, q | q⟩
              · omega
              · omega
              · omega
              · exact q2 q.2
        · refine a_iconst A dX5_takes_74 ?_
          refine a_goto (tgt := 79) A dX5_takes_75 (by decide) ?_
          refine a_istore (lv' := [.ref 84, vi (N : Int), vl (prodZ (fun k => M 90 (M 105 k).toNat) N), jk, vl (prodZ (fun k => M 91 (M 105 k).toNat) N), jk, vi 1, jk]) A dX5_takes_79 (by decide) rfl ?_
          refine a_iload_n (z := (N : Int)) A dX5_takes_81 rfl ?_
          refine a_aload_n (z := 84) A dX5_takes_82 rfl ?_
          refine gf_X5_151 (x := M 84 27) A dX5_takes_83 rfl (by decide) rfl ?_
          refine a_icmp_ne (tgt := 151) A dX5_takes_86 (by decide) (by omega) (by omega) (fun h86 => ?_) (fun h86 => ?_)
          · refine tk_tail5 A T0 N M hN.2 (fun q => Or.inl ⟨q, rfl⟩) (fun q => Or.inr ⟨q, rfl⟩) 1 _ ?_
            unfold BT
            omega
          · refine a_iconst A dX5_takes_89 ?_
            refine a_istore (lv' := [.ref 84, vi (N : Int), vl (prodZ (fun k => M 90 (M 105 k).toNat) N), jk, vl (prodZ (fun k => M 91 (M 105 k).toNat) N), jk, vi 1, vi 0]) A dX5_takes_90 (by decide) rfl ?_
            refine tk_lx5 A N _ M hN hr hp9 hq9 hbm hbe hbu hbd (fun z w hz => tk_tail5 A T0 N M hN.2 (fun q => Or.inl ⟨q, rfl⟩) (fun q => Or.inr ⟨q, rfl⟩) z w ?_) (by omega) (N + 1) 0 (by omega) (by omega) (fun j hj => by omega)
            unfold BT
            rcases hz with ⟨q1, q2⟩ | ⟨q1, q2⟩
            · exact Or.inl ⟨q1, Or.inr (Or.inr ⟨by omega, Or.inr ⟨by omega, q2⟩⟩)⟩
            · refine Or.inr ⟨q1, fun q => ?_⟩
              rcases q with q | q | ⟨q3, q | q⟩
              · omega
              · omega
              · omega
              · exact q2 q.2
  · refine a_lload_n (z := (prodZ (fun k => M 90 (M 105 k).toNat) N)) A dX5_takes_20 rfl ?_
    refine a_aload_n (z := 84) A dX5_takes_21 rfl ?_
    refine gf_X5_154 (x := M 84 29) A dX5_takes_22 rfl (by decide) rfl ?_
    refine a_lmul (x := (prodZ (fun k => M 90 (M 105 k).toNat) N)) (y := (M 84 29)) A dX5_takes_25 ?_
    refine a_aload_n (z := 84) A dX5_takes_26 rfl ?_
    refine gf_X5_157 (x := M 84 28) A dX5_takes_27 rfl (by decide) rfl ?_
    refine a_lload (z := (prodZ (fun k => M 91 (M 105 k).toNat) N)) A dX5_takes_30 rfl ?_
    refine a_lmul (x := (M 84 28)) (y := (prodZ (fun k => M 91 (M 105 k).toNat) N)) A dX5_takes_32 ?_
    refine a_lcmp_le (tgt := 41) A dX5_takes_33 dX5_takes_34 (by decide) (by omega) (by omega) (fun h33 => ?_) (fun h33 => ?_)
    · refine a_iconst A dX5_takes_41 ?_
      refine a_istore (lv' := [.ref 84, vi (N : Int), vl (prodZ (fun k => M 90 (M 105 k).toNat) N), jk, vl (prodZ (fun k => M 91 (M 105 k).toNat) N), jk, vi 0, jk]) A dX5_takes_42 (by decide) rfl ?_
      refine a_iload (z := 0) A dX5_takes_44 rfl ?_
      refine a_if_ne (tgt := 151) A dX5_takes_46 (by decide) (by omega) (fun h46 => ?_) (fun h46 => ?_)
      · refine tk_tail5 A T0 N M hN.2 (fun q => Or.inl ⟨q, rfl⟩) (fun q => Or.inr ⟨q, rfl⟩) 0 _ ?_
        unfold BT
        omega
      · refine a_lload_n (z := (prodZ (fun k => M 90 (M 105 k).toNat) N)) A dX5_takes_49 rfl ?_
        refine a_aload_n (z := 84) A dX5_takes_50 rfl ?_
        refine gf_X5_154 (x := M 84 29) A dX5_takes_51 rfl (by decide) rfl ?_
        refine a_lmul (x := (prodZ (fun k => M 90 (M 105 k).toNat) N)) (y := (M 84 29)) A dX5_takes_54 ?_
        refine a_aload_n (z := 84) A dX5_takes_55 rfl ?_
        refine gf_X5_157 (x := M 84 28) A dX5_takes_56 rfl (by decide) rfl ?_
        refine a_lload (z := (prodZ (fun k => M 91 (M 105 k).toNat) N)) A dX5_takes_59 rfl ?_
        refine a_lmul (x := (M 84 28)) (y := (prodZ (fun k => M 91 (M 105 k).toNat) N)) A dX5_takes_61 ?_
        refine a_lcmp_ne (tgt := 151) A dX5_takes_62 dX5_takes_63 (by decide) (by omega) (by omega) (fun h62 => ?_) (fun h62 => ?_)
        · refine tk_tail5 A T0 N M hN.2 (fun q => Or.inl ⟨q, rfl⟩) (fun q => Or.inr ⟨q, rfl⟩) 0 _ ?_
          unfold BT
          omega
        · refine a_iload_n (z := (N : Int)) A dX5_takes_66 rfl ?_
          refine a_aload_n (z := 84) A dX5_takes_67 rfl ?_
          refine gf_X5_151 (x := M 84 27) A dX5_takes_68 rfl (by decide) rfl ?_
          refine a_icmp_ge (tgt := 78) A dX5_takes_71 (by decide) (by omega) (by omega) (fun h71 => ?_) (fun h71 => ?_)
          · refine a_iconst A dX5_takes_78 ?_
            refine a_istore (lv' := [.ref 84, vi (N : Int), vl (prodZ (fun k => M 90 (M 105 k).toNat) N), jk, vl (prodZ (fun k => M 91 (M 105 k).toNat) N), jk, vi 0, jk]) A dX5_takes_79 (by decide) rfl ?_
            refine a_iload_n (z := (N : Int)) A dX5_takes_81 rfl ?_
            refine a_aload_n (z := 84) A dX5_takes_82 rfl ?_
            refine gf_X5_151 (x := M 84 27) A dX5_takes_83 rfl (by decide) rfl ?_
            refine a_icmp_ne (tgt := 151) A dX5_takes_86 (by decide) (by omega) (by omega) (fun h86 => ?_) (fun h86 => ?_)
            · refine tk_tail5 A T0 N M hN.2 (fun q => Or.inl ⟨q, rfl⟩) (fun q => Or.inr ⟨q, rfl⟩) 0 _ ?_
              unfold BT
              omega
            · refine a_iconst A dX5_takes_89 ?_
              refine a_istore (lv' := [.ref 84, vi (N : Int), vl (prodZ (fun k => M 90 (M 105 k).toNat) N), jk, vl (prodZ (fun k => M 91 (M 105 k).toNat) N), jk, vi 0, vi 0]) A dX5_takes_90 (by decide) rfl ?_
              refine tk_lx5 A N _ M hN hr hp9 hq9 hbm hbe hbu hbd (fun z w hz => tk_tail5 A T0 N M hN.2 (fun q => Or.inl ⟨q, rfl⟩) (fun q => Or.inr ⟨q, rfl⟩) z w ?_) (by omega) (N + 1) 0 (by omega) (by omega) (fun j hj => by omega)
              unfold BT
              rcases hz with ⟨q1, q2⟩ | ⟨q1, q2⟩
              · exact Or.inl ⟨q1, Or.inr (Or.inr ⟨by omega, Or.inr ⟨by omega, q2⟩⟩)⟩
              · refine Or.inr ⟨q1, fun q => ?_⟩
                rcases q with q | q | ⟨q3, q | q⟩
                · omega
                · omega
                · omega
                · exact q2 q.2
          · refine a_iconst A dX5_takes_74 ?_
            refine a_goto (tgt := 79) A dX5_takes_75 (by decide) ?_
            refine a_istore (lv' := [.ref 84, vi (N : Int), vl (prodZ (fun k => M 90 (M 105 k).toNat) N), jk, vl (prodZ (fun k => M 91 (M 105 k).toNat) N), jk, vi 1, jk]) A dX5_takes_79 (by decide) rfl ?_
            refine a_iload_n (z := (N : Int)) A dX5_takes_81 rfl ?_
            refine a_aload_n (z := 84) A dX5_takes_82 rfl ?_
            refine gf_X5_151 (x := M 84 27) A dX5_takes_83 rfl (by decide) rfl ?_
            refine a_icmp_ne (tgt := 151) A dX5_takes_86 (by decide) (by omega) (by omega) (fun h86 => ?_) (fun h86 => ?_)
            · refine tk_tail5 A T0 N M hN.2 (fun q => Or.inl ⟨q, rfl⟩) (fun q => Or.inr ⟨q, rfl⟩) 1 _ ?_
              unfold BT
              omega
            · refine a_iconst A dX5_takes_89 ?_
              refine a_istore (lv' := [.ref 84, vi (N : Int), vl (prodZ (fun k => M 90 (M 105 k).toNat) N), jk, vl (prodZ (fun k => M 91 (M 105 k).toNat) N), jk, vi 1, vi 0]) A dX5_takes_90 (by decide) rfl ?_
              refine tk_lx5 A N _ M hN hr hp9 hq9 hbm hbe hbu hbd (fun z w hz => tk_tail5 A T0 N M hN.2 (fun q => Or.inl ⟨q, rfl⟩) (fun q => Or.inr ⟨q, rfl⟩) z w ?_) (by omega) (N + 1) 0 (by omega) (by omega) (fun j hj => by omega)
              unfold BT
              rcases hz with ⟨q1, q2⟩ | ⟨q1, q2⟩
              · exact Or.inl ⟨q1, Or.inr (Or.inr ⟨by omega, Or.inr ⟨by omega, q2⟩⟩)⟩
              · refine Or.inr ⟨q1, fun q => ?_⟩
                rcases q with q | q | ⟨q3, q | q⟩
                · omega
                · omega
                · omega
                · exact q2 q.2
    · refine a_iconst A dX5_takes_37 ?_
      refine a_goto (tgt := 42) A dX5_takes_38 (by decide) ?_
      refine a_istore (lv' := [.ref 84, vi (N : Int), vl (prodZ (fun k => M 90 (M 105 k).toNat) N), jk, vl (prodZ (fun k => M 91 (M 105 k).toNat) N), jk, vi 1, jk]) A dX5_takes_42 (by decide) rfl ?_
      refine a_iload (z := 1) A dX5_takes_44 rfl ?_
      refine a_if_ne (tgt := 151) A dX5_takes_46 (by decide) (by omega) (fun h46 => ?_) (fun h46 => ?_)
      · refine tk_tail5 A T0 N M hN.2 (fun q => Or.inl ⟨q, rfl⟩) (fun q => Or.inr ⟨q, rfl⟩) 1 _ ?_
        unfold BT
        omega
      · refine a_lload_n (z := (prodZ (fun k => M 90 (M 105 k).toNat) N)) A dX5_takes_49 rfl ?_
        refine a_aload_n (z := 84) A dX5_takes_50 rfl ?_
        refine gf_X5_154 (x := M 84 29) A dX5_takes_51 rfl (by decide) rfl ?_
        refine a_lmul (x := (prodZ (fun k => M 90 (M 105 k).toNat) N)) (y := (M 84 29)) A dX5_takes_54 ?_
        refine a_aload_n (z := 84) A dX5_takes_55 rfl ?_
        refine gf_X5_157 (x := M 84 28) A dX5_takes_56 rfl (by decide) rfl ?_
        refine a_lload (z := (prodZ (fun k => M 91 (M 105 k).toNat) N)) A dX5_takes_59 rfl ?_
        refine a_lmul (x := (M 84 28)) (y := (prodZ (fun k => M 91 (M 105 k).toNat) N)) A dX5_takes_61 ?_
        refine a_lcmp_ne (tgt := 151) A dX5_takes_62 dX5_takes_63 (by decide) (by omega) (by omega) (fun h62 => ?_) (fun h62 => ?_)
        · refine tk_tail5 A T0 N M hN.2 (fun q => Or.inl ⟨q, rfl⟩) (fun q => Or.inr ⟨q, rfl⟩) 1 _ ?_
          unfold BT
          omega
        · refine a_iload_n (z := (N : Int)) A dX5_takes_66 rfl ?_
          refine a_aload_n (z := 84) A dX5_takes_67 rfl ?_
          refine gf_X5_151 (x := M 84 27) A dX5_takes_68 rfl (by decide) rfl ?_
          refine a_icmp_ge (tgt := 78) A dX5_takes_71 (by decide) (by omega) (by omega) (fun h71 => ?_) (fun h71 => ?_)
          · refine a_iconst A dX5_takes_78 ?_
            refine a_istore (lv' := [.ref 84, vi (N : Int), vl (prodZ (fun k => M 90 (M 105 k).toNat) N), jk, vl (prodZ (fun k => M 91 (M 105 k).toNat) N), jk, vi 0, jk]) A dX5_takes_79 (by decide) rfl ?_
            refine a_iload_n (z := (N : Int)) A dX5_takes_81 rfl ?_
            refine a_aload_n (z := 84) A dX5_takes_82 rfl ?_
            refine gf_X5_151 (x := M 84 27) A dX5_takes_83 rfl (by decide) rfl ?_
            refine a_icmp_ne (tgt := 151) A dX5_takes_86 (by decide) (by omega) (by omega) (fun h86 => ?_) (fun h86 => ?_)
            · refine tk_tail5 A T0 N M hN.2 (fun q => Or.inl ⟨q, rfl⟩) (fun q => Or.inr ⟨q, rfl⟩) 0 _ ?_
              unfold BT
              omega
            · refine a_iconst A dX5_takes_89 ?_
              refine a_istore (lv' := [.ref 84, vi (N : Int), vl (prodZ (fun k => M 90 (M 105 k).toNat) N), jk, vl (prodZ (fun k => M 91 (M 105 k).toNat) N), jk, vi 0, vi 0]) A dX5_takes_90 (by decide) rfl ?_
              refine tk_lx5 A N _ M hN hr hp9 hq9 hbm hbe hbu hbd (fun z w hz => tk_tail5 A T0 N M hN.2 (fun q => Or.inl ⟨q, rfl⟩) (fun q => Or.inr ⟨q, rfl⟩) z w ?_) (by omega) (N + 1) 0 (by omega) (by omega) (fun j hj => by omega)
              unfold BT
              rcases hz with ⟨q1, q2⟩ | ⟨q1, q2⟩
              · exact Or.inl ⟨q1, Or.inr (Or.inr ⟨by omega, Or.inr ⟨by omega, q2⟩⟩)⟩
              · refine Or.inr ⟨q1, fun q => ?_⟩
                rcases q with q | q | ⟨q3, q | q⟩
                · omega
                · omega
                · omega
                · exact q2 q.2
          · refine a_iconst A dX5_takes_74 ?_
            refine a_goto (tgt := 79) A dX5_takes_75 (by decide) ?_
            refine a_istore (lv' := [.ref 84, vi (N : Int), vl (prodZ (fun k => M 90 (M 105 k).toNat) N), jk, vl (prodZ (fun k => M 91 (M 105 k).toNat) N), jk, vi 1, jk]) A dX5_takes_79 (by decide) rfl ?_
            refine a_iload_n (z := (N : Int)) A dX5_takes_81 rfl ?_
            refine a_aload_n (z := 84) A dX5_takes_82 rfl ?_
            refine gf_X5_151 (x := M 84 27) A dX5_takes_83 rfl (by decide) rfl ?_
            refine a_icmp_ne (tgt := 151) A dX5_takes_86 (by decide) (by omega) (by omega) (fun h86 => ?_) (fun h86 => ?_)
            · refine tk_tail5 A T0 N M hN.2 (fun q => Or.inl ⟨q, rfl⟩) (fun q => Or.inr ⟨q, rfl⟩) 1 _ ?_
              unfold BT
              omega
            · refine a_iconst A dX5_takes_89 ?_
              refine a_istore (lv' := [.ref 84, vi (N : Int), vl (prodZ (fun k => M 90 (M 105 k).toNat) N), jk, vl (prodZ (fun k => M 91 (M 105 k).toNat) N), jk, vi 1, vi 0]) A dX5_takes_90 (by decide) rfl ?_
              refine tk_lx5 A N _ M hN hr hp9 hq9 hbm hbe hbu hbd (fun z w hz => tk_tail5 A T0 N M hN.2 (fun q => Or.inl ⟨q, rfl⟩) (fun q => Or.inr ⟨q, rfl⟩) z w ?_) (by omega) (N + 1) 0 (by omega) (by omega) (fun j hj => by omega)
              unfold BT
              rcases hz with ⟨q1, q2⟩ | ⟨q1, q2⟩
              · exact Or.inl ⟨q1, Or.inr (Or.inr ⟨by omega, Or.inr ⟨by omega, q2⟩⟩)⟩
              · refine Or.inr ⟨q1, fun q => ?_⟩
                rcases q with q | q | ⟨q3, q | q⟩
                · omega
                · omega
                · omega
                · exact q2 q.2
end
section
noncomputable def cif (P : Prop) (a b : MM) : MM := @ite MM P (Classical.propDecidable P) a b
theorem cif_t {P : Prop} {a b : MM} (h : P) : cif P a b = a := @if_pos P (Classical.propDecidable P) h MM a b
theorem cif_f {P : Prop} {a b : MM} (h : ¬ P) : cif P a b = b := @if_neg P (Classical.propDecidable P) h MM a b
/-- the row of N lanes at 105 is weighed -/
noncomputable def tk (M : MM) (N : Nat) : MM := cif (BT M N) (tkM M N) M
theorem tk_of {M M' : MM} {N : Nat} (h : (BT M N ∧ M' = tkM M N) ∨ (¬ BT M N ∧ M' = M)) : M' = tk M N := by
  unfold tk
  rcases h with ⟨h1, h2⟩ | ⟨h1, h2⟩
  · rw [cif_t h1, h2]
  · rw [cif_f h1, h2]
def pU (M : MM) (N : Nat) : Int := prodZ (fun k => M 90 (M 105 k).toNat) N
def pD (M : MM) (N : Nat) : Int := prodZ (fun k => M 91 (M 105 k).toNat) N
noncomputable def vs (g : Int) (M : MM) (N : Nat) : MM := if g = 0 then tk M N else if pD M N < pU M N then tk (up2 (up2 M 84 30 (M 84 30 + 1)) 84 31 (M 84 31 + 1)) N else up2 M 84 30 (M 84 30 + 1)
/-- the post where lane number n of the row must begin -/
def HR (M : MM) (n : Nat) (b : Int) : Int := if n = 0 then b else M 88 (M 105 (n - 1)).toNat
def ON (M : MM) (N : Nat) (v : Int) : Prop := ∃ k, k < N ∧ M 87 (M 105 k).toNat = v
set_option maxRecDepth 100000 in
set_option maxHeartbeats 4000000 in
theorem ga_body5 {G : GG} {E : EE} (A : AmM G E cX5_goAll 7 yX5_goAll.cls 3) (n : Nat) (b e g : Int) (M : MM) (hn : n ≤ 4) (hb : I32 b) (he : I32 e) (hg : g = 0 ∨ g = 1) (hL : 0 ≤ M 86 0 ∧ M 86 0 ≤ 10) (hP : 2 ≤ M 85 0 ∧ M 85 0 ≤ 5) (hW : ∀ i : Nat, (i : Int) < M 86 0 → LW M i) (hr : ∀ k, k < n → 0 ≤ M 105 k ∧ M 105 k < M 86 0) (hi : 0 ≤ M 105 n ∧ M 105 n ≤ M 86 0) (hbm : 0 ≤ M 84 27 ∧ M 84 27 ≤ 5) (hbe : ∀ k : Nat, (k : Int) < M 84 27 → I32 (M 106 k)) (hbu : 0 ≤ M 84 28 ∧ M 84 28 ≤ 59049) (hbd : 0 ≤ M 84 29 ∧ M 84 29 ≤ 59049) (hx : M 105 n = M 86 0 → ∀ w5 w6 : Value, AM G E 7 10 [.ref 84, vi b, vi e, vi g, vi ((n : Int) + (-1)), w5, w6] [] M) (hs : M 105 n < M 86 0 → (M 87 (M 105 n).toNat ≠ HR M n b ∨ (M 88 (M 105 n).toNat ≠ e ∧ (ON M (n + 1) (M 88 (M 105 n).toNat) ∨ (g ≠ 0 ∧ M 88 (M 105 n).toNat ≤ b) ∨ 4 ≤ n))) → ∀ w5 w6 : Value, AM G E 7 10 [.ref 84, vi b, vi e, vi g, vi (n : Int), w5, w6] [] M) (hv : M 105 n < M 86 0 → M 87 (M 105 n).toNat = HR M n b → M 88 (M 105 n).toNat = e → ∀ w5 w6 : Value, AM G E 7 10 [.ref 84, vi b, vi e, vi g, vi (n : Int), w5, w6] [] (vs g M (n + 1))) (hd : M 105 n < M 86 0 → M 87 (M 105 n).toNat = HR M n b → M 88 (M 105 n).toNat ≠ e → ¬ ON M (n + 1) (M 88 (M 105 n).toNat) → (g = 0 ∨ b < M 88 (M 105 n).toNat) → n < 4 → ∀ w5 w6 : Value, AM G E 7 10 [.ref 84, vi b, vi e, vi g, vi ((n : Int) + 1), w5, w6] [] (up2 M 105 (n + 1) (-1))) (w5 w6 : Value) : AM G E 7 26 [.ref 84, vi b, vi e, vi g, vi (n : Int), w5, w6] [] M := by
  have hl0 : M 105 n < M 86 0 → LW M (M 105 n).toNat := fun q => hW _ (by omega)
  have hl2 : M 105 n < M 86 0 → 0 ≤ M 87 (M 105 n).toNat ∧ M 87 (M 105 n).toNat < 5 ∧ 0 < M 88 (M 105 n).toNat ∧ M 88 (M 105 n).toNat < 5 := fun q => by have := hl0 q; unfold LW at this; omega
  have hlp : n ≠ 0 → 0 < M 88 (M 105 (n - 1)).toNat ∧ M 88 (M 105 (n - 1)).toNat < 5 := fun q => by
    have h1 := hr (n - 1) (by omega)
    have h2 := hW (M 105 (n - 1)).toNat (by omega)
    unfold LW at h2
    omega
  have hrp : n ≠ 0 → 0 ≤ M 105 (n - 1) ∧ M 105 (n - 1) < M 86 0 := fun q => hr (n - 1) (by omega)
  have hr1 : M 105 n < M 86 0 → ∀ k, k < n + 1 → 0 ≤ M 105 k ∧ M 105 k < 40 := fun q k hk => by
    rcases Nat.lt_or_ge k n with c | c
    · have := hr k c; omega
    · rw [show k = n by omega]; omega
  have hw1 : M 105 n < M 86 0 → ∀ k, k < n + 1 → LW M (M 105 k).toNat := fun q k hk => by
    rcases Nat.lt_or_ge k n with c | c
    · exact hW _ (by have := hr k c; omega)
    · rw [show k = n by omega]; exact hl0 q
  have hp9 : M 105 n < M 86 0 → ∀ k, k < n + 1 → 1 ≤ M 90 (M 105 k).toNat ∧ M 90 (M 105 k).toNat ≤ 9 := fun q k hk => by have := hw1 q k hk; unfold LW at this; omega
  have hq9 : M 105 n < M 86 0 → ∀ k, k < n + 1 → 1 ≤ M 91 (M 105 k).toNat ∧ M 91 (M 105 k).toNat ≤ 9 := fun q k hk => by have := hw1 q k hk; unfold LW at this; omega
  have hp9z : M 105 n < M 86 0 → ∀ k, k < n + 1 → I32 (M 90 (M 105 k).toNat) := fun q k hk => by have := hp9 q k hk; omega
  have hq9z : M 105 n < M 86 0 → ∀ k, k < n + 1 → I32 (M 91 (M 105 k).toNat) := fun q k hk => by have := hq9 q k hk; omega
  have hpub : M 105 n < M 86 0 → 1 ≤ pU M (n + 1) ∧ pU M (n + 1) ≤ 59049 := fun q => prodZ_bd (by omega) (hp9 q)
  have hpdb : M 105 n < M 86 0 → 1 ≤ pD M (n + 1) ∧ pD M (n + 1) ≤ 59049 := fun q => prodZ_bd (by omega) (hq9 q)
  have hf5 : M 105 n < M 86 0 → ∀ k, k < n + 1 → I32 (M 87 (M 105 k).toNat) := fun q k hk => by have := hw1 q k hk; unfold LW at this; omega
  refine a_aload_n (z := 84) A dX5_goAll_26 rfl ?_
  refine gf_X5_71 (r := 105) A dX5_goAll_27 rfl (by decide) rfl ?_
  refine a_iload (z := (n : Int)) A dX5_goAll_30 rfl ?_
  refine a_iaload (i := (n : Int)) (x := M 105 n) A dX5_goAll_32 rfl (by decide) (by decide) (by omega) rfl ?_
  refine a_aload_n (z := 84) A dX5_goAll_33 rfl ?_
  refine gf_X5_13 (r := 86) A dX5_goAll_34 rfl (by decide) rfl ?_
  refine a_iconst A dX5_goAll_37 ?_
  refine a_iaload (i := 0) (x := M 86 0) A dX5_goAll_38 rfl (by decide) (by decide) (by omega) rfl ?_
  refine a_icmp_lt (tgt := 48) A dX5_goAll_39 (by decide) (by omega) (by omega) (fun h39 => ?_) (fun h39 => ?_)
  · refine a_iload (z := (n : Int)) A dX5_goAll_48 rfl ?_
    refine a_if_ne (tgt := 57) A dX5_goAll_50 (by decide) (by omega) (fun h50 => ?_) (fun h50 => ?_)
    · refine a_aload_n (z := 84) A dX5_goAll_57 rfl ?_
      refine gf_X5_19 (r := 88) A dX5_goAll_58 rfl (by decide) rfl ?_
      refine a_aload_n (z := 84) A dX5_goAll_61 rfl ?_
      refine gf_X5_71 (r := 105) A dX5_goAll_62 rfl (by decide) rfl ?_
      refine a_iload (z := (n : Int)) A dX5_goAll_65 rfl ?_
      refine a_iconst A dX5_goAll_67 ?_
      refine a_isub (x := (n : Int)) (y := 1) A dX5_goAll_68 ?_
      refine a_iaload (i := ((n : Int) - 1)) (x := M 105 (n - 1)) A dX5_goAll_69 rfl (by decide) (by decide) (by omega) (by rw [show ((n : Int) - 1).toNat = n - 1 by omega]) ?_
      refine a_iaload (i := (M 105 (n - 1))) (x := M 88 ((M 105 (n - 1)).toNat)) A dX5_goAll_70 rfl (by decide) (by decide) (by omega) rfl ?_
      refine a_istore (lv' := [.ref 84, vi b, vi e, vi g, vi (n : Int), vi (M 88 ((M 105 (n - 1)).toNat)), w6]) A dX5_goAll_71 (by decide) rfl ?_
      refine a_aload_n (z := 84) A dX5_goAll_73 rfl ?_
      refine gf_X5_19 (r := 88) A dX5_goAll_74 rfl (by decide) rfl ?_
      refine a_aload_n (z := 84) A dX5_goAll_77 rfl ?_
      refine gf_X5_71 (r := 105) A dX5_goAll_78 rfl (by decide) rfl ?_
      refine a_iload (z := (n : Int)) A dX5_goAll_81 rfl ?_
      refine a_iaload (i := (n : Int)) (x := M 105 n) A dX5_goAll_83 rfl (by decide) (by decide) (by omega) rfl ?_
      refine a_iaload (i := (M 105 n)) (x := M 88 ((M 105 n).toNat)) A dX5_goAll_84 rfl (by decide) (by decide) (by omega) rfl ?_
      refine a_istore (lv' := [.ref 84, vi b, vi e, vi g, vi (n : Int), vi (M 88 ((M 105 (n - 1)).toNat)), vi (M 88 ((M 105 n).toNat))]) A dX5_goAll_85 (by decide) rfl ?_
      refine a_aload_n (z := 84) A dX5_goAll_87 rfl ?_
      refine gf_X5_16 (r := 87) A dX5_goAll_88 rfl (by decide) rfl ?_
      refine a_aload_n (z := 84) A dX5_goAll_91 rfl ?_
      refine gf_X5_71 (r := 105) A dX5_goAll_92 rfl (by decide) rfl ?_
      refine a_iload (z := (n : Int)) A dX5_goAll_95 rfl ?_
      refine a_iaload (i := (n : Int)) (x := M 105 n) A dX5_goAll_97 rfl (by decide) (by decide) (by omega) rfl ?_
      refine a_iaload (i := (M 105 n)) (x := M 87 ((M 105 n).toNat)) A dX5_goAll_98 rfl (by decide) (by decide) (by omega) rfl ?_
      refine a_iload (z := (M 88 ((M 105 (n - 1)).toNat))) A dX5_goAll_99 rfl ?_
      refine a_icmp_eq (tgt := 107) A dX5_goAll_101 (by decide) (by omega) (by omega) (fun h101 => ?_) (fun h101 => ?_)
      · refine a_iload (z := (M 88 ((M 105 n).toNat))) A dX5_goAll_107 rfl ?_
        refine a_iload_n (z := e) A dX5_goAll_109 rfl ?_
        refine a_icmp_ne (tgt := 179) A dX5_goAll_110 (by decide) (by omega) (by omega) (fun h110 => ?_) (fun h110 => ?_)
        · refine a_aload_n (z := 84) A dX5_goAll_179 rfl ?_
          refine a_iload (z := (n : Int)) A dX5_goAll_180 rfl ?_
          refine a_iconst A dX5_goAll_182 ?_
          refine a_iadd (x := (n : Int)) (y := 1) A dX5_goAll_183 ?_
          refine a_iload (z := (M 88 ((M 105 n).toNat))) A dX5_goAll_184 rfl ?_
          refine m_invVi A (c_X5_isOn G _ (n + 1) (M 88 ((M 105 n).toNat)) M (by omega) (by omega) (hr1 h39) (hf5 h39)) (by decide) mi_X5_isOn mv_X5_isOn cs_X5_169 cf5 dX5_goAll_186 rfl (by decide) rfl rfl (Nat.le_of_ble_eq_true rfl) (fun z186 M186 h186 => ?_)
          obtain ⟨e186, hc186⟩ := h186
          have e186 := e186.symm
          subst e186
          have hz186 : z186 = 0 ∨ z186 = 1 := by omega
          refine a_if_ne (tgt := 219) A dX5_goAll_189 (by decide) (by omega) (fun h189 => ?_) (fun h189 => ?_)
          · refine a_goto (tgt := 10) A dX5_goAll_219 (by decide) ?_
            refine hs h39 ?_ _ _
            first | (refine Or.inl ?_; unfold HR; first | (rw [if_pos (by omega)]; omega) | (rw [if_neg (by omega)]; omega)) | (refine Or.inr ⟨by omega, ?_⟩; first | (refine Or.inr ?_; omega) | (refine Or.inl ?_; rcases hc186 with c | c <;> first | exact c.2 | omega))
          · refine a_iload_n (z := g) A dX5_goAll_192 rfl ?_
            refine a_if_eq (tgt := 202) A dX5_goAll_193 (by decide) (by omega) (fun h193 => ?_) (fun h193 => ?_)
            · refine a_iload (z := (n : Int)) A dX5_goAll_202 rfl ?_
              refine a_iconst A dX5_goAll_204 ?_
              refine a_icmp_ge (tgt := 219) A dX5_goAll_205 (by decide) (by omega) (by omega) (fun h205 => ?_) (fun h205 => ?_)
              · refine a_goto (tgt := 10) A dX5_goAll_219 (by decide) ?_
                refine hs h39 ?_ _ _
                first | (refine Or.inl ?_; unfold HR; first | (rw [if_pos (by omega)]; omega) | (rw [if_neg (by omega)]; omega)) | (refine Or.inr ⟨by omega, ?_⟩; first | (refine Or.inr ?_; omega) | (refine Or.inl ?_; rcases hc186 with c | c <;> first | exact c.2 | omega))
              · refine a_iinc (z := (n : Int)) (lv' := [.ref 84, vi b, vi e, vi g, vi ((n : Int) + 1), vi (M 88 ((M 105 (n - 1)).toNat)), vi (M 88 ((M 105 n).toNat))]) A dX5_goAll_208 rfl (by decide) rfl ?_
                refine a_aload_n (z := 84) A dX5_goAll_211 rfl ?_
                refine gf_X5_71 (r := 105) A dX5_goAll_212 rfl (by decide) rfl ?_
                refine a_iload (z := ((n : Int) + 1)) A dX5_goAll_215 rfl ?_
                refine a_iconst A dX5_goAll_217 ?_
                refine a_iastore (i := ((n : Int) + 1)) (j := (n + 1)) A dX5_goAll_218 rfl (by decide) (by decide) (by omega) rfl ?_
                refine a_goto (tgt := 10) A dX5_goAll_219 (by decide) ?_
                exact hd h39 (by unfold HR; first | (rw [if_pos (by omega)]; omega) | (rw [if_neg (by omega)]; omega)) (by omega) (fun q => by rcases hc186 with c | c <;> first | omega | exact c.2 q) (by omega) (by omega) _ _
            · refine a_iload (z := (M 88 ((M 105 n).toNat))) A dX5_goAll_196 rfl ?_
              refine a_iload_n (z := b) A dX5_goAll_198 rfl ?_
              refine a_icmp_le (tgt := 219) A dX5_goAll_199 (by decide) (by omega) (by omega) (fun h199 => ?_) (fun h199 => ?_)
              · refine a_goto (tgt := 10) A dX5_goAll_219 (by decide) ?_
                refine hs h39 ?_ _ _
                first | (refine Or.inl ?_; unfold HR; first | (rw [if_pos (by omega)]; omega) | (rw [if_neg (by omega)]; omega)) | (refine Or.inr ⟨by omega, ?_⟩; first | (refine Or.inr ?_; omega) | (refine Or.inl ?_; rcases hc186 with c | c <;> first | exact c.2 | omega))
              · refine a_iload (z := (n : Int)) A dX5_goAll_202 rfl ?_
                refine a_iconst A dX5_goAll_204 ?_
                refine a_icmp_ge (tgt := 219) A dX5_goAll_205 (by decide) (by omega) (by omega) (fun h205 => ?_) (fun h205 => ?_)
                · refine a_goto (tgt := 10) A dX5_goAll_219 (by decide) ?_
                  refine hs h39 ?_ _ _
                  first | (refine Or.inl ?_; unfold HR; first | (rw [if_pos (by omega)]; omega) | (rw [if_neg (by omega)]; omega)) | (refine Or.inr ⟨by omega, ?_⟩; first | (refine Or.inr ?_; omega) | (refine Or.inl ?_; rcases hc186 with c | c <;> first | exact c.2 | omega))
                · refine a_iinc (z := (n : Int)) (lv' := [.ref 84, vi b, vi e, vi g, vi ((n : Int) + 1), vi (M 88 ((M 105 (n - 1)).toNat)), vi (M 88 ((M 105 n).toNat))]) A dX5_goAll_208 rfl (by decide) rfl ?_
                  refine a_aload_n (z := 84) A dX5_goAll_211 rfl ?_
                  refine gf_X5_71 (r := 105) A dX5_goAll_212 rfl (by decide) rfl ?_
                  refine a_iload (z := ((n : Int) + 1)) A dX5_goAll_215 rfl ?_
                  refine a_iconst A dX5_goAll_217 ?_
                  refine a_iastore (i := ((n : Int) + 1)) (j := (n + 1)) A dX5_goAll_218 rfl (by decide) (by decide) (by omega) rfl ?_
                  refine a_goto (tgt := 10) A dX5_goAll_219 (by decide) ?_
                  exact hd h39 (by unfold HR; first | (rw [if_pos (by omega)]; omega) | (rw [if_neg (by omega)]; omega)) (by omega) (fun q => by rcases hc186 with c | c <;> first | omega | exact c.2 q) (by omega) (by omega) _ _
        · refine a_iload_n (z := g) A dX5_goAll_113 rfl ?_
          refine a_if_ne (tgt := 128) A dX5_goAll_114 (by decide) (by omega) (fun h114 => ?_) (fun h114 => ?_)
          · refine a_aload_n (z := 84) A dX5_goAll_128 rfl ?_
            refine a_dup A dX5_goAll_129 rfl ?_
            refine gf_X5_163 (x := M 84 30) A dX5_goAll_130 rfl (by decide) rfl ?_
            refine a_iconst A dX5_goAll_133 ?_
            refine a_iadd (x := (M 84 30)) (y := 1) A dX5_goAll_134 ?_
            refine pf_X5_163 A dX5_goAll_135 rfl (by decide) ?_
            refine a_aload_n (z := 84) A dX5_goAll_138 rfl ?_
            refine a_iload (z := (n : Int)) A dX5_goAll_139 rfl ?_
            refine a_iconst A dX5_goAll_141 ?_
            refine a_iadd (x := (n : Int)) (y := 1) A dX5_goAll_142 ?_
            refine m_invVl A (c_X5_productUp G _ (n + 1) (up2 M 84 30 ((M 84 30) + 1)) (by omega) (hr1 h39) (hp9z h39)) (by decide) mi_X5_productUp mv_X5_productUp cs_X5_144 cf5 dX5_goAll_143 rfl (by decide) rfl rfl (Nat.le_of_ble_eq_true rfl) (fun z143 M143 h143 => ?_)
            obtain ⟨e143, hz143⟩ := h143
            have e143 := e143.symm
            subst e143
            have hz143 : z143 = pU M (n + 1) := hz143
            subst hz143
            refine a_aload_n (z := 84) A dX5_goAll_146 rfl ?_
            refine a_iload (z := (n : Int)) A dX5_goAll_147 rfl ?_
            refine a_iconst A dX5_goAll_149 ?_
            refine a_iadd (x := (n : Int)) (y := 1) A dX5_goAll_150 ?_
            refine m_invVl A (c_X5_productDown G _ (n + 1) (up2 M 84 30 ((M 84 30) + 1)) (by omega) (hr1 h39) (hq9z h39)) (by decide) mi_X5_productDown mv_X5_productDown cs_X5_148 cf5 dX5_goAll_151 rfl (by decide) rfl rfl (Nat.le_of_ble_eq_true rfl) (fun z151 M151 h151 => ?_)
            obtain ⟨e151, hz151⟩ := h151
            have e151 := e151.symm
            subst e151
            have hz151 : z151 = pD M (n + 1) := hz151
            subst hz151
            refine a_lcmp_le (tgt := 219) A dX5_goAll_154 dX5_goAll_155 (by decide) (by have := hpub h39; omega) (by have := hpdb h39; omega) (fun h154 => ?_) (fun h154 => ?_)
            · refine a_goto (tgt := 10) A dX5_goAll_219 (by decide) ?_
              have hvv := hv h39 (by unfold HR; first | (rw [if_pos (by omega)]; omega) | (rw [if_neg (by omega)]; omega)) (by omega) (vi (M 88 ((M 105 (n - 1)).toNat))) (vi (M 88 ((M 105 n).toNat)))
              unfold vs at hvv
              first | rw [if_pos (by omega)] at hvv | rw [if_neg (by omega), if_pos (by omega)] at hvv | rw [if_neg (by omega), if_neg (by omega)] at hvv
              exact hvv
            · refine a_aload_n (z := 84) A dX5_goAll_158 rfl ?_
              refine a_dup A dX5_goAll_159 rfl ?_
              refine gf_X5_166 (x := M 84 31) A dX5_goAll_160 rfl (by decide) rfl ?_
              refine a_iconst A dX5_goAll_163 ?_
              refine a_iadd (x := (M 84 31)) (y := 1) A dX5_goAll_164 ?_
              refine pf_X5_166 A dX5_goAll_165 rfl (by decide) ?_
              refine a_aload_n (z := 84) A dX5_goAll_168 rfl ?_
              refine a_iload (z := (n : Int)) A dX5_goAll_169 rfl ?_
              refine a_iconst A dX5_goAll_171 ?_
              refine a_iadd (x := (n : Int)) (y := 1) A dX5_goAll_172 ?_
              refine m_invVv A (c_X5_takes G _ (n + 1) (up2 (up2 M 84 30 ((M 84 30) + 1)) 84 31 ((M 84 31) + 1)) ⟨by omega, by omega⟩ (hr1 h39) (hp9 h39) (hq9 h39) hbm hbe hbu hbd) (by decide) mi_X5_takes mv_X5_takes cs_X5_160 cf5 dX5_goAll_173 rfl (by decide) rfl rfl (Nat.le_of_ble_eq_true rfl) (fun M173 h173 => ?_)
              have ht173 := tk_of h173
              subst ht173
              refine a_goto (tgt := 219) A dX5_goAll_176 (by decide) ?_
              refine a_goto (tgt := 10) A dX5_goAll_219 (by decide) ?_
              have hvv := hv h39 (by unfold HR; first | (rw [if_pos (by omega)]; omega) | (rw [if_neg (by omega)]; omega)) (by omega) (vi (M 88 ((M 105 (n - 1)).toNat))) (vi (M 88 ((M 105 n).toNat)))
              unfold vs at hvv
              first | rw [if_pos (by omega)] at hvv | rw [if_neg (by omega), if_pos (by omega)] at hvv | rw [if_neg (by omega), if_neg (by omega)] at hvv
              exact hvv
          · refine a_aload_n (z := 84) A dX5_goAll_117 rfl ?_
            refine a_iload (z := (n : Int)) A dX5_goAll_118 rfl ?_
            refine a_iconst A dX5_goAll_120 ?_
            refine a_iadd (x := (n : Int)) (y := 1) A dX5_goAll_121 ?_
            refine m_invVv A (c_X5_takes G _ (n + 1) M ⟨by omega, by omega⟩ (hr1 h39) (hp9 h39) (hq9 h39) hbm hbe hbu hbd) (by decide) mi_X5_takes mv_X5_takes cs_X5_160 cf5 dX5_goAll_122 rfl (by decide) rfl rfl (Nat.le_of_ble_eq_true rfl) (fun M122 h122 => ?_)
            have ht122 := tk_of h122
            subst ht122
            refine a_goto (tgt := 219) A dX5_goAll_125 (by decide) ?_
            refine a_goto (tgt := 10) A dX5_goAll_219 (by decide) ?_
            have hvv := hv h39 (by unfold HR; first | (rw [if_pos (by omega)]; omega) | (rw [if_neg (by omega)]; omega)) (by omega) (vi (M 88 ((M 105 (n - 1)).toNat))) (vi (M 88 ((M 105 n).toNat)))
            unfold vs at hvv
            first | rw [if_pos (by omega)] at hvv | rw [if_neg (by omega), if_pos (by omega)] at hvv | rw [if_neg (by omega), if_neg (by omega)] at hvv
            exact hvv
      · refine a_goto (tgt := 10) A dX5_goAll_104 (by decide) ?_
        refine hs h39 ?_ _ _
        first | (refine Or.inl ?_; unfold HR; first | (rw [if_pos (by omega)]; omega) | (rw [if_neg (by omega)]; omega)) | (refine Or.inr ⟨by omega, ?_⟩; first | (refine Or.inr ?_; omega) | (refine Or.inl ?_; rcases hc186 with c | c <;> first | exact c.2 | omega))
    · refine a_iload_n (z := b) A dX5_goAll_53 rfl ?_
      refine a_goto (tgt := 71) A dX5_goAll_54 (by decide) ?_
      refine a_istore (lv' := [.ref 84, vi b, vi e, vi g, vi (n : Int), vi b, w6]) A dX5_goAll_71 (by decide) rfl ?_
      refine a_aload_n (z := 84) A dX5_goAll_73 rfl ?_
      refine gf_X5_19 (r := 88) A dX5_goAll_74 rfl (by decide) rfl ?_
      refine a_aload_n (z := 84) A dX5_goAll_77 rfl ?_
      refine gf_X5_71 (r := 105) A dX5_goAll_78 rfl (by decide) rfl ?_
      refine a_iload (z := (n : Int)) A dX5_goAll_81 rfl ?_
      refine a_iaload (i := (n : Int)) (x := M 105 n) A dX5_goAll_83 rfl (by decide) (by decide) (by omega) rfl ?_
      refine a_iaload (i := (M 105 n)) (x := M 88 ((M 105 n).toNat)) A dX5_goAll_84 rfl (by decide) (by decide) (by omega) rfl ?_
      refine a_istore (lv' := [.ref 84, vi b, vi e, vi g, vi (n : Int), vi b, vi (M 88 ((M 105 n).toNat))]) A dX5_goAll_85 (by decide) rfl ?_
      refine a_aload_n (z := 84) A dX5_goAll_87 rfl ?_
      refine gf_X5_16 (r := 87) A dX5_goAll_88 rfl (by decide) rfl ?_
      refine a_aload_n (z := 84) A dX5_goAll_91 rfl ?_
      refine gf_X5_71 (r := 105) A dX5_goAll_92 rfl (by decide) rfl ?_
      refine a_iload (z := (n : Int)) A dX5_goAll_95 rfl ?_
      refine a_iaload (i := (n : Int)) (x := M 105 n) A dX5_goAll_97 rfl (by decide) (by decide) (by omega) rfl ?_
      refine a_iaload (i := (M 105 n)) (x := M 87 ((M 105 n).toNat)) A dX5_goAll_98 rfl (by decide) (by decide) (by omega) rfl ?_
      refine a_iload (z := b) A dX5_goAll_99 rfl ?_
      refine a_icmp_eq (tgt := 107) A dX5_goAll_101 (by decide) (by omega) (by omega) (fun h101 => ?_) (fun h101 => ?_)
      · refine a_iload (z := (M 88 ((M 105 n).toNat))) A dX5_goAll_107 rfl ?_
        refine a_iload_n (z := e) A dX5_goAll_109 rfl ?_
        refine a_icmp_ne (tgt := 179) A dX5_goAll_110 (by decide) (by omega) (by omega) (fun h110 => ?_) (fun h110 => ?_)
        · refine a_aload_n (z := 84) A dX5_goAll_179 rfl ?_
          refine a_iload (z := (n : Int)) A dX5_goAll_180 rfl ?_
          refine a_iconst A dX5_goAll_182 ?_
          refine a_iadd (x := (n : Int)) (y := 1) A dX5_goAll_183 ?_
          refine a_iload (z := (M 88 ((M 105 n).toNat))) A dX5_goAll_184 rfl ?_
          refine m_invVi A (c_X5_isOn G _ (n + 1) (M 88 ((M 105 n).toNat)) M (by omega) (by omega) (hr1 h39) (hf5 h39)) (by decide) mi_X5_isOn mv_X5_isOn cs_X5_169 cf5 dX5_goAll_186 rfl (by decide) rfl rfl (Nat.le_of_ble_eq_true rfl) (fun z186 M186 h186 => ?_)
          obtain ⟨e186, hc186⟩ := h186
          have e186 := e186.symm
          subst e186
          have hz186 : z186 = 0 ∨ z186 = 1 := by omega
          refine a_if_ne (tgt := 219) A dX5_goAll_189 (by decide) (by omega) (fun h189 => ?_) (fun h189 => ?_)
          · refine a_goto (tgt := 10) A dX5_goAll_219 (by decide) ?_
            refine hs h39 ?_ _ _
            first | (refine Or.inl ?_; unfold HR; first | (rw [if_pos (by omega)]; omega) | (rw [if_neg (by omega)]; omega)) | (refine Or.inr ⟨by omega, ?_⟩; first | (refine Or.inr ?_; omega) | (refine Or.inl ?_; rcases hc186 with c | c <;> first | exact c.2 | omega))
          · refine a_iload_n (z := g) A dX5_goAll_192 rfl ?_
            refine a_if_eq (tgt := 202) A dX5_goAll_193 (by decide) (by omega) (fun h193 => ?_) (fun h193 => ?_)
            · refine a_iload (z := (n : Int)) A dX5_goAll_202 rfl ?_
              refine a_iconst A dX5_goAll_204 ?_
              refine a_icmp_ge (tgt := 219) A dX5_goAll_205 (by decide) (by omega) (by omega) (fun h205 => ?_) (fun h205 => ?_)
              · refine a_goto (tgt := 10) A dX5_goAll_219 (by decide) ?_
                refine hs h39 ?_ _ _
                first | (refine Or.inl ?_; unfold HR; first | (rw [if_pos (by omega)]; omega) | (rw [if_neg (by omega)]; omega)) | (refine Or.inr ⟨by omega, ?_⟩; first | (refine Or.inr ?_; omega) | (refine Or.inl ?_; rcases hc186 with c | c <;> first | exact c.2 | omega))
              · refine a_iinc (z := (n : Int)) (lv' := [.ref 84, vi b, vi e, vi g, vi ((n : Int) + 1), vi b, vi (M 88 ((M 105 n).toNat))]) A dX5_goAll_208 rfl (by decide) rfl ?_
                refine a_aload_n (z := 84) A dX5_goAll_211 rfl ?_
                refine gf_X5_71 (r := 105) A dX5_goAll_212 rfl (by decide) rfl ?_
                refine a_iload (z := ((n : Int) + 1)) A dX5_goAll_215 rfl ?_
                refine a_iconst A dX5_goAll_217 ?_
                refine a_iastore (i := ((n : Int) + 1)) (j := (n + 1)) A dX5_goAll_218 rfl (by decide) (by decide) (by omega) rfl ?_
                refine a_goto (tgt := 10) A dX5_goAll_219 (by decide) ?_
                exact hd h39 (by unfold HR; first | (rw [if_pos (by omega)]; omega) | (rw [if_neg (by omega)]; omega)) (by omega) (fun q => by rcases hc186 with c | c <;> first | omega | exact c.2 q) (by omega) (by omega) _ _
            · refine a_iload (z := (M 88 ((M 105 n).toNat))) A dX5_goAll_196 rfl ?_
              refine a_iload_n (z := b) A dX5_goAll_198 rfl ?_
              refine a_icmp_le (tgt := 219) A dX5_goAll_199 (by decide) (by omega) (by omega) (fun h199 => ?_) (fun h199 => ?_)
              · refine a_goto (tgt := 10) A dX5_goAll_219 (by decide) ?_
                refine hs h39 ?_ _ _
                first | (refine Or.inl ?_; unfold HR; first | (rw [if_pos (by omega)]; omega) | (rw [if_neg (by omega)]; omega)) | (refine Or.inr ⟨by omega, ?_⟩; first | (refine Or.inr ?_; omega) | (refine Or.inl ?_; rcases hc186 with c | c <;> first | exact c.2 | omega))
              · refine a_iload (z := (n : Int)) A dX5_goAll_202 rfl ?_
                refine a_iconst A dX5_goAll_204 ?_
                refine a_icmp_ge (tgt := 219) A dX5_goAll_205 (by decide) (by omega) (by omega) (fun h205 => ?_) (fun h205 => ?_)
                · refine a_goto (tgt := 10) A dX5_goAll_219 (by decide) ?_
                  refine hs h39 ?_ _ _
                  first | (refine Or.inl ?_; unfold HR; first | (rw [if_pos (by omega)]; omega) | (rw [if_neg (by omega)]; omega)) | (refine Or.inr ⟨by omega, ?_⟩; first | (refine Or.inr ?_; omega) | (refine Or.inl ?_; rcases hc186 with c | c <;> first | exact c.2 | omega))
                · refine a_iinc (z := (n : Int)) (lv' := [.ref 84, vi b, vi e, vi g, vi ((n : Int) + 1), vi b, vi (M 88 ((M 105 n).toNat))]) A dX5_goAll_208 rfl (by decide) rfl ?_
                  refine a_aload_n (z := 84) A dX5_goAll_211 rfl ?_
                  refine gf_X5_71 (r := 105) A dX5_goAll_212 rfl (by decide) rfl ?_
                  refine a_iload (z := ((n : Int) + 1)) A dX5_goAll_215 rfl ?_
                  refine a_iconst A dX5_goAll_217 ?_
                  refine a_iastore (i := ((n : Int) + 1)) (j := (n + 1)) A dX5_goAll_218 rfl (by decide) (by decide) (by omega) rfl ?_
                  refine a_goto (tgt := 10) A dX5_goAll_219 (by decide) ?_
                  exact hd h39 (by unfold HR; first | (rw [if_pos (by omega)]; omega) | (rw [if_neg (by omega)]; omega)) (by omega) (fun q => by rcases hc186 with c | c <;> first | omega | exact c.2 q) (by omega) (by omega) _ _
        · refine a_iload_n (z := g) A dX5_goAll_113 rfl ?_
          refine a_if_ne (tgt := 128) A dX5_goAll_114 (by decide) (by omega) (fun h114 => ?_) (fun h114 => ?_)
          · refine a_aload_n (z := 84) A dX5_goAll_128 rfl ?_
            refine a_dup A dX5_goAll_129 rfl ?_
            refine gf_X5_163 (x := M 84 30) A dX5_goAll_130 rfl (by decide) rfl ?_
            refine a_iconst A dX5_goAll_133 ?_
            refine a_iadd (x := (M 84 30)) (y := 1) A dX5_goAll_134 ?_
            refine pf_X5_163 A dX5_goAll_135 rfl (by decide) ?_
            refine a_aload_n (z := 84) A dX5_goAll_138 rfl ?_
            refine a_iload (z := (n : Int)) A dX5_goAll_139 rfl ?_
            refine a_iconst A dX5_goAll_141 ?_
            refine a_iadd (x := (n : Int)) (y := 1) A dX5_goAll_142 ?_
            refine m_invVl A (c_X5_productUp G _ (n + 1) (up2 M 84 30 ((M 84 30) + 1)) (by omega) (hr1 h39) (hp9z h39)) (by decide) mi_X5_productUp mv_X5_productUp cs_X5_144 cf5 dX5_goAll_143 rfl (by decide) rfl rfl (Nat.le_of_ble_eq_true rfl) (fun z143 M143 h143 => ?_)
            obtain ⟨e143, hz143⟩ := h143
            have e143 := e143.symm
            subst e143
            have hz143 : z143 = pU M (n + 1) := hz143
            subst hz143
            refine a_aload_n (z := 84) A dX5_goAll_146 rfl ?_
            refine a_iload (z := (n : Int)) A dX5_goAll_147 rfl ?_
            refine a_iconst A dX5_goAll_149 ?_
            refine a_iadd (x := (n : Int)) (y := 1) A dX5_goAll_150 ?_
            refine m_invVl A (c_X5_productDown G _ (n + 1) (up2 M 84 30 ((M 84 30) + 1)) (by omega) (hr1 h39) (hq9z h39)) (by decide) mi_X5_productDown mv_X5_productDown cs_X5_148 cf5 dX5_goAll_151 rfl (by decide) rfl rfl (Nat.le_of_ble_eq_true rfl) (fun z151 M151 h151 => ?_)
            obtain ⟨e151, hz151⟩ := h151
            have e151 := e151.symm
            subst e151
            have hz151 : z151 = pD M (n + 1) := hz151
            subst hz151
            refine a_lcmp_le (tgt := 219) A dX5_goAll_154 dX5_goAll_155 (by decide) (by have := hpub h39; omega) (by have := hpdb h39; omega) (fun h154 => ?_) (fun h154 => ?_)
            · refine a_goto (tgt := 10) A dX5_goAll_219 (by decide) ?_
              have hvv := hv h39 (by unfold HR; first | (rw [if_pos (by omega)]; omega) | (rw [if_neg (by omega)]; omega)) (by omega) (vi b) (vi (M 88 ((M 105 n).toNat)))
              unfold vs at hvv
              first | rw [if_pos (by omega)] at hvv | rw [if_neg (by omega), if_pos (by omega)] at hvv | rw [if_neg (by omega), if_neg (by omega)] at hvv
              exact hvv
            · refine a_aload_n (z := 84) A dX5_goAll_158 rfl ?_
              refine a_dup A dX5_goAll_159 rfl ?_
              refine gf_X5_166 (x := M 84 31) A dX5_goAll_160 rfl (by decide) rfl ?_
              refine a_iconst A dX5_goAll_163 ?_
              refine a_iadd (x := (M 84 31)) (y := 1) A dX5_goAll_164 ?_
              refine pf_X5_166 A dX5_goAll_165 rfl (by decide) ?_
              refine a_aload_n (z := 84) A dX5_goAll_168 rfl ?_
              refine a_iload (z := (n : Int)) A dX5_goAll_169 rfl ?_
              refine a_iconst A dX5_goAll_171 ?_
              refine a_iadd (x := (n : Int)) (y := 1) A dX5_goAll_172 ?_
              refine m_invVv A (c_X5_takes G _ (n + 1) (up2 (up2 M 84 30 ((M 84 30) + 1)) 84 31 ((M 84 31) + 1)) ⟨by omega, by omega⟩ (hr1 h39) (hp9 h39) (hq9 h39) hbm hbe hbu hbd) (by decide) mi_X5_takes mv_X5_takes cs_X5_160 cf5 dX5_goAll_173 rfl (by decide) rfl rfl (Nat.le_of_ble_eq_true rfl) (fun M173 h173 => ?_)
              have ht173 := tk_of h173
              subst ht173
              refine a_goto (tgt := 219) A dX5_goAll_176 (by decide) ?_
              refine a_goto (tgt := 10) A dX5_goAll_219 (by decide) ?_
              have hvv := hv h39 (by unfold HR; first | (rw [if_pos (by omega)]; omega) | (rw [if_neg (by omega)]; omega)) (by omega) (vi b) (vi (M 88 ((M 105 n).toNat)))
              unfold vs at hvv
              first | rw [if_pos (by omega)] at hvv | rw [if_neg (by omega), if_pos (by omega)] at hvv | rw [if_neg (by omega), if_neg (by omega)] at hvv
              exact hvv
          · refine a_aload_n (z := 84) A dX5_goAll_117 rfl ?_
            refine a_iload (z := (n : Int)) A dX5_goAll_118 rfl ?_
            refine a_iconst A dX5_goAll_120 ?_
            refine a_iadd (x := (n : Int)) (y := 1) A dX5_goAll_121 ?_
            refine m_invVv A (c_X5_takes G _ (n + 1) M ⟨by omega, by omega⟩ (hr1 h39) (hp9 h39) (hq9 h39) hbm hbe hbu hbd) (by decide) mi_X5_takes mv_X5_takes cs_X5_160 cf5 dX5_goAll_122 rfl (by decide) rfl rfl (Nat.le_of_ble_eq_true rfl) (fun M122 h122 => ?_)
            have ht122 := tk_of h122
            subst ht122
            refine a_goto (tgt := 219) A dX5_goAll_125 (by decide) ?_
            refine a_goto (tgt := 10) A dX5_goAll_219 (by decide) ?_
            have hvv := hv h39 (by unfold HR; first | (rw [if_pos (by omega)]; omega) | (rw [if_neg (by omega)]; omega)) (by omega) (vi b) (vi (M 88 ((M 105 n).toNat)))
            unfold vs at hvv
            first | rw [if_pos (by omega)] at hvv | rw [if_neg (by omega), if_pos (by omega)] at hvv | rw [if_neg (by omega), if_neg (by omega)] at hvv
            exact hvv
      · refine a_goto (tgt := 10) A dX5_goAll_104 (by decide) ?_
        refine hs h39 ?_ _ _
        first | (refine Or.inl ?_; unfold HR; first | (rw [if_pos (by omega)]; omega) | (rw [if_neg (by omega)]; omega)) | (refine Or.inr ⟨by omega, ?_⟩; first | (refine Or.inr ?_; omega) | (refine Or.inl ?_; rcases hc186 with c | c <;> first | exact c.2 | omega))
  · refine a_iinc (z := (n : Int)) (lv' := [.ref 84, vi b, vi e, vi g, vi ((n : Int) + (-1)), w5, w6]) A dX5_goAll_42 rfl (by decide) rfl ?_
    refine a_goto (tgt := 10) A dX5_goAll_45 (by decide) ?_
    exact hx (by omega) _ _
end
section
noncomputable def gb (g' : Nat → MM → MM) (b e g : Int) (n : Nat) (M : MM) : MM := cif (M 87 (M 105 n).toNat ≠ HR M n b) M (cif (M 88 (M 105 n).toNat = e) (vs g M (n + 1)) (cif (¬ ON M (n + 1) (M 88 (M 105 n).toNat) ∧ (g = 0 ∨ b < M 88 (M 105 n).toNat) ∧ n < 4) (g' (n + 1) (up2 M 105 (n + 1) (-1))) M))
noncomputable def itr (g' : Nat → MM → MM) (b e g : Int) (n : Nat) : Nat → Nat → MM → MM
  | 0, i, M => up2 M 105 n i
  | r + 1, i, M => itr g' b e g n r (i + 1) (gb g' b e g n (up2 M 105 n i))
noncomputable def gor (b e g : Int) (L : Nat) : Nat → Nat → MM → MM
  | 0, _, M => M
  | f + 1, n, M => itr (gor b e g L f) b e g n L 0 M
/-- what the search for rows leaves as it was, and what it keeps of the best row -/
def FZ (M0 M : MM) : Prop := (∀ c, c ≠ 84 → c ≠ 105 → c ≠ 106 → M c = M0 c) ∧ ∀ j, j < 27 ∨ 31 < j → M 84 j = M0 84 j
def BOK (M : MM) : Prop := (0 ≤ M 84 27 ∧ M 84 27 ≤ 5) ∧ (∀ k : Nat, (k : Int) < M 84 27 → 0 ≤ M 106 k ∧ M 106 k < M 86 0) ∧ (0 ≤ M 84 28 ∧ M 84 28 ≤ 59049) ∧ (0 ≤ M 84 29 ∧ M 84 29 ≤ 59049) ∧ (M 84 27 ≠ 0 → 1 ≤ M 84 28 ∧ 1 ≤ M 84 29)
def GI (M0 : MM) (n : Nat) (M : MM) : Prop := FZ M0 M ∧ (∀ k, k < n → 0 ≤ M 105 k ∧ M 105 k < M0 86 0) ∧ BOK M
def WM (M : MM) : Prop := (2 ≤ M 85 0 ∧ M 85 0 ≤ 5) ∧ (0 ≤ M 86 0 ∧ M 86 0 ≤ 10) ∧ ∀ i : Nat, (i : Int) < M 86 0 → LW M i
theorem FZ.at {M0 M : MM} (h : FZ M0 M) {c : Nat} (h1 : c ≠ 84) (h2 : c ≠ 105) (h3 : c ≠ 106) (j : Nat) : M c j = M0 c j := by rw [h.1 c h1 h2 h3]
theorem FZ.lw {M0 M : MM} (h : FZ M0 M) {i : Nat} (hl : LW M0 i) : LW M i := by
  unfold LW at hl ⊢
  rw [h.at (c := 85) (by decide) (by decide) (by decide), h.at (c := 87) (by decide) (by decide) (by decide), h.at (c := 88) (by decide) (by decide) (by decide), h.at (c := 89) (by decide) (by decide) (by decide), h.at (c := 90) (by decide) (by decide) (by decide), h.at (c := 91) (by decide) (by decide) (by decide), h.at (c := 92) (by decide) (by decide) (by decide), h.at (c := 93) (by decide) (by decide) (by decide), h.at (c := 94) (by decide) (by decide) (by decide)]
  exact hl
theorem FZ.wm {M0 M : MM} (h : FZ M0 M) (hw : WM M0) : WM M := by
  refine ⟨?_, ?_, fun i hi => ?_⟩
  · rw [h.at (c := 85) (by decide) (by decide) (by decide)]; exact hw.1
  · rw [h.at (c := 86) (by decide) (by decide) (by decide)]; exact hw.2.1
  · rw [h.at (c := 86) (by decide) (by decide) (by decide)] at hi; exact h.lw (hw.2.2 i hi)
theorem FZ.rf (M : MM) : FZ M M := ⟨fun _ _ _ _ => rfl, fun _ _ => rfl⟩
theorem FZ.up {M0 M : MM} (h : FZ M0 M) (n : Nat) (x : Int) : FZ M0 (up2 M 105 n x) := ⟨fun c h1 h2 h3 => by rw [up2_ne _ _ _ _ h2]; exact h.1 c h1 h2 h3, fun j hj => by rw [up2_ne _ _ _ _ (by decide)]; exact h.2 j hj⟩
theorem GI.up {M0 M : MM} {n : Nat} (h : GI M0 n M) (m : Nat) (hm : n ≤ m) (x : Int) : GI M0 n (up2 M 105 m x) := by
  refine ⟨h.1.up m x, fun k hk => ?_, ?_⟩
  · rw [up2_in, if_neg (by omega)]; exact h.2.1 k hk
  · have := h.2.2
    unfold BOK at this ⊢
    rw [up2_ne _ _ _ _ (show (84 : Nat) ≠ 105 by decide), up2_ne _ _ _ _ (show (106 : Nat) ≠ 105 by decide), up2_ne _ _ _ _ (show (86 : Nat) ≠ 105 by decide)]
    exact this
theorem GI.push {M0 M : MM} {n : Nat} (h : GI M0 n M) (hx : 0 ≤ M 105 n ∧ M 105 n < M0 86 0) : GI M0 (n + 1) M := ⟨h.1, lt_s h.2.1 hx, h.2.2⟩
theorem GI.pop {M0 M : MM} {n : Nat} (h : GI M0 (n + 1) M) : GI M0 n M := ⟨h.1, fun k hk => h.2.1 k (by omega), h.2.2⟩
/-- a row is weighed: rows and frozen cells stay, the best row stays a row of lanes -/
theorem tk_keep {M0 M : MM} {N : Nat} (hw : WM M0) (hN : 1 ≤ N ∧ N ≤ 5) (h : GI M0 N M) : GI M0 N (tk M N) ∧ tk M N 105 = M 105 := by
  unfold tk
  by_cases hb : BT M N
  · rw [cif_t hb]
    have hp : ∀ k, k < N → LW M (M 105 k).toNat := fun k hk => h.1.lw (hw.2.2 _ (by have := h.2.1 k hk; omega))
    have h90 := prodZ_bd (f := fun k => M 90 (M 105 k).toNat) hN.2 (fun k hk => by have := hp k hk; unfold LW at this; omega)
    have h91 := prodZ_bd (f := fun k => M 91 (M 105 k).toNat) hN.2 (fun k hk => by have := hp k hk; unfold LW at this; omega)
    have e105 : tkM M N 105 = M 105 := rfl
    have e106 : ∀ k, k < N → tkM M N 106 k = M 105 k := fun k hk => by
      show (if k < N then M 105 k else M 106 k) = M 105 k
      rw [if_pos hk]
    have e27 : tkM M N 84 27 = N := rfl
    have e28 : tkM M N 84 28 = prodZ (fun k => M 90 (M 105 k).toNat) N := rfl
    have e29 : tkM M N 84 29 = prodZ (fun k => M 91 (M 105 k).toNat) N := rfl
    have hfz : FZ M0 (tkM M N) := by
      refine ⟨fun c h1 h2 h3 => ?_, fun j hj => ?_⟩
      · have e : tkM M N c = M c := by
          unfold tkM cp2
          rw [if_neg h3, up2_ne _ _ _ _ h1, up2_ne _ _ _ _ h1, up2_ne _ _ _ _ h1]
        rw [e]; exact h.1.1 c h1 h2 h3
      · have e : tkM M N 84 j = M 84 j := by
          unfold tkM cp2
          rw [if_neg (by decide), up2_in, if_neg (by omega), up2_in, if_neg (by omega), up2_in, if_neg (by omega)]
        rw [e]; exact h.1.2 j hj
    refine ⟨⟨hfz, fun k hk => by rw [e105]; exact h.2.1 k hk, ?_⟩, e105⟩
    unfold BOK
    rw [e27, e28, e29, hfz.at (c := 86) (by decide) (by decide) (by decide)]
    refine ⟨by omega, fun k hk => by rw [e106 k (by omega)]; exact h.2.1 k (by omega), by omega, by omega, fun _ => by omega⟩
  · rw [cif_f hb]
    exact ⟨h, rfl⟩
theorem up84_keep {M0 M : MM} {n j : Nat} {x : Int} (h : GI M0 n M) (hj : j = 30 ∨ j = 31) : GI M0 n (up2 M 84 j x) := by
  refine ⟨⟨fun c h1 h2 h3 => by rw [up2_ne _ _ _ _ h1]; exact h.1.1 c h1 h2 h3, fun q hq => by rw [up2_in, if_neg (by omega)]; exact h.1.2 q hq⟩, fun k hk => by rw [up2_ne _ _ _ _ (by decide)]; exact h.2.1 k hk, ?_⟩
  have := h.2.2
  unfold BOK at this ⊢
  rw [up2_ne _ _ _ _ (show (106 : Nat) ≠ 84 by decide), up2_ne _ _ _ _ (show (86 : Nat) ≠ 84 by decide), up2_in, if_neg (by omega), up2_in, if_neg (by omega), up2_in, if_neg (by omega)]
  exact this
theorem vs_keep {M0 M : MM} {N : Nat} {g : Int} (hw : WM M0) (hN : 1 ≤ N ∧ N ≤ 5) (h : GI M0 N M) : GI M0 N (vs g M N) ∧ vs g M N 105 = M 105 := by
  unfold vs
  split
  · exact tk_keep hw hN h
  · split
    · have h1 := tk_keep hw hN (up84_keep (j := 31) (x := M 84 31 + 1) (up84_keep (j := 30) (x := M 84 30 + 1) h (Or.inl rfl)) (Or.inr rfl))
      exact ⟨h1.1, h1.2⟩
    · exact ⟨up84_keep h (Or.inl rfl), rfl⟩
theorem gb_keep {M0 : MM} {g' : Nat → MM → MM} {b e g : Int} {n : Nat} (hw : WM M0) (hn : n ≤ 4) (hg : ∀ M, GI M0 (n + 1) M → GI M0 (n + 1) (g' (n + 1) M) ∧ ∀ k, k < n + 1 → g' (n + 1) M 105 k = M 105 k) {M : MM} (h : GI M0 (n + 1) M) : GI M0 (n + 1) (gb g' b e g n M) ∧ ∀ k, k < n + 1 → gb g' b e g n M 105 k = M 105 k := by
  unfold gb
  by_cases c1 : M 87 (M 105 n).toNat ≠ HR M n b
  · rw [cif_t c1]; exact ⟨h, fun _ _ => rfl⟩
  · rw [cif_f c1]
    by_cases c2 : M 88 (M 105 n).toNat = e
    · rw [cif_t c2]
      have h1 := vs_keep (g := g) hw (by omega) h
      exact ⟨h1.1, fun k _ => by rw [h1.2]⟩
    · rw [cif_f c2]
      by_cases c3 : ¬ ON M (n + 1) (M 88 (M 105 n).toNat) ∧ (g = 0 ∨ b < M 88 (M 105 n).toNat) ∧ n < 4
      · rw [cif_t c3]
        have h1 := hg _ (h.up (n + 1) (Nat.le_refl _) (-1))
        exact ⟨h1.1, fun k hk => by rw [h1.2 k hk, up2_in, if_neg (by omega)]⟩
      · rw [cif_f c3]; exact ⟨h, fun _ _ => rfl⟩
theorem itr_keep {M0 : MM} {g' : Nat → MM → MM} {b e g : Int} {n L : Nat} (hw : WM M0) (hL : (L : Int) = M0 86 0) (hn : n ≤ 4) (hg : ∀ M, GI M0 (n + 1) M → GI M0 (n + 1) (g' (n + 1) M) ∧ ∀ k, k < n + 1 → g' (n + 1) M 105 k = M 105 k) : ∀ (r i : Nat) (M : MM), i + r = L → GI M0 n M → GI M0 n (itr g' b e g n r i M) ∧ ∀ k, k < n → itr g' b e g n r i M 105 k = M 105 k := by
  intro r
  induction r with
  | zero => intro i M _ h; exact ⟨h.up n (Nat.le_refl _) i, fun k hk => by show up2 M 105 n i 105 k = _; rw [up2_in, if_neg (by omega)]⟩
  | succ r ih =>
    intro i M hi h
    have h0 : GI M0 (n + 1) (up2 M 105 n i) := (h.up n (Nat.le_refl _) i).push (by rw [up2_self]; omega)
    have h1 := gb_keep (b := b) (e := e) (g := g) hw hn hg h0
    have h2 := ih (i + 1) _ (by omega) h1.1.pop
    exact ⟨h2.1, fun k hk => by show itr g' b e g n r (i + 1) _ 105 k = _; rw [h2.2 k hk, h1.2 k (by omega), up2_in, if_neg (by omega)]⟩
theorem gor_keep {M0 : MM} {b e g : Int} {L : Nat} (hw : WM M0) (hL : (L : Int) = M0 86 0) : ∀ (f n : Nat) (M : MM), n + f ≤ 5 → GI M0 n M → GI M0 n (gor b e g L f n M) ∧ ∀ k, k < n → gor b e g L f n M 105 k = M 105 k := by
  intro f
  induction f with
  | zero => intro n M _ h; exact ⟨h, fun _ _ => rfl⟩
  | succ f ih =>
    intro n M hn h
    exact itr_keep (g' := gor b e g L f) (b := b) (e := e) (g := g) hw hL (by omega) (fun M' h' => ih (n + 1) M' (by omega) h') L 0 M (by omega) h
theorem gb_skip {g' : Nat → MM → MM} {b e g : Int} {n : Nat} {M : MM} (h : M 87 (M 105 n).toNat ≠ HR M n b ∨ (M 88 (M 105 n).toNat ≠ e ∧ (ON M (n + 1) (M 88 (M 105 n).toNat) ∨ (g ≠ 0 ∧ M 88 (M 105 n).toNat ≤ b) ∨ 4 ≤ n))) : gb g' b e g n M = M := by
  unfold gb
  by_cases c1 : M 87 (M 105 n).toNat ≠ HR M n b
  · rw [cif_t c1]
  · rw [cif_f c1]
    rcases h with h | ⟨h1, h2⟩
    · exact absurd h c1
    · rw [cif_f h1]
      refine cif_f (fun q => ?_)
      rcases h2 with h2 | h2 | h2
      · exact q.1 h2
      · omega
      · omega
theorem gb_vis {g' : Nat → MM → MM} {b e g : Int} {n : Nat} {M : MM} (h1 : M 87 (M 105 n).toNat = HR M n b) (h2 : M 88 (M 105 n).toNat = e) : gb g' b e g n M = vs g M (n + 1) := by
  unfold gb
  rw [cif_f (fun q => q h1), cif_t h2]
theorem gb_go {g' : Nat → MM → MM} {b e g : Int} {n : Nat} {M : MM} (h1 : M 87 (M 105 n).toNat = HR M n b) (h2 : M 88 (M 105 n).toNat ≠ e) (h3 : ¬ ON M (n + 1) (M 88 (M 105 n).toNat)) (h4 : g = 0 ∨ b < M 88 (M 105 n).toNat) (h5 : n < 4) : gb g' b e g n M = g' (n + 1) (up2 M 105 (n + 1) (-1)) := by
  unfold gb
  rw [cif_f (fun q => q h1), cif_f h2, cif_t ⟨h3, h4, h5⟩]
set_option maxRecDepth 100000 in
set_option maxHeartbeats 4000000 in
theorem ga_head5 {G : GG} {E : EE} (A : AmM G E cX5_goAll 7 yX5_goAll.cls 3) (n : Nat) (b e g : Int) (M : MM) (hn : n ≤ 4) (w5 w6 : Value) (kk : AM G E 7 26 [.ref 84, vi b, vi e, vi g, vi (n : Int), w5, w6] [] (up2 M 105 n (M 105 n + 1))) : AM G E 7 10 [.ref 84, vi b, vi e, vi g, vi (n : Int), w5, w6] [] M := by
  refine a_iload (z := (n : Int)) A dX5_goAll_10 rfl ?_
  refine a_if_lt (tgt := 222) A dX5_goAll_12 (by decide) (by omega) (fun h12 => ?_) (fun h12 => ?_)
  · exfalso; omega
  · refine a_aload_n (z := 84) A dX5_goAll_15 rfl ?_
    refine gf_X5_71 (r := 105) A dX5_goAll_16 rfl (by decide) rfl ?_
    refine a_iload (z := (n : Int)) A dX5_goAll_19 rfl ?_
    refine a_dup2 A dX5_goAll_21 rfl rfl ?_
    refine a_iaload (i := (n : Int)) (x := M 105 n) A dX5_goAll_22 rfl (by decide) (by decide) (by omega) rfl ?_
    refine a_iconst A dX5_goAll_23 ?_
    refine a_iadd (x := (M 105 n)) (y := 1) A dX5_goAll_24 ?_
    refine a_iastore (i := (n : Int)) (j := n) A dX5_goAll_25 rfl (by decide) (by decide) (by omega) rfl ?_
    exact kk
theorem ga_rec5 {G : GG} {E : EE} (A : AmM G E cX5_goAll 7 yX5_goAll.cls 3) (b e g : Int) (M0 : MM) (L : Nat) (hw : WM M0) (hL : (L : Int) = M0 86 0) (hb : I32 b) (he : I32 e) (hg : g = 0 ∨ g = 1) : ∀ (f n : Nat), n + (f + 1) = 5 → ∀ (r i : Nat) (M : MM), i + r = L → GI M0 n M → M 105 n + 1 = (i : Int) → (∀ w5 w6 : Value, AM G E 7 10 [.ref 84, vi b, vi e, vi g, vi ((n : Int) + (-1)), w5, w6] [] (itr (gor b e g L f) b e g n r i M)) → ∀ w5 w6 : Value, AM G E 7 10 [.ref 84, vi b, vi e, vi g, vi (n : Int), w5, w6] [] M := by
  intro f
  induction f with
  | zero =>
    intro n hnf r
    induction r with
    | zero =>
      intro i M hi h hM K w5 w6
      refine ga_head5 A n b e g M (by omega) w5 w6 ?_
      rw [hM]
      have h1 := h.up n (Nat.le_refl _) i
      have hw1 := h1.1.wm hw
      have e86 := h1.1.at (c := 86) (by decide) (by decide) (by decide) 0
      have e105 : up2 M 105 n i 105 n = i := up2_self _ _ _ _
      exact ga_body5 A n b e g _ (by omega) hb he hg hw1.2.1 hw1.1 hw1.2.2 (fun k hk => by rw [e86]; exact h1.2.1 k hk) (by omega) h1.2.2.1 (fun k hk => by have := h1.2.2.2.1 k hk; have := hw1.2.1; omega) h1.2.2.2.2.1 h1.2.2.2.2.2.1 (fun _ w5 w6 => K w5 w6) (fun q => by omega) (fun q => by omega) (fun q => by omega) w5 w6
    | succ r ih =>
      intro i M hi h hM K w5 w6
      refine ga_head5 A n b e g M (by omega) w5 w6 ?_
      rw [hM]
      have h1 := h.up n (Nat.le_refl _) i
      have hw1 := h1.1.wm hw
      have e86 := h1.1.at (c := 86) (by decide) (by decide) (by decide) 0
      have e105 : up2 M 105 n i 105 n = i := up2_self _ _ _ _
      have h2 : GI M0 (n + 1) (up2 M 105 n i) := h1.push (by omega)
      refine ga_body5 A n b e g _ (by omega) hb he hg hw1.2.1 hw1.1 hw1.2.2 (fun k hk => by rw [e86]; exact h1.2.1 k hk) (by omega) h1.2.2.1 (fun k hk => by have := h1.2.2.2.1 k hk; have := hw1.2.1; omega) h1.2.2.2.2.1 h1.2.2.2.2.2.1 (fun q => by omega) (fun _ q => ?_) (fun _ q1 q2 => ?_) (fun _ q1 q2 q3 q4 q5 => by omega) w5 w6
      · exact ih (i + 1) _ (by omega) h1 (by rw [e105]; push_cast; rfl) (fun w5 w6 => by have := K w5 w6; unfold itr at this; rw [gb_skip q] at this; exact this)
      · have h3 := vs_keep (g := g) hw (by omega) h2
        exact ih (i + 1) _ (by omega) h3.1.pop (by rw [h3.2, e105]; push_cast; rfl) (fun w5 w6 => by have := K w5 w6; unfold itr at this; rw [gb_vis q1 q2] at this; exact this)
  | succ f ihf =>
    intro n hnf r
    induction r with
    | zero =>
      intro i M hi h hM K w5 w6
      refine ga_head5 A n b e g M (by omega) w5 w6 ?_
      rw [hM]
      have h1 := h.up n (Nat.le_refl _) i
      have hw1 := h1.1.wm hw
      have e86 := h1.1.at (c := 86) (by decide) (by decide) (by decide) 0
      have e105 : up2 M 105 n i 105 n = i := up2_self _ _ _ _
      exact ga_body5 A n b e g _ (by omega) hb he hg hw1.2.1 hw1.1 hw1.2.2 (fun k hk => by rw [e86]; exact h1.2.1 k hk) (by omega) h1.2.2.1 (fun k hk => by have := h1.2.2.2.1 k hk; have := hw1.2.1; omega) h1.2.2.2.2.1 h1.2.2.2.2.2.1 (fun _ w5 w6 => K w5 w6) (fun q => by omega) (fun q => by omega) (fun q => by omega) w5 w6
    | succ r ih =>
      intro i M hi h hM K w5 w6
      refine ga_head5 A n b e g M (by omega) w5 w6 ?_
      rw [hM]
      have h1 := h.up n (Nat.le_refl _) i
      have hw1 := h1.1.wm hw
      have e86 := h1.1.at (c := 86) (by decide) (by decide) (by decide) 0
      have e105 : up2 M 105 n i 105 n = i := up2_self _ _ _ _
      have h2 : GI M0 (n + 1) (up2 M 105 n i) := h1.push (by omega)
      refine ga_body5 A n b e g _ (by omega) hb he hg hw1.2.1 hw1.1 hw1.2.2 (fun k hk => by rw [e86]; exact h1.2.1 k hk) (by omega) h1.2.2.1 (fun k hk => by have := h1.2.2.2.1 k hk; have := hw1.2.1; omega) h1.2.2.2.2.1 h1.2.2.2.2.2.1 (fun q => by omega) (fun _ q => ?_) (fun _ q1 q2 => ?_) (fun _ q1 q2 q3 q4 q5 => ?_) w5 w6
      · exact ih (i + 1) _ (by omega) h1 (by rw [e105]; push_cast; rfl) (fun w5 w6 => by have := K w5 w6; unfold itr at this; rw [gb_skip q] at this; exact this)
      · have h3 := vs_keep (g := g) hw (by omega) h2
        exact ih (i + 1) _ (by omega) h3.1.pop (by rw [h3.2, e105]; push_cast; rfl) (fun w5 w6 => by have := K w5 w6; unfold itr at this; rw [gb_vis q1 q2] at this; exact this)
      · have h4 := h2.up (n + 1) (Nat.le_refl _) (-1)
        have h5 := gor_keep (b := b) (e := e) (g := g) hw hL (f + 1) (n + 1) _ (by omega) h4
        have h6 := ih (i + 1) (gor b e g L (f + 1) (n + 1) (up2 (up2 M 105 n i) 105 (n + 1) (-1))) (by omega) h5.1.pop (by rw [h5.2 n (by omega), up2_in, if_neg (by omega), e105]; push_cast; rfl) (fun w5 w6 => by have := K w5 w6; unfold itr at this; rw [gb_go q1 q2 q3 q4 q5] at this; exact this)
        have h7 := ihf (n + 1) (by omega) L 0 (up2 (up2 M 105 n i) 105 (n + 1) (-1)) (by omega) h4 (by rw [up2_self]; rfl) (fun w5 w6 => by have := h6 w5 w6; rw [show (((n + 1 : Nat) : Int) + (-1)) = (n : Int) by omega]; exact this)
        intro w5 w6
        have := h7 w5 w6
        rw [show ((n + 1 : Nat) : Int) = (n : Int) + 1 by omega] at this
        exact this
set_option maxRecDepth 100000 in
set_option maxHeartbeats 4000000 in
theorem c_X5_goAll (G : GG) (l : Launch) (b e g : Int) (M : MM) (hb : I32 b) (he : I32 e) (hg : g = 0 ∨ g = 1) (hw : WM M) (hbo : BOK M) : CMv G l yX5_goAll cX5_goAll 7 none 3 [.ref 84, vi b, vi e, vi g] M (fun M' => M' = gor b e g (M 86 0).toNat 5 0 (up2 M 105 0 (-1))) := by
  refine CT.intro (by decide) (Nat.le_of_ble_eq_true rfl) (fun E hE A T0 => ?_)
  subst hE
  refine a_iconst A dX5_goAll_0 ?_
  refine a_istore (lv' := [.ref 84, vi b, vi e, vi g, vi 0, jk, jk]) A dX5_goAll_1 (by decide) rfl ?_
  refine a_aload_n (z := 84) A dX5_goAll_3 rfl ?_
  refine gf_X5_71 (r := 105) A dX5_goAll_4 rfl (by decide) rfl ?_
  refine a_iconst A dX5_goAll_7 ?_
  refine a_iconst A dX5_goAll_8 ?_
  refine a_iastore (i := 0) (j := 0) A dX5_goAll_9 rfl (by decide) (by decide) (by omega) rfl ?_
  have h0 : GI M 0 M := ⟨FZ.rf M, fun k hk => by omega, hbo⟩
  refine ga_rec5 A b e g M (M 86 0).toNat hw (by have := hw.2.1; omega) hb he hg 4 0 rfl (M 86 0).toNat 0 (up2 M 105 0 (-1)) (by omega) (h0.up 0 (Nat.le_refl _) (-1)) (by rw [up2_self]; rfl) (fun w5 w6 => ?_) jk jk
  refine a_iload (z := (((0 : Nat) : Int) + (-1))) A dX5_goAll_10 rfl ?_
  refine a_if_lt (tgt := 222) A dX5_goAll_12 (by decide) (by omega) (fun h12 => ?_) (fun h12 => ?_)
  · exact m_return A T0 dX5_goAll_222 (by rfl)
  · exfalso; omega
end
section
/-- the best row comes to hand -/
def kpM (M : MM) : MM := up2 (up2 (up2 (up2 (cp2 (up2 M 95 0 (M 84 27)) 106 96 (M 84 27).toNat) 84 15 (nU (M 84 28) (M 84 29))) 84 16 (nD (M 84 28) (M 84 29))) 97 0 (nU (M 84 28) (M 84 29))) 98 0 (nD (M 84 28) (M 84 29))
set_option maxRecDepth 100000 in
set_option maxHeartbeats 4000000 in
theorem kp_loop5 {G : GG} {E : EE}  (A : AmM G E cX5_keep 2 yX5_keep.cls 3)  (M : MM) (hbm : 0 ≤ M 84 27 ∧ M 84 27 ≤ 5) (kk : AM G E 2 47 [.ref 84, vi (M 84 27)] [] (cp2 M 106 96 (M 84 27).toNat)) : ∀ (n : Nat) (i : Nat), (M 84 27).toNat - i < n → (i : Int) ≤ M 84 27 → AM G E 2 21 [.ref 84, vi (i : Int)] [] (cp2 M 106 96 i) := by
  intro n
  induction n with
  | zero => intro i hn hi; exfalso; omega
  | succ n ih =>
    intro i hn hi
    refine a_iload_n (z := (i : Int)) A dX5_keep_21 rfl ?_
    refine a_aload_n (z := 84) A dX5_keep_22 rfl ?_
    refine gf_X5_151 (x := M 84 27) A dX5_keep_23 rfl (by decide) rfl ?_
    refine a_icmp_ge (tgt := 47) A dX5_keep_26 (by decide) (by omega) (by omega) (fun h26 => ?_) (fun h26 => ?_)
    · rw [show (M 84 27) = (i : Int) by omega] at kk
      exact kk
    · refine a_aload_n (z := 84) A dX5_keep_29 rfl ?_
      refine gf_X5_43 (r := 96) A dX5_keep_30 rfl (by decide) rfl ?_
      refine a_iload_n (z := (i : Int)) A dX5_keep_33 rfl ?_
      refine a_aload_n (z := 84) A dX5_keep_34 rfl ?_
      refine gf_X5_74 (r := 106) A dX5_keep_35 rfl (by decide) rfl ?_
      refine a_iload_n (z := (i : Int)) A dX5_keep_38 rfl ?_
      refine a_iaload (i := (i : Int)) (x := M 106 i) A dX5_keep_39 rfl (by decide) (by decide) (by omega) rfl ?_
      refine a_iastore (i := (i : Int)) (j := i) A dX5_keep_40 rfl (by decide) (by decide) (by omega) rfl ?_
      refine a_iinc (z := (i : Int)) (lv' := [.ref 84, vi ((i : Int) + 1)]) A dX5_keep_41 rfl (by decide) rfl ?_
      refine a_goto (tgt := 21) A dX5_keep_44 (by decide) ?_
      rw [cp2_succ M (by decide)]
      exact ih (i + 1) (by omega) (by omega)
set_option maxRecDepth 100000 in
set_option maxHeartbeats 4000000 in
theorem c_X5_keep (G : GG) (l : Launch) (M : MM) (hbo : BOK M) : CMi G l yX5_keep cX5_keep 2 (some .int) 3 [.ref 84] M (fun z M' => (M 84 27 = 0 ∧ z = -1 ∧ M' = up2 M 95 0 (M 84 27)) ∨ (M 84 27 ≠ 0 ∧ z = M 84 27 ∧ M' = kpM M)) := by
  refine CT.intro (by decide) (Nat.le_of_ble_eq_true rfl) (fun E hE A T0 => ?_)
  subst hE
  obtain ⟨hbm, hbe, hbu, hbd, hbp⟩ := hbo
  refine a_aload_n (z := 84) A dX5_keep_0 rfl ?_
  refine gf_X5_40 (r := 95) A dX5_keep_1 rfl (by decide) rfl ?_
  refine a_iconst A dX5_keep_4 ?_
  refine a_aload_n (z := 84) A dX5_keep_5 rfl ?_
  refine gf_X5_151 (x := M 84 27) A dX5_keep_6 rfl (by decide) rfl ?_
  refine a_iastore (i := 0) (j := 0) A dX5_keep_9 rfl (by decide) (by decide) (by omega) rfl ?_
  refine a_aload_n (z := 84) A dX5_keep_10 rfl ?_
  refine gf_X5_151 (x := M 84 27) A dX5_keep_11 rfl (by decide) rfl ?_
  refine a_if_ne (tgt := 19) A dX5_keep_14 (by decide) (by omega) (fun h14 => ?_) (fun h14 => ?_)
  · refine a_iconst A dX5_keep_19 ?_
    refine a_istore_n (lv' := [.ref 84, vi 0]) A dX5_keep_20 (by decide) rfl ?_
    have hp0 := hbp h14
    have hk := kp_loop5 A (up2 M 95 0 (M 84 27)) hbm ?_ ((M 84 27).toNat + 1) 0 (show (M 84 27).toNat - 0 < _ by omega) hbm.1
    · rw [cp2_0] at hk; exact hk
    show AM G E 2 47 [.ref 84, vi (M 84 27)] [] (cp2 (up2 M 95 0 (M 84 27)) 106 96 (M 84 27).toNat)
    refine a_aload_n (z := 84) A dX5_keep_47 rfl ?_
    refine a_aload_n (z := 84) A dX5_keep_48 rfl ?_
    refine gf_X5_157 (x := M 84 28) A dX5_keep_49 rfl (by decide) rfl ?_
    refine a_aload_n (z := 84) A dX5_keep_52 rfl ?_
    refine gf_X5_154 (x := M 84 29) A dX5_keep_53 rfl (by decide) rfl ?_
    refine m_invVv A (c_X5_put G _ (M 84 28) (M 84 29) (cp2 (up2 M 95 0 (M 84 27)) 106 96 (M 84 27).toNat) (by omega) (by omega)) (by decide) mi_X5_put mv_X5_put cs_X5_100 cf5 dX5_keep_56 rfl (by decide) rfl rfl (Nat.le_of_ble_eq_true rfl) (fun M56 h56 => ?_)
    have h56 := h56.symm
    subst h56
    refine a_aload_n (z := 84) A dX5_keep_59 rfl ?_
    refine gf_X5_46 (r := 97) A dX5_keep_60 rfl (by decide) rfl ?_
    refine a_iconst A dX5_keep_63 ?_
    refine a_aload_n (z := 84) A dX5_keep_64 rfl ?_
    refine gf_X5_104 (x := (nU (M 84 28) (M 84 29))) A dX5_keep_65 rfl (by decide) rfl ?_
    refine a_lastore (i := 0) (j := 0) A dX5_keep_68 rfl (by decide) (by decide) (by omega) rfl ?_
    refine a_aload_n (z := 84) A dX5_keep_69 rfl ?_
    refine gf_X5_50 (r := 98) A dX5_keep_70 rfl (by decide) rfl ?_
    refine a_iconst A dX5_keep_73 ?_
    refine a_aload_n (z := 84) A dX5_keep_74 rfl ?_
    refine gf_X5_108 (x := (nD (M 84 28) (M 84 29))) A dX5_keep_75 rfl (by decide) rfl ?_
    refine a_lastore (i := 0) (j := 0) A dX5_keep_78 rfl (by decide) (by decide) (by omega) rfl ?_
    refine a_aload_n (z := 84) A dX5_keep_79 rfl ?_
    refine gf_X5_151 (x := M 84 27) A dX5_keep_80 rfl (by decide) rfl ?_
    exact m_ireturn A T0 dX5_keep_83 (by exact Or.inr ⟨h14, rfl, rfl⟩)
  · refine a_iconst A dX5_keep_17 ?_
    exact m_ireturn A T0 dX5_keep_18 (by exact Or.inl ⟨h14, rfl, rfl⟩)
theorem GI.bok {M0 M : MM} {n : Nat} (h : GI M0 n M) : BOK M := h.2.2
/-- all rows from b to e are weighed -/
noncomputable def goR (b e g : Int) (M : MM) : MM := gor b e g (M 86 0).toNat 5 0 (up2 M 105 0 (-1))
theorem goR_keep {b e g : Int} {M0 M : MM} (hw : WM M0) (h : GI M0 0 M) : GI M0 0 (goR b e g M) := by
  have e86 := h.1.at (c := 86) (by decide) (by decide) (by decide) 0
  have h0 := hw.2.1
  exact (gor_keep (b := b) (e := e) (g := g) (L := (M 86 0).toNat) hw (by rw [e86]; omega) 5 0 _ (by omega) (h.up 0 (Nat.le_refl _) (-1))).1
theorem BOK.zero {M : MM} (h : M 84 27 = 0) (h1 : 0 ≤ M 84 28 ∧ M 84 28 ≤ 59049) (h2 : 0 ≤ M 84 29 ∧ M 84 29 ≤ 59049) : BOK M := ⟨by omega, fun k hk => by omega, h1, h2, fun q => absurd h q⟩
/-- the sums of the best row, as any call finds them -/
def BB (M : MM) : Prop := (0 ≤ M 84 28 ∧ M 84 28 ≤ 59049) ∧ (0 ≤ M 84 29 ∧ M 84 29 ≤ 59049)
noncomputable def wyM (M : MM) (f t : Int) : MM := if (0 ≤ f ∧ f < M 85 0) ∧ (0 ≤ t ∧ t < M 85 0) ∧ f ≠ t then goR f t 0 (up2 (up2 M 84 0 0) 84 27 0) else up2 (up2 M 84 0 0) 84 27 0
set_option maxRecDepth 100000 in
set_option maxHeartbeats 4000000 in
theorem c_X5_way (G : GG) (l : Launch) (f t : Int) (M : MM) (hf : I32 f) (ht : I32 t) (hw : WM M) (hbb : BB M) : CMi G l yX5_way cX5_way 3 (some .int) 4 [.ref 84, vi f, vi t] M (fun z M' => (wyM M f t 84 27 = 0 ∧ z = -1 ∧ M' = up2 (wyM M f t) 95 0 (wyM M f t 84 27)) ∨ (wyM M f t 84 27 ≠ 0 ∧ z = wyM M f t 84 27 ∧ M' = kpM (wyM M f t))) := by
  refine CT.intro (by decide) (Nat.le_of_ble_eq_true rfl) (fun E hE A T0 => ?_)
  subst hE
  refine a_aload_n (z := 84) A dX5_way_0 rfl ?_
  refine a_iconst A dX5_way_1 ?_
  refine pf_X5_81 A dX5_way_2 rfl (by decide) ?_
  refine a_aload_n (z := 84) A dX5_way_5 rfl ?_
  refine a_iconst A dX5_way_6 ?_
  refine pf_X5_151 A dX5_way_7 rfl (by decide) ?_
  refine a_aload_n (z := 84) A dX5_way_10 rfl ?_
  refine a_iload_n (z := f) A dX5_way_11 rfl ?_
  refine m_invVi A (c_X5_isPost G _ f (up2 (up2 M 84 0 0) 84 27 0) (by omega) hw.1) (by decide) mi_X5_isPost mv_X5_isPost cs_X5_93 cf5 dX5_way_12 rfl (by decide) rfl rfl (Nat.le_of_ble_eq_true rfl) (fun z12 M12 h12 => ?_)
  obtain ⟨e12, hc12⟩ := h12
  have e12 := e12.symm
  subst e12
  have hc12 : (z12 = 1 ∧ 0 ≤ f ∧ f < M 85 0) ∨ (z12 = 0 ∧ (f < 0 ∨ M 85 0 ≤ f)) := hc12
  refine a_if_eq (tgt := 38) A dX5_way_15 (by decide) (by omega) (fun h15 => ?_) (fun h15 => ?_)
  · have hbk : BOK (up2 (up2 M 84 0 0) 84 27 0) := BOK.zero rfl hbb.1 hbb.2
    have hwy : wyM M f t = (up2 (up2 M 84 0 0) 84 27 0) := if_neg (by omega)
    refine a_aload_n (z := 84) A dX5_way_38 rfl ?_
    refine m_invVi A (c_X5_keep G _ (up2 (up2 M 84 0 0) 84 27 0) hbk) (by decide) mi_X5_keep mv_X5_keep cs_X5_177 cf5 dX5_way_39 rfl (by decide) rfl rfl (Nat.le_of_ble_eq_true rfl) (fun z39 M39 h39 => ?_)
    exact m_ireturn A T0 dX5_way_42 (by rw [hwy]; exact h39)
  · refine a_aload_n (z := 84) A dX5_way_18 rfl ?_
    refine a_iload_n (z := t) A dX5_way_19 rfl ?_
    refine m_invVi A (c_X5_isPost G _ t (up2 (up2 M 84 0 0) 84 27 0) (by omega) hw.1) (by decide) mi_X5_isPost mv_X5_isPost cs_X5_93 cf5 dX5_way_20 rfl (by decide) rfl rfl (Nat.le_of_ble_eq_true rfl) (fun z20 M20 h20 => ?_)
    obtain ⟨e20, hc20⟩ := h20
    have e20 := e20.symm
    subst e20
    have hc20 : (z20 = 1 ∧ 0 ≤ t ∧ t < M 85 0) ∨ (z20 = 0 ∧ (t < 0 ∨ M 85 0 ≤ t)) := hc20
    refine a_if_eq (tgt := 38) A dX5_way_23 (by decide) (by omega) (fun h23 => ?_) (fun h23 => ?_)
    · have hbk : BOK (up2 (up2 M 84 0 0) 84 27 0) := BOK.zero rfl hbb.1 hbb.2
      have hwy : wyM M f t = (up2 (up2 M 84 0 0) 84 27 0) := if_neg (by omega)
      refine a_aload_n (z := 84) A dX5_way_38 rfl ?_
      refine m_invVi A (c_X5_keep G _ (up2 (up2 M 84 0 0) 84 27 0) hbk) (by decide) mi_X5_keep mv_X5_keep cs_X5_177 cf5 dX5_way_39 rfl (by decide) rfl rfl (Nat.le_of_ble_eq_true rfl) (fun z39 M39 h39 => ?_)
      exact m_ireturn A T0 dX5_way_42 (by rw [hwy]; exact h39)
    · refine a_iload_n (z := f) A dX5_way_26 rfl ?_
      refine a_iload_n (z := t) A dX5_way_27 rfl ?_
      refine a_icmp_eq (tgt := 38) A dX5_way_28 (by decide) (by omega) (by omega) (fun h28 => ?_) (fun h28 => ?_)
      · have hbk : BOK (up2 (up2 M 84 0 0) 84 27 0) := BOK.zero rfl hbb.1 hbb.2
        have hwy : wyM M f t = (up2 (up2 M 84 0 0) 84 27 0) := if_neg (by omega)
        refine a_aload_n (z := 84) A dX5_way_38 rfl ?_
        refine m_invVi A (c_X5_keep G _ (up2 (up2 M 84 0 0) 84 27 0) hbk) (by decide) mi_X5_keep mv_X5_keep cs_X5_177 cf5 dX5_way_39 rfl (by decide) rfl rfl (Nat.le_of_ble_eq_true rfl) (fun z39 M39 h39 => ?_)
        exact m_ireturn A T0 dX5_way_42 (by rw [hwy]; exact h39)
      · refine a_aload_n (z := 84) A dX5_way_31 rfl ?_
        refine a_iload_n (z := f) A dX5_way_32 rfl ?_
        refine a_iload_n (z := t) A dX5_way_33 rfl ?_
        refine a_iconst A dX5_way_34 ?_
        refine m_invVv A (c_X5_goAll G _ f t 0 (up2 (up2 M 84 0 0) 84 27 0) (by omega) (by omega) (Or.inl rfl) hw (BOK.zero rfl hbb.1 hbb.2)) (by decide) mi_X5_goAll mv_X5_goAll cs_X5_173 cf5 dX5_way_35 rfl (by decide) rfl rfl (Nat.le_of_ble_eq_true rfl) (fun M35 h35 => ?_)
        have h35 := h35.symm
        subst h35
        have hbk : BOK (goR f t 0 (up2 (up2 M 84 0 0) 84 27 0)) := (goR_keep (M0 := (up2 (up2 M 84 0 0) 84 27 0)) hw ⟨FZ.rf _, fun k hk => by omega, BOK.zero rfl hbb.1 hbb.2⟩).bok
        have hwy : wyM M f t = (goR f t 0 (up2 (up2 M 84 0 0) 84 27 0)) := if_pos ⟨by omega, by omega, by omega⟩
        refine a_aload_n (z := 84) A dX5_way_38 rfl ?_
        refine m_invVi A (c_X5_keep G _ (goR f t 0 (up2 (up2 M 84 0 0) 84 27 0)) hbk) (by decide) mi_X5_keep mv_X5_keep cs_X5_177 cf5 dX5_way_39 rfl (by decide) rfl rfl (Nat.le_of_ble_eq_true rfl) (fun z39 M39 h39 => ?_)
        exact m_ireturn A T0 dX5_way_42 (by rw [hwy]; exact h39)
noncomputable def frg : Nat → Nat → MM → MM
  | 0, _, M => M
  | c + 1, v, M => frg c (v + 1) (goR (v : Int) (v : Int) 1 M)
noncomputable def frM (M : MM) : MM := frg ((M 85 0).toNat - 2) 1 (up2 (up2 (up2 M 84 27 0) 84 30 0) 84 31 0)
theorem frg_keep {M0 : MM} (hw : WM M0) : ∀ (c v : Nat) (M : MM), GI M0 0 M → GI M0 0 (frg c v M) := by
  intro c
  induction c with
  | zero => intro v M h; exact h
  | succ c ih => intro v M h; exact ih (v + 1) _ (goR_keep hw h)
set_option maxRecDepth 100000 in
set_option maxHeartbeats 4000000 in
theorem fr_loop5 {G : GG} {E : EE} {P : MM → Prop} (A : AmM G E cX5_findRings 2 yX5_findRings.cls 4) (T0 : RT E G yX5_findRings 108 0 0 none (fun r rf' M' => rf' = rF ∧ r = none ∧ P M')) (M0 : MM) (hw : WM M0) : ∀ (n : Nat) (v : Nat) (M : MM), 5 - v < n → GI M0 0 M → 1 ≤ v → (v : Int) ≤ M0 85 0 - 1 → P (frg ((M0 85 0).toNat - 1 - v) v M) → AM G E 2 17 [.ref 84, vi (v : Int)] [] M := by
  intro n
  induction n with
  | zero => intro v M hn hI hv1 hv hp; exfalso; omega
  | succ n ih =>
    intro v M hn hI hv1 hv hp
    have e85 := hI.1.at (c := 85) (by decide) (by decide) (by decide) 0
    have hp5 := hw.1
    refine a_iload_n (z := (v : Int)) A dX5_findRings_17 rfl ?_
    refine a_aload_n (z := 84) A dX5_findRings_18 rfl ?_
    refine gf_X5_7 (r := 85) A dX5_findRings_19 rfl (by decide) rfl ?_
    refine a_iconst A dX5_findRings_22 ?_
    refine a_iaload (i := 0) (x := M 85 0) A dX5_findRings_23 rfl (by decide) (by decide) (by omega) rfl ?_
    refine a_iconst A dX5_findRings_24 ?_
    refine a_isub (x := (M 85 0)) (y := 1) A dX5_findRings_25 ?_
    refine a_icmp_ge (tgt := 42) A dX5_findRings_26 (by decide) (by omega) (by omega) (fun h26 => ?_) (fun h26 => ?_)
    · exact m_return A T0 dX5_findRings_42 (by rw [show (M0 85 0).toNat - 1 - v = 0 by omega] at hp; exact hp)
    · refine a_aload_n (z := 84) A dX5_findRings_29 rfl ?_
      refine a_iload_n (z := (v : Int)) A dX5_findRings_30 rfl ?_
      refine a_iload_n (z := (v : Int)) A dX5_findRings_31 rfl ?_
      refine a_iconst A dX5_findRings_32 ?_
      refine m_invVv A (c_X5_goAll G _ (v : Int) (v : Int) 1 M (by omega) (by omega) (Or.inr rfl) (hI.1.wm hw) hI.bok) (by decide) mi_X5_goAll mv_X5_goAll cs_X5_173 cf5 dX5_findRings_33 rfl (by decide) rfl rfl (Nat.le_of_ble_eq_true rfl) (fun M33 h33 => ?_)
      have h33 := h33.symm
      subst h33
      refine a_iinc (z := (v : Int)) (lv' := [.ref 84, vi ((v : Int) + 1)]) A dX5_findRings_36 rfl (by decide) rfl ?_
      refine a_goto (tgt := 17) A dX5_findRings_39 (by decide) ?_
      rw [show (M0 85 0).toNat - 1 - v = ((M0 85 0).toNat - 1 - (v + 1)) + 1 by omega] at hp
      exact ih (v + 1) _ (by omega) (goR_keep hw hI) (by omega) (by omega) hp
set_option maxRecDepth 100000 in
set_option maxHeartbeats 4000000 in
theorem c_X5_findRings (G : GG) (l : Launch) (M : MM) (hw : WM M) (hbb : BB M) : CMv G l yX5_findRings cX5_findRings 2 none 4 [.ref 84] M (fun M' => M' = frM M) := by
  refine CT.intro (by decide) (Nat.le_of_ble_eq_true rfl) (fun E hE A T0 => ?_)
  subst hE
  refine a_aload_n (z := 84) A dX5_findRings_0 rfl ?_
  refine a_iconst A dX5_findRings_1 ?_
  refine pf_X5_151 A dX5_findRings_2 rfl (by decide) ?_
  refine a_aload_n (z := 84) A dX5_findRings_5 rfl ?_
  refine a_iconst A dX5_findRings_6 ?_
  refine pf_X5_163 A dX5_findRings_7 rfl (by decide) ?_
  refine a_aload_n (z := 84) A dX5_findRings_10 rfl ?_
  refine a_iconst A dX5_findRings_11 ?_
  refine pf_X5_166 A dX5_findRings_12 rfl (by decide) ?_
  refine a_iconst A dX5_findRings_15 ?_
  refine a_istore_n (lv' := [.ref 84, vi 1]) A dX5_findRings_16 (by decide) rfl ?_
  have hp5 := hw.1
  have h0 : GI (up2 (up2 (up2 M 84 27 0) 84 30 0) 84 31 0) 0 (up2 (up2 (up2 M 84 27 0) 84 30 0) 84 31 0) := ⟨FZ.rf _, fun k hk => by omega, BOK.zero rfl hbb.1 hbb.2⟩
  refine fr_loop5 A T0 (up2 (up2 (up2 M 84 27 0) 84 30 0) 84 31 0) hw 6 1 (up2 (up2 (up2 M 84 27 0) 84 30 0) 84 31 0) (by omega) h0 (by omega) (show ((1 : Nat) : Int) ≤ M 85 0 - 1 by omega) ?_
  show frg ((M 85 0).toNat - 1 - 1) 1 (up2 (up2 (up2 M 84 27 0) 84 30 0) 84 31 0) = frM M
  unfold frM
  rw [show (M 85 0).toNat - 1 - 1 = (M 85 0).toNat - 2 by omega]
theorem frM_keep {M : MM} (hw : WM M) (hbb : BB M) : GI (up2 (up2 (up2 M 84 27 0) 84 30 0) 84 31 0) 0 (frM M) := frg_keep (M0 := up2 (up2 (up2 M 84 27 0) 84 30 0) 84 31 0) hw _ _ _ ⟨FZ.rf _, fun k hk => by omega, BOK.zero rfl hbb.1 hbb.2⟩
set_option maxRecDepth 100000 in
set_option maxHeartbeats 4000000 in
theorem c_X5_ring (G : GG) (l : Launch) (M : MM) (hw : WM M) (hbb : BB M) : CMi G l yX5_ring cX5_ring 1 (some .int) 5 [.ref 84] M (fun z M' => (frM (up2 M 84 0 0) 84 27 = 0 ∧ z = -1 ∧ M' = up2 (frM (up2 M 84 0 0)) 95 0 (frM (up2 M 84 0 0) 84 27)) ∨ (frM (up2 M 84 0 0) 84 27 ≠ 0 ∧ z = frM (up2 M 84 0 0) 84 27 ∧ M' = kpM (frM (up2 M 84 0 0)))) := by
  refine CT.intro (by decide) (Nat.le_of_ble_eq_true rfl) (fun E hE A T0 => ?_)
  subst hE
  refine a_aload_n (z := 84) A dX5_ring_0 rfl ?_
  refine a_iconst A dX5_ring_1 ?_
  refine pf_X5_81 A dX5_ring_2 rfl (by decide) ?_
  refine a_aload_n (z := 84) A dX5_ring_5 rfl ?_
  refine m_invVv A (c_X5_findRings G _ (up2 M 84 0 0) hw hbb) (by decide) mi_X5_findRings mv_X5_findRings cs_X5_181 cf5 dX5_ring_6 rfl (by decide) rfl rfl (Nat.le_of_ble_eq_true rfl) (fun M6 h6 => ?_)
  have h6 := h6.symm
  subst h6
  refine a_aload_n (z := 84) A dX5_ring_9 rfl ?_
  refine m_invVi A (c_X5_keep G _ (frM (up2 M 84 0 0)) (frM_keep (M := up2 M 84 0 0) hw hbb).bok) (by decide) mi_X5_keep mv_X5_keep cs_X5_177 cf5 dX5_ring_10 rfl (by decide) rfl rfl (Nat.le_of_ble_eq_true rfl) (fun z10 M10 h10 => ?_)
  exact m_ireturn A T0 dX5_ring_13 (by exact h10)
set_option maxRecDepth 100000 in
set_option maxHeartbeats 4000000 in
theorem c_X5_count (G : GG) (l : Launch) (w : Int) (M : MM) (hw0 : I32 w) (hw : WM M) (hbb : BB M) : CMi G l yX5_count cX5_count 2 (some .int) 5 [.ref 84, vi w] M (fun z M' => (w = 0 ∧ z = M 85 0 ∧ M' = up2 M 84 0 0) ∨ (w = 1 ∧ z = M 86 0 ∧ M' = up2 M 84 0 0) ∨ (w = 2 ∧ z = frM (up2 M 84 0 0) 84 30 ∧ M' = frM (up2 M 84 0 0)) ∨ (w = 3 ∧ z = frM (up2 M 84 0 0) 84 31 ∧ M' = frM (up2 M 84 0 0)) ∨ (w = 4 ∧ z = M 95 0 ∧ M' = up2 M 84 0 0) ∨ ((w < 0 ∨ 4 < w) ∧ z = -1 ∧ M' = up2 M 84 0 0)) := by
  refine CT.intro (by decide) (Nat.le_of_ble_eq_true rfl) (fun E hE A T0 => ?_)
  subst hE
  refine a_aload_n (z := 84) A dX5_count_0 rfl ?_
  refine a_iconst A dX5_count_1 ?_
  refine pf_X5_81 A dX5_count_2 rfl (by decide) ?_
  refine a_iload_n (z := w) A dX5_count_5 rfl ?_
  by_cases hsw : w < 0 ∨ 4 < w
  · refine a_tswO (tgt := 82) A dX5_count_6 (by omega) hsw (by decide) ?_
    refine a_iconst A dX5_count_82 ?_
    exact m_ireturn A T0 dX5_count_83 (by first | exact Or.inl ⟨by omega, rfl, rfl⟩ | exact Or.inr (Or.inl ⟨by omega, rfl, rfl⟩) | exact Or.inr (Or.inr (Or.inl ⟨by omega, rfl, rfl⟩)) | exact Or.inr (Or.inr (Or.inr (Or.inl ⟨by omega, rfl, rfl⟩))) | exact Or.inr (Or.inr (Or.inr (Or.inr (Or.inl ⟨by omega, rfl, rfl⟩)))) | exact Or.inr (Or.inr (Or.inr (Or.inr (Or.inr ⟨by omega, rfl, rfl⟩)))))
  · have hs2 : w = 0 ∨ w = 1 ∨ w = 2 ∨ w = 3 ∨ w = 4 := by omega
    rcases hs2 with hs | hs | hs | hs | hs
    · refine a_tswI (tgt := 40) (off := 34) A dX5_count_6 (by omega) (by omega) (by omega) (by rw [hs]; rfl) (by decide) ?_
      refine a_aload_n (z := 84) A dX5_count_40 rfl ?_
      refine gf_X5_7 (r := 85) A dX5_count_41 rfl (by decide) rfl ?_
      refine a_iconst A dX5_count_44 ?_
      refine a_iaload (i := 0) (x := M 85 0) A dX5_count_45 rfl (by decide) (by decide) (by omega) rfl ?_
      exact m_ireturn A T0 dX5_count_46 (by first | exact Or.inl ⟨by omega, rfl, rfl⟩ | exact Or.inr (Or.inl ⟨by omega, rfl, rfl⟩) | exact Or.inr (Or.inr (Or.inl ⟨by omega, rfl, rfl⟩)) | exact Or.inr (Or.inr (Or.inr (Or.inl ⟨by omega, rfl, rfl⟩))) | exact Or.inr (Or.inr (Or.inr (Or.inr (Or.inl ⟨by omega, rfl, rfl⟩)))) | exact Or.inr (Or.inr (Or.inr (Or.inr (Or.inr ⟨by omega, rfl, rfl⟩)))))
    · refine a_tswI (tgt := 47) (off := 41) A dX5_count_6 (by omega) (by omega) (by omega) (by rw [hs]; rfl) (by decide) ?_
      refine a_aload_n (z := 84) A dX5_count_47 rfl ?_
      refine gf_X5_13 (r := 86) A dX5_count_48 rfl (by decide) rfl ?_
      refine a_iconst A dX5_count_51 ?_
      refine a_iaload (i := 0) (x := M 86 0) A dX5_count_52 rfl (by decide) (by decide) (by omega) rfl ?_
      exact m_ireturn A T0 dX5_count_53 (by first | exact Or.inl ⟨by omega, rfl, rfl⟩ | exact Or.inr (Or.inl ⟨by omega, rfl, rfl⟩) | exact Or.inr (Or.inr (Or.inl ⟨by omega, rfl, rfl⟩)) | exact Or.inr (Or.inr (Or.inr (Or.inl ⟨by omega, rfl, rfl⟩))) | exact Or.inr (Or.inr (Or.inr (Or.inr (Or.inl ⟨by omega, rfl, rfl⟩)))) | exact Or.inr (Or.inr (Or.inr (Or.inr (Or.inr ⟨by omega, rfl, rfl⟩)))))
    · refine a_tswI (tgt := 54) (off := 48) A dX5_count_6 (by omega) (by omega) (by omega) (by rw [hs]; rfl) (by decide) ?_
      refine a_aload_n (z := 84) A dX5_count_54 rfl ?_
      refine m_invVv A (c_X5_findRings G _ (up2 M 84 0 0) hw hbb) (by decide) mi_X5_findRings mv_X5_findRings cs_X5_181 cf5 dX5_count_55 rfl (by decide) rfl rfl (Nat.le_of_ble_eq_true rfl) (fun M55 h55 => ?_)
      have h55 := h55.symm
      subst h55
      refine a_iload_n (z := w) A dX5_count_58 rfl ?_
      refine a_iconst A dX5_count_59 ?_
      refine a_icmp_ne (tgt := 70) A dX5_count_60 (by decide) (by omega) (by omega) (fun h60 => ?_) (fun h60 => ?_)
      · refine a_aload_n (z := 84) A dX5_count_70 rfl ?_
        refine gf_X5_166 (x := (frM (up2 M 84 0 0)) 84 31) A dX5_count_71 rfl (by decide) rfl ?_
        exact m_ireturn A T0 dX5_count_74 (by first | exact Or.inl ⟨by omega, rfl, rfl⟩ | exact Or.inr (Or.inl ⟨by omega, rfl, rfl⟩) | exact Or.inr (Or.inr (Or.inl ⟨by omega, rfl, rfl⟩)) | exact Or.inr (Or.inr (Or.inr (Or.inl ⟨by omega, rfl, rfl⟩))) | exact Or.inr (Or.inr (Or.inr (Or.inr (Or.inl ⟨by omega, rfl, rfl⟩)))) | exact Or.inr (Or.inr (Or.inr (Or.inr (Or.inr ⟨by omega, rfl, rfl⟩)))))
      · refine a_aload_n (z := 84) A dX5_count_63 rfl ?_
        refine gf_X5_163 (x := (frM (up2 M 84 0 0)) 84 30) A dX5_count_64 rfl (by decide) rfl ?_
        refine a_goto (tgt := 74) A dX5_count_67 (by decide) ?_
        exact m_ireturn A T0 dX5_count_74 (by first | exact Or.inl ⟨by omega, rfl, rfl⟩ | exact Or.inr (Or.inl ⟨by omega, rfl, rfl⟩) | exact Or.inr (Or.inr (Or.inl ⟨by omega, rfl, rfl⟩)) | exact Or.inr (Or.inr (Or.inr (Or.inl ⟨by omega, rfl, rfl⟩))) | exact Or.inr (Or.inr (Or.inr (Or.inr (Or.inl ⟨by omega, rfl, rfl⟩)))) | exact Or.inr (Or.inr (Or.inr (Or.inr (Or.inr ⟨by omega, rfl, rfl⟩)))))
    · refine a_tswI (tgt := 54) (off := 48) A dX5_count_6 (by omega) (by omega) (by omega) (by rw [hs]; rfl) (by decide) ?_
      refine a_aload_n (z := 84) A dX5_count_54 rfl ?_
      refine m_invVv A (c_X5_findRings G _ (up2 M 84 0 0) hw hbb) (by decide) mi_X5_findRings mv_X5_findRings cs_X5_181 cf5 dX5_count_55 rfl (by decide) rfl rfl (Nat.le_of_ble_eq_true rfl) (fun M55 h55 => ?_)
      have h55 := h55.symm
      subst h55
      refine a_iload_n (z := w) A dX5_count_58 rfl ?_
      refine a_iconst A dX5_count_59 ?_
      refine a_icmp_ne (tgt := 70) A dX5_count_60 (by decide) (by omega) (by omega) (fun h60 => ?_) (fun h60 => ?_)
      · refine a_aload_n (z := 84) A dX5_count_70 rfl ?_
        refine gf_X5_166 (x := (frM (up2 M 84 0 0)) 84 31) A dX5_count_71 rfl (by decide) rfl ?_
        exact m_ireturn A T0 dX5_count_74 (by first | exact Or.inl ⟨by omega, rfl, rfl⟩ | exact Or.inr (Or.inl ⟨by omega, rfl, rfl⟩) | exact Or.inr (Or.inr (Or.inl ⟨by omega, rfl, rfl⟩)) | exact Or.inr (Or.inr (Or.inr (Or.inl ⟨by omega, rfl, rfl⟩))) | exact Or.inr (Or.inr (Or.inr (Or.inr (Or.inl ⟨by omega, rfl, rfl⟩)))) | exact Or.inr (Or.inr (Or.inr (Or.inr (Or.inr ⟨by omega, rfl, rfl⟩)))))
      · refine a_aload_n (z := 84) A dX5_count_63 rfl ?_
        refine gf_X5_163 (x := (frM (up2 M 84 0 0)) 84 30) A dX5_count_64 rfl (by decide) rfl ?_
        refine a_goto (tgt := 74) A dX5_count_67 (by decide) ?_
        exact m_ireturn A T0 dX5_count_74 (by first | exact Or.inl ⟨by omega, rfl, rfl⟩ | exact Or.inr (Or.inl ⟨by omega, rfl, rfl⟩) | exact Or.inr (Or.inr (Or.inl ⟨by omega, rfl, rfl⟩)) | exact Or.inr (Or.inr (Or.inr (Or.inl ⟨by omega, rfl, rfl⟩))) | exact Or.inr (Or.inr (Or.inr (Or.inr (Or.inl ⟨by omega, rfl, rfl⟩)))) | exact Or.inr (Or.inr (Or.inr (Or.inr (Or.inr ⟨by omega, rfl, rfl⟩)))))
    · refine a_tswI (tgt := 75) (off := 69) A dX5_count_6 (by omega) (by omega) (by omega) (by rw [hs]; rfl) (by decide) ?_
      refine a_aload_n (z := 84) A dX5_count_75 rfl ?_
      refine gf_X5_40 (r := 95) A dX5_count_76 rfl (by decide) rfl ?_
      refine a_iconst A dX5_count_79 ?_
      refine a_iaload (i := 0) (x := M 95 0) A dX5_count_80 rfl (by decide) (by decide) (by omega) rfl ?_
      exact m_ireturn A T0 dX5_count_81 (by first | exact Or.inl ⟨by omega, rfl, rfl⟩ | exact Or.inr (Or.inl ⟨by omega, rfl, rfl⟩) | exact Or.inr (Or.inr (Or.inl ⟨by omega, rfl, rfl⟩)) | exact Or.inr (Or.inr (Or.inr (Or.inl ⟨by omega, rfl, rfl⟩))) | exact Or.inr (Or.inr (Or.inr (Or.inr (Or.inl ⟨by omega, rfl, rfl⟩)))) | exact Or.inr (Or.inr (Or.inr (Or.inr (Or.inr ⟨by omega, rfl, rfl⟩)))))
end
section
theorem fr_lt {e f g h : Nat} (hf : 0 < f) (hh : 0 < h) (hq : e / f < g / h) : e * h < g * f := by
  have h1 : e < f * (e / f + 1) := by have := Nat.div_add_mod e f; have := Nat.mod_lt e hf; rw [Nat.mul_add]; omega
  have h2 : h * (g / h) ≤ g := Nat.mul_div_le g h
  calc e * h < f * (e / f + 1) * h := Nat.mul_lt_mul_of_pos_right h1 hh
    _ ≤ f * (g / h) * h := Nat.mul_le_mul_right h (Nat.mul_le_mul_left f hq)
    _ = (h * (g / h)) * f := by rw [Nat.mul_comm h, Nat.mul_assoc, Nat.mul_comm f]
    _ ≤ g * f := Nat.mul_le_mul_right f h2
theorem fr_eq {e f g h : Nat} (hq : e / f = g / h) : e * h < g * f ↔ e % f * h < g % h * f := by
  have h1 := Nat.div_add_mod e f
  have h2 := Nat.div_add_mod g h
  have e1 : e * h = f * (e / f) * h + e % f * h := by rw [← Nat.add_mul, h1]
  have e2 : g * f = f * (e / f) * h + g % h * f := by
    rw [hq]
    have : f * (g / h) * h = h * (g / h) * f := by rw [Nat.mul_comm f, Nat.mul_comm h, Nat.mul_assoc, Nat.mul_assoc, Nat.mul_comm f h]
    rw [this, ← Nat.add_mul, h2]
  omega
theorem sub_mod (e f : Nat) : (e : Int) - (e : Int).tdiv (f : Int) * (f : Int) = ((e % f : Nat) : Int) := by
  have h1 := Nat.div_add_mod e f
  have h2 : (e : Int).tdiv (f : Int) = ((e / f : Nat) : Int) := rfl
  rw [h2]
  have h3 : ((e / f : Nat) : Int) * (f : Int) = ((f * (e / f) : Nat) : Int) := by push_cast; rw [Int.mul_comm]
  rw [h3]
  omega
set_option maxRecDepth 100000 in
set_option maxHeartbeats 4000000 in
theorem less_loop5 {G : GG} {E : EE} {P : Int → MM → Prop} (A : AmM G E cX5_isLess 24 yX5_isLess.cls 1) (T0 : RT E G yX5_isLess 108 0 0 (some .boolean) (fun r rf' M' => rf' = rF ∧ ∃ z, r = some (vi z) ∧ P z M')) (a b c d : Int) (M : MM) : ∀ (n : Nat) (e f g h : Nat) (w16 w18 w20 w22 : Value), f + h < n → 0 < f → 0 < h → e < 9223372036854775808 → f < 9223372036854775808 → g < 9223372036854775808 → h < 9223372036854775808 → (e * h < g * f → P 1 M) → (¬ e * h < g * f → P 0 M) → AM G E 24 14 [vl a, jk, vl b, jk, vl c, jk, vl d, jk, vl (e : Int), jk, vl (f : Int), jk, vl (g : Int), jk, vl (h : Int), jk, w16, jk, w18, jk, w20, jk, w22, jk] [] M := by
  intro n
  induction n with
  | zero => intro e f g h w16 w18 w20 w22 hn hf hh b1 b2 b3 b4 hp1 hp0; exfalso; omega
  | succ n ih =>
    intro e f g h w16 w18 w20 w22 hn hf hh b1 b2 b3 b4 hp1 hp0
    have ex : (e : Int).tdiv (f : Int) = ((e / f : Nat) : Int) := rfl
    have ey : (g : Int).tdiv (h : Int) = ((g / h : Nat) : Int) := rfl
    have px : (0 : Int) ≤ (e : Int) / (f : Int) := Int.ediv_nonneg (by omega) (by omega)
    have py : (0 : Int) ≤ (g : Int) / (h : Int) := Int.ediv_nonneg (by omega) (by omega)
    have bx : e / f ≤ e := Nat.div_le_self _ _
    have by_ : g / h ≤ g := Nat.div_le_self _ _
    have me := Nat.mod_lt e hf
    have mg := Nat.mod_lt g hh
    have se := sub_mod e f
    have sg := sub_mod g h
    have hq : e / f = g / h → (e * h < g * f ↔ e % f * h < g % h * f) := fr_eq
    refine a_lload (z := (e : Int)) A dX5_isLess_14 rfl ?_
    refine a_lload (z := (f : Int)) A dX5_isLess_16 rfl ?_
    refine a_ldiv A dX5_isLess_18 (by omega) (by omega) (by omega) ?_
    refine a_lstore (lv' := [vl a, jk, vl b, jk, vl c, jk, vl d, jk, vl (e : Int), jk, vl (f : Int), jk, vl (g : Int), jk, vl (h : Int), jk, vl ((e : Int).tdiv (f : Int)), jk, w18, jk, w20, jk, w22, jk]) A dX5_isLess_19 (by decide) rfl ?_
    refine a_lload (z := (g : Int)) A dX5_isLess_21 rfl ?_
    refine a_lload (z := (h : Int)) A dX5_isLess_23 rfl ?_
    refine a_ldiv A dX5_isLess_25 (by omega) (by omega) (by omega) ?_
    refine a_lstore (lv' := [vl a, jk, vl b, jk, vl c, jk, vl d, jk, vl (e : Int), jk, vl (f : Int), jk, vl (g : Int), jk, vl (h : Int), jk, vl ((e : Int).tdiv (f : Int)), jk, vl ((g : Int).tdiv (h : Int)), jk, w20, jk, w22, jk]) A dX5_isLess_26 (by decide) rfl ?_
    refine a_lload (z := ((e : Int).tdiv (f : Int))) A dX5_isLess_28 rfl ?_
    refine a_lload (z := ((g : Int).tdiv (h : Int))) A dX5_isLess_30 rfl ?_
    refine a_lcmp_eq (tgt := 50) A dX5_isLess_32 dX5_isLess_33 (by decide) (by omega) (by omega) (fun h32 => ?_) (fun h32 => ?_)
    · refine a_lload (z := (e : Int)) A dX5_isLess_50 rfl ?_
      refine a_lload (z := ((e : Int).tdiv (f : Int))) A dX5_isLess_52 rfl ?_
      refine a_lload (z := (f : Int)) A dX5_isLess_54 rfl ?_
      refine a_lmul (x := ((e : Int).tdiv (f : Int))) (y := (f : Int)) A dX5_isLess_56 ?_
      refine a_lsub (x := (e : Int)) (y := (((e : Int).tdiv (f : Int)) * (f : Int))) A dX5_isLess_57 ?_
      refine a_lstore (lv' := [vl a, jk, vl b, jk, vl c, jk, vl d, jk, vl ((e : Int) - (((e : Int).tdiv (f : Int)) * (f : Int))), jk, vl (f : Int), jk, vl (g : Int), jk, vl (h : Int), jk, vl ((e : Int).tdiv (f : Int)), jk, vl ((g : Int).tdiv (h : Int)), jk, w20, jk, w22, jk]) A dX5_isLess_58 (by decide) rfl ?_
      refine a_lload (z := (g : Int)) A dX5_isLess_60 rfl ?_
      refine a_lload (z := ((g : Int).tdiv (h : Int))) A dX5_isLess_62 rfl ?_
      refine a_lload (z := (h : Int)) A dX5_isLess_64 rfl ?_
      refine a_lmul (x := ((g : Int).tdiv (h : Int))) (y := (h : Int)) A dX5_isLess_66 ?_
      refine a_lsub (x := (g : Int)) (y := (((g : Int).tdiv (h : Int)) * (h : Int))) A dX5_isLess_67 ?_
      refine a_lstore (lv' := [vl a, jk, vl b, jk, vl c, jk, vl d, jk, vl ((e : Int) - (((e : Int).tdiv (f : Int)) * (f : Int))), jk, vl (f : Int), jk, vl ((g : Int) - (((g : Int).tdiv (h : Int)) * (h : Int))), jk, vl (h : Int), jk, vl ((e : Int).tdiv (f : Int)), jk, vl ((g : Int).tdiv (h : Int)), jk, w20, jk, w22, jk]) A dX5_isLess_68 (by decide) rfl ?_
      refine a_lload (z := ((e : Int) - (((e : Int).tdiv (f : Int)) * (f : Int)))) A dX5_isLess_70 rfl ?_
      refine a_lconst0 A dX5_isLess_72 ?_
      refine a_lcmp_eq (tgt := 84) A dX5_isLess_73 dX5_isLess_74 (by decide) (by omega) (by omega) (fun h73 => ?_) (fun h73 => ?_)
      · refine a_lload (z := ((e : Int) - (((e : Int).tdiv (f : Int)) * (f : Int)))) A dX5_isLess_84 rfl ?_
        refine a_lconst0 A dX5_isLess_86 ?_
        refine a_lcmp_ne (tgt := 102) A dX5_isLess_87 dX5_isLess_88 (by decide) (by omega) (by omega) (fun h87 => ?_) (fun h87 => ?_)
        · refine a_iconst A dX5_isLess_102 ?_
          exact m_zreturn A T0 dX5_isLess_103 (by first | exact Or.inl rfl | exact Or.inr rfl | omega) (by first | exact hp1 ((hq (by omega)).mpr (by rw [show e % f = 0 by omega, Nat.zero_mul]; exact Nat.mul_pos (by omega) hf)) | exact hp0 (fun q => by have q2 := (hq (by omega)).mp q; first | (rw [show g % h = 0 by omega, Nat.zero_mul] at q2; omega) | omega))
        · refine a_lload (z := ((g : Int) - (((g : Int).tdiv (h : Int)) * (h : Int)))) A dX5_isLess_91 rfl ?_
          refine a_lconst0 A dX5_isLess_93 ?_
          refine a_lcmp_le (tgt := 102) A dX5_isLess_94 dX5_isLess_95 (by decide) (by omega) (by omega) (fun h94 => ?_) (fun h94 => ?_)
          · refine a_iconst A dX5_isLess_102 ?_
            exact m_zreturn A T0 dX5_isLess_103 (by first | exact Or.inl rfl | exact Or.inr rfl | omega) (by first | exact hp1 ((hq (by omega)).mpr (by rw [show e % f = 0 by omega, Nat.zero_mul]; exact Nat.mul_pos (by omega) hf)) | exact hp0 (fun q => by have q2 := (hq (by omega)).mp q; first | (rw [show g % h = 0 by omega, Nat.zero_mul] at q2; omega) | omega))
          · refine a_iconst A dX5_isLess_98 ?_
            refine a_goto (tgt := 103) A dX5_isLess_99 (by decide) ?_
            exact m_zreturn A T0 dX5_isLess_103 (by first | exact Or.inl rfl | exact Or.inr rfl | omega) (by first | exact hp1 ((hq (by omega)).mpr (by rw [show e % f = 0 by omega, Nat.zero_mul]; exact Nat.mul_pos (by omega) hf)) | exact hp0 (fun q => by have q2 := (hq (by omega)).mp q; first | (rw [show g % h = 0 by omega, Nat.zero_mul] at q2; omega) | omega))
      · refine a_lload (z := ((g : Int) - (((g : Int).tdiv (h : Int)) * (h : Int)))) A dX5_isLess_77 rfl ?_
        refine a_lconst0 A dX5_isLess_79 ?_
        refine a_lcmp_ne (tgt := 104) A dX5_isLess_80 dX5_isLess_81 (by decide) (by omega) (by omega) (fun h80 => ?_) (fun h80 => ?_)
        · refine a_lload (z := ((e : Int) - (((e : Int).tdiv (f : Int)) * (f : Int)))) A dX5_isLess_104 rfl ?_
          refine a_lstore (lv' := [vl a, jk, vl b, jk, vl c, jk, vl d, jk, vl ((e : Int) - (((e : Int).tdiv (f : Int)) * (f : Int))), jk, vl (f : Int), jk, vl ((g : Int) - (((g : Int).tdiv (h : Int)) * (h : Int))), jk, vl (h : Int), jk, vl ((e : Int).tdiv (f : Int)), jk, vl ((g : Int).tdiv (h : Int)), jk, vl ((e : Int) - (((e : Int).tdiv (f : Int)) * (f : Int))), jk, w22, jk]) A dX5_isLess_106 (by decide) rfl ?_
          refine a_lload (z := (f : Int)) A dX5_isLess_108 rfl ?_
          refine a_lstore (lv' := [vl a, jk, vl b, jk, vl c, jk, vl d, jk, vl ((e : Int) - (((e : Int).tdiv (f : Int)) * (f : Int))), jk, vl (f : Int), jk, vl ((g : Int) - (((g : Int).tdiv (h : Int)) * (h : Int))), jk, vl (h : Int), jk, vl ((e : Int).tdiv (f : Int)), jk, vl ((g : Int).tdiv (h : Int)), jk, vl ((e : Int) - (((e : Int).tdiv (f : Int)) * (f : Int))), jk, vl (f : Int), jk]) A dX5_isLess_110 (by decide) rfl ?_
          refine a_lload (z := (h : Int)) A dX5_isLess_112 rfl ?_
          refine a_lstore (lv' := [vl a, jk, vl b, jk, vl c, jk, vl d, jk, vl (h : Int), jk, vl (f : Int), jk, vl ((g : Int) - (((g : Int).tdiv (h : Int)) * (h : Int))), jk, vl (h : Int), jk, vl ((e : Int).tdiv (f : Int)), jk, vl ((g : Int).tdiv (h : Int)), jk, vl ((e : Int) - (((e : Int).tdiv (f : Int)) * (f : Int))), jk, vl (f : Int), jk]) A dX5_isLess_114 (by decide) rfl ?_
          refine a_lload (z := ((g : Int) - (((g : Int).tdiv (h : Int)) * (h : Int)))) A dX5_isLess_116 rfl ?_
          refine a_lstore (lv' := [vl a, jk, vl b, jk, vl c, jk, vl d, jk, vl (h : Int), jk, vl ((g : Int) - (((g : Int).tdiv (h : Int)) * (h : Int))), jk, vl ((g : Int) - (((g : Int).tdiv (h : Int)) * (h : Int))), jk, vl (h : Int), jk, vl ((e : Int).tdiv (f : Int)), jk, vl ((g : Int).tdiv (h : Int)), jk, vl ((e : Int) - (((e : Int).tdiv (f : Int)) * (f : Int))), jk, vl (f : Int), jk]) A dX5_isLess_118 (by decide) rfl ?_
          refine a_lload (z := (f : Int)) A dX5_isLess_120 rfl ?_
          refine a_lstore (lv' := [vl a, jk, vl b, jk, vl c, jk, vl d, jk, vl (h : Int), jk, vl ((g : Int) - (((g : Int).tdiv (h : Int)) * (h : Int))), jk, vl (f : Int), jk, vl (h : Int), jk, vl ((e : Int).tdiv (f : Int)), jk, vl ((g : Int).tdiv (h : Int)), jk, vl ((e : Int) - (((e : Int).tdiv (f : Int)) * (f : Int))), jk, vl (f : Int), jk]) A dX5_isLess_122 (by decide) rfl ?_
          refine a_lload (z := ((e : Int) - (((e : Int).tdiv (f : Int)) * (f : Int)))) A dX5_isLess_124 rfl ?_
          refine a_lstore (lv' := [vl a, jk, vl b, jk, vl c, jk, vl d, jk, vl (h : Int), jk, vl ((g : Int) - (((g : Int).tdiv (h : Int)) * (h : Int))), jk, vl (f : Int), jk, vl ((e : Int) - (((e : Int).tdiv (f : Int)) * (f : Int))), jk, vl ((e : Int).tdiv (f : Int)), jk, vl ((g : Int).tdiv (h : Int)), jk, vl ((e : Int) - (((e : Int).tdiv (f : Int)) * (f : Int))), jk, vl (f : Int), jk]) A dX5_isLess_126 (by decide) rfl ?_
          refine a_goto (tgt := 14) A dX5_isLess_128 (by decide) ?_
          rw [se, sg]
          have hq2 := hq (by omega)
          exact ih h (g % h) f (e % f) _ _ _ _ (by omega) (by omega) (by omega) (by omega) (by omega) (by omega) (by omega) (fun q => hp1 (hq2.mpr (by rw [Nat.mul_comm h, Nat.mul_comm f] at q; exact q))) (fun q => hp0 (fun q2 => q (by rw [Nat.mul_comm h, Nat.mul_comm f]; exact hq2.mp q2)))
        · refine a_lload (z := ((e : Int) - (((e : Int).tdiv (f : Int)) * (f : Int)))) A dX5_isLess_84 rfl ?_
          refine a_lconst0 A dX5_isLess_86 ?_
          refine a_lcmp_ne (tgt := 102) A dX5_isLess_87 dX5_isLess_88 (by decide) (by omega) (by omega) (fun h87 => ?_) (fun h87 => ?_)
          · refine a_iconst A dX5_isLess_102 ?_
            exact m_zreturn A T0 dX5_isLess_103 (by first | exact Or.inl rfl | exact Or.inr rfl | omega) (by first | exact hp1 ((hq (by omega)).mpr (by rw [show e % f = 0 by omega, Nat.zero_mul]; exact Nat.mul_pos (by omega) hf)) | exact hp0 (fun q => by have q2 := (hq (by omega)).mp q; first | (rw [show g % h = 0 by omega, Nat.zero_mul] at q2; omega) | omega))
          · refine a_lload (z := ((g : Int) - (((g : Int).tdiv (h : Int)) * (h : Int)))) A dX5_isLess_91 rfl ?_
            refine a_lconst0 A dX5_isLess_93 ?_
            refine a_lcmp_le (tgt := 102) A dX5_isLess_94 dX5_isLess_95 (by decide) (by omega) (by omega) (fun h94 => ?_) (fun h94 => ?_)
            · refine a_iconst A dX5_isLess_102 ?_
              exact m_zreturn A T0 dX5_isLess_103 (by first | exact Or.inl rfl | exact Or.inr rfl | omega) (by first | exact hp1 ((hq (by omega)).mpr (by rw [show e % f = 0 by omega, Nat.zero_mul]; exact Nat.mul_pos (by omega) hf)) | exact hp0 (fun q => by have q2 := (hq (by omega)).mp q; first | (rw [show g % h = 0 by omega, Nat.zero_mul] at q2; omega) | omega))
            · refine a_iconst A dX5_isLess_98 ?_
              refine a_goto (tgt := 103) A dX5_isLess_99 (by decide) ?_
              exact m_zreturn A T0 dX5_isLess_103 (by first | exact Or.inl rfl | exact Or.inr rfl | omega) (by first | exact hp1 ((hq (by omega)).mpr (by rw [show e % f = 0 by omega, Nat.zero_mul]; exact Nat.mul_pos (by omega) hf)) | exact hp0 (fun q => by have q2 := (hq (by omega)).mp q; first | (rw [show g % h = 0 by omega, Nat.zero_mul] at q2; omega) | omega))
    · refine a_lload (z := ((e : Int).tdiv (f : Int))) A dX5_isLess_36 rfl ?_
      refine a_lload (z := ((g : Int).tdiv (h : Int))) A dX5_isLess_38 rfl ?_
      refine a_lcmp_ge (tgt := 48) A dX5_isLess_40 dX5_isLess_41 (by decide) (by omega) (by omega) (fun h40 => ?_) (fun h40 => ?_)
      · refine a_iconst A dX5_isLess_48 ?_
        exact m_zreturn A T0 dX5_isLess_49 (by first | exact Or.inl rfl | exact Or.inr rfl | omega) (by first | exact hp1 (fr_lt hf hh (by omega)) | exact hp0 (fun q => by have := fr_lt (e := g) (f := h) (g := e) (h := f) hh hf (by omega); omega))
      · refine a_iconst A dX5_isLess_44 ?_
        refine a_goto (tgt := 49) A dX5_isLess_45 (by decide) ?_
        exact m_zreturn A T0 dX5_isLess_49 (by first | exact Or.inl rfl | exact Or.inr rfl | omega) (by first | exact hp1 (fr_lt hf hh (by omega)) | exact hp0 (fun q => by have := fr_lt (e := g) (f := h) (g := e) (h := f) hh hf (by omega); omega))
set_option maxRecDepth 100000 in
set_option maxHeartbeats 4000000 in
theorem c_X5_isLess (G : GG) (l : Launch) (a b c d : Nat) (M : MM) (ha : a < 9223372036854775808) (hb : 0 < b ∧ b < 9223372036854775808) (hc : c < 9223372036854775808) (hd : 0 < d ∧ d < 9223372036854775808) : CMi G l yX5_isLess cX5_isLess 24 (some .boolean) 1 [vl (a : Int), vl (b : Int), vl (c : Int), vl (d : Int)] M (fun z M' => M' = M ∧ ((z = 1 ∧ a * d < c * b) ∨ (z = 0 ∧ ¬ a * d < c * b))) := by
  refine CT.intro (by decide) (Nat.le_of_ble_eq_true rfl) (fun E hE A T0 => ?_)
  subst hE
  refine a_lload_n (z := (a : Int)) A dX5_isLess_0 rfl ?_
  refine a_lstore (lv' := [vl (a : Int), jk, vl (b : Int), jk, vl (c : Int), jk, vl (d : Int), jk, vl (a : Int), jk, jk, jk, jk, jk, jk, jk, jk, jk, jk, jk, jk, jk, jk, jk]) A dX5_isLess_1 (by decide) rfl ?_
  refine a_lload_n (z := (b : Int)) A dX5_isLess_3 rfl ?_
  refine a_lstore (lv' := [vl (a : Int), jk, vl (b : Int), jk, vl (c : Int), jk, vl (d : Int), jk, vl (a : Int), jk, vl (b : Int), jk, jk, jk, jk, jk, jk, jk, jk, jk, jk, jk, jk, jk]) A dX5_isLess_4 (by decide) rfl ?_
  refine a_lload (z := (c : Int)) A dX5_isLess_6 rfl ?_
  refine a_lstore (lv' := [vl (a : Int), jk, vl (b : Int), jk, vl (c : Int), jk, vl (d : Int), jk, vl (a : Int), jk, vl (b : Int), jk, vl (c : Int), jk, jk, jk, jk, jk, jk, jk, jk, jk, jk, jk]) A dX5_isLess_8 (by decide) rfl ?_
  refine a_lload (z := (d : Int)) A dX5_isLess_10 rfl ?_
  refine a_lstore (lv' := [vl (a : Int), jk, vl (b : Int), jk, vl (c : Int), jk, vl (d : Int), jk, vl (a : Int), jk, vl (b : Int), jk, vl (c : Int), jk, vl (d : Int), jk, jk, jk, jk, jk, jk, jk, jk, jk]) A dX5_isLess_12 (by decide) rfl ?_
  exact less_loop5 A T0 _ _ _ _ M (b + d + 1) a b c d jk jk jk jk (by omega) hb.1 hd.1 ha hb.2 hc hd.2 (fun q => ⟨rfl, Or.inl ⟨rfl, q⟩⟩) (fun q => ⟨rfl, Or.inr ⟨rfl, q⟩⟩)
/-- the share's upper number that is reckoned with -/
def sup (M : MM) (w : Int) (k : Nat) : Int := if M 90 k + (if w = 0 then 0 else if w = 1 then -(M 92 k) else M 92 k) < 0 then 0 else M 90 k + (if w = 0 then 0 else if w = 1 then -(M 92 k) else M 92 k)
def ssK (M : MM) (w : Int) (i : Nat) : MM := fun c => if c = 99 then (fun k => if k < i then sup M w k else M 99 k) else if c = 100 then (fun k => if k < i then M 91 k else M 100 k) else if c = 101 then (fun k => if k < i then M 89 k else M 101 k) else M c
theorem ssK_0 (M : MM) (w : Int) : ssK M w 0 = M := by
  funext c k
  unfold ssK
  split
  · rename_i h; simp [h]
  · split
    · rename_i h; simp [h]
    · split
      · rename_i h; simp [h]
      · rfl
theorem ssK_succ (M : MM) (w : Int) (i : Nat) : up2 (up2 (up2 (ssK M w i) 99 i (sup M w i)) 100 i (M 91 i)) 101 i (M 89 i) = ssK M w (i + 1) := by
  funext c k
  by_cases h1 : c = 99
  · subst h1
    simp only [up2, ssK, if_true]
    by_cases hk : k = i
    · subst hk; simp
    · by_cases h2 : k < i
      · simp [hk, h2, Nat.lt_succ_of_lt h2]
      · simp [hk, h2, show ¬ k < i + 1 by omega]
  · by_cases h2 : c = 100
    · subst h2
      simp only [up2, ssK]
      by_cases hk : k = i
      · subst hk; simp
      · by_cases h2 : k < i
        · simp [hk, h2, Nat.lt_succ_of_lt h2]
        · simp [hk, h2, show ¬ k < i + 1 by omega]
    · by_cases h3 : c = 101
      · subst h3
        simp only [up2, ssK]
        by_cases hk : k = i
        · subst hk; simp
        · by_cases h2 : k < i
          · simp [hk, h2, Nat.lt_succ_of_lt h2]
          · simp [hk, h2, show ¬ k < i + 1 by omega]
      · simp [up2, ssK, h1, h2, h3]
set_option maxRecDepth 100000 in
set_option maxHeartbeats 4000000 in
theorem ss_loop5 {G : GG} {E : EE} {P : MM → Prop} (A : AmM G E cX5_setShares 4 yX5_setShares.cls 1) (T0 : RT E G yX5_setShares 108 0 0 none (fun r rf' M' => rf' = rF ∧ r = none ∧ P M')) (M : MM) (w : Int) (hw0 : 0 ≤ w ∧ w ≤ 2) (hw : WM M) (hp : P (ssK M w (M 86 0).toNat)) : ∀ (n : Nat) (i : Nat) (w3 : Value), (M 86 0).toNat - i < n → (i : Int) ≤ M 86 0 → AM G E 4 2 [.ref 84, vi w, vi (i : Int), w3] [] (ssK M w i) := by
  intro n
  induction n with
  | zero => intro i w3 hn hi; exfalso; omega
  | succ n ih =>
    intro i w3 hn hi
    have hL := hw.2.1
    have hl0 : (i : Int) < M 86 0 → LW M i := hw.2.2 i
    unfold LW at hl0
    refine a_iload_n (z := (i : Int)) A dX5_setShares_2 rfl ?_
    refine a_aload_n (z := 84) A dX5_setShares_3 rfl ?_
    refine gf_X5_13 (r := 86) A dX5_setShares_4 rfl (by decide) rfl ?_
    refine a_iconst A dX5_setShares_7 ?_
    refine a_iaload (i := 0) (x := M 86 0) A dX5_setShares_8 rfl (by decide) (by decide) (by omega) rfl ?_
    refine a_icmp_ge (tgt := 101) A dX5_setShares_9 (by decide) (by omega) (by omega) (fun h9 => ?_) (fun h9 => ?_)
    · exact m_return A T0 dX5_setShares_101 (by rw [show (M 86 0).toNat = i by omega] at hp; exact hp)
    · refine a_iload_n (z := w) A dX5_setShares_12 rfl ?_
      refine a_if_ne (tgt := 20) A dX5_setShares_13 (by decide) (by omega) (fun h13 => ?_) (fun h13 => ?_)
      · refine a_iload_n (z := w) A dX5_setShares_20 rfl ?_
        refine a_iconst A dX5_setShares_21 ?_
        refine a_icmp_ne (tgt := 35) A dX5_setShares_22 (by decide) (by omega) (by omega) (fun h22 => ?_) (fun h22 => ?_)
        · refine a_aload_n (z := 84) A dX5_setShares_35 rfl ?_
          refine gf_X5_31 (r := 92) A dX5_setShares_36 rfl (by decide) rfl ?_
          refine a_iload_n (z := (i : Int)) A dX5_setShares_39 rfl ?_
          refine a_iaload (i := (i : Int)) (x := M 92 i) A dX5_setShares_40 rfl (by decide) (by decide) (by omega) rfl ?_
          refine a_istore_n (lv' := [.ref 84, vi w, vi (i : Int), vi (M 92 i)]) A dX5_setShares_41 (by decide) rfl ?_
          refine a_aload_n (z := 84) A dX5_setShares_42 rfl ?_
          refine gf_X5_53 (r := 99) A dX5_setShares_43 rfl (by decide) rfl ?_
          refine a_iload_n (z := (i : Int)) A dX5_setShares_46 rfl ?_
          refine a_aload_n (z := 84) A dX5_setShares_47 rfl ?_
          refine gf_X5_25 (r := 90) A dX5_setShares_48 rfl (by decide) rfl ?_
          refine a_iload_n (z := (i : Int)) A dX5_setShares_51 rfl ?_
          refine a_iaload (i := (i : Int)) (x := M 90 i) A dX5_setShares_52 rfl (by decide) (by decide) (by omega) rfl ?_
          refine a_iload_n (z := (M 92 i)) A dX5_setShares_53 rfl ?_
          refine a_iadd (x := (M 90 i)) (y := (M 92 i)) A dX5_setShares_54 ?_
          refine a_if_ge (tgt := 62) A dX5_setShares_55 (by decide) (by omega) (fun h55 => ?_) (fun h55 => ?_)
          · refine a_aload_n (z := 84) A dX5_setShares_62 rfl ?_
            refine gf_X5_25 (r := 90) A dX5_setShares_63 rfl (by decide) rfl ?_
            refine a_iload_n (z := (i : Int)) A dX5_setShares_66 rfl ?_
            refine a_iaload (i := (i : Int)) (x := M 90 i) A dX5_setShares_67 rfl (by decide) (by decide) (by omega) rfl ?_
            refine a_iload_n (z := (M 92 i)) A dX5_setShares_68 rfl ?_
            refine a_iadd (x := (M 90 i)) (y := (M 92 i)) A dX5_setShares_69 ?_
            refine a_iastore (i := (i : Int)) (j := i) A dX5_setShares_70 rfl (by decide) (by decide) (by omega) rfl ?_
            refine a_aload_n (z := 84) A dX5_setShares_71 rfl ?_
            refine gf_X5_56 (r := 100) A dX5_setShares_72 rfl (by decide) rfl ?_
            refine a_iload_n (z := (i : Int)) A dX5_setShares_75 rfl ?_
            refine a_aload_n (z := 84) A dX5_setShares_76 rfl ?_
            refine gf_X5_28 (r := 91) A dX5_setShares_77 rfl (by decide) rfl ?_
            refine a_iload_n (z := (i : Int)) A dX5_setShares_80 rfl ?_
            refine a_iaload (i := (i : Int)) (x := M 91 i) A dX5_setShares_81 rfl (by decide) (by decide) (by omega) rfl ?_
            refine a_iastore (i := (i : Int)) (j := i) A dX5_setShares_82 rfl (by decide) (by decide) (by omega) rfl ?_
            refine a_aload_n (z := 84) A dX5_setShares_83 rfl ?_
            refine gf_X5_59 (r := 101) A dX5_setShares_84 rfl (by decide) rfl ?_
            refine a_iload_n (z := (i : Int)) A dX5_setShares_87 rfl ?_
            refine a_aload_n (z := 84) A dX5_setShares_88 rfl ?_
            refine gf_X5_22 (r := 89) A dX5_setShares_89 rfl (by decide) rfl ?_
            refine a_iload_n (z := (i : Int)) A dX5_setShares_92 rfl ?_
            refine a_iaload (i := (i : Int)) (x := M 89 i) A dX5_setShares_93 rfl (by decide) (by decide) (by omega) rfl ?_
            refine a_iastore (i := (i : Int)) (j := i) A dX5_setShares_94 rfl (by decide) (by decide) (by omega) rfl ?_
            refine a_iinc (z := (i : Int)) (lv' := [.ref 84, vi w, vi ((i : Int) + 1), vi (M 92 i)]) A dX5_setShares_95 rfl (by decide) rfl ?_
            refine a_goto (tgt := 2) A dX5_setShares_98 (by decide) ?_
            rw [show ((M 90 i) + (M 92 i)) = sup M w i by unfold sup; repeat' split <;> omega, ssK_succ]
            exact ih (i + 1) _ (by omega) (by omega)
          · refine a_iconst A dX5_setShares_58 ?_
            refine a_goto (tgt := 70) A dX5_setShares_59 (by decide) ?_
            refine a_iastore (i := (i : Int)) (j := i) A dX5_setShares_70 rfl (by decide) (by decide) (by omega) rfl ?_
            refine a_aload_n (z := 84) A dX5_setShares_71 rfl ?_
            refine gf_X5_56 (r := 100) A dX5_setShares_72 rfl (by decide) rfl ?_
            refine a_iload_n (z := (i : Int)) A dX5_setShares_75 rfl ?_
            refine a_aload_n (z := 84) A dX5_setShares_76 rfl ?_
            refine gf_X5_28 (r := 91) A dX5_setShares_77 rfl (by decide) rfl ?_
            refine a_iload_n (z := (i : Int)) A dX5_setShares_80 rfl ?_
            refine a_iaload (i := (i : Int)) (x := M 91 i) A dX5_setShares_81 rfl (by decide) (by decide) (by omega) rfl ?_
            refine a_iastore (i := (i : Int)) (j := i) A dX5_setShares_82 rfl (by decide) (by decide) (by omega) rfl ?_
            refine a_aload_n (z := 84) A dX5_setShares_83 rfl ?_
            refine gf_X5_59 (r := 101) A dX5_setShares_84 rfl (by decide) rfl ?_
            refine a_iload_n (z := (i : Int)) A dX5_setShares_87 rfl ?_
            refine a_aload_n (z := 84) A dX5_setShares_88 rfl ?_
            refine gf_X5_22 (r := 89) A dX5_setShares_89 rfl (by decide) rfl ?_
            refine a_iload_n (z := (i : Int)) A dX5_setShares_92 rfl ?_
            refine a_iaload (i := (i : Int)) (x := M 89 i) A dX5_setShares_93 rfl (by decide) (by decide) (by omega) rfl ?_
            refine a_iastore (i := (i : Int)) (j := i) A dX5_setShares_94 rfl (by decide) (by decide) (by omega) rfl ?_
            refine a_iinc (z := (i : Int)) (lv' := [.ref 84, vi w, vi ((i : Int) + 1), vi (M 92 i)]) A dX5_setShares_95 rfl (by decide) rfl ?_
            refine a_goto (tgt := 2) A dX5_setShares_98 (by decide) ?_
            rw [show 0 = sup M w i by unfold sup; repeat' split <;> omega, ssK_succ]
            exact ih (i + 1) _ (by omega) (by omega)
        · refine a_aload_n (z := 84) A dX5_setShares_25 rfl ?_
          refine gf_X5_31 (r := 92) A dX5_setShares_26 rfl (by decide) rfl ?_
          refine a_iload_n (z := (i : Int)) A dX5_setShares_29 rfl ?_
          refine a_iaload (i := (i : Int)) (x := M 92 i) A dX5_setShares_30 rfl (by decide) (by decide) (by omega) rfl ?_
          refine a_ineg A dX5_setShares_31 ?_
          refine a_goto (tgt := 41) A dX5_setShares_32 (by decide) ?_
          refine a_istore_n (lv' := [.ref 84, vi w, vi (i : Int), vi (-(M 92 i))]) A dX5_setShares_41 (by decide) rfl ?_
          refine a_aload_n (z := 84) A dX5_setShares_42 rfl ?_
          refine gf_X5_53 (r := 99) A dX5_setShares_43 rfl (by decide) rfl ?_
          refine a_iload_n (z := (i : Int)) A dX5_setShares_46 rfl ?_
          refine a_aload_n (z := 84) A dX5_setShares_47 rfl ?_
          refine gf_X5_25 (r := 90) A dX5_setShares_48 rfl (by decide) rfl ?_
          refine a_iload_n (z := (i : Int)) A dX5_setShares_51 rfl ?_
          refine a_iaload (i := (i : Int)) (x := M 90 i) A dX5_setShares_52 rfl (by decide) (by decide) (by omega) rfl ?_
          refine a_iload_n (z := (-(M 92 i))) A dX5_setShares_53 rfl ?_
          refine a_iadd (x := (M 90 i)) (y := (-(M 92 i))) A dX5_setShares_54 ?_
          refine a_if_ge (tgt := 62) A dX5_setShares_55 (by decide) (by omega) (fun h55 => ?_) (fun h55 => ?_)
          · refine a_aload_n (z := 84) A dX5_setShares_62 rfl ?_
            refine gf_X5_25 (r := 90) A dX5_setShares_63 rfl (by decide) rfl ?_
            refine a_iload_n (z := (i : Int)) A dX5_setShares_66 rfl ?_
            refine a_iaload (i := (i : Int)) (x := M 90 i) A dX5_setShares_67 rfl (by decide) (by decide) (by omega) rfl ?_
            refine a_iload_n (z := (-(M 92 i))) A dX5_setShares_68 rfl ?_
            refine a_iadd (x := (M 90 i)) (y := (-(M 92 i))) A dX5_setShares_69 ?_
            refine a_iastore (i := (i : Int)) (j := i) A dX5_setShares_70 rfl (by decide) (by decide) (by omega) rfl ?_
            refine a_aload_n (z := 84) A dX5_setShares_71 rfl ?_
            refine gf_X5_56 (r := 100) A dX5_setShares_72 rfl (by decide) rfl ?_
            refine a_iload_n (z := (i : Int)) A dX5_setShares_75 rfl ?_
            refine a_aload_n (z := 84) A dX5_setShares_76 rfl ?_
            refine gf_X5_28 (r := 91) A dX5_setShares_77 rfl (by decide) rfl ?_
            refine a_iload_n (z := (i : Int)) A dX5_setShares_80 rfl ?_
            refine a_iaload (i := (i : Int)) (x := M 91 i) A dX5_setShares_81 rfl (by decide) (by decide) (by omega) rfl ?_
            refine a_iastore (i := (i : Int)) (j := i) A dX5_setShares_82 rfl (by decide) (by decide) (by omega) rfl ?_
            refine a_aload_n (z := 84) A dX5_setShares_83 rfl ?_
            refine gf_X5_59 (r := 101) A dX5_setShares_84 rfl (by decide) rfl ?_
            refine a_iload_n (z := (i : Int)) A dX5_setShares_87 rfl ?_
            refine a_aload_n (z := 84) A dX5_setShares_88 rfl ?_
            refine gf_X5_22 (r := 89) A dX5_setShares_89 rfl (by decide) rfl ?_
            refine a_iload_n (z := (i : Int)) A dX5_setShares_92 rfl ?_
            refine a_iaload (i := (i : Int)) (x := M 89 i) A dX5_setShares_93 rfl (by decide) (by decide) (by omega) rfl ?_
            refine a_iastore (i := (i : Int)) (j := i) A dX5_setShares_94 rfl (by decide) (by decide) (by omega) rfl ?_
            refine a_iinc (z := (i : Int)) (lv' := [.ref 84, vi w, vi ((i : Int) + 1), vi (-(M 92 i))]) A dX5_setShares_95 rfl (by decide) rfl ?_
            refine a_goto (tgt := 2) A dX5_setShares_98 (by decide) ?_
            rw [show ((M 90 i) + (-(M 92 i))) = sup M w i by unfold sup; repeat' split <;> omega, ssK_succ]
            exact ih (i + 1) _ (by omega) (by omega)
          · refine a_iconst A dX5_setShares_58 ?_
            refine a_goto (tgt := 70) A dX5_setShares_59 (by decide) ?_
            refine a_iastore (i := (i : Int)) (j := i) A dX5_setShares_70 rfl (by decide) (by decide) (by omega) rfl ?_
            refine a_aload_n (z := 84) A dX5_setShares_71 rfl ?_
            refine gf_X5_56 (r := 100) A dX5_setShares_72 rfl (by decide) rfl ?_
            refine a_iload_n (z := (i : Int)) A dX5_setShares_75 rfl ?_
            refine a_aload_n (z := 84) A dX5_setShares_76 rfl ?_
            refine gf_X5_28 (r := 91) A dX5_setShares_77 rfl (by decide) rfl ?_
            refine a_iload_n (z := (i : Int)) A dX5_setShares_80 rfl ?_
            refine a_iaload (i := (i : Int)) (x := M 91 i) A dX5_setShares_81 rfl (by decide) (by decide) (by omega) rfl ?_
            refine a_iastore (i := (i : Int)) (j := i) A dX5_setShares_82 rfl (by decide) (by decide) (by omega) rfl ?_
            refine a_aload_n (z := 84) A dX5_setShares_83 rfl ?_
            refine gf_X5_59 (r := 101) A dX5_setShares_84 rfl (by decide) rfl ?_
            refine a_iload_n (z := (i : Int)) A dX5_setShares_87 rfl ?_
            refine a_aload_n (z := 84) A dX5_setShares_88 rfl ?_
            refine gf_X5_22 (r := 89) A dX5_setShares_89 rfl (by decide) rfl ?_
            refine a_iload_n (z := (i : Int)) A dX5_setShares_92 rfl ?_
            refine a_iaload (i := (i : Int)) (x := M 89 i) A dX5_setShares_93 rfl (by decide) (by decide) (by omega) rfl ?_
            refine a_iastore (i := (i : Int)) (j := i) A dX5_setShares_94 rfl (by decide) (by decide) (by omega) rfl ?_
            refine a_iinc (z := (i : Int)) (lv' := [.ref 84, vi w, vi ((i : Int) + 1), vi (-(M 92 i))]) A dX5_setShares_95 rfl (by decide) rfl ?_
            refine a_goto (tgt := 2) A dX5_setShares_98 (by decide) ?_
            rw [show 0 = sup M w i by unfold sup; repeat' split <;> omega, ssK_succ]
            exact ih (i + 1) _ (by omega) (by omega)
      · refine a_iconst A dX5_setShares_16 ?_
        refine a_goto (tgt := 41) A dX5_setShares_17 (by decide) ?_
        refine a_istore_n (lv' := [.ref 84, vi w, vi (i : Int), vi 0]) A dX5_setShares_41 (by decide) rfl ?_
        refine a_aload_n (z := 84) A dX5_setShares_42 rfl ?_
        refine gf_X5_53 (r := 99) A dX5_setShares_43 rfl (by decide) rfl ?_
        refine a_iload_n (z := (i : Int)) A dX5_setShares_46 rfl ?_
        refine a_aload_n (z := 84) A dX5_setShares_47 rfl ?_
        refine gf_X5_25 (r := 90) A dX5_setShares_48 rfl (by decide) rfl ?_
        refine a_iload_n (z := (i : Int)) A dX5_setShares_51 rfl ?_
        refine a_iaload (i := (i : Int)) (x := M 90 i) A dX5_setShares_52 rfl (by decide) (by decide) (by omega) rfl ?_
        refine a_iload_n (z := 0) A dX5_setShares_53 rfl ?_
        refine a_iadd (x := (M 90 i)) (y := 0) A dX5_setShares_54 ?_
        refine a_if_ge (tgt := 62) A dX5_setShares_55 (by decide) (by omega) (fun h55 => ?_) (fun h55 => ?_)
        · refine a_aload_n (z := 84) A dX5_setShares_62 rfl ?_
          refine gf_X5_25 (r := 90) A dX5_setShares_63 rfl (by decide) rfl ?_
          refine a_iload_n (z := (i : Int)) A dX5_setShares_66 rfl ?_
          refine a_iaload (i := (i : Int)) (x := M 90 i) A dX5_setShares_67 rfl (by decide) (by decide) (by omega) rfl ?_
          refine a_iload_n (z := 0) A dX5_setShares_68 rfl ?_
          refine a_iadd (x := (M 90 i)) (y := 0) A dX5_setShares_69 ?_
          refine a_iastore (i := (i : Int)) (j := i) A dX5_setShares_70 rfl (by decide) (by decide) (by omega) rfl ?_
          refine a_aload_n (z := 84) A dX5_setShares_71 rfl ?_
          refine gf_X5_56 (r := 100) A dX5_setShares_72 rfl (by decide) rfl ?_
          refine a_iload_n (z := (i : Int)) A dX5_setShares_75 rfl ?_
          refine a_aload_n (z := 84) A dX5_setShares_76 rfl ?_
          refine gf_X5_28 (r := 91) A dX5_setShares_77 rfl (by decide) rfl ?_
          refine a_iload_n (z := (i : Int)) A dX5_setShares_80 rfl ?_
          refine a_iaload (i := (i : Int)) (x := M 91 i) A dX5_setShares_81 rfl (by decide) (by decide) (by omega) rfl ?_
          refine a_iastore (i := (i : Int)) (j := i) A dX5_setShares_82 rfl (by decide) (by decide) (by omega) rfl ?_
          refine a_aload_n (z := 84) A dX5_setShares_83 rfl ?_
          refine gf_X5_59 (r := 101) A dX5_setShares_84 rfl (by decide) rfl ?_
          refine a_iload_n (z := (i : Int)) A dX5_setShares_87 rfl ?_
          refine a_aload_n (z := 84) A dX5_setShares_88 rfl ?_
          refine gf_X5_22 (r := 89) A dX5_setShares_89 rfl (by decide) rfl ?_
          refine a_iload_n (z := (i : Int)) A dX5_setShares_92 rfl ?_
          refine a_iaload (i := (i : Int)) (x := M 89 i) A dX5_setShares_93 rfl (by decide) (by decide) (by omega) rfl ?_
          refine a_iastore (i := (i : Int)) (j := i) A dX5_setShares_94 rfl (by decide) (by decide) (by omega) rfl ?_
          refine a_iinc (z := (i : Int)) (lv' := [.ref 84, vi w, vi ((i : Int) + 1), vi 0]) A dX5_setShares_95 rfl (by decide) rfl ?_
          refine a_goto (tgt := 2) A dX5_setShares_98 (by decide) ?_
          rw [show ((M 90 i) + 0) = sup M w i by unfold sup; repeat' split <;> omega, ssK_succ]
          exact ih (i + 1) _ (by omega) (by omega)
        · refine a_iconst A dX5_setShares_58 ?_
          refine a_goto (tgt := 70) A dX5_setShares_59 (by decide) ?_
          refine a_iastore (i := (i : Int)) (j := i) A dX5_setShares_70 rfl (by decide) (by decide) (by omega) rfl ?_
          refine a_aload_n (z := 84) A dX5_setShares_71 rfl ?_
          refine gf_X5_56 (r := 100) A dX5_setShares_72 rfl (by decide) rfl ?_
          refine a_iload_n (z := (i : Int)) A dX5_setShares_75 rfl ?_
          refine a_aload_n (z := 84) A dX5_setShares_76 rfl ?_
          refine gf_X5_28 (r := 91) A dX5_setShares_77 rfl (by decide) rfl ?_
          refine a_iload_n (z := (i : Int)) A dX5_setShares_80 rfl ?_
          refine a_iaload (i := (i : Int)) (x := M 91 i) A dX5_setShares_81 rfl (by decide) (by decide) (by omega) rfl ?_
          refine a_iastore (i := (i : Int)) (j := i) A dX5_setShares_82 rfl (by decide) (by decide) (by omega) rfl ?_
          refine a_aload_n (z := 84) A dX5_setShares_83 rfl ?_
          refine gf_X5_59 (r := 101) A dX5_setShares_84 rfl (by decide) rfl ?_
          refine a_iload_n (z := (i : Int)) A dX5_setShares_87 rfl ?_
          refine a_aload_n (z := 84) A dX5_setShares_88 rfl ?_
          refine gf_X5_22 (r := 89) A dX5_setShares_89 rfl (by decide) rfl ?_
          refine a_iload_n (z := (i : Int)) A dX5_setShares_92 rfl ?_
          refine a_iaload (i := (i : Int)) (x := M 89 i) A dX5_setShares_93 rfl (by decide) (by decide) (by omega) rfl ?_
          refine a_iastore (i := (i : Int)) (j := i) A dX5_setShares_94 rfl (by decide) (by decide) (by omega) rfl ?_
          refine a_iinc (z := (i : Int)) (lv' := [.ref 84, vi w, vi ((i : Int) + 1), vi 0]) A dX5_setShares_95 rfl (by decide) rfl ?_
          refine a_goto (tgt := 2) A dX5_setShares_98 (by decide) ?_
          rw [show 0 = sup M w i by unfold sup; repeat' split <;> omega, ssK_succ]
          exact ih (i + 1) _ (by omega) (by omega)
set_option maxRecDepth 100000 in
set_option maxHeartbeats 4000000 in
theorem c_X5_setShares (G : GG) (l : Launch) (w : Int) (M : MM) (hw0 : 0 ≤ w ∧ w ≤ 2) (hw : WM M) : CMv G l yX5_setShares cX5_setShares 4 none 1 [.ref 84, vi w] M (fun M' => M' = ssK M w (M 86 0).toNat) := by
  refine CT.intro (by decide) (Nat.le_of_ble_eq_true rfl) (fun E hE A T0 => ?_)
  subst hE
  refine a_iconst A dX5_setShares_0 ?_
  refine a_istore_n (lv' := [.ref 84, vi w, vi 0, jk]) A dX5_setShares_1 (by decide) rfl ?_
  have := ss_loop5 A T0 M w hw0 hw rfl ((M 86 0).toNat + 1) 0 jk (by omega) (by have := hw.2.1; omega)
  rw [ssK_0] at this
  exact this
end
section
/-- the other post of lane k at v -/
def otr (M : MM) (v : Int) (k : Nat) : Int := if M 87 k = v then M 88 k else M 87 k
def fpP (M : MM) (v : Nat) (a b : Int) : MM := up2 (up2 (up2 (up2 M 84 15 (nU a b)) 84 16 (nD a b)) 103 v (nU a b)) 104 v (nD a b)
def fpS (M : MM) (v : Nat) : Option MM :=
  if 0 < M 104 v then some M
  else if M 104 (otr M v (M 102 v).toNat).toNat = 0 then some M
  else if M 87 (M 102 v).toNat = v then some (fpP M v (M 103 (otr M v (M 102 v).toNat).toNat * M 99 (M 102 v).toNat) (M 104 (otr M v (M 102 v).toNat).toNat * M 100 (M 102 v).toNat))
  else if M 99 (M 102 v).toNat = 0 then none
  else some (fpP M v (M 103 (otr M v (M 102 v).toNat).toNat * M 100 (M 102 v).toNat) (M 104 (otr M v (M 102 v).toNat).toNat * M 99 (M 102 v).toNat))
theorem nU_bd {a b : Int} (ha : 0 ≤ a) (hb : 0 < b) : 0 ≤ nU a b ∧ nU a b ≤ a := by
  have hg := gcd_pos (a := a) hb
  exact tdiv_bd ha (by omega)
theorem nD_bd {a b : Int} (hb : 0 < b) : 0 < nD a b ∧ nD a b ≤ b := by
  have hg := gcd_pos (a := a) hb
  have h1 := tdiv_bd (a := b) (b := (Int.gcd a b : Int)) (by omega) (by omega)
  refine ⟨?_, h1.2⟩
  have h2 : (Int.gcd a b : Int) ∣ b := Int.gcd_dvd_right _ _
  obtain ⟨c, hc⟩ := h2
  unfold nD
  have h3 : b.tdiv (Int.gcd a b : Int) = c := by
    rw [Int.tdiv_eq_ediv_of_nonneg (by omega)]
    exact Int.ediv_eq_of_eq_mul_right (by omega) hc
  rw [h3]
  rcases Int.lt_or_le 0 c with q | q
  · exact q
  · have := Int.mul_nonpos_of_nonneg_of_nonpos (a := (Int.gcd a b : Int)) (b := c) (by omega) q
    omega
theorem nD_dvd {a b : Int} (hb : 0 < b) : nD a b ∣ b := by
  have hg := gcd_pos (a := a) hb
  obtain ⟨c, hc⟩ : (Int.gcd a b : Int) ∣ b := Int.gcd_dvd_right _ _
  have h3 : nD a b = c := by
    unfold nD
    rw [Int.tdiv_eq_ediv_of_nonneg (by omega)]
    exact Int.ediv_eq_of_eq_mul_right (by omega) hc
  rw [h3]
  exact ⟨_, by rw [Int.mul_comm]; exact hc⟩
theorem nUD {a b : Int} (hb : 0 < b) : a = (Int.gcd a b : Int) * nU a b ∧ b = (Int.gcd a b : Int) * nD a b := by
  have hg := gcd_pos (a := a) hb
  obtain ⟨c, hc⟩ : (Int.gcd a b : Int) ∣ b := Int.gcd_dvd_right _ _
  obtain ⟨e, he⟩ : (Int.gcd a b : Int) ∣ a := Int.gcd_dvd_left _ _
  have h3 : nD a b = c := by
    unfold nD
    rw [Int.tdiv_eq_ediv_of_nonneg (by omega)]
    exact Int.ediv_eq_of_eq_mul_right (by omega) hc
  have h4 : nU a b = e := by
    unfold nU
    have : ((Int.gcd a b : Int) * e).tdiv (Int.gcd a b : Int) = e := Int.mul_tdiv_cancel_left e (by omega)
    rwa [← he] at this
  rw [h3, h4]
  exact ⟨he, hc⟩
/-- equal fractions have the same least terms -/
theorem nUD_eq {a b c d : Int} (hb : 0 < b) (hd : 0 < d) (h : a * d = c * b) : nU a b = nU c d ∧ nD a b = nD c d := by
  have g1 := gcd_pos (a := a) hb
  have g2 := gcd_pos (a := c) hd
  obtain ⟨a1, b1⟩ := nUD (a := a) hb
  obtain ⟨c1, d1⟩ := nUD (a := c) hd
  have e1 : Int.gcd (a * d) (b * d) = Int.gcd a b * d.natAbs := Int.gcd_mul_right _ _ _
  have e2 : Int.gcd (c * b) (d * b) = Int.gcd c d * b.natAbs := Int.gcd_mul_right _ _ _
  rw [h, Int.mul_comm b d, e2] at e1
  have e3 : (Int.gcd c d : Int) * b = (Int.gcd a b : Int) * d := by
    have : ((Int.gcd c d * b.natAbs : Nat) : Int) = ((Int.gcd a b * d.natAbs : Nat) : Int) := by rw [e1]
    push_cast at this
    rw [Int.ofNat_natAbs_of_nonneg (by omega), Int.ofNat_natAbs_of_nonneg (by omega)] at this
    exact this
  generalize (Int.gcd a b : Int) = p at *
  generalize (Int.gcd c d : Int) = q at *
  generalize nU a b = au at *
  generalize nD a b = ad at *
  generalize nU c d = cu at *
  generalize nD c d = cd at *
  have hp : p ≠ 0 := by omega
  have hq : q ≠ 0 := by omega
  have k1 : ad = cd := by
    have : (p * q) * ad = (p * q) * cd := by
      have x1 : (p * q) * ad = q * (p * ad) := by rw [Int.mul_comm p q, Int.mul_assoc]
      have x2 : (p * q) * cd = p * (q * cd) := Int.mul_assoc _ _ _
      rw [x1, x2, ← b1, ← d1]
      exact e3
    exact Int.eq_of_mul_eq_mul_left (Int.mul_ne_zero hp hq) this
  refine ⟨?_, k1⟩
  have hcd : cd ≠ 0 := fun z => by rw [z, Int.mul_zero] at d1; omega
  have : (p * q * cd) * au = (p * q * cd) * cu := by
    have x1 : (p * q * cd) * au = (p * au) * (q * cd) := by rw [Int.mul_assoc p q cd, Int.mul_assoc p (q * cd) au, Int.mul_comm (q * cd) au, ← Int.mul_assoc]
    have x2 : (p * q * cd) * cu = (q * cu) * (p * cd) := by rw [Int.mul_comm p q, Int.mul_assoc q p cd, Int.mul_assoc q (p * cd) cu, Int.mul_comm (p * cd) cu, ← Int.mul_assoc]
    rw [x1, x2, ← a1, ← d1, ← c1, ← k1, ← b1]
    exact h
  exact Int.eq_of_mul_eq_mul_left (Int.mul_ne_zero (Int.mul_ne_zero hp hq) hcd) this
set_option maxRecDepth 100000 in
set_option maxHeartbeats 4000000 in
theorem fp_step5 {G : GG} {E : EE} {P : Int → MM → Prop} (A : AmM G E cX5_findPrices 6 yX5_findPrices.cls 3) (T0 : RT E G yX5_findPrices 108 0 0 (some .boolean) (fun r rf' M' => rf' = rF ∧ ∃ z, r = some (vi z) ∧ P z M')) (M : MM) (v : Nat) (la rd : Int) (hv : 1 ≤ v ∧ (v : Int) < la) (hla : la ≤ 4) (hd0 : 0 ≤ M 104 v ∧ M 104 v ≤ 4913) (hL : M 86 0 ≤ 10) (hc : M 104 v = 0 → 0 ≤ M 102 v ∧ M 102 v < M 86 0) (hft : M 104 v = 0 → (0 ≤ M 87 (M 102 v).toNat ∧ M 87 (M 102 v).toNat ≤ la ∧ 0 ≤ M 88 (M 102 v).toNat ∧ M 88 (M 102 v).toNat ≤ la)) (hsh : M 104 v = 0 → (0 ≤ M 99 (M 102 v).toNat ∧ M 99 (M 102 v).toNat ≤ 17 ∧ 1 ≤ M 100 (M 102 v).toNat ∧ M 100 (M 102 v).toNat ≤ 17)) (hpr : ∀ x : Nat, (x : Int) ≤ la → 0 ≤ M 103 x ∧ M 103 x ≤ 4913 ∧ 0 ≤ M 104 x ∧ M 104 x ≤ 4913) (hs : ∀ M1, fpS M v = some M1 → ∀ w4 w5 : Value, AM G E 6 267 [.ref 84, vi la, vi rd, vi (v : Int), w4, w5] [] M1) (hf : fpS M v = none → P 0 M) (w4 w5 : Value) : AM G E 6 82 [.ref 84, vi la, vi rd, vi (v : Int), w4, w5] [] M := by
  have hot : M 104 v = 0 → 0 ≤ (otr M v (M 102 v).toNat) ∧ (otr M v (M 102 v).toNat) ≤ la := fun q => by unfold otr; have := hft q; split <;> omega
  have hpo : M 104 v = 0 → 0 ≤ M 103 (otr M v (M 102 v).toNat).toNat ∧ M 103 (otr M v (M 102 v).toNat).toNat ≤ 4913 ∧ 0 ≤ M 104 (otr M v (M 102 v).toNat).toNat ∧ M 104 (otr M v (M 102 v).toNat).toNat ≤ 4913 := fun q => hpr _ (by have := hot q; omega)
  have m1 : M 104 v = 0 → 0 ≤ M 103 (otr M v (M 102 v).toNat).toNat * M 99 (M 102 v).toNat ∧ M 103 (otr M v (M 102 v).toNat).toNat * M 99 (M 102 v).toNat ≤ 4913 * 17 := fun q => mul_bd (by have := hpo q; omega) (by have := hsh q; omega)
  have m2 : M 104 v = 0 → 0 ≤ M 104 (otr M v (M 102 v).toNat).toNat * M 100 (M 102 v).toNat ∧ M 104 (otr M v (M 102 v).toNat).toNat * M 100 (M 102 v).toNat ≤ 4913 * 17 := fun q => mul_bd (by have := hpo q; omega) (by have := hsh q; omega)
  have m3 : M 104 v = 0 → 0 ≤ M 103 (otr M v (M 102 v).toNat).toNat * M 100 (M 102 v).toNat ∧ M 103 (otr M v (M 102 v).toNat).toNat * M 100 (M 102 v).toNat ≤ 4913 * 17 := fun q => mul_bd (by have := hpo q; omega) (by have := hsh q; omega)
  have m4 : M 104 v = 0 → 0 ≤ M 104 (otr M v (M 102 v).toNat).toNat * M 99 (M 102 v).toNat ∧ M 104 (otr M v (M 102 v).toNat).toNat * M 99 (M 102 v).toNat ≤ 4913 * 17 := fun q => mul_bd (by have := hpo q; omega) (by have := hsh q; omega)
  have m2p : M 104 v = 0 → M 104 (otr M v (M 102 v).toNat).toNat ≠ 0 → 0 < M 104 (otr M v (M 102 v).toNat).toNat * M 100 (M 102 v).toNat := fun q q2 => Int.mul_pos (by have := hpo q; omega) (by have := hsh q; omega)
  have m4p : M 104 v = 0 → M 104 (otr M v (M 102 v).toNat).toNat ≠ 0 → M 99 (M 102 v).toNat ≠ 0 → 0 < M 104 (otr M v (M 102 v).toNat).toNat * M 99 (M 102 v).toNat := fun q q2 q3 => Int.mul_pos (by have := hpo q; omega) (by have := hsh q; omega)
  refine a_aload_n (z := 84) A dX5_findPrices_82 rfl ?_
  refine gf_X5_68 (r := 104) A dX5_findPrices_83 rfl (by decide) rfl ?_
  refine a_iload_n (z := (v : Int)) A dX5_findPrices_86 rfl ?_
  refine a_laload (i := (v : Int)) (x := M 104 v) A dX5_findPrices_87 rfl (by decide) (by decide) (by omega) rfl ?_
  refine a_lconst0 A dX5_findPrices_88 ?_
  refine a_lcmp_le (tgt := 96) A dX5_findPrices_89 dX5_findPrices_90 (by decide) (by omega) (by omega) (fun h89 => ?_) (fun h89 => ?_)
  · refine a_aload_n (z := 84) A dX5_findPrices_96 rfl ?_
    refine gf_X5_62 (r := 102) A dX5_findPrices_97 rfl (by decide) rfl ?_
    refine a_iload_n (z := (v : Int)) A dX5_findPrices_100 rfl ?_
    refine a_iaload (i := (v : Int)) (x := M 102 v) A dX5_findPrices_101 rfl (by decide) (by decide) (by omega) rfl ?_
    refine a_istore (lv' := [.ref 84, vi la, vi rd, vi (v : Int), vi (M 102 v), w5]) A dX5_findPrices_102 (by decide) rfl ?_
    refine a_aload_n (z := 84) A dX5_findPrices_104 rfl ?_
    refine gf_X5_16 (r := 87) A dX5_findPrices_105 rfl (by decide) rfl ?_
    refine a_iload (z := (M 102 v)) A dX5_findPrices_108 rfl ?_
    refine a_iaload (i := (M 102 v)) (x := M 87 ((M 102 v).toNat)) A dX5_findPrices_110 rfl (by decide) (by decide) (by omega) rfl ?_
    refine a_iload_n (z := (v : Int)) A dX5_findPrices_111 rfl ?_
    refine a_icmp_ne (tgt := 125) A dX5_findPrices_112 (by decide) (by omega) (by omega) (fun h112 => ?_) (fun h112 => ?_)
    · refine a_aload_n (z := 84) A dX5_findPrices_125 rfl ?_
      refine gf_X5_16 (r := 87) A dX5_findPrices_126 rfl (by decide) rfl ?_
      refine a_iload (z := (M 102 v)) A dX5_findPrices_129 rfl ?_
      refine a_iaload (i := (M 102 v)) (x := M 87 ((M 102 v).toNat)) A dX5_findPrices_131 rfl (by decide) (by decide) (by omega) rfl ?_
      rw [show (M 87 ((M 102 v).toNat)) = (otr M v (M 102 v).toNat) by unfold otr; first | rw [if_pos h112] | rw [if_neg h112]]
      refine a_istore (lv' := [.ref 84, vi la, vi rd, vi (v : Int), vi (M 102 v), vi (otr M v (M 102 v).toNat)]) A dX5_findPrices_132 (by decide) rfl ?_
      refine a_aload_n (z := 84) A dX5_findPrices_134 rfl ?_
      refine gf_X5_68 (r := 104) A dX5_findPrices_135 rfl (by decide) rfl ?_
      refine a_iload (z := (otr M v (M 102 v).toNat)) A dX5_findPrices_138 rfl ?_
      refine a_laload (i := (otr M v (M 102 v).toNat)) (x := M 104 ((otr M v (M 102 v).toNat).toNat)) A dX5_findPrices_140 rfl (by decide) (by decide) (by omega) rfl ?_
      refine a_lconst0 A dX5_findPrices_141 ?_
      refine a_lcmp_ne (tgt := 149) A dX5_findPrices_142 dX5_findPrices_143 (by decide) (by omega) (by omega) (fun h142 => ?_) (fun h142 => ?_)
      · refine a_aload_n (z := 84) A dX5_findPrices_149 rfl ?_
        refine gf_X5_16 (r := 87) A dX5_findPrices_150 rfl (by decide) rfl ?_
        refine a_iload (z := (M 102 v)) A dX5_findPrices_153 rfl ?_
        refine a_iaload (i := (M 102 v)) (x := M 87 ((M 102 v).toNat)) A dX5_findPrices_155 rfl (by decide) (by decide) (by omega) rfl ?_
        refine a_iload_n (z := (v : Int)) A dX5_findPrices_156 rfl ?_
        refine a_icmp_ne (tgt := 199) A dX5_findPrices_157 (by decide) (by omega) (by omega) (fun h157 => ?_) (fun h157 => ?_)
        · refine a_aload_n (z := 84) A dX5_findPrices_199 rfl ?_
          refine gf_X5_53 (r := 99) A dX5_findPrices_200 rfl (by decide) rfl ?_
          refine a_iload (z := (M 102 v)) A dX5_findPrices_203 rfl ?_
          refine a_iaload (i := (M 102 v)) (x := M 99 ((M 102 v).toNat)) A dX5_findPrices_205 rfl (by decide) (by decide) (by omega) rfl ?_
          refine a_if_ne (tgt := 211) A dX5_findPrices_206 (by decide) (by omega) (fun h206 => ?_) (fun h206 => ?_)
          · refine a_aload_n (z := 84) A dX5_findPrices_211 rfl ?_
            refine a_aload_n (z := 84) A dX5_findPrices_212 rfl ?_
            refine gf_X5_65 (r := 103) A dX5_findPrices_213 rfl (by decide) rfl ?_
            refine a_iload (z := (otr M v (M 102 v).toNat)) A dX5_findPrices_216 rfl ?_
            refine a_laload (i := (otr M v (M 102 v).toNat)) (x := M 103 ((otr M v (M 102 v).toNat).toNat)) A dX5_findPrices_218 rfl (by decide) (by decide) (by omega) rfl ?_
            refine a_aload_n (z := 84) A dX5_findPrices_219 rfl ?_
            refine gf_X5_56 (r := 100) A dX5_findPrices_220 rfl (by decide) rfl ?_
            refine a_iload (z := (M 102 v)) A dX5_findPrices_223 rfl ?_
            refine a_iaload (i := (M 102 v)) (x := M 100 ((M 102 v).toNat)) A dX5_findPrices_225 rfl (by decide) (by decide) (by omega) rfl ?_
            refine a_i2l A dX5_findPrices_226 (by omega) ?_
            refine a_lmul (x := (M 103 ((otr M v (M 102 v).toNat).toNat))) (y := (M 100 ((M 102 v).toNat))) A dX5_findPrices_227 ?_
            refine a_aload_n (z := 84) A dX5_findPrices_228 rfl ?_
            refine gf_X5_68 (r := 104) A dX5_findPrices_229 rfl (by decide) rfl ?_
            refine a_iload (z := (otr M v (M 102 v).toNat)) A dX5_findPrices_232 rfl ?_
            refine a_laload (i := (otr M v (M 102 v).toNat)) (x := M 104 ((otr M v (M 102 v).toNat).toNat)) A dX5_findPrices_234 rfl (by decide) (by decide) (by omega) rfl ?_
            refine a_aload_n (z := 84) A dX5_findPrices_235 rfl ?_
            refine gf_X5_53 (r := 99) A dX5_findPrices_236 rfl (by decide) rfl ?_
            refine a_iload (z := (M 102 v)) A dX5_findPrices_239 rfl ?_
            refine a_iaload (i := (M 102 v)) (x := M 99 ((M 102 v).toNat)) A dX5_findPrices_241 rfl (by decide) (by decide) (by omega) rfl ?_
            refine a_i2l A dX5_findPrices_242 (by omega) ?_
            refine a_lmul (x := (M 104 ((otr M v (M 102 v).toNat).toNat))) (y := (M 99 ((M 102 v).toNat))) A dX5_findPrices_243 ?_
            refine m_invVv A (c_X5_put G _ ((M 103 ((otr M v (M 102 v).toNat).toNat)) * (M 100 ((M 102 v).toNat))) ((M 104 ((otr M v (M 102 v).toNat).toNat)) * (M 99 ((M 102 v).toNat))) M (by omega) (by omega)) (by decide) mi_X5_put mv_X5_put cs_X5_100 cf5 dX5_findPrices_244 rfl (by decide) rfl rfl (Nat.le_of_ble_eq_true rfl) (fun M244 h244 => ?_)
            have h244 := h244.symm
            subst h244
            refine a_aload_n (z := 84) A dX5_findPrices_247 rfl ?_
            refine gf_X5_65 (r := 103) A dX5_findPrices_248 rfl (by decide) rfl ?_
            refine a_iload_n (z := (v : Int)) A dX5_findPrices_251 rfl ?_
            refine a_aload_n (z := 84) A dX5_findPrices_252 rfl ?_
            refine gf_X5_104 (x := (nU ((M 103 ((otr M v (M 102 v).toNat).toNat)) * (M 100 ((M 102 v).toNat))) ((M 104 ((otr M v (M 102 v).toNat).toNat)) * (M 99 ((M 102 v).toNat))))) A dX5_findPrices_253 rfl (by decide) rfl ?_
            refine a_lastore (i := (v : Int)) (j := v) A dX5_findPrices_256 rfl (by decide) (by decide) (by omega) rfl ?_
            refine a_aload_n (z := 84) A dX5_findPrices_257 rfl ?_
            refine gf_X5_68 (r := 104) A dX5_findPrices_258 rfl (by decide) rfl ?_
            refine a_iload_n (z := (v : Int)) A dX5_findPrices_261 rfl ?_
            refine a_aload_n (z := 84) A dX5_findPrices_262 rfl ?_
            refine gf_X5_108 (x := (nD ((M 103 ((otr M v (M 102 v).toNat).toNat)) * (M 100 ((M 102 v).toNat))) ((M 104 ((otr M v (M 102 v).toNat).toNat)) * (M 99 ((M 102 v).toNat))))) A dX5_findPrices_263 rfl (by decide) rfl ?_
            refine a_lastore (i := (v : Int)) (j := v) A dX5_findPrices_266 rfl (by decide) (by decide) (by omega) rfl ?_
            refine hs _ ?_ _ _
            unfold fpS
            first | (rw [if_neg (by omega), if_neg (by omega), if_pos (by omega)]; rfl) | (rw [if_neg (by omega), if_neg (by omega), if_neg (by omega), if_neg (by omega)]; rfl)
          · refine a_iconst A dX5_findPrices_209 ?_
            exact m_zreturn A T0 dX5_findPrices_210 (by first | exact Or.inl rfl | exact Or.inr rfl | omega) (hf (by unfold fpS; rw [if_neg (by omega), if_neg (by omega), if_neg (by omega), if_pos (by omega)]))
        · refine a_aload_n (z := 84) A dX5_findPrices_160 rfl ?_
          refine a_aload_n (z := 84) A dX5_findPrices_161 rfl ?_
          refine gf_X5_65 (r := 103) A dX5_findPrices_162 rfl (by decide) rfl ?_
          refine a_iload (z := (otr M v (M 102 v).toNat)) A dX5_findPrices_165 rfl ?_
          refine a_laload (i := (otr M v (M 102 v).toNat)) (x := M 103 ((otr M v (M 102 v).toNat).toNat)) A dX5_findPrices_167 rfl (by decide) (by decide) (by omega) rfl ?_
          refine a_aload_n (z := 84) A dX5_findPrices_168 rfl ?_
          refine gf_X5_53 (r := 99) A dX5_findPrices_169 rfl (by decide) rfl ?_
          refine a_iload (z := (M 102 v)) A dX5_findPrices_172 rfl ?_
          refine a_iaload (i := (M 102 v)) (x := M 99 ((M 102 v).toNat)) A dX5_findPrices_174 rfl (by decide) (by decide) (by omega) rfl ?_
          refine a_i2l A dX5_findPrices_175 (by omega) ?_
          refine a_lmul (x := (M 103 ((otr M v (M 102 v).toNat).toNat))) (y := (M 99 ((M 102 v).toNat))) A dX5_findPrices_176 ?_
          refine a_aload_n (z := 84) A dX5_findPrices_177 rfl ?_
          refine gf_X5_68 (r := 104) A dX5_findPrices_178 rfl (by decide) rfl ?_
          refine a_iload (z := (otr M v (M 102 v).toNat)) A dX5_findPrices_181 rfl ?_
          refine a_laload (i := (otr M v (M 102 v).toNat)) (x := M 104 ((otr M v (M 102 v).toNat).toNat)) A dX5_findPrices_183 rfl (by decide) (by decide) (by omega) rfl ?_
          refine a_aload_n (z := 84) A dX5_findPrices_184 rfl ?_
          refine gf_X5_56 (r := 100) A dX5_findPrices_185 rfl (by decide) rfl ?_
          refine a_iload (z := (M 102 v)) A dX5_findPrices_188 rfl ?_
          refine a_iaload (i := (M 102 v)) (x := M 100 ((M 102 v).toNat)) A dX5_findPrices_190 rfl (by decide) (by decide) (by omega) rfl ?_
          refine a_i2l A dX5_findPrices_191 (by omega) ?_
          refine a_lmul (x := (M 104 ((otr M v (M 102 v).toNat).toNat))) (y := (M 100 ((M 102 v).toNat))) A dX5_findPrices_192 ?_
          refine m_invVv A (c_X5_put G _ ((M 103 ((otr M v (M 102 v).toNat).toNat)) * (M 99 ((M 102 v).toNat))) ((M 104 ((otr M v (M 102 v).toNat).toNat)) * (M 100 ((M 102 v).toNat))) M (by omega) (by omega)) (by decide) mi_X5_put mv_X5_put cs_X5_100 cf5 dX5_findPrices_193 rfl (by decide) rfl rfl (Nat.le_of_ble_eq_true rfl) (fun M193 h193 => ?_)
          have h193 := h193.symm
          subst h193
          refine a_goto (tgt := 247) A dX5_findPrices_196 (by decide) ?_
          refine a_aload_n (z := 84) A dX5_findPrices_247 rfl ?_
          refine gf_X5_65 (r := 103) A dX5_findPrices_248 rfl (by decide) rfl ?_
          refine a_iload_n (z := (v : Int)) A dX5_findPrices_251 rfl ?_
          refine a_aload_n (z := 84) A dX5_findPrices_252 rfl ?_
          refine gf_X5_104 (x := (nU ((M 103 ((otr M v (M 102 v).toNat).toNat)) * (M 99 ((M 102 v).toNat))) ((M 104 ((otr M v (M 102 v).toNat).toNat)) * (M 100 ((M 102 v).toNat))))) A dX5_findPrices_253 rfl (by decide) rfl ?_
          refine a_lastore (i := (v : Int)) (j := v) A dX5_findPrices_256 rfl (by decide) (by decide) (by omega) rfl ?_
          refine a_aload_n (z := 84) A dX5_findPrices_257 rfl ?_
          refine gf_X5_68 (r := 104) A dX5_findPrices_258 rfl (by decide) rfl ?_
          refine a_iload_n (z := (v : Int)) A dX5_findPrices_261 rfl ?_
          refine a_aload_n (z := 84) A dX5_findPrices_262 rfl ?_
          refine gf_X5_108 (x := (nD ((M 103 ((otr M v (M 102 v).toNat).toNat)) * (M 99 ((M 102 v).toNat))) ((M 104 ((otr M v (M 102 v).toNat).toNat)) * (M 100 ((M 102 v).toNat))))) A dX5_findPrices_263 rfl (by decide) rfl ?_
          refine a_lastore (i := (v : Int)) (j := v) A dX5_findPrices_266 rfl (by decide) (by decide) (by omega) rfl ?_
          refine hs _ ?_ _ _
          unfold fpS
          first | (rw [if_neg (by omega), if_neg (by omega), if_pos (by omega)]; rfl) | (rw [if_neg (by omega), if_neg (by omega), if_neg (by omega), if_neg (by omega)]; rfl)
      · refine a_goto (tgt := 267) A dX5_findPrices_146 (by decide) ?_
        refine hs M ?_ _ _
        unfold fpS
        first | rw [if_pos (by omega)] | rw [if_neg (by omega), if_pos (by omega)]
    · refine a_aload_n (z := 84) A dX5_findPrices_115 rfl ?_
      refine gf_X5_19 (r := 88) A dX5_findPrices_116 rfl (by decide) rfl ?_
      refine a_iload (z := (M 102 v)) A dX5_findPrices_119 rfl ?_
      refine a_iaload (i := (M 102 v)) (x := M 88 ((M 102 v).toNat)) A dX5_findPrices_121 rfl (by decide) (by decide) (by omega) rfl ?_
      refine a_goto (tgt := 132) A dX5_findPrices_122 (by decide) ?_
      rw [show (M 88 ((M 102 v).toNat)) = (otr M v (M 102 v).toNat) by unfold otr; first | rw [if_pos h112] | rw [if_neg h112]]
      refine a_istore (lv' := [.ref 84, vi la, vi rd, vi (v : Int), vi (M 102 v), vi (otr M v (M 102 v).toNat)]) A dX5_findPrices_132 (by decide) rfl ?_
      refine a_aload_n (z := 84) A dX5_findPrices_134 rfl ?_
      refine gf_X5_68 (r := 104) A dX5_findPrices_135 rfl (by decide) rfl ?_
      refine a_iload (z := (otr M v (M 102 v).toNat)) A dX5_findPrices_138 rfl ?_
      refine a_laload (i := (otr M v (M 102 v).toNat)) (x := M 104 ((otr M v (M 102 v).toNat).toNat)) A dX5_findPrices_140 rfl (by decide) (by decide) (by omega) rfl ?_
      refine a_lconst0 A dX5_findPrices_141 ?_
      refine a_lcmp_ne (tgt := 149) A dX5_findPrices_142 dX5_findPrices_143 (by decide) (by omega) (by omega) (fun h142 => ?_) (fun h142 => ?_)
      · refine a_aload_n (z := 84) A dX5_findPrices_149 rfl ?_
        refine gf_X5_16 (r := 87) A dX5_findPrices_150 rfl (by decide) rfl ?_
        refine a_iload (z := (M 102 v)) A dX5_findPrices_153 rfl ?_
        refine a_iaload (i := (M 102 v)) (x := M 87 ((M 102 v).toNat)) A dX5_findPrices_155 rfl (by decide) (by decide) (by omega) rfl ?_
        refine a_iload_n (z := (v : Int)) A dX5_findPrices_156 rfl ?_
        refine a_icmp_ne (tgt := 199) A dX5_findPrices_157 (by decide) (by omega) (by omega) (fun h157 => ?_) (fun h157 => ?_)
        · refine a_aload_n (z := 84) A dX5_findPrices_199 rfl ?_
          refine gf_X5_53 (r := 99) A dX5_findPrices_200 rfl (by decide) rfl ?_
          refine a_iload (z := (M 102 v)) A dX5_findPrices_203 rfl ?_
          refine a_iaload (i := (M 102 v)) (x := M 99 ((M 102 v).toNat)) A dX5_findPrices_205 rfl (by decide) (by decide) (by omega) rfl ?_
          refine a_if_ne (tgt := 211) A dX5_findPrices_206 (by decide) (by omega) (fun h206 => ?_) (fun h206 => ?_)
          · refine a_aload_n (z := 84) A dX5_findPrices_211 rfl ?_
            refine a_aload_n (z := 84) A dX5_findPrices_212 rfl ?_
            refine gf_X5_65 (r := 103) A dX5_findPrices_213 rfl (by decide) rfl ?_
            refine a_iload (z := (otr M v (M 102 v).toNat)) A dX5_findPrices_216 rfl ?_
            refine a_laload (i := (otr M v (M 102 v).toNat)) (x := M 103 ((otr M v (M 102 v).toNat).toNat)) A dX5_findPrices_218 rfl (by decide) (by decide) (by omega) rfl ?_
            refine a_aload_n (z := 84) A dX5_findPrices_219 rfl ?_
            refine gf_X5_56 (r := 100) A dX5_findPrices_220 rfl (by decide) rfl ?_
            refine a_iload (z := (M 102 v)) A dX5_findPrices_223 rfl ?_
            refine a_iaload (i := (M 102 v)) (x := M 100 ((M 102 v).toNat)) A dX5_findPrices_225 rfl (by decide) (by decide) (by omega) rfl ?_
            refine a_i2l A dX5_findPrices_226 (by omega) ?_
            refine a_lmul (x := (M 103 ((otr M v (M 102 v).toNat).toNat))) (y := (M 100 ((M 102 v).toNat))) A dX5_findPrices_227 ?_
            refine a_aload_n (z := 84) A dX5_findPrices_228 rfl ?_
            refine gf_X5_68 (r := 104) A dX5_findPrices_229 rfl (by decide) rfl ?_
            refine a_iload (z := (otr M v (M 102 v).toNat)) A dX5_findPrices_232 rfl ?_
            refine a_laload (i := (otr M v (M 102 v).toNat)) (x := M 104 ((otr M v (M 102 v).toNat).toNat)) A dX5_findPrices_234 rfl (by decide) (by decide) (by omega) rfl ?_
            refine a_aload_n (z := 84) A dX5_findPrices_235 rfl ?_
            refine gf_X5_53 (r := 99) A dX5_findPrices_236 rfl (by decide) rfl ?_
            refine a_iload (z := (M 102 v)) A dX5_findPrices_239 rfl ?_
            refine a_iaload (i := (M 102 v)) (x := M 99 ((M 102 v).toNat)) A dX5_findPrices_241 rfl (by decide) (by decide) (by omega) rfl ?_
            refine a_i2l A dX5_findPrices_242 (by omega) ?_
            refine a_lmul (x := (M 104 ((otr M v (M 102 v).toNat).toNat))) (y := (M 99 ((M 102 v).toNat))) A dX5_findPrices_243 ?_
            refine m_invVv A (c_X5_put G _ ((M 103 ((otr M v (M 102 v).toNat).toNat)) * (M 100 ((M 102 v).toNat))) ((M 104 ((otr M v (M 102 v).toNat).toNat)) * (M 99 ((M 102 v).toNat))) M (by omega) (by omega)) (by decide) mi_X5_put mv_X5_put cs_X5_100 cf5 dX5_findPrices_244 rfl (by decide) rfl rfl (Nat.le_of_ble_eq_true rfl) (fun M244 h244 => ?_)
            have h244 := h244.symm
            subst h244
            refine a_aload_n (z := 84) A dX5_findPrices_247 rfl ?_
            refine gf_X5_65 (r := 103) A dX5_findPrices_248 rfl (by decide) rfl ?_
            refine a_iload_n (z := (v : Int)) A dX5_findPrices_251 rfl ?_
            refine a_aload_n (z := 84) A dX5_findPrices_252 rfl ?_
            refine gf_X5_104 (x := (nU ((M 103 ((otr M v (M 102 v).toNat).toNat)) * (M 100 ((M 102 v).toNat))) ((M 104 ((otr M v (M 102 v).toNat).toNat)) * (M 99 ((M 102 v).toNat))))) A dX5_findPrices_253 rfl (by decide) rfl ?_
            refine a_lastore (i := (v : Int)) (j := v) A dX5_findPrices_256 rfl (by decide) (by decide) (by omega) rfl ?_
            refine a_aload_n (z := 84) A dX5_findPrices_257 rfl ?_
            refine gf_X5_68 (r := 104) A dX5_findPrices_258 rfl (by decide) rfl ?_
            refine a_iload_n (z := (v : Int)) A dX5_findPrices_261 rfl ?_
            refine a_aload_n (z := 84) A dX5_findPrices_262 rfl ?_
            refine gf_X5_108 (x := (nD ((M 103 ((otr M v (M 102 v).toNat).toNat)) * (M 100 ((M 102 v).toNat))) ((M 104 ((otr M v (M 102 v).toNat).toNat)) * (M 99 ((M 102 v).toNat))))) A dX5_findPrices_263 rfl (by decide) rfl ?_
            refine a_lastore (i := (v : Int)) (j := v) A dX5_findPrices_266 rfl (by decide) (by decide) (by omega) rfl ?_
            refine hs _ ?_ _ _
            unfold fpS
            first | (rw [if_neg (by omega), if_neg (by omega), if_pos (by omega)]; rfl) | (rw [if_neg (by omega), if_neg (by omega), if_neg (by omega), if_neg (by omega)]; rfl)
          · refine a_iconst A dX5_findPrices_209 ?_
            exact m_zreturn A T0 dX5_findPrices_210 (by first | exact Or.inl rfl | exact Or.inr rfl | omega) (hf (by unfold fpS; rw [if_neg (by omega), if_neg (by omega), if_neg (by omega), if_pos (by omega)]))
        · refine a_aload_n (z := 84) A dX5_findPrices_160 rfl ?_
          refine a_aload_n (z := 84) A dX5_findPrices_161 rfl ?_
          refine gf_X5_65 (r := 103) A dX5_findPrices_162 rfl (by decide) rfl ?_
          refine a_iload (z := (otr M v (M 102 v).toNat)) A dX5_findPrices_165 rfl ?_
          refine a_laload (i := (otr M v (M 102 v).toNat)) (x := M 103 ((otr M v (M 102 v).toNat).toNat)) A dX5_findPrices_167 rfl (by decide) (by decide) (by omega) rfl ?_
          refine a_aload_n (z := 84) A dX5_findPrices_168 rfl ?_
          refine gf_X5_53 (r := 99) A dX5_findPrices_169 rfl (by decide) rfl ?_
          refine a_iload (z := (M 102 v)) A dX5_findPrices_172 rfl ?_
          refine a_iaload (i := (M 102 v)) (x := M 99 ((M 102 v).toNat)) A dX5_findPrices_174 rfl (by decide) (by decide) (by omega) rfl ?_
          refine a_i2l A dX5_findPrices_175 (by omega) ?_
          refine a_lmul (x := (M 103 ((otr M v (M 102 v).toNat).toNat))) (y := (M 99 ((M 102 v).toNat))) A dX5_findPrices_176 ?_
          refine a_aload_n (z := 84) A dX5_findPrices_177 rfl ?_
          refine gf_X5_68 (r := 104) A dX5_findPrices_178 rfl (by decide) rfl ?_
          refine a_iload (z := (otr M v (M 102 v).toNat)) A dX5_findPrices_181 rfl ?_
          refine a_laload (i := (otr M v (M 102 v).toNat)) (x := M 104 ((otr M v (M 102 v).toNat).toNat)) A dX5_findPrices_183 rfl (by decide) (by decide) (by omega) rfl ?_
          refine a_aload_n (z := 84) A dX5_findPrices_184 rfl ?_
          refine gf_X5_56 (r := 100) A dX5_findPrices_185 rfl (by decide) rfl ?_
          refine a_iload (z := (M 102 v)) A dX5_findPrices_188 rfl ?_
          refine a_iaload (i := (M 102 v)) (x := M 100 ((M 102 v).toNat)) A dX5_findPrices_190 rfl (by decide) (by decide) (by omega) rfl ?_
          refine a_i2l A dX5_findPrices_191 (by omega) ?_
          refine a_lmul (x := (M 104 ((otr M v (M 102 v).toNat).toNat))) (y := (M 100 ((M 102 v).toNat))) A dX5_findPrices_192 ?_
          refine m_invVv A (c_X5_put G _ ((M 103 ((otr M v (M 102 v).toNat).toNat)) * (M 99 ((M 102 v).toNat))) ((M 104 ((otr M v (M 102 v).toNat).toNat)) * (M 100 ((M 102 v).toNat))) M (by omega) (by omega)) (by decide) mi_X5_put mv_X5_put cs_X5_100 cf5 dX5_findPrices_193 rfl (by decide) rfl rfl (Nat.le_of_ble_eq_true rfl) (fun M193 h193 => ?_)
          have h193 := h193.symm
          subst h193
          refine a_goto (tgt := 247) A dX5_findPrices_196 (by decide) ?_
          refine a_aload_n (z := 84) A dX5_findPrices_247 rfl ?_
          refine gf_X5_65 (r := 103) A dX5_findPrices_248 rfl (by decide) rfl ?_
          refine a_iload_n (z := (v : Int)) A dX5_findPrices_251 rfl ?_
          refine a_aload_n (z := 84) A dX5_findPrices_252 rfl ?_
          refine gf_X5_104 (x := (nU ((M 103 ((otr M v (M 102 v).toNat).toNat)) * (M 99 ((M 102 v).toNat))) ((M 104 ((otr M v (M 102 v).toNat).toNat)) * (M 100 ((M 102 v).toNat))))) A dX5_findPrices_253 rfl (by decide) rfl ?_
          refine a_lastore (i := (v : Int)) (j := v) A dX5_findPrices_256 rfl (by decide) (by decide) (by omega) rfl ?_
          refine a_aload_n (z := 84) A dX5_findPrices_257 rfl ?_
          refine gf_X5_68 (r := 104) A dX5_findPrices_258 rfl (by decide) rfl ?_
          refine a_iload_n (z := (v : Int)) A dX5_findPrices_261 rfl ?_
          refine a_aload_n (z := 84) A dX5_findPrices_262 rfl ?_
          refine gf_X5_108 (x := (nD ((M 103 ((otr M v (M 102 v).toNat).toNat)) * (M 99 ((M 102 v).toNat))) ((M 104 ((otr M v (M 102 v).toNat).toNat)) * (M 100 ((M 102 v).toNat))))) A dX5_findPrices_263 rfl (by decide) rfl ?_
          refine a_lastore (i := (v : Int)) (j := v) A dX5_findPrices_266 rfl (by decide) (by decide) (by omega) rfl ?_
          refine hs _ ?_ _ _
          unfold fpS
          first | (rw [if_neg (by omega), if_neg (by omega), if_pos (by omega)]; rfl) | (rw [if_neg (by omega), if_neg (by omega), if_neg (by omega), if_neg (by omega)]; rfl)
      · refine a_goto (tgt := 267) A dX5_findPrices_146 (by decide) ?_
        refine hs M ?_ _ _
        unfold fpS
        first | rw [if_pos (by omega)] | rw [if_neg (by omega), if_pos (by omega)]
  · refine a_goto (tgt := 267) A dX5_findPrices_93 (by decide) ?_
    refine hs M ?_ _ _
    unfold fpS
    first | rw [if_pos (by omega)] | rw [if_neg (by omega), if_pos (by omega)]
end
section
theorem lt_s1 {p : Nat → Prop} {i : Nat} (h : ∀ v, 1 ≤ v → v < i → p v) (hi : p i) : ∀ v, 1 ≤ v → v < i + 1 → p v := fun v h1 h2 => by
  rcases Nat.lt_or_ge v i with q | q
  · exact h v h1 q
  · rw [show v = i by omega]; exact hi
def fpL : Nat → Nat → MM → Option MM
  | 0, _, M => some M
  | c + 1, v, M => match fpS M v with
    | none => none
    | some M1 => fpL c (v + 1) M1
def fpRd (la : Nat) : Nat → MM → Option MM
  | 0, M => some M
  | r + 1, M => match fpL (la - 1) 1 M with
    | none => none
    | some M1 => fpRd la r M1
def piK (M : MM) (la : Int) (i : Nat) : MM := fun c => if c = 103 then (fun v => if v < i then (if (v : Int) = la then 1 else 0) else M 103 v) else if c = 104 then (fun v => if v < i then (if (v : Int) = la ∨ v = 0 ∨ M 102 v = -1 then 1 else 0) else M 104 v) else M c
theorem piK_0 (M : MM) (la : Int) : piK M la 0 = M := by
  funext c k
  unfold piK
  split
  · rename_i h; simp [h]
  · split
    · rename_i h; simp [h]
    · rfl
theorem piK_succ (M : MM) (la : Int) (i : Nat) {x y : Int} (hx : x = if (i : Int) = la then 1 else 0) (hy : y = if (i : Int) = la ∨ i = 0 ∨ M 102 i = -1 then 1 else 0) : up2 (up2 (piK M la i) 103 i x) 104 i y = piK M la (i + 1) := by
  subst hx; subst hy
  funext c k
  by_cases h1 : c = 103
  · subst h1
    simp only [up2, piK]
    by_cases hk : k = i
    · subst hk; simp
    · by_cases h2 : k < i
      · simp [hk, h2, Nat.lt_succ_of_lt h2]
      · simp [hk, h2, show ¬ k < i + 1 by omega]
  · by_cases h2 : c = 104
    · subst h2
      simp only [up2, piK]
      by_cases hk : k = i
      · subst hk; simp
      · by_cases h2 : k < i
        · simp [hk, h2, Nat.lt_succ_of_lt h2]
        · simp [hk, h2, show ¬ k < i + 1 by omega]
    · simp [up2, piK, h1, h2]
/-- what the search for prices leaves as it was -/
def FQ (M0 M : MM) : Prop := (∀ c, c ≠ 84 → c ≠ 103 → c ≠ 104 → M c = M0 c) ∧ ∀ j, j ≠ 15 → j ≠ 16 → M 84 j = M0 84 j
theorem FQ.rf (M : MM) : FQ M M := ⟨fun _ _ _ _ => rfl, fun _ _ _ => rfl⟩
theorem FQ.at {M0 M : MM} (h : FQ M0 M) {c : Nat} (h1 : c ≠ 84) (h2 : c ≠ 103) (h3 : c ≠ 104) (j : Nat) : M c j = M0 c j := by rw [h.1 c h1 h2 h3]
theorem FQ.tr {M0 M1 M : MM} (h : FQ M0 M1) (h' : FQ M1 M) : FQ M0 M := ⟨fun c h1 h2 h3 => (h'.1 c h1 h2 h3).trans (h.1 c h1 h2 h3), fun j h1 h2 => (h'.2 j h1 h2).trans (h.2 j h1 h2)⟩
theorem FQ.pik (M : MM) (la : Int) (i : Nat) : FQ M (piK M la i) := ⟨fun c _ h2 h3 => by unfold piK; rw [if_neg h2, if_neg h3], fun j _ _ => rfl⟩
theorem FQ.fpp {M0 M : MM} (h : FQ M0 M) (v : Nat) (a b : Int) : FQ M0 (fpP M v a b) := by
  refine ⟨fun c h1 h2 h3 => ?_, fun j h1 h2 => ?_⟩
  · show up2 _ 104 v _ c = _
    rw [up2_ne _ _ _ _ h3, up2_ne _ _ _ _ h2, up2_ne _ _ _ _ h1, up2_ne _ _ _ _ h1]
    exact h.1 c h1 h2 h3
  · show up2 _ 104 v _ 84 j = _
    rw [up2_ne _ _ _ _ (by decide), up2_ne _ _ _ _ (by decide), up2_in, if_neg h2, up2_in, if_neg h1]
    exact h.2 j h1 h2
def zc1 (la : Nat) (M : MM) (i : Nat) : Nat := if i < la ∧ M 104 i = 0 then 1 else 0
def zc (la : Nat) (M : MM) : Nat := zc1 la M 1 + zc1 la M 2 + zc1 la M 3
def bdZ : Nat → Int
  | 0 => 4913
  | 1 => 289
  | 2 => 17
  | _ => 1
/-- the choice of lanes at the posts, the shares that are reckoned with -/
def CHK (M : MM) : Prop := (∀ v : Nat, 1 ≤ v → (v : Int) < M 85 0 - 1 → M 102 v = -1 ∨ (0 ≤ M 102 v ∧ M 102 v < M 86 0)) ∧ ∀ k : Nat, (k : Int) < M 86 0 → 0 ≤ M 99 k ∧ M 99 k ≤ 17 ∧ 1 ≤ M 100 k ∧ M 100 k ≤ 9 ∧ 0 ≤ M 101 k ∧ M 101 k ≤ 100
def FPI (M0 : MM) (la : Nat) (M : MM) : Prop := FQ M0 M ∧ (∀ x : Nat, x ≤ la → 0 ≤ M 103 x ∧ M 103 x ≤ bdZ (zc la M) ∧ 0 ≤ M 104 x ∧ M 104 x ≤ bdZ (zc la M)) ∧ (∀ v : Nat, 1 ≤ v → v < la → M 104 v = 0 → M0 102 v ≠ -1) ∧ ∃ Q : Int, 1 ≤ Q ∧ Q ≤ bdZ (zc la M) ∧ ∀ x : Nat, x ≤ la → M 104 x ≠ 0 → M 104 x ∣ Q
theorem bdZ_le (z : Nat) : 1 ≤ bdZ z ∧ bdZ z ≤ 4913 := by
  match z with
  | 0 => decide
  | 1 => decide
  | 2 => decide
  | z + 3 => exact ⟨Int.le_refl _, by show (1 : Int) ≤ 4913; decide⟩
theorem bdZ_pred {z : Nat} (h : 1 ≤ z) (h3 : z ≤ 3) : bdZ (z - 1) = 17 * bdZ z := by
  match z, h, h3 with
  | 1, _, _ => decide
  | 2, _, _ => decide
  | 3, _, _ => decide
theorem zc_dec {la : Nat} {M M1 : MM} {v : Nat} (hv : 1 ≤ v ∧ v < la) (hla : la ≤ 4) (h0 : M 104 v = 0) (h1 : M1 104 v ≠ 0) (ho : ∀ x, x ≠ v → M1 104 x = M 104 x) : 1 ≤ zc la M ∧ zc la M ≤ 3 ∧ zc la M1 = zc la M - 1 := by
  have hv3 : v = 1 ∨ v = 2 ∨ v = 3 := by omega
  have e : ∀ i, i ≠ v → zc1 la M1 i = zc1 la M i := fun i hi => by unfold zc1; rw [ho i hi]
  have e0 : zc1 la M v = 1 := by unfold zc1; rw [if_pos ⟨hv.2, h0⟩]
  have e1 : zc1 la M1 v = 0 := by unfold zc1; rw [if_neg (fun q => h1 q.2)]
  have b : ∀ i, zc1 la M i ≤ 1 := fun i => by unfold zc1; split <;> omega
  have b1 := b 1
  have b2 := b 2
  have b3 := b 3
  unfold zc
  rcases hv3 with rfl | rfl | rfl
  · rw [e0, e1, e 2 (by decide), e 3 (by decide)]; omega
  · rw [e0, e1, e 1 (by decide), e 3 (by decide)]; omega
  · rw [e0, e1, e 1 (by decide), e 2 (by decide)]; omega
theorem fpS_keep {M0 M M1 : MM} {la v : Nat} (hw : WM M0) (hla : (la : Int) = M0 85 0 - 1) (hc : CHK M0) (h : FPI M0 la M) (hv : 1 ≤ v ∧ v < la) (he : fpS M v = some M1) : FPI M0 la M1 := by
  have hP := hw.1
  have hsame : some M = some M1 → FPI M0 la M1 := fun q => by cases q; exact h
  unfold fpS at he
  split at he
  · exact hsame he
  · rename_i h0
    have hdv := h.2.1 v (by omega)
    have hz : M 104 v = 0 := by omega
    have e102 := h.1.at (c := 102) (by decide) (by decide) (by decide) v
    have e86 := h.1.at (c := 86) (by decide) (by decide) (by decide) 0
    have hcv := h.2.2.1 v hv.1 hv.2 hz
    have hk := hc.1 v hv.1 (by omega)
    have hk2 : 0 ≤ M 102 v ∧ M 102 v < M0 86 0 := by rw [e102]; omega
    have hlw := hw.2.2 (M 102 v).toNat (by omega)
    have hch := hc.2 (M 102 v).toNat (by omega)
    unfold LW at hlw
    rw [← h.1.at (c := 87) (by decide) (by decide) (by decide), ← h.1.at (c := 88) (by decide) (by decide) (by decide)] at hlw
    rw [← h.1.at (c := 99) (by decide) (by decide) (by decide), ← h.1.at (c := 100) (by decide) (by decide) (by decide)] at hch
    have hot : 0 ≤ otr M v (M 102 v).toNat ∧ otr M v (M 102 v).toNat ≤ la := by unfold otr; split <;> omega
    have hpo := h.2.1 (otr M v (M 102 v).toNat).toNat (by omega)
    split at he
    · exact hsame he
    · rename_i hne
      have key : ∀ (s s' : Int), 0 ≤ s ∧ s ≤ 17 → 1 ≤ s' ∧ s' ≤ 17 → FPI M0 la (fpP M v (M 103 (otr M v (M 102 v).toNat).toNat * s) (M 104 (otr M v (M 102 v).toNat).toNat * s')) := by
        intro s s' hs hs'
        have ma := mul_bd (a := M 103 (otr M v (M 102 v).toNat).toNat) (b := s) (A := bdZ (zc la M)) (B := 17) ⟨hpo.1, hpo.2.1⟩ hs
        have mb := mul_bd (a := M 104 (otr M v (M 102 v).toNat).toNat) (b := s') (A := bdZ (zc la M)) (B := 17) ⟨hpo.2.2.1, hpo.2.2.2⟩ ⟨by omega, hs'.2⟩
        have mp : 0 < M 104 (otr M v (M 102 v).toNat).toNat * s' := Int.mul_pos (by omega) (by omega)
        generalize M 103 (otr M v (M 102 v).toNat).toNat * s = a at ma ⊢
        obtain ⟨Q, q1, q2, q3⟩ := h.2.2.2
        have hdv2 : M 104 (otr M v (M 102 v).toNat).toNat * s' ∣ Q * s' := Int.mul_dvd_mul (q3 _ (by omega) (by omega)) (Int.dvd_refl _)
        have hq1 := Int.mul_pos (a := Q) (b := s') (by omega) (by omega)
        have hq2 := mul_bd (a := Q) (b := s') (A := bdZ (zc la M)) (B := 17) ⟨by omega, q2⟩ ⟨by omega, hs'.2⟩
        generalize M 104 (otr M v (M 102 v).toNat).toNat * s' = b at mb mp hdv2 ⊢
        have hu := nU_bd ma.1 mp
        have hd := nD_bd (a := a) mp
        have e4v : fpP M v a b 104 v = nD a b := up2_self _ _ _ _
        have e4o : ∀ x, x ≠ v → fpP M v a b 104 x = M 104 x := fun x hx => by
          show up2 _ 104 v _ 104 x = _
          rw [up2_in, if_neg hx]
          rfl
        have e3v : fpP M v a b 103 v = nU a b := by
          show up2 _ 104 v _ 103 v = _
          rw [up2_ne _ _ _ _ (by decide), up2_self]
        have e3o : ∀ x, x ≠ v → fpP M v a b 103 x = M 103 x := fun x hx => by
          show up2 _ 104 v _ 103 x = _
          rw [up2_ne _ _ _ _ (by decide), up2_in, if_neg hx]
          rfl
        obtain ⟨z1, z2, z3⟩ := zc_dec hv (by omega) hz (by rw [e4v]; omega) e4o
        have hb := bdZ_pred z1 z2
        have hb1 := bdZ_le (zc la M)
        refine ⟨h.1.fpp v a b, fun x hx => ?_, fun u hu1 hu2 hu3 => ?_, Q * s', by omega, by rw [z3, hb]; omega, fun x hx hx0 => ?_⟩
        · rw [z3, hb]
          by_cases hxv : x = v
          · subst hxv
            rw [e3v, e4v]
            omega
          · rw [e3o x hxv, e4o x hxv]
            have := h.2.1 x hx
            omega
        · by_cases huv : u = v
          · subst huv; rw [e4v] at hu3; omega
          · rw [e4o u huv] at hu3; exact h.2.2.1 u hu1 hu2 hu3
        · by_cases hxv : x = v
          · subst hxv
            rw [e4v]
            exact Int.dvd_trans (nD_dvd mp) hdv2
          · rw [e4o x hxv] at hx0 ⊢
            exact Int.dvd_trans (q3 x hx hx0) (Int.dvd_mul_right _ _)
      split at he
      · cases he
        exact key _ _ (by omega) (by omega)
      · split at he
        · cases he
        · cases he
          exact key _ _ (by omega) (by omega)
theorem fpL_keep {M0 : MM} {la : Nat} (hw : WM M0) (hla : (la : Int) = M0 85 0 - 1) (hc : CHK M0) : ∀ (c v : Nat) (M M1 : MM), 1 ≤ v → v + c = la → FPI M0 la M → fpL c v M = some M1 → FPI M0 la M1 := by
  intro c
  induction c with
  | zero => intro v M M1 _ _ h he; cases he; exact h
  | succ c ih =>
    intro v M M1 hv hc' h he
    unfold fpL at he
    split at he
    · cases he
    · rename_i M2 h2
      exact ih (v + 1) M2 M1 (by omega) (by omega) (fpS_keep hw hla hc h ⟨hv, by omega⟩ h2) he
theorem fpRd_keep {M0 : MM} {la : Nat} (hw : WM M0) (hla : (la : Int) = M0 85 0 - 1) (hc : CHK M0) : ∀ (r : Nat) (M M1 : MM), FPI M0 la M → fpRd la r M = some M1 → FPI M0 la M1 := by
  intro r
  induction r with
  | zero => intro M M1 h he; cases he; exact h
  | succ r ih =>
    intro M M1 h he
    unfold fpRd at he
    split at he
    · cases he
    · rename_i M2 h2
      have hP := hw.1
      exact ih M2 M1 (fpL_keep hw hla hc (la - 1) 1 M M2 (by omega) (by omega) h h2) he
def fpA (M : MM) : Option MM := fpRd (M 85 0 - 1).toNat 3 (piK M (M 85 0 - 1) (M 85 0).toNat)
def fpOk (M M1 : MM) : Prop := fpA M = some M1 ∧ ∀ v : Nat, 1 ≤ v → (v : Int) < M 85 0 - 1 → M1 104 v ≠ 0
set_option maxRecDepth 100000 in
set_option maxHeartbeats 4000000 in
theorem fp_chk5 {G : GG} {E : EE} {P : Int → MM → Prop} (A : AmM G E cX5_findPrices 6 yX5_findPrices.cls 3) (T0 : RT E G yX5_findPrices 108 0 0 (some .boolean) (fun r rf' M' => rf' = rF ∧ ∃ z, r = some (vi z) ∧ P z M')) (M0 : MM) (la : Nat) (hw : WM M0) (hla : (la : Int) = M0 85 0 - 1) (hc : CHK M0) (M : MM) (hI : FPI M0 la M) (w3 w4 w5 : Value) (hp1 : (∀ v : Nat, 1 ≤ v → v < la → M 104 v ≠ 0) → P 1 M) (hp0 : (∃ v : Nat, 1 ≤ v ∧ v < la ∧ M 104 v = 0) → P 0 M) : ∀ (n : Nat) (i : Nat), la - i < n → 1 ≤ i → i ≤ la → (∀ v : Nat, 1 ≤ v → v < i → M 104 v ≠ 0) → AM G E 6 281 [.ref 84, vi (la : Int), vi (i : Int), w3, w4, w5] [] M := by
  intro n
  induction n with
  | zero => intro i hn h1 hi hq; exfalso; omega
  | succ n ih =>
    intro i hn h1 hi hq
    have hP := hw.1
    have hb := hI.2.1 i (by omega)
    have hb2 := bdZ_le (zc la M)
    refine a_iload_n (z := (i : Int)) A dX5_findPrices_281 rfl ?_
    refine a_iload_n (z := (la : Int)) A dX5_findPrices_282 rfl ?_
    refine a_icmp_ge (tgt := 305) A dX5_findPrices_283 (by decide) (by omega) (by omega) (fun h283 => ?_) (fun h283 => ?_)
    · refine a_iconst A dX5_findPrices_305 ?_
      exact m_zreturn A T0 dX5_findPrices_306 (by first | exact Or.inl rfl | exact Or.inr rfl | omega) (hp1 (fun v h2 h3 => hq v h2 (by omega)))
    · refine a_aload_n (z := 84) A dX5_findPrices_286 rfl ?_
      refine gf_X5_68 (r := 104) A dX5_findPrices_287 rfl (by decide) rfl ?_
      refine a_iload_n (z := (i : Int)) A dX5_findPrices_290 rfl ?_
      refine a_laload (i := (i : Int)) (x := M 104 i) A dX5_findPrices_291 rfl (by decide) (by decide) (by omega) rfl ?_
      refine a_lconst0 A dX5_findPrices_292 ?_
      refine a_lcmp_ne (tgt := 299) A dX5_findPrices_293 dX5_findPrices_294 (by decide) (by omega) (by omega) (fun h293 => ?_) (fun h293 => ?_)
      · refine a_iinc (z := (i : Int)) (lv' := [.ref 84, vi (la : Int), vi ((i : Int) + 1), w3, w4, w5]) A dX5_findPrices_299 rfl (by decide) rfl ?_
        refine a_goto (tgt := 281) A dX5_findPrices_302 (by decide) ?_
        exact ih (i + 1) (by omega) (by omega) (by omega) (lt_s1 hq h293)
      · refine a_iconst A dX5_findPrices_297 ?_
        exact m_zreturn A T0 dX5_findPrices_298 (by first | exact Or.inl rfl | exact Or.inr rfl | omega) (hp0 ⟨i, h1, by omega, h293⟩)
set_option maxRecDepth 100000 in
set_option maxHeartbeats 4000000 in
theorem fp_in5 {G : GG} {E : EE} {P : Int → MM → Prop} (A : AmM G E cX5_findPrices 6 yX5_findPrices.cls 3) (T0 : RT E G yX5_findPrices 108 0 0 (some .boolean) (fun r rf' M' => rf' = rF ∧ ∃ z, r = some (vi z) ∧ P z M')) (M0 : MM) (la : Nat) (hw : WM M0) (hla : (la : Int) = M0 85 0 - 1) (hc : CHK M0) (rd : Int) : ∀ (n : Nat) (v : Nat) (M : MM) (w4 w5 : Value), la - v < n → 1 ≤ v → v ≤ la → FPI M0 la M → (∀ M1, fpL (la - v) v M = some M1 → FPI M0 la M1 → ∀ w4 w5 : Value, AM G E 6 273 [.ref 84, vi (la : Int), vi rd, vi (la : Int), w4, w5] [] M1) → (fpL (la - v) v M = none → ∀ M', FQ M0 M' → P 0 M') → AM G E 6 77 [.ref 84, vi (la : Int), vi rd, vi (v : Int), w4, w5] [] M := by
  intro n
  induction n with
  | zero => intro v M w4 w5 hn h1 hv hI hs hf; exfalso; omega
  | succ n ih =>
    intro v M w4 w5 hn h1 hv hI hs hf
    have hP := hw.1
    refine a_iload_n (z := (v : Int)) A dX5_findPrices_77 rfl ?_
    refine a_iload_n (z := (la : Int)) A dX5_findPrices_78 rfl ?_
    refine a_icmp_ge (tgt := 273) A dX5_findPrices_79 (by decide) (by omega) (by omega) (fun h79 => ?_) (fun h79 => ?_)
    · have e : la - v = 0 := by omega
      have ev : (v : Int) = (la : Int) := by omega
      rw [e] at hs
      rw [ev]
      exact hs M rfl hI _ _
    · have e : la - v = (la - (v + 1)) + 1 := by omega
      rw [e] at hs hf
      have hb := hI.2.1
      have hb2 := bdZ_le (zc la M)
      have e102 := hI.1.at (c := 102) (by decide) (by decide) (by decide) v
      have e86 := hI.1.at (c := 86) (by decide) (by decide) (by decide) 0
      have hk2 : M 104 v = 0 → 0 ≤ M 102 v ∧ M 102 v < M0 86 0 := fun q => by have := hI.2.2.1 v h1 (by omega) q; have := hc.1 v h1 (by omega); rw [e102]; omega
      refine fp_step5 A T0 M v la rd ⟨h1, by omega⟩ (by omega) (by have := hb v hv; omega) (by have := hw.2.1; omega) (fun q => by have := hk2 q; omega) (fun q => ?_) (fun q => ?_) (fun x hx => by have := hb x (by omega); omega) (fun M1 hM1 w4 w5 => ?_) (fun hM1 => hf (by unfold fpL; rw [hM1]) M hI.1) _ _
      · have hlw := hw.2.2 (M 102 v).toNat (by have := hk2 q; omega)
        unfold LW at hlw
        rw [← hI.1.at (c := 87) (by decide) (by decide) (by decide), ← hI.1.at (c := 88) (by decide) (by decide) (by decide)] at hlw
        omega
      · have hch := hc.2 (M 102 v).toNat (by have := hk2 q; omega)
        rw [← hI.1.at (c := 99) (by decide) (by decide) (by decide), ← hI.1.at (c := 100) (by decide) (by decide) (by decide)] at hch
        omega
      · have hI1 := fpS_keep hw hla hc hI ⟨h1, by omega⟩ hM1
        refine a_iinc (z := (v : Int)) (lv' := [.ref 84, vi (la : Int), vi rd, vi ((v : Int) + 1), w4, w5]) A dX5_findPrices_267 rfl (by decide) rfl ?_
        refine a_goto (tgt := 77) A dX5_findPrices_270 (by decide) ?_
        exact ih (v + 1) M1 _ _ (by omega) (by omega) (by omega) hI1 (fun M2 h2 => hs M2 (by unfold fpL; rw [hM1]; exact h2)) (fun h2 => hf (by unfold fpL; rw [hM1]; exact h2))
set_option maxRecDepth 100000 in
set_option maxHeartbeats 4000000 in
theorem fp_rd5 {G : GG} {E : EE} {P : Int → MM → Prop} (A : AmM G E cX5_findPrices 6 yX5_findPrices.cls 3) (T0 : RT E G yX5_findPrices 108 0 0 (some .boolean) (fun r rf' M' => rf' = rF ∧ ∃ z, r = some (vi z) ∧ P z M')) (M0 : MM) (la : Nat) (hw : WM M0) (hla : (la : Int) = M0 85 0 - 1) (hc : CHK M0) : ∀ (n : Nat) (i : Nat) (M : MM) (w3 w4 w5 : Value), 3 - i < n → i ≤ 3 → FPI M0 la M → (∀ M1, fpRd la (3 - i) M = some M1 → FPI M0 la M1 → ((∀ v : Nat, 1 ≤ v → v < la → M1 104 v ≠ 0) → P 1 M1) ∧ ((∃ v : Nat, 1 ≤ v ∧ v < la ∧ M1 104 v = 0) → P 0 M1)) → (fpRd la (3 - i) M = none → ∀ M', FQ M0 M' → P 0 M') → AM G E 6 70 [.ref 84, vi (la : Int), vi (i : Int), w3, w4, w5] [] M := by
  intro n
  induction n with
  | zero => intro i M w3 w4 w5 hn hi hI hs hf; exfalso; omega
  | succ n ih =>
    intro i M w3 w4 w5 hn hi hI hs hf
    have hP := hw.1
    refine a_iload_n (z := (i : Int)) A dX5_findPrices_70 rfl ?_
    refine a_iconst A dX5_findPrices_71 ?_
    refine a_icmp_ge (tgt := 279) A dX5_findPrices_72 (by decide) (by omega) (by omega) (fun h72 => ?_) (fun h72 => ?_)
    · refine a_iconst A dX5_findPrices_279 ?_
      refine a_istore_n (lv' := [.ref 84, vi (la : Int), vi 1, w3, w4, w5]) A dX5_findPrices_280 (by decide) rfl ?_
      have e : 3 - i = 0 := by omega
      rw [e] at hs
      have h2 := hs M rfl hI
      exact fp_chk5 A T0 M0 la hw hla hc M hI _ _ _ h2.1 h2.2 5 1 (by omega) (by omega) (by omega) (fun v a b => by omega)
    · refine a_iconst A dX5_findPrices_75 ?_
      refine a_istore_n (lv' := [.ref 84, vi (la : Int), vi (i : Int), vi 1, w4, w5]) A dX5_findPrices_76 (by decide) rfl ?_
      have e : 3 - i = (3 - (i + 1)) + 1 := by omega
      rw [e] at hs hf
      refine fp_in5 A T0 M0 la hw hla hc (i : Int) 5 1 M _ _ (by omega) (by omega) (by omega) hI (fun M1 hM1 hI1 w4 w5 => ?_) (fun hM1 => hf (by unfold fpRd; rw [hM1]))
      refine a_iinc (z := (i : Int)) (lv' := [.ref 84, vi (la : Int), vi ((i : Int) + 1), vi (la : Int), w4, w5]) A dX5_findPrices_273 rfl (by decide) rfl ?_
      refine a_goto (tgt := 70) A dX5_findPrices_276 (by decide) ?_
      exact ih (i + 1) M1 _ _ _ (by omega) (by omega) hI1 (fun M2 h2 => hs M2 (by unfold fpRd; rw [hM1]; exact h2)) (fun h2 => hf (by unfold fpRd; rw [hM1]; exact h2))
set_option maxRecDepth 100000 in
set_option maxHeartbeats 4000000 in
theorem fp_pi5 {G : GG} {E : EE}  (A : AmM G E cX5_findPrices 6 yX5_findPrices.cls 3)  (M : MM) (la : Nat) (hla : la ≤ 4) (hcr : ∀ v : Nat, 1 ≤ v → v < la → I32 (M 102 v)) (kk : AM G E 6 68 [.ref 84, vi (la : Int), vi ((la : Int) + 1), jk, jk, jk] [] (piK M la (la + 1))) : ∀ (n : Nat) (i : Nat), la + 1 - i < n → i ≤ la + 1 → AM G E 6 11 [.ref 84, vi (la : Int), vi (i : Int), jk, jk, jk] [] (piK M la i) := by
  intro n
  induction n with
  | zero => intro i hn hi; exfalso; omega
  | succ n ih =>
    intro i hn hi
    have hc0 : i ≠ 0 → i < la → I32 (M 102 i) := fun a b => hcr i (by omega) b
    refine a_iload_n (z := (i : Int)) A dX5_findPrices_11 rfl ?_
    refine a_iload_n (z := (la : Int)) A dX5_findPrices_12 rfl ?_
    refine a_icmp_gt (tgt := 68) A dX5_findPrices_13 (by decide) (by omega) (by omega) (fun h13 => ?_) (fun h13 => ?_)
    · have e : i = la + 1 := by omega
      subst e
      exact kk
    · refine a_aload_n (z := 84) A dX5_findPrices_16 rfl ?_
      refine gf_X5_65 (r := 103) A dX5_findPrices_17 rfl (by decide) rfl ?_
      refine a_iload_n (z := (i : Int)) A dX5_findPrices_20 rfl ?_
      refine a_iload_n (z := (i : Int)) A dX5_findPrices_21 rfl ?_
      refine a_iload_n (z := (la : Int)) A dX5_findPrices_22 rfl ?_
      refine a_icmp_ne (tgt := 30) A dX5_findPrices_23 (by decide) (by omega) (by omega) (fun h23 => ?_) (fun h23 => ?_)
      · refine a_lconst0 A dX5_findPrices_30 ?_
        refine a_lastore (i := (i : Int)) (j := i) A dX5_findPrices_31 rfl (by decide) (by decide) (by omega) rfl ?_
        refine a_aload_n (z := 84) A dX5_findPrices_32 rfl ?_
        refine gf_X5_68 (r := 104) A dX5_findPrices_33 rfl (by decide) rfl ?_
        refine a_iload_n (z := (i : Int)) A dX5_findPrices_36 rfl ?_
        refine a_iload_n (z := (i : Int)) A dX5_findPrices_37 rfl ?_
        refine a_iload_n (z := (la : Int)) A dX5_findPrices_38 rfl ?_
        refine a_icmp_eq (tgt := 56) A dX5_findPrices_39 (by decide) (by omega) (by omega) (fun h39 => ?_) (fun h39 => ?_)
        · refine a_lconst1 A dX5_findPrices_56 ?_
          refine a_goto (tgt := 61) A dX5_findPrices_57 (by decide) ?_
          refine a_lastore (i := (i : Int)) (j := i) A dX5_findPrices_61 rfl (by decide) (by decide) (by omega) rfl ?_
          refine a_iinc (z := (i : Int)) (lv' := [.ref 84, vi (la : Int), vi ((i : Int) + 1), jk, jk, jk]) A dX5_findPrices_62 rfl (by decide) rfl ?_
          refine a_goto (tgt := 11) A dX5_findPrices_65 (by decide) ?_
          rw [piK_succ M la i (by first | (exfalso; omega) | rw [if_pos (by omega)] | rw [if_neg (by omega)]) (by first | (exfalso; omega) | rw [if_pos (by omega)] | rw [if_neg (by omega)])]
          exact ih (i + 1) (by omega) (by omega)
        · refine a_iload_n (z := (i : Int)) A dX5_findPrices_42 rfl ?_
          refine a_if_eq (tgt := 56) A dX5_findPrices_43 (by decide) (by omega) (fun h43 => ?_) (fun h43 => ?_)
          · refine a_lconst1 A dX5_findPrices_56 ?_
            refine a_goto (tgt := 61) A dX5_findPrices_57 (by decide) ?_
            refine a_lastore (i := (i : Int)) (j := i) A dX5_findPrices_61 rfl (by decide) (by decide) (by omega) rfl ?_
            refine a_iinc (z := (i : Int)) (lv' := [.ref 84, vi (la : Int), vi ((i : Int) + 1), jk, jk, jk]) A dX5_findPrices_62 rfl (by decide) rfl ?_
            refine a_goto (tgt := 11) A dX5_findPrices_65 (by decide) ?_
            rw [piK_succ M la i (by first | (exfalso; omega) | rw [if_pos (by omega)] | rw [if_neg (by omega)]) (by first | (exfalso; omega) | rw [if_pos (by omega)] | rw [if_neg (by omega)])]
            exact ih (i + 1) (by omega) (by omega)
          · refine a_aload_n (z := 84) A dX5_findPrices_46 rfl ?_
            refine gf_X5_62 (r := 102) A dX5_findPrices_47 rfl (by decide) rfl ?_
            refine a_iload_n (z := (i : Int)) A dX5_findPrices_50 rfl ?_
            refine a_iaload (i := (i : Int)) (x := M 102 i) A dX5_findPrices_51 rfl (by decide) (by decide) (by omega) rfl ?_
            refine a_iconst A dX5_findPrices_52 ?_
            refine a_icmp_ne (tgt := 60) A dX5_findPrices_53 (by decide) (by omega) (by omega) (fun h53 => ?_) (fun h53 => ?_)
            · refine a_lconst0 A dX5_findPrices_60 ?_
              refine a_lastore (i := (i : Int)) (j := i) A dX5_findPrices_61 rfl (by decide) (by decide) (by omega) rfl ?_
              refine a_iinc (z := (i : Int)) (lv' := [.ref 84, vi (la : Int), vi ((i : Int) + 1), jk, jk, jk]) A dX5_findPrices_62 rfl (by decide) rfl ?_
              refine a_goto (tgt := 11) A dX5_findPrices_65 (by decide) ?_
              rw [piK_succ M la i (by first | (exfalso; omega) | rw [if_pos (by omega)] | rw [if_neg (by omega)]) (by first | (exfalso; omega) | rw [if_pos (by omega)] | rw [if_neg (by omega)])]
              exact ih (i + 1) (by omega) (by omega)
            · refine a_lconst1 A dX5_findPrices_56 ?_
              refine a_goto (tgt := 61) A dX5_findPrices_57 (by decide) ?_
              refine a_lastore (i := (i : Int)) (j := i) A dX5_findPrices_61 rfl (by decide) (by decide) (by omega) rfl ?_
              refine a_iinc (z := (i : Int)) (lv' := [.ref 84, vi (la : Int), vi ((i : Int) + 1), jk, jk, jk]) A dX5_findPrices_62 rfl (by decide) rfl ?_
              refine a_goto (tgt := 11) A dX5_findPrices_65 (by decide) ?_
              rw [piK_succ M la i (by first | (exfalso; omega) | rw [if_pos (by omega)] | rw [if_neg (by omega)]) (by first | (exfalso; omega) | rw [if_pos (by omega)] | rw [if_neg (by omega)])]
              exact ih (i + 1) (by omega) (by omega)
      · refine a_lconst1 A dX5_findPrices_26 ?_
        refine a_goto (tgt := 31) A dX5_findPrices_27 (by decide) ?_
        refine a_lastore (i := (i : Int)) (j := i) A dX5_findPrices_31 rfl (by decide) (by decide) (by omega) rfl ?_
        refine a_aload_n (z := 84) A dX5_findPrices_32 rfl ?_
        refine gf_X5_68 (r := 104) A dX5_findPrices_33 rfl (by decide) rfl ?_
        refine a_iload_n (z := (i : Int)) A dX5_findPrices_36 rfl ?_
        refine a_iload_n (z := (i : Int)) A dX5_findPrices_37 rfl ?_
        refine a_iload_n (z := (la : Int)) A dX5_findPrices_38 rfl ?_
        refine a_icmp_eq (tgt := 56) A dX5_findPrices_39 (by decide) (by omega) (by omega) (fun h39 => ?_) (fun h39 => ?_)
        · refine a_lconst1 A dX5_findPrices_56 ?_
          refine a_goto (tgt := 61) A dX5_findPrices_57 (by decide) ?_
          refine a_lastore (i := (i : Int)) (j := i) A dX5_findPrices_61 rfl (by decide) (by decide) (by omega) rfl ?_
          refine a_iinc (z := (i : Int)) (lv' := [.ref 84, vi (la : Int), vi ((i : Int) + 1), jk, jk, jk]) A dX5_findPrices_62 rfl (by decide) rfl ?_
          refine a_goto (tgt := 11) A dX5_findPrices_65 (by decide) ?_
          rw [piK_succ M la i (by first | (exfalso; omega) | rw [if_pos (by omega)] | rw [if_neg (by omega)]) (by first | (exfalso; omega) | rw [if_pos (by omega)] | rw [if_neg (by omega)])]
          exact ih (i + 1) (by omega) (by omega)
        · refine a_iload_n (z := (i : Int)) A dX5_findPrices_42 rfl ?_
          refine a_if_eq (tgt := 56) A dX5_findPrices_43 (by decide) (by omega) (fun h43 => ?_) (fun h43 => ?_)
          · refine a_lconst1 A dX5_findPrices_56 ?_
            refine a_goto (tgt := 61) A dX5_findPrices_57 (by decide) ?_
            refine a_lastore (i := (i : Int)) (j := i) A dX5_findPrices_61 rfl (by decide) (by decide) (by omega) rfl ?_
            refine a_iinc (z := (i : Int)) (lv' := [.ref 84, vi (la : Int), vi ((i : Int) + 1), jk, jk, jk]) A dX5_findPrices_62 rfl (by decide) rfl ?_
            refine a_goto (tgt := 11) A dX5_findPrices_65 (by decide) ?_
            rw [piK_succ M la i (by first | (exfalso; omega) | rw [if_pos (by omega)] | rw [if_neg (by omega)]) (by first | (exfalso; omega) | rw [if_pos (by omega)] | rw [if_neg (by omega)])]
            exact ih (i + 1) (by omega) (by omega)
          · refine a_aload_n (z := 84) A dX5_findPrices_46 rfl ?_
            refine gf_X5_62 (r := 102) A dX5_findPrices_47 rfl (by decide) rfl ?_
            refine a_iload_n (z := (i : Int)) A dX5_findPrices_50 rfl ?_
            refine a_iaload (i := (i : Int)) (x := M 102 i) A dX5_findPrices_51 rfl (by decide) (by decide) (by omega) rfl ?_
            refine a_iconst A dX5_findPrices_52 ?_
            refine a_icmp_ne (tgt := 60) A dX5_findPrices_53 (by decide) (by omega) (by omega) (fun h53 => ?_) (fun h53 => ?_)
            · refine a_lconst0 A dX5_findPrices_60 ?_
              refine a_lastore (i := (i : Int)) (j := i) A dX5_findPrices_61 rfl (by decide) (by decide) (by omega) rfl ?_
              refine a_iinc (z := (i : Int)) (lv' := [.ref 84, vi (la : Int), vi ((i : Int) + 1), jk, jk, jk]) A dX5_findPrices_62 rfl (by decide) rfl ?_
              refine a_goto (tgt := 11) A dX5_findPrices_65 (by decide) ?_
              rw [piK_succ M la i (by first | (exfalso; omega) | rw [if_pos (by omega)] | rw [if_neg (by omega)]) (by first | (exfalso; omega) | rw [if_pos (by omega)] | rw [if_neg (by omega)])]
              exact ih (i + 1) (by omega) (by omega)
            · refine a_lconst1 A dX5_findPrices_56 ?_
              refine a_goto (tgt := 61) A dX5_findPrices_57 (by decide) ?_
              refine a_lastore (i := (i : Int)) (j := i) A dX5_findPrices_61 rfl (by decide) (by decide) (by omega) rfl ?_
              refine a_iinc (z := (i : Int)) (lv' := [.ref 84, vi (la : Int), vi ((i : Int) + 1), jk, jk, jk]) A dX5_findPrices_62 rfl (by decide) rfl ?_
              refine a_goto (tgt := 11) A dX5_findPrices_65 (by decide) ?_
              rw [piK_succ M la i (by first | (exfalso; omega) | rw [if_pos (by omega)] | rw [if_neg (by omega)]) (by first | (exfalso; omega) | rw [if_pos (by omega)] | rw [if_neg (by omega)])]
              exact ih (i + 1) (by omega) (by omega)
theorem fpI_0 {M : MM} {la : Nat} (hla : la ≤ 4) : FPI M la (piK M la (la + 1)) := by
  refine ⟨FQ.pik M la _, fun x hx => ?_, fun v h1 h2 h3 => ?_, 1, by omega, (bdZ_le _).1, fun x hx h0 => ?_⟩
  · have hb := bdZ_le (zc la (piK M la (la + 1)))
    show 0 ≤ (if x < la + 1 then (if (x : Int) = la then (1 : Int) else 0) else M 103 x) ∧ (if x < la + 1 then (if (x : Int) = la then (1 : Int) else 0) else M 103 x) ≤ _ ∧ 0 ≤ (if x < la + 1 then (if (x : Int) = la ∨ x = 0 ∨ M 102 x = -1 then (1 : Int) else 0) else M 104 x) ∧ (if x < la + 1 then (if (x : Int) = la ∨ x = 0 ∨ M 102 x = -1 then (1 : Int) else 0) else M 104 x) ≤ _
    have hx2 : x < la + 1 := by omega
    simp only [if_pos hx2]
    refine ⟨?_, ?_, ?_, ?_⟩ <;> split <;> omega
  · have h4 : (if v < la + 1 then (if (v : Int) = la ∨ v = 0 ∨ M 102 v = -1 then (1 : Int) else 0) else M 104 v) = 0 := h3
    rw [if_pos (by omega)] at h4
    intro q
    rw [if_pos (Or.inr (Or.inr q))] at h4
    omega
  · have h4 : (if x < la + 1 then (if (x : Int) = la ∨ x = 0 ∨ M 102 x = -1 then (1 : Int) else 0) else M 104 x) ≠ 0 := h0
    have hx2 : x < la + 1 := by omega
    show (if x < la + 1 then (if (x : Int) = la ∨ x = 0 ∨ M 102 x = -1 then (1 : Int) else 0) else M 104 x) ∣ 1
    simp only [if_pos hx2] at h4 ⊢
    split at h4
    · rename_i c
      rw [if_pos c]
      exact Int.dvd_refl _
    · exact absurd rfl h4
set_option maxRecDepth 100000 in
set_option maxHeartbeats 4000000 in
theorem c_X5_findPrices (G : GG) (l : Launch) (M : MM) (hw : WM M) (hc : CHK M) : CMi G l yX5_findPrices cX5_findPrices 6 (some .boolean) 3 [.ref 84] M (fun z M' => (z = 1 ∧ fpOk M M' ∧ FPI M (M 85 0 - 1).toNat M') ∨ (z = 0 ∧ (¬ ∃ M1, fpOk M M1) ∧ FQ M M')) := by
  refine CT.intro (by decide) (Nat.le_of_ble_eq_true rfl) (fun E hE A T0 => ?_)
  subst hE
  have hP := hw.1
  obtain ⟨la, hla⟩ : ∃ la : Nat, (la : Int) = M 85 0 - 1 := ⟨(M 85 0 - 1).toNat, by omega⟩
  refine a_aload_n (z := 84) A dX5_findPrices_0 rfl ?_
  refine gf_X5_7 (r := 85) A dX5_findPrices_1 rfl (by decide) rfl ?_
  refine a_iconst A dX5_findPrices_4 ?_
  refine a_iaload (i := 0) (x := M 85 0) A dX5_findPrices_5 rfl (by decide) (by decide) (by omega) rfl ?_
  refine a_iconst A dX5_findPrices_6 ?_
  refine a_isub (x := (M 85 0)) (y := 1) A dX5_findPrices_7 ?_
  rw [← hla]
  refine a_istore_n (lv' := [.ref 84, vi (la : Int), jk, jk, jk, jk]) A dX5_findPrices_8 (by decide) rfl ?_
  refine a_iconst A dX5_findPrices_9 ?_
  refine a_istore_n (lv' := [.ref 84, vi (la : Int), vi 0, jk, jk, jk]) A dX5_findPrices_10 (by decide) rfl ?_
  have hk := fp_pi5 A M la (by omega) (fun v a b => by have := hc.1 v a (by omega); have := hw.2.1; omega) ?_ (la + 2) 0 (by omega) (by omega)
  · rw [piK_0] at hk; exact hk
  refine a_iconst A dX5_findPrices_68 ?_
  refine a_istore_n (lv' := [.ref 84, vi (la : Int), vi 0, jk, jk, jk]) A dX5_findPrices_69 (by decide) rfl ?_
  refine fp_rd5 A T0 M la hw hla hc 4 0 _ _ _ _ (by omega) (by omega) (fpI_0 (by omega)) (fun M1 hM1 hI1 => ⟨fun q => Or.inl ⟨rfl, ⟨?_, fun v a b => q v a (by omega)⟩, ?_⟩, fun q => Or.inr ⟨rfl, ?_, hI1.1⟩⟩) (fun hM1 M' hM' => Or.inr ⟨rfl, ?_, hM'⟩)
  · unfold fpA; rw [← hla]; exact (by rw [show (M 85 0).toNat = la + 1 by omega]; exact hM1)
  · rw [← hla]; exact hI1
  · rintro ⟨M2, h2, h3⟩
    unfold fpA at h2
    rw [← hla, show (M 85 0).toNat = la + 1 by omega] at h2
    have e2 : some M2 = some M1 := h2.symm.trans hM1
    cases e2
    obtain ⟨v, a, b, c⟩ := q
    exact h3 v a (by omega) c
  · rintro ⟨M2, h2, h3⟩
    unfold fpA at h2
    rw [← hla, show (M 85 0).toNat = la + 1 by omega] at h2
    have e2 : some M2 = none := h2.symm.trans hM1
    cases e2
end
section
def w2 (M : MM) (x y : Int) : MM := up2 (up2 M 84 15 x) 84 16 y
theorem w2_self (M : MM) : w2 M (M 84 15) (M 84 16) = M := by
  funext c k
  unfold w2 up2
  by_cases h : c = 84
  · subst h
    by_cases h2 : k = 16
    · subst h2; simp
    · by_cases h3 : k = 15
      · subst h3; simp
      · simp [h2, h3]
  · simp [h]
theorem w2_w2 (M : MM) (x y x' y' : Int) : up2 (up2 (w2 M x y) 84 15 x') 84 16 y' = w2 M x' y' := by
  funext c k
  unfold w2 up2
  by_cases h : c = 84
  · subst h
    by_cases h2 : k = 16
    · subst h2; simp
    · by_cases h3 : k = 15
      · subst h3; simp
      · simp [h2, h3]
  · simp [h]
theorem nUD_mul {a b : Int} (hb : 0 < b) : nU a b * b = a * nD a b := by
  obtain ⟨h1, h2⟩ := nUD (a := a) hb
  generalize (Int.gcd a b : Int) = g at h1 h2
  generalize hu : nU a b = u at h1 h2 ⊢
  generalize hd : nD a b = d at h1 h2 ⊢
  rw [h1, h2, ← Int.mul_assoc, Int.mul_comm u g]
/-- the sum of two fractions over one lower number, as the reference makes it -/
theorem fr_add {S N D a b u w g : Int} (hD : 0 < D) (ha : a = nU S D) (hb : b = nD S D) (hu : u = nU N D) (hw : w = nD N D) (hg : g = (Int.gcd b w : Int)) : 0 < b.tdiv g * w ∧ b.tdiv g * w ≤ D ∧ (a * w.tdiv g + u * b.tdiv g) * D = (S + N) * (b.tdiv g * w) := by
  have hb0 : 0 < b := by rw [hb]; exact (nD_bd hD).1
  have hw0 : 0 < w := by rw [hw]; exact (nD_bd hD).1
  have hg0 : 0 < g := by rw [hg]; exact (gcd_pos hw0).1
  obtain ⟨b', eb⟩ : g ∣ b := by rw [hg]; exact Int.gcd_dvd_left _ _
  obtain ⟨w', ew⟩ : g ∣ w := by rw [hg]; exact Int.gcd_dvd_right _ _
  have tb : b.tdiv g = b' := by rw [eb]; exact Int.mul_tdiv_cancel_left b' (by omega)
  have tw : w.tdiv g = w' := by rw [ew]; exact Int.mul_tdiv_cancel_left w' (by omega)
  have hb1 : 0 < b' := by
    rcases Int.lt_or_le 0 b' with q | q
    · exact q
    · have := Int.mul_nonpos_of_nonneg_of_nonpos (a := g) (b := b') (by omega) q; omega
  have hY : 0 < b' * w := Int.mul_pos hb1 hw0
  have hdb : b ∣ D := by rw [hb]; exact nD_dvd hD
  have hdw : w ∣ D := by rw [hw]; exact nD_dvd hD
  have hl : b' * w ∣ D := by
    have h1 : Int.lcm b w ∣ D.natAbs := by
      exact Nat.lcm_dvd (Int.natAbs_dvd_natAbs.mpr hdb) (Int.natAbs_dvd_natAbs.mpr hdw)
    have h2 : Int.gcd b w * Int.lcm b w = b.natAbs * w.natAbs := Int.gcd_mul_lcm b w
    have h3 : ((Int.gcd b w * Int.lcm b w : Nat) : Int) = b * w := by
      rw [h2]
      push_cast
      rw [Int.ofNat_natAbs_of_nonneg (by omega), Int.ofNat_natAbs_of_nonneg (by omega)]
    push_cast at h3
    rw [← hg, eb, Int.mul_assoc] at h3
    have h4 : (Int.lcm (g * b') w : Int) = b' * w := Int.eq_of_mul_eq_mul_left (by omega) h3
    rw [← h4, ← eb]
    have h5 : (Int.lcm b w : Int) ∣ (D.natAbs : Int) := Int.ofNat_dvd.mpr h1
    rwa [Int.ofNat_natAbs_of_nonneg (by omega)] at h5
  have hle := Int.le_of_dvd hD hl
  rw [tb, tw]
  refine ⟨hY, hle, ?_⟩
  have e1 : a * D = S * b := by rw [ha, hb]; exact nUD_mul hD
  have e2 : u * D = N * w := by rw [hu, hw]; exact nUD_mul hD
  have e3 : b * w' = b' * w := by rw [eb, ew, Int.mul_comm g b', Int.mul_assoc]
  calc (a * w' + u * b') * D = (a * D) * w' + (u * D) * b' := by rw [Int.add_mul, Int.mul_right_comm, Int.mul_right_comm u]
    _ = S * (b * w') + N * (b' * w) := by rw [e1, e2, Int.mul_assoc, Int.mul_assoc, Int.mul_comm w b']
    _ = (S + N) * (b' * w) := by rw [e3, Int.add_mul]
def pz (M : MM) (Q : Int) (v : Nat) : Int := M 103 v * (Q / M 104 v)
def dT (M : MM) (Q : Int) (k : Nat) : Int := M 99 k * pz M Q (M 88 k).toNat - M 100 k * pz M Q (M 87 k).toNat
def wT (M : MM) (Q : Int) (k : Nat) : Int := if 0 < dT M Q k then M 101 k * (2520 / M 100 k) * dT M Q k else 0
abbrev WS (M : MM) (Q : Int) (n : Nat) : Int := sumZ (wT M Q) n
theorem d2520 {q : Int} (h : 1 ≤ q ∧ q ≤ 9) : 2520 / q * q = 2520 ∧ 1 ≤ 2520 / q ∧ 2520 / q ≤ 2520 := by
  have : q = 1 ∨ q = 2 ∨ q = 3 ∨ q = 4 ∨ q = 5 ∨ q = 6 ∨ q = 7 ∨ q = 8 ∨ q = 9 := by omega
  rcases this with rfl | rfl | rfl | rfl | rfl | rfl | rfl | rfl | rfl <;> decide
/-- prices that have a common lower number Q -/
def PRQ (M : MM) (Q : Int) : Prop := (1 ≤ Q ∧ Q ≤ 4913) ∧ ∀ x : Nat, (x : Int) < M 85 0 → 0 ≤ M 103 x ∧ M 103 x ≤ 4913 ∧ 1 ≤ M 104 x ∧ M 104 x ≤ 4913 ∧ M 104 x ∣ Q
theorem PRQ.pp {M : MM} {Q : Int} (h : PRQ M Q) {x : Nat} (hx : (x : Int) < M 85 0) : pz M Q x * M 104 x = M 103 x * Q ∧ 0 ≤ pz M Q x ∧ pz M Q x ≤ 4913 * 4913 := by
  obtain ⟨h1, h2, h3, h4, h5⟩ := h.2 x hx
  have e : Q / M 104 x * M 104 x = Q := Int.ediv_mul_cancel h5
  have e2 : 0 ≤ Q / M 104 x ∧ Q / M 104 x ≤ Q := ⟨Int.ediv_nonneg (by have := h.1; omega) (by omega), Int.ediv_le_self _ (by have := h.1; omega)⟩
  have e3 := mul_bd (a := M 103 x) (b := Q / M 104 x) (A := 4913) (B := 4913) ⟨h1, h2⟩ ⟨e2.1, by have := h.1; omega⟩
  unfold pz
  exact ⟨by rw [Int.mul_assoc, e], e3⟩
theorem wT_c {M : MM} {Q : Int} (h : PRQ M Q) {i : Nat} (ht : 0 ≤ M 88 i ∧ M 88 i < M 85 0) (hf : 0 ≤ M 87 i ∧ M 87 i < M 85 0) (hs : 0 ≤ M 99 i ∧ M 99 i ≤ 17) (hq : 1 ≤ M 100 i ∧ M 100 i ≤ 9) (hr : 0 ≤ M 101 i ∧ M 101 i ≤ 100) : dT M Q i * (M 104 (M 88 i).toNat * M 104 (M 87 i).toNat) = Q * (((M 99 i * M 103 (M 88 i).toNat) * M 104 (M 87 i).toNat) - ((M 103 (M 87 i).toNat * M 100 i) * M 104 (M 88 i).toNat)) ∧ (0 ≤ wT M Q i ∧ wT M Q i ≤ 103407943176 * 1000) ∧ (((((M 99 i * M 103 (M 88 i).toNat) * M 104 (M 87 i).toNat) - ((M 103 (M 87 i).toNat * M 100 i) * M 104 (M 88 i).toNat)) ≤ 0 ∨ M 101 i = 0) → wT M Q i = 0) ∧ (0 < (((M 99 i * M 103 (M 88 i).toNat) * M 104 (M 87 i).toNat) - ((M 103 (M 87 i).toNat * M 100 i) * M 104 (M 88 i).toNat)) → ((((M 99 i * M 103 (M 88 i).toNat) * M 104 (M 87 i).toNat) - ((M 103 (M 87 i).toNat * M 100 i) * M 104 (M 88 i).toNat)) * M 101 i) * (2520 * Q) = wT M Q i * (M 100 i * M 104 (M 88 i).toNat * M 104 (M 87 i).toNat)) := by
  have pt := h.pp (x := (M 88 i).toNat) (by omega)
  have pf := h.pp (x := (M 87 i).toNat) (by omega)
  have bt := h.2 (M 88 i).toNat (by omega)
  have bf := h.2 (M 87 i).toNat (by omega)
  have hQ := h.1
  have e1 : dT M Q i * (M 104 (M 88 i).toNat * M 104 (M 87 i).toNat) = Q * (((M 99 i * M 103 (M 88 i).toNat) * M 104 (M 87 i).toNat) - ((M 103 (M 87 i).toNat * M 100 i) * M 104 (M 88 i).toNat)) := by
    unfold dT
    have x1 : M 99 i * pz M Q (M 88 i).toNat * (M 104 (M 88 i).toNat * M 104 (M 87 i).toNat) = M 99 i * (M 103 (M 88 i).toNat * Q) * M 104 (M 87 i).toNat := by rw [← pt.1]; simp only [Int.mul_assoc, Int.mul_left_comm, Int.mul_comm]
    have x2 : M 100 i * pz M Q (M 87 i).toNat * (M 104 (M 88 i).toNat * M 104 (M 87 i).toNat) = M 100 i * (M 103 (M 87 i).toNat * Q) * M 104 (M 88 i).toNat := by rw [← pf.1]; simp only [Int.mul_assoc, Int.mul_left_comm, Int.mul_comm]
    rw [Int.sub_mul, x1, x2, Int.mul_sub]
    simp only [Int.mul_assoc, Int.mul_left_comm, Int.mul_comm]
  have pp : 0 < M 104 (M 88 i).toNat * M 104 (M 87 i).toNat := Int.mul_pos (by omega) (by omega)
  have sgn : 0 < dT M Q i ↔ 0 < (((M 99 i * M 103 (M 88 i).toNat) * M 104 (M 87 i).toNat) - ((M 103 (M 87 i).toNat * M 100 i) * M 104 (M 88 i).toNat)) := by
    constructor
    · intro q
      have := Int.mul_pos q pp
      rw [e1] at this
      rcases Int.lt_or_le 0 (((M 99 i * M 103 (M 88 i).toNat) * M 104 (M 87 i).toNat) - ((M 103 (M 87 i).toNat * M 100 i) * M 104 (M 88 i).toNat)) with c | c
      · exact c
      · have := Int.mul_nonpos_of_nonneg_of_nonpos (a := Q) (b := (((M 99 i * M 103 (M 88 i).toNat) * M 104 (M 87 i).toNat) - ((M 103 (M 87 i).toNat * M 100 i) * M 104 (M 88 i).toNat))) (by omega) c; omega
    · intro q
      have := Int.mul_pos (a := Q) (by omega) q
      rw [← e1] at this
      rcases Int.lt_or_le 0 (dT M Q i) with c | c
      · exact c
      · have := Int.mul_nonpos_of_nonpos_of_nonneg (a := dT M Q i) (b := M 104 (M 88 i).toNat * M 104 (M 87 i).toNat) c (by omega); omega
  have d := d2520 hq
  have dle : dT M Q i ≤ 17 * (4913 * 4913) := by
    unfold dT
    have y1 := mul_bd (a := M 99 i) (b := pz M Q (M 88 i).toNat) (A := 17) (B := 4913 * 4913) hs pt.2
    have y2 := mul_bd (a := M 100 i) (b := pz M Q (M 87 i).toNat) (A := 9) (B := 4913 * 4913) ⟨by omega, hq.2⟩ pf.2
    omega
  refine ⟨e1, ?_, ?_, ?_⟩
  · unfold wT
    split
    · rename_i c
      have y1 := mul_bd (a := M 101 i) (b := 2520 / M 100 i) (A := 100) (B := 2520) hr ⟨by omega, d.2.2⟩
      have y2 := mul_bd (a := M 101 i * (2520 / M 100 i)) (b := dT M Q i) (A := 100 * 2520) (B := 17 * (4913 * 4913)) y1 ⟨by omega, dle⟩
      omega
    · omega
  · intro q
    unfold wT
    rcases q with q | q
    · rw [if_neg (fun c => by have := sgn.mp c; omega)]
    · rw [q]; split <;> simp
  · intro q
    unfold wT
    rw [if_pos (sgn.mpr q)]
    have z1 : M 101 i * (2520 / M 100 i) * dT M Q i * (M 100 i * M 104 (M 88 i).toNat * M 104 (M 87 i).toNat) = M 101 i * (2520 / M 100 i * M 100 i) * (dT M Q i * (M 104 (M 88 i).toNat * M 104 (M 87 i).toNat)) := by simp only [Int.mul_assoc, Int.mul_left_comm, Int.mul_comm]
    rw [z1, d.1, e1]
    simp only [Int.mul_assoc, Int.mul_left_comm, Int.mul_comm]
end
section
set_option maxRecDepth 100000 in
set_option maxHeartbeats 4000000 in
theorem fw_loop5 {G : GG} {E : EE} {P : MM → Prop} (A : AmM G E cX5_findWorth 10 yX5_findWorth.cls 3) (T0 : RT E G yX5_findWorth 108 0 0 none (fun r rf' M' => rf' = rF ∧ r = none ∧ P M')) (M : MM) (Q : Int) (hw : WM M) (hc : CHK M) (hq : PRQ M Q) (hp : P (w2 M (nU (sumZ (wT M Q) (M 86 0).toNat) (2520 * Q)) (nD (sumZ (wT M Q) (M 86 0).toNat) (2520 * Q)))) : ∀ (n : Nat) (i : Nat) (x y : Int) (w6 w8 : Value), (M 86 0).toNat - i < n → (i : Int) ≤ M 86 0 → AM G E 10 7 [.ref 84, vl (nU (sumZ (wT M Q) i) (2520 * Q)), jk, vl (nD (sumZ (wT M Q) i) (2520 * Q)), jk, vi (i : Int), w6, jk, w8, jk] [] (w2 M x y) := by
  intro n
  induction n with
  | zero => intro i x y w6 w8 hn hi; exfalso; omega
  | succ n ih =>
    intro i x y w6 w8 hn hi
    have hP := hw.1
    have hL := hw.2.1
    have hl0 : (i : Int) < M 86 0 → LW M i := hw.2.2 i
    unfold LW at hl0
    have hk0 : (i : Int) < M 86 0 → 0 ≤ M 99 i ∧ M 99 i ≤ 17 ∧ 1 ≤ M 100 i ∧ M 100 i ≤ 9 ∧ 0 ≤ M 101 i ∧ M 101 i ≤ 100 := hc.2 i
    have hpt : (i : Int) < M 86 0 → 0 ≤ M 103 (M 88 i).toNat ∧ M 103 (M 88 i).toNat ≤ 4913 ∧ 1 ≤ M 104 (M 88 i).toNat ∧ M 104 (M 88 i).toNat ≤ 4913 ∧ M 104 (M 88 i).toNat ∣ Q := fun q => hq.2 _ (by have := hl0 q; omega)
    have hpf : (i : Int) < M 86 0 → 0 ≤ M 103 (M 87 i).toNat ∧ M 103 (M 87 i).toNat ≤ 4913 ∧ 1 ≤ M 104 (M 87 i).toNat ∧ M 104 (M 87 i).toNat ≤ 4913 ∧ M 104 (M 87 i).toNat ∣ Q := fun q => hq.2 _ (by have := hl0 q; omega)
    have y1 : (i : Int) < M 86 0 → 0 ≤ M 99 i * M 103 (M 88 i).toNat * M 104 (M 87 i).toNat ∧ M 99 i * M 103 (M 88 i).toNat * M 104 (M 87 i).toNat ≤ 17 * 4913 * 4913 := fun q => mul_bd (mul_bd (by have := hk0 q; omega) (by have := hpt q; omega)) (by have := hpf q; omega)
    have y2 : (i : Int) < M 86 0 → 0 ≤ M 103 (M 87 i).toNat * M 100 i * M 104 (M 88 i).toNat ∧ M 103 (M 87 i).toNat * M 100 i * M 104 (M 88 i).toNat ≤ 4913 * 9 * 4913 := fun q => mul_bd (mul_bd (by have := hpf q; omega) (by have := hk0 q; omega)) (by have := hpt q; omega)
    have hwc : (i : Int) < M 86 0 → _ := fun q => wT_c (i := i) hq (by have := hl0 q; omega) (by have := hl0 q; omega) (by have := hk0 q; omega) (by have := hk0 q; omega) (by have := hk0 q; omega)
    have hQ := hq.1
    have hden : (i : Int) < M 86 0 → 1 ≤ ((M 100 i * M 104 (M 88 i).toNat) * M 104 (M 87 i).toNat) ∧ ((M 100 i * M 104 (M 88 i).toNat) * M 104 (M 87 i).toNat) ≤ 9 * 4913 * 4913 := fun q => by
      have a1 := mul_bd (mul_bd (a := M 100 i) (b := M 104 (M 88 i).toNat) (A := 9) (B := 4913) (by have := hk0 q; omega) (by have := hpt q; omega)) (b := M 104 (M 87 i).toNat) (B := 4913) (by have := hpf q; omega)
      have a2 := Int.mul_pos (Int.mul_pos (a := M 100 i) (b := M 104 (M 88 i).toNat) (by have := hk0 q; omega) (by have := hpt q; omega)) (b := M 104 (M 87 i).toNat) (by have := hpf q; omega)
      omega
    have hcr : (i : Int) < M 86 0 → 0 < (((M 99 i * M 103 (M 88 i).toNat) * M 104 (M 87 i).toNat) - ((M 103 (M 87 i).toNat * M 100 i) * M 104 (M 88 i).toNat)) → 0 ≤ (((M 99 i * M 103 (M 88 i).toNat) * M 104 (M 87 i).toNat) - ((M 103 (M 87 i).toNat * M 100 i) * M 104 (M 88 i).toNat)) * M 101 i ∧ (((M 99 i * M 103 (M 88 i).toNat) * M 104 (M 87 i).toNat) - ((M 103 (M 87 i).toNat * M 100 i) * M 104 (M 88 i).toNat)) * M 101 i ≤ 17 * 4913 * 4913 * 100 := fun q q2 => mul_bd ⟨by omega, by have := y1 q; have := y2 q; omega⟩ (by have := hk0 q; omega)
    refine a_iload (z := (i : Int)) A dX5_findWorth_7 rfl ?_
    refine a_aload_n (z := 84) A dX5_findWorth_9 rfl ?_
    refine gf_X5_13 (r := 86) A dX5_findWorth_10 rfl (by decide) rfl ?_
    refine a_iconst A dX5_findWorth_13 ?_
    refine a_iaload (i := 0) (x := M 86 0) A dX5_findWorth_14 rfl (by decide) (by decide) (by omega) rfl ?_
    refine a_icmp_ge (tgt := 216) A dX5_findWorth_15 (by decide) (by omega) (by omega) (fun h15 => ?_) (fun h15 => ?_)
    · refine a_aload_n (z := 84) A dX5_findWorth_216 rfl ?_
      refine a_lload_n (z := (nU (sumZ (wT M Q) i) (2520 * Q))) A dX5_findWorth_217 rfl ?_
      refine pf_X5_104 A dX5_findWorth_218 rfl (by decide) ?_
      refine a_aload_n (z := 84) A dX5_findWorth_221 rfl ?_
      refine a_lload_n (z := (nD (sumZ (wT M Q) i) (2520 * Q))) A dX5_findWorth_222 rfl ?_
      refine pf_X5_108 A dX5_findWorth_223 rfl (by decide) ?_
      exact m_return A T0 dX5_findWorth_226 (by rw [w2_w2]; rw [show (M 86 0).toNat = i by omega] at hp; exact hp)
    · refine a_aload_n (z := 84) A dX5_findWorth_18 rfl ?_
      refine gf_X5_53 (r := 99) A dX5_findWorth_19 rfl (by decide) rfl ?_
      refine a_iload (z := (i : Int)) A dX5_findWorth_22 rfl ?_
      refine a_iaload (i := (i : Int)) (x := M 99 i) A dX5_findWorth_24 rfl (by decide) (by decide) (by omega) rfl ?_
      refine a_i2l A dX5_findWorth_25 (by omega) ?_
      refine a_aload_n (z := 84) A dX5_findWorth_26 rfl ?_
      refine gf_X5_65 (r := 103) A dX5_findWorth_27 rfl (by decide) rfl ?_
      refine a_aload_n (z := 84) A dX5_findWorth_30 rfl ?_
      refine gf_X5_19 (r := 88) A dX5_findWorth_31 rfl (by decide) rfl ?_
      refine a_iload (z := (i : Int)) A dX5_findWorth_34 rfl ?_
      refine a_iaload (i := (i : Int)) (x := M 88 i) A dX5_findWorth_36 rfl (by decide) (by decide) (by omega) rfl ?_
      refine a_laload (i := (M 88 i)) (x := M 103 ((M 88 i).toNat)) A dX5_findWorth_37 rfl (by decide) (by decide) (by omega) rfl ?_
      refine a_lmul (x := (M 99 i)) (y := (M 103 ((M 88 i).toNat))) A dX5_findWorth_38 ?_
      refine a_aload_n (z := 84) A dX5_findWorth_39 rfl ?_
      refine gf_X5_68 (r := 104) A dX5_findWorth_40 rfl (by decide) rfl ?_
      refine a_aload_n (z := 84) A dX5_findWorth_43 rfl ?_
      refine gf_X5_16 (r := 87) A dX5_findWorth_44 rfl (by decide) rfl ?_
      refine a_iload (z := (i : Int)) A dX5_findWorth_47 rfl ?_
      refine a_iaload (i := (i : Int)) (x := M 87 i) A dX5_findWorth_49 rfl (by decide) (by decide) (by omega) rfl ?_
      refine a_laload (i := (M 87 i)) (x := M 104 ((M 87 i).toNat)) A dX5_findWorth_50 rfl (by decide) (by decide) (by omega) rfl ?_
      refine a_lmul (x := ((M 99 i) * (M 103 ((M 88 i).toNat)))) (y := (M 104 ((M 87 i).toNat))) A dX5_findWorth_51 ?_
      refine a_aload_n (z := 84) A dX5_findWorth_52 rfl ?_
      refine gf_X5_65 (r := 103) A dX5_findWorth_53 rfl (by decide) rfl ?_
      refine a_aload_n (z := 84) A dX5_findWorth_56 rfl ?_
      refine gf_X5_16 (r := 87) A dX5_findWorth_57 rfl (by decide) rfl ?_
      refine a_iload (z := (i : Int)) A dX5_findWorth_60 rfl ?_
      refine a_iaload (i := (i : Int)) (x := M 87 i) A dX5_findWorth_62 rfl (by decide) (by decide) (by omega) rfl ?_
      refine a_laload (i := (M 87 i)) (x := M 103 ((M 87 i).toNat)) A dX5_findWorth_63 rfl (by decide) (by decide) (by omega) rfl ?_
      refine a_aload_n (z := 84) A dX5_findWorth_64 rfl ?_
      refine gf_X5_56 (r := 100) A dX5_findWorth_65 rfl (by decide) rfl ?_
      refine a_iload (z := (i : Int)) A dX5_findWorth_68 rfl ?_
      refine a_iaload (i := (i : Int)) (x := M 100 i) A dX5_findWorth_70 rfl (by decide) (by decide) (by omega) rfl ?_
      refine a_i2l A dX5_findWorth_71 (by omega) ?_
      refine a_lmul (x := (M 103 ((M 87 i).toNat))) (y := (M 100 i)) A dX5_findWorth_72 ?_
      refine a_aload_n (z := 84) A dX5_findWorth_73 rfl ?_
      refine gf_X5_68 (r := 104) A dX5_findWorth_74 rfl (by decide) rfl ?_
      refine a_aload_n (z := 84) A dX5_findWorth_77 rfl ?_
      refine gf_X5_19 (r := 88) A dX5_findWorth_78 rfl (by decide) rfl ?_
      refine a_iload (z := (i : Int)) A dX5_findWorth_81 rfl ?_
      refine a_iaload (i := (i : Int)) (x := M 88 i) A dX5_findWorth_83 rfl (by decide) (by decide) (by omega) rfl ?_
      refine a_laload (i := (M 88 i)) (x := M 104 ((M 88 i).toNat)) A dX5_findWorth_84 rfl (by decide) (by decide) (by omega) rfl ?_
      refine a_lmul (x := ((M 103 ((M 87 i).toNat)) * (M 100 i))) (y := (M 104 ((M 88 i).toNat))) A dX5_findWorth_85 ?_
      refine a_lsub (x := (((M 99 i) * (M 103 ((M 88 i).toNat))) * (M 104 ((M 87 i).toNat)))) (y := (((M 103 ((M 87 i).toNat)) * (M 100 i)) * (M 104 ((M 88 i).toNat)))) A dX5_findWorth_86 ?_
      refine a_lstore (lv' := [.ref 84, vl (nU (sumZ (wT M Q) i) (2520 * Q)), jk, vl (nD (sumZ (wT M Q) i) (2520 * Q)), jk, vi (i : Int), vl ((((M 99 i) * (M 103 ((M 88 i).toNat))) * (M 104 ((M 87 i).toNat))) - (((M 103 ((M 87 i).toNat)) * (M 100 i)) * (M 104 ((M 88 i).toNat)))), jk, w8, jk]) A dX5_findWorth_87 (by decide) rfl ?_
      refine a_lload (z := ((((M 99 i) * (M 103 ((M 88 i).toNat))) * (M 104 ((M 87 i).toNat))) - (((M 103 ((M 87 i).toNat)) * (M 100 i)) * (M 104 ((M 88 i).toNat))))) A dX5_findWorth_89 rfl ?_
      refine a_lconst0 A dX5_findWorth_91 ?_
      refine a_lcmp_le (tgt := 210) A dX5_findWorth_92 dX5_findWorth_93 (by decide) (by have := y1 (by omega); have := y2 (by omega); omega) (by omega) (fun h92 => ?_) (fun h92 => ?_)
      · refine a_iinc (z := (i : Int)) (lv' := [.ref 84, vl (nU (sumZ (wT M Q) i) (2520 * Q)), jk, vl (nD (sumZ (wT M Q) i) (2520 * Q)), jk, vi ((i : Int) + 1), vl ((((M 99 i) * (M 103 ((M 88 i).toNat))) * (M 104 ((M 87 i).toNat))) - (((M 103 ((M 87 i).toNat)) * (M 100 i)) * (M 104 ((M 88 i).toNat)))), jk, w8, jk]) A dX5_findWorth_210 rfl (by decide) rfl ?_
        refine a_goto (tgt := 7) A dX5_findWorth_213 (by decide) ?_
        have hz := (hwc (by omega)).2.2.1 (by omega)
        have hs : (sumZ (wT M Q) (i + 1)) = (sumZ (wT M Q) i) := by show (sumZ (wT M Q) i) + wT M Q i = (sumZ (wT M Q) i); rw [hz]; omega
        have := ih (i + 1) x y (vl (((M 99 i * M 103 (M 88 i).toNat) * M 104 (M 87 i).toNat) - ((M 103 (M 87 i).toNat * M 100 i) * M 104 (M 88 i).toNat))) w8 (by omega) (by omega)
        rw [hs] at this
        exact this
      · refine a_aload_n (z := 84) A dX5_findWorth_96 rfl ?_
        refine gf_X5_59 (r := 101) A dX5_findWorth_97 rfl (by decide) rfl ?_
        refine a_iload (z := (i : Int)) A dX5_findWorth_100 rfl ?_
        refine a_iaload (i := (i : Int)) (x := M 101 i) A dX5_findWorth_102 rfl (by decide) (by decide) (by omega) rfl ?_
        refine a_if_ne (tgt := 109) A dX5_findWorth_103 (by decide) (by omega) (fun h103 => ?_) (fun h103 => ?_)
        · refine a_aload_n (z := 84) A dX5_findWorth_109 rfl ?_
          refine a_lload (z := ((((M 99 i) * (M 103 ((M 88 i).toNat))) * (M 104 ((M 87 i).toNat))) - (((M 103 ((M 87 i).toNat)) * (M 100 i)) * (M 104 ((M 88 i).toNat))))) A dX5_findWorth_110 rfl ?_
          refine a_aload_n (z := 84) A dX5_findWorth_112 rfl ?_
          refine gf_X5_59 (r := 101) A dX5_findWorth_113 rfl (by decide) rfl ?_
          refine a_iload (z := (i : Int)) A dX5_findWorth_116 rfl ?_
          refine a_iaload (i := (i : Int)) (x := M 101 i) A dX5_findWorth_118 rfl (by decide) (by decide) (by omega) rfl ?_
          refine a_i2l A dX5_findWorth_119 (by omega) ?_
          refine a_lmul (x := ((((M 99 i) * (M 103 ((M 88 i).toNat))) * (M 104 ((M 87 i).toNat))) - (((M 103 ((M 87 i).toNat)) * (M 100 i)) * (M 104 ((M 88 i).toNat))))) (y := (M 101 i)) A dX5_findWorth_120 ?_
          refine a_aload_n (z := 84) A dX5_findWorth_121 rfl ?_
          refine gf_X5_56 (r := 100) A dX5_findWorth_122 rfl (by decide) rfl ?_
          refine a_iload (z := (i : Int)) A dX5_findWorth_125 rfl ?_
          refine a_iaload (i := (i : Int)) (x := M 100 i) A dX5_findWorth_127 rfl (by decide) (by decide) (by omega) rfl ?_
          refine a_i2l A dX5_findWorth_128 (by omega) ?_
          refine a_aload_n (z := 84) A dX5_findWorth_129 rfl ?_
          refine gf_X5_68 (r := 104) A dX5_findWorth_130 rfl (by decide) rfl ?_
          refine a_aload_n (z := 84) A dX5_findWorth_133 rfl ?_
          refine gf_X5_19 (r := 88) A dX5_findWorth_134 rfl (by decide) rfl ?_
          refine a_iload (z := (i : Int)) A dX5_findWorth_137 rfl ?_
          refine a_iaload (i := (i : Int)) (x := M 88 i) A dX5_findWorth_139 rfl (by decide) (by decide) (by omega) rfl ?_
          refine a_laload (i := (M 88 i)) (x := M 104 ((M 88 i).toNat)) A dX5_findWorth_140 rfl (by decide) (by decide) (by omega) rfl ?_
          refine a_lmul (x := (M 100 i)) (y := (M 104 ((M 88 i).toNat))) A dX5_findWorth_141 ?_
          refine a_aload_n (z := 84) A dX5_findWorth_142 rfl ?_
          refine gf_X5_68 (r := 104) A dX5_findWorth_143 rfl (by decide) rfl ?_
          refine a_aload_n (z := 84) A dX5_findWorth_146 rfl ?_
          refine gf_X5_16 (r := 87) A dX5_findWorth_147 rfl (by decide) rfl ?_
          refine a_iload (z := (i : Int)) A dX5_findWorth_150 rfl ?_
          refine a_iaload (i := (i : Int)) (x := M 87 i) A dX5_findWorth_152 rfl (by decide) (by decide) (by omega) rfl ?_
          refine a_laload (i := (M 87 i)) (x := M 104 ((M 87 i).toNat)) A dX5_findWorth_153 rfl (by decide) (by decide) (by omega) rfl ?_
          refine a_lmul (x := ((M 100 i) * (M 104 ((M 88 i).toNat)))) (y := (M 104 ((M 87 i).toNat))) A dX5_findWorth_154 ?_
          refine m_invVv A (c_X5_put G _ (((((M 99 i) * (M 103 ((M 88 i).toNat))) * (M 104 ((M 87 i).toNat))) - (((M 103 ((M 87 i).toNat)) * (M 100 i)) * (M 104 ((M 88 i).toNat)))) * (M 101 i)) (((M 100 i) * (M 104 ((M 88 i).toNat))) * (M 104 ((M 87 i).toNat))) (w2 M x y) (by have := hcr (by omega) h92; omega) (by have := hden (by omega); omega)) (by decide) mi_X5_put mv_X5_put cs_X5_100 cf5 dX5_findWorth_155 rfl (by decide) rfl rfl (Nat.le_of_ble_eq_true rfl) (fun M155 h155 => ?_)
          have h155 := h155.symm
          subst h155
          have hD : 0 < (2520 * Q) := by omega
          have hS := sumZ_bd (f := wT M Q) (c := 103407943176000) (n := i) (by omega) (fun j hj => (wT_c (i := j) hq (by have := hw.2.2 j (by omega); unfold LW at this; omega) (by have := hw.2.2 j (by omega); unfold LW at this; omega) (by have := hc.2 j (by omega); omega) (by have := hc.2 j (by omega); omega) (by have := hc.2 j (by omega); omega)).2.1)
          have hN := nUD_eq (a := (((M 99 i * M 103 (M 88 i).toNat) * M 104 (M 87 i).toNat) - ((M 103 (M 87 i).toNat * M 100 i) * M 104 (M 88 i).toNat)) * M 101 i) (b := ((M 100 i * M 104 (M 88 i).toNat) * M 104 (M 87 i).toNat)) (c := wT M Q i) (d := (2520 * Q)) (by omega) hD ((hwc (by omega)).2.2.2 h92)
          rw [w2_w2, hN.1, hN.2]
          have hfa := fr_add (S := (sumZ (wT M Q) i)) (N := wT M Q i) hD rfl rfl rfl rfl rfl
          have hb1 := nD_bd (a := (sumZ (wT M Q) i)) hD
          have hb2 := nD_bd (a := wT M Q i) hD
          have hg1 := gcd_pos (a := (nD (sumZ (wT M Q) i) (2520 * Q))) hb2.1
          have hwb := (hwc (by omega)).2.1
          have hX : 0 ≤ (((nU (sumZ (wT M Q) i) (2520 * Q)) * ((nD (wT M Q i) (2520 * Q)).tdiv (Int.gcd (nD (sumZ (wT M Q) i) (2520 * Q)) (nD (wT M Q i) (2520 * Q)) : Int))) + ((nU (wT M Q i) (2520 * Q)) * ((nD (sumZ (wT M Q) i) (2520 * Q)).tdiv (Int.gcd (nD (sumZ (wT M Q) i) (2520 * Q)) (nD (wT M Q i) (2520 * Q)) : Int)))) ∧ (((nU (sumZ (wT M Q) i) (2520 * Q)) * ((nD (wT M Q i) (2520 * Q)).tdiv (Int.gcd (nD (sumZ (wT M Q) i) (2520 * Q)) (nD (wT M Q i) (2520 * Q)) : Int))) + ((nU (wT M Q i) (2520 * Q)) * ((nD (sumZ (wT M Q) i) (2520 * Q)).tdiv (Int.gcd (nD (sumZ (wT M Q) i) (2520 * Q)) (nD (wT M Q i) (2520 * Q)) : Int)))) ≤ (sumZ (wT M Q) i) + wT M Q i := by
            have e := hfa.2.2
            generalize (((nU (sumZ (wT M Q) i) (2520 * Q)) * ((nD (wT M Q i) (2520 * Q)).tdiv (Int.gcd (nD (sumZ (wT M Q) i) (2520 * Q)) (nD (wT M Q i) (2520 * Q)) : Int))) + ((nU (wT M Q i) (2520 * Q)) * ((nD (sumZ (wT M Q) i) (2520 * Q)).tdiv (Int.gcd (nD (sumZ (wT M Q) i) (2520 * Q)) (nD (wT M Q i) (2520 * Q)) : Int)))) = X at e ⊢
            generalize (((nD (sumZ (wT M Q) i) (2520 * Q)).tdiv (Int.gcd (nD (sumZ (wT M Q) i) (2520 * Q)) (nD (wT M Q i) (2520 * Q)) : Int)) * (nD (wT M Q i) (2520 * Q))) = Y at e hfa
            have s1 : 0 ≤ ((sumZ (wT M Q) i) + wT M Q i) * Y := Int.mul_nonneg (by omega) (by omega)
            have s2 : ((sumZ (wT M Q) i) + wT M Q i) * Y ≤ ((sumZ (wT M Q) i) + wT M Q i) * (2520 * Q) := Int.mul_le_mul_of_nonneg_left (by omega) (by omega)
            refine ⟨?_, Int.le_of_mul_le_mul_right (by omega) hD⟩
            rcases Int.lt_or_le X 0 with q | q
            · have := Int.mul_neg_of_neg_of_pos q hD; omega
            · exact q
          refine a_lload_n (z := (nD (sumZ (wT M Q) i) (2520 * Q))) A dX5_findWorth_158 rfl ?_
          refine a_aload_n (z := 84) A dX5_findWorth_159 rfl ?_
          refine gf_X5_108 (x := (nD (wT M Q i) (2520 * Q))) A dX5_findWorth_160 rfl (by decide) rfl ?_
          refine m_invSl A (c_X5_gcd G _ (nD (sumZ (wT M Q) i) (2520 * Q)) (nD (wT M Q i) (2520 * Q)) (w2 M (nU (wT M Q i) (2520 * Q)) (nD (wT M Q i) (2520 * Q))) (by omega) (by omega)) (by decide) mi_X5_gcd ms_X5_gcd cs_X5_111 dX5_findWorth_163 rfl rfl (Nat.le_of_ble_eq_true rfl) (fun z163 M163 h163 => ?_)
          obtain ⟨e163, rfl⟩ := h163
          have e163 := e163.symm
          subst e163
          refine a_lstore (lv' := [.ref 84, vl (nU (sumZ (wT M Q) i) (2520 * Q)), jk, vl (nD (sumZ (wT M Q) i) (2520 * Q)), jk, vi (i : Int), (vl (((M 99 i * M 103 (M 88 i).toNat) * M 104 (M 87 i).toNat) - ((M 103 (M 87 i).toNat * M 100 i) * M 104 (M 88 i).toNat))), jk, vl (Int.gcd (nD (sumZ (wT M Q) i) (2520 * Q)) (nD (wT M Q i) (2520 * Q)) : Int), jk]) A dX5_findWorth_166 (by decide) rfl ?_
          refine a_aload_n (z := 84) A dX5_findWorth_168 rfl ?_
          refine a_lload_n (z := (nU (sumZ (wT M Q) i) (2520 * Q))) A dX5_findWorth_169 rfl ?_
          refine a_aload_n (z := 84) A dX5_findWorth_170 rfl ?_
          refine gf_X5_108 (x := (nD (wT M Q i) (2520 * Q))) A dX5_findWorth_171 rfl (by decide) rfl ?_
          refine a_lload (z := (Int.gcd (nD (sumZ (wT M Q) i) (2520 * Q)) (nD (wT M Q i) (2520 * Q)) : Int)) A dX5_findWorth_174 rfl ?_
          refine a_ldiv A dX5_findWorth_176 (by omega) (by omega) (by omega) ?_
          refine a_lmul (x := (nU (sumZ (wT M Q) i) (2520 * Q))) (y := ((nD (wT M Q i) (2520 * Q)).tdiv (Int.gcd (nD (sumZ (wT M Q) i) (2520 * Q)) (nD (wT M Q i) (2520 * Q)) : Int))) A dX5_findWorth_177 ?_
          refine a_aload_n (z := 84) A dX5_findWorth_178 rfl ?_
          refine gf_X5_104 (x := (nU (wT M Q i) (2520 * Q))) A dX5_findWorth_179 rfl (by decide) rfl ?_
          refine a_lload_n (z := (nD (sumZ (wT M Q) i) (2520 * Q))) A dX5_findWorth_182 rfl ?_
          refine a_lload (z := (Int.gcd (nD (sumZ (wT M Q) i) (2520 * Q)) (nD (wT M Q i) (2520 * Q)) : Int)) A dX5_findWorth_183 rfl ?_
          refine a_ldiv A dX5_findWorth_185 (by omega) (by omega) (by omega) ?_
          refine a_lmul (x := (nU (wT M Q i) (2520 * Q))) (y := ((nD (sumZ (wT M Q) i) (2520 * Q)).tdiv (Int.gcd (nD (sumZ (wT M Q) i) (2520 * Q)) (nD (wT M Q i) (2520 * Q)) : Int))) A dX5_findWorth_186 ?_
          refine a_ladd (x := ((nU (sumZ (wT M Q) i) (2520 * Q)) * ((nD (wT M Q i) (2520 * Q)).tdiv (Int.gcd (nD (sumZ (wT M Q) i) (2520 * Q)) (nD (wT M Q i) (2520 * Q)) : Int)))) (y := ((nU (wT M Q i) (2520 * Q)) * ((nD (sumZ (wT M Q) i) (2520 * Q)).tdiv (Int.gcd (nD (sumZ (wT M Q) i) (2520 * Q)) (nD (wT M Q i) (2520 * Q)) : Int)))) A dX5_findWorth_187 ?_
          refine a_lload_n (z := (nD (sumZ (wT M Q) i) (2520 * Q))) A dX5_findWorth_188 rfl ?_
          refine a_lload (z := (Int.gcd (nD (sumZ (wT M Q) i) (2520 * Q)) (nD (wT M Q i) (2520 * Q)) : Int)) A dX5_findWorth_189 rfl ?_
          refine a_ldiv A dX5_findWorth_191 (by omega) (by omega) (by omega) ?_
          refine a_aload_n (z := 84) A dX5_findWorth_192 rfl ?_
          refine gf_X5_108 (x := (nD (wT M Q i) (2520 * Q))) A dX5_findWorth_193 rfl (by decide) rfl ?_
          refine a_lmul (x := ((nD (sumZ (wT M Q) i) (2520 * Q)).tdiv (Int.gcd (nD (sumZ (wT M Q) i) (2520 * Q)) (nD (wT M Q i) (2520 * Q)) : Int))) (y := (nD (wT M Q i) (2520 * Q))) A dX5_findWorth_196 ?_
          refine m_invVv A (c_X5_put G _ (((nU (sumZ (wT M Q) i) (2520 * Q)) * ((nD (wT M Q i) (2520 * Q)).tdiv (Int.gcd (nD (sumZ (wT M Q) i) (2520 * Q)) (nD (wT M Q i) (2520 * Q)) : Int))) + ((nU (wT M Q i) (2520 * Q)) * ((nD (sumZ (wT M Q) i) (2520 * Q)).tdiv (Int.gcd (nD (sumZ (wT M Q) i) (2520 * Q)) (nD (wT M Q i) (2520 * Q)) : Int)))) (((nD (sumZ (wT M Q) i) (2520 * Q)).tdiv (Int.gcd (nD (sumZ (wT M Q) i) (2520 * Q)) (nD (wT M Q i) (2520 * Q)) : Int)) * (nD (wT M Q i) (2520 * Q))) (w2 M (nU (wT M Q i) (2520 * Q)) (nD (wT M Q i) (2520 * Q))) (by omega) (by omega)) (by decide) mi_X5_put mv_X5_put cs_X5_100 cf5 dX5_findWorth_197 rfl (by decide) rfl rfl (Nat.le_of_ble_eq_true rfl) (fun M197 h197 => ?_)
          have h197 := h197.symm
          subst h197
          have hE := nUD_eq (a := (((nU (sumZ (wT M Q) i) (2520 * Q)) * ((nD (wT M Q i) (2520 * Q)).tdiv (Int.gcd (nD (sumZ (wT M Q) i) (2520 * Q)) (nD (wT M Q i) (2520 * Q)) : Int))) + ((nU (wT M Q i) (2520 * Q)) * ((nD (sumZ (wT M Q) i) (2520 * Q)).tdiv (Int.gcd (nD (sumZ (wT M Q) i) (2520 * Q)) (nD (wT M Q i) (2520 * Q)) : Int))))) (b := (((nD (sumZ (wT M Q) i) (2520 * Q)).tdiv (Int.gcd (nD (sumZ (wT M Q) i) (2520 * Q)) (nD (wT M Q i) (2520 * Q)) : Int)) * (nD (wT M Q i) (2520 * Q)))) (c := (sumZ (wT M Q) (i + 1))) (d := (2520 * Q)) hfa.1 hD (by rw [hfa.2.2]; rfl)
          rw [w2_w2, hE.1, hE.2]
          refine a_aload_n (z := 84) A dX5_findWorth_200 rfl ?_
          refine gf_X5_104 (x := (nU (sumZ (wT M Q) (i + 1)) (2520 * Q))) A dX5_findWorth_201 rfl (by decide) rfl ?_
          refine a_lstore_n (lv' := [.ref 84, vl (nU (sumZ (wT M Q) (i + 1)) (2520 * Q)), jk, vl (nD (sumZ (wT M Q) i) (2520 * Q)), jk, vi (i : Int), (vl (((M 99 i * M 103 (M 88 i).toNat) * M 104 (M 87 i).toNat) - ((M 103 (M 87 i).toNat * M 100 i) * M 104 (M 88 i).toNat))), jk, (vl (Int.gcd (nD (sumZ (wT M Q) i) (2520 * Q)) (nD (wT M Q i) (2520 * Q)) : Int)), jk]) A dX5_findWorth_204 (by decide) rfl ?_
          refine a_aload_n (z := 84) A dX5_findWorth_205 rfl ?_
          refine gf_X5_108 (x := (nD (sumZ (wT M Q) (i + 1)) (2520 * Q))) A dX5_findWorth_206 rfl (by decide) rfl ?_
          refine a_lstore_n (lv' := [.ref 84, vl (nU (sumZ (wT M Q) (i + 1)) (2520 * Q)), jk, vl (nD (sumZ (wT M Q) (i + 1)) (2520 * Q)), jk, vi (i : Int), (vl (((M 99 i * M 103 (M 88 i).toNat) * M 104 (M 87 i).toNat) - ((M 103 (M 87 i).toNat * M 100 i) * M 104 (M 88 i).toNat))), jk, (vl (Int.gcd (nD (sumZ (wT M Q) i) (2520 * Q)) (nD (wT M Q i) (2520 * Q)) : Int)), jk]) A dX5_findWorth_209 (by decide) rfl ?_
          refine a_iinc (z := (i : Int)) (lv' := [.ref 84, vl (nU (sumZ (wT M Q) (i + 1)) (2520 * Q)), jk, vl (nD (sumZ (wT M Q) (i + 1)) (2520 * Q)), jk, vi ((i : Int) + 1), (vl (((M 99 i * M 103 (M 88 i).toNat) * M 104 (M 87 i).toNat) - ((M 103 (M 87 i).toNat * M 100 i) * M 104 (M 88 i).toNat))), jk, (vl (Int.gcd (nD (sumZ (wT M Q) i) (2520 * Q)) (nD (wT M Q i) (2520 * Q)) : Int)), jk]) A dX5_findWorth_210 rfl (by decide) rfl ?_
          refine a_goto (tgt := 7) A dX5_findWorth_213 (by decide) ?_
          exact ih (i + 1) _ _ _ _ (by omega) (by omega)
        · refine a_goto (tgt := 210) A dX5_findWorth_106 (by decide) ?_
          refine a_iinc (z := (i : Int)) (lv' := [.ref 84, vl (nU (sumZ (wT M Q) i) (2520 * Q)), jk, vl (nD (sumZ (wT M Q) i) (2520 * Q)), jk, vi ((i : Int) + 1), vl ((((M 99 i) * (M 103 ((M 88 i).toNat))) * (M 104 ((M 87 i).toNat))) - (((M 103 ((M 87 i).toNat)) * (M 100 i)) * (M 104 ((M 88 i).toNat)))), jk, w8, jk]) A dX5_findWorth_210 rfl (by decide) rfl ?_
          refine a_goto (tgt := 7) A dX5_findWorth_213 (by decide) ?_
          have hz := (hwc (by omega)).2.2.1 (by omega)
          have hs : (sumZ (wT M Q) (i + 1)) = (sumZ (wT M Q) i) := by show (sumZ (wT M Q) i) + wT M Q i = (sumZ (wT M Q) i); rw [hz]; omega
          have := ih (i + 1) x y (vl (((M 99 i * M 103 (M 88 i).toNat) * M 104 (M 87 i).toNat) - ((M 103 (M 87 i).toNat * M 100 i) * M 104 (M 88 i).toNat))) w8 (by omega) (by omega)
          rw [hs] at this
          exact this
set_option maxRecDepth 100000 in
set_option maxHeartbeats 4000000 in
theorem c_X5_findWorth (G : GG) (l : Launch) (M : MM) (Q : Int) (hw : WM M) (hc : CHK M) (hq : PRQ M Q) : CMv G l yX5_findWorth cX5_findWorth 10 none 3 [.ref 84] M (fun M' => M' = w2 M (nU (sumZ (wT M Q) (M 86 0).toNat) (2520 * Q)) (nD (sumZ (wT M Q) (M 86 0).toNat) (2520 * Q))) := by
  refine CT.intro (by decide) (Nat.le_of_ble_eq_true rfl) (fun E hE A T0 => ?_)
  subst hE
  refine a_lconst0 A dX5_findWorth_0 ?_
  refine a_lstore_n (lv' := [.ref 84, vl 0, jk, jk, jk, jk, jk, jk, jk, jk]) A dX5_findWorth_1 (by decide) rfl ?_
  refine a_lconst1 A dX5_findWorth_2 ?_
  refine a_lstore_n (lv' := [.ref 84, vl 0, jk, vl 1, jk, jk, jk, jk, jk, jk]) A dX5_findWorth_3 (by decide) rfl ?_
  refine a_iconst A dX5_findWorth_4 ?_
  refine a_istore (lv' := [.ref 84, vl 0, jk, vl 1, jk, vi 0, jk, jk, jk, jk]) A dX5_findWorth_5 (by decide) rfl ?_
  have h0 := fw_loop5 A T0 M Q hw hc hq rfl ((M 86 0).toNat + 1) 0 (M 84 15) (M 84 16) jk jk (by omega) hw.2.1.1
  rw [w2_self] at h0
  have hQ := hq.1
  have e0 : nU (sumZ (wT M Q) 0) (2520 * Q) = 0 := by show (0 : Int).tdiv _ = 0; exact Int.zero_tdiv _
  have e1 : nD (sumZ (wT M Q) 0) (2520 * Q) = 1 := by
    show ((2520 * Q)).tdiv (Int.gcd 0 (2520 * Q) : Int) = 1
    rw [Int.gcd_zero_left, Int.ofNat_natAbs_of_nonneg (by omega)]
    exact Int.tdiv_self (by omega)
  rw [e0, e1] at h0
  exact h0
end
section
/-- the next lane at post v, from j on, r lanes being left -/
def adv (M : MM) (v : Int) : Nat → Nat → Nat
  | 0, j => j
  | r + 1, j => if M 87 j = v ∨ M 88 j = v then j else adv M v r (j + 1)
def nj (M : MM) (v : Nat) : Nat := adv M v ((M 86 0).toNat - (M 102 v + 1).toNat) (M 102 v + 1).toNat
def ncR : Nat → Nat → MM → Int × MM
  | 0, _, M => (0, M)
  | c + 1, v, M => if (nj M v : Int) < M 86 0 then (1, up2 M 102 v (nj M v)) else ncR c (v + 1) (up2 M 102 v (-1))
theorem up2_up2 (M : MM) (c k : Nat) (x y : Int) : up2 (up2 M c k x) c k y = up2 M c k y := by
  funext c' k'
  unfold up2
  by_cases h : c' = c
  · subst h
    by_cases h2 : k' = k
    · simp [h2]
    · simp [h2]
  · simp [h]
theorem adv_le (M : MM) (v : Int) : ∀ (r j : Nat), j ≤ adv M v r j ∧ adv M v r j ≤ j + r := by
  intro r
  induction r with
  | zero => intro j; exact ⟨Nat.le_refl _, Nat.le_refl _⟩
  | succ r ih =>
    intro j
    unfold adv
    split
    · omega
    · have := ih (j + 1); omega
set_option maxRecDepth 100000 in
set_option maxHeartbeats 4000000 in
theorem nc_w5 {G : GG} {E : EE} (A : AmM G E cX5_nextChoice 2 yX5_nextChoice.cls 1) (M : MM) (v : Nat) (hw : WM M) (hv : 1 ≤ v ∧ v ≤ 4) : ∀ (n j : Nat), (M 86 0).toNat - j < n → (j : Int) ≤ M 86 0 → AM G E 2 82 [.ref 84, vi (v : Int)] [] (up2 M 102 v ((adv M v ((M 86 0).toNat - j) j : Nat) : Int)) → AM G E 2 24 [.ref 84, vi (v : Int)] [] (up2 M 102 v (j : Int)) := by
  intro n
  induction n with
  | zero => intro j hn hj hk; exfalso; omega
  | succ n ih =>
    intro j hn hj hk
    have hP := hw.1
    have hL := hw.2.1
    have hl0 : (j : Int) < M 86 0 → LW M j := hw.2.2 j
    unfold LW at hl0
    refine a_aload_n (z := 84) A dX5_nextChoice_24 rfl ?_
    refine gf_X5_62 (r := 102) A dX5_nextChoice_25 rfl (by decide) rfl ?_
    refine a_iload_n (z := (v : Int)) A dX5_nextChoice_28 rfl ?_
    refine a_iaload (i := (v : Int)) (x := (j : Int)) A dX5_nextChoice_29 rfl (by decide) (by decide) (by omega) (up2_self _ _ _ _) ?_
    refine a_aload_n (z := 84) A dX5_nextChoice_30 rfl ?_
    refine gf_X5_13 (r := 86) A dX5_nextChoice_31 rfl (by decide) rfl ?_
    refine a_iconst A dX5_nextChoice_34 ?_
    refine a_iaload (i := 0) (x := M 86 0) A dX5_nextChoice_35 rfl (by decide) (by decide) (by omega) rfl ?_
    refine a_icmp_ge (tgt := 82) A dX5_nextChoice_36 (by decide) (by omega) (by omega) (fun h36 => ?_) (fun h36 => ?_)
    · have e : adv M v ((M 86 0).toNat - j) j = j := by
        first | (rw [show (M 86 0).toNat - j = 0 by omega]; rfl) | (rw [show (M 86 0).toNat - j = ((M 86 0).toNat - (j + 1)) + 1 by omega]; unfold adv; rw [if_pos (by omega)])
      rw [e] at hk
      exact hk
    · refine a_aload_n (z := 84) A dX5_nextChoice_39 rfl ?_
      refine gf_X5_16 (r := 87) A dX5_nextChoice_40 rfl (by decide) rfl ?_
      refine a_aload_n (z := 84) A dX5_nextChoice_43 rfl ?_
      refine gf_X5_62 (r := 102) A dX5_nextChoice_44 rfl (by decide) rfl ?_
      refine a_iload_n (z := (v : Int)) A dX5_nextChoice_47 rfl ?_
      refine a_iaload (i := (v : Int)) (x := (j : Int)) A dX5_nextChoice_48 rfl (by decide) (by decide) (by omega) (up2_self _ _ _ _) ?_
      refine a_iaload (i := (j : Int)) (x := M 87 j) A dX5_nextChoice_49 rfl (by decide) (by decide) (by omega) rfl ?_
      refine a_iload_n (z := (v : Int)) A dX5_nextChoice_50 rfl ?_
      refine a_icmp_eq (tgt := 82) A dX5_nextChoice_51 (by decide) (by omega) (by omega) (fun h51 => ?_) (fun h51 => ?_)
      · have e : adv M v ((M 86 0).toNat - j) j = j := by
          first | (rw [show (M 86 0).toNat - j = 0 by omega]; rfl) | (rw [show (M 86 0).toNat - j = ((M 86 0).toNat - (j + 1)) + 1 by omega]; unfold adv; rw [if_pos (by omega)])
        rw [e] at hk
        exact hk
      · refine a_aload_n (z := 84) A dX5_nextChoice_54 rfl ?_
        refine gf_X5_19 (r := 88) A dX5_nextChoice_55 rfl (by decide) rfl ?_
        refine a_aload_n (z := 84) A dX5_nextChoice_58 rfl ?_
        refine gf_X5_62 (r := 102) A dX5_nextChoice_59 rfl (by decide) rfl ?_
        refine a_iload_n (z := (v : Int)) A dX5_nextChoice_62 rfl ?_
        refine a_iaload (i := (v : Int)) (x := (j : Int)) A dX5_nextChoice_63 rfl (by decide) (by decide) (by omega) (up2_self _ _ _ _) ?_
        refine a_iaload (i := (j : Int)) (x := M 88 j) A dX5_nextChoice_64 rfl (by decide) (by decide) (by omega) rfl ?_
        refine a_iload_n (z := (v : Int)) A dX5_nextChoice_65 rfl ?_
        refine a_icmp_eq (tgt := 82) A dX5_nextChoice_66 (by decide) (by omega) (by omega) (fun h66 => ?_) (fun h66 => ?_)
        · have e : adv M v ((M 86 0).toNat - j) j = j := by
            first | (rw [show (M 86 0).toNat - j = 0 by omega]; rfl) | (rw [show (M 86 0).toNat - j = ((M 86 0).toNat - (j + 1)) + 1 by omega]; unfold adv; rw [if_pos (by omega)])
          rw [e] at hk
          exact hk
        · refine a_aload_n (z := 84) A dX5_nextChoice_69 rfl ?_
          refine gf_X5_62 (r := 102) A dX5_nextChoice_70 rfl (by decide) rfl ?_
          refine a_iload_n (z := (v : Int)) A dX5_nextChoice_73 rfl ?_
          refine a_dup2 A dX5_nextChoice_74 rfl rfl ?_
          refine a_iaload (i := (v : Int)) (x := (j : Int)) A dX5_nextChoice_75 rfl (by decide) (by decide) (by omega) (up2_self _ _ _ _) ?_
          refine a_iconst A dX5_nextChoice_76 ?_
          refine a_iadd (x := (j : Int)) (y := 1) A dX5_nextChoice_77 ?_
          refine a_iastore (i := (v : Int)) (j := v) A dX5_nextChoice_78 rfl (by decide) (by decide) (by omega) rfl ?_
          refine a_goto (tgt := 24) A dX5_nextChoice_79 (by decide) ?_
          have e : adv M v ((M 86 0).toNat - j) j = adv M v ((M 86 0).toNat - (j + 1)) (j + 1) := by
            rw [show (M 86 0).toNat - j = ((M 86 0).toNat - (j + 1)) + 1 by omega]
            conv => lhs; unfold adv
            rw [if_neg (by omega)]
          rw [e] at hk
          rw [up2_up2]
          exact ih (j + 1) (by omega) (by omega) hk
set_option maxRecDepth 100000 in
set_option maxHeartbeats 4000000 in
theorem nc_o5 {G : GG} {E : EE} {P : Int → MM → Prop} (A : AmM G E cX5_nextChoice 2 yX5_nextChoice.cls 1) (T0 : RT E G yX5_nextChoice 108 0 0 (some .boolean) (fun r rf' M' => rf' = rF ∧ ∃ z, r = some (vi z) ∧ P z M')) : ∀ (c v : Nat) (M : MM), WM M → 1 ≤ v → (v : Int) + c = M 85 0 - 1 → (∀ u : Nat, v ≤ u → (u : Int) < M 85 0 - 1 → -1 ≤ M 102 u ∧ M 102 u < M 86 0) → P (ncR c v M).1 (ncR c v M).2 → AM G E 2 2 [.ref 84, vi (v : Int)] [] M := by
  intro c
  induction c with
  | zero =>
    intro v M hw h1 hv hc hp
    have hP := hw.1
    refine a_iload_n (z := (v : Int)) A dX5_nextChoice_2 rfl ?_
    refine a_aload_n (z := 84) A dX5_nextChoice_3 rfl ?_
    refine gf_X5_7 (r := 85) A dX5_nextChoice_4 rfl (by decide) rfl ?_
    refine a_iconst A dX5_nextChoice_7 ?_
    refine a_iaload (i := 0) (x := M 85 0) A dX5_nextChoice_8 rfl (by decide) (by decide) (by omega) rfl ?_
    refine a_iconst A dX5_nextChoice_9 ?_
    refine a_isub (x := (M 85 0)) (y := 1) A dX5_nextChoice_10 ?_
    refine a_icmp_ge (tgt := 112) A dX5_nextChoice_11 (by decide) (by omega) (by omega) (fun h11 => ?_) (fun h11 => ?_)
    · refine a_iconst A dX5_nextChoice_112 ?_
      exact m_zreturn A T0 dX5_nextChoice_113 (by first | exact Or.inl rfl | exact Or.inr rfl | omega) (by exact hp)
    · exfalso; omega
  | succ c ih =>
    intro v M hw h1 hv hc hp
    have hP := hw.1
    have hL := hw.2.1
    have hcv := hc v (Nat.le_refl _) (by omega)
    obtain ⟨j0, hj0⟩ : ∃ j0 : Nat, M 102 v + 1 = (j0 : Int) := ⟨(M 102 v + 1).toNat, by omega⟩
    have hnj : nj M v = adv M v ((M 86 0).toNat - j0) j0 := by unfold nj; rw [hj0]; rfl
    have hle := adv_le M v ((M 86 0).toNat - j0) j0
    refine a_iload_n (z := (v : Int)) A dX5_nextChoice_2 rfl ?_
    refine a_aload_n (z := 84) A dX5_nextChoice_3 rfl ?_
    refine gf_X5_7 (r := 85) A dX5_nextChoice_4 rfl (by decide) rfl ?_
    refine a_iconst A dX5_nextChoice_7 ?_
    refine a_iaload (i := 0) (x := M 85 0) A dX5_nextChoice_8 rfl (by decide) (by decide) (by omega) rfl ?_
    refine a_iconst A dX5_nextChoice_9 ?_
    refine a_isub (x := (M 85 0)) (y := 1) A dX5_nextChoice_10 ?_
    refine a_icmp_ge (tgt := 112) A dX5_nextChoice_11 (by decide) (by omega) (by omega) (fun h11 => ?_) (fun h11 => ?_)
    · exfalso; omega
    · refine a_aload_n (z := 84) A dX5_nextChoice_14 rfl ?_
      refine gf_X5_62 (r := 102) A dX5_nextChoice_15 rfl (by decide) rfl ?_
      refine a_iload_n (z := (v : Int)) A dX5_nextChoice_18 rfl ?_
      refine a_dup2 A dX5_nextChoice_19 rfl rfl ?_
      refine a_iaload (i := (v : Int)) (x := M 102 v) A dX5_nextChoice_20 rfl (by decide) (by decide) (by omega) rfl ?_
      refine a_iconst A dX5_nextChoice_21 ?_
      refine a_iadd (x := (M 102 v)) (y := 1) A dX5_nextChoice_22 ?_
      refine a_iastore (i := (v : Int)) (j := v) A dX5_nextChoice_23 rfl (by decide) (by decide) (by omega) rfl ?_
      rw [hj0]
      refine nc_w5 A M v hw ⟨h1, by omega⟩ ((M 86 0).toNat - j0 + 1) j0 (by omega) (by omega) ?_
      rw [← hnj]
      refine a_aload_n (z := 84) A dX5_nextChoice_82 rfl ?_
      refine gf_X5_62 (r := 102) A dX5_nextChoice_83 rfl (by decide) rfl ?_
      refine a_iload_n (z := (v : Int)) A dX5_nextChoice_86 rfl ?_
      refine a_iaload (i := (v : Int)) (x := ((nj M v : Nat) : Int)) A dX5_nextChoice_87 rfl (by decide) (by decide) (by omega) (up2_self _ _ _ _) ?_
      refine a_aload_n (z := 84) A dX5_nextChoice_88 rfl ?_
      refine gf_X5_13 (r := 86) A dX5_nextChoice_89 rfl (by decide) rfl ?_
      refine a_iconst A dX5_nextChoice_92 ?_
      refine a_iaload (i := 0) (x := M 86 0) A dX5_nextChoice_93 rfl (by decide) (by decide) (by omega) rfl ?_
      refine a_icmp_ge (tgt := 99) A dX5_nextChoice_94 (by decide) (by omega) (by omega) (fun h94 => ?_) (fun h94 => ?_)
      · refine a_aload_n (z := 84) A dX5_nextChoice_99 rfl ?_
        refine gf_X5_62 (r := 102) A dX5_nextChoice_100 rfl (by decide) rfl ?_
        refine a_iload_n (z := (v : Int)) A dX5_nextChoice_103 rfl ?_
        refine a_iconst A dX5_nextChoice_104 ?_
        refine a_iastore (i := (v : Int)) (j := v) A dX5_nextChoice_105 rfl (by decide) (by decide) (by omega) rfl ?_
        refine a_iinc (z := (v : Int)) (lv' := [.ref 84, vi ((v : Int) + 1)]) A dX5_nextChoice_106 rfl (by decide) rfl ?_
        refine a_goto (tgt := 2) A dX5_nextChoice_109 (by decide) ?_
        rw [up2_up2]
        unfold ncR at hp
        rw [if_neg (by omega)] at hp
        exact ih (v + 1) (up2 M 102 v (-1)) hw (by omega) (show ((v + 1 : Nat) : Int) + c = M 85 0 - 1 by omega) (fun u h2 h3 => by rw [up2_in, if_neg (by omega)]; exact hc u (by omega) h3) hp
      · refine a_iconst A dX5_nextChoice_97 ?_
        exact m_zreturn A T0 dX5_nextChoice_98 (by first | exact Or.inl rfl | exact Or.inr rfl | omega) (by unfold ncR at hp; rw [if_pos (by omega)] at hp; exact hp)
set_option maxRecDepth 100000 in
set_option maxHeartbeats 4000000 in
theorem c_X5_nextChoice (G : GG) (l : Launch) (M : MM) (hw : WM M) (hc : ∀ u : Nat, 1 ≤ u → (u : Int) < M 85 0 - 1 → -1 ≤ M 102 u ∧ M 102 u < M 86 0) : CMi G l yX5_nextChoice cX5_nextChoice 2 (some .boolean) 1 [.ref 84] M (fun z M' => (z = 0 ∨ z = 1) ∧ (z, M') = ncR ((M 85 0).toNat - 2) 1 M) := by
  refine CT.intro (by decide) (Nat.le_of_ble_eq_true rfl) (fun E hE A T0 => ?_)
  subst hE
  refine a_iconst A dX5_nextChoice_0 ?_
  refine a_istore_n (lv' := [.ref 84, vi 1]) A dX5_nextChoice_1 (by decide) rfl ?_
  have hP := hw.1
  have hz : ∀ (c v : Nat) (M : MM), (ncR c v M).1 = 0 ∨ (ncR c v M).1 = 1 := by
    intro c
    induction c with
    | zero => intro v M; exact Or.inl rfl
    | succ c ih => intro v M; unfold ncR; split; exact Or.inr rfl; exact ih _ _
  exact nc_o5 A T0 ((M 85 0).toNat - 2) 1 M hw (by omega) (by omega) hc ⟨hz _ _ _, rfl⟩
end
section
theorem zz_end : True := trivial
end
