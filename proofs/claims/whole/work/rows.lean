section
-- ===== PART A: goes FIRST, ahead of the names: the tables' words, and 'selects' of the private methods out of them =====
/-- a private method of a class that the tables say can be made, by its rows of tables_1 -/
def lw_okq (q : MethodName × Nat) : Prop := (q.1.cls ≠ "java/lang/invoke/MethodHandle" ∧ q.1.cls ≠ "java/lang/invoke/VarHandle") ∧ Cond.instantiable q.1.cls q.2 ∈ tables_1 ∧ Cond.privateMethod q.1 ∈ tables_1 ∧ Cond.instanceMethod q.1 ∈ tables_1
theorem lw_p0 : lw_okq (⟨"CycleShop", "attempt", "(IIII)J"⟩, 8) := ⟨⟨by decide +kernel, by decide +kernel⟩, List.mem_of_getElem? (i := 13) (by decide +kernel), List.mem_of_getElem? (i := 188) (by decide +kernel), List.mem_of_getElem? (i := 189) (by decide +kernel)⟩
theorem lw_p1 : lw_okq (⟨"CycleShop", "perform", "(IIII)J"⟩, 8) := ⟨⟨by decide +kernel, by decide +kernel⟩, List.mem_of_getElem? (i := 13) (by decide +kernel), List.mem_of_getElem? (i := 192) (by decide +kernel), List.mem_of_getElem? (i := 193) (by decide +kernel)⟩
theorem lw_p2 : lw_okq (⟨"CycleShop", "measure", "(III)J"⟩, 8) := ⟨⟨by decide +kernel, by decide +kernel⟩, List.mem_of_getElem? (i := 13) (by decide +kernel), List.mem_of_getElem? (i := 276) (by decide +kernel), List.mem_of_getElem? (i := 277) (by decide +kernel)⟩
theorem lw_p3 : lw_okq (⟨"CycleShop", "excuse", "(II)J"⟩, 8) := ⟨⟨by decide +kernel, by decide +kernel⟩, List.mem_of_getElem? (i := 13) (by decide +kernel), List.mem_of_getElem? (i := 315) (by decide +kernel), List.mem_of_getElem? (i := 316) (by decide +kernel)⟩
theorem lw_p4 : lw_okq (⟨"CycleShop", "isDone", "(LCycleShop$Job;I)Z"⟩, 8) := ⟨⟨by decide +kernel, by decide +kernel⟩, List.mem_of_getElem? (i := 13) (by decide +kernel), List.mem_of_getElem? (i := 374) (by decide +kernel), List.mem_of_getElem? (i := 375) (by decide +kernel)⟩
theorem lw_p5 : lw_okq (⟨"CycleShop", "isDoneInStead", "(LCycleShop$Job;I)Z"⟩, 8) := ⟨⟨by decide +kernel, by decide +kernel⟩, List.mem_of_getElem? (i := 13) (by decide +kernel), List.mem_of_getElem? (i := 391) (by decide +kernel), List.mem_of_getElem? (i := 392) (by decide +kernel)⟩
theorem lw_p6 : lw_okq (⟨"CycleShop", "hanging", "(LCycleShop$Stand;)I"⟩, 8) := ⟨⟨by decide +kernel, by decide +kernel⟩, List.mem_of_getElem? (i := 13) (by decide +kernel), List.mem_of_getElem? (i := 412) (by decide +kernel), List.mem_of_getElem? (i := 413) (by decide +kernel)⟩
theorem lw_p7 : lw_okq (⟨"CycleShopModel", "does", "(IIII)V"⟩, 28) := ⟨⟨by decide +kernel, by decide +kernel⟩, List.mem_of_getElem? (i := 450) (by decide +kernel), List.mem_of_getElem? (i := 555) (by decide +kernel), List.mem_of_getElem? (i := 556) (by decide +kernel)⟩
theorem lw_p8 : lw_okq (⟨"CycleShopModel", "build", "(II)V"⟩, 28) := ⟨⟨by decide +kernel, by decide +kernel⟩, List.mem_of_getElem? (i := 450) (by decide +kernel), List.mem_of_getElem? (i := 559) (by decide +kernel), List.mem_of_getElem? (i := 560) (by decide +kernel)⟩
theorem lw_p9 : lw_okq (⟨"CycleShopModel", "strip", "(I)V"⟩, 28) := ⟨⟨by decide +kernel, by decide +kernel⟩, List.mem_of_getElem? (i := 450) (by decide +kernel), List.mem_of_getElem? (i := 563) (by decide +kernel), List.mem_of_getElem? (i := 564) (by decide +kernel)⟩
theorem lw_p10 : lw_okq (⟨"CycleShopModel", "fit", "(III)V"⟩, 28) := ⟨⟨by decide +kernel, by decide +kernel⟩, List.mem_of_getElem? (i := 450) (by decide +kernel), List.mem_of_getElem? (i := 567) (by decide +kernel), List.mem_of_getElem? (i := 568) (by decide +kernel)⟩
theorem lw_p11 : lw_okq (⟨"CycleShopModel", "fails", "(I)V"⟩, 28) := ⟨⟨by decide +kernel, by decide +kernel⟩, List.mem_of_getElem? (i := 450) (by decide +kernel), List.mem_of_getElem? (i := 571) (by decide +kernel), List.mem_of_getElem? (i := 572) (by decide +kernel)⟩
theorem lw_p12 : lw_okq (⟨"CycleShopModel", "newWheel", "(I)I"⟩, 28) := ⟨⟨by decide +kernel, by decide +kernel⟩, List.mem_of_getElem? (i := 450) (by decide +kernel), List.mem_of_getElem? (i := 575) (by decide +kernel), List.mem_of_getElem? (i := 576) (by decide +kernel)⟩
theorem lw_p13 : lw_okq (⟨"CycleShopModel", "isUsed", "(I)Z"⟩, 28) := ⟨⟨by decide +kernel, by decide +kernel⟩, List.mem_of_getElem? (i := 450) (by decide +kernel), List.mem_of_getElem? (i := 579) (by decide +kernel), List.mem_of_getElem? (i := 580) (by decide +kernel)⟩
theorem lw_p14 : lw_okq (⟨"CycleShopModel", "turn", "(IIZ)V"⟩, 28) := ⟨⟨by decide +kernel, by decide +kernel⟩, List.mem_of_getElem? (i := 450) (by decide +kernel), List.mem_of_getElem? (i := 583) (by decide +kernel), List.mem_of_getElem? (i := 584) (by decide +kernel)⟩
theorem lw_p15 : lw_okq (⟨"CycleShopModel", "light", "(III)V"⟩, 28) := ⟨⟨by decide +kernel, by decide +kernel⟩, List.mem_of_getElem? (i := 450) (by decide +kernel), List.mem_of_getElem? (i := 587) (by decide +kernel), List.mem_of_getElem? (i := 588) (by decide +kernel)⟩
def lw_privs_1 : List (MethodName × Nat) := [(⟨"CycleShop", "attempt", "(IIII)J"⟩, 8), (⟨"CycleShop", "perform", "(IIII)J"⟩, 8), (⟨"CycleShop", "measure", "(III)J"⟩, 8), (⟨"CycleShop", "excuse", "(II)J"⟩, 8), (⟨"CycleShop", "isDone", "(LCycleShop$Job;I)Z"⟩, 8), (⟨"CycleShop", "isDoneInStead", "(LCycleShop$Job;I)Z"⟩, 8), (⟨"CycleShop", "hanging", "(LCycleShop$Stand;)I"⟩, 8), (⟨"CycleShopModel", "does", "(IIII)V"⟩, 28), (⟨"CycleShopModel", "build", "(II)V"⟩, 28), (⟨"CycleShopModel", "strip", "(I)V"⟩, 28), (⟨"CycleShopModel", "fit", "(III)V"⟩, 28), (⟨"CycleShopModel", "fails", "(I)V"⟩, 28), (⟨"CycleShopModel", "newWheel", "(I)I"⟩, 28), (⟨"CycleShopModel", "isUsed", "(I)Z"⟩, 28), (⟨"CycleShopModel", "turn", "(IIZ)V"⟩, 28), (⟨"CycleShopModel", "light", "(III)V"⟩, 28)]
theorem lw_r1 : ∀ q ∈ lw_privs_1, lw_okq q := List.forall_mem_cons.mpr ⟨lw_p0, List.forall_mem_cons.mpr ⟨lw_p1, List.forall_mem_cons.mpr ⟨lw_p2, List.forall_mem_cons.mpr ⟨lw_p3, List.forall_mem_cons.mpr ⟨lw_p4, List.forall_mem_cons.mpr ⟨lw_p5, List.forall_mem_cons.mpr ⟨lw_p6, List.forall_mem_cons.mpr ⟨lw_p7, List.forall_mem_cons.mpr ⟨lw_p8, List.forall_mem_cons.mpr ⟨lw_p9, List.forall_mem_cons.mpr ⟨lw_p10, List.forall_mem_cons.mpr ⟨lw_p11, List.forall_mem_cons.mpr ⟨lw_p12, List.forall_mem_cons.mpr ⟨lw_p13, List.forall_mem_cons.mpr ⟨lw_p14, List.forall_mem_cons.mpr ⟨lw_p15, fun _ h => absurd h List.not_mem_nil⟩⟩⟩⟩⟩⟩⟩⟩⟩⟩⟩⟩⟩⟩⟩⟩
theorem lw_p16 : lw_okq (⟨"CycleShopModel", "shine", "(II)V"⟩, 28) := ⟨⟨by decide +kernel, by decide +kernel⟩, List.mem_of_getElem? (i := 450) (by decide +kernel), List.mem_of_getElem? (i := 591) (by decide +kernel), List.mem_of_getElem? (i := 592) (by decide +kernel)⟩
theorem lw_p17 : lw_okq (⟨"CycleShopModel", "make", "(IIII)V"⟩, 28) := ⟨⟨by decide +kernel, by decide +kernel⟩, List.mem_of_getElem? (i := 450) (by decide +kernel), List.mem_of_getElem? (i := 595) (by decide +kernel), List.mem_of_getElem? (i := 596) (by decide +kernel)⟩
theorem lw_p18 : lw_okq (⟨"CycleShopModel", "measure", "(III)V"⟩, 28) := ⟨⟨by decide +kernel, by decide +kernel⟩, List.mem_of_getElem? (i := 450) (by decide +kernel), List.mem_of_getElem? (i := 599) (by decide +kernel), List.mem_of_getElem? (i := 600) (by decide +kernel)⟩
theorem lw_p19 : lw_okq (⟨"CycleShopModel", "has", "(II)Z"⟩, 28) := ⟨⟨by decide +kernel, by decide +kernel⟩, List.mem_of_getElem? (i := 450) (by decide +kernel), List.mem_of_getElem? (i := 604) (by decide +kernel), List.mem_of_getElem? (i := 605) (by decide +kernel)⟩
theorem lw_p20 : lw_okq (⟨"CycleShopModel", "hang", "(III)V"⟩, 28) := ⟨⟨by decide +kernel, by decide +kernel⟩, List.mem_of_getElem? (i := 450) (by decide +kernel), List.mem_of_getElem? (i := 608) (by decide +kernel), List.mem_of_getElem? (i := 609) (by decide +kernel)⟩
theorem lw_p21 : lw_okq (⟨"CycleShopModel", "balance", "(II)V"⟩, 28) := ⟨⟨by decide +kernel, by decide +kernel⟩, List.mem_of_getElem? (i := 450) (by decide +kernel), List.mem_of_getElem? (i := 612) (by decide +kernel), List.mem_of_getElem? (i := 613) (by decide +kernel)⟩
theorem lw_p22 : lw_okq (⟨"CycleShopModel", "goes", "(II)V"⟩, 28) := ⟨⟨by decide +kernel, by decide +kernel⟩, List.mem_of_getElem? (i := 450) (by decide +kernel), List.mem_of_getElem? (i := 630) (by decide +kernel), List.mem_of_getElem? (i := 631) (by decide +kernel)⟩
theorem lw_p23 : lw_okq (⟨"CycleShopModel", "hangs", "(I)Z"⟩, 28) := ⟨⟨by decide +kernel, by decide +kernel⟩, List.mem_of_getElem? (i := 450) (by decide +kernel), List.mem_of_getElem? (i := 652) (by decide +kernel), List.mem_of_getElem? (i := 653) (by decide +kernel)⟩
def lw_privs_2 : List (MethodName × Nat) := [(⟨"CycleShopModel", "shine", "(II)V"⟩, 28), (⟨"CycleShopModel", "make", "(IIII)V"⟩, 28), (⟨"CycleShopModel", "measure", "(III)V"⟩, 28), (⟨"CycleShopModel", "has", "(II)Z"⟩, 28), (⟨"CycleShopModel", "hang", "(III)V"⟩, 28), (⟨"CycleShopModel", "balance", "(II)V"⟩, 28), (⟨"CycleShopModel", "goes", "(II)V"⟩, 28), (⟨"CycleShopModel", "hangs", "(I)Z"⟩, 28)]
theorem lw_r2 : ∀ q ∈ lw_privs_2, lw_okq q := List.forall_mem_cons.mpr ⟨lw_p16, List.forall_mem_cons.mpr ⟨lw_p17, List.forall_mem_cons.mpr ⟨lw_p18, List.forall_mem_cons.mpr ⟨lw_p19, List.forall_mem_cons.mpr ⟨lw_p20, List.forall_mem_cons.mpr ⟨lw_p21, List.forall_mem_cons.mpr ⟨lw_p22, List.forall_mem_cons.mpr ⟨lw_p23, fun _ h => absurd h List.not_mem_nil⟩⟩⟩⟩⟩⟩⟩⟩
def lw_privs : List (MethodName × Nat) := lw_privs_1 ++ (lw_privs_2)
def lw_tbl : List Cond := k2_sels lw_privs ++ tables_1
theorem lw_privs_ok : ∀ q ∈ lw_privs, lw_okq q := by
  show ∀ q ∈ lw_privs_1 ++ (lw_privs_2), lw_okq q
  exact List.forall_mem_append.mpr ⟨lw_r1, lw_r2⟩
-- ===== end of PART A; then your names; then what follows =====
end
section
def RX0 : String := "CycleShop$Basket"
def TX0 : u_T := fun k => match k with
  | 0 => ("CycleShop$Basket", "numbers", "[I", true)
  | _ => ("CycleShop$Basket", "length", "I", false)
def tyX0 : Nat → FieldType := fun k => match k with
  | 0 => .array .int
  | _ => .int
theorem nmX0 : ∀ a, a < 2 → ∀ b, b < 2 → a ≠ b → (TX0 a).2.1 ≠ (TX0 b).2.1 := by decide +kernel
theorem tyX0_ok : ∀ k, k < 2 → parseFieldDescriptor (TX0 k).2.2.1 = some (tyX0 k) := by decide +kernel
abbrev cX0_init : ByteArray := prog_2_method_1_code
def yX0_init : MethodName := ⟨RX0, "<init>", "()V"⟩
abbrev cX0_make : ByteArray := prog_2_method_2_code
def yX0_make : MethodName := ⟨RX0, "make", "(I)J"⟩
abbrev cX0_put : ByteArray := prog_2_method_3_code
def yX0_put : MethodName := ⟨RX0, "put", "(II)J"⟩
abbrev cX0_numberAt : ByteArray := prog_2_method_4_code
def yX0_numberAt : MethodName := ⟨RX0, "numberAt", "(I)I"⟩
def RX1 : String := "CycleShop$Grid"
def TX1 : u_T := fun k => match k with
  | 0 => ("CycleShop$Grid", "numbers", "[I", true)
  | 1 => ("CycleShop$Grid", "rows", "I", false)
  | _ => ("CycleShop$Grid", "columns", "I", false)
def tyX1 : Nat → FieldType := fun k => match k with
  | 0 => .array .int
  | 1 => .int
  | _ => .int
theorem nmX1 : ∀ a, a < 3 → ∀ b, b < 3 → a ≠ b → (TX1 a).2.1 ≠ (TX1 b).2.1 := by decide +kernel
theorem tyX1_ok : ∀ k, k < 3 → parseFieldDescriptor (TX1 k).2.2.1 = some (tyX1 k) := by decide +kernel
abbrev cX1_init : ByteArray := prog_3_method_1_code
def yX1_init : MethodName := ⟨RX1, "<init>", "()V"⟩
abbrev cX1_make : ByteArray := prog_3_method_2_code
def yX1_make : MethodName := ⟨RX1, "make", "(II)J"⟩
abbrev cX1_has : ByteArray := prog_3_method_3_code
def yX1_has : MethodName := ⟨RX1, "has", "(II)Z"⟩
abbrev cX1_rowLength : ByteArray := prog_3_method_4_code
def yX1_rowLength : MethodName := ⟨RX1, "rowLength", "(I)J"⟩
abbrev cX1_addOne : ByteArray := prog_3_method_5_code
def yX1_addOne : MethodName := ⟨RX1, "addOne", "(II)J"⟩
abbrev cX1_numberAt : ByteArray := prog_3_method_6_code
def yX1_numberAt : MethodName := ⟨RX1, "numberAt", "(II)I"⟩
def RX2 : String := "CycleShop$Job"
def TX2 : u_T := fun k => match k with
  | 0 => ("CycleShop$Job", "steps", "[LCycleShop$Step;", true)
  | _ => ("CycleShop$Job", "count", "I", false)
def tyX2 : Nat → FieldType := fun k => match k with
  | 0 => .array (.object "CycleShop$Step")
  | _ => .int
theorem nmX2 : ∀ a, a < 2 → ∀ b, b < 2 → a ≠ b → (TX2 a).2.1 ≠ (TX2 b).2.1 := by decide +kernel
theorem tyX2_ok : ∀ k, k < 2 → parseFieldDescriptor (TX2 k).2.2.1 = some (tyX2 k) := by decide +kernel
abbrev cX2_init : ByteArray := prog_4_method_1_code
def yX2_init : MethodName := ⟨RX2, "<init>", "()V"⟩
abbrev cX2_append : ByteArray := prog_4_method_2_code
def yX2_append : MethodName := ⟨RX2, "append", "(LCycleShop$Step;)I"⟩
abbrev cX2_empty : ByteArray := prog_4_method_3_code
def yX2_empty : MethodName := ⟨RX2, "empty", "()I"⟩
abbrev cX2_stepAt : ByteArray := prog_4_method_4_code
def yX2_stepAt : MethodName := ⟨RX2, "stepAt", "(I)LCycleShop$Step;"⟩
def RX3 : String := "CycleShop$Rack"
def TX3 : u_T := fun k => match k with
  | 0 => ("CycleShop$Rack", "places", "[LCycleShop$Wheel;", true)
  | 1 => ("CycleShop$Rack", "length", "I", false)
  | _ => ("CycleShop$Rack", "isForDiscs", "Z", false)
def tyX3 : Nat → FieldType := fun k => match k with
  | 0 => .array (.object "CycleShop$Wheel")
  | 1 => .int
  | _ => .boolean
theorem nmX3 : ∀ a, a < 3 → ∀ b, b < 3 → a ≠ b → (TX3 a).2.1 ≠ (TX3 b).2.1 := by decide +kernel
theorem tyX3_ok : ∀ k, k < 3 → parseFieldDescriptor (TX3 k).2.2.1 = some (tyX3 k) := by decide +kernel
abbrev cX3_init : ByteArray := prog_5_method_1_code
def yX3_init : MethodName := ⟨RX3, "<init>", "()V"⟩
abbrev cX3_make : ByteArray := prog_5_method_2_code
def yX3_make : MethodName := ⟨RX3, "make", "(IZ)J"⟩
abbrev cX3_hang : ByteArray := prog_5_method_3_code
def yX3_hang : MethodName := ⟨RX3, "hang", "(ILCycleShop$Stand;)J"⟩
abbrev cX3_balance : ByteArray := prog_5_method_4_code
def yX3_balance : MethodName := ⟨RX3, "balance", "(I)J"⟩
abbrev cX3_wheelAt : ByteArray := prog_5_method_5_code
def yX3_wheelAt : MethodName := ⟨RX3, "wheelAt", "(I)LCycleShop$Wheel;"⟩
abbrev cX3_holds : ByteArray := prog_5_method_6_code
def yX3_holds : MethodName := ⟨RX3, "holds", "(LCycleShop$Wheel;)Z"⟩
def RX4 : String := "CycleShop$Report"
def TX4 : u_T := fun k => match k with
  | 0 => ("CycleShop$Report", "done", "I", false)
  | 1 => ("CycleShop$Report", "failed", "I", false)
  | 2 => ("CycleShop$Report", "reason", "I", false)
  | 3 => ("CycleShop$Report", "reasonStep", "I", false)
  | 4 => ("CycleShop$Report", "steads", "I", false)
  | _ => ("CycleShop$Report", "sum", "J", false)
def tyX4 : Nat → FieldType := fun k => match k with
  | 0 => .int
  | 1 => .int
  | 2 => .int
  | 3 => .int
  | 4 => .int
  | _ => .long
theorem nmX4 : ∀ a, a < 6 → ∀ b, b < 6 → a ≠ b → (TX4 a).2.1 ≠ (TX4 b).2.1 := by decide +kernel
theorem tyX4_ok : ∀ k, k < 6 → parseFieldDescriptor (TX4 k).2.2.1 = some (tyX4 k) := by decide +kernel
abbrev cX4_init : ByteArray := prog_6_method_1_code
def yX4_init : MethodName := ⟨RX4, "<init>", "()V"⟩
abbrev cX4_restart : ByteArray := prog_6_method_2_code
def yX4_restart : MethodName := ⟨RX4, "restart", "()V"⟩
abbrev cX4_addAnswer : ByteArray := prog_6_method_3_code
def yX4_addAnswer : MethodName := ⟨RX4, "addAnswer", "(J)V"⟩
abbrev cX4_addFailure : ByteArray := prog_6_method_4_code
def yX4_addFailure : MethodName := ⟨RX4, "addFailure", "(II)V"⟩
def RX5 : String := "CycleShop$Stand"
def TX5 : u_T := fun k => match k with
  | 0 => ("CycleShop$Stand", "hasBike", "Z", false)
  | 1 => ("CycleShop$Stand", "frame", "I", false)
  | 2 => ("CycleShop$Stand", "front", "LCycleShop$Wheel;", false)
  | 3 => ("CycleShop$Stand", "rear", "LCycleShop$Wheel;", false)
  | 4 => ("CycleShop$Stand", "lamp", "I", false)
  | _ => ("CycleShop$Stand", "charge", "I", false)
def tyX5 : Nat → FieldType := fun k => match k with
  | 0 => .boolean
  | 1 => .int
  | 2 => .object "CycleShop$Wheel"
  | 3 => .object "CycleShop$Wheel"
  | 4 => .int
  | _ => .int
theorem nmX5 : ∀ a, a < 6 → ∀ b, b < 6 → a ≠ b → (TX5 a).2.1 ≠ (TX5 b).2.1 := by decide +kernel
theorem tyX5_ok : ∀ k, k < 6 → parseFieldDescriptor (TX5 k).2.2.1 = some (tyX5 k) := by decide +kernel
abbrev cX5_init : ByteArray := prog_7_method_1_code
def yX5_init : MethodName := ⟨RX5, "<init>", "()V"⟩
abbrev cX5_build : ByteArray := prog_7_method_2_code
def yX5_build : MethodName := ⟨RX5, "build", "(I)J"⟩
abbrev cX5_strip : ByteArray := prog_7_method_3_code
def yX5_strip : MethodName := ⟨RX5, "strip", "()J"⟩
abbrev cX5_wheel : ByteArray := prog_7_method_4_code
def yX5_wheel : MethodName := ⟨RX5, "wheel", "(I)LCycleShop$Wheel;"⟩
abbrev cX5_fit : ByteArray := prog_7_method_5_code
def yX5_fit : MethodName := ⟨RX5, "fit", "(II)J"⟩
abbrev cX5_trueWheel : ByteArray := prog_7_method_6_code
def yX5_trueWheel : MethodName := ⟨RX5, "trueWheel", "(I)J"⟩
abbrev cX5_countSpokes : ByteArray := prog_7_method_7_code
def yX5_countSpokes : MethodName := ⟨RX5, "countSpokes", "(I)J"⟩
abbrev cX5_light : ByteArray := prog_7_method_8_code
def yX5_light : MethodName := ⟨RX5, "light", "(II)J"⟩
abbrev cX5_shine : ByteArray := prog_7_method_9_code
def yX5_shine : MethodName := ⟨RX5, "shine", "(I)J"⟩
abbrev cX5_tell : ByteArray := prog_7_method_10_code
def yX5_tell : MethodName := ⟨RX5, "tell", "(I)I"⟩
def RX6 : String := "CycleShop$Step"
def TX6 : u_T := fun k => match k with
  | 0 => ("CycleShop$Step", "kind", "I", true)
  | 1 => ("CycleShop$Step", "a", "I", true)
  | 2 => ("CycleShop$Step", "b", "I", true)
  | 3 => ("CycleShop$Step", "c", "I", true)
  | _ => ("CycleShop$Step", "stead", "I", true)
def tyX6 : Nat → FieldType := fun k => match k with
  | 0 => .int
  | 1 => .int
  | 2 => .int
  | 3 => .int
  | _ => .int
theorem nmX6 : ∀ a, a < 5 → ∀ b, b < 5 → a ≠ b → (TX6 a).2.1 ≠ (TX6 b).2.1 := by decide +kernel
theorem tyX6_ok : ∀ k, k < 5 → parseFieldDescriptor (TX6 k).2.2.1 = some (tyX6 k) := by decide +kernel
abbrev cX6_init : ByteArray := prog_8_method_1_code
def yX6_init : MethodName := ⟨RX6, "<init>", "(IIIII)V"⟩
def RX7 : String := "CycleShop$Wheel"
def TX7 : u_T := fun k => match k with
  | 0 => ("CycleShop$Wheel", "spokes", "I", true)
  | 1 => ("CycleShop$Wheel", "isDisc", "Z", true)
  | _ => ("CycleShop$Wheel", "turns", "I", false)
def tyX7 : Nat → FieldType := fun k => match k with
  | 0 => .int
  | 1 => .boolean
  | _ => .int
theorem nmX7 : ∀ a, a < 3 → ∀ b, b < 3 → a ≠ b → (TX7 a).2.1 ≠ (TX7 b).2.1 := by decide +kernel
theorem tyX7_ok : ∀ k, k < 3 → parseFieldDescriptor (TX7 k).2.2.1 = some (tyX7 k) := by decide +kernel
abbrev cX7_init : ByteArray := prog_9_method_1_code
def yX7_init : MethodName := ⟨RX7, "<init>", "(IZ)V"⟩
abbrev cX7_turn : ByteArray := prog_9_method_2_code
def yX7_turn : MethodName := ⟨RX7, "turn", "()I"⟩
abbrev cX7_label : ByteArray := prog_9_method_3_code
def yX7_label : MethodName := ⟨RX7, "label", "()I"⟩
def RX8 : String := "CycleShop"
def TX8 : u_T := fun k => match k with
  | 0 => ("CycleShop", "stands", "[LCycleShop$Stand;", true)
  | 1 => ("CycleShop", "baskets", "[LCycleShop$Basket;", true)
  | 2 => ("CycleShop", "racks", "[LCycleShop$Rack;", true)
  | 3 => ("CycleShop", "grids", "[LCycleShop$Grid;", true)
  | 4 => ("CycleShop", "jobs", "[LCycleShop$Job;", true)
  | 5 => ("CycleShop", "excuses", "[I", true)
  | 6 => ("CycleShop", "tallies", "[I", true)
  | _ => ("CycleShop", "report", "LCycleShop$Report;", true)
def tyX8 : Nat → FieldType := fun k => match k with
  | 0 => .array (.object "CycleShop$Stand")
  | 1 => .array (.object "CycleShop$Basket")
  | 2 => .array (.object "CycleShop$Rack")
  | 3 => .array (.object "CycleShop$Grid")
  | 4 => .array (.object "CycleShop$Job")
  | 5 => .array .int
  | 6 => .array .int
  | _ => .object "CycleShop$Report"
theorem nmX8 : ∀ a, a < 8 → ∀ b, b < 8 → a ≠ b → (TX8 a).2.1 ≠ (TX8 b).2.1 := by decide +kernel
theorem tyX8_ok : ∀ k, k < 8 → parseFieldDescriptor (TX8 k).2.2.1 = some (tyX8 k) := by decide +kernel
abbrev cX8_init : ByteArray := prog_1_method_1_code
def yX8_init : MethodName := ⟨RX8, "<init>", "()V"⟩
abbrev cX8_act : ByteArray := prog_1_method_2_code
def yX8_act : MethodName := ⟨RX8, "act", "(IIII)J"⟩
abbrev cX8_step : ByteArray := prog_1_method_3_code
def yX8_step : MethodName := ⟨RX8, "step", "(IIIIII)I"⟩
abbrev cX8_clear : ByteArray := prog_1_method_4_code
def yX8_clear : MethodName := ⟨RX8, "clear", "(I)I"⟩
abbrev cX8_run : ByteArray := prog_1_method_5_code
def yX8_run : MethodName := ⟨RX8, "run", "(II)I"⟩
abbrev cX8_told : ByteArray := prog_1_method_6_code
def yX8_told : MethodName := ⟨RX8, "told", "(I)I"⟩
abbrev cX8_sum : ByteArray := prog_1_method_7_code
def yX8_sum : MethodName := ⟨RX8, "sum", "()J"⟩
abbrev cX8_tally : ByteArray := prog_1_method_8_code
def yX8_tally : MethodName := ⟨RX8, "tally", "(I)I"⟩
abbrev cX8_stand : ByteArray := prog_1_method_9_code
def yX8_stand : MethodName := ⟨RX8, "stand", "(II)I"⟩
abbrev cX8_basket : ByteArray := prog_1_method_10_code
def yX8_basket : MethodName := ⟨RX8, "basket", "(II)I"⟩
abbrev cX8_rack : ByteArray := prog_1_method_11_code
def yX8_rack : MethodName := ⟨RX8, "rack", "(II)I"⟩
abbrev cX8_grid : ByteArray := prog_1_method_12_code
def yX8_grid : MethodName := ⟨RX8, "grid", "(III)I"⟩
abbrev cX8_isWithin : ByteArray := prog_1_method_13_code
def yX8_isWithin : MethodName := ⟨RX8, "isWithin", "(II)Z"⟩
abbrev cX8_failure : ByteArray := prog_1_method_14_code
def yX8_failure : MethodName := ⟨RX8, "failure", "(I)J"⟩
abbrev cX8_reasonOf : ByteArray := prog_1_method_15_code
def yX8_reasonOf : MethodName := ⟨RX8, "reasonOf", "(J)I"⟩
abbrev cX8_isStep : ByteArray := prog_1_method_16_code
def yX8_isStep : MethodName := ⟨RX8, "isStep", "(IIII)Z"⟩
abbrev cX8_attempt : ByteArray := prog_1_method_17_code
def yX8_attempt : MethodName := ⟨RX8, "attempt", "(IIII)J"⟩
abbrev cX8_perform : ByteArray := prog_1_method_18_code
def yX8_perform : MethodName := ⟨RX8, "perform", "(IIII)J"⟩
abbrev cX8_measure : ByteArray := prog_1_method_19_code
def yX8_measure : MethodName := ⟨RX8, "measure", "(III)J"⟩
abbrev cX8_lengthOrFailure : ByteArray := prog_1_method_20_code
def yX8_lengthOrFailure : MethodName := ⟨RX8, "lengthOrFailure", "(I)J"⟩
abbrev cX8_excuse : ByteArray := prog_1_method_21_code
def yX8_excuse : MethodName := ⟨RX8, "excuse", "(II)J"⟩
abbrev cX8_isDone : ByteArray := prog_1_method_22_code
def yX8_isDone : MethodName := ⟨RX8, "isDone", "(LCycleShop$Job;I)Z"⟩
abbrev cX8_isDoneInStead : ByteArray := prog_1_method_23_code
def yX8_isDoneInStead : MethodName := ⟨RX8, "isDoneInStead", "(LCycleShop$Job;I)Z"⟩
abbrev cX8_hanging : ByteArray := prog_1_method_24_code
def yX8_hanging : MethodName := ⟨RX8, "hanging", "(LCycleShop$Stand;)I"⟩
def RX9 : String := "CycleShopModel"
def TX9 : u_T := fun k => match k with
  | 0 => ("CycleShopModel", "isThere", "[Z", true)
  | 1 => ("CycleShopModel", "frames", "[I", true)
  | 2 => ("CycleShopModel", "wheel", "[I", true)
  | 3 => ("CycleShopModel", "lamps", "[I", true)
  | 4 => ("CycleShopModel", "charges", "[I", true)
  | 5 => ("CycleShopModel", "spokes", "[I", true)
  | 6 => ("CycleShopModel", "turns", "[I", true)
  | 7 => ("CycleShopModel", "isDisc", "[Z", true)
  | 8 => ("CycleShopModel", "baskets", "[I", true)
  | 9 => ("CycleShopModel", "inBasket", "[I", true)
  | 10 => ("CycleShopModel", "racks", "[I", true)
  | 11 => ("CycleShopModel", "forDiscs", "[Z", true)
  | 12 => ("CycleShopModel", "inRack", "[I", true)
  | 13 => ("CycleShopModel", "grids", "[I", true)
  | 14 => ("CycleShopModel", "wide", "[I", true)
  | 15 => ("CycleShopModel", "inGrid", "[I", true)
  | 16 => ("CycleShopModel", "excuses", "[I", true)
  | 17 => ("CycleShopModel", "steps", "[I", true)
  | 18 => ("CycleShopModel", "step", "[I", true)
  | 19 => ("CycleShopModel", "done", "I", false)
  | 20 => ("CycleShopModel", "failed", "I", false)
  | 21 => ("CycleShopModel", "reason", "I", false)
  | 22 => ("CycleShopModel", "where", "I", false)
  | 23 => ("CycleShopModel", "came", "I", false)
  | 24 => ("CycleShopModel", "sum", "J", false)
  | 25 => ("CycleShopModel", "tally", "[I", true)
  | 26 => ("CycleShopModel", "why", "I", false)
  | _ => ("CycleShopModel", "answer", "I", false)
def tyX9 : Nat → FieldType := fun k => match k with
  | 0 => .array .boolean
  | 1 => .array .int
  | 2 => .array .int
  | 3 => .array .int
  | 4 => .array .int
  | 5 => .array .int
  | 6 => .array .int
  | 7 => .array .boolean
  | 8 => .array .int
  | 9 => .array .int
  | 10 => .array .int
  | 11 => .array .boolean
  | 12 => .array .int
  | 13 => .array .int
  | 14 => .array .int
  | 15 => .array .int
  | 16 => .array .int
  | 17 => .array .int
  | 18 => .array .int
  | 19 => .int
  | 20 => .int
  | 21 => .int
  | 22 => .int
  | 23 => .int
  | 24 => .long
  | 25 => .array .int
  | 26 => .int
  | _ => .int
theorem nmX9 : ∀ a, a < 28 → ∀ b, b < 28 → a ≠ b → (TX9 a).2.1 ≠ (TX9 b).2.1 := by decide +kernel
theorem tyX9_ok : ∀ k, k < 28 → parseFieldDescriptor (TX9 k).2.2.1 = some (tyX9 k) := by decide +kernel
abbrev cX9_init : ByteArray := prog_11_method_1_code
def yX9_init : MethodName := ⟨RX9, "<init>", "()V"⟩
abbrev cX9_in : ByteArray := prog_11_method_2_code
def yX9_in : MethodName := ⟨RX9, "in", "(JJJ)Z"⟩
abbrev cX9_isStep : ByteArray := prog_11_method_3_code
def yX9_isStep : MethodName := ⟨RX9, "isStep", "(IIII)Z"⟩
abbrev cX9_isUsed : ByteArray := prog_11_method_4_code
def yX9_isUsed : MethodName := ⟨RX9, "isUsed", "(I)Z"⟩
abbrev cX9_newWheel : ByteArray := prog_11_method_5_code
def yX9_newWheel : MethodName := ⟨RX9, "newWheel", "(I)I"⟩
abbrev cX9_fails : ByteArray := prog_11_method_6_code
def yX9_fails : MethodName := ⟨RX9, "fails", "(I)V"⟩
abbrev cX9_build : ByteArray := prog_11_method_7_code
def yX9_build : MethodName := ⟨RX9, "build", "(II)V"⟩
abbrev cX9_strip : ByteArray := prog_11_method_8_code
def yX9_strip : MethodName := ⟨RX9, "strip", "(I)V"⟩
abbrev cX9_fit : ByteArray := prog_11_method_9_code
def yX9_fit : MethodName := ⟨RX9, "fit", "(III)V"⟩
abbrev cX9_turn : ByteArray := prog_11_method_10_code
def yX9_turn : MethodName := ⟨RX9, "turn", "(IIZ)V"⟩
abbrev cX9_light : ByteArray := prog_11_method_11_code
def yX9_light : MethodName := ⟨RX9, "light", "(III)V"⟩
abbrev cX9_shine : ByteArray := prog_11_method_12_code
def yX9_shine : MethodName := ⟨RX9, "shine", "(II)V"⟩
abbrev cX9_make : ByteArray := prog_11_method_13_code
def yX9_make : MethodName := ⟨RX9, "make", "(IIII)V"⟩
abbrev cX9_measure : ByteArray := prog_11_method_14_code
def yX9_measure : MethodName := ⟨RX9, "measure", "(III)V"⟩
abbrev cX9_has : ByteArray := prog_11_method_15_code
def yX9_has : MethodName := ⟨RX9, "has", "(II)Z"⟩
abbrev cX9_hang : ByteArray := prog_11_method_16_code
def yX9_hang : MethodName := ⟨RX9, "hang", "(III)V"⟩
abbrev cX9_balance : ByteArray := prog_11_method_17_code
def yX9_balance : MethodName := ⟨RX9, "balance", "(II)V"⟩
abbrev cX9_does : ByteArray := prog_11_method_18_code
def yX9_does : MethodName := ⟨RX9, "does", "(IIII)V"⟩
abbrev cX9_act : ByteArray := prog_11_method_19_code
def yX9_act : MethodName := ⟨RX9, "act", "(IIII)J"⟩
abbrev cX9_step : ByteArray := prog_11_method_20_code
def yX9_step : MethodName := ⟨RX9, "step", "(IIIIII)I"⟩
abbrev cX9_clear : ByteArray := prog_11_method_21_code
def yX9_clear : MethodName := ⟨RX9, "clear", "(I)I"⟩
abbrev cX9_goes : ByteArray := prog_11_method_22_code
def yX9_goes : MethodName := ⟨RX9, "goes", "(II)V"⟩
abbrev cX9_run : ByteArray := prog_11_method_23_code
def yX9_run : MethodName := ⟨RX9, "run", "(II)I"⟩
abbrev cX9_told : ByteArray := prog_11_method_24_code
def yX9_told : MethodName := ⟨RX9, "told", "(I)I"⟩
abbrev cX9_sum : ByteArray := prog_11_method_25_code
def yX9_sum : MethodName := ⟨RX9, "sum", "()J"⟩
abbrev cX9_tally : ByteArray := prog_11_method_26_code
def yX9_tally : MethodName := ⟨RX9, "tally", "(I)I"⟩
abbrev cX9_hangs : ByteArray := prog_11_method_27_code
def yX9_hangs : MethodName := ⟨RX9, "hangs", "(I)Z"⟩
abbrev cX9_stand : ByteArray := prog_11_method_28_code
def yX9_stand : MethodName := ⟨RX9, "stand", "(II)I"⟩
abbrev cX9_basket : ByteArray := prog_11_method_29_code
def yX9_basket : MethodName := ⟨RX9, "basket", "(II)I"⟩
abbrev cX9_rack : ByteArray := prog_11_method_30_code
def yX9_rack : MethodName := ⟨RX9, "rack", "(II)I"⟩
abbrev cX9_grid : ByteArray := prog_11_method_31_code
def yX9_grid : MethodName := ⟨RX9, "grid", "(III)I"⟩
def RJ7 : String := "java/util/Arrays"
abbrev cJ7_fill_53178 : ByteArray := prog_12_method_103_code
def yJ7_fill_53178 : MethodName := ⟨RJ7, "fill", "([II)V"⟩
def RL : String := "CycleShopLaw"
abbrev cL_law : ByteArray := code
def yL_law : MethodName := ⟨RL, "law", "([I)Z"⟩
end
section
/-! MY WORLDS: a world is a function from addresses to cells; a contract speaks of the whole world, so nothing is cut out at a call and nothing is joined behind it. -/
abbrev fW : Type := Nat → Option va_E
def fw_P (D : va_G) (cl : List vw_C) (A : Nat → Prop) (w : fW) (H : Heap) : Prop := ∀ (a : Nat) (e : va_E), w a = some e → va_at D cl (a, e) H ∧ A a
theorem fw_one {D : va_G} {cl : List vw_C} {A : Nat → Prop} {w : fW} {H : Heap} {a : Nat} {x : va_E} (h : fw_P D cl A w H) (e : w a = some x) : va_P D cl [(a, x)] H := by
  intro k q hk
  match k, hk with
  | 0, hk => cases hk; exact (h a x e).1
  | k + 1, hk => simp at hk
theorem fw_P.up {D : va_G} {cl : List vw_C} {A : Nat → Prop} {w : fW} {H H1 : Heap} {a : Nat} {x : va_E} (h : fw_P D cl A w H) (ha : A a) (he : va_at D cl (a, x) H1) (oq : ∀ q : Nat, q ≠ a → H1[q]? = H[q]?) : fw_P D cl A (va_up w a (some x)) H1 := by
  intro b y hb
  by_cases hba : b = a
  · subst hba
    rw [va_up_self] at hb
    cases hb
    exact ⟨he, ha⟩
  · rw [va_up_ne _ _ hba] at hb
    exact ⟨(h b y hb).1.kept (oq b hba), (h b y hb).2⟩
theorem fw_P.lt {D : va_G} {cl : List vw_C} {A : Nat → Prop} {w : fW} {H : Heap} {a : Nat} {x : va_E} (h : fw_P D cl A w H) (e : w a = some x) : a < H.size := (h a x e).1.lt
theorem fw_P.fresh {D : va_G} {cl : List vw_C} {A : Nat → Prop} {w : fW} {H : Heap} {a : Nat} (h : fw_P D cl A w H) (ha : H.size ≤ a) : w a = none := by
  cases hx : w a with
  | none => rfl
  | some x => exact absurd (h.lt hx) (by omega)
theorem fw_P.new {D : va_G} {cl : List vw_C} {A : Nat → Prop} {w : fW} {H H1 : Heap} {x : va_E} (h : fw_P D cl A w H) (ha : A H.size) (he : va_at D cl (H.size, x) H1) (oq : ∀ q : Nat, q < H.size → H1[q]? = H[q]?) : fw_P D cl A (va_up w H.size (some x)) H1 := by
  intro b y hb
  by_cases hba : b = H.size
  · subst hba
    rw [va_up_self] at hb
    cases hb
    exact ⟨he, ha⟩
  · rw [va_up_ne _ _ hba] at hb
    exact ⟨(h b y hb).1.kept (oq b (h.lt hb)), (h b y hb).2⟩
theorem fw_P.kept {D : va_G} {cl : List vw_C} {A : Nat → Prop} {w : fW} {H H1 : Heap} (h : fw_P D cl A w H) (oq : ∀ q : Nat, q < H.size → w q ≠ none → H1[q]? = H[q]?) : fw_P D cl A w H1 := by
  intro b y hb
  exact ⟨(h b y hb).1.kept (oq b (h.lt hb) (by rw [hb]; exact fun q => by cases q)), (h b y hb).2⟩
theorem fw_P.wide {D : va_G} {cl : List vw_C} {A A1 : Nat → Prop} {w : fW} {H : Heap} (h : fw_P D cl A w H) (hA : ∀ q, A q → A1 q) : fw_P D cl A1 w H := fun a e x => ⟨(h a e x).1, hA a (h a e x).2⟩
theorem fw_P.to {D : va_G} {cl : List vw_C} {A : Nat → Prop} {w w' : fW} {H : Heap} (h : fw_P D cl A w H) (hw : w = w') : fw_P D cl A w' H := hw ▸ h
/-- which cells a method may change -/
def gA (w : fW) (sz : Nat) : Nat → Prop := fun q => w q ≠ none ∨ sz ≤ q
def gN (NW : List Cond) (U : State) : Prop := ∀ x ∈ NW, va_Nw x U
def gnest : Cond → Bool
  | .fieldLinkNest .. => true
  | .methodLinkNest .. => true
  | .arrayOver (.object _) => true
  | _ => false
theorem gN.warm {NW : List Cond} {s U : State} (hN : NW.all gnest = true) (h : gN NW s) (hW : s.WarmedH U.vm) : gN NW U := by
  intro x hx
  have h1 := List.all_eq_true.mp hN x hx
  have h2 := h x hx
  cases x with
  | fieldLinkNest => exact va_Nw.warmF hW h2
  | methodLinkNest => exact va_Nw.warmM hW h2
  | arrayOver t => cases t <;> first | (simp [gnest] at h1; done) | exact va_AO.moved hW.alike h2
  | _ => simp [gnest] at h1
theorem gN.same {NW : List Cond} {s U : State} (hN : NW.all gnest = true) (h : gN NW s) (hv : s.vm = U.vm) : gN NW U := by
  intro x hx
  have h1 := List.all_eq_true.mp hN x hx
  have h2 := h x hx
  cases x with
  | fieldLinkNest => exact va_Nw.same rfl hv h2
  | methodLinkNest => exact va_Nw.same rfl hv h2
  | arrayOver t => cases t <;> first | (simp [gnest] at h1; done) | exact va_AO.moved (hv ▸ Vm.Alike.refl s.vm) h2
  | _ => simp [gnest] at h1
def gP (D : va_G) (cl : List vw_C) (ty : List (ClassId × FieldType)) (NW : List Cond) (w : fW) (sz : Nat) (av : List Value) : Array Value → State → Prop := fun v U => v = av.toArray ∧ U.heap.size = sz ∧ fw_P D cl (gA w sz) w U.heap ∧ va_K D cl ty U ∧ gN NW U
def gQ (D : va_G) (cl : List vw_C) (A : Nat → Prop) (post : Option Value → fW → Prop) : Array Value → State → Outcome → State → Prop := fun _ st oc t => ∃ (v : Option Value) (w' : fW), oc = .returned v ∧ post v w' ∧ fw_P D cl A w' t.heap ∧ va_F A st t
theorem gP.blind {D : va_G} {cl : List vw_C} {ty : List (ClassId × FieldType)} {NW : List Cond} {w : fW} {sz : Nat} {av : List Value} (hN : NW.all gnest = true) : FrameBlind (gP D cl ty NW w sz av) := by
  intro a U g mk h
  obtain ⟨h1, h2, h3, h4, h5⟩ := h
  exact ⟨h1, h2, h3, va_K.moved (u := U) (U := U.calling g mk a) (Vm.Alike.refl U.vm) h4, gN.same hN h5 rfl⟩
/-- a contract over my worlds -/
abbrev gM (l : Launch) (BS NW : List Cond) (D : va_G) (cl : List vw_C) (ty : List (ClassId × FieldType)) (y : MethodName) (cc : ByteArray) (maxL : Nat) (ret : Option FieldType) (fr lo : Nat) (mc ms : Nat) (w : fW) (sz : Nat) (av : List Value) (post : Option Value → fW → Prop) : Prop :=
  Met l y (Cond.code y cc maxL ret :: BS) { frames := fr, cells := mc, slots := ms, locals := lo } (gP D cl ty NW w sz av) (gQ D cl (gA w sz) post) mc ms (gA w sz)
/-- what holds all along a walk -/
def gX (p : Program) (s : State) (m : MethodId) (args : Array Value) (meth : Method) (c : Code) (cc : ByteArray) (nL : Nat) (ret : Option FieldType) (own : String) (BS NW : List Cond) (D : va_G) (cl : List vw_C) (ty : List (ClassId × FieldType)) (A : Nat → Prop) : Prop :=
  p.tables.exec = Jvm.exec ∧ c.code = cc ∧ c.maxLocals = nL ∧ s.vm.findClass own = some m.cls ∧ (∀ x ∈ BS, x.before args s = true) ∧ gN NW s ∧ va_K D cl ty s ∧ (∀ q, s.heap.size ≤ q → A q) ∧ meth.sig.returnType = ret ∧ meth.locks = false
def gC (cl : List vw_C) (BS : List Cond) : Prop := ∀ (ci : Nat) (C : String) (T : u_T) (N : Nat), cl[ci]? = some (C, T, N) → (∀ x ∈ u_ws C T N, x ∈ BS) ∧ (∃ ty : Nat → FieldType, ∀ k, k < N → parseFieldDescriptor (T k).2.2.1 = some (ty k)) ∧ (∀ a, a < N → ∀ b, b < N → a ≠ b → (T a).2.1 ≠ (T b).2.1)
section GX
variable {p : Program} {l : Launch} {e : Env} {R : Room} {s : State} {m : MethodId} {args : Array Value} {below : List Frame} {meth : Method} {c : Code} {H : Heap} {locs : List Loc} {cells slots : Nat} {Q : State → Prop}
variable {cc : ByteArray} {nL : Nat} {ret : Option FieldType} {own : String} {BS NW : List Cond} {D : va_G} {cl : List vw_C} {ty : List (ClassId × FieldType)} {A : Nat → Prop}
variable {pc : Nat} {ls : Array Slot} {rest : List Value} {w : fW} {a : Nat}
theorem fw_get (X : gX p s m args meth c cc nL ret own BS NW D cl ty A) (hC : gC cl BS) (hF : fw_P D cl A w H) {ci : Nat} {fs : List Value} (he : w a = some (.inr (ci, fs))) {C : String} {T : u_T} {N index : Nat} (hc : cl[ci]? = some (C, T, N)) (k : Nat) (hk : k < N) (hlink : Cond.fieldLink own index (T k).1 (T k).2.1 (T k).2.2.1 ∈ BS) {v : Value} (hv : fs[k]? = some v) (hdg : decode cc pc = .ok (.getfield index, 3))
    (kk : W p l e R s m args below meth c H locs cells slots Q (F0 m (pc + 3) ls (v :: rest))) : W p l e R s m args below meth c H locs cells slots Q (F0 m pc ls (.ref a :: rest)) := by
  obtain ⟨hx, hb, -, hown, hts, -, hK, -, -, -⟩ := X
  exact va_get hx hb hts (hC ci C T N hc).1 hown hK (fw_one hF he) 0 rfl hc k hk (hts _ hlink) (fun _ h => h) hv hdg kk
theorem fw_put (X : gX p s m args meth c cc nL ret own BS NW D cl ty A) (hC : gC cl BS) (hF : fw_P D cl A w H) (hS0 : va_S A s.heap H locs) {ci : Nat} {fs : List Value} (he : w a = some (.inr (ci, fs))) {C : String} {T : u_T} {N index : Nat} (hc : cl[ci]? = some (C, T, N)) (k : Nat) (hk : k < N) (hlink : Cond.fieldLink own index (T k).1 (T k).2.1 (T k).2.2.1 ∈ BS) (hfin : (T k).2.2.2 = false) {tf : FieldType} {v : Value} (hd : parseFieldDescriptor (T k).2.2.1 = some tf) (hn : narrow tf v = v) (hfit : fits tf v = true) (hl : k < fs.length) (hdg : decode cc pc = .ok (.putfield index, 3))
    (kk : ∀ (H1 : Heap) (locs1 : List Loc), fw_P D cl A (va_up w a (some (.inr (ci, fs.set k v)))) H1 → va_S A s.heap H1 locs1 → W p l e R s m args below meth c H1 locs1 cells slots Q (F0 m (pc + 3) ls rest)) : W p l e R s m args below meth c H locs cells slots Q (F0 m pc ls (v :: .ref a :: rest)) := by
  obtain ⟨hx, hb, -, hown, hts, -, hK, -, -, -⟩ := X
  obtain ⟨hin, ⟨ty0, hty⟩, hnm⟩ := hC ci C T N hc
  have hap := va_apart (own := own) hts hin ty0 hty hnm hK hc
  obtain ⟨⟨r, h1, cell, q1, q2, q3, q4⟩, hAa⟩ := hF a _ he
  have hr : r = (C, T, N) := Option.some.inj (h1.symm.trans hc)
  subst hr
  obtain ⟨hS, hfc, kC, hkC, hkind⟩ := hK.1 ci _ hc
  obtain ⟨cf, kf, fi, f, hi, hsl⟩ := hS k hk
  have hlay := hts _ (hin _ (u_in_lay hk))
  unfold u_lay at hlay
  rw [if_neg (by rw [hfin]; decide)] at hlay
  have hst := (u_facts hfc hkC (u_lays hts hin hk) hi).1
  have h6 := u_store hfc hkC hkind hlay hi hd hn hfit
  refine W.putK hx hb (f := f) ⟨hown, hts _ hlink, ⟨_, _, _, hi⟩, hst⟩ (by rw [q2]; exact h6) q1 q3 (by rw [hsl]; exact k2_hasslot (q4 k hk)) rfl rfl hdg fun H' e1 e2 e3 => ?_
  rw [hsl] at e1 ⊢
  exact kk H' _ (hF.up hAa ⟨_, hc, t_OB.to (V := updV (vp_V fs) k v) ⟨_, e1, q2, q3, t_set q4 hap hk v⟩ (fun j _ => vp_updV_set hl v j)⟩ e3) (hS0.put e2 e3 hAa)
theorem fw_putF (X : gX p s m args meth c cc nL ret own BS NW D cl ty A) (hC : gC cl BS) (hF : fw_P D cl A w H) (hS0 : va_S A s.heap H locs) {ci : Nat} {fs : List Value} (he : w a = some (.inr (ci, fs))) {C : String} {T : u_T} {N index : Nat} (hc : cl[ci]? = some (C, T, N)) (k : Nat) (hk : k < N) (hlink : Cond.fieldLink own index (T k).1 (T k).2.1 (T k).2.2.1 ∈ BS) (hfin : (T k).2.2.2 = true) (hin2 : meth.name = "<init>") (hdecl : (T k).1 = own) {tf : FieldType} {v : Value} (hd : parseFieldDescriptor (T k).2.2.1 = some tf) (hn : narrow tf v = v) (hfit : fits tf v = true) (hl : k < fs.length) (hdg : decode cc pc = .ok (.putfield index, 3))
    (kk : ∀ (H1 : Heap) (locs1 : List Loc), fw_P D cl A (va_up w a (some (.inr (ci, fs.set k v)))) H1 → va_S A s.heap H1 locs1 → W p l e R s m args below meth c H1 locs1 cells slots Q (F0 m (pc + 3) ls rest)) : W p l e R s m args below meth c H locs cells slots Q (F0 m pc ls (v :: .ref a :: rest)) := by
  obtain ⟨hx, hb, -, hown, hts, -, hK, -, -, -⟩ := X
  obtain ⟨hin, ⟨ty0, hty⟩, hnm⟩ := hC ci C T N hc
  have hap := va_apart (own := own) hts hin ty0 hty hnm hK hc
  obtain ⟨⟨r, h1, cell, q1, q2, q3, q4⟩, hAa⟩ := hF a _ he
  have hr : r = (C, T, N) := Option.some.inj (h1.symm.trans hc)
  subst hr
  obtain ⟨hS, hfc, kC, hkC, hkind⟩ := hK.1 ci _ hc
  obtain ⟨cf, kf, fi, f, hi, hsl⟩ := hS k hk
  have hlay := hts _ (hin _ (u_in_lay hk))
  unfold u_lay at hlay
  rw [if_pos hfin] at hlay
  have hst := (u_facts hfc hkC (u_lays hts hin hk) hi).1
  have hcf : m.cls = cf := by
    obtain ⟨_, _, c', _, _, _, -, -, hf', -, -, -, hown2, -⟩ := Cond.laysFinal_spec hlay
    have e1 : c' = cf := by have := hi.symm.trans hf'; simp at this; exact this.1.symm
    rw [hdecl] at hown2
    rw [← e1]; exact Option.some.inj (hown.symm.trans hown2)
  have h6 := u_fits hfc hkC hkind (Or.inr hlay) hi hd hn hfit
  refine W.putFinK hx hb hown (hts _ hlink) hi hst hcf hin2 (by rw [q2]; exact h6) q1 q3 (by rw [hsl]; exact k2_hasslot (q4 k hk)) rfl rfl hdg fun H' e1 e2 e3 => ?_
  rw [hsl] at e1 ⊢
  exact kk H' _ (hF.up hAa ⟨_, hc, t_OB.to (V := updV (vp_V fs) k v) ⟨_, e1, q2, q3, t_set q4 hap hk v⟩ (fun j _ => vp_updV_set hl v j)⟩ e3) (hS0.put e2 e3 hAa)
theorem fw_iald (X : gX p s m args meth c cc nL ret own BS NW D cl ty A) (hF : fw_P D cl A w H) {cA : ClassId} {n : Nat} {f : Nat → Int32} (he : w a = some (.inl (cA, n, .inl f))) (t0 : Nat) (ht : ty[t0]? = some (cA, .int)) {i : Int32} (hin : vp_in i n) {v : Int32} (hv : f i.toNatClampNeg = v) (hdg : decode cc pc = .ok (.iaload, 1))
    (kk : W p l e R s m args below meth c H locs cells slots Q (F0 m (pc + 1) ls (.int v :: rest))) : W p l e R s m args below meth c H locs cells slots Q (F0 m pc ls (.int i :: .ref a :: rest)) := by
  subst hv
  obtain ⟨hx, hb, -, hown, hts, -, hK, -, -, -⟩ := X
  exact va_iald hx hb hK (fw_one hF he) 0 t0 rfl ht hin hdg kk
theorem fw_zald (X : gX p s m args meth c cc nL ret own BS NW D cl ty A) (hF : fw_P D cl A w H) {cA : ClassId} {n : Nat} {f : Nat → Int32} (he : w a = some (.inl (cA, n, .inl f))) (t0 : Nat) (ht : ty[t0]? = some (cA, .boolean)) {i : Int32} (hin : vp_in i n) {v : Int32} (hv : f i.toNatClampNeg = v) (hdg : decode cc pc = .ok (.baload, 1))
    (kk : W p l e R s m args below meth c H locs cells slots Q (F0 m (pc + 1) ls (.int v :: rest))) : W p l e R s m args below meth c H locs cells slots Q (F0 m pc ls (.int i :: .ref a :: rest)) := by
  subst hv
  obtain ⟨hx, hb, -, hown, hts, -, hK, -, -, -⟩ := X
  exact va_zald hx hb hK (fw_one hF he) 0 t0 rfl ht hin hdg kk
theorem fw_aldq (X : gX p s m args meth c cc nL ret own BS NW D cl ty A) (hF : fw_P D cl A w H) {cA : ClassId} {C : String} {n : Nat} {f : Nat → Option Nat} (he : w a = some (.inl (cA, n, .inr (.inr (.inr (.inr f)))))) (t0 : Nat) (ht : ty[t0]? = some (cA, .object C)) {i : Int32} (hin : vp_in i n) {v : Option Nat} (hv : f i.toNatClampNeg = v) (hdg : decode cc pc = .ok (.aaload, 1))
    (kk : W p l e R s m args below meth c H locs cells slots Q (F0 m (pc + 1) ls (va_rf v :: rest))) : W p l e R s m args below meth c H locs cells slots Q (F0 m pc ls (.int i :: .ref a :: rest)) := by
  subst hv
  obtain ⟨hx, hb, -, hown, hts, -, hK, -, -, -⟩ := X
  exact va_aldq hx hb hK (fw_one hF he) 0 t0 rfl ht hin hdg kk
theorem fw_alen (X : gX p s m args meth c cc nL ret own BS NW D cl ty A) (hF : fw_P D cl A w H) {cA : ClassId} {x : vp_A} (he : w a = some (.inl (cA, x))) (t0 : Nat) {tf : FieldType} (ht : ty[t0]? = some (cA, tf)) {v : Int32} (hv : Int32.ofNat x.1 = v) (hdg : decode cc pc = .ok (.arraylength, 1))
    (kk : W p l e R s m args below meth c H locs cells slots Q (F0 m (pc + 1) ls (.int v :: rest))) : W p l e R s m args below meth c H locs cells slots Q (F0 m pc ls (.ref a :: rest)) := by
  obtain ⟨hx, hb, -, hown, hts, -, hK, -, -, -⟩ := X
  exact va_alen hx hb hK (fw_one hF he) 0 t0 rfl ht hv hdg kk
theorem fw_iast (X : gX p s m args meth c cc nL ret own BS NW D cl ty A) (hF : fw_P D cl A w H) (hS : va_S A s.heap H locs) {cA : ClassId} {n : Nat} {f : Nat → Int32} (he : w a = some (.inl (cA, n, .inl f))) (t0 : Nat) (ht : ty[t0]? = some (cA, .int)) {i x : Int32} (hin : vp_in i n) (hdg : decode cc pc = .ok (.iastore, 1))
    (kk : ∀ (H1 : Heap) (locs1 : List Loc), fw_P D cl A (va_up w a (some (.inl (cA, n, .inl (upd f i.toNatClampNeg x))))) H1 → va_S A s.heap H1 locs1 → W p l e R s m args below meth c H1 locs1 cells slots Q (F0 m (pc + 1) ls rest)) : W p l e R s m args below meth c H locs cells slots Q (F0 m pc ls (.int x :: .int i :: .ref a :: rest)) := by
  obtain ⟨hx, hb, -, hown, hts, -, hK, -, -, -⟩ := X
  obtain ⟨hc1, hAa⟩ := hF a _ he
  refine W.iast hx hb hc1 ((hK.2 t0 _ ht).1 n (fun j => .int (f j))) (fun q => by cases q) (by show ¬ (i < 0 ∨ (arrV _ _ _).slots.size ≤ _); rw [arrV_size]; exact hin) rfl rfl hdg fun H1 e z oq => ?_
  refine kk H1 _ (hF.up hAa ?_ oq) (hS.put z oq hAa)
  show H1[a]? = some (vp_cell _ _)
  rw [e]
  rw [vp_cell_i, vp_cell_i, arrV_store]
  congr 2
  funext q
  by_cases hq : q = i.toNatClampNeg
  · subst hq
    simp [updV, upd]
  · simp [updV, upd, hq]
theorem fw_zast (X : gX p s m args meth c cc nL ret own BS NW D cl ty A) (hF : fw_P D cl A w H) (hS : va_S A s.heap H locs) {cA : ClassId} {n : Nat} {f : Nat → Int32} (he : w a = some (.inl (cA, n, .inl f))) (t0 : Nat) (ht : ty[t0]? = some (cA, .boolean)) {i x : Int32} (hin : vp_in i n) {v : Int32} (hv : vp_nar .boolean x = v) (hdg : decode cc pc = .ok (.bastore, 1))
    (kk : ∀ (H1 : Heap) (locs1 : List Loc), fw_P D cl A (va_up w a (some (.inl (cA, n, .inl (upd f i.toNatClampNeg v))))) H1 → va_S A s.heap H1 locs1 → W p l e R s m args below meth c H1 locs1 cells slots Q (F0 m (pc + 1) ls rest)) : W p l e R s m args below meth c H locs cells slots Q (F0 m pc ls (.int x :: .int i :: .ref a :: rest)) := by
  subst hv
  obtain ⟨hx, hb, -, hown, hts, -, hK, -, -, -⟩ := X
  obtain ⟨hc1, hAa⟩ := hF a _ he
  refine W.zast hx hb hc1 ((hK.2 t0 _ ht).1 n (fun j => .int (f j))) (fun q => by cases q) (by show ¬ (i < 0 ∨ (arrV _ _ _).slots.size ≤ _); rw [arrV_size]; exact hin) rfl rfl hdg fun H1 e z oq => ?_
  refine kk H1 _ (hF.up hAa ?_ oq) (hS.put z oq hAa)
  show H1[a]? = some (vp_cell _ _)
  rw [e]
  rw [vp_cell_i, vp_cell_i, arrV_store]
  congr 2
  funext q
  by_cases hq : q = i.toNatClampNeg
  · subst hq
    simp [updV, upd, vp_nar]
    try rfl
  · simp [updV, upd, vp_nar, hq]
theorem fw_astqN (X : gX p s m args meth c cc nL ret own BS NW D cl ty A) (hF : fw_P D cl A w H) (hS : va_S A s.heap H locs) {cA : ClassId} {C : String} {n : Nat} {f : Nat → Option Nat} (he : w a = some (.inl (cA, n, .inr (.inr (.inr (.inr f)))))) (t0 : Nat) (ht : ty[t0]? = some (cA, .object C)) {i : Int32} (hin : vp_in i n) (hdg : decode cc pc = .ok (.aastore, 1))
    (kk : ∀ (H1 : Heap) (locs1 : List Loc), fw_P D cl A (va_up w a (some (.inl (cA, n, .inr (.inr (.inr (.inr (va_up f i.toNatClampNeg none)))))))) H1 → va_S A s.heap H1 locs1 → W p l e R s m args below meth c H1 locs1 cells slots Q (F0 m (pc + 1) ls rest)) : W p l e R s m args below meth c H locs cells slots Q (F0 m pc ls (.null :: .int i :: .ref a :: rest)) := by
  obtain ⟨hx, hb, -, hown, hts, -, hK, -, -, -⟩ := X
  obtain ⟨hc1, hAa⟩ := hF a _ he
  refine va_WaastN (C := C) hx hb hc1 ((hK.2 t0 _ ht).1 n (fun j => va_rf (f j))) (fun h => by cases h) (by show ¬ (i < 0 ∨ (arrV _ _ _).slots.size ≤ _); rw [arrV_size]; exact hin) rfl rfl hdg fun H1 e z oq => ?_
  refine kk H1 _ (hF.up hAa ?_ oq) (hS.put z oq hAa)
  show H1[a]? = some (vp_cell _ _)
  rw [e]
  rw [vp_cell_q, vp_cell_q, arrV_store]
  congr 2
  funext q
  by_cases hq : q = i.toNatClampNeg
  · subst hq
    simp [updV, va_up, va_rf]
  · simp [updV, va_up, hq]
theorem fw_astq (X : gX p s m args meth c cc nL ret own BS NW D cl ty A) (hF : fw_P D cl A w H) (hS : va_S A s.heap H locs) {cA : ClassId} {r : vw_C} {n v ci : Nat} {vs : List Value} {f : Nat → Option Nat} (he : w a = some (.inl (cA, n, .inr (.inr (.inr (.inr f)))))) (t0 : Nat) (ht : ty[t0]? = some (cA, .object r.1)) (hv : w v = some (.inr (ci, vs))) (hc : cl[ci]? = some r) {i : Int32} (hin : vp_in i n) (hdg : decode cc pc = .ok (.aastore, 1))
    (kk : ∀ (H1 : Heap) (locs1 : List Loc), fw_P D cl A (va_up w a (some (.inl (cA, n, .inr (.inr (.inr (.inr (va_up f i.toNatClampNeg (some v))))))))) H1 → va_S A s.heap H1 locs1 → W p l e R s m args below meth c H1 locs1 cells slots Q (F0 m (pc + 1) ls rest)) : W p l e R s m args below meth c H locs cells slots Q (F0 m pc ls (.ref v :: .int i :: .ref a :: rest)) := by
  obtain ⟨hx, hb, -, hown, hts, -, hK, -, -, -⟩ := X
  obtain ⟨hc1, hAa⟩ := hF a _ he
  have hlt : i.toNatClampNeg < n := Nat.not_le.mp fun q => hin (Or.inr q)
  have h0 : ¬ i < 0 := fun q => hin (Or.inl q)
  obtain ⟨⟨r', hr', cellV, g1, g2, g3, -⟩, -⟩ := hF v _ hv
  have hcls := (hK.1 ci r hc).2
  obtain ⟨kA, comp, k1, k2, k3, -⟩ := (hK.2 t0 _ ht).2
  have hcomp : comp = D.1 ci := Option.some.inj (k3.symm.trans hcls.1)
  subst hcomp
  obtain ⟨kC, hkC, -⟩ := hcls.2
  refine W.aast hx hb hc1 (fun q h => by cases h) (fun h => by cases h) k1 k2 rfl hkC ⟨h0, by show _ < (arrV _ _ _).slots.size; rw [arrV_size]; exact hlt⟩ g1 (fun q h => by rw [g3] at h; cases h) (by rw [g2]; exact hkC) (by rw [g2]; exact va_assign hcls) rfl rfl hdg fun H1 e z oq => ?_
  refine kk H1 _ (hF.up hAa ?_ oq) (hS.put z oq hAa)
  show H1[a]? = some (vp_cell _ _)
  rw [e]
  rw [vp_cell_q, vp_cell_q, arrV_store]
  congr 2
  funext q
  by_cases hq : q = i.toNatClampNeg
  · subst hq
    simp [updV, va_up, va_rf]
  · simp [updV, va_up, hq]
theorem fw_new (X : gX p s m args meth c cc nL ret own BS NW D cl ty A) (hC : gC cl BS) (hF : fw_P D cl A w H) (hS : va_S A s.heap H locs) {ci : Nat} {C : String} {T : u_T} {N index : Nat} (hc : cl[ci]? = some (C, T, N)) (tf : Nat → FieldType) (htf : ∀ k, k < N → parseFieldDescriptor (T k).2.2.1 = some (tf k)) {fs : List Value} (hfs : ∀ j, j < N → defaultValue (tf j) = vp_V fs j) (hcl : Cond.classLink own index C ∈ BS) (hinst : Cond.instantiable C N ∈ BS) (hini : Cond.initialized C ∈ BS) (hcells : cells + 1 ≤ R.cells) (hslots : slots + N ≤ R.slots) (hdg : decode cc pc = .ok (.new index, 3))
    (kk : ∀ (q : Nat) (H1 : Heap), w q = none → q = H.size → H1.size = H.size + 1 → fw_P D cl A (va_up w q (some (.inr (ci, fs)))) H1 → va_S A s.heap H1 locs → W p l e R s m args below meth c H1 locs (cells + 1) (slots + N) Q (F0 m (pc + 3) ls (.ref q :: rest))) : W p l e R s m args below meth c H locs cells slots Q (F0 m pc ls rest) := by
  obtain ⟨hx, hb, -, hown, hts, -, hK, hA, -, -⟩ := X
  have hKn := hK.1 ci _ hc
  refine W.newcK hx hb hown (hts _ hcl) (hts _ hinst) (hts _ hini) rfl hdg hcells hslots hKn.2.1 rfl fun H1 kC hkC e1 z1 o1 => ?_
  refine kk H.size H1 (hF.fresh (Nat.le_refl _)) rfl z1 (hF.new (hA _ hS.1) ⟨_, hc, (u_born tf hts (hC ci C T N hc).1 hKn hkC e1 htf).to hfs⟩ o1) ⟨Nat.le_trans hS.1 (by omega), fun x h1 h2 => (o1 x (Nat.lt_of_lt_of_le h1 hS.1)).trans (hS.2.1 x h1 h2), hS.2.2⟩
theorem fw_newa (X : gX p s m args meth c cc nL ret own BS NW D cl ty A) (hF : fw_P D cl A w H) (hS : va_S A s.heap H locs) {atype : ArrayType} (harr : Cond.arrayClass (newarray.typeOf atype) ∈ BS) {tf : FieldType} (hty : newarray.typeOf atype = tf) (hpr : ∀ C, tf ≠ .object C) (t0 : Nat) {cA : ClassId} (ht : ty[t0]? = some (cA, tf)) {n : Int32} {N' : Nat} {a0 : vp_A} (ha : vp_cell cA a0 = arrV cA N' (fun _ => defaultValue tf)) (hn : ¬ n < 0) (hN : n.toNatClampNeg = N') (hbytes : N' * componentBytes tf ≤ 536870912) (hcells : cells + 1 ≤ R.cells) (hslots : slots + N' ≤ R.slots) (hdg : decode cc pc = .ok (.newarray atype, 2))
    (kk : ∀ (q : Nat) (H1 : Heap), w q = none → q = H.size → H1.size = H.size + 1 → fw_P D cl A (va_up w q (some (.inl (cA, a0)))) H1 → va_S A s.heap H1 locs → W p l e R s m args below meth c H1 locs (cells + 1) (slots + N') Q (F0 m (pc + 2) ls (.ref q :: rest))) : W p l e R s m args below meth c H locs cells slots Q (F0 m pc ls (.int n :: rest)) := by
  obtain ⟨hx, hb, -, hown, hts, -, hK, hA, -, -⟩ := X
  subst hty
  refine va_newaK hx hb (hts _ harr) rfl hdg rfl hn hN hbytes hcells hslots rfl fun H1 cA1 e1 z1 o1 hAr hNm => ?_
  have hRA := (hK.2 t0 _ ht).2
  have hcA : cA1 = cA := by
    have h2 : s.vm.findClass ("[" ++ (newarray.typeOf atype).toString) = some cA := by
      cases atype <;> exact hRA
    exact Option.some.inj (hNm.symm.trans h2)
  subst hcA
  refine kk H.size H1 (hF.fresh (Nat.le_refl _)) rfl z1 (hF.new (hA _ hS.1) ?_ o1) ⟨Nat.le_trans hS.1 (by omega), fun x h1 h2 => (o1 x (Nat.lt_of_lt_of_le h1 hS.1)).trans (hS.2.1 x h1 h2), hS.2.2⟩
  show H1[H.size]? = some (vp_cell _ _)
  rw [ha]
  exact e1
theorem fw_newq (X : gX p s m args meth c cc nL ret own BS NW D cl ty A) (hF : fw_P D cl A w H) (hS : va_S A s.heap H locs) {C : String} {index : Nat} (hclink : Cond.classLink own index C ∈ BS) (hover : Cond.arrayOver (.object C) ∈ NW) (t0 : Nat) {cA : ClassId} (ht : ty[t0]? = some (cA, .object C)) {n : Int32} {N' : Nat} (hn : ¬ n < 0) (hN : n.toNatClampNeg = N') (hbytes : N' * 4 ≤ 536870912) (hcells : cells + 1 ≤ R.cells) (hslots : slots + N' ≤ R.slots) (hdg : decode cc pc = .ok (.anewarray index, 3))
    (kk : ∀ (q : Nat) (H1 : Heap), w q = none → q = H.size → H1.size = H.size + 1 → fw_P D cl A (va_up w q (some (.inl (cA, N', .inr (.inr (.inr (.inr (fun _ => none)))))))) H1 → va_S A s.heap H1 locs → W p l e R s m args below meth c H1 locs (cells + 1) (slots + N') Q (F0 m (pc + 3) ls (.ref q :: rest))) : W p l e R s m args below meth c H locs cells slots Q (F0 m pc ls (.int n :: rest)) := by
  obtain ⟨hx, hb, -, hown, hts, hNN, hK, hA, -, -⟩ := X
  subst hN
  refine W.anew hx hb hown (hts _ hclink) (va_AO.use (hNN _ hover)) rfl hdg rfl hn hbytes hcells hslots fun cA1 kA comp f1 f2 f3 f4 => ?_
  obtain ⟨kA2, comp2, r1, r2, r3, r4⟩ := (hK.2 t0 _ ht).2
  have hcA : cA1 = cA := Option.some.inj (f1.symm.trans r4)
  subst hcA
  generalize hH1 : H.push ({ cls := cA1, slots := Array.replicate n.toNatClampNeg .null, vm := .none } : Cell) = H1
  have z1 : H1.size = H.size + 1 := by rw [← hH1, Array.size_push]
  have e1 : H1[H.size]? = some (arrV cA1 n.toNatClampNeg (fun _ => .null)) := by rw [← hH1, Array.getElem?_push_size, ← arrV_new]
  have o1 : ∀ q : Nat, q < H.size → H1[q]? = H[q]? := fun q hq => by rw [← hH1, Array.getElem?_push, if_neg (Nat.ne_of_lt hq)]
  refine kk H.size H1 (hF.fresh (Nat.le_refl _)) rfl z1 (hF.new (hA _ hS.1) ?_ o1) ⟨Nat.le_trans hS.1 (by omega), fun x h1 h2 => (o1 x (Nat.lt_of_lt_of_le h1 hS.1)).trans (hS.2.1 x h1 h2), hS.2.2⟩
  show H1[H.size]? = some (vp_cell _ _)
  rw [vp_cell_q]
  exact e1
theorem fw_iret {l : Launch} (X : gX p s m args meth c cc nL (some .int) own BS NW D cl ty A) (hF : fw_P D cl A w H) (hS : va_S A s.heap H locs) {post : Option Value → fW → Prop} {v : Int32} {mc ms : Nat} (hp : post (some (.int v)) w) (h1 : cells ≤ mc) (h2 : slots ≤ ms) (hdg : decode cc pc = .ok (.ireturn, 1)) : W p l e R s m args below meth c H locs cells slots (MQ below (gQ D cl A post) args s mc ms A) (F0 m pc ls [.int v]) := by
  obtain ⟨hx, hb, -, hown, hts, -, hK, hA, hr, hlocks⟩ := X
  refine W.widen h1 h2 ?_
  exact W.iret hx hb hr (fun t ht hW => ⟨_, w, rfl, hp, by rw [ht]; exact hF, hS.F ht⟩) hS.2.2 hdg
theorem fw_zret {l : Launch} (X : gX p s m args meth c cc nL (some .boolean) own BS NW D cl ty A) (hF : fw_P D cl A w H) (hS : va_S A s.heap H locs) {post : Option Value → fW → Prop} {v : Int32} {mc ms : Nat} (hn : narrow .boolean (.int v) = .int v) (hp : post (some (.int v)) w) (h1 : cells ≤ mc) (h2 : slots ≤ ms) (hdg : decode cc pc = .ok (.ireturn, 1)) : W p l e R s m args below meth c H locs cells slots (MQ below (gQ D cl A post) args s mc ms A) (F0 m pc ls [.int v]) := by
  obtain ⟨hx, hb, -, hown, hts, -, hK, hA, hr, hlocks⟩ := X
  refine W.widen h1 h2 ?_
  exact W.zret hx hb hr hn (fun t ht hW => ⟨_, w, rfl, hp, by rw [ht]; exact hF, hS.F ht⟩) hS.2.2 hdg
theorem fw_lret {l : Launch} (X : gX p s m args meth c cc nL (some .long) own BS NW D cl ty A) (hF : fw_P D cl A w H) (hS : va_S A s.heap H locs) {post : Option Value → fW → Prop} {v : Int64} {mc ms : Nat} (hp : post (some (.long v)) w) (h1 : cells ≤ mc) (h2 : slots ≤ ms) (hdg : decode cc pc = .ok (.lreturn, 1)) : W p l e R s m args below meth c H locs cells slots (MQ below (gQ D cl A post) args s mc ms A) (F0 m pc ls [.long v]) := by
  obtain ⟨hx, hb, -, hown, hts, -, hK, hA, hr, hlocks⟩ := X
  refine W.widen h1 h2 ?_
  exact W.lret hx hb hr (fun t ht hW => ⟨_, w, rfl, hp, by rw [ht]; exact hF, hS.F ht⟩) hS.2.2 hdg
theorem fw_vret {l : Launch} (X : gX p s m args meth c cc nL none own BS NW D cl ty A) (hF : fw_P D cl A w H) (hS : va_S A s.heap H locs) {post : Option Value → fW → Prop} {mc ms : Nat} (hp : post none w) (h1 : cells ≤ mc) (h2 : slots ≤ ms) (hdg : decode cc pc = .ok (.return_, 1)) : W p l e R s m args below meth c H locs cells slots (MQ below (gQ D cl A post) args s mc ms A) (F0 m pc ls []) := by
  obtain ⟨hx, hb, -, hown, hts, -, hK, hA, hr, hlocks⟩ := X
  refine W.widen h1 h2 ?_
  exact W.vret hx hb hr (fun t ht hW => ⟨_, w, rfl, hp, by rw [ht]; exact hF, hS.F ht⟩) hS.2.2 hdg
theorem fw_aret {l : Launch} {C : String} (X : gX p s m args meth c cc nL (some (.object C)) own BS NW D cl ty A) (hF : fw_P D cl A w H) (hS : va_S A s.heap H locs) {post : Option Value → fW → Prop} {o : Option Nat} {mc ms : Nat} (hp : post (some (va_rf o)) w) (h1 : cells ≤ mc) (h2 : slots ≤ ms) (hdg : decode cc pc = .ok (.areturn, 1)) : W p l e R s m args below meth c H locs cells slots (MQ below (gQ D cl A post) args s mc ms A) (F0 m pc ls [va_rf o]) := by
  obtain ⟨hx, hb, -, hown, hts, -, hK, hA, hr, hlocks⟩ := X
  refine W.widen h1 h2 ?_
  exact W.aret hx hb hr (Or.inl ⟨C, rfl⟩) (va_rf_or o) (fun t ht hW => ⟨_, w, rfl, hp, by rw [ht]; exact hF, hS.F ht⟩) hS.2.2 hdg
/-- behind a call -/
theorem fw_ran {mc ms sz : Nat} {st0 : List Value} {a9 : Array Value} {post : Option Value → fW → Prop} (hA : ∀ q, s.heap.size ≤ q → A q) (hr : va_Run p l e R s m args below meth c H locs cells slots mc ms (F0 m pc ls st0) rest (gQ D cl (gA w sz) post a9) (gA w sz)) (hsz : H.size = sz) (hF : fw_P D cl A w H) (hS : va_S A s.heap H locs)
    (kk : ∀ (v : Option Value) (w' : fW) (H1 : Heap) (locs1 : List Loc), post v w' → fw_P D cl A w' H1 → va_S A s.heap H1 locs1 → H.size ≤ H1.size → (∀ q : Nat, q < H.size → w q = none → H1[q]? = H[q]?) → (∀ q : Nat, w' q ≠ none → w q ≠ none ∨ H.size ≤ q) → W p l e R s m args below meth c H1 locs1 (cells + mc) (slots + ms) Q (F0 m (pc + 3) ls (v.toList ++ rest))) : W p l e R s m args below meth c H locs cells slots Q (F0 m pc ls st0) := by
  subst hsz
  intro T hT X0
  obtain ⟨v, st₀, t, T', L, h0, X', hL, e1, e2, ⟨v', w', hv, hp, hF1, hz, hk⟩, st⟩ := hr T hT X0
  cases hv
  rw [h0] at hz hk
  have hgA : ∀ q, gA w H.size q → A q := by
    intro q hq
    rcases hq with hq | hq
    · cases hx : w q with
      | none => exact absurd hx hq
      | some x => exact (hF q x hx).2
    · exact hA q (Nat.le_trans hS.1 hq)
  have hn : ∀ q : Nat, q < H.size → w q = none → ¬ gA w H.size q := fun q h1 h2 h3 => by
    rcases h3 with h3 | h3
    · exact h3 h2
    · omega
  obtain ⟨t2, a1, b1⟩ := kk v w' t.heap (locs ++ L) hp (hF1.wide hgA)
    ⟨Nat.le_trans hS.1 hz, fun q h1 h2 => by rw [hk q (Nat.lt_of_lt_of_le h1 hS.1) (fun z => h2 (hgA q z))]; exact hS.2.1 q h1 h2, fun q hq => by
      rcases List.mem_append.mp hq with h | h
      · exact hS.2.2 q h
      · exact hgA _ (hL q h)⟩ hz (fun q h1 h2 => hk q h1 (hn q h1 h2)) (fun q h1 => by
      cases hx : w' q with
      | none => exact absurd hx h1
      | some x => exact (hF1 q x hx).2) T' e1 X'
  exact ⟨t2, st t2 a1, b1⟩
theorem gP.pre {sz : Nat} {av : List Value} (hK : va_K D cl ty s) (hN : gN NW s) (hNW : NW.all gnest = true) (hF : fw_P D cl A w H) (hsz : H.size = sz) : ∀ U : State, U.heap = H → s.WarmedH U.vm → gP D cl ty NW w sz av av.toArray U := by
  intro U hU hW
  refine ⟨rfl, by rw [hU]; exact hsz, ?_, va_K.moved hW.alike hK, gN.warm hNW hN hW⟩
  rw [hU]
  intro a e x
  exact ⟨(hF a e x).1, Or.inl (by rw [x]; exact fun q => by cases q)⟩
end GX
section GY
variable {p : Program} {l : Launch} {e : Env} {R : Room} {s : State} {m : MethodId} {args : Array Value} {below : List Frame} {meth : Method} {c : Code} {H : Heap} {locs : List Loc} {cells slots : Nat} {Q : State → Prop}
variable {cc : ByteArray} {nL : Nat} {ret : Option FieldType} {own : String} {BS NW : List Cond} {D : va_G} {cl : List vw_C} {ty : List (ClassId × FieldType)} {A : Nat → Prop}
variable {pc : Nat} {ls : Array Slot} {rest st0 : List Value} {w : fW} {a : Nat}
variable {y : MethodName} {bytes : ByteArray} {maxL fr lo mc ms sz n index : Nat} {rt : Option FieldType} {As : List Value} {post : Option Value → fW → Prop}
/-- what a call asks of a method -/
def gF (BS : List Cond) (y : MethodName) (bytes : ByteArray) (maxL : Nat) (rt : Option FieldType) (n : Nat) : Prop := Cond.code y bytes maxL rt ∈ BS ∧ Cond.initialized y.cls ∈ BS ∧ (y.cls ≠ "java/lang/invoke/MethodHandle" ∧ y.cls ≠ "java/lang/invoke/VarHandle") ∧ (parseMethodDescriptor y.desc).map (fun d => d.parameters.length) = some n
theorem gF.good (hB : BS.all goodWord = true) (f : gF BS y bytes maxL rt n) : GoodIn BS (Cond.code y bytes maxL rt :: BS) := by
  intro x hx
  rcases List.mem_cons.mp hx with rfl | h
  · exact ⟨f.1, good_of_word (List.all_eq_true.mp hB _ f.1)⟩
  · exact ⟨h, good_of_word (List.all_eq_true.mp hB _ h)⟩
theorem gF.callB (X : gX p s m args meth c cc nL ret own BS NW D cl ty A) (hB : BS.all goodWord = true) (f : gF BS y bytes maxL rt n) (hl : Cond.methodLink own index y ∈ BS) (hR : fr + 1 ≤ R.frames ∧ 8 + (maxL + 11) + lo ≤ R.locals) : CallB R s args own index y bytes maxL rt (Cond.code y bytes maxL rt :: BS) { frames := fr, cells := mc, slots := ms, locals := lo } mc ms n := by
  obtain ⟨-, -, -, -, hts, -⟩ := X
  exact callB_of n hts (f.good hB) rfl rfl rfl (hts _ f.2.1) (hts _ hl) ⟨f.2.2.1.1, f.2.2.1.2, f.2.2.2⟩ hR
theorem gF.callN (X : gX p s m args meth c cc nL ret own BS NW D cl ty A) (hB : BS.all goodWord = true) (f : gF BS y bytes maxL rt n) {host : String} (hl : Cond.methodLinkNest own index y host ∈ NW) (hR : fr + 1 ≤ R.frames ∧ 8 + (maxL + 11) + lo ≤ R.locals) : va_CN R s args own index y host bytes maxL rt (Cond.code y bytes maxL rt :: BS) { frames := fr, cells := mc, slots := ms, locals := lo } mc ms n := by
  obtain ⟨-, -, -, -, hts, hN, -⟩ := X
  exact va_cnB n hts (f.good hB) rfl rfl rfl (hN _ hl) (hts _ f.2.1) ⟨f.2.2.1.1, f.2.2.1.2, f.2.2.2⟩ hR
theorem fw_callV (X : gX p s m args meth c cc nL ret own BS NW D cl ty A) (hB : BS.all goodWord = true) (hNW : NW.all gnest = true) (f : gF BS y bytes maxL rt n) (hM : gM l BS NW D cl ty y bytes maxL rt fr lo mc ms w sz (.ref a :: As) post) (hl : Cond.methodLink own index y ∈ BS) (hin : Cond.instanceMethod y ∈ BS) (hse : Cond.selects y.cls y y ∈ BS) (hF : fw_P D cl A w H) (hS : va_S A s.heap H locs) (hsz : H.size = sz) {ci : Nat} {fs : List Value} (he : w a = some (.inr (ci, fs))) {r : vw_C} (hc : cl[ci]? = some r) (hr : r.1 = y.cls) (hR : (fr + 1 ≤ R.frames ∧ 8 + (maxL + 11) + lo ≤ R.locals) ∧ cells + mc ≤ R.cells ∧ slots + ms ≤ R.slots) (hn : As.length = n) (hls : ls.size = nL) (hst : st0 = As.reverse ++ .ref a :: rest) (hW : (rest.map fun v => v.category).sum ≤ 8) (hdg : decode cc pc = .ok (.invokevirtual index, 3))
    (kk : ∀ (v : Option Value) (w' : fW) (H1 : Heap) (locs1 : List Loc), post v w' → fw_P D cl A w' H1 → va_S A s.heap H1 locs1 → H.size ≤ H1.size → (∀ q : Nat, q < H.size → w q = none → H1[q]? = H[q]?) → (∀ q : Nat, w' q ≠ none → w q ≠ none ∨ H.size ≤ q) → W p l e R s m args below meth c H1 locs1 (cells + mc) (slots + ms) Q (F0 m (pc + 3) ls (v.toList ++ rest))) : W p l e R s m args below meth c H locs cells slots Q (F0 m pc ls st0) := by
  have hb := f.callB (mc := mc) (ms := ms) (R := R) (lo := lo) (fr := fr) X hB hl hR.1
  obtain ⟨hx, hb', hml, hown, hts, hN, hK, hA, hret, hlocks⟩ := X
  refine fw_ran hA (va_runV (C := y.cls) (As := As) (rest := rest) ⟨hx, hb', hml, hown, hts⟩ hM ⟨hb, hts _ hin, hts _ hse⟩ ⟨gP.blind hNW, ?_, gP.pre hK hN hNW hF hsz⟩ rfl hn hls hst (lv_room hW) hdg hR.2) hsz hF hS kk
  obtain ⟨cell, g1, g2, g3⟩ := va_recv (q := r) hK (fw_one hF he) hc (q0 := 0) rfl
  exact ⟨cell, g1, g2, by rw [← hr]; exact g3⟩
theorem fw_callS (X : gX p s m args meth c cc nL ret own BS NW D cl ty A) (hB : BS.all goodWord = true) (hNW : NW.all gnest = true) (f : gF BS y bytes maxL rt n) (hM : gM l BS NW D cl ty y bytes maxL rt fr lo mc ms w sz As post) (hl : Cond.methodLink own index y ∈ BS) (hstt : Cond.static y ∈ BS) (hF : fw_P D cl A w H) (hS : va_S A s.heap H locs) (hsz : H.size = sz) (hR : (fr + 1 ≤ R.frames ∧ 8 + (maxL + 11) + lo ≤ R.locals) ∧ cells + mc ≤ R.cells ∧ slots + ms ≤ R.slots) (hn : As.length = n) (hls : ls.size = nL) (hst : st0 = As.reverse ++ rest) (hW : (rest.map fun v => v.category).sum ≤ 8) (hdg : decode cc pc = .ok (.invokestatic index, 3))
    (kk : ∀ (v : Option Value) (w' : fW) (H1 : Heap) (locs1 : List Loc), post v w' → fw_P D cl A w' H1 → va_S A s.heap H1 locs1 → H.size ≤ H1.size → (∀ q : Nat, q < H.size → w q = none → H1[q]? = H[q]?) → (∀ q : Nat, w' q ≠ none → w q ≠ none ∨ H.size ≤ q) → W p l e R s m args below meth c H1 locs1 (cells + mc) (slots + ms) Q (F0 m (pc + 3) ls (v.toList ++ rest))) : W p l e R s m args below meth c H locs cells slots Q (F0 m pc ls st0) := by
  have hb := f.callB (mc := mc) (ms := ms) (R := R) (lo := lo) (fr := fr) X hB hl hR.1
  obtain ⟨hx, hb', hml, hown, hts, hN, hK, hA, hret, hlocks⟩ := X
  exact fw_ran hA (va_runS (As := As) (rest := rest) ⟨hx, hb', hml, hown, hts⟩ hM ⟨hb, hts _ hstt⟩ ⟨gP.blind hNW, gP.pre hK hN hNW hF hsz⟩ rfl hn hls hst (lv_room hW) hdg hR.2) hsz hF hS kk
theorem fw_callSN (X : gX p s m args meth c cc nL ret own BS NW D cl ty A) (hB : BS.all goodWord = true) (hNW : NW.all gnest = true) (f : gF BS y bytes maxL rt n) (hM : gM l BS NW D cl ty y bytes maxL rt fr lo mc ms w sz As post) {host : String} (hl : Cond.methodLinkNest own index y host ∈ NW) (hstt : Cond.static y ∈ BS) (hF : fw_P D cl A w H) (hS : va_S A s.heap H locs) (hsz : H.size = sz) (hR : (fr + 1 ≤ R.frames ∧ 8 + (maxL + 11) + lo ≤ R.locals) ∧ cells + mc ≤ R.cells ∧ slots + ms ≤ R.slots) (hn : As.length = n) (hls : ls.size = nL) (hst : st0 = As.reverse ++ rest) (hW : (rest.map fun v => v.category).sum ≤ 8) (hdg : decode cc pc = .ok (.invokestatic index, 3))
    (kk : ∀ (v : Option Value) (w' : fW) (H1 : Heap) (locs1 : List Loc), post v w' → fw_P D cl A w' H1 → va_S A s.heap H1 locs1 → H.size ≤ H1.size → (∀ q : Nat, q < H.size → w q = none → H1[q]? = H[q]?) → (∀ q : Nat, w' q ≠ none → w q ≠ none ∨ H.size ≤ q) → W p l e R s m args below meth c H1 locs1 (cells + mc) (slots + ms) Q (F0 m (pc + 3) ls (v.toList ++ rest))) : W p l e R s m args below meth c H locs cells slots Q (F0 m pc ls st0) := by
  have hb := f.callN (mc := mc) (ms := ms) (R := R) (lo := lo) (fr := fr) X hB hl hR.1
  obtain ⟨hx, hb', hml, hown, hts, hN, hK, hA, hret, hlocks⟩ := X
  exact fw_ran hA (va_runSN (As := As) (rest := rest) ⟨hx, hb', hml, hown, hts⟩ hM ⟨hb, hts _ hstt, trivial⟩ ⟨gP.blind hNW, gP.pre hK hN hNW hF hsz⟩ rfl hn hls hst (lv_room hW) hdg hR.2) hsz hF hS kk
theorem fw_callI (X : gX p s m args meth c cc nL ret own BS NW D cl ty A) (hB : BS.all goodWord = true) (hNW : NW.all gnest = true) (f : gF BS y bytes maxL none n) (hM : gM l BS NW D cl ty y bytes maxL none fr lo mc ms w sz (.ref a :: As) post) (hl : Cond.methodLink own index y ∈ BS) (hin : Cond.instanceMethod y ∈ BS) (hnm : y.name = "<init>") (hF : fw_P D cl A w H) (hS : va_S A s.heap H locs) (hsz : H.size = sz) (hR : (fr + 1 ≤ R.frames ∧ 8 + (maxL + 11) + lo ≤ R.locals) ∧ cells + mc ≤ R.cells ∧ slots + ms ≤ R.slots) (hn : As.length = n) (hls : ls.size = nL) (hst : st0 = As.reverse ++ .ref a :: rest) (hW : (rest.map fun v => v.category).sum ≤ 8) (hdg : decode cc pc = .ok (.invokespecial index, 3))
    (kk : ∀ (v : Option Value) (w' : fW) (H1 : Heap) (locs1 : List Loc), post v w' → fw_P D cl A w' H1 → va_S A s.heap H1 locs1 → H.size ≤ H1.size → (∀ q : Nat, q < H.size → w q = none → H1[q]? = H[q]?) → (∀ q : Nat, w' q ≠ none → w q ≠ none ∨ H.size ≤ q) → W p l e R s m args below meth c H1 locs1 (cells + mc) (slots + ms) Q (F0 m (pc + 3) ls (v.toList ++ rest))) : W p l e R s m args below meth c H locs cells slots Q (F0 m pc ls st0) := by
  have hb := f.callB (mc := mc) (ms := ms) (R := R) (lo := lo) (fr := fr) X hB hl hR.1
  obtain ⟨hx, hb', hml, hown, hts, hN, hK, hA, hret, hlocks⟩ := X
  exact fw_ran hA (va_runI (As := As) (rest := rest) ⟨hx, hb', hml, hown, hts⟩ hM ⟨hb, hnm, hts _ hin⟩ ⟨gP.blind hNW, gP.pre hK hN hNW hF hsz⟩ rfl hn hls hst (lv_room hW) hdg hR.2) hsz hF hS kk
theorem fw_callIN (X : gX p s m args meth c cc nL ret own BS NW D cl ty A) (hB : BS.all goodWord = true) (hNW : NW.all gnest = true) (f : gF BS y bytes maxL none n) (hM : gM l BS NW D cl ty y bytes maxL none fr lo mc ms w sz (.ref a :: As) post) {host : String} (hl : Cond.methodLinkNest own index y host ∈ NW) (hin : Cond.instanceMethod y ∈ BS) (hnm : y.name = "<init>") (hF : fw_P D cl A w H) (hS : va_S A s.heap H locs) (hsz : H.size = sz) (hR : (fr + 1 ≤ R.frames ∧ 8 + (maxL + 11) + lo ≤ R.locals) ∧ cells + mc ≤ R.cells ∧ slots + ms ≤ R.slots) (hn : As.length = n) (hls : ls.size = nL) (hst : st0 = As.reverse ++ .ref a :: rest) (hW : (rest.map fun v => v.category).sum ≤ 8) (hdg : decode cc pc = .ok (.invokespecial index, 3))
    (kk : ∀ (v : Option Value) (w' : fW) (H1 : Heap) (locs1 : List Loc), post v w' → fw_P D cl A w' H1 → va_S A s.heap H1 locs1 → H.size ≤ H1.size → (∀ q : Nat, q < H.size → w q = none → H1[q]? = H[q]?) → (∀ q : Nat, w' q ≠ none → w q ≠ none ∨ H.size ≤ q) → W p l e R s m args below meth c H1 locs1 (cells + mc) (slots + ms) Q (F0 m (pc + 3) ls (v.toList ++ rest))) : W p l e R s m args below meth c H locs cells slots Q (F0 m pc ls st0) := by
  have hb := f.callN (mc := mc) (ms := ms) (R := R) (lo := lo) (fr := fr) X hB hl hR.1
  obtain ⟨hx, hb', hml, hown, hts, hN, hK, hA, hret, hlocks⟩ := X
  exact fw_ran hA (va_runIN (As := As) (rest := rest) ⟨hx, hb', hml, hown, hts⟩ hM ⟨hb, hnm, hts _ hin⟩ ⟨gP.blind hNW, gP.pre hK hN hNW hF hsz⟩ rfl hn hls hst (lv_room hW) hdg hR.2) hsz hF hS kk
theorem gM.of {av : List Value} (hy : plainName y.cls = true) (hlen : (lg_sl av).length ≤ maxL)
    (body : ∀ (p : Program) (e : Env) (s : State) (m : MethodId) (below : List Frame) (meth : Method) (c : Code) (A : Nat → Prop) (ls : Array Slot), gX p s m av.toArray meth c bytes maxL rt y.cls BS NW D cl ty A → s.heap.size = sz → meth.name = y.name → fw_P D cl A w s.heap → va_S A s.heap s.heap [] → lv_has ls maxL (lv_args 0 av) →
      W p l e { frames := fr, cells := mc, slots := ms, locals := lo } s m av.toArray below meth c s.heap [] 0 0 (MQ below (gQ D cl A post) av.toArray s mc ms A) (F0 m 0 ls [])) : gM l BS NW D cl ty y bytes maxL rt fr lo mc ms w sz av post := by
  refine Met.ofW (cc := bytes) (maxL := maxL) (ret := rt) hy rfl ?_
  intro p e s m args below meth c s₁ B hml hv
  obtain ⟨rfl, hsz, hF, hK, hN⟩ := hv
  have hts := atoms_spec (ws := Cond.code y bytes maxL rt :: BS) B.pre
  have hown : s.vm.findClass y.cls = some m.cls := findClass_of_methodNamed B.named
  have hin := (name_of_methodNamed B.named B.method).1
  subst hsz
  generalize hAe : gA w s.heap.size = A at hF ⊢
  have hA : ∀ q, s.heap.size ≤ q → A q := fun q h => by rw [← hAe]; exact Or.inr h
  rw [lg_entry_eq]
  exact body p e s m below meth c A _ ⟨B.exec, B.bytes, hml, hown, fun x hx => hts x (List.mem_cons_of_mem _ hx), hN, hK, hA, B.returns, B.notSynchronized⟩ rfl hin hF va_S.rf (lv_entry av hlen)
end GY
end
section
/-- the words that a state keeps, of all the tables: every contract of mine asks for all of them -/
def bs_B : List Cond := lw_tbl.filter goodWord
theorem bs_in {x : Cond} {i : Nat} (h : lw_tbl[i]? = some x) (g : goodWord x = true) : x ∈ bs_B := List.mem_filter.mpr ⟨List.mem_of_getElem? h, g⟩
theorem bs_all : bs_B.all goodWord = true := List.all_eq_true.mpr (fun _ h => (List.mem_filter.mp h).2)
theorem bs_tbl {x : Cond} (h : x ∈ bs_B) : x ∈ lw_tbl := (List.mem_filter.mp h).1
def nw_B : List Cond := lw_tbl.filter gnest
theorem nw_in {x : Cond} {i : Nat} (h : lw_tbl[i]? = some x) (g : gnest x = true) : x ∈ nw_B := List.mem_filter.mpr ⟨List.mem_of_getElem? h, g⟩
theorem nw_all : nw_B.all gnest = true := List.all_eq_true.mpr (fun _ h => (List.mem_filter.mp h).2)
abbrev cls10 : List vw_C := [(RX0, TX0, 2), (RX1, TX1, 3), (RX2, TX2, 2), (RX3, TX3, 3), (RX4, TX4, 6), (RX5, TX5, 6), (RX6, TX6, 5), (RX7, TX7, 3), (RX8, TX8, 8), (RX9, TX9, 28)]
theorem bs_X0 : ∀ x ∈ u_ws RX0 TX0 2, x ∈ bs_B := fun x h => List.mem_filter.mpr ⟨(show ∀ x ∈ u_ws RX0 TX0 2, x ∈ lw_tbl by decide +kernel) x h, List.all_eq_true.mp (show (u_ws RX0 TX0 2).all goodWord = true by decide +kernel) x h⟩
theorem bs_X1 : ∀ x ∈ u_ws RX1 TX1 3, x ∈ bs_B := fun x h => List.mem_filter.mpr ⟨(show ∀ x ∈ u_ws RX1 TX1 3, x ∈ lw_tbl by decide +kernel) x h, List.all_eq_true.mp (show (u_ws RX1 TX1 3).all goodWord = true by decide +kernel) x h⟩
theorem bs_X2 : ∀ x ∈ u_ws RX2 TX2 2, x ∈ bs_B := fun x h => List.mem_filter.mpr ⟨(show ∀ x ∈ u_ws RX2 TX2 2, x ∈ lw_tbl by decide +kernel) x h, List.all_eq_true.mp (show (u_ws RX2 TX2 2).all goodWord = true by decide +kernel) x h⟩
theorem bs_X3 : ∀ x ∈ u_ws RX3 TX3 3, x ∈ bs_B := fun x h => List.mem_filter.mpr ⟨(show ∀ x ∈ u_ws RX3 TX3 3, x ∈ lw_tbl by decide +kernel) x h, List.all_eq_true.mp (show (u_ws RX3 TX3 3).all goodWord = true by decide +kernel) x h⟩
theorem bs_X4 : ∀ x ∈ u_ws RX4 TX4 6, x ∈ bs_B := fun x h => List.mem_filter.mpr ⟨(show ∀ x ∈ u_ws RX4 TX4 6, x ∈ lw_tbl by decide +kernel) x h, List.all_eq_true.mp (show (u_ws RX4 TX4 6).all goodWord = true by decide +kernel) x h⟩
theorem bs_X5 : ∀ x ∈ u_ws RX5 TX5 6, x ∈ bs_B := fun x h => List.mem_filter.mpr ⟨(show ∀ x ∈ u_ws RX5 TX5 6, x ∈ lw_tbl by decide +kernel) x h, List.all_eq_true.mp (show (u_ws RX5 TX5 6).all goodWord = true by decide +kernel) x h⟩
theorem bs_X6 : ∀ x ∈ u_ws RX6 TX6 5, x ∈ bs_B := fun x h => List.mem_filter.mpr ⟨(show ∀ x ∈ u_ws RX6 TX6 5, x ∈ lw_tbl by decide +kernel) x h, List.all_eq_true.mp (show (u_ws RX6 TX6 5).all goodWord = true by decide +kernel) x h⟩
theorem bs_X7 : ∀ x ∈ u_ws RX7 TX7 3, x ∈ bs_B := fun x h => List.mem_filter.mpr ⟨(show ∀ x ∈ u_ws RX7 TX7 3, x ∈ lw_tbl by decide +kernel) x h, List.all_eq_true.mp (show (u_ws RX7 TX7 3).all goodWord = true by decide +kernel) x h⟩
theorem bs_X8 : ∀ x ∈ u_ws RX8 TX8 8, x ∈ bs_B := fun x h => List.mem_filter.mpr ⟨(show ∀ x ∈ u_ws RX8 TX8 8, x ∈ lw_tbl by decide +kernel) x h, List.all_eq_true.mp (show (u_ws RX8 TX8 8).all goodWord = true by decide +kernel) x h⟩
theorem bs_X9 : ∀ x ∈ u_ws RX9 TX9 28, x ∈ bs_B := fun x h => List.mem_filter.mpr ⟨(show ∀ x ∈ u_ws RX9 TX9 28, x ∈ lw_tbl by decide +kernel) x h, List.all_eq_true.mp (show (u_ws RX9 TX9 28).all goodWord = true by decide +kernel) x h⟩
theorem gC_ok : gC cls10 bs_B := by
  intro ci C T N h
  match ci, h with
  | 0, h => cases h; exact ⟨bs_X0, ⟨tyX0, tyX0_ok⟩, nmX0⟩
  | 1, h => cases h; exact ⟨bs_X1, ⟨tyX1, tyX1_ok⟩, nmX1⟩
  | 2, h => cases h; exact ⟨bs_X2, ⟨tyX2, tyX2_ok⟩, nmX2⟩
  | 3, h => cases h; exact ⟨bs_X3, ⟨tyX3, tyX3_ok⟩, nmX3⟩
  | 4, h => cases h; exact ⟨bs_X4, ⟨tyX4, tyX4_ok⟩, nmX4⟩
  | 5, h => cases h; exact ⟨bs_X5, ⟨tyX5, tyX5_ok⟩, nmX5⟩
  | 6, h => cases h; exact ⟨bs_X6, ⟨tyX6, tyX6_ok⟩, nmX6⟩
  | 7, h => cases h; exact ⟨bs_X7, ⟨tyX7, tyX7_ok⟩, nmX7⟩
  | 8, h => cases h; exact ⟨bs_X8, ⟨tyX8, tyX8_ok⟩, nmX8⟩
  | 9, h => cases h; exact ⟨bs_X9, ⟨tyX9, tyX9_ok⟩, nmX9⟩
  | k + 10, h => simp [cls10] at h
abbrev tyl (cs : Nat → ClassId) : List (ClassId × FieldType) := [(cs 0, .int), (cs 1, .boolean), (cs 2, .object "CycleShop$Stand"), (cs 3, .object "CycleShop$Basket"), (cs 4, .object "CycleShop$Rack"), (cs 5, .object "CycleShop$Grid"), (cs 6, .object "CycleShop$Job"), (cs 7, .object "CycleShop$Wheel"), (cs 8, .object "CycleShop$Step")]
theorem wm_0 : Cond.selects "CycleShop" ⟨"CycleShop", "attempt", "(IIII)J"⟩ ⟨"CycleShop", "attempt", "(IIII)J"⟩ ∈ bs_B := bs_in (i := 0) rfl rfl
theorem wm_1 : Cond.selects "CycleShop" ⟨"CycleShop", "perform", "(IIII)J"⟩ ⟨"CycleShop", "perform", "(IIII)J"⟩ ∈ bs_B := bs_in (i := 1) rfl rfl
theorem wm_2 : Cond.selects "CycleShop" ⟨"CycleShop", "measure", "(III)J"⟩ ⟨"CycleShop", "measure", "(III)J"⟩ ∈ bs_B := bs_in (i := 2) rfl rfl
theorem wm_3 : Cond.selects "CycleShop" ⟨"CycleShop", "excuse", "(II)J"⟩ ⟨"CycleShop", "excuse", "(II)J"⟩ ∈ bs_B := bs_in (i := 3) rfl rfl
theorem wm_4 : Cond.selects "CycleShop" ⟨"CycleShop", "isDone", "(LCycleShop$Job;I)Z"⟩ ⟨"CycleShop", "isDone", "(LCycleShop$Job;I)Z"⟩ ∈ bs_B := bs_in (i := 4) rfl rfl
theorem wm_5 : Cond.selects "CycleShop" ⟨"CycleShop", "isDoneInStead", "(LCycleShop$Job;I)Z"⟩ ⟨"CycleShop", "isDoneInStead", "(LCycleShop$Job;I)Z"⟩ ∈ bs_B := bs_in (i := 5) rfl rfl
theorem wm_6 : Cond.selects "CycleShop" ⟨"CycleShop", "hanging", "(LCycleShop$Stand;)I"⟩ ⟨"CycleShop", "hanging", "(LCycleShop$Stand;)I"⟩ ∈ bs_B := bs_in (i := 6) rfl rfl
theorem wm_7 : Cond.selects "CycleShopModel" ⟨"CycleShopModel", "does", "(IIII)V"⟩ ⟨"CycleShopModel", "does", "(IIII)V"⟩ ∈ bs_B := bs_in (i := 7) rfl rfl
theorem wm_8 : Cond.selects "CycleShopModel" ⟨"CycleShopModel", "build", "(II)V"⟩ ⟨"CycleShopModel", "build", "(II)V"⟩ ∈ bs_B := bs_in (i := 8) rfl rfl
theorem wm_9 : Cond.selects "CycleShopModel" ⟨"CycleShopModel", "strip", "(I)V"⟩ ⟨"CycleShopModel", "strip", "(I)V"⟩ ∈ bs_B := bs_in (i := 9) rfl rfl
theorem wm_10 : Cond.selects "CycleShopModel" ⟨"CycleShopModel", "fit", "(III)V"⟩ ⟨"CycleShopModel", "fit", "(III)V"⟩ ∈ bs_B := bs_in (i := 10) rfl rfl
theorem wm_11 : Cond.selects "CycleShopModel" ⟨"CycleShopModel", "fails", "(I)V"⟩ ⟨"CycleShopModel", "fails", "(I)V"⟩ ∈ bs_B := bs_in (i := 11) rfl rfl
theorem wm_12 : Cond.selects "CycleShopModel" ⟨"CycleShopModel", "newWheel", "(I)I"⟩ ⟨"CycleShopModel", "newWheel", "(I)I"⟩ ∈ bs_B := bs_in (i := 12) rfl rfl
theorem wm_13 : Cond.selects "CycleShopModel" ⟨"CycleShopModel", "isUsed", "(I)Z"⟩ ⟨"CycleShopModel", "isUsed", "(I)Z"⟩ ∈ bs_B := bs_in (i := 13) rfl rfl
theorem wm_14 : Cond.selects "CycleShopModel" ⟨"CycleShopModel", "turn", "(IIZ)V"⟩ ⟨"CycleShopModel", "turn", "(IIZ)V"⟩ ∈ bs_B := bs_in (i := 14) rfl rfl
theorem wm_15 : Cond.selects "CycleShopModel" ⟨"CycleShopModel", "light", "(III)V"⟩ ⟨"CycleShopModel", "light", "(III)V"⟩ ∈ bs_B := bs_in (i := 15) rfl rfl
theorem wm_16 : Cond.selects "CycleShopModel" ⟨"CycleShopModel", "shine", "(II)V"⟩ ⟨"CycleShopModel", "shine", "(II)V"⟩ ∈ bs_B := bs_in (i := 16) rfl rfl
theorem wm_17 : Cond.selects "CycleShopModel" ⟨"CycleShopModel", "make", "(IIII)V"⟩ ⟨"CycleShopModel", "make", "(IIII)V"⟩ ∈ bs_B := bs_in (i := 17) rfl rfl
theorem wm_18 : Cond.selects "CycleShopModel" ⟨"CycleShopModel", "measure", "(III)V"⟩ ⟨"CycleShopModel", "measure", "(III)V"⟩ ∈ bs_B := bs_in (i := 18) rfl rfl
theorem wm_19 : Cond.selects "CycleShopModel" ⟨"CycleShopModel", "has", "(II)Z"⟩ ⟨"CycleShopModel", "has", "(II)Z"⟩ ∈ bs_B := bs_in (i := 19) rfl rfl
theorem wm_20 : Cond.selects "CycleShopModel" ⟨"CycleShopModel", "hang", "(III)V"⟩ ⟨"CycleShopModel", "hang", "(III)V"⟩ ∈ bs_B := bs_in (i := 20) rfl rfl
theorem wm_21 : Cond.selects "CycleShopModel" ⟨"CycleShopModel", "balance", "(II)V"⟩ ⟨"CycleShopModel", "balance", "(II)V"⟩ ∈ bs_B := bs_in (i := 21) rfl rfl
theorem wm_22 : Cond.selects "CycleShopModel" ⟨"CycleShopModel", "goes", "(II)V"⟩ ⟨"CycleShopModel", "goes", "(II)V"⟩ ∈ bs_B := bs_in (i := 22) rfl rfl
theorem wm_23 : Cond.selects "CycleShopModel" ⟨"CycleShopModel", "hangs", "(I)Z"⟩ ⟨"CycleShopModel", "hangs", "(I)Z"⟩ ∈ bs_B := bs_in (i := 23) rfl rfl
theorem wm_24 : (Cond.initialized "CycleShopLaw") ∈ bs_B := bs_in (i := 24) rfl rfl
theorem wm_25 : (Cond.initialized "CycleShop") ∈ bs_B := bs_in (i := 25) rfl rfl
theorem wm_26 : (Cond.initialized "CycleShop$Report") ∈ bs_B := bs_in (i := 26) rfl rfl
theorem wm_27 : (Cond.initialized "CycleShop$Stand") ∈ bs_B := bs_in (i := 27) rfl rfl
theorem wm_28 : (Cond.initialized "CycleShop$Basket") ∈ bs_B := bs_in (i := 28) rfl rfl
theorem wm_29 : (Cond.initialized "CycleShop$Rack") ∈ bs_B := bs_in (i := 29) rfl rfl
theorem wm_30 : (Cond.initialized "CycleShop$Grid") ∈ bs_B := bs_in (i := 30) rfl rfl
theorem wm_31 : (Cond.initialized "CycleShop$Job") ∈ bs_B := bs_in (i := 31) rfl rfl
theorem wm_32 : (Cond.initialized "CycleShopModel") ∈ bs_B := bs_in (i := 32) rfl rfl
theorem wm_33 : (Cond.initialized "CycleShop$Wheel") ∈ bs_B := bs_in (i := 33) rfl rfl
theorem wm_34 : (Cond.initialized "java/util/Arrays") ∈ bs_B := bs_in (i := 34) rfl rfl
theorem wm_35 : (Cond.initialized "CycleShop$Step") ∈ bs_B := bs_in (i := 35) rfl rfl
theorem wm_36 : (Cond.classLink "CycleShopLaw" (7 : Nat) "CycleShop") ∈ bs_B := bs_in (i := 36) rfl rfl
theorem wm_37 : (Cond.instantiable "CycleShop" (8 : Nat)) ∈ bs_B := bs_in (i := 37) rfl rfl
theorem wm_38 : (Cond.methodLink "CycleShopLaw" (9 : Nat) ({ cls := "CycleShop", name := "<init>", desc := "()V" } : MethodName)) ∈ bs_B := bs_in (i := 38) rfl rfl
theorem wm_39 : (Cond.instanceMethod ({ cls := "CycleShop", name := "<init>", desc := "()V" } : MethodName)) ∈ bs_B := bs_in (i := 39) rfl rfl
theorem wm_40 : (Cond.code ({ cls := "CycleShop", name := "<init>", desc := "()V" } : MethodName) prog_1_method_1_code (2 : Nat) (Option.none : Option FieldType)) ∈ bs_B := bs_in (i := 40) rfl rfl
theorem wm_41 : (Cond.methodLink "CycleShop" (1 : Nat) ({ cls := "java/lang/Object", name := "<init>", desc := "()V" } : MethodName)) ∈ bs_B := bs_in (i := 41) rfl rfl
theorem wm_42 : (Cond.instanceMethod ({ cls := "java/lang/Object", name := "<init>", desc := "()V" } : MethodName)) ∈ bs_B := bs_in (i := 42) rfl rfl
theorem wm_43 : (Cond.code ({ cls := "java/lang/Object", name := "<init>", desc := "()V" } : MethodName) object_method_1_code (1 : Nat) (Option.none : Option FieldType)) ∈ bs_B := bs_in (i := 43) rfl rfl
theorem wm_44 : (Cond.classLink "CycleShop" (9 : Nat) "CycleShop$Stand") ∈ bs_B := bs_in (i := 44) rfl rfl
theorem nm_45 : (Cond.arrayOver (FieldType.object "CycleShop$Stand")) ∈ nw_B := nw_in (i := 45) rfl rfl
theorem wm_46 : (Cond.classLink "CycleShop" (15 : Nat) "CycleShop$Basket") ∈ bs_B := bs_in (i := 46) rfl rfl
theorem nm_47 : (Cond.arrayOver (FieldType.object "CycleShop$Basket")) ∈ nw_B := nw_in (i := 47) rfl rfl
theorem wm_48 : (Cond.classLink "CycleShop" (21 : Nat) "CycleShop$Rack") ∈ bs_B := bs_in (i := 48) rfl rfl
theorem nm_49 : (Cond.arrayOver (FieldType.object "CycleShop$Rack")) ∈ nw_B := nw_in (i := 49) rfl rfl
theorem wm_50 : (Cond.classLink "CycleShop" (27 : Nat) "CycleShop$Grid") ∈ bs_B := bs_in (i := 50) rfl rfl
theorem nm_51 : (Cond.arrayOver (FieldType.object "CycleShop$Grid")) ∈ nw_B := nw_in (i := 51) rfl rfl
theorem wm_52 : (Cond.classLink "CycleShop" (33 : Nat) "CycleShop$Job") ∈ bs_B := bs_in (i := 52) rfl rfl
theorem nm_53 : (Cond.arrayOver (FieldType.object "CycleShop$Job")) ∈ nw_B := nw_in (i := 53) rfl rfl
theorem wm_54 : (Cond.classLink "CycleShop" (46 : Nat) "CycleShop$Report") ∈ bs_B := bs_in (i := 54) rfl rfl
theorem wm_55 : (Cond.instantiable "CycleShop$Report" (6 : Nat)) ∈ bs_B := bs_in (i := 55) rfl rfl
theorem nm_56 : (Cond.methodLinkNest "CycleShop" (48 : Nat) ({ cls := "CycleShop$Report", name := "<init>", desc := "()V" } : MethodName) "CycleShop") ∈ nw_B := nw_in (i := 56) rfl rfl
theorem wm_57 : (Cond.instanceMethod ({ cls := "CycleShop$Report", name := "<init>", desc := "()V" } : MethodName)) ∈ bs_B := bs_in (i := 57) rfl rfl
theorem wm_58 : (Cond.code ({ cls := "CycleShop$Report", name := "<init>", desc := "()V" } : MethodName) prog_6_method_1_code (1 : Nat) (Option.none : Option FieldType)) ∈ bs_B := bs_in (i := 58) rfl rfl
theorem wm_59 : (Cond.methodLink "CycleShop$Report" (3 : Nat) ({ cls := "java/lang/Object", name := "<init>", desc := "()V" } : MethodName)) ∈ bs_B := bs_in (i := 59) rfl rfl
theorem wm_60 : (Cond.fieldLink "CycleShop$Report" (15 : Nat) "CycleShop$Report" "done" "I") ∈ bs_B := bs_in (i := 60) rfl rfl
theorem wm_61 : (Cond.fieldLink "CycleShop" (99 : Nat) "CycleShop$Report" "done" "I") ∈ bs_B := bs_in (i := 61) rfl rfl
theorem wm_62 : (Cond.fieldLink "CycleShop$Report" (18 : Nat) "CycleShop$Report" "failed" "I") ∈ bs_B := bs_in (i := 62) rfl rfl
theorem wm_63 : (Cond.fieldLink "CycleShop" (102 : Nat) "CycleShop$Report" "failed" "I") ∈ bs_B := bs_in (i := 63) rfl rfl
theorem wm_64 : (Cond.fieldLink "CycleShop$Report" (21 : Nat) "CycleShop$Report" "reason" "I") ∈ bs_B := bs_in (i := 64) rfl rfl
theorem wm_65 : (Cond.fieldLink "CycleShop" (105 : Nat) "CycleShop$Report" "reason" "I") ∈ bs_B := bs_in (i := 65) rfl rfl
theorem wm_66 : (Cond.fieldLink "CycleShop$Report" (9 : Nat) "CycleShop$Report" "reasonStep" "I") ∈ bs_B := bs_in (i := 66) rfl rfl
theorem wm_67 : (Cond.fieldLink "CycleShop" (108 : Nat) "CycleShop$Report" "reasonStep" "I") ∈ bs_B := bs_in (i := 67) rfl rfl
theorem wm_68 : (Cond.fieldLink "CycleShop$Report" (24 : Nat) "CycleShop$Report" "steads" "I") ∈ bs_B := bs_in (i := 68) rfl rfl
theorem wm_69 : (Cond.fieldLink "CycleShop" (111 : Nat) "CycleShop$Report" "steads" "I") ∈ bs_B := bs_in (i := 69) rfl rfl
theorem wm_70 : (Cond.fieldLink "CycleShop$Report" (27 : Nat) "CycleShop$Report" "sum" "J") ∈ bs_B := bs_in (i := 70) rfl rfl
theorem wm_71 : (Cond.fieldLink "CycleShop" (114 : Nat) "CycleShop$Report" "sum" "J") ∈ bs_B := bs_in (i := 71) rfl rfl
theorem wm_85 : (Cond.arrayClass FieldType.int) ∈ bs_B := bs_in (i := 85) rfl rfl
theorem wm_86 : (Cond.instantiable "CycleShop$Stand" (6 : Nat)) ∈ bs_B := bs_in (i := 86) rfl rfl
theorem nm_87 : (Cond.methodLinkNest "CycleShop" (53 : Nat) ({ cls := "CycleShop$Stand", name := "<init>", desc := "()V" } : MethodName) "CycleShop") ∈ nw_B := nw_in (i := 87) rfl rfl
theorem wm_88 : (Cond.instanceMethod ({ cls := "CycleShop$Stand", name := "<init>", desc := "()V" } : MethodName)) ∈ bs_B := bs_in (i := 88) rfl rfl
theorem wm_89 : (Cond.code ({ cls := "CycleShop$Stand", name := "<init>", desc := "()V" } : MethodName) prog_7_method_1_code (1 : Nat) (Option.none : Option FieldType)) ∈ bs_B := bs_in (i := 89) rfl rfl
theorem wm_90 : (Cond.methodLink "CycleShop$Stand" (3 : Nat) ({ cls := "java/lang/Object", name := "<init>", desc := "()V" } : MethodName)) ∈ bs_B := bs_in (i := 90) rfl rfl
theorem wm_91 : (Cond.fieldLink "CycleShop$Stand" (15 : Nat) "CycleShop$Stand" "hasBike" "Z") ∈ bs_B := bs_in (i := 91) rfl rfl
theorem wm_92 : (Cond.fieldLink "CycleShop$Rack" (29 : Nat) "CycleShop$Stand" "hasBike" "Z") ∈ bs_B := bs_in (i := 92) rfl rfl
theorem wm_93 : (Cond.fieldLink "CycleShop$Stand" (19 : Nat) "CycleShop$Stand" "frame" "I") ∈ bs_B := bs_in (i := 93) rfl rfl
theorem wm_94 : (Cond.fieldLink "CycleShop$Stand" (23 : Nat) "CycleShop$Stand" "front" "LCycleShop$Wheel;") ∈ bs_B := bs_in (i := 94) rfl rfl
theorem wm_95 : (Cond.fieldLink "CycleShop$Rack" (38 : Nat) "CycleShop$Stand" "front" "LCycleShop$Wheel;") ∈ bs_B := bs_in (i := 95) rfl rfl
theorem wm_96 : (Cond.fieldLink "CycleShop" (246 : Nat) "CycleShop$Stand" "front" "LCycleShop$Wheel;") ∈ bs_B := bs_in (i := 96) rfl rfl
theorem wm_97 : (Cond.fieldLink "CycleShop$Stand" (27 : Nat) "CycleShop$Stand" "rear" "LCycleShop$Wheel;") ∈ bs_B := bs_in (i := 97) rfl rfl
theorem wm_98 : (Cond.fieldLink "CycleShop" (254 : Nat) "CycleShop$Stand" "rear" "LCycleShop$Wheel;") ∈ bs_B := bs_in (i := 98) rfl rfl
theorem wm_99 : (Cond.fieldLink "CycleShop$Stand" (30 : Nat) "CycleShop$Stand" "lamp" "I") ∈ bs_B := bs_in (i := 99) rfl rfl
theorem wm_100 : (Cond.fieldLink "CycleShop$Stand" (33 : Nat) "CycleShop$Stand" "charge" "I") ∈ bs_B := bs_in (i := 100) rfl rfl
theorem wm_114 : (Cond.instantiable "CycleShop$Basket" (2 : Nat)) ∈ bs_B := bs_in (i := 114) rfl rfl
theorem nm_115 : (Cond.methodLinkNest "CycleShop" (54 : Nat) ({ cls := "CycleShop$Basket", name := "<init>", desc := "()V" } : MethodName) "CycleShop") ∈ nw_B := nw_in (i := 115) rfl rfl
theorem wm_116 : (Cond.instanceMethod ({ cls := "CycleShop$Basket", name := "<init>", desc := "()V" } : MethodName)) ∈ bs_B := bs_in (i := 116) rfl rfl
theorem wm_117 : (Cond.code ({ cls := "CycleShop$Basket", name := "<init>", desc := "()V" } : MethodName) prog_2_method_1_code (1 : Nat) (Option.none : Option FieldType)) ∈ bs_B := bs_in (i := 117) rfl rfl
theorem wm_118 : (Cond.methodLink "CycleShop$Basket" (3 : Nat) ({ cls := "java/lang/Object", name := "<init>", desc := "()V" } : MethodName)) ∈ bs_B := bs_in (i := 118) rfl rfl
theorem wm_119 : (Cond.fieldLink "CycleShop$Basket" (9 : Nat) "CycleShop$Basket" "numbers" "[I") ∈ bs_B := bs_in (i := 119) rfl rfl
theorem wm_120 : (Cond.fieldLink "CycleShop$Basket" (15 : Nat) "CycleShop$Basket" "length" "I") ∈ bs_B := bs_in (i := 120) rfl rfl
theorem wm_121 : (Cond.fieldLink "CycleShop" (206 : Nat) "CycleShop$Basket" "length" "I") ∈ bs_B := bs_in (i := 121) rfl rfl
theorem wm_127 : (Cond.instantiable "CycleShop$Rack" (3 : Nat)) ∈ bs_B := bs_in (i := 127) rfl rfl
theorem nm_128 : (Cond.methodLinkNest "CycleShop" (55 : Nat) ({ cls := "CycleShop$Rack", name := "<init>", desc := "()V" } : MethodName) "CycleShop") ∈ nw_B := nw_in (i := 128) rfl rfl
theorem wm_129 : (Cond.instanceMethod ({ cls := "CycleShop$Rack", name := "<init>", desc := "()V" } : MethodName)) ∈ bs_B := bs_in (i := 129) rfl rfl
theorem wm_130 : (Cond.code ({ cls := "CycleShop$Rack", name := "<init>", desc := "()V" } : MethodName) prog_5_method_1_code (1 : Nat) (Option.none : Option FieldType)) ∈ bs_B := bs_in (i := 130) rfl rfl
theorem wm_131 : (Cond.methodLink "CycleShop$Rack" (3 : Nat) ({ cls := "java/lang/Object", name := "<init>", desc := "()V" } : MethodName)) ∈ bs_B := bs_in (i := 131) rfl rfl
theorem wm_132 : (Cond.classLink "CycleShop$Rack" (9 : Nat) "CycleShop$Wheel") ∈ bs_B := bs_in (i := 132) rfl rfl
theorem nm_133 : (Cond.arrayOver (FieldType.object "CycleShop$Wheel")) ∈ nw_B := nw_in (i := 133) rfl rfl
theorem wm_134 : (Cond.fieldLink "CycleShop$Rack" (11 : Nat) "CycleShop$Rack" "places" "[LCycleShop$Wheel;") ∈ bs_B := bs_in (i := 134) rfl rfl
theorem wm_135 : (Cond.fieldLink "CycleShop$Rack" (17 : Nat) "CycleShop$Rack" "length" "I") ∈ bs_B := bs_in (i := 135) rfl rfl
theorem wm_136 : (Cond.fieldLink "CycleShop" (212 : Nat) "CycleShop$Rack" "length" "I") ∈ bs_B := bs_in (i := 136) rfl rfl
theorem wm_137 : (Cond.fieldLink "CycleShop$Rack" (25 : Nat) "CycleShop$Rack" "isForDiscs" "Z") ∈ bs_B := bs_in (i := 137) rfl rfl
theorem wm_145 : (Cond.instantiable "CycleShop$Grid" (3 : Nat)) ∈ bs_B := bs_in (i := 145) rfl rfl
theorem nm_146 : (Cond.methodLinkNest "CycleShop" (56 : Nat) ({ cls := "CycleShop$Grid", name := "<init>", desc := "()V" } : MethodName) "CycleShop") ∈ nw_B := nw_in (i := 146) rfl rfl
theorem wm_147 : (Cond.instanceMethod ({ cls := "CycleShop$Grid", name := "<init>", desc := "()V" } : MethodName)) ∈ bs_B := bs_in (i := 147) rfl rfl
theorem wm_148 : (Cond.code ({ cls := "CycleShop$Grid", name := "<init>", desc := "()V" } : MethodName) prog_3_method_1_code (1 : Nat) (Option.none : Option FieldType)) ∈ bs_B := bs_in (i := 148) rfl rfl
theorem wm_149 : (Cond.methodLink "CycleShop$Grid" (3 : Nat) ({ cls := "java/lang/Object", name := "<init>", desc := "()V" } : MethodName)) ∈ bs_B := bs_in (i := 149) rfl rfl
theorem wm_150 : (Cond.fieldLink "CycleShop$Grid" (9 : Nat) "CycleShop$Grid" "numbers" "[I") ∈ bs_B := bs_in (i := 150) rfl rfl
theorem wm_151 : (Cond.fieldLink "CycleShop$Grid" (15 : Nat) "CycleShop$Grid" "rows" "I") ∈ bs_B := bs_in (i := 151) rfl rfl
theorem wm_152 : (Cond.fieldLink "CycleShop" (213 : Nat) "CycleShop$Grid" "rows" "I") ∈ bs_B := bs_in (i := 152) rfl rfl
theorem wm_153 : (Cond.fieldLink "CycleShop$Grid" (29 : Nat) "CycleShop$Grid" "columns" "I") ∈ bs_B := bs_in (i := 153) rfl rfl
theorem wm_161 : (Cond.instantiable "CycleShop$Job" (2 : Nat)) ∈ bs_B := bs_in (i := 161) rfl rfl
theorem nm_162 : (Cond.methodLinkNest "CycleShop" (57 : Nat) ({ cls := "CycleShop$Job", name := "<init>", desc := "()V" } : MethodName) "CycleShop") ∈ nw_B := nw_in (i := 162) rfl rfl
theorem wm_163 : (Cond.instanceMethod ({ cls := "CycleShop$Job", name := "<init>", desc := "()V" } : MethodName)) ∈ bs_B := bs_in (i := 163) rfl rfl
theorem wm_164 : (Cond.code ({ cls := "CycleShop$Job", name := "<init>", desc := "()V" } : MethodName) prog_4_method_1_code (1 : Nat) (Option.none : Option FieldType)) ∈ bs_B := bs_in (i := 164) rfl rfl
theorem wm_165 : (Cond.methodLink "CycleShop$Job" (3 : Nat) ({ cls := "java/lang/Object", name := "<init>", desc := "()V" } : MethodName)) ∈ bs_B := bs_in (i := 165) rfl rfl
theorem wm_166 : (Cond.classLink "CycleShop$Job" (9 : Nat) "CycleShop$Step") ∈ bs_B := bs_in (i := 166) rfl rfl
theorem nm_167 : (Cond.arrayOver (FieldType.object "CycleShop$Step")) ∈ nw_B := nw_in (i := 167) rfl rfl
theorem wm_168 : (Cond.fieldLink "CycleShop$Job" (11 : Nat) "CycleShop$Job" "steps" "[LCycleShop$Step;") ∈ bs_B := bs_in (i := 168) rfl rfl
theorem wm_169 : (Cond.fieldLink "CycleShop$Job" (17 : Nat) "CycleShop$Job" "count" "I") ∈ bs_B := bs_in (i := 169) rfl rfl
theorem wm_170 : (Cond.fieldLink "CycleShop" (88 : Nat) "CycleShop$Job" "count" "I") ∈ bs_B := bs_in (i := 170) rfl rfl
theorem wm_176 : (Cond.fieldLink "CycleShop" (11 : Nat) "CycleShop" "stands" "[LCycleShop$Stand;") ∈ bs_B := bs_in (i := 176) rfl rfl
theorem wm_177 : (Cond.fieldLink "CycleShop" (17 : Nat) "CycleShop" "baskets" "[LCycleShop$Basket;") ∈ bs_B := bs_in (i := 177) rfl rfl
theorem wm_178 : (Cond.fieldLink "CycleShop" (23 : Nat) "CycleShop" "racks" "[LCycleShop$Rack;") ∈ bs_B := bs_in (i := 178) rfl rfl
theorem wm_179 : (Cond.fieldLink "CycleShop" (29 : Nat) "CycleShop" "grids" "[LCycleShop$Grid;") ∈ bs_B := bs_in (i := 179) rfl rfl
theorem wm_180 : (Cond.fieldLink "CycleShop" (35 : Nat) "CycleShop" "jobs" "[LCycleShop$Job;") ∈ bs_B := bs_in (i := 180) rfl rfl
theorem wm_181 : (Cond.fieldLink "CycleShop" (39 : Nat) "CycleShop" "excuses" "[I") ∈ bs_B := bs_in (i := 181) rfl rfl
theorem wm_182 : (Cond.fieldLink "CycleShop" (43 : Nat) "CycleShop" "tallies" "[I") ∈ bs_B := bs_in (i := 182) rfl rfl
theorem wm_183 : (Cond.fieldLink "CycleShop" (49 : Nat) "CycleShop" "report" "LCycleShop$Report;") ∈ bs_B := bs_in (i := 183) rfl rfl
theorem wm_201 : (Cond.methodLink "CycleShopLaw" (13 : Nat) ({ cls := "CycleShop", name := "act", desc := "(IIII)J" } : MethodName)) ∈ bs_B := bs_in (i := 201) rfl rfl
theorem wm_202 : (Cond.instanceMethod ({ cls := "CycleShop", name := "act", desc := "(IIII)J" } : MethodName)) ∈ bs_B := bs_in (i := 202) rfl rfl
theorem wm_203 : (Cond.selects "CycleShop" ({ cls := "CycleShop", name := "act", desc := "(IIII)J" } : MethodName) ({ cls := "CycleShop", name := "act", desc := "(IIII)J" } : MethodName)) ∈ bs_B := bs_in (i := 203) rfl rfl
theorem wm_204 : (Cond.code ({ cls := "CycleShop", name := "act", desc := "(IIII)J" } : MethodName) prog_1_method_2_code (5 : Nat) (Option.some FieldType.long)) ∈ bs_B := bs_in (i := 204) rfl rfl
theorem wm_205 : (Cond.methodLink "CycleShop" (58 : Nat) ({ cls := "CycleShop", name := "isStep", desc := "(IIII)Z" } : MethodName)) ∈ bs_B := bs_in (i := 205) rfl rfl
theorem wm_206 : (Cond.static ({ cls := "CycleShop", name := "isStep", desc := "(IIII)Z" } : MethodName)) ∈ bs_B := bs_in (i := 206) rfl rfl
theorem wm_207 : (Cond.code ({ cls := "CycleShop", name := "isStep", desc := "(IIII)Z" } : MethodName) prog_1_method_16_code (4 : Nat) (Option.some FieldType.boolean)) ∈ bs_B := bs_in (i := 207) rfl rfl
theorem wm_208 : (Cond.methodLink "CycleShop" (68 : Nat) ({ cls := "CycleShop", name := "isWithin", desc := "(II)Z" } : MethodName)) ∈ bs_B := bs_in (i := 208) rfl rfl
theorem wm_209 : (Cond.static ({ cls := "CycleShop", name := "isWithin", desc := "(II)Z" } : MethodName)) ∈ bs_B := bs_in (i := 209) rfl rfl
theorem wm_210 : (Cond.code ({ cls := "CycleShop", name := "isWithin", desc := "(II)Z" } : MethodName) prog_1_method_13_code (2 : Nat) (Option.some FieldType.boolean)) ∈ bs_B := bs_in (i := 210) rfl rfl
theorem wm_211 : (Cond.methodLink "CycleShop" (62 : Nat) ({ cls := "CycleShop", name := "attempt", desc := "(IIII)J" } : MethodName)) ∈ bs_B := bs_in (i := 211) rfl rfl
theorem wm_213 : (Cond.instanceMethod ({ cls := "CycleShop", name := "attempt", desc := "(IIII)J" } : MethodName)) ∈ bs_B := bs_in (i := 213) rfl rfl
theorem wm_214 : (Cond.code ({ cls := "CycleShop", name := "attempt", desc := "(IIII)J" } : MethodName) prog_1_method_17_code (8 : Nat) (Option.some FieldType.long)) ∈ bs_B := bs_in (i := 214) rfl rfl
theorem wm_215 : (Cond.methodLink "CycleShop" (144 : Nat) ({ cls := "CycleShop", name := "perform", desc := "(IIII)J" } : MethodName)) ∈ bs_B := bs_in (i := 215) rfl rfl
theorem wm_217 : (Cond.instanceMethod ({ cls := "CycleShop", name := "perform", desc := "(IIII)J" } : MethodName)) ∈ bs_B := bs_in (i := 217) rfl rfl
theorem wm_218 : (Cond.code ({ cls := "CycleShop", name := "perform", desc := "(IIII)J" } : MethodName) prog_1_method_18_code (5 : Nat) (Option.some FieldType.long)) ∈ bs_B := bs_in (i := 218) rfl rfl
theorem wm_219 : (Cond.methodLink "CycleShop" (151 : Nat) ({ cls := "CycleShop$Stand", name := "build", desc := "(I)J" } : MethodName)) ∈ bs_B := bs_in (i := 219) rfl rfl
theorem wm_220 : (Cond.instanceMethod ({ cls := "CycleShop$Stand", name := "build", desc := "(I)J" } : MethodName)) ∈ bs_B := bs_in (i := 220) rfl rfl
theorem wm_221 : (Cond.selects "CycleShop$Stand" ({ cls := "CycleShop$Stand", name := "build", desc := "(I)J" } : MethodName) ({ cls := "CycleShop$Stand", name := "build", desc := "(I)J" } : MethodName)) ∈ bs_B := bs_in (i := 221) rfl rfl
theorem wm_222 : (Cond.code ({ cls := "CycleShop$Stand", name := "build", desc := "(I)J" } : MethodName) prog_7_method_2_code (2 : Nat) (Option.some FieldType.long)) ∈ bs_B := bs_in (i := 222) rfl rfl
theorem wm_223 : (Cond.methodLink "CycleShop$Stand" (9 : Nat) ({ cls := "CycleShop$Stand", name := "strip", desc := "()J" } : MethodName)) ∈ bs_B := bs_in (i := 223) rfl rfl
theorem wm_224 : (Cond.instanceMethod ({ cls := "CycleShop$Stand", name := "strip", desc := "()J" } : MethodName)) ∈ bs_B := bs_in (i := 224) rfl rfl
theorem wm_225 : (Cond.selects "CycleShop$Stand" ({ cls := "CycleShop$Stand", name := "strip", desc := "()J" } : MethodName) ({ cls := "CycleShop$Stand", name := "strip", desc := "()J" } : MethodName)) ∈ bs_B := bs_in (i := 225) rfl rfl
theorem wm_226 : (Cond.code ({ cls := "CycleShop$Stand", name := "strip", desc := "()J" } : MethodName) prog_7_method_3_code (1 : Nat) (Option.some FieldType.long)) ∈ bs_B := bs_in (i := 226) rfl rfl
theorem wm_227 : (Cond.methodLink "CycleShop" (155 : Nat) ({ cls := "CycleShop$Stand", name := "strip", desc := "()J" } : MethodName)) ∈ bs_B := bs_in (i := 227) rfl rfl
theorem wm_228 : (Cond.methodLink "CycleShop" (159 : Nat) ({ cls := "CycleShop$Stand", name := "fit", desc := "(II)J" } : MethodName)) ∈ bs_B := bs_in (i := 228) rfl rfl
theorem wm_229 : (Cond.instanceMethod ({ cls := "CycleShop$Stand", name := "fit", desc := "(II)J" } : MethodName)) ∈ bs_B := bs_in (i := 229) rfl rfl
theorem wm_230 : (Cond.selects "CycleShop$Stand" ({ cls := "CycleShop$Stand", name := "fit", desc := "(II)J" } : MethodName) ({ cls := "CycleShop$Stand", name := "fit", desc := "(II)J" } : MethodName)) ∈ bs_B := bs_in (i := 230) rfl rfl
theorem wm_231 : (Cond.code ({ cls := "CycleShop$Stand", name := "fit", desc := "(II)J" } : MethodName) prog_7_method_5_code (5 : Nat) (Option.some FieldType.long)) ∈ bs_B := bs_in (i := 231) rfl rfl
theorem nm_232 : (Cond.methodLinkNest "CycleShop$Stand" (36 : Nat) ({ cls := "CycleShop", name := "failure", desc := "(I)J" } : MethodName) "CycleShop") ∈ nw_B := nw_in (i := 232) rfl rfl
theorem wm_233 : (Cond.static ({ cls := "CycleShop", name := "failure", desc := "(I)J" } : MethodName)) ∈ bs_B := bs_in (i := 233) rfl rfl
theorem wm_234 : (Cond.code ({ cls := "CycleShop", name := "failure", desc := "(I)J" } : MethodName) prog_1_method_14_code (1 : Nat) (Option.some FieldType.long)) ∈ bs_B := bs_in (i := 234) rfl rfl
theorem wm_235 : (Cond.constantLong "CycleShop" (66 : Nat) (-9223372036854775808 : Int64)) ∈ bs_B := bs_in (i := 235) rfl rfl
theorem wm_236 : (Cond.classLink "CycleShop$Stand" (40 : Nat) "CycleShop$Wheel") ∈ bs_B := bs_in (i := 236) rfl rfl
theorem wm_237 : (Cond.instantiable "CycleShop$Wheel" (3 : Nat)) ∈ bs_B := bs_in (i := 237) rfl rfl
theorem wm_238 : (Cond.methodLink "CycleShop$Stand" (42 : Nat) ({ cls := "CycleShop$Wheel", name := "<init>", desc := "(IZ)V" } : MethodName)) ∈ bs_B := bs_in (i := 238) rfl rfl
theorem wm_239 : (Cond.instanceMethod ({ cls := "CycleShop$Wheel", name := "<init>", desc := "(IZ)V" } : MethodName)) ∈ bs_B := bs_in (i := 239) rfl rfl
theorem wm_240 : (Cond.code ({ cls := "CycleShop$Wheel", name := "<init>", desc := "(IZ)V" } : MethodName) prog_9_method_1_code (3 : Nat) (Option.none : Option FieldType)) ∈ bs_B := bs_in (i := 240) rfl rfl
theorem wm_241 : (Cond.methodLink "CycleShop$Wheel" (1 : Nat) ({ cls := "java/lang/Object", name := "<init>", desc := "()V" } : MethodName)) ∈ bs_B := bs_in (i := 241) rfl rfl
theorem wm_242 : (Cond.fieldLink "CycleShop$Wheel" (7 : Nat) "CycleShop$Wheel" "spokes" "I") ∈ bs_B := bs_in (i := 242) rfl rfl
theorem wm_243 : (Cond.fieldLink "CycleShop$Stand" (53 : Nat) "CycleShop$Wheel" "spokes" "I") ∈ bs_B := bs_in (i := 243) rfl rfl
theorem wm_244 : (Cond.fieldLink "CycleShop$Wheel" (13 : Nat) "CycleShop$Wheel" "isDisc" "Z") ∈ bs_B := bs_in (i := 244) rfl rfl
theorem wm_245 : (Cond.fieldLink "CycleShop$Rack" (42 : Nat) "CycleShop$Wheel" "isDisc" "Z") ∈ bs_B := bs_in (i := 245) rfl rfl
theorem wm_246 : (Cond.fieldLink "CycleShop$Wheel" (17 : Nat) "CycleShop$Wheel" "turns" "I") ∈ bs_B := bs_in (i := 246) rfl rfl
theorem wm_247 : (Cond.fieldLink "CycleShop$Rack" (45 : Nat) "CycleShop$Wheel" "turns" "I") ∈ bs_B := bs_in (i := 247) rfl rfl
theorem wm_248 : (Cond.fieldLink "CycleShop$Stand" (56 : Nat) "CycleShop$Wheel" "turns" "I") ∈ bs_B := bs_in (i := 248) rfl rfl
theorem wm_256 : (Cond.methodLink "CycleShop" (163 : Nat) ({ cls := "CycleShop$Stand", name := "trueWheel", desc := "(I)J" } : MethodName)) ∈ bs_B := bs_in (i := 256) rfl rfl
theorem wm_257 : (Cond.instanceMethod ({ cls := "CycleShop$Stand", name := "trueWheel", desc := "(I)J" } : MethodName)) ∈ bs_B := bs_in (i := 257) rfl rfl
theorem wm_258 : (Cond.selects "CycleShop$Stand" ({ cls := "CycleShop$Stand", name := "trueWheel", desc := "(I)J" } : MethodName) ({ cls := "CycleShop$Stand", name := "trueWheel", desc := "(I)J" } : MethodName)) ∈ bs_B := bs_in (i := 258) rfl rfl
theorem wm_259 : (Cond.code ({ cls := "CycleShop$Stand", name := "trueWheel", desc := "(I)J" } : MethodName) prog_7_method_6_code (3 : Nat) (Option.some FieldType.long)) ∈ bs_B := bs_in (i := 259) rfl rfl
theorem wm_260 : (Cond.methodLink "CycleShop$Stand" (45 : Nat) ({ cls := "CycleShop$Stand", name := "wheel", desc := "(I)LCycleShop$Wheel;" } : MethodName)) ∈ bs_B := bs_in (i := 260) rfl rfl
theorem wm_261 : (Cond.instanceMethod ({ cls := "CycleShop$Stand", name := "wheel", desc := "(I)LCycleShop$Wheel;" } : MethodName)) ∈ bs_B := bs_in (i := 261) rfl rfl
theorem wm_262 : (Cond.selects "CycleShop$Stand" ({ cls := "CycleShop$Stand", name := "wheel", desc := "(I)LCycleShop$Wheel;" } : MethodName) ({ cls := "CycleShop$Stand", name := "wheel", desc := "(I)LCycleShop$Wheel;" } : MethodName)) ∈ bs_B := bs_in (i := 262) rfl rfl
theorem wm_263 : (Cond.code ({ cls := "CycleShop$Stand", name := "wheel", desc := "(I)LCycleShop$Wheel;" } : MethodName) prog_7_method_4_code (2 : Nat) (Option.some (FieldType.object "CycleShop$Wheel"))) ∈ bs_B := bs_in (i := 263) rfl rfl
theorem wm_264 : (Cond.methodLink "CycleShop$Stand" (49 : Nat) ({ cls := "CycleShop$Wheel", name := "turn", desc := "()I" } : MethodName)) ∈ bs_B := bs_in (i := 264) rfl rfl
theorem wm_265 : (Cond.instanceMethod ({ cls := "CycleShop$Wheel", name := "turn", desc := "()I" } : MethodName)) ∈ bs_B := bs_in (i := 265) rfl rfl
theorem wm_266 : (Cond.selects "CycleShop$Wheel" ({ cls := "CycleShop$Wheel", name := "turn", desc := "()I" } : MethodName) ({ cls := "CycleShop$Wheel", name := "turn", desc := "()I" } : MethodName)) ∈ bs_B := bs_in (i := 266) rfl rfl
theorem wm_267 : (Cond.code ({ cls := "CycleShop$Wheel", name := "turn", desc := "()I" } : MethodName) prog_9_method_2_code (1 : Nat) (Option.some FieldType.int)) ∈ bs_B := bs_in (i := 267) rfl rfl
theorem wm_268 : (Cond.methodLink "CycleShop" (166 : Nat) ({ cls := "CycleShop$Stand", name := "countSpokes", desc := "(I)J" } : MethodName)) ∈ bs_B := bs_in (i := 268) rfl rfl
theorem wm_269 : (Cond.instanceMethod ({ cls := "CycleShop$Stand", name := "countSpokes", desc := "(I)J" } : MethodName)) ∈ bs_B := bs_in (i := 269) rfl rfl
theorem wm_270 : (Cond.selects "CycleShop$Stand" ({ cls := "CycleShop$Stand", name := "countSpokes", desc := "(I)J" } : MethodName) ({ cls := "CycleShop$Stand", name := "countSpokes", desc := "(I)J" } : MethodName)) ∈ bs_B := bs_in (i := 270) rfl rfl
theorem wm_271 : (Cond.code ({ cls := "CycleShop$Stand", name := "countSpokes", desc := "(I)J" } : MethodName) prog_7_method_7_code (3 : Nat) (Option.some FieldType.long)) ∈ bs_B := bs_in (i := 271) rfl rfl
theorem wm_272 : (Cond.methodLink "CycleShop" (169 : Nat) ({ cls := "CycleShop$Stand", name := "light", desc := "(II)J" } : MethodName)) ∈ bs_B := bs_in (i := 272) rfl rfl
theorem wm_273 : (Cond.instanceMethod ({ cls := "CycleShop$Stand", name := "light", desc := "(II)J" } : MethodName)) ∈ bs_B := bs_in (i := 273) rfl rfl
theorem wm_274 : (Cond.selects "CycleShop$Stand" ({ cls := "CycleShop$Stand", name := "light", desc := "(II)J" } : MethodName) ({ cls := "CycleShop$Stand", name := "light", desc := "(II)J" } : MethodName)) ∈ bs_B := bs_in (i := 274) rfl rfl
theorem wm_275 : (Cond.code ({ cls := "CycleShop$Stand", name := "light", desc := "(II)J" } : MethodName) prog_7_method_8_code (3 : Nat) (Option.some FieldType.long)) ∈ bs_B := bs_in (i := 275) rfl rfl
theorem wm_276 : (Cond.methodLink "CycleShop" (172 : Nat) ({ cls := "CycleShop$Stand", name := "shine", desc := "(I)J" } : MethodName)) ∈ bs_B := bs_in (i := 276) rfl rfl
theorem wm_277 : (Cond.instanceMethod ({ cls := "CycleShop$Stand", name := "shine", desc := "(I)J" } : MethodName)) ∈ bs_B := bs_in (i := 277) rfl rfl
theorem wm_278 : (Cond.selects "CycleShop$Stand" ({ cls := "CycleShop$Stand", name := "shine", desc := "(I)J" } : MethodName) ({ cls := "CycleShop$Stand", name := "shine", desc := "(I)J" } : MethodName)) ∈ bs_B := bs_in (i := 278) rfl rfl
theorem wm_279 : (Cond.code ({ cls := "CycleShop$Stand", name := "shine", desc := "(I)J" } : MethodName) prog_7_method_9_code (2 : Nat) (Option.some FieldType.long)) ∈ bs_B := bs_in (i := 279) rfl rfl
theorem wm_280 : (Cond.methodLink "CycleShop" (175 : Nat) ({ cls := "CycleShop$Basket", name := "make", desc := "(I)J" } : MethodName)) ∈ bs_B := bs_in (i := 280) rfl rfl
theorem wm_281 : (Cond.instanceMethod ({ cls := "CycleShop$Basket", name := "make", desc := "(I)J" } : MethodName)) ∈ bs_B := bs_in (i := 281) rfl rfl
theorem wm_282 : (Cond.selects "CycleShop$Basket" ({ cls := "CycleShop$Basket", name := "make", desc := "(I)J" } : MethodName) ({ cls := "CycleShop$Basket", name := "make", desc := "(I)J" } : MethodName)) ∈ bs_B := bs_in (i := 282) rfl rfl
theorem wm_283 : (Cond.code ({ cls := "CycleShop$Basket", name := "make", desc := "(I)J" } : MethodName) prog_2_method_2_code (2 : Nat) (Option.some FieldType.long)) ∈ bs_B := bs_in (i := 283) rfl rfl
theorem nm_284 : (Cond.methodLinkNest "CycleShop$Basket" (19 : Nat) ({ cls := "CycleShop", name := "failure", desc := "(I)J" } : MethodName) "CycleShop") ∈ nw_B := nw_in (i := 284) rfl rfl
theorem wm_285 : (Cond.methodLink "CycleShop$Basket" (23 : Nat) ({ cls := "java/util/Arrays", name := "fill", desc := "([II)V" } : MethodName)) ∈ bs_B := bs_in (i := 285) rfl rfl
theorem wm_286 : (Cond.static ({ cls := "java/util/Arrays", name := "fill", desc := "([II)V" } : MethodName)) ∈ bs_B := bs_in (i := 286) rfl rfl
theorem wm_287 : (Cond.code ({ cls := "java/util/Arrays", name := "fill", desc := "([II)V" } : MethodName) prog_12_method_103_code (4 : Nat) (Option.none : Option FieldType)) ∈ bs_B := bs_in (i := 287) rfl rfl
theorem wm_288 : (Cond.methodLink "CycleShop" (178 : Nat) ({ cls := "CycleShop$Rack", name := "make", desc := "(IZ)J" } : MethodName)) ∈ bs_B := bs_in (i := 288) rfl rfl
theorem wm_289 : (Cond.instanceMethod ({ cls := "CycleShop$Rack", name := "make", desc := "(IZ)J" } : MethodName)) ∈ bs_B := bs_in (i := 289) rfl rfl
theorem wm_290 : (Cond.selects "CycleShop$Rack" ({ cls := "CycleShop$Rack", name := "make", desc := "(IZ)J" } : MethodName) ({ cls := "CycleShop$Rack", name := "make", desc := "(IZ)J" } : MethodName)) ∈ bs_B := bs_in (i := 290) rfl rfl
theorem wm_291 : (Cond.code ({ cls := "CycleShop$Rack", name := "make", desc := "(IZ)J" } : MethodName) prog_5_method_2_code (4 : Nat) (Option.some FieldType.long)) ∈ bs_B := bs_in (i := 291) rfl rfl
theorem nm_292 : (Cond.methodLinkNest "CycleShop$Rack" (21 : Nat) ({ cls := "CycleShop", name := "failure", desc := "(I)J" } : MethodName) "CycleShop") ∈ nw_B := nw_in (i := 292) rfl rfl
theorem wm_293 : (Cond.methodLink "CycleShop" (181 : Nat) ({ cls := "CycleShop$Grid", name := "make", desc := "(II)J" } : MethodName)) ∈ bs_B := bs_in (i := 293) rfl rfl
theorem wm_294 : (Cond.instanceMethod ({ cls := "CycleShop$Grid", name := "make", desc := "(II)J" } : MethodName)) ∈ bs_B := bs_in (i := 294) rfl rfl
theorem wm_295 : (Cond.selects "CycleShop$Grid" ({ cls := "CycleShop$Grid", name := "make", desc := "(II)J" } : MethodName) ({ cls := "CycleShop$Grid", name := "make", desc := "(II)J" } : MethodName)) ∈ bs_B := bs_in (i := 295) rfl rfl
theorem wm_296 : (Cond.code ({ cls := "CycleShop$Grid", name := "make", desc := "(II)J" } : MethodName) prog_3_method_2_code (3 : Nat) (Option.some FieldType.long)) ∈ bs_B := bs_in (i := 296) rfl rfl
theorem nm_297 : (Cond.methodLinkNest "CycleShop$Grid" (19 : Nat) ({ cls := "CycleShop", name := "failure", desc := "(I)J" } : MethodName) "CycleShop") ∈ nw_B := nw_in (i := 297) rfl rfl
theorem wm_298 : (Cond.methodLink "CycleShop$Grid" (23 : Nat) ({ cls := "java/util/Arrays", name := "fill", desc := "([II)V" } : MethodName)) ∈ bs_B := bs_in (i := 298) rfl rfl
theorem wm_299 : (Cond.methodLink "CycleShop" (183 : Nat) ({ cls := "CycleShop", name := "measure", desc := "(III)J" } : MethodName)) ∈ bs_B := bs_in (i := 299) rfl rfl
set_option maxRecDepth 20000 in
theorem wm_301 : (Cond.instanceMethod ({ cls := "CycleShop", name := "measure", desc := "(III)J" } : MethodName)) ∈ bs_B := bs_in (i := 301) rfl rfl
set_option maxRecDepth 20000 in
theorem wm_302 : (Cond.code ({ cls := "CycleShop", name := "measure", desc := "(III)J" } : MethodName) prog_1_method_19_code (4 : Nat) (Option.some FieldType.long)) ∈ bs_B := bs_in (i := 302) rfl rfl
set_option maxRecDepth 20000 in
theorem wm_303 : (Cond.methodLink "CycleShop" (209 : Nat) ({ cls := "CycleShop", name := "lengthOrFailure", desc := "(I)J" } : MethodName)) ∈ bs_B := bs_in (i := 303) rfl rfl
set_option maxRecDepth 20000 in
theorem wm_304 : (Cond.static ({ cls := "CycleShop", name := "lengthOrFailure", desc := "(I)J" } : MethodName)) ∈ bs_B := bs_in (i := 304) rfl rfl
set_option maxRecDepth 20000 in
theorem wm_305 : (Cond.code ({ cls := "CycleShop", name := "lengthOrFailure", desc := "(I)J" } : MethodName) prog_1_method_20_code (1 : Nat) (Option.some FieldType.long)) ∈ bs_B := bs_in (i := 305) rfl rfl
set_option maxRecDepth 20000 in
theorem wm_306 : (Cond.methodLink "CycleShop" (203 : Nat) ({ cls := "CycleShop", name := "failure", desc := "(I)J" } : MethodName)) ∈ bs_B := bs_in (i := 306) rfl rfl
set_option maxRecDepth 20000 in
theorem wm_307 : (Cond.methodLink "CycleShop" (216 : Nat) ({ cls := "CycleShop$Grid", name := "rowLength", desc := "(I)J" } : MethodName)) ∈ bs_B := bs_in (i := 307) rfl rfl
set_option maxRecDepth 20000 in
theorem wm_308 : (Cond.instanceMethod ({ cls := "CycleShop$Grid", name := "rowLength", desc := "(I)J" } : MethodName)) ∈ bs_B := bs_in (i := 308) rfl rfl
set_option maxRecDepth 20000 in
theorem wm_309 : (Cond.selects "CycleShop$Grid" ({ cls := "CycleShop$Grid", name := "rowLength", desc := "(I)J" } : MethodName) ({ cls := "CycleShop$Grid", name := "rowLength", desc := "(I)J" } : MethodName)) ∈ bs_B := bs_in (i := 309) rfl rfl
set_option maxRecDepth 20000 in
theorem wm_310 : (Cond.code ({ cls := "CycleShop$Grid", name := "rowLength", desc := "(I)J" } : MethodName) prog_3_method_4_code (2 : Nat) (Option.some FieldType.long)) ∈ bs_B := bs_in (i := 310) rfl rfl
set_option maxRecDepth 20000 in
theorem nm_311 : (Cond.methodLinkNest "CycleShop$Grid" (32 : Nat) ({ cls := "CycleShop", name := "isWithin", desc := "(II)Z" } : MethodName) "CycleShop") ∈ nw_B := nw_in (i := 311) rfl rfl
set_option maxRecDepth 20000 in
theorem wm_312 : (Cond.methodLink "CycleShop" (187 : Nat) ({ cls := "CycleShop$Basket", name := "put", desc := "(II)J" } : MethodName)) ∈ bs_B := bs_in (i := 312) rfl rfl
set_option maxRecDepth 20000 in
theorem wm_313 : (Cond.instanceMethod ({ cls := "CycleShop$Basket", name := "put", desc := "(II)J" } : MethodName)) ∈ bs_B := bs_in (i := 313) rfl rfl
set_option maxRecDepth 20000 in
theorem wm_314 : (Cond.selects "CycleShop$Basket" ({ cls := "CycleShop$Basket", name := "put", desc := "(II)J" } : MethodName) ({ cls := "CycleShop$Basket", name := "put", desc := "(II)J" } : MethodName)) ∈ bs_B := bs_in (i := 314) rfl rfl
set_option maxRecDepth 20000 in
theorem wm_315 : (Cond.code ({ cls := "CycleShop$Basket", name := "put", desc := "(II)J" } : MethodName) prog_2_method_3_code (4 : Nat) (Option.some FieldType.long)) ∈ bs_B := bs_in (i := 315) rfl rfl
set_option maxRecDepth 20000 in
theorem nm_316 : (Cond.methodLinkNest "CycleShop$Basket" (29 : Nat) ({ cls := "CycleShop", name := "isWithin", desc := "(II)Z" } : MethodName) "CycleShop") ∈ nw_B := nw_in (i := 316) rfl rfl
set_option maxRecDepth 20000 in
theorem wm_317 : (Cond.methodLink "CycleShop" (190 : Nat) ({ cls := "CycleShop$Grid", name := "addOne", desc := "(II)J" } : MethodName)) ∈ bs_B := bs_in (i := 317) rfl rfl
set_option maxRecDepth 20000 in
theorem wm_318 : (Cond.instanceMethod ({ cls := "CycleShop$Grid", name := "addOne", desc := "(II)J" } : MethodName)) ∈ bs_B := bs_in (i := 318) rfl rfl
set_option maxRecDepth 20000 in
theorem wm_319 : (Cond.selects "CycleShop$Grid" ({ cls := "CycleShop$Grid", name := "addOne", desc := "(II)J" } : MethodName) ({ cls := "CycleShop$Grid", name := "addOne", desc := "(II)J" } : MethodName)) ∈ bs_B := bs_in (i := 319) rfl rfl
set_option maxRecDepth 20000 in
theorem wm_320 : (Cond.code ({ cls := "CycleShop$Grid", name := "addOne", desc := "(II)J" } : MethodName) prog_3_method_5_code (4 : Nat) (Option.some FieldType.long)) ∈ bs_B := bs_in (i := 320) rfl rfl
set_option maxRecDepth 20000 in
theorem wm_321 : (Cond.methodLink "CycleShop$Grid" (36 : Nat) ({ cls := "CycleShop$Grid", name := "has", desc := "(II)Z" } : MethodName)) ∈ bs_B := bs_in (i := 321) rfl rfl
set_option maxRecDepth 20000 in
theorem wm_322 : (Cond.instanceMethod ({ cls := "CycleShop$Grid", name := "has", desc := "(II)Z" } : MethodName)) ∈ bs_B := bs_in (i := 322) rfl rfl
set_option maxRecDepth 20000 in
theorem wm_323 : (Cond.selects "CycleShop$Grid" ({ cls := "CycleShop$Grid", name := "has", desc := "(II)Z" } : MethodName) ({ cls := "CycleShop$Grid", name := "has", desc := "(II)Z" } : MethodName)) ∈ bs_B := bs_in (i := 323) rfl rfl
set_option maxRecDepth 20000 in
theorem wm_324 : (Cond.code ({ cls := "CycleShop$Grid", name := "has", desc := "(II)Z" } : MethodName) prog_3_method_3_code (3 : Nat) (Option.some FieldType.boolean)) ∈ bs_B := bs_in (i := 324) rfl rfl
set_option maxRecDepth 20000 in
theorem wm_325 : (Cond.methodLink "CycleShop" (193 : Nat) ({ cls := "CycleShop$Rack", name := "hang", desc := "(ILCycleShop$Stand;)J" } : MethodName)) ∈ bs_B := bs_in (i := 325) rfl rfl
set_option maxRecDepth 20000 in
theorem wm_326 : (Cond.instanceMethod ({ cls := "CycleShop$Rack", name := "hang", desc := "(ILCycleShop$Stand;)J" } : MethodName)) ∈ bs_B := bs_in (i := 326) rfl rfl
set_option maxRecDepth 20000 in
theorem wm_327 : (Cond.selects "CycleShop$Rack" ({ cls := "CycleShop$Rack", name := "hang", desc := "(ILCycleShop$Stand;)J" } : MethodName) ({ cls := "CycleShop$Rack", name := "hang", desc := "(ILCycleShop$Stand;)J" } : MethodName)) ∈ bs_B := bs_in (i := 327) rfl rfl
set_option maxRecDepth 20000 in
theorem wm_328 : (Cond.code ({ cls := "CycleShop$Rack", name := "hang", desc := "(ILCycleShop$Stand;)J" } : MethodName) prog_5_method_3_code (4 : Nat) (Option.some FieldType.long)) ∈ bs_B := bs_in (i := 328) rfl rfl
set_option maxRecDepth 20000 in
theorem nm_329 : (Cond.methodLinkNest "CycleShop$Rack" (34 : Nat) ({ cls := "CycleShop", name := "isWithin", desc := "(II)Z" } : MethodName) "CycleShop") ∈ nw_B := nw_in (i := 329) rfl rfl
set_option maxRecDepth 20000 in
theorem wm_330 : (Cond.methodLink "CycleShop" (197 : Nat) ({ cls := "CycleShop$Rack", name := "balance", desc := "(I)J" } : MethodName)) ∈ bs_B := bs_in (i := 330) rfl rfl
set_option maxRecDepth 20000 in
theorem wm_331 : (Cond.instanceMethod ({ cls := "CycleShop$Rack", name := "balance", desc := "(I)J" } : MethodName)) ∈ bs_B := bs_in (i := 331) rfl rfl
set_option maxRecDepth 20000 in
theorem wm_332 : (Cond.selects "CycleShop$Rack" ({ cls := "CycleShop$Rack", name := "balance", desc := "(I)J" } : MethodName) ({ cls := "CycleShop$Rack", name := "balance", desc := "(I)J" } : MethodName)) ∈ bs_B := bs_in (i := 332) rfl rfl
set_option maxRecDepth 20000 in
theorem wm_333 : (Cond.code ({ cls := "CycleShop$Rack", name := "balance", desc := "(I)J" } : MethodName) prog_5_method_4_code (3 : Nat) (Option.some FieldType.long)) ∈ bs_B := bs_in (i := 333) rfl rfl
set_option maxRecDepth 20000 in
theorem wm_334 : (Cond.methodLink "CycleShop$Rack" (48 : Nat) ({ cls := "CycleShop$Wheel", name := "label", desc := "()I" } : MethodName)) ∈ bs_B := bs_in (i := 334) rfl rfl
set_option maxRecDepth 20000 in
theorem wm_335 : (Cond.instanceMethod ({ cls := "CycleShop$Wheel", name := "label", desc := "()I" } : MethodName)) ∈ bs_B := bs_in (i := 335) rfl rfl
set_option maxRecDepth 20000 in
theorem wm_336 : (Cond.selects "CycleShop$Wheel" ({ cls := "CycleShop$Wheel", name := "label", desc := "()I" } : MethodName) ({ cls := "CycleShop$Wheel", name := "label", desc := "()I" } : MethodName)) ∈ bs_B := bs_in (i := 336) rfl rfl
set_option maxRecDepth 20000 in
theorem wm_337 : (Cond.code ({ cls := "CycleShop$Wheel", name := "label", desc := "()I" } : MethodName) prog_9_method_3_code (1 : Nat) (Option.some FieldType.int)) ∈ bs_B := bs_in (i := 337) rfl rfl
set_option maxRecDepth 20000 in
theorem wm_338 : (Cond.methodLink "CycleShop" (200 : Nat) ({ cls := "CycleShop", name := "excuse", desc := "(II)J" } : MethodName)) ∈ bs_B := bs_in (i := 338) rfl rfl
set_option maxRecDepth 20000 in
theorem wm_340 : (Cond.instanceMethod ({ cls := "CycleShop", name := "excuse", desc := "(II)J" } : MethodName)) ∈ bs_B := bs_in (i := 340) rfl rfl
set_option maxRecDepth 20000 in
theorem wm_341 : (Cond.code ({ cls := "CycleShop", name := "excuse", desc := "(II)J" } : MethodName) prog_1_method_21_code (3 : Nat) (Option.some FieldType.long)) ∈ bs_B := bs_in (i := 341) rfl rfl
set_option maxRecDepth 20000 in
theorem wm_342 : (Cond.methodLink "CycleShop" (147 : Nat) ({ cls := "CycleShop", name := "reasonOf", desc := "(J)I" } : MethodName)) ∈ bs_B := bs_in (i := 342) rfl rfl
set_option maxRecDepth 20000 in
theorem wm_343 : (Cond.static ({ cls := "CycleShop", name := "reasonOf", desc := "(J)I" } : MethodName)) ∈ bs_B := bs_in (i := 343) rfl rfl
set_option maxRecDepth 20000 in
theorem wm_344 : (Cond.code ({ cls := "CycleShop", name := "reasonOf", desc := "(J)I" } : MethodName) prog_1_method_15_code (2 : Nat) (Option.some FieldType.int)) ∈ bs_B := bs_in (i := 344) rfl rfl
set_option maxRecDepth 20000 in
theorem wm_345 : (Cond.constantLong "CycleShop" (142 : Nat) (-2147483648 : Int64)) ∈ bs_B := bs_in (i := 345) rfl rfl
set_option maxRecDepth 20000 in
theorem wm_346 : (Cond.methodLink "CycleShopLaw" (18 : Nat) ({ cls := "CycleShop", name := "step", desc := "(IIIIII)I" } : MethodName)) ∈ bs_B := bs_in (i := 346) rfl rfl
set_option maxRecDepth 20000 in
theorem wm_347 : (Cond.instanceMethod ({ cls := "CycleShop", name := "step", desc := "(IIIIII)I" } : MethodName)) ∈ bs_B := bs_in (i := 347) rfl rfl
set_option maxRecDepth 20000 in
theorem wm_348 : (Cond.selects "CycleShop" ({ cls := "CycleShop", name := "step", desc := "(IIIIII)I" } : MethodName) ({ cls := "CycleShop", name := "step", desc := "(IIIIII)I" } : MethodName)) ∈ bs_B := bs_in (i := 348) rfl rfl
set_option maxRecDepth 20000 in
theorem wm_349 : (Cond.code ({ cls := "CycleShop", name := "step", desc := "(IIIIII)I" } : MethodName) prog_1_method_3_code (8 : Nat) (Option.some FieldType.int)) ∈ bs_B := bs_in (i := 349) rfl rfl
set_option maxRecDepth 20000 in
theorem wm_350 : (Cond.classLink "CycleShop" (72 : Nat) "CycleShop$Step") ∈ bs_B := bs_in (i := 350) rfl rfl
set_option maxRecDepth 20000 in
theorem wm_351 : (Cond.instantiable "CycleShop$Step" (5 : Nat)) ∈ bs_B := bs_in (i := 351) rfl rfl
set_option maxRecDepth 20000 in
theorem wm_352 : (Cond.methodLink "CycleShop" (74 : Nat) ({ cls := "CycleShop$Step", name := "<init>", desc := "(IIIII)V" } : MethodName)) ∈ bs_B := bs_in (i := 352) rfl rfl
set_option maxRecDepth 20000 in
theorem wm_353 : (Cond.instanceMethod ({ cls := "CycleShop$Step", name := "<init>", desc := "(IIIII)V" } : MethodName)) ∈ bs_B := bs_in (i := 353) rfl rfl
set_option maxRecDepth 20000 in
theorem wm_354 : (Cond.code ({ cls := "CycleShop$Step", name := "<init>", desc := "(IIIII)V" } : MethodName) prog_8_method_1_code (6 : Nat) (Option.none : Option FieldType)) ∈ bs_B := bs_in (i := 354) rfl rfl
set_option maxRecDepth 20000 in
theorem wm_355 : (Cond.methodLink "CycleShop$Step" (1 : Nat) ({ cls := "java/lang/Object", name := "<init>", desc := "()V" } : MethodName)) ∈ bs_B := bs_in (i := 355) rfl rfl
set_option maxRecDepth 20000 in
theorem wm_356 : (Cond.fieldLink "CycleShop$Step" (7 : Nat) "CycleShop$Step" "kind" "I") ∈ bs_B := bs_in (i := 356) rfl rfl
set_option maxRecDepth 20000 in
theorem wm_357 : (Cond.fieldLink "CycleShop" (223 : Nat) "CycleShop$Step" "kind" "I") ∈ bs_B := bs_in (i := 357) rfl rfl
set_option maxRecDepth 20000 in
theorem wm_358 : (Cond.fieldLink "CycleShop$Step" (13 : Nat) "CycleShop$Step" "a" "I") ∈ bs_B := bs_in (i := 358) rfl rfl
set_option maxRecDepth 20000 in
theorem wm_359 : (Cond.fieldLink "CycleShop" (226 : Nat) "CycleShop$Step" "a" "I") ∈ bs_B := bs_in (i := 359) rfl rfl
set_option maxRecDepth 20000 in
theorem wm_360 : (Cond.fieldLink "CycleShop$Step" (16 : Nat) "CycleShop$Step" "b" "I") ∈ bs_B := bs_in (i := 360) rfl rfl
set_option maxRecDepth 20000 in
theorem wm_361 : (Cond.fieldLink "CycleShop" (229 : Nat) "CycleShop$Step" "b" "I") ∈ bs_B := bs_in (i := 361) rfl rfl
set_option maxRecDepth 20000 in
theorem wm_362 : (Cond.fieldLink "CycleShop$Step" (19 : Nat) "CycleShop$Step" "c" "I") ∈ bs_B := bs_in (i := 362) rfl rfl
set_option maxRecDepth 20000 in
theorem wm_363 : (Cond.fieldLink "CycleShop" (232 : Nat) "CycleShop$Step" "c" "I") ∈ bs_B := bs_in (i := 363) rfl rfl
set_option maxRecDepth 20000 in
theorem wm_364 : (Cond.fieldLink "CycleShop$Step" (22 : Nat) "CycleShop$Step" "stead" "I") ∈ bs_B := bs_in (i := 364) rfl rfl
set_option maxRecDepth 20000 in
theorem wm_365 : (Cond.fieldLink "CycleShop" (243 : Nat) "CycleShop$Step" "stead" "I") ∈ bs_B := bs_in (i := 365) rfl rfl
set_option maxRecDepth 20000 in
theorem wm_377 : (Cond.methodLink "CycleShop" (77 : Nat) ({ cls := "CycleShop$Job", name := "append", desc := "(LCycleShop$Step;)I" } : MethodName)) ∈ bs_B := bs_in (i := 377) rfl rfl
set_option maxRecDepth 20000 in
theorem wm_378 : (Cond.instanceMethod ({ cls := "CycleShop$Job", name := "append", desc := "(LCycleShop$Step;)I" } : MethodName)) ∈ bs_B := bs_in (i := 378) rfl rfl
set_option maxRecDepth 20000 in
theorem wm_379 : (Cond.selects "CycleShop$Job" ({ cls := "CycleShop$Job", name := "append", desc := "(LCycleShop$Step;)I" } : MethodName) ({ cls := "CycleShop$Job", name := "append", desc := "(LCycleShop$Step;)I" } : MethodName)) ∈ bs_B := bs_in (i := 379) rfl rfl
set_option maxRecDepth 20000 in
theorem wm_380 : (Cond.code ({ cls := "CycleShop$Job", name := "append", desc := "(LCycleShop$Step;)I" } : MethodName) prog_4_method_2_code (2 : Nat) (Option.some FieldType.int)) ∈ bs_B := bs_in (i := 380) rfl rfl
set_option maxRecDepth 20000 in
theorem wm_381 : (Cond.methodLink "CycleShopLaw" (23 : Nat) ({ cls := "CycleShop", name := "clear", desc := "(I)I" } : MethodName)) ∈ bs_B := bs_in (i := 381) rfl rfl
set_option maxRecDepth 20000 in
theorem wm_382 : (Cond.instanceMethod ({ cls := "CycleShop", name := "clear", desc := "(I)I" } : MethodName)) ∈ bs_B := bs_in (i := 382) rfl rfl
set_option maxRecDepth 20000 in
theorem wm_383 : (Cond.selects "CycleShop" ({ cls := "CycleShop", name := "clear", desc := "(I)I" } : MethodName) ({ cls := "CycleShop", name := "clear", desc := "(I)I" } : MethodName)) ∈ bs_B := bs_in (i := 383) rfl rfl
set_option maxRecDepth 20000 in
theorem wm_384 : (Cond.code ({ cls := "CycleShop", name := "clear", desc := "(I)I" } : MethodName) prog_1_method_4_code (2 : Nat) (Option.some FieldType.int)) ∈ bs_B := bs_in (i := 384) rfl rfl
set_option maxRecDepth 20000 in
theorem wm_385 : (Cond.methodLink "CycleShop" (81 : Nat) ({ cls := "CycleShop$Job", name := "empty", desc := "()I" } : MethodName)) ∈ bs_B := bs_in (i := 385) rfl rfl
set_option maxRecDepth 20000 in
theorem wm_386 : (Cond.instanceMethod ({ cls := "CycleShop$Job", name := "empty", desc := "()I" } : MethodName)) ∈ bs_B := bs_in (i := 386) rfl rfl
set_option maxRecDepth 20000 in
theorem wm_387 : (Cond.selects "CycleShop$Job" ({ cls := "CycleShop$Job", name := "empty", desc := "()I" } : MethodName) ({ cls := "CycleShop$Job", name := "empty", desc := "()I" } : MethodName)) ∈ bs_B := bs_in (i := 387) rfl rfl
set_option maxRecDepth 20000 in
theorem wm_388 : (Cond.code ({ cls := "CycleShop$Job", name := "empty", desc := "()I" } : MethodName) prog_4_method_3_code (2 : Nat) (Option.some FieldType.int)) ∈ bs_B := bs_in (i := 388) rfl rfl
set_option maxRecDepth 20000 in
theorem wm_389 : (Cond.methodLink "CycleShopLaw" (28 : Nat) ({ cls := "CycleShop", name := "run", desc := "(II)I" } : MethodName)) ∈ bs_B := bs_in (i := 389) rfl rfl
set_option maxRecDepth 20000 in
theorem wm_390 : (Cond.instanceMethod ({ cls := "CycleShop", name := "run", desc := "(II)I" } : MethodName)) ∈ bs_B := bs_in (i := 390) rfl rfl
set_option maxRecDepth 20000 in
theorem wm_391 : (Cond.selects "CycleShop" ({ cls := "CycleShop", name := "run", desc := "(II)I" } : MethodName) ({ cls := "CycleShop", name := "run", desc := "(II)I" } : MethodName)) ∈ bs_B := bs_in (i := 391) rfl rfl
set_option maxRecDepth 20000 in
theorem wm_392 : (Cond.code ({ cls := "CycleShop", name := "run", desc := "(II)I" } : MethodName) prog_1_method_5_code (6 : Nat) (Option.some FieldType.int)) ∈ bs_B := bs_in (i := 392) rfl rfl
set_option maxRecDepth 20000 in
theorem wm_393 : (Cond.methodLink "CycleShop" (85 : Nat) ({ cls := "CycleShop$Report", name := "restart", desc := "()V" } : MethodName)) ∈ bs_B := bs_in (i := 393) rfl rfl
set_option maxRecDepth 20000 in
theorem wm_394 : (Cond.instanceMethod ({ cls := "CycleShop$Report", name := "restart", desc := "()V" } : MethodName)) ∈ bs_B := bs_in (i := 394) rfl rfl
set_option maxRecDepth 20000 in
theorem wm_395 : (Cond.selects "CycleShop$Report" ({ cls := "CycleShop$Report", name := "restart", desc := "()V" } : MethodName) ({ cls := "CycleShop$Report", name := "restart", desc := "()V" } : MethodName)) ∈ bs_B := bs_in (i := 395) rfl rfl
set_option maxRecDepth 20000 in
theorem wm_396 : (Cond.code ({ cls := "CycleShop$Report", name := "restart", desc := "()V" } : MethodName) prog_6_method_2_code (1 : Nat) (Option.none : Option FieldType)) ∈ bs_B := bs_in (i := 396) rfl rfl
set_option maxRecDepth 20000 in
theorem wm_397 : (Cond.methodLink "CycleShop" (92 : Nat) ({ cls := "CycleShop", name := "isDone", desc := "(LCycleShop$Job;I)Z" } : MethodName)) ∈ bs_B := bs_in (i := 397) rfl rfl
set_option maxRecDepth 20000 in
theorem wm_399 : (Cond.instanceMethod ({ cls := "CycleShop", name := "isDone", desc := "(LCycleShop$Job;I)Z" } : MethodName)) ∈ bs_B := bs_in (i := 399) rfl rfl
set_option maxRecDepth 20000 in
theorem wm_400 : (Cond.code ({ cls := "CycleShop", name := "isDone", desc := "(LCycleShop$Job;I)Z" } : MethodName) prog_1_method_22_code (7 : Nat) (Option.some FieldType.boolean)) ∈ bs_B := bs_in (i := 400) rfl rfl
set_option maxRecDepth 20000 in
theorem wm_401 : (Cond.methodLink "CycleShop" (219 : Nat) ({ cls := "CycleShop$Job", name := "stepAt", desc := "(I)LCycleShop$Step;" } : MethodName)) ∈ bs_B := bs_in (i := 401) rfl rfl
set_option maxRecDepth 20000 in
theorem wm_402 : (Cond.instanceMethod ({ cls := "CycleShop$Job", name := "stepAt", desc := "(I)LCycleShop$Step;" } : MethodName)) ∈ bs_B := bs_in (i := 402) rfl rfl
set_option maxRecDepth 20000 in
theorem wm_403 : (Cond.selects "CycleShop$Job" ({ cls := "CycleShop$Job", name := "stepAt", desc := "(I)LCycleShop$Step;" } : MethodName) ({ cls := "CycleShop$Job", name := "stepAt", desc := "(I)LCycleShop$Step;" } : MethodName)) ∈ bs_B := bs_in (i := 403) rfl rfl
set_option maxRecDepth 20000 in
theorem wm_404 : (Cond.code ({ cls := "CycleShop$Job", name := "stepAt", desc := "(I)LCycleShop$Step;" } : MethodName) prog_4_method_4_code (2 : Nat) (Option.some (FieldType.object "CycleShop$Step"))) ∈ bs_B := bs_in (i := 404) rfl rfl
set_option maxRecDepth 20000 in
theorem nm_405 : (Cond.methodLinkNest "CycleShop$Job" (21 : Nat) ({ cls := "CycleShop", name := "isWithin", desc := "(II)Z" } : MethodName) "CycleShop") ∈ nw_B := nw_in (i := 405) rfl rfl
set_option maxRecDepth 20000 in
theorem wm_406 : (Cond.methodLink "CycleShop" (235 : Nat) ({ cls := "CycleShop$Report", name := "addFailure", desc := "(II)V" } : MethodName)) ∈ bs_B := bs_in (i := 406) rfl rfl
set_option maxRecDepth 20000 in
theorem wm_407 : (Cond.instanceMethod ({ cls := "CycleShop$Report", name := "addFailure", desc := "(II)V" } : MethodName)) ∈ bs_B := bs_in (i := 407) rfl rfl
set_option maxRecDepth 20000 in
theorem wm_408 : (Cond.selects "CycleShop$Report" ({ cls := "CycleShop$Report", name := "addFailure", desc := "(II)V" } : MethodName) ({ cls := "CycleShop$Report", name := "addFailure", desc := "(II)V" } : MethodName)) ∈ bs_B := bs_in (i := 408) rfl rfl
set_option maxRecDepth 20000 in
theorem wm_409 : (Cond.code ({ cls := "CycleShop$Report", name := "addFailure", desc := "(II)V" } : MethodName) prog_6_method_4_code (3 : Nat) (Option.none : Option FieldType)) ∈ bs_B := bs_in (i := 409) rfl rfl
set_option maxRecDepth 20000 in
theorem wm_410 : (Cond.methodLink "CycleShop" (239 : Nat) ({ cls := "CycleShop$Report", name := "addAnswer", desc := "(J)V" } : MethodName)) ∈ bs_B := bs_in (i := 410) rfl rfl
set_option maxRecDepth 20000 in
theorem wm_411 : (Cond.instanceMethod ({ cls := "CycleShop$Report", name := "addAnswer", desc := "(J)V" } : MethodName)) ∈ bs_B := bs_in (i := 411) rfl rfl
set_option maxRecDepth 20000 in
theorem wm_412 : (Cond.selects "CycleShop$Report" ({ cls := "CycleShop$Report", name := "addAnswer", desc := "(J)V" } : MethodName) ({ cls := "CycleShop$Report", name := "addAnswer", desc := "(J)V" } : MethodName)) ∈ bs_B := bs_in (i := 412) rfl rfl
set_option maxRecDepth 20000 in
theorem wm_413 : (Cond.code ({ cls := "CycleShop$Report", name := "addAnswer", desc := "(J)V" } : MethodName) prog_6_method_3_code (3 : Nat) (Option.none : Option FieldType)) ∈ bs_B := bs_in (i := 413) rfl rfl
set_option maxRecDepth 20000 in
theorem wm_414 : (Cond.methodLink "CycleShop" (96 : Nat) ({ cls := "CycleShop", name := "isDoneInStead", desc := "(LCycleShop$Job;I)Z" } : MethodName)) ∈ bs_B := bs_in (i := 414) rfl rfl
set_option maxRecDepth 20000 in
theorem wm_416 : (Cond.instanceMethod ({ cls := "CycleShop", name := "isDoneInStead", desc := "(LCycleShop$Job;I)Z" } : MethodName)) ∈ bs_B := bs_in (i := 416) rfl rfl
set_option maxRecDepth 20000 in
theorem wm_417 : (Cond.code ({ cls := "CycleShop", name := "isDoneInStead", desc := "(LCycleShop$Job;I)Z" } : MethodName) prog_1_method_23_code (4 : Nat) (Option.some FieldType.boolean)) ∈ bs_B := bs_in (i := 417) rfl rfl
set_option maxRecDepth 20000 in
theorem wm_418 : (Cond.methodLink "CycleShopLaw" (33 : Nat) ({ cls := "CycleShop", name := "told", desc := "(I)I" } : MethodName)) ∈ bs_B := bs_in (i := 418) rfl rfl
set_option maxRecDepth 20000 in
theorem wm_419 : (Cond.instanceMethod ({ cls := "CycleShop", name := "told", desc := "(I)I" } : MethodName)) ∈ bs_B := bs_in (i := 419) rfl rfl
set_option maxRecDepth 20000 in
theorem wm_420 : (Cond.selects "CycleShop" ({ cls := "CycleShop", name := "told", desc := "(I)I" } : MethodName) ({ cls := "CycleShop", name := "told", desc := "(I)I" } : MethodName)) ∈ bs_B := bs_in (i := 420) rfl rfl
set_option maxRecDepth 20000 in
theorem wm_421 : (Cond.code ({ cls := "CycleShop", name := "told", desc := "(I)I" } : MethodName) prog_1_method_6_code (2 : Nat) (Option.some FieldType.int)) ∈ bs_B := bs_in (i := 421) rfl rfl
set_option maxRecDepth 20000 in
theorem wm_422 : (Cond.methodLink "CycleShopLaw" (37 : Nat) ({ cls := "CycleShop", name := "sum", desc := "()J" } : MethodName)) ∈ bs_B := bs_in (i := 422) rfl rfl
set_option maxRecDepth 20000 in
theorem wm_423 : (Cond.instanceMethod ({ cls := "CycleShop", name := "sum", desc := "()J" } : MethodName)) ∈ bs_B := bs_in (i := 423) rfl rfl
set_option maxRecDepth 20000 in
theorem wm_424 : (Cond.selects "CycleShop" ({ cls := "CycleShop", name := "sum", desc := "()J" } : MethodName) ({ cls := "CycleShop", name := "sum", desc := "()J" } : MethodName)) ∈ bs_B := bs_in (i := 424) rfl rfl
set_option maxRecDepth 20000 in
theorem wm_425 : (Cond.code ({ cls := "CycleShop", name := "sum", desc := "()J" } : MethodName) prog_1_method_7_code (1 : Nat) (Option.some FieldType.long)) ∈ bs_B := bs_in (i := 425) rfl rfl
set_option maxRecDepth 20000 in
theorem wm_426 : (Cond.methodLink "CycleShopLaw" (42 : Nat) ({ cls := "CycleShop", name := "tally", desc := "(I)I" } : MethodName)) ∈ bs_B := bs_in (i := 426) rfl rfl
set_option maxRecDepth 20000 in
theorem wm_427 : (Cond.instanceMethod ({ cls := "CycleShop", name := "tally", desc := "(I)I" } : MethodName)) ∈ bs_B := bs_in (i := 427) rfl rfl
set_option maxRecDepth 20000 in
theorem wm_428 : (Cond.selects "CycleShop" ({ cls := "CycleShop", name := "tally", desc := "(I)I" } : MethodName) ({ cls := "CycleShop", name := "tally", desc := "(I)I" } : MethodName)) ∈ bs_B := bs_in (i := 428) rfl rfl
set_option maxRecDepth 20000 in
theorem wm_429 : (Cond.code ({ cls := "CycleShop", name := "tally", desc := "(I)I" } : MethodName) prog_1_method_8_code (2 : Nat) (Option.some FieldType.int)) ∈ bs_B := bs_in (i := 429) rfl rfl
set_option maxRecDepth 20000 in
theorem wm_430 : (Cond.methodLink "CycleShopLaw" (46 : Nat) ({ cls := "CycleShop", name := "stand", desc := "(II)I" } : MethodName)) ∈ bs_B := bs_in (i := 430) rfl rfl
set_option maxRecDepth 20000 in
theorem wm_431 : (Cond.instanceMethod ({ cls := "CycleShop", name := "stand", desc := "(II)I" } : MethodName)) ∈ bs_B := bs_in (i := 431) rfl rfl
set_option maxRecDepth 20000 in
theorem wm_432 : (Cond.selects "CycleShop" ({ cls := "CycleShop", name := "stand", desc := "(II)I" } : MethodName) ({ cls := "CycleShop", name := "stand", desc := "(II)I" } : MethodName)) ∈ bs_B := bs_in (i := 432) rfl rfl
set_option maxRecDepth 20000 in
theorem wm_433 : (Cond.code ({ cls := "CycleShop", name := "stand", desc := "(II)I" } : MethodName) prog_1_method_9_code (3 : Nat) (Option.some FieldType.int)) ∈ bs_B := bs_in (i := 433) rfl rfl
set_option maxRecDepth 20000 in
theorem wm_434 : (Cond.constant "CycleShop" (118 : Nat) (-2147483648 : Int32)) ∈ bs_B := bs_in (i := 434) rfl rfl
set_option maxRecDepth 20000 in
theorem wm_435 : (Cond.methodLink "CycleShop" (119 : Nat) ({ cls := "CycleShop", name := "hanging", desc := "(LCycleShop$Stand;)I" } : MethodName)) ∈ bs_B := bs_in (i := 435) rfl rfl
set_option maxRecDepth 20000 in
theorem wm_437 : (Cond.instanceMethod ({ cls := "CycleShop", name := "hanging", desc := "(LCycleShop$Stand;)I" } : MethodName)) ∈ bs_B := bs_in (i := 437) rfl rfl
set_option maxRecDepth 20000 in
theorem wm_438 : (Cond.code ({ cls := "CycleShop", name := "hanging", desc := "(LCycleShop$Stand;)I" } : MethodName) prog_1_method_24_code (4 : Nat) (Option.some FieldType.int)) ∈ bs_B := bs_in (i := 438) rfl rfl
set_option maxRecDepth 20000 in
theorem wm_439 : (Cond.methodLink "CycleShop" (250 : Nat) ({ cls := "CycleShop$Rack", name := "holds", desc := "(LCycleShop$Wheel;)Z" } : MethodName)) ∈ bs_B := bs_in (i := 439) rfl rfl
set_option maxRecDepth 20000 in
theorem wm_440 : (Cond.instanceMethod ({ cls := "CycleShop$Rack", name := "holds", desc := "(LCycleShop$Wheel;)Z" } : MethodName)) ∈ bs_B := bs_in (i := 440) rfl rfl
set_option maxRecDepth 20000 in
theorem wm_441 : (Cond.selects "CycleShop$Rack" ({ cls := "CycleShop$Rack", name := "holds", desc := "(LCycleShop$Wheel;)Z" } : MethodName) ({ cls := "CycleShop$Rack", name := "holds", desc := "(LCycleShop$Wheel;)Z" } : MethodName)) ∈ bs_B := bs_in (i := 441) rfl rfl
set_option maxRecDepth 20000 in
theorem wm_442 : (Cond.code ({ cls := "CycleShop$Rack", name := "holds", desc := "(LCycleShop$Wheel;)Z" } : MethodName) prog_5_method_6_code (4 : Nat) (Option.some FieldType.boolean)) ∈ bs_B := bs_in (i := 442) rfl rfl
set_option maxRecDepth 20000 in
theorem wm_443 : (Cond.methodLink "CycleShop" (123 : Nat) ({ cls := "CycleShop$Stand", name := "tell", desc := "(I)I" } : MethodName)) ∈ bs_B := bs_in (i := 443) rfl rfl
set_option maxRecDepth 20000 in
theorem wm_444 : (Cond.instanceMethod ({ cls := "CycleShop$Stand", name := "tell", desc := "(I)I" } : MethodName)) ∈ bs_B := bs_in (i := 444) rfl rfl
set_option maxRecDepth 20000 in
theorem wm_445 : (Cond.selects "CycleShop$Stand" ({ cls := "CycleShop$Stand", name := "tell", desc := "(I)I" } : MethodName) ({ cls := "CycleShop$Stand", name := "tell", desc := "(I)I" } : MethodName)) ∈ bs_B := bs_in (i := 445) rfl rfl
set_option maxRecDepth 20000 in
theorem wm_446 : (Cond.code ({ cls := "CycleShop$Stand", name := "tell", desc := "(I)I" } : MethodName) prog_7_method_10_code (2 : Nat) (Option.some FieldType.int)) ∈ bs_B := bs_in (i := 446) rfl rfl
set_option maxRecDepth 20000 in
theorem wm_447 : (Cond.constant "CycleShop$Stand" (59 : Nat) (-2147483648 : Int32)) ∈ bs_B := bs_in (i := 447) rfl rfl
set_option maxRecDepth 20000 in
theorem wm_448 : (Cond.methodLink "CycleShopLaw" (50 : Nat) ({ cls := "CycleShop", name := "basket", desc := "(II)I" } : MethodName)) ∈ bs_B := bs_in (i := 448) rfl rfl
set_option maxRecDepth 20000 in
theorem wm_449 : (Cond.instanceMethod ({ cls := "CycleShop", name := "basket", desc := "(II)I" } : MethodName)) ∈ bs_B := bs_in (i := 449) rfl rfl
set_option maxRecDepth 20000 in
theorem wm_450 : (Cond.selects "CycleShop" ({ cls := "CycleShop", name := "basket", desc := "(II)I" } : MethodName) ({ cls := "CycleShop", name := "basket", desc := "(II)I" } : MethodName)) ∈ bs_B := bs_in (i := 450) rfl rfl
set_option maxRecDepth 20000 in
theorem wm_451 : (Cond.code ({ cls := "CycleShop", name := "basket", desc := "(II)I" } : MethodName) prog_1_method_10_code (3 : Nat) (Option.some FieldType.int)) ∈ bs_B := bs_in (i := 451) rfl rfl
set_option maxRecDepth 20000 in
theorem wm_452 : (Cond.methodLink "CycleShop" (127 : Nat) ({ cls := "CycleShop$Basket", name := "numberAt", desc := "(I)I" } : MethodName)) ∈ bs_B := bs_in (i := 452) rfl rfl
set_option maxRecDepth 20000 in
theorem wm_453 : (Cond.instanceMethod ({ cls := "CycleShop$Basket", name := "numberAt", desc := "(I)I" } : MethodName)) ∈ bs_B := bs_in (i := 453) rfl rfl
set_option maxRecDepth 20000 in
theorem wm_454 : (Cond.selects "CycleShop$Basket" ({ cls := "CycleShop$Basket", name := "numberAt", desc := "(I)I" } : MethodName) ({ cls := "CycleShop$Basket", name := "numberAt", desc := "(I)I" } : MethodName)) ∈ bs_B := bs_in (i := 454) rfl rfl
set_option maxRecDepth 20000 in
theorem wm_455 : (Cond.code ({ cls := "CycleShop$Basket", name := "numberAt", desc := "(I)I" } : MethodName) prog_2_method_4_code (2 : Nat) (Option.some FieldType.int)) ∈ bs_B := bs_in (i := 455) rfl rfl
set_option maxRecDepth 20000 in
theorem wm_456 : (Cond.methodLink "CycleShopLaw" (54 : Nat) ({ cls := "CycleShop", name := "rack", desc := "(II)I" } : MethodName)) ∈ bs_B := bs_in (i := 456) rfl rfl
set_option maxRecDepth 20000 in
theorem wm_457 : (Cond.instanceMethod ({ cls := "CycleShop", name := "rack", desc := "(II)I" } : MethodName)) ∈ bs_B := bs_in (i := 457) rfl rfl
set_option maxRecDepth 20000 in
theorem wm_458 : (Cond.selects "CycleShop" ({ cls := "CycleShop", name := "rack", desc := "(II)I" } : MethodName) ({ cls := "CycleShop", name := "rack", desc := "(II)I" } : MethodName)) ∈ bs_B := bs_in (i := 458) rfl rfl
set_option maxRecDepth 20000 in
theorem wm_459 : (Cond.code ({ cls := "CycleShop", name := "rack", desc := "(II)I" } : MethodName) prog_1_method_11_code (4 : Nat) (Option.some FieldType.int)) ∈ bs_B := bs_in (i := 459) rfl rfl
set_option maxRecDepth 20000 in
theorem wm_460 : (Cond.methodLink "CycleShop" (130 : Nat) ({ cls := "CycleShop$Rack", name := "wheelAt", desc := "(I)LCycleShop$Wheel;" } : MethodName)) ∈ bs_B := bs_in (i := 460) rfl rfl
set_option maxRecDepth 20000 in
theorem wm_461 : (Cond.instanceMethod ({ cls := "CycleShop$Rack", name := "wheelAt", desc := "(I)LCycleShop$Wheel;" } : MethodName)) ∈ bs_B := bs_in (i := 461) rfl rfl
set_option maxRecDepth 20000 in
theorem wm_462 : (Cond.selects "CycleShop$Rack" ({ cls := "CycleShop$Rack", name := "wheelAt", desc := "(I)LCycleShop$Wheel;" } : MethodName) ({ cls := "CycleShop$Rack", name := "wheelAt", desc := "(I)LCycleShop$Wheel;" } : MethodName)) ∈ bs_B := bs_in (i := 462) rfl rfl
set_option maxRecDepth 20000 in
theorem wm_463 : (Cond.code ({ cls := "CycleShop$Rack", name := "wheelAt", desc := "(I)LCycleShop$Wheel;" } : MethodName) prog_5_method_5_code (2 : Nat) (Option.some (FieldType.object "CycleShop$Wheel"))) ∈ bs_B := bs_in (i := 463) rfl rfl
set_option maxRecDepth 20000 in
theorem wm_464 : (Cond.methodLink "CycleShop" (134 : Nat) ({ cls := "CycleShop$Wheel", name := "label", desc := "()I" } : MethodName)) ∈ bs_B := bs_in (i := 464) rfl rfl
set_option maxRecDepth 20000 in
theorem wm_465 : (Cond.methodLink "CycleShopLaw" (58 : Nat) ({ cls := "CycleShop", name := "grid", desc := "(III)I" } : MethodName)) ∈ bs_B := bs_in (i := 465) rfl rfl
set_option maxRecDepth 20000 in
theorem wm_466 : (Cond.instanceMethod ({ cls := "CycleShop", name := "grid", desc := "(III)I" } : MethodName)) ∈ bs_B := bs_in (i := 466) rfl rfl
set_option maxRecDepth 20000 in
theorem wm_467 : (Cond.selects "CycleShop" ({ cls := "CycleShop", name := "grid", desc := "(III)I" } : MethodName) ({ cls := "CycleShop", name := "grid", desc := "(III)I" } : MethodName)) ∈ bs_B := bs_in (i := 467) rfl rfl
set_option maxRecDepth 20000 in
theorem wm_468 : (Cond.code ({ cls := "CycleShop", name := "grid", desc := "(III)I" } : MethodName) prog_1_method_12_code (4 : Nat) (Option.some FieldType.int)) ∈ bs_B := bs_in (i := 468) rfl rfl
set_option maxRecDepth 20000 in
theorem wm_469 : (Cond.methodLink "CycleShop" (139 : Nat) ({ cls := "CycleShop$Grid", name := "numberAt", desc := "(II)I" } : MethodName)) ∈ bs_B := bs_in (i := 469) rfl rfl
set_option maxRecDepth 20000 in
theorem wm_470 : (Cond.instanceMethod ({ cls := "CycleShop$Grid", name := "numberAt", desc := "(II)I" } : MethodName)) ∈ bs_B := bs_in (i := 470) rfl rfl
set_option maxRecDepth 20000 in
theorem wm_471 : (Cond.selects "CycleShop$Grid" ({ cls := "CycleShop$Grid", name := "numberAt", desc := "(II)I" } : MethodName) ({ cls := "CycleShop$Grid", name := "numberAt", desc := "(II)I" } : MethodName)) ∈ bs_B := bs_in (i := 471) rfl rfl
set_option maxRecDepth 20000 in
theorem wm_472 : (Cond.code ({ cls := "CycleShop$Grid", name := "numberAt", desc := "(II)I" } : MethodName) prog_3_method_6_code (3 : Nat) (Option.some FieldType.int)) ∈ bs_B := bs_in (i := 472) rfl rfl
set_option maxRecDepth 20000 in
theorem wm_473 : (Cond.classLink "CycleShopLaw" (10 : Nat) "CycleShopModel") ∈ bs_B := bs_in (i := 473) rfl rfl
set_option maxRecDepth 20000 in
theorem wm_474 : (Cond.instantiable "CycleShopModel" (28 : Nat)) ∈ bs_B := bs_in (i := 474) rfl rfl
set_option maxRecDepth 20000 in
theorem wm_475 : (Cond.methodLink "CycleShopLaw" (12 : Nat) ({ cls := "CycleShopModel", name := "<init>", desc := "()V" } : MethodName)) ∈ bs_B := bs_in (i := 475) rfl rfl
set_option maxRecDepth 20000 in
theorem wm_476 : (Cond.instanceMethod ({ cls := "CycleShopModel", name := "<init>", desc := "()V" } : MethodName)) ∈ bs_B := bs_in (i := 476) rfl rfl
set_option maxRecDepth 20000 in
theorem wm_477 : (Cond.code ({ cls := "CycleShopModel", name := "<init>", desc := "()V" } : MethodName) prog_11_method_1_code (2 : Nat) (Option.none : Option FieldType)) ∈ bs_B := bs_in (i := 477) rfl rfl
set_option maxRecDepth 20000 in
theorem wm_478 : (Cond.methodLink "CycleShopModel" (1 : Nat) ({ cls := "java/lang/Object", name := "<init>", desc := "()V" } : MethodName)) ∈ bs_B := bs_in (i := 478) rfl rfl
set_option maxRecDepth 20000 in
theorem wm_479 : (Cond.fieldLink "CycleShopModel" (7 : Nat) "CycleShopModel" "isThere" "[Z") ∈ bs_B := bs_in (i := 479) rfl rfl
set_option maxRecDepth 20000 in
theorem wm_480 : (Cond.fieldLink "CycleShopModel" (13 : Nat) "CycleShopModel" "frames" "[I") ∈ bs_B := bs_in (i := 480) rfl rfl
set_option maxRecDepth 20000 in
theorem wm_481 : (Cond.fieldLink "CycleShopModel" (17 : Nat) "CycleShopModel" "wheel" "[I") ∈ bs_B := bs_in (i := 481) rfl rfl
set_option maxRecDepth 20000 in
theorem wm_482 : (Cond.fieldLink "CycleShopModel" (20 : Nat) "CycleShopModel" "lamps" "[I") ∈ bs_B := bs_in (i := 482) rfl rfl
set_option maxRecDepth 20000 in
theorem wm_483 : (Cond.fieldLink "CycleShopModel" (23 : Nat) "CycleShopModel" "charges" "[I") ∈ bs_B := bs_in (i := 483) rfl rfl
set_option maxRecDepth 20000 in
theorem wm_484 : (Cond.fieldLink "CycleShopModel" (26 : Nat) "CycleShopModel" "spokes" "[I") ∈ bs_B := bs_in (i := 484) rfl rfl
set_option maxRecDepth 20000 in
theorem wm_485 : (Cond.fieldLink "CycleShopModel" (29 : Nat) "CycleShopModel" "turns" "[I") ∈ bs_B := bs_in (i := 485) rfl rfl
set_option maxRecDepth 20000 in
theorem wm_486 : (Cond.fieldLink "CycleShopModel" (32 : Nat) "CycleShopModel" "isDisc" "[Z") ∈ bs_B := bs_in (i := 486) rfl rfl
set_option maxRecDepth 20000 in
theorem wm_487 : (Cond.fieldLink "CycleShopModel" (35 : Nat) "CycleShopModel" "baskets" "[I") ∈ bs_B := bs_in (i := 487) rfl rfl
set_option maxRecDepth 20000 in
theorem wm_488 : (Cond.fieldLink "CycleShopModel" (38 : Nat) "CycleShopModel" "inBasket" "[I") ∈ bs_B := bs_in (i := 488) rfl rfl
set_option maxRecDepth 20000 in
theorem wm_489 : (Cond.fieldLink "CycleShopModel" (41 : Nat) "CycleShopModel" "racks" "[I") ∈ bs_B := bs_in (i := 489) rfl rfl
set_option maxRecDepth 20000 in
theorem wm_490 : (Cond.fieldLink "CycleShopModel" (44 : Nat) "CycleShopModel" "forDiscs" "[Z") ∈ bs_B := bs_in (i := 490) rfl rfl
set_option maxRecDepth 20000 in
theorem wm_491 : (Cond.fieldLink "CycleShopModel" (47 : Nat) "CycleShopModel" "inRack" "[I") ∈ bs_B := bs_in (i := 491) rfl rfl
set_option maxRecDepth 20000 in
theorem wm_492 : (Cond.fieldLink "CycleShopModel" (50 : Nat) "CycleShopModel" "grids" "[I") ∈ bs_B := bs_in (i := 492) rfl rfl
set_option maxRecDepth 20000 in
theorem wm_493 : (Cond.fieldLink "CycleShopModel" (53 : Nat) "CycleShopModel" "wide" "[I") ∈ bs_B := bs_in (i := 493) rfl rfl
set_option maxRecDepth 20000 in
theorem wm_494 : (Cond.fieldLink "CycleShopModel" (56 : Nat) "CycleShopModel" "inGrid" "[I") ∈ bs_B := bs_in (i := 494) rfl rfl
set_option maxRecDepth 20000 in
theorem wm_495 : (Cond.fieldLink "CycleShopModel" (59 : Nat) "CycleShopModel" "excuses" "[I") ∈ bs_B := bs_in (i := 495) rfl rfl
set_option maxRecDepth 20000 in
theorem wm_496 : (Cond.fieldLink "CycleShopModel" (62 : Nat) "CycleShopModel" "steps" "[I") ∈ bs_B := bs_in (i := 496) rfl rfl
set_option maxRecDepth 20000 in
theorem wm_497 : (Cond.fieldLink "CycleShopModel" (65 : Nat) "CycleShopModel" "step" "[I") ∈ bs_B := bs_in (i := 497) rfl rfl
set_option maxRecDepth 20000 in
theorem wm_498 : (Cond.fieldLink "CycleShopModel" (154 : Nat) "CycleShopModel" "done" "I") ∈ bs_B := bs_in (i := 498) rfl rfl
set_option maxRecDepth 20000 in
theorem wm_499 : (Cond.fieldLink "CycleShopModel" (161 : Nat) "CycleShopModel" "failed" "I") ∈ bs_B := bs_in (i := 499) rfl rfl
set_option maxRecDepth 20000 in
theorem wm_500 : (Cond.fieldLink "CycleShopModel" (164 : Nat) "CycleShopModel" "reason" "I") ∈ bs_B := bs_in (i := 500) rfl rfl
set_option maxRecDepth 20000 in
theorem wm_501 : (Cond.fieldLink "CycleShopModel" (68 : Nat) "CycleShopModel" "where" "I") ∈ bs_B := bs_in (i := 501) rfl rfl
set_option maxRecDepth 20000 in
theorem wm_502 : (Cond.fieldLink "CycleShopModel" (167 : Nat) "CycleShopModel" "came" "I") ∈ bs_B := bs_in (i := 502) rfl rfl
set_option maxRecDepth 20000 in
theorem wm_503 : (Cond.fieldLink "CycleShopModel" (157 : Nat) "CycleShopModel" "sum" "J") ∈ bs_B := bs_in (i := 503) rfl rfl
set_option maxRecDepth 20000 in
theorem wm_504 : (Cond.fieldLink "CycleShopModel" (72 : Nat) "CycleShopModel" "tally" "[I") ∈ bs_B := bs_in (i := 504) rfl rfl
set_option maxRecDepth 20000 in
theorem wm_505 : (Cond.fieldLink "CycleShopModel" (87 : Nat) "CycleShopModel" "why" "I") ∈ bs_B := bs_in (i := 505) rfl rfl
set_option maxRecDepth 20000 in
theorem wm_506 : (Cond.fieldLink "CycleShopModel" (90 : Nat) "CycleShopModel" "answer" "I") ∈ bs_B := bs_in (i := 506) rfl rfl
set_option maxRecDepth 20000 in
theorem wm_564 : (Cond.arrayClass FieldType.boolean) ∈ bs_B := bs_in (i := 564) rfl rfl
set_option maxRecDepth 20000 in
theorem wm_565 : (Cond.methodLink "CycleShopLaw" (17 : Nat) ({ cls := "CycleShopModel", name := "act", desc := "(IIII)J" } : MethodName)) ∈ bs_B := bs_in (i := 565) rfl rfl
set_option maxRecDepth 20000 in
theorem wm_566 : (Cond.instanceMethod ({ cls := "CycleShopModel", name := "act", desc := "(IIII)J" } : MethodName)) ∈ bs_B := bs_in (i := 566) rfl rfl
set_option maxRecDepth 20000 in
theorem wm_567 : (Cond.selects "CycleShopModel" ({ cls := "CycleShopModel", name := "act", desc := "(IIII)J" } : MethodName) ({ cls := "CycleShopModel", name := "act", desc := "(IIII)J" } : MethodName)) ∈ bs_B := bs_in (i := 567) rfl rfl
set_option maxRecDepth 20000 in
theorem wm_568 : (Cond.code ({ cls := "CycleShopModel", name := "act", desc := "(IIII)J" } : MethodName) prog_11_method_19_code (5 : Nat) (Option.some FieldType.long)) ∈ bs_B := bs_in (i := 568) rfl rfl
set_option maxRecDepth 20000 in
theorem wm_569 : (Cond.methodLink "CycleShopModel" (141 : Nat) ({ cls := "CycleShopModel", name := "isStep", desc := "(IIII)Z" } : MethodName)) ∈ bs_B := bs_in (i := 569) rfl rfl
set_option maxRecDepth 20000 in
theorem wm_570 : (Cond.static ({ cls := "CycleShopModel", name := "isStep", desc := "(IIII)Z" } : MethodName)) ∈ bs_B := bs_in (i := 570) rfl rfl
set_option maxRecDepth 20000 in
theorem wm_571 : (Cond.code ({ cls := "CycleShopModel", name := "isStep", desc := "(IIII)Z" } : MethodName) prog_11_method_3_code (4 : Nat) (Option.some FieldType.boolean)) ∈ bs_B := bs_in (i := 571) rfl rfl
set_option maxRecDepth 20000 in
theorem wm_572 : (Cond.constantLong "CycleShopModel" (75 : Nat) (16 : Int64)) ∈ bs_B := bs_in (i := 572) rfl rfl
set_option maxRecDepth 20000 in
theorem wm_573 : (Cond.methodLink "CycleShopModel" (77 : Nat) ({ cls := "CycleShopModel", name := "in", desc := "(JJJ)Z" } : MethodName)) ∈ bs_B := bs_in (i := 573) rfl rfl
set_option maxRecDepth 20000 in
theorem wm_574 : (Cond.static ({ cls := "CycleShopModel", name := "in", desc := "(JJJ)Z" } : MethodName)) ∈ bs_B := bs_in (i := 574) rfl rfl
set_option maxRecDepth 20000 in
theorem wm_575 : (Cond.code ({ cls := "CycleShopModel", name := "in", desc := "(JJJ)Z" } : MethodName) prog_11_method_2_code (6 : Nat) (Option.some FieldType.boolean)) ∈ bs_B := bs_in (i := 575) rfl rfl
set_option maxRecDepth 20000 in
theorem wm_576 : (Cond.constantLong "CycleShopModel" (81 : Nat) (3 : Int64)) ∈ bs_B := bs_in (i := 576) rfl rfl
set_option maxRecDepth 20000 in
theorem wm_577 : (Cond.constantLong "CycleShopModel" (145 : Nat) (-9223372036854775808 : Int64)) ∈ bs_B := bs_in (i := 577) rfl rfl
set_option maxRecDepth 20000 in
theorem wm_578 : (Cond.methodLink "CycleShopModel" (147 : Nat) ({ cls := "CycleShopModel", name := "does", desc := "(IIII)V" } : MethodName)) ∈ bs_B := bs_in (i := 578) rfl rfl
set_option maxRecDepth 20000 in
theorem wm_580 : (Cond.instanceMethod ({ cls := "CycleShopModel", name := "does", desc := "(IIII)V" } : MethodName)) ∈ bs_B := bs_in (i := 580) rfl rfl
set_option maxRecDepth 20000 in
theorem wm_581 : (Cond.code ({ cls := "CycleShopModel", name := "does", desc := "(IIII)V" } : MethodName) prog_11_method_18_code (5 : Nat) (Option.none : Option FieldType)) ∈ bs_B := bs_in (i := 581) rfl rfl
set_option maxRecDepth 20000 in
theorem wm_582 : (Cond.methodLink "CycleShopModel" (110 : Nat) ({ cls := "CycleShopModel", name := "build", desc := "(II)V" } : MethodName)) ∈ bs_B := bs_in (i := 582) rfl rfl
set_option maxRecDepth 20000 in
theorem wm_584 : (Cond.instanceMethod ({ cls := "CycleShopModel", name := "build", desc := "(II)V" } : MethodName)) ∈ bs_B := bs_in (i := 584) rfl rfl
set_option maxRecDepth 20000 in
theorem wm_585 : (Cond.code ({ cls := "CycleShopModel", name := "build", desc := "(II)V" } : MethodName) prog_11_method_7_code (3 : Nat) (Option.none : Option FieldType)) ∈ bs_B := bs_in (i := 585) rfl rfl
set_option maxRecDepth 20000 in
theorem wm_586 : (Cond.methodLink "CycleShopModel" (93 : Nat) ({ cls := "CycleShopModel", name := "strip", desc := "(I)V" } : MethodName)) ∈ bs_B := bs_in (i := 586) rfl rfl
set_option maxRecDepth 20000 in
theorem wm_588 : (Cond.instanceMethod ({ cls := "CycleShopModel", name := "strip", desc := "(I)V" } : MethodName)) ∈ bs_B := bs_in (i := 588) rfl rfl
set_option maxRecDepth 20000 in
theorem wm_589 : (Cond.code ({ cls := "CycleShopModel", name := "strip", desc := "(I)V" } : MethodName) prog_11_method_8_code (2 : Nat) (Option.none : Option FieldType)) ∈ bs_B := bs_in (i := 589) rfl rfl
set_option maxRecDepth 20000 in
theorem wm_590 : (Cond.methodLink "CycleShopModel" (114 : Nat) ({ cls := "CycleShopModel", name := "fit", desc := "(III)V" } : MethodName)) ∈ bs_B := bs_in (i := 590) rfl rfl
set_option maxRecDepth 20000 in
theorem wm_592 : (Cond.instanceMethod ({ cls := "CycleShopModel", name := "fit", desc := "(III)V" } : MethodName)) ∈ bs_B := bs_in (i := 592) rfl rfl
set_option maxRecDepth 20000 in
theorem wm_593 : (Cond.code ({ cls := "CycleShopModel", name := "fit", desc := "(III)V" } : MethodName) prog_11_method_9_code (5 : Nat) (Option.none : Option FieldType)) ∈ bs_B := bs_in (i := 593) rfl rfl
set_option maxRecDepth 20000 in
theorem wm_594 : (Cond.methodLink "CycleShopModel" (97 : Nat) ({ cls := "CycleShopModel", name := "fails", desc := "(I)V" } : MethodName)) ∈ bs_B := bs_in (i := 594) rfl rfl
set_option maxRecDepth 20000 in
theorem wm_596 : (Cond.instanceMethod ({ cls := "CycleShopModel", name := "fails", desc := "(I)V" } : MethodName)) ∈ bs_B := bs_in (i := 596) rfl rfl
set_option maxRecDepth 20000 in
theorem wm_597 : (Cond.code ({ cls := "CycleShopModel", name := "fails", desc := "(I)V" } : MethodName) prog_11_method_6_code (2 : Nat) (Option.none : Option FieldType)) ∈ bs_B := bs_in (i := 597) rfl rfl
set_option maxRecDepth 20000 in
theorem wm_598 : (Cond.methodLink "CycleShopModel" (100 : Nat) ({ cls := "CycleShopModel", name := "newWheel", desc := "(I)I" } : MethodName)) ∈ bs_B := bs_in (i := 598) rfl rfl
set_option maxRecDepth 20000 in
theorem wm_600 : (Cond.instanceMethod ({ cls := "CycleShopModel", name := "newWheel", desc := "(I)I" } : MethodName)) ∈ bs_B := bs_in (i := 600) rfl rfl
set_option maxRecDepth 20000 in
theorem wm_601 : (Cond.code ({ cls := "CycleShopModel", name := "newWheel", desc := "(I)I" } : MethodName) prog_11_method_5_code (3 : Nat) (Option.some FieldType.int)) ∈ bs_B := bs_in (i := 601) rfl rfl
set_option maxRecDepth 20000 in
theorem wm_602 : (Cond.methodLink "CycleShopModel" (83 : Nat) ({ cls := "CycleShopModel", name := "isUsed", desc := "(I)Z" } : MethodName)) ∈ bs_B := bs_in (i := 602) rfl rfl
set_option maxRecDepth 20000 in
theorem wm_604 : (Cond.instanceMethod ({ cls := "CycleShopModel", name := "isUsed", desc := "(I)Z" } : MethodName)) ∈ bs_B := bs_in (i := 604) rfl rfl
set_option maxRecDepth 20000 in
theorem wm_605 : (Cond.code ({ cls := "CycleShopModel", name := "isUsed", desc := "(I)Z" } : MethodName) prog_11_method_4_code (4 : Nat) (Option.some FieldType.boolean)) ∈ bs_B := bs_in (i := 605) rfl rfl
set_option maxRecDepth 20000 in
theorem wm_606 : (Cond.methodLink "CycleShopModel" (118 : Nat) ({ cls := "CycleShopModel", name := "turn", desc := "(IIZ)V" } : MethodName)) ∈ bs_B := bs_in (i := 606) rfl rfl
set_option maxRecDepth 20000 in
theorem wm_608 : (Cond.instanceMethod ({ cls := "CycleShopModel", name := "turn", desc := "(IIZ)V" } : MethodName)) ∈ bs_B := bs_in (i := 608) rfl rfl
set_option maxRecDepth 20000 in
theorem wm_609 : (Cond.code ({ cls := "CycleShopModel", name := "turn", desc := "(IIZ)V" } : MethodName) prog_11_method_10_code (5 : Nat) (Option.none : Option FieldType)) ∈ bs_B := bs_in (i := 609) rfl rfl
set_option maxRecDepth 20000 in
theorem wm_610 : (Cond.methodLink "CycleShopModel" (122 : Nat) ({ cls := "CycleShopModel", name := "light", desc := "(III)V" } : MethodName)) ∈ bs_B := bs_in (i := 610) rfl rfl
set_option maxRecDepth 20000 in
theorem wm_612 : (Cond.instanceMethod ({ cls := "CycleShopModel", name := "light", desc := "(III)V" } : MethodName)) ∈ bs_B := bs_in (i := 612) rfl rfl
set_option maxRecDepth 20000 in
theorem wm_613 : (Cond.code ({ cls := "CycleShopModel", name := "light", desc := "(III)V" } : MethodName) prog_11_method_11_code (4 : Nat) (Option.none : Option FieldType)) ∈ bs_B := bs_in (i := 613) rfl rfl
set_option maxRecDepth 20000 in
theorem wm_614 : (Cond.methodLink "CycleShopModel" (125 : Nat) ({ cls := "CycleShopModel", name := "shine", desc := "(II)V" } : MethodName)) ∈ bs_B := bs_in (i := 614) rfl rfl
set_option maxRecDepth 20000 in
theorem wm_616 : (Cond.instanceMethod ({ cls := "CycleShopModel", name := "shine", desc := "(II)V" } : MethodName)) ∈ bs_B := bs_in (i := 616) rfl rfl
set_option maxRecDepth 20000 in
theorem wm_617 : (Cond.code ({ cls := "CycleShopModel", name := "shine", desc := "(II)V" } : MethodName) prog_11_method_12_code (3 : Nat) (Option.none : Option FieldType)) ∈ bs_B := bs_in (i := 617) rfl rfl
set_option maxRecDepth 20000 in
theorem wm_618 : (Cond.methodLink "CycleShopModel" (128 : Nat) ({ cls := "CycleShopModel", name := "make", desc := "(IIII)V" } : MethodName)) ∈ bs_B := bs_in (i := 618) rfl rfl
set_option maxRecDepth 20000 in
theorem wm_620 : (Cond.instanceMethod ({ cls := "CycleShopModel", name := "make", desc := "(IIII)V" } : MethodName)) ∈ bs_B := bs_in (i := 620) rfl rfl
set_option maxRecDepth 20000 in
theorem wm_621 : (Cond.code ({ cls := "CycleShopModel", name := "make", desc := "(IIII)V" } : MethodName) prog_11_method_13_code (6 : Nat) (Option.none : Option FieldType)) ∈ bs_B := bs_in (i := 621) rfl rfl
set_option maxRecDepth 20000 in
theorem wm_622 : (Cond.methodLink "CycleShopModel" (132 : Nat) ({ cls := "CycleShopModel", name := "measure", desc := "(III)V" } : MethodName)) ∈ bs_B := bs_in (i := 622) rfl rfl
set_option maxRecDepth 20000 in
theorem wm_624 : (Cond.instanceMethod ({ cls := "CycleShopModel", name := "measure", desc := "(III)V" } : MethodName)) ∈ bs_B := bs_in (i := 624) rfl rfl
set_option maxRecDepth 20000 in
theorem wm_625 : (Cond.code ({ cls := "CycleShopModel", name := "measure", desc := "(III)V" } : MethodName) prog_11_method_14_code (5 : Nat) (Option.none : Option FieldType)) ∈ bs_B := bs_in (i := 625) rfl rfl
set_option maxRecDepth 20000 in
theorem wm_626 : (Cond.constantLong "CycleShopModel" (104 : Nat) (2 : Int64)) ∈ bs_B := bs_in (i := 626) rfl rfl
set_option maxRecDepth 20000 in
theorem wm_627 : (Cond.methodLink "CycleShopModel" (106 : Nat) ({ cls := "CycleShopModel", name := "has", desc := "(II)Z" } : MethodName)) ∈ bs_B := bs_in (i := 627) rfl rfl
set_option maxRecDepth 20000 in
theorem wm_629 : (Cond.instanceMethod ({ cls := "CycleShopModel", name := "has", desc := "(II)Z" } : MethodName)) ∈ bs_B := bs_in (i := 629) rfl rfl
set_option maxRecDepth 20000 in
theorem wm_630 : (Cond.code ({ cls := "CycleShopModel", name := "has", desc := "(II)Z" } : MethodName) prog_11_method_15_code (3 : Nat) (Option.some FieldType.boolean)) ∈ bs_B := bs_in (i := 630) rfl rfl
set_option maxRecDepth 20000 in
theorem wm_631 : (Cond.methodLink "CycleShopModel" (135 : Nat) ({ cls := "CycleShopModel", name := "hang", desc := "(III)V" } : MethodName)) ∈ bs_B := bs_in (i := 631) rfl rfl
set_option maxRecDepth 20000 in
theorem wm_633 : (Cond.instanceMethod ({ cls := "CycleShopModel", name := "hang", desc := "(III)V" } : MethodName)) ∈ bs_B := bs_in (i := 633) rfl rfl
set_option maxRecDepth 20000 in
theorem wm_634 : (Cond.code ({ cls := "CycleShopModel", name := "hang", desc := "(III)V" } : MethodName) prog_11_method_16_code (5 : Nat) (Option.none : Option FieldType)) ∈ bs_B := bs_in (i := 634) rfl rfl
set_option maxRecDepth 20000 in
theorem wm_635 : (Cond.methodLink "CycleShopModel" (138 : Nat) ({ cls := "CycleShopModel", name := "balance", desc := "(II)V" } : MethodName)) ∈ bs_B := bs_in (i := 635) rfl rfl
set_option maxRecDepth 20000 in
theorem wm_637 : (Cond.instanceMethod ({ cls := "CycleShopModel", name := "balance", desc := "(II)V" } : MethodName)) ∈ bs_B := bs_in (i := 637) rfl rfl
set_option maxRecDepth 20000 in
theorem wm_638 : (Cond.code ({ cls := "CycleShopModel", name := "balance", desc := "(II)V" } : MethodName) prog_11_method_17_code (4 : Nat) (Option.none : Option FieldType)) ∈ bs_B := bs_in (i := 638) rfl rfl
set_option maxRecDepth 20000 in
theorem wm_639 : (Cond.methodLink "CycleShopLaw" (22 : Nat) ({ cls := "CycleShopModel", name := "step", desc := "(IIIIII)I" } : MethodName)) ∈ bs_B := bs_in (i := 639) rfl rfl
set_option maxRecDepth 20000 in
theorem wm_640 : (Cond.instanceMethod ({ cls := "CycleShopModel", name := "step", desc := "(IIIIII)I" } : MethodName)) ∈ bs_B := bs_in (i := 640) rfl rfl
set_option maxRecDepth 20000 in
theorem wm_641 : (Cond.selects "CycleShopModel" ({ cls := "CycleShopModel", name := "step", desc := "(IIIIII)I" } : MethodName) ({ cls := "CycleShopModel", name := "step", desc := "(IIIIII)I" } : MethodName)) ∈ bs_B := bs_in (i := 641) rfl rfl
set_option maxRecDepth 20000 in
theorem wm_642 : (Cond.code ({ cls := "CycleShopModel", name := "step", desc := "(IIIIII)I" } : MethodName) prog_11_method_20_code (8 : Nat) (Option.some FieldType.int)) ∈ bs_B := bs_in (i := 642) rfl rfl
set_option maxRecDepth 20000 in
theorem wm_643 : (Cond.constantLong "CycleShopModel" (150 : Nat) (-1 : Int64)) ∈ bs_B := bs_in (i := 643) rfl rfl
set_option maxRecDepth 20000 in
theorem wm_644 : (Cond.constantLong "CycleShopModel" (152 : Nat) (15 : Int64)) ∈ bs_B := bs_in (i := 644) rfl rfl
set_option maxRecDepth 20000 in
theorem wm_645 : (Cond.methodLink "CycleShopLaw" (27 : Nat) ({ cls := "CycleShopModel", name := "clear", desc := "(I)I" } : MethodName)) ∈ bs_B := bs_in (i := 645) rfl rfl
set_option maxRecDepth 20000 in
theorem wm_646 : (Cond.instanceMethod ({ cls := "CycleShopModel", name := "clear", desc := "(I)I" } : MethodName)) ∈ bs_B := bs_in (i := 646) rfl rfl
set_option maxRecDepth 20000 in
theorem wm_647 : (Cond.selects "CycleShopModel" ({ cls := "CycleShopModel", name := "clear", desc := "(I)I" } : MethodName) ({ cls := "CycleShopModel", name := "clear", desc := "(I)I" } : MethodName)) ∈ bs_B := bs_in (i := 647) rfl rfl
set_option maxRecDepth 20000 in
theorem wm_648 : (Cond.code ({ cls := "CycleShopModel", name := "clear", desc := "(I)I" } : MethodName) prog_11_method_21_code (3 : Nat) (Option.some FieldType.int)) ∈ bs_B := bs_in (i := 648) rfl rfl
set_option maxRecDepth 20000 in
theorem wm_649 : (Cond.methodLink "CycleShopLaw" (32 : Nat) ({ cls := "CycleShopModel", name := "run", desc := "(II)I" } : MethodName)) ∈ bs_B := bs_in (i := 649) rfl rfl
set_option maxRecDepth 20000 in
theorem wm_650 : (Cond.instanceMethod ({ cls := "CycleShopModel", name := "run", desc := "(II)I" } : MethodName)) ∈ bs_B := bs_in (i := 650) rfl rfl
set_option maxRecDepth 20000 in
theorem wm_651 : (Cond.selects "CycleShopModel" ({ cls := "CycleShopModel", name := "run", desc := "(II)I" } : MethodName) ({ cls := "CycleShopModel", name := "run", desc := "(II)I" } : MethodName)) ∈ bs_B := bs_in (i := 651) rfl rfl
set_option maxRecDepth 20000 in
theorem wm_652 : (Cond.code ({ cls := "CycleShopModel", name := "run", desc := "(II)I" } : MethodName) prog_11_method_23_code (6 : Nat) (Option.some FieldType.int)) ∈ bs_B := bs_in (i := 652) rfl rfl
set_option maxRecDepth 20000 in
theorem wm_653 : (Cond.methodLink "CycleShopModel" (170 : Nat) ({ cls := "CycleShopModel", name := "goes", desc := "(II)V" } : MethodName)) ∈ bs_B := bs_in (i := 653) rfl rfl
set_option maxRecDepth 20000 in
theorem wm_655 : (Cond.instanceMethod ({ cls := "CycleShopModel", name := "goes", desc := "(II)V" } : MethodName)) ∈ bs_B := bs_in (i := 655) rfl rfl
set_option maxRecDepth 20000 in
theorem wm_656 : (Cond.code ({ cls := "CycleShopModel", name := "goes", desc := "(II)V" } : MethodName) prog_11_method_22_code (4 : Nat) (Option.none : Option FieldType)) ∈ bs_B := bs_in (i := 656) rfl rfl
set_option maxRecDepth 20000 in
theorem wm_657 : (Cond.methodLink "CycleShopLaw" (36 : Nat) ({ cls := "CycleShopModel", name := "told", desc := "(I)I" } : MethodName)) ∈ bs_B := bs_in (i := 657) rfl rfl
set_option maxRecDepth 20000 in
theorem wm_658 : (Cond.instanceMethod ({ cls := "CycleShopModel", name := "told", desc := "(I)I" } : MethodName)) ∈ bs_B := bs_in (i := 658) rfl rfl
set_option maxRecDepth 20000 in
theorem wm_659 : (Cond.selects "CycleShopModel" ({ cls := "CycleShopModel", name := "told", desc := "(I)I" } : MethodName) ({ cls := "CycleShopModel", name := "told", desc := "(I)I" } : MethodName)) ∈ bs_B := bs_in (i := 659) rfl rfl
set_option maxRecDepth 20000 in
theorem wm_660 : (Cond.code ({ cls := "CycleShopModel", name := "told", desc := "(I)I" } : MethodName) prog_11_method_24_code (2 : Nat) (Option.some FieldType.int)) ∈ bs_B := bs_in (i := 660) rfl rfl
set_option maxRecDepth 20000 in
theorem wm_661 : (Cond.methodLink "CycleShopLaw" (41 : Nat) ({ cls := "CycleShopModel", name := "sum", desc := "()J" } : MethodName)) ∈ bs_B := bs_in (i := 661) rfl rfl
set_option maxRecDepth 20000 in
theorem wm_662 : (Cond.instanceMethod ({ cls := "CycleShopModel", name := "sum", desc := "()J" } : MethodName)) ∈ bs_B := bs_in (i := 662) rfl rfl
set_option maxRecDepth 20000 in
theorem wm_663 : (Cond.selects "CycleShopModel" ({ cls := "CycleShopModel", name := "sum", desc := "()J" } : MethodName) ({ cls := "CycleShopModel", name := "sum", desc := "()J" } : MethodName)) ∈ bs_B := bs_in (i := 663) rfl rfl
set_option maxRecDepth 20000 in
theorem wm_664 : (Cond.code ({ cls := "CycleShopModel", name := "sum", desc := "()J" } : MethodName) prog_11_method_25_code (1 : Nat) (Option.some FieldType.long)) ∈ bs_B := bs_in (i := 664) rfl rfl
set_option maxRecDepth 20000 in
theorem wm_665 : (Cond.methodLink "CycleShopLaw" (45 : Nat) ({ cls := "CycleShopModel", name := "tally", desc := "(I)I" } : MethodName)) ∈ bs_B := bs_in (i := 665) rfl rfl
set_option maxRecDepth 20000 in
theorem wm_666 : (Cond.instanceMethod ({ cls := "CycleShopModel", name := "tally", desc := "(I)I" } : MethodName)) ∈ bs_B := bs_in (i := 666) rfl rfl
set_option maxRecDepth 20000 in
theorem wm_667 : (Cond.selects "CycleShopModel" ({ cls := "CycleShopModel", name := "tally", desc := "(I)I" } : MethodName) ({ cls := "CycleShopModel", name := "tally", desc := "(I)I" } : MethodName)) ∈ bs_B := bs_in (i := 667) rfl rfl
set_option maxRecDepth 20000 in
theorem wm_668 : (Cond.code ({ cls := "CycleShopModel", name := "tally", desc := "(I)I" } : MethodName) prog_11_method_26_code (2 : Nat) (Option.some FieldType.int)) ∈ bs_B := bs_in (i := 668) rfl rfl
set_option maxRecDepth 20000 in
theorem wm_669 : (Cond.constantLong "CycleShopModel" (173 : Nat) (7 : Int64)) ∈ bs_B := bs_in (i := 669) rfl rfl
set_option maxRecDepth 20000 in
theorem wm_670 : (Cond.methodLink "CycleShopLaw" (49 : Nat) ({ cls := "CycleShopModel", name := "stand", desc := "(II)I" } : MethodName)) ∈ bs_B := bs_in (i := 670) rfl rfl
set_option maxRecDepth 20000 in
theorem wm_671 : (Cond.instanceMethod ({ cls := "CycleShopModel", name := "stand", desc := "(II)I" } : MethodName)) ∈ bs_B := bs_in (i := 671) rfl rfl
set_option maxRecDepth 20000 in
theorem wm_672 : (Cond.selects "CycleShopModel" ({ cls := "CycleShopModel", name := "stand", desc := "(II)I" } : MethodName) ({ cls := "CycleShopModel", name := "stand", desc := "(II)I" } : MethodName)) ∈ bs_B := bs_in (i := 672) rfl rfl
set_option maxRecDepth 20000 in
theorem wm_673 : (Cond.code ({ cls := "CycleShopModel", name := "stand", desc := "(II)I" } : MethodName) prog_11_method_28_code (4 : Nat) (Option.some FieldType.int)) ∈ bs_B := bs_in (i := 673) rfl rfl
set_option maxRecDepth 20000 in
theorem wm_674 : (Cond.constant "CycleShopModel" (175 : Nat) (-2147483648 : Int32)) ∈ bs_B := bs_in (i := 674) rfl rfl
set_option maxRecDepth 20000 in
theorem wm_675 : (Cond.methodLink "CycleShopModel" (176 : Nat) ({ cls := "CycleShopModel", name := "hangs", desc := "(I)Z" } : MethodName)) ∈ bs_B := bs_in (i := 675) rfl rfl
set_option maxRecDepth 20000 in
theorem wm_677 : (Cond.instanceMethod ({ cls := "CycleShopModel", name := "hangs", desc := "(I)Z" } : MethodName)) ∈ bs_B := bs_in (i := 677) rfl rfl
set_option maxRecDepth 20000 in
theorem wm_678 : (Cond.code ({ cls := "CycleShopModel", name := "hangs", desc := "(I)Z" } : MethodName) prog_11_method_27_code (4 : Nat) (Option.some FieldType.boolean)) ∈ bs_B := bs_in (i := 678) rfl rfl
set_option maxRecDepth 20000 in
theorem wm_679 : (Cond.methodLink "CycleShopLaw" (53 : Nat) ({ cls := "CycleShopModel", name := "basket", desc := "(II)I" } : MethodName)) ∈ bs_B := bs_in (i := 679) rfl rfl
set_option maxRecDepth 20000 in
theorem wm_680 : (Cond.instanceMethod ({ cls := "CycleShopModel", name := "basket", desc := "(II)I" } : MethodName)) ∈ bs_B := bs_in (i := 680) rfl rfl
set_option maxRecDepth 20000 in
theorem wm_681 : (Cond.selects "CycleShopModel" ({ cls := "CycleShopModel", name := "basket", desc := "(II)I" } : MethodName) ({ cls := "CycleShopModel", name := "basket", desc := "(II)I" } : MethodName)) ∈ bs_B := bs_in (i := 681) rfl rfl
set_option maxRecDepth 20000 in
theorem wm_682 : (Cond.code ({ cls := "CycleShopModel", name := "basket", desc := "(II)I" } : MethodName) prog_11_method_29_code (3 : Nat) (Option.some FieldType.int)) ∈ bs_B := bs_in (i := 682) rfl rfl
set_option maxRecDepth 20000 in
theorem wm_683 : (Cond.methodLink "CycleShopLaw" (57 : Nat) ({ cls := "CycleShopModel", name := "rack", desc := "(II)I" } : MethodName)) ∈ bs_B := bs_in (i := 683) rfl rfl
set_option maxRecDepth 20000 in
theorem wm_684 : (Cond.instanceMethod ({ cls := "CycleShopModel", name := "rack", desc := "(II)I" } : MethodName)) ∈ bs_B := bs_in (i := 684) rfl rfl
set_option maxRecDepth 20000 in
theorem wm_685 : (Cond.selects "CycleShopModel" ({ cls := "CycleShopModel", name := "rack", desc := "(II)I" } : MethodName) ({ cls := "CycleShopModel", name := "rack", desc := "(II)I" } : MethodName)) ∈ bs_B := bs_in (i := 685) rfl rfl
set_option maxRecDepth 20000 in
theorem wm_686 : (Cond.code ({ cls := "CycleShopModel", name := "rack", desc := "(II)I" } : MethodName) prog_11_method_30_code (4 : Nat) (Option.some FieldType.int)) ∈ bs_B := bs_in (i := 686) rfl rfl
set_option maxRecDepth 20000 in
theorem wm_687 : (Cond.methodLink "CycleShopLaw" (62 : Nat) ({ cls := "CycleShopModel", name := "grid", desc := "(III)I" } : MethodName)) ∈ bs_B := bs_in (i := 687) rfl rfl
set_option maxRecDepth 20000 in
theorem wm_688 : (Cond.instanceMethod ({ cls := "CycleShopModel", name := "grid", desc := "(III)I" } : MethodName)) ∈ bs_B := bs_in (i := 688) rfl rfl
set_option maxRecDepth 20000 in
theorem wm_689 : (Cond.selects "CycleShopModel" ({ cls := "CycleShopModel", name := "grid", desc := "(III)I" } : MethodName) ({ cls := "CycleShopModel", name := "grid", desc := "(III)I" } : MethodName)) ∈ bs_B := bs_in (i := 689) rfl rfl
set_option maxRecDepth 20000 in
theorem wm_690 : (Cond.code ({ cls := "CycleShopModel", name := "grid", desc := "(III)I" } : MethodName) prog_11_method_31_code (4 : Nat) (Option.some FieldType.int)) ∈ bs_B := bs_in (i := 690) rfl rfl
theorem mf_X0_init : gF bs_B yX0_init cX0_init 1 none 0 := ⟨wm_117, wm_28, ⟨by decide +kernel, by decide +kernel⟩, by decide +kernel⟩
theorem mf_X0_make : gF bs_B yX0_make cX0_make 2 (some .long) 1 := ⟨wm_283, wm_28, ⟨by decide +kernel, by decide +kernel⟩, by decide +kernel⟩
theorem mf_X0_put : gF bs_B yX0_put cX0_put 4 (some .long) 2 := ⟨wm_315, wm_28, ⟨by decide +kernel, by decide +kernel⟩, by decide +kernel⟩
theorem mf_X0_numberAt : gF bs_B yX0_numberAt cX0_numberAt 2 (some .int) 1 := ⟨wm_455, wm_28, ⟨by decide +kernel, by decide +kernel⟩, by decide +kernel⟩
theorem mf_X1_init : gF bs_B yX1_init cX1_init 1 none 0 := ⟨wm_148, wm_30, ⟨by decide +kernel, by decide +kernel⟩, by decide +kernel⟩
theorem mf_X1_make : gF bs_B yX1_make cX1_make 3 (some .long) 2 := ⟨wm_296, wm_30, ⟨by decide +kernel, by decide +kernel⟩, by decide +kernel⟩
theorem mf_X1_has : gF bs_B yX1_has cX1_has 3 (some .boolean) 2 := ⟨wm_324, wm_30, ⟨by decide +kernel, by decide +kernel⟩, by decide +kernel⟩
theorem mf_X1_rowLength : gF bs_B yX1_rowLength cX1_rowLength 2 (some .long) 1 := ⟨wm_310, wm_30, ⟨by decide +kernel, by decide +kernel⟩, by decide +kernel⟩
theorem mf_X1_addOne : gF bs_B yX1_addOne cX1_addOne 4 (some .long) 2 := ⟨wm_320, wm_30, ⟨by decide +kernel, by decide +kernel⟩, by decide +kernel⟩
theorem mf_X1_numberAt : gF bs_B yX1_numberAt cX1_numberAt 3 (some .int) 2 := ⟨wm_472, wm_30, ⟨by decide +kernel, by decide +kernel⟩, by decide +kernel⟩
theorem mf_X2_init : gF bs_B yX2_init cX2_init 1 none 0 := ⟨wm_164, wm_31, ⟨by decide +kernel, by decide +kernel⟩, by decide +kernel⟩
theorem mf_X2_append : gF bs_B yX2_append cX2_append 2 (some .int) 1 := ⟨wm_380, wm_31, ⟨by decide +kernel, by decide +kernel⟩, by decide +kernel⟩
theorem mf_X2_empty : gF bs_B yX2_empty cX2_empty 2 (some .int) 0 := ⟨wm_388, wm_31, ⟨by decide +kernel, by decide +kernel⟩, by decide +kernel⟩
theorem mf_X2_stepAt : gF bs_B yX2_stepAt cX2_stepAt 2 (some (.object "CycleShop$Step")) 1 := ⟨wm_404, wm_31, ⟨by decide +kernel, by decide +kernel⟩, by decide +kernel⟩
theorem mf_X3_init : gF bs_B yX3_init cX3_init 1 none 0 := ⟨wm_130, wm_29, ⟨by decide +kernel, by decide +kernel⟩, by decide +kernel⟩
theorem mf_X3_make : gF bs_B yX3_make cX3_make 4 (some .long) 2 := ⟨wm_291, wm_29, ⟨by decide +kernel, by decide +kernel⟩, by decide +kernel⟩
theorem mf_X3_hang : gF bs_B yX3_hang cX3_hang 4 (some .long) 2 := ⟨wm_328, wm_29, ⟨by decide +kernel, by decide +kernel⟩, by decide +kernel⟩
theorem mf_X3_balance : gF bs_B yX3_balance cX3_balance 3 (some .long) 1 := ⟨wm_333, wm_29, ⟨by decide +kernel, by decide +kernel⟩, by decide +kernel⟩
theorem mf_X3_wheelAt : gF bs_B yX3_wheelAt cX3_wheelAt 2 (some (.object "CycleShop$Wheel")) 1 := ⟨wm_463, wm_29, ⟨by decide +kernel, by decide +kernel⟩, by decide +kernel⟩
theorem mf_X3_holds : gF bs_B yX3_holds cX3_holds 4 (some .boolean) 1 := ⟨wm_442, wm_29, ⟨by decide +kernel, by decide +kernel⟩, by decide +kernel⟩
theorem mf_X4_init : gF bs_B yX4_init cX4_init 1 none 0 := ⟨wm_58, wm_26, ⟨by decide +kernel, by decide +kernel⟩, by decide +kernel⟩
theorem mf_X4_restart : gF bs_B yX4_restart cX4_restart 1 none 0 := ⟨wm_396, wm_26, ⟨by decide +kernel, by decide +kernel⟩, by decide +kernel⟩
theorem mf_X4_addAnswer : gF bs_B yX4_addAnswer cX4_addAnswer 3 none 1 := ⟨wm_413, wm_26, ⟨by decide +kernel, by decide +kernel⟩, by decide +kernel⟩
theorem mf_X4_addFailure : gF bs_B yX4_addFailure cX4_addFailure 3 none 2 := ⟨wm_409, wm_26, ⟨by decide +kernel, by decide +kernel⟩, by decide +kernel⟩
theorem mf_X5_init : gF bs_B yX5_init cX5_init 1 none 0 := ⟨wm_89, wm_27, ⟨by decide +kernel, by decide +kernel⟩, by decide +kernel⟩
theorem mf_X5_build : gF bs_B yX5_build cX5_build 2 (some .long) 1 := ⟨wm_222, wm_27, ⟨by decide +kernel, by decide +kernel⟩, by decide +kernel⟩
theorem mf_X5_strip : gF bs_B yX5_strip cX5_strip 1 (some .long) 0 := ⟨wm_226, wm_27, ⟨by decide +kernel, by decide +kernel⟩, by decide +kernel⟩
theorem mf_X5_wheel : gF bs_B yX5_wheel cX5_wheel 2 (some (.object "CycleShop$Wheel")) 1 := ⟨wm_263, wm_27, ⟨by decide +kernel, by decide +kernel⟩, by decide +kernel⟩
theorem mf_X5_fit : gF bs_B yX5_fit cX5_fit 5 (some .long) 2 := ⟨wm_231, wm_27, ⟨by decide +kernel, by decide +kernel⟩, by decide +kernel⟩
theorem mf_X5_trueWheel : gF bs_B yX5_trueWheel cX5_trueWheel 3 (some .long) 1 := ⟨wm_259, wm_27, ⟨by decide +kernel, by decide +kernel⟩, by decide +kernel⟩
theorem mf_X5_countSpokes : gF bs_B yX5_countSpokes cX5_countSpokes 3 (some .long) 1 := ⟨wm_271, wm_27, ⟨by decide +kernel, by decide +kernel⟩, by decide +kernel⟩
theorem mf_X5_light : gF bs_B yX5_light cX5_light 3 (some .long) 2 := ⟨wm_275, wm_27, ⟨by decide +kernel, by decide +kernel⟩, by decide +kernel⟩
theorem mf_X5_shine : gF bs_B yX5_shine cX5_shine 2 (some .long) 1 := ⟨wm_279, wm_27, ⟨by decide +kernel, by decide +kernel⟩, by decide +kernel⟩
theorem mf_X5_tell : gF bs_B yX5_tell cX5_tell 2 (some .int) 1 := ⟨wm_446, wm_27, ⟨by decide +kernel, by decide +kernel⟩, by decide +kernel⟩
theorem mf_X6_init : gF bs_B yX6_init cX6_init 6 none 5 := ⟨wm_354, wm_35, ⟨by decide +kernel, by decide +kernel⟩, by decide +kernel⟩
theorem mf_X7_init : gF bs_B yX7_init cX7_init 3 none 2 := ⟨wm_240, wm_33, ⟨by decide +kernel, by decide +kernel⟩, by decide +kernel⟩
theorem mf_X7_turn : gF bs_B yX7_turn cX7_turn 1 (some .int) 0 := ⟨wm_267, wm_33, ⟨by decide +kernel, by decide +kernel⟩, by decide +kernel⟩
theorem mf_X7_label : gF bs_B yX7_label cX7_label 1 (some .int) 0 := ⟨wm_337, wm_33, ⟨by decide +kernel, by decide +kernel⟩, by decide +kernel⟩
theorem mf_X8_init : gF bs_B yX8_init cX8_init 2 none 0 := ⟨wm_40, wm_25, ⟨by decide +kernel, by decide +kernel⟩, by decide +kernel⟩
theorem mf_X8_act : gF bs_B yX8_act cX8_act 5 (some .long) 4 := ⟨wm_204, wm_25, ⟨by decide +kernel, by decide +kernel⟩, by decide +kernel⟩
theorem mf_X8_step : gF bs_B yX8_step cX8_step 8 (some .int) 6 := ⟨wm_349, wm_25, ⟨by decide +kernel, by decide +kernel⟩, by decide +kernel⟩
theorem mf_X8_clear : gF bs_B yX8_clear cX8_clear 2 (some .int) 1 := ⟨wm_384, wm_25, ⟨by decide +kernel, by decide +kernel⟩, by decide +kernel⟩
theorem mf_X8_run : gF bs_B yX8_run cX8_run 6 (some .int) 2 := ⟨wm_392, wm_25, ⟨by decide +kernel, by decide +kernel⟩, by decide +kernel⟩
theorem mf_X8_told : gF bs_B yX8_told cX8_told 2 (some .int) 1 := ⟨wm_421, wm_25, ⟨by decide +kernel, by decide +kernel⟩, by decide +kernel⟩
theorem mf_X8_sum : gF bs_B yX8_sum cX8_sum 1 (some .long) 0 := ⟨wm_425, wm_25, ⟨by decide +kernel, by decide +kernel⟩, by decide +kernel⟩
theorem mf_X8_tally : gF bs_B yX8_tally cX8_tally 2 (some .int) 1 := ⟨wm_429, wm_25, ⟨by decide +kernel, by decide +kernel⟩, by decide +kernel⟩
theorem mf_X8_stand : gF bs_B yX8_stand cX8_stand 3 (some .int) 2 := ⟨wm_433, wm_25, ⟨by decide +kernel, by decide +kernel⟩, by decide +kernel⟩
theorem mf_X8_basket : gF bs_B yX8_basket cX8_basket 3 (some .int) 2 := ⟨wm_451, wm_25, ⟨by decide +kernel, by decide +kernel⟩, by decide +kernel⟩
theorem mf_X8_rack : gF bs_B yX8_rack cX8_rack 4 (some .int) 2 := ⟨wm_459, wm_25, ⟨by decide +kernel, by decide +kernel⟩, by decide +kernel⟩
theorem mf_X8_grid : gF bs_B yX8_grid cX8_grid 4 (some .int) 3 := ⟨wm_468, wm_25, ⟨by decide +kernel, by decide +kernel⟩, by decide +kernel⟩
theorem mf_X8_isWithin : gF bs_B yX8_isWithin cX8_isWithin 2 (some .boolean) 2 := ⟨wm_210, wm_25, ⟨by decide +kernel, by decide +kernel⟩, by decide +kernel⟩
theorem mf_X8_failure : gF bs_B yX8_failure cX8_failure 1 (some .long) 1 := ⟨wm_234, wm_25, ⟨by decide +kernel, by decide +kernel⟩, by decide +kernel⟩
theorem mf_X8_reasonOf : gF bs_B yX8_reasonOf cX8_reasonOf 2 (some .int) 1 := ⟨wm_344, wm_25, ⟨by decide +kernel, by decide +kernel⟩, by decide +kernel⟩
theorem mf_X8_isStep : gF bs_B yX8_isStep cX8_isStep 4 (some .boolean) 4 := ⟨wm_207, wm_25, ⟨by decide +kernel, by decide +kernel⟩, by decide +kernel⟩
theorem mf_X8_attempt : gF bs_B yX8_attempt cX8_attempt 8 (some .long) 4 := ⟨wm_214, wm_25, ⟨by decide +kernel, by decide +kernel⟩, by decide +kernel⟩
theorem mf_X8_perform : gF bs_B yX8_perform cX8_perform 5 (some .long) 4 := ⟨wm_218, wm_25, ⟨by decide +kernel, by decide +kernel⟩, by decide +kernel⟩
theorem mf_X8_measure : gF bs_B yX8_measure cX8_measure 4 (some .long) 3 := ⟨wm_302, wm_25, ⟨by decide +kernel, by decide +kernel⟩, by decide +kernel⟩
theorem mf_X8_lengthOrFailure : gF bs_B yX8_lengthOrFailure cX8_lengthOrFailure 1 (some .long) 1 := ⟨wm_305, wm_25, ⟨by decide +kernel, by decide +kernel⟩, by decide +kernel⟩
theorem mf_X8_excuse : gF bs_B yX8_excuse cX8_excuse 3 (some .long) 2 := ⟨wm_341, wm_25, ⟨by decide +kernel, by decide +kernel⟩, by decide +kernel⟩
theorem mf_X8_isDone : gF bs_B yX8_isDone cX8_isDone 7 (some .boolean) 2 := ⟨wm_400, wm_25, ⟨by decide +kernel, by decide +kernel⟩, by decide +kernel⟩
theorem mf_X8_isDoneInStead : gF bs_B yX8_isDoneInStead cX8_isDoneInStead 4 (some .boolean) 2 := ⟨wm_417, wm_25, ⟨by decide +kernel, by decide +kernel⟩, by decide +kernel⟩
theorem mf_X8_hanging : gF bs_B yX8_hanging cX8_hanging 4 (some .int) 1 := ⟨wm_438, wm_25, ⟨by decide +kernel, by decide +kernel⟩, by decide +kernel⟩
theorem mf_X9_init : gF bs_B yX9_init cX9_init 2 none 0 := ⟨wm_477, wm_32, ⟨by decide +kernel, by decide +kernel⟩, by decide +kernel⟩
theorem mf_X9_in : gF bs_B yX9_in cX9_in 6 (some .boolean) 3 := ⟨wm_575, wm_32, ⟨by decide +kernel, by decide +kernel⟩, by decide +kernel⟩
theorem mf_X9_isStep : gF bs_B yX9_isStep cX9_isStep 4 (some .boolean) 4 := ⟨wm_571, wm_32, ⟨by decide +kernel, by decide +kernel⟩, by decide +kernel⟩
theorem mf_X9_isUsed : gF bs_B yX9_isUsed cX9_isUsed 4 (some .boolean) 1 := ⟨wm_605, wm_32, ⟨by decide +kernel, by decide +kernel⟩, by decide +kernel⟩
theorem mf_X9_newWheel : gF bs_B yX9_newWheel cX9_newWheel 3 (some .int) 1 := ⟨wm_601, wm_32, ⟨by decide +kernel, by decide +kernel⟩, by decide +kernel⟩
theorem mf_X9_fails : gF bs_B yX9_fails cX9_fails 2 none 1 := ⟨wm_597, wm_32, ⟨by decide +kernel, by decide +kernel⟩, by decide +kernel⟩
theorem mf_X9_build : gF bs_B yX9_build cX9_build 3 none 2 := ⟨wm_585, wm_32, ⟨by decide +kernel, by decide +kernel⟩, by decide +kernel⟩
theorem mf_X9_strip : gF bs_B yX9_strip cX9_strip 2 none 1 := ⟨wm_589, wm_32, ⟨by decide +kernel, by decide +kernel⟩, by decide +kernel⟩
theorem mf_X9_fit : gF bs_B yX9_fit cX9_fit 5 none 3 := ⟨wm_593, wm_32, ⟨by decide +kernel, by decide +kernel⟩, by decide +kernel⟩
theorem mf_X9_turn : gF bs_B yX9_turn cX9_turn 5 none 3 := ⟨wm_609, wm_32, ⟨by decide +kernel, by decide +kernel⟩, by decide +kernel⟩
theorem mf_X9_light : gF bs_B yX9_light cX9_light 4 none 3 := ⟨wm_613, wm_32, ⟨by decide +kernel, by decide +kernel⟩, by decide +kernel⟩
theorem mf_X9_shine : gF bs_B yX9_shine cX9_shine 3 none 2 := ⟨wm_617, wm_32, ⟨by decide +kernel, by decide +kernel⟩, by decide +kernel⟩
theorem mf_X9_make : gF bs_B yX9_make cX9_make 6 none 4 := ⟨wm_621, wm_32, ⟨by decide +kernel, by decide +kernel⟩, by decide +kernel⟩
theorem mf_X9_measure : gF bs_B yX9_measure cX9_measure 5 none 3 := ⟨wm_625, wm_32, ⟨by decide +kernel, by decide +kernel⟩, by decide +kernel⟩
theorem mf_X9_has : gF bs_B yX9_has cX9_has 3 (some .boolean) 2 := ⟨wm_630, wm_32, ⟨by decide +kernel, by decide +kernel⟩, by decide +kernel⟩
theorem mf_X9_hang : gF bs_B yX9_hang cX9_hang 5 none 3 := ⟨wm_634, wm_32, ⟨by decide +kernel, by decide +kernel⟩, by decide +kernel⟩
theorem mf_X9_balance : gF bs_B yX9_balance cX9_balance 4 none 2 := ⟨wm_638, wm_32, ⟨by decide +kernel, by decide +kernel⟩, by decide +kernel⟩
theorem mf_X9_does : gF bs_B yX9_does cX9_does 5 none 4 := ⟨wm_581, wm_32, ⟨by decide +kernel, by decide +kernel⟩, by decide +kernel⟩
theorem mf_X9_act : gF bs_B yX9_act cX9_act 5 (some .long) 4 := ⟨wm_568, wm_32, ⟨by decide +kernel, by decide +kernel⟩, by decide +kernel⟩
theorem mf_X9_step : gF bs_B yX9_step cX9_step 8 (some .int) 6 := ⟨wm_642, wm_32, ⟨by decide +kernel, by decide +kernel⟩, by decide +kernel⟩
theorem mf_X9_clear : gF bs_B yX9_clear cX9_clear 3 (some .int) 1 := ⟨wm_648, wm_32, ⟨by decide +kernel, by decide +kernel⟩, by decide +kernel⟩
theorem mf_X9_goes : gF bs_B yX9_goes cX9_goes 4 none 2 := ⟨wm_656, wm_32, ⟨by decide +kernel, by decide +kernel⟩, by decide +kernel⟩
theorem mf_X9_run : gF bs_B yX9_run cX9_run 6 (some .int) 2 := ⟨wm_652, wm_32, ⟨by decide +kernel, by decide +kernel⟩, by decide +kernel⟩
theorem mf_X9_told : gF bs_B yX9_told cX9_told 2 (some .int) 1 := ⟨wm_660, wm_32, ⟨by decide +kernel, by decide +kernel⟩, by decide +kernel⟩
theorem mf_X9_sum : gF bs_B yX9_sum cX9_sum 1 (some .long) 0 := ⟨wm_664, wm_32, ⟨by decide +kernel, by decide +kernel⟩, by decide +kernel⟩
theorem mf_X9_tally : gF bs_B yX9_tally cX9_tally 2 (some .int) 1 := ⟨wm_668, wm_32, ⟨by decide +kernel, by decide +kernel⟩, by decide +kernel⟩
theorem mf_X9_hangs : gF bs_B yX9_hangs cX9_hangs 4 (some .boolean) 1 := ⟨wm_678, wm_32, ⟨by decide +kernel, by decide +kernel⟩, by decide +kernel⟩
theorem mf_X9_stand : gF bs_B yX9_stand cX9_stand 4 (some .int) 2 := ⟨wm_673, wm_32, ⟨by decide +kernel, by decide +kernel⟩, by decide +kernel⟩
theorem mf_X9_basket : gF bs_B yX9_basket cX9_basket 3 (some .int) 2 := ⟨wm_682, wm_32, ⟨by decide +kernel, by decide +kernel⟩, by decide +kernel⟩
theorem mf_X9_rack : gF bs_B yX9_rack cX9_rack 4 (some .int) 2 := ⟨wm_686, wm_32, ⟨by decide +kernel, by decide +kernel⟩, by decide +kernel⟩
theorem mf_X9_grid : gF bs_B yX9_grid cX9_grid 4 (some .int) 3 := ⟨wm_690, wm_32, ⟨by decide +kernel, by decide +kernel⟩, by decide +kernel⟩
theorem mf_J7_fill_53178 : gF bs_B yJ7_fill_53178 cJ7_fill_53178 4 none 2 := ⟨wm_287, wm_34, ⟨by decide +kernel, by decide +kernel⟩, by decide +kernel⟩
end
section
theorem dX0_init_0 : decode cX0_init 0 = .ok (.aload_n 0, 1) := by decide +kernel
theorem dX0_init_1 : decode cX0_init 1 = .ok (.invokespecial 3, 3) := by decide +kernel
theorem dX0_init_4 : decode cX0_init 4 = .ok (.aload_n 0, 1) := by decide +kernel
theorem dX0_init_5 : decode cX0_init 5 = .ok (.bipush 12, 2) := by decide +kernel
theorem dX0_init_7 : decode cX0_init 7 = .ok (.newarray .int, 2) := by decide +kernel
theorem dX0_init_9 : decode cX0_init 9 = .ok (.putfield 9, 3) := by decide +kernel
theorem dX0_init_12 : decode cX0_init 12 = .ok (.aload_n 0, 1) := by decide +kernel
theorem dX0_init_13 : decode cX0_init 13 = .ok (.iconst (-1), 1) := by decide +kernel
theorem dX0_init_14 : decode cX0_init 14 = .ok (.putfield 15, 3) := by decide +kernel
theorem dX0_init_17 : decode cX0_init 17 = .ok (.return_, 1) := by decide +kernel
theorem dX0_make_0 : decode cX0_make 0 = .ok (.iload_n 1, 1) := by decide +kernel
theorem dX0_make_1 : decode cX0_make 1 = .ok (.ifCond .lt 9, 3) := by decide +kernel
theorem dX0_make_4 : decode cX0_make 4 = .ok (.iload_n 1, 1) := by decide +kernel
theorem dX0_make_5 : decode cX0_make 5 = .ok (.bipush 12, 2) := by decide +kernel
theorem dX0_make_7 : decode cX0_make 7 = .ok (.if_icmp .le 8, 3) := by decide +kernel
theorem dX0_make_10 : decode cX0_make 10 = .ok (.iconst 2, 1) := by decide +kernel
theorem dX0_make_11 : decode cX0_make 11 = .ok (.invokestatic 19, 3) := by decide +kernel
theorem dX0_make_14 : decode cX0_make 14 = .ok (.lreturn, 1) := by decide +kernel
theorem dX0_make_15 : decode cX0_make 15 = .ok (.aload_n 0, 1) := by decide +kernel
theorem dX0_make_16 : decode cX0_make 16 = .ok (.getfield 9, 3) := by decide +kernel
theorem dX0_make_19 : decode cX0_make 19 = .ok (.iconst 0, 1) := by decide +kernel
theorem dX0_make_20 : decode cX0_make 20 = .ok (.invokestatic 23, 3) := by decide +kernel
theorem dX0_make_23 : decode cX0_make 23 = .ok (.aload_n 0, 1) := by decide +kernel
theorem dX0_make_24 : decode cX0_make 24 = .ok (.iload_n 1, 1) := by decide +kernel
theorem dX0_make_25 : decode cX0_make 25 = .ok (.putfield 15, 3) := by decide +kernel
theorem dX0_make_28 : decode cX0_make 28 = .ok (.iload_n 1, 1) := by decide +kernel
theorem dX0_make_29 : decode cX0_make 29 = .ok (.i2l, 1) := by decide +kernel
theorem dX0_make_30 : decode cX0_make 30 = .ok (.lreturn, 1) := by decide +kernel
theorem dX0_put_0 : decode cX0_put 0 = .ok (.aload_n 0, 1) := by decide +kernel
theorem dX0_put_1 : decode cX0_put 1 = .ok (.getfield 15, 3) := by decide +kernel
theorem dX0_put_4 : decode cX0_put 4 = .ok (.iconst (-1), 1) := by decide +kernel
theorem dX0_put_5 : decode cX0_put 5 = .ok (.if_icmp .ne 8, 3) := by decide +kernel
theorem dX0_put_8 : decode cX0_put 8 = .ok (.iconst 1, 1) := by decide +kernel
theorem dX0_put_9 : decode cX0_put 9 = .ok (.invokestatic 19, 3) := by decide +kernel
theorem dX0_put_12 : decode cX0_put 12 = .ok (.lreturn, 1) := by decide +kernel
theorem dX0_put_13 : decode cX0_put 13 = .ok (.iload_n 1, 1) := by decide +kernel
theorem dX0_put_14 : decode cX0_put 14 = .ok (.aload_n 0, 1) := by decide +kernel
theorem dX0_put_15 : decode cX0_put 15 = .ok (.getfield 15, 3) := by decide +kernel
theorem dX0_put_18 : decode cX0_put 18 = .ok (.invokestatic 29, 3) := by decide +kernel
theorem dX0_put_21 : decode cX0_put 21 = .ok (.ifCond .ne 8, 3) := by decide +kernel
theorem dX0_put_24 : decode cX0_put 24 = .ok (.iconst 3, 1) := by decide +kernel
theorem dX0_put_25 : decode cX0_put 25 = .ok (.invokestatic 19, 3) := by decide +kernel
theorem dX0_put_28 : decode cX0_put 28 = .ok (.lreturn, 1) := by decide +kernel
theorem dX0_put_29 : decode cX0_put 29 = .ok (.aload_n 0, 1) := by decide +kernel
theorem dX0_put_30 : decode cX0_put 30 = .ok (.getfield 9, 3) := by decide +kernel
theorem dX0_put_33 : decode cX0_put 33 = .ok (.iload_n 1, 1) := by decide +kernel
theorem dX0_put_34 : decode cX0_put 34 = .ok (.iaload, 1) := by decide +kernel
theorem dX0_put_35 : decode cX0_put 35 = .ok (.istore_n 3, 1) := by decide +kernel
theorem dX0_put_36 : decode cX0_put 36 = .ok (.aload_n 0, 1) := by decide +kernel
theorem dX0_put_37 : decode cX0_put 37 = .ok (.getfield 9, 3) := by decide +kernel
theorem dX0_put_40 : decode cX0_put 40 = .ok (.iload_n 1, 1) := by decide +kernel
theorem dX0_put_41 : decode cX0_put 41 = .ok (.iload_n 2, 1) := by decide +kernel
theorem dX0_put_42 : decode cX0_put 42 = .ok (.iastore, 1) := by decide +kernel
theorem dX0_put_43 : decode cX0_put 43 = .ok (.iload_n 3, 1) := by decide +kernel
theorem dX0_put_44 : decode cX0_put 44 = .ok (.i2l, 1) := by decide +kernel
theorem dX0_put_45 : decode cX0_put 45 = .ok (.lreturn, 1) := by decide +kernel
theorem dX0_numberAt_0 : decode cX0_numberAt 0 = .ok (.iload_n 1, 1) := by decide +kernel
theorem dX0_numberAt_1 : decode cX0_numberAt 1 = .ok (.aload_n 0, 1) := by decide +kernel
theorem dX0_numberAt_2 : decode cX0_numberAt 2 = .ok (.getfield 15, 3) := by decide +kernel
theorem dX0_numberAt_5 : decode cX0_numberAt 5 = .ok (.invokestatic 29, 3) := by decide +kernel
theorem dX0_numberAt_8 : decode cX0_numberAt 8 = .ok (.ifCond .eq 12, 3) := by decide +kernel
theorem dX0_numberAt_11 : decode cX0_numberAt 11 = .ok (.aload_n 0, 1) := by decide +kernel
theorem dX0_numberAt_12 : decode cX0_numberAt 12 = .ok (.getfield 9, 3) := by decide +kernel
theorem dX0_numberAt_15 : decode cX0_numberAt 15 = .ok (.iload_n 1, 1) := by decide +kernel
theorem dX0_numberAt_16 : decode cX0_numberAt 16 = .ok (.iaload, 1) := by decide +kernel
theorem dX0_numberAt_17 : decode cX0_numberAt 17 = .ok (.goto 4, 3) := by decide +kernel
theorem dX0_numberAt_20 : decode cX0_numberAt 20 = .ok (.iconst 0, 1) := by decide +kernel
theorem dX0_numberAt_21 : decode cX0_numberAt 21 = .ok (.ireturn, 1) := by decide +kernel
theorem dX1_init_0 : decode cX1_init 0 = .ok (.aload_n 0, 1) := by decide +kernel
theorem dX1_init_1 : decode cX1_init 1 = .ok (.invokespecial 3, 3) := by decide +kernel
theorem dX1_init_4 : decode cX1_init 4 = .ok (.aload_n 0, 1) := by decide +kernel
theorem dX1_init_5 : decode cX1_init 5 = .ok (.sipush 144, 3) := by decide +kernel
theorem dX1_init_8 : decode cX1_init 8 = .ok (.newarray .int, 2) := by decide +kernel
theorem dX1_init_10 : decode cX1_init 10 = .ok (.putfield 9, 3) := by decide +kernel
theorem dX1_init_13 : decode cX1_init 13 = .ok (.aload_n 0, 1) := by decide +kernel
theorem dX1_init_14 : decode cX1_init 14 = .ok (.iconst (-1), 1) := by decide +kernel
theorem dX1_init_15 : decode cX1_init 15 = .ok (.putfield 15, 3) := by decide +kernel
theorem dX1_init_18 : decode cX1_init 18 = .ok (.return_, 1) := by decide +kernel
theorem dX1_make_0 : decode cX1_make 0 = .ok (.iload_n 1, 1) := by decide +kernel
theorem dX1_make_1 : decode cX1_make 1 = .ok (.ifCond .lt 19, 3) := by decide +kernel
theorem dX1_make_4 : decode cX1_make 4 = .ok (.iload_n 2, 1) := by decide +kernel
theorem dX1_make_5 : decode cX1_make 5 = .ok (.ifCond .lt 15, 3) := by decide +kernel
theorem dX1_make_8 : decode cX1_make 8 = .ok (.iload_n 1, 1) := by decide +kernel
theorem dX1_make_9 : decode cX1_make 9 = .ok (.bipush 12, 2) := by decide +kernel
theorem dX1_make_11 : decode cX1_make 11 = .ok (.if_icmp .gt 9, 3) := by decide +kernel
theorem dX1_make_14 : decode cX1_make 14 = .ok (.iload_n 2, 1) := by decide +kernel
theorem dX1_make_15 : decode cX1_make 15 = .ok (.bipush 12, 2) := by decide +kernel
theorem dX1_make_17 : decode cX1_make 17 = .ok (.if_icmp .le 8, 3) := by decide +kernel
theorem dX1_make_20 : decode cX1_make 20 = .ok (.iconst 2, 1) := by decide +kernel
theorem dX1_make_21 : decode cX1_make 21 = .ok (.invokestatic 19, 3) := by decide +kernel
theorem dX1_make_24 : decode cX1_make 24 = .ok (.lreturn, 1) := by decide +kernel
theorem dX1_make_25 : decode cX1_make 25 = .ok (.aload_n 0, 1) := by decide +kernel
theorem dX1_make_26 : decode cX1_make 26 = .ok (.getfield 9, 3) := by decide +kernel
theorem dX1_make_29 : decode cX1_make 29 = .ok (.iconst 0, 1) := by decide +kernel
theorem dX1_make_30 : decode cX1_make 30 = .ok (.invokestatic 23, 3) := by decide +kernel
theorem dX1_make_33 : decode cX1_make 33 = .ok (.aload_n 0, 1) := by decide +kernel
theorem dX1_make_34 : decode cX1_make 34 = .ok (.iload_n 1, 1) := by decide +kernel
theorem dX1_make_35 : decode cX1_make 35 = .ok (.putfield 15, 3) := by decide +kernel
theorem dX1_make_38 : decode cX1_make 38 = .ok (.aload_n 0, 1) := by decide +kernel
theorem dX1_make_39 : decode cX1_make 39 = .ok (.iload_n 2, 1) := by decide +kernel
theorem dX1_make_40 : decode cX1_make 40 = .ok (.putfield 29, 3) := by decide +kernel
theorem dX1_make_43 : decode cX1_make 43 = .ok (.iload_n 1, 1) := by decide +kernel
theorem dX1_make_44 : decode cX1_make 44 = .ok (.i2l, 1) := by decide +kernel
theorem dX1_make_45 : decode cX1_make 45 = .ok (.lreturn, 1) := by decide +kernel
theorem dX1_has_0 : decode cX1_has 0 = .ok (.iload_n 1, 1) := by decide +kernel
theorem dX1_has_1 : decode cX1_has 1 = .ok (.aload_n 0, 1) := by decide +kernel
theorem dX1_has_2 : decode cX1_has 2 = .ok (.getfield 15, 3) := by decide +kernel
theorem dX1_has_5 : decode cX1_has 5 = .ok (.invokestatic 32, 3) := by decide +kernel
theorem dX1_has_8 : decode cX1_has 8 = .ok (.ifCond .eq 18, 3) := by decide +kernel
theorem dX1_has_11 : decode cX1_has 11 = .ok (.iload_n 2, 1) := by decide +kernel
theorem dX1_has_12 : decode cX1_has 12 = .ok (.aload_n 0, 1) := by decide +kernel
theorem dX1_has_13 : decode cX1_has 13 = .ok (.getfield 29, 3) := by decide +kernel
theorem dX1_has_16 : decode cX1_has 16 = .ok (.invokestatic 32, 3) := by decide +kernel
theorem dX1_has_19 : decode cX1_has 19 = .ok (.ifCond .eq 7, 3) := by decide +kernel
theorem dX1_has_22 : decode cX1_has 22 = .ok (.iconst 1, 1) := by decide +kernel
theorem dX1_has_23 : decode cX1_has 23 = .ok (.goto 4, 3) := by decide +kernel
theorem dX1_has_26 : decode cX1_has 26 = .ok (.iconst 0, 1) := by decide +kernel
theorem dX1_has_27 : decode cX1_has 27 = .ok (.ireturn, 1) := by decide +kernel
theorem dX1_rowLength_0 : decode cX1_rowLength 0 = .ok (.aload_n 0, 1) := by decide +kernel
theorem dX1_rowLength_1 : decode cX1_rowLength 1 = .ok (.getfield 15, 3) := by decide +kernel
theorem dX1_rowLength_4 : decode cX1_rowLength 4 = .ok (.iconst (-1), 1) := by decide +kernel
theorem dX1_rowLength_5 : decode cX1_rowLength 5 = .ok (.if_icmp .ne 8, 3) := by decide +kernel
theorem dX1_rowLength_8 : decode cX1_rowLength 8 = .ok (.iconst 1, 1) := by decide +kernel
theorem dX1_rowLength_9 : decode cX1_rowLength 9 = .ok (.invokestatic 19, 3) := by decide +kernel
theorem dX1_rowLength_12 : decode cX1_rowLength 12 = .ok (.lreturn, 1) := by decide +kernel
theorem dX1_rowLength_13 : decode cX1_rowLength 13 = .ok (.iload_n 1, 1) := by decide +kernel
theorem dX1_rowLength_14 : decode cX1_rowLength 14 = .ok (.aload_n 0, 1) := by decide +kernel
theorem dX1_rowLength_15 : decode cX1_rowLength 15 = .ok (.getfield 15, 3) := by decide +kernel
theorem dX1_rowLength_18 : decode cX1_rowLength 18 = .ok (.invokestatic 32, 3) := by decide +kernel
theorem dX1_rowLength_21 : decode cX1_rowLength 21 = .ok (.ifCond .eq 11, 3) := by decide +kernel
theorem dX1_rowLength_24 : decode cX1_rowLength 24 = .ok (.aload_n 0, 1) := by decide +kernel
theorem dX1_rowLength_25 : decode cX1_rowLength 25 = .ok (.getfield 29, 3) := by decide +kernel
theorem dX1_rowLength_28 : decode cX1_rowLength 28 = .ok (.i2l, 1) := by decide +kernel
theorem dX1_rowLength_29 : decode cX1_rowLength 29 = .ok (.goto 7, 3) := by decide +kernel
theorem dX1_rowLength_32 : decode cX1_rowLength 32 = .ok (.iconst 3, 1) := by decide +kernel
theorem dX1_rowLength_33 : decode cX1_rowLength 33 = .ok (.invokestatic 19, 3) := by decide +kernel
theorem dX1_rowLength_36 : decode cX1_rowLength 36 = .ok (.lreturn, 1) := by decide +kernel
theorem dX1_addOne_0 : decode cX1_addOne 0 = .ok (.aload_n 0, 1) := by decide +kernel
theorem dX1_addOne_1 : decode cX1_addOne 1 = .ok (.getfield 15, 3) := by decide +kernel
theorem dX1_addOne_4 : decode cX1_addOne 4 = .ok (.iconst (-1), 1) := by decide +kernel
theorem dX1_addOne_5 : decode cX1_addOne 5 = .ok (.if_icmp .ne 8, 3) := by decide +kernel
theorem dX1_addOne_8 : decode cX1_addOne 8 = .ok (.iconst 1, 1) := by decide +kernel
theorem dX1_addOne_9 : decode cX1_addOne 9 = .ok (.invokestatic 19, 3) := by decide +kernel
theorem dX1_addOne_12 : decode cX1_addOne 12 = .ok (.lreturn, 1) := by decide +kernel
theorem dX1_addOne_13 : decode cX1_addOne 13 = .ok (.aload_n 0, 1) := by decide +kernel
theorem dX1_addOne_14 : decode cX1_addOne 14 = .ok (.iload_n 1, 1) := by decide +kernel
theorem dX1_addOne_15 : decode cX1_addOne 15 = .ok (.iload_n 2, 1) := by decide +kernel
theorem dX1_addOne_16 : decode cX1_addOne 16 = .ok (.invokevirtual 36, 3) := by decide +kernel
theorem dX1_addOne_19 : decode cX1_addOne 19 = .ok (.ifCond .ne 8, 3) := by decide +kernel
theorem dX1_addOne_22 : decode cX1_addOne 22 = .ok (.iconst 3, 1) := by decide +kernel
theorem dX1_addOne_23 : decode cX1_addOne 23 = .ok (.invokestatic 19, 3) := by decide +kernel
theorem dX1_addOne_26 : decode cX1_addOne 26 = .ok (.lreturn, 1) := by decide +kernel
theorem dX1_addOne_27 : decode cX1_addOne 27 = .ok (.iload_n 1, 1) := by decide +kernel
theorem dX1_addOne_28 : decode cX1_addOne 28 = .ok (.bipush 12, 2) := by decide +kernel
theorem dX1_addOne_30 : decode cX1_addOne 30 = .ok (.imul, 1) := by decide +kernel
theorem dX1_addOne_31 : decode cX1_addOne 31 = .ok (.iload_n 2, 1) := by decide +kernel
theorem dX1_addOne_32 : decode cX1_addOne 32 = .ok (.iadd, 1) := by decide +kernel
theorem dX1_addOne_33 : decode cX1_addOne 33 = .ok (.istore_n 3, 1) := by decide +kernel
theorem dX1_addOne_34 : decode cX1_addOne 34 = .ok (.aload_n 0, 1) := by decide +kernel
theorem dX1_addOne_35 : decode cX1_addOne 35 = .ok (.getfield 9, 3) := by decide +kernel
theorem dX1_addOne_38 : decode cX1_addOne 38 = .ok (.iload_n 3, 1) := by decide +kernel
theorem dX1_addOne_39 : decode cX1_addOne 39 = .ok (.dup2, 1) := by decide +kernel
theorem dX1_addOne_40 : decode cX1_addOne 40 = .ok (.iaload, 1) := by decide +kernel
theorem dX1_addOne_41 : decode cX1_addOne 41 = .ok (.iconst 1, 1) := by decide +kernel
theorem dX1_addOne_42 : decode cX1_addOne 42 = .ok (.iadd, 1) := by decide +kernel
theorem dX1_addOne_43 : decode cX1_addOne 43 = .ok (.iastore, 1) := by decide +kernel
theorem dX1_addOne_44 : decode cX1_addOne 44 = .ok (.aload_n 0, 1) := by decide +kernel
theorem dX1_addOne_45 : decode cX1_addOne 45 = .ok (.getfield 9, 3) := by decide +kernel
theorem dX1_addOne_48 : decode cX1_addOne 48 = .ok (.iload_n 3, 1) := by decide +kernel
theorem dX1_addOne_49 : decode cX1_addOne 49 = .ok (.iaload, 1) := by decide +kernel
theorem dX1_addOne_50 : decode cX1_addOne 50 = .ok (.i2l, 1) := by decide +kernel
theorem dX1_addOne_51 : decode cX1_addOne 51 = .ok (.lreturn, 1) := by decide +kernel
theorem dX1_numberAt_0 : decode cX1_numberAt 0 = .ok (.aload_n 0, 1) := by decide +kernel
theorem dX1_numberAt_1 : decode cX1_numberAt 1 = .ok (.iload_n 1, 1) := by decide +kernel
theorem dX1_numberAt_2 : decode cX1_numberAt 2 = .ok (.iload_n 2, 1) := by decide +kernel
theorem dX1_numberAt_3 : decode cX1_numberAt 3 = .ok (.invokevirtual 36, 3) := by decide +kernel
theorem dX1_numberAt_6 : decode cX1_numberAt 6 = .ok (.ifCond .eq 17, 3) := by decide +kernel
theorem dX1_numberAt_9 : decode cX1_numberAt 9 = .ok (.aload_n 0, 1) := by decide +kernel
theorem dX1_numberAt_10 : decode cX1_numberAt 10 = .ok (.getfield 9, 3) := by decide +kernel
theorem dX1_numberAt_13 : decode cX1_numberAt 13 = .ok (.iload_n 1, 1) := by decide +kernel
theorem dX1_numberAt_14 : decode cX1_numberAt 14 = .ok (.bipush 12, 2) := by decide +kernel
theorem dX1_numberAt_16 : decode cX1_numberAt 16 = .ok (.imul, 1) := by decide +kernel
theorem dX1_numberAt_17 : decode cX1_numberAt 17 = .ok (.iload_n 2, 1) := by decide +kernel
theorem dX1_numberAt_18 : decode cX1_numberAt 18 = .ok (.iadd, 1) := by decide +kernel
theorem dX1_numberAt_19 : decode cX1_numberAt 19 = .ok (.iaload, 1) := by decide +kernel
theorem dX1_numberAt_20 : decode cX1_numberAt 20 = .ok (.goto 4, 3) := by decide +kernel
theorem dX1_numberAt_23 : decode cX1_numberAt 23 = .ok (.iconst 0, 1) := by decide +kernel
theorem dX1_numberAt_24 : decode cX1_numberAt 24 = .ok (.ireturn, 1) := by decide +kernel
theorem dX2_init_0 : decode cX2_init 0 = .ok (.aload_n 0, 1) := by decide +kernel
theorem dX2_init_1 : decode cX2_init 1 = .ok (.invokespecial 3, 3) := by decide +kernel
theorem dX2_init_4 : decode cX2_init 4 = .ok (.aload_n 0, 1) := by decide +kernel
theorem dX2_init_5 : decode cX2_init 5 = .ok (.bipush 16, 2) := by decide +kernel
theorem dX2_init_7 : decode cX2_init 7 = .ok (.anewarray 9, 3) := by decide +kernel
theorem dX2_init_10 : decode cX2_init 10 = .ok (.putfield 11, 3) := by decide +kernel
theorem dX2_init_13 : decode cX2_init 13 = .ok (.return_, 1) := by decide +kernel
theorem dX2_append_0 : decode cX2_append 0 = .ok (.aload_n 0, 1) := by decide +kernel
theorem dX2_append_1 : decode cX2_append 1 = .ok (.getfield 17, 3) := by decide +kernel
theorem dX2_append_4 : decode cX2_append 4 = .ok (.bipush 16, 2) := by decide +kernel
theorem dX2_append_6 : decode cX2_append 6 = .ok (.if_icmp .lt 6, 3) := by decide +kernel
theorem dX2_append_9 : decode cX2_append 9 = .ok (.bipush (-3), 2) := by decide +kernel
theorem dX2_append_11 : decode cX2_append 11 = .ok (.ireturn, 1) := by decide +kernel
theorem dX2_append_12 : decode cX2_append 12 = .ok (.aload_n 0, 1) := by decide +kernel
theorem dX2_append_13 : decode cX2_append 13 = .ok (.getfield 11, 3) := by decide +kernel
theorem dX2_append_16 : decode cX2_append 16 = .ok (.aload_n 0, 1) := by decide +kernel
theorem dX2_append_17 : decode cX2_append 17 = .ok (.getfield 17, 3) := by decide +kernel
theorem dX2_append_20 : decode cX2_append 20 = .ok (.aload_n 1, 1) := by decide +kernel
theorem dX2_append_21 : decode cX2_append 21 = .ok (.aastore, 1) := by decide +kernel
theorem dX2_append_22 : decode cX2_append 22 = .ok (.aload_n 0, 1) := by decide +kernel
theorem dX2_append_23 : decode cX2_append 23 = .ok (.dup, 1) := by decide +kernel
theorem dX2_append_24 : decode cX2_append 24 = .ok (.getfield 17, 3) := by decide +kernel
theorem dX2_append_27 : decode cX2_append 27 = .ok (.iconst 1, 1) := by decide +kernel
theorem dX2_append_28 : decode cX2_append 28 = .ok (.iadd, 1) := by decide +kernel
theorem dX2_append_29 : decode cX2_append 29 = .ok (.putfield 17, 3) := by decide +kernel
theorem dX2_append_32 : decode cX2_append 32 = .ok (.aload_n 0, 1) := by decide +kernel
theorem dX2_append_33 : decode cX2_append 33 = .ok (.getfield 17, 3) := by decide +kernel
theorem dX2_append_36 : decode cX2_append 36 = .ok (.iconst 1, 1) := by decide +kernel
theorem dX2_append_37 : decode cX2_append 37 = .ok (.isub, 1) := by decide +kernel
theorem dX2_append_38 : decode cX2_append 38 = .ok (.ireturn, 1) := by decide +kernel
theorem dX2_empty_0 : decode cX2_empty 0 = .ok (.aload_n 0, 1) := by decide +kernel
theorem dX2_empty_1 : decode cX2_empty 1 = .ok (.getfield 17, 3) := by decide +kernel
theorem dX2_empty_4 : decode cX2_empty 4 = .ok (.istore_n 1, 1) := by decide +kernel
theorem dX2_empty_5 : decode cX2_empty 5 = .ok (.aload_n 0, 1) := by decide +kernel
theorem dX2_empty_6 : decode cX2_empty 6 = .ok (.iconst 0, 1) := by decide +kernel
theorem dX2_empty_7 : decode cX2_empty 7 = .ok (.putfield 17, 3) := by decide +kernel
theorem dX2_empty_10 : decode cX2_empty 10 = .ok (.iload_n 1, 1) := by decide +kernel
theorem dX2_empty_11 : decode cX2_empty 11 = .ok (.ireturn, 1) := by decide +kernel
theorem dX2_stepAt_0 : decode cX2_stepAt 0 = .ok (.iload_n 1, 1) := by decide +kernel
theorem dX2_stepAt_1 : decode cX2_stepAt 1 = .ok (.aload_n 0, 1) := by decide +kernel
theorem dX2_stepAt_2 : decode cX2_stepAt 2 = .ok (.getfield 17, 3) := by decide +kernel
theorem dX2_stepAt_5 : decode cX2_stepAt 5 = .ok (.invokestatic 21, 3) := by decide +kernel
theorem dX2_stepAt_8 : decode cX2_stepAt 8 = .ok (.ifCond .eq 12, 3) := by decide +kernel
theorem dX2_stepAt_11 : decode cX2_stepAt 11 = .ok (.aload_n 0, 1) := by decide +kernel
theorem dX2_stepAt_12 : decode cX2_stepAt 12 = .ok (.getfield 11, 3) := by decide +kernel
theorem dX2_stepAt_15 : decode cX2_stepAt 15 = .ok (.iload_n 1, 1) := by decide +kernel
theorem dX2_stepAt_16 : decode cX2_stepAt 16 = .ok (.aaload, 1) := by decide +kernel
theorem dX2_stepAt_17 : decode cX2_stepAt 17 = .ok (.goto 4, 3) := by decide +kernel
theorem dX2_stepAt_20 : decode cX2_stepAt 20 = .ok (.aconst_null, 1) := by decide +kernel
theorem dX2_stepAt_21 : decode cX2_stepAt 21 = .ok (.areturn, 1) := by decide +kernel
theorem dX3_init_0 : decode cX3_init 0 = .ok (.aload_n 0, 1) := by decide +kernel
theorem dX3_init_1 : decode cX3_init 1 = .ok (.invokespecial 3, 3) := by decide +kernel
theorem dX3_init_4 : decode cX3_init 4 = .ok (.aload_n 0, 1) := by decide +kernel
theorem dX3_init_5 : decode cX3_init 5 = .ok (.bipush 12, 2) := by decide +kernel
theorem dX3_init_7 : decode cX3_init 7 = .ok (.anewarray 9, 3) := by decide +kernel
theorem dX3_init_10 : decode cX3_init 10 = .ok (.putfield 11, 3) := by decide +kernel
theorem dX3_init_13 : decode cX3_init 13 = .ok (.aload_n 0, 1) := by decide +kernel
theorem dX3_init_14 : decode cX3_init 14 = .ok (.iconst (-1), 1) := by decide +kernel
theorem dX3_init_15 : decode cX3_init 15 = .ok (.putfield 17, 3) := by decide +kernel
theorem dX3_init_18 : decode cX3_init 18 = .ok (.return_, 1) := by decide +kernel
theorem dX3_make_0 : decode cX3_make 0 = .ok (.iload_n 1, 1) := by decide +kernel
theorem dX3_make_1 : decode cX3_make 1 = .ok (.ifCond .lt 9, 3) := by decide +kernel
theorem dX3_make_4 : decode cX3_make 4 = .ok (.iload_n 1, 1) := by decide +kernel
theorem dX3_make_5 : decode cX3_make 5 = .ok (.bipush 12, 2) := by decide +kernel
theorem dX3_make_7 : decode cX3_make 7 = .ok (.if_icmp .le 8, 3) := by decide +kernel
theorem dX3_make_10 : decode cX3_make 10 = .ok (.iconst 2, 1) := by decide +kernel
theorem dX3_make_11 : decode cX3_make 11 = .ok (.invokestatic 21, 3) := by decide +kernel
theorem dX3_make_14 : decode cX3_make 14 = .ok (.lreturn, 1) := by decide +kernel
theorem dX3_make_15 : decode cX3_make 15 = .ok (.iconst 0, 1) := by decide +kernel
theorem dX3_make_16 : decode cX3_make 16 = .ok (.istore_n 3, 1) := by decide +kernel
theorem dX3_make_17 : decode cX3_make 17 = .ok (.iload_n 3, 1) := by decide +kernel
theorem dX3_make_18 : decode cX3_make 18 = .ok (.bipush 12, 2) := by decide +kernel
theorem dX3_make_20 : decode cX3_make 20 = .ok (.if_icmp .ge 16, 3) := by decide +kernel
theorem dX3_make_23 : decode cX3_make 23 = .ok (.aload_n 0, 1) := by decide +kernel
theorem dX3_make_24 : decode cX3_make 24 = .ok (.getfield 11, 3) := by decide +kernel
theorem dX3_make_27 : decode cX3_make 27 = .ok (.iload_n 3, 1) := by decide +kernel
theorem dX3_make_28 : decode cX3_make 28 = .ok (.aconst_null, 1) := by decide +kernel
theorem dX3_make_29 : decode cX3_make 29 = .ok (.aastore, 1) := by decide +kernel
theorem dX3_make_30 : decode cX3_make 30 = .ok (.iinc 3 1, 3) := by decide +kernel
theorem dX3_make_33 : decode cX3_make 33 = .ok (.goto (-16), 3) := by decide +kernel
theorem dX3_make_36 : decode cX3_make 36 = .ok (.aload_n 0, 1) := by decide +kernel
theorem dX3_make_37 : decode cX3_make 37 = .ok (.iload_n 1, 1) := by decide +kernel
theorem dX3_make_38 : decode cX3_make 38 = .ok (.putfield 17, 3) := by decide +kernel
theorem dX3_make_41 : decode cX3_make 41 = .ok (.aload_n 0, 1) := by decide +kernel
theorem dX3_make_42 : decode cX3_make 42 = .ok (.iload_n 2, 1) := by decide +kernel
theorem dX3_make_43 : decode cX3_make 43 = .ok (.putfield 25, 3) := by decide +kernel
theorem dX3_make_46 : decode cX3_make 46 = .ok (.iload_n 1, 1) := by decide +kernel
theorem dX3_make_47 : decode cX3_make 47 = .ok (.i2l, 1) := by decide +kernel
theorem dX3_make_48 : decode cX3_make 48 = .ok (.lreturn, 1) := by decide +kernel
theorem dX3_hang_0 : decode cX3_hang 0 = .ok (.aload_n 0, 1) := by decide +kernel
theorem dX3_hang_1 : decode cX3_hang 1 = .ok (.getfield 17, 3) := by decide +kernel
theorem dX3_hang_4 : decode cX3_hang 4 = .ok (.iconst (-1), 1) := by decide +kernel
theorem dX3_hang_5 : decode cX3_hang 5 = .ok (.if_icmp .eq 10, 3) := by decide +kernel
theorem dX3_hang_8 : decode cX3_hang 8 = .ok (.aload_n 2, 1) := by decide +kernel
theorem dX3_hang_9 : decode cX3_hang 9 = .ok (.getfield 29, 3) := by decide +kernel
theorem dX3_hang_12 : decode cX3_hang 12 = .ok (.ifCond .ne 8, 3) := by decide +kernel
theorem dX3_hang_15 : decode cX3_hang 15 = .ok (.iconst 1, 1) := by decide +kernel
theorem dX3_hang_16 : decode cX3_hang 16 = .ok (.invokestatic 21, 3) := by decide +kernel
theorem dX3_hang_19 : decode cX3_hang 19 = .ok (.lreturn, 1) := by decide +kernel
theorem dX3_hang_20 : decode cX3_hang 20 = .ok (.iload_n 1, 1) := by decide +kernel
theorem dX3_hang_21 : decode cX3_hang 21 = .ok (.aload_n 0, 1) := by decide +kernel
theorem dX3_hang_22 : decode cX3_hang 22 = .ok (.getfield 17, 3) := by decide +kernel
theorem dX3_hang_25 : decode cX3_hang 25 = .ok (.invokestatic 34, 3) := by decide +kernel
theorem dX3_hang_28 : decode cX3_hang 28 = .ok (.ifCond .ne 8, 3) := by decide +kernel
theorem dX3_hang_31 : decode cX3_hang 31 = .ok (.iconst 3, 1) := by decide +kernel
theorem dX3_hang_32 : decode cX3_hang 32 = .ok (.invokestatic 21, 3) := by decide +kernel
theorem dX3_hang_35 : decode cX3_hang 35 = .ok (.lreturn, 1) := by decide +kernel
theorem dX3_hang_36 : decode cX3_hang 36 = .ok (.aload_n 2, 1) := by decide +kernel
theorem dX3_hang_37 : decode cX3_hang 37 = .ok (.getfield 38, 3) := by decide +kernel
theorem dX3_hang_40 : decode cX3_hang 40 = .ok (.astore_n 3, 1) := by decide +kernel
theorem dX3_hang_41 : decode cX3_hang 41 = .ok (.aload_n 0, 1) := by decide +kernel
theorem dX3_hang_42 : decode cX3_hang 42 = .ok (.getfield 25, 3) := by decide +kernel
theorem dX3_hang_45 : decode cX3_hang 45 = .ok (.ifCond .eq 19, 3) := by decide +kernel
theorem dX3_hang_48 : decode cX3_hang 48 = .ok (.aload_n 3, 1) := by decide +kernel
theorem dX3_hang_49 : decode cX3_hang 49 = .ok (.ifnull 15, 3) := by decide +kernel
theorem dX3_hang_52 : decode cX3_hang 52 = .ok (.aload_n 3, 1) := by decide +kernel
theorem dX3_hang_53 : decode cX3_hang 53 = .ok (.getfield 42, 3) := by decide +kernel
theorem dX3_hang_56 : decode cX3_hang 56 = .ok (.ifCond .ne 8, 3) := by decide +kernel
theorem dX3_hang_59 : decode cX3_hang 59 = .ok (.iconst 4, 1) := by decide +kernel
theorem dX3_hang_60 : decode cX3_hang 60 = .ok (.invokestatic 21, 3) := by decide +kernel
theorem dX3_hang_63 : decode cX3_hang 63 = .ok (.lreturn, 1) := by decide +kernel
theorem dX3_hang_64 : decode cX3_hang 64 = .ok (.aload_n 0, 1) := by decide +kernel
theorem dX3_hang_65 : decode cX3_hang 65 = .ok (.getfield 11, 3) := by decide +kernel
theorem dX3_hang_68 : decode cX3_hang 68 = .ok (.iload_n 1, 1) := by decide +kernel
theorem dX3_hang_69 : decode cX3_hang 69 = .ok (.aload_n 3, 1) := by decide +kernel
theorem dX3_hang_70 : decode cX3_hang 70 = .ok (.aastore, 1) := by decide +kernel
theorem dX3_hang_71 : decode cX3_hang 71 = .ok (.lconst 1, 1) := by decide +kernel
theorem dX3_hang_72 : decode cX3_hang 72 = .ok (.lreturn, 1) := by decide +kernel
theorem dX3_balance_0 : decode cX3_balance 0 = .ok (.aload_n 0, 1) := by decide +kernel
theorem dX3_balance_1 : decode cX3_balance 1 = .ok (.getfield 17, 3) := by decide +kernel
theorem dX3_balance_4 : decode cX3_balance 4 = .ok (.iconst (-1), 1) := by decide +kernel
theorem dX3_balance_5 : decode cX3_balance 5 = .ok (.if_icmp .ne 8, 3) := by decide +kernel
theorem dX3_balance_8 : decode cX3_balance 8 = .ok (.iconst 1, 1) := by decide +kernel
theorem dX3_balance_9 : decode cX3_balance 9 = .ok (.invokestatic 21, 3) := by decide +kernel
theorem dX3_balance_12 : decode cX3_balance 12 = .ok (.lreturn, 1) := by decide +kernel
theorem dX3_balance_13 : decode cX3_balance 13 = .ok (.iload_n 1, 1) := by decide +kernel
theorem dX3_balance_14 : decode cX3_balance 14 = .ok (.aload_n 0, 1) := by decide +kernel
theorem dX3_balance_15 : decode cX3_balance 15 = .ok (.getfield 17, 3) := by decide +kernel
theorem dX3_balance_18 : decode cX3_balance 18 = .ok (.invokestatic 34, 3) := by decide +kernel
theorem dX3_balance_21 : decode cX3_balance 21 = .ok (.ifCond .ne 8, 3) := by decide +kernel
theorem dX3_balance_24 : decode cX3_balance 24 = .ok (.iconst 3, 1) := by decide +kernel
theorem dX3_balance_25 : decode cX3_balance 25 = .ok (.invokestatic 21, 3) := by decide +kernel
theorem dX3_balance_28 : decode cX3_balance 28 = .ok (.lreturn, 1) := by decide +kernel
theorem dX3_balance_29 : decode cX3_balance 29 = .ok (.aload_n 0, 1) := by decide +kernel
theorem dX3_balance_30 : decode cX3_balance 30 = .ok (.getfield 11, 3) := by decide +kernel
theorem dX3_balance_33 : decode cX3_balance 33 = .ok (.iload_n 1, 1) := by decide +kernel
theorem dX3_balance_34 : decode cX3_balance 34 = .ok (.aaload, 1) := by decide +kernel
theorem dX3_balance_35 : decode cX3_balance 35 = .ok (.astore_n 2, 1) := by decide +kernel
theorem dX3_balance_36 : decode cX3_balance 36 = .ok (.aload_n 2, 1) := by decide +kernel
theorem dX3_balance_37 : decode cX3_balance 37 = .ok (.ifnonnull 8, 3) := by decide +kernel
theorem dX3_balance_40 : decode cX3_balance 40 = .ok (.iconst 1, 1) := by decide +kernel
theorem dX3_balance_41 : decode cX3_balance 41 = .ok (.invokestatic 21, 3) := by decide +kernel
theorem dX3_balance_44 : decode cX3_balance 44 = .ok (.lreturn, 1) := by decide +kernel
theorem dX3_balance_45 : decode cX3_balance 45 = .ok (.aload_n 2, 1) := by decide +kernel
theorem dX3_balance_46 : decode cX3_balance 46 = .ok (.getfield 42, 3) := by decide +kernel
theorem dX3_balance_49 : decode cX3_balance 49 = .ok (.ifCond .ne 8, 3) := by decide +kernel
theorem dX3_balance_52 : decode cX3_balance 52 = .ok (.iconst 5, 1) := by decide +kernel
theorem dX3_balance_53 : decode cX3_balance 53 = .ok (.invokestatic 21, 3) := by decide +kernel
theorem dX3_balance_56 : decode cX3_balance 56 = .ok (.lreturn, 1) := by decide +kernel
theorem dX3_balance_57 : decode cX3_balance 57 = .ok (.aload_n 2, 1) := by decide +kernel
theorem dX3_balance_58 : decode cX3_balance 58 = .ok (.iconst 0, 1) := by decide +kernel
theorem dX3_balance_59 : decode cX3_balance 59 = .ok (.putfield 45, 3) := by decide +kernel
theorem dX3_balance_62 : decode cX3_balance 62 = .ok (.aload_n 2, 1) := by decide +kernel
theorem dX3_balance_63 : decode cX3_balance 63 = .ok (.invokevirtual 48, 3) := by decide +kernel
theorem dX3_balance_66 : decode cX3_balance 66 = .ok (.i2l, 1) := by decide +kernel
theorem dX3_balance_67 : decode cX3_balance 67 = .ok (.lreturn, 1) := by decide +kernel
theorem dX3_wheelAt_0 : decode cX3_wheelAt 0 = .ok (.iload_n 1, 1) := by decide +kernel
theorem dX3_wheelAt_1 : decode cX3_wheelAt 1 = .ok (.aload_n 0, 1) := by decide +kernel
theorem dX3_wheelAt_2 : decode cX3_wheelAt 2 = .ok (.getfield 17, 3) := by decide +kernel
theorem dX3_wheelAt_5 : decode cX3_wheelAt 5 = .ok (.invokestatic 34, 3) := by decide +kernel
theorem dX3_wheelAt_8 : decode cX3_wheelAt 8 = .ok (.ifCond .eq 12, 3) := by decide +kernel
theorem dX3_wheelAt_11 : decode cX3_wheelAt 11 = .ok (.aload_n 0, 1) := by decide +kernel
theorem dX3_wheelAt_12 : decode cX3_wheelAt 12 = .ok (.getfield 11, 3) := by decide +kernel
theorem dX3_wheelAt_15 : decode cX3_wheelAt 15 = .ok (.iload_n 1, 1) := by decide +kernel
theorem dX3_wheelAt_16 : decode cX3_wheelAt 16 = .ok (.aaload, 1) := by decide +kernel
theorem dX3_wheelAt_17 : decode cX3_wheelAt 17 = .ok (.goto 4, 3) := by decide +kernel
theorem dX3_wheelAt_20 : decode cX3_wheelAt 20 = .ok (.aconst_null, 1) := by decide +kernel
theorem dX3_wheelAt_21 : decode cX3_wheelAt 21 = .ok (.areturn, 1) := by decide +kernel
theorem dX3_holds_0 : decode cX3_holds 0 = .ok (.iconst 0, 1) := by decide +kernel
theorem dX3_holds_1 : decode cX3_holds 1 = .ok (.istore_n 2, 1) := by decide +kernel
theorem dX3_holds_2 : decode cX3_holds 2 = .ok (.iconst 0, 1) := by decide +kernel
theorem dX3_holds_3 : decode cX3_holds 3 = .ok (.istore_n 3, 1) := by decide +kernel
theorem dX3_holds_4 : decode cX3_holds 4 = .ok (.iload_n 3, 1) := by decide +kernel
theorem dX3_holds_5 : decode cX3_holds 5 = .ok (.aload_n 0, 1) := by decide +kernel
theorem dX3_holds_6 : decode cX3_holds 6 = .ok (.getfield 17, 3) := by decide +kernel
theorem dX3_holds_9 : decode cX3_holds 9 = .ok (.if_icmp .ge 31, 3) := by decide +kernel
theorem dX3_holds_12 : decode cX3_holds 12 = .ok (.iload_n 2, 1) := by decide +kernel
theorem dX3_holds_13 : decode cX3_holds 13 = .ok (.aload_n 1, 1) := by decide +kernel
theorem dX3_holds_14 : decode cX3_holds 14 = .ok (.ifnull 17, 3) := by decide +kernel
theorem dX3_holds_17 : decode cX3_holds 17 = .ok (.aload_n 0, 1) := by decide +kernel
theorem dX3_holds_18 : decode cX3_holds 18 = .ok (.getfield 11, 3) := by decide +kernel
theorem dX3_holds_21 : decode cX3_holds 21 = .ok (.iload_n 3, 1) := by decide +kernel
theorem dX3_holds_22 : decode cX3_holds 22 = .ok (.aaload, 1) := by decide +kernel
theorem dX3_holds_23 : decode cX3_holds 23 = .ok (.aload_n 1, 1) := by decide +kernel
theorem dX3_holds_24 : decode cX3_holds 24 = .ok (.if_acmp .ne 7, 3) := by decide +kernel
theorem dX3_holds_27 : decode cX3_holds 27 = .ok (.iconst 1, 1) := by decide +kernel
theorem dX3_holds_28 : decode cX3_holds 28 = .ok (.goto 4, 3) := by decide +kernel
theorem dX3_holds_31 : decode cX3_holds 31 = .ok (.iconst 0, 1) := by decide +kernel
theorem dX3_holds_32 : decode cX3_holds 32 = .ok (.ior, 1) := by decide +kernel
theorem dX3_holds_33 : decode cX3_holds 33 = .ok (.istore_n 2, 1) := by decide +kernel
theorem dX3_holds_34 : decode cX3_holds 34 = .ok (.iinc 3 1, 3) := by decide +kernel
theorem dX3_holds_37 : decode cX3_holds 37 = .ok (.goto (-33), 3) := by decide +kernel
theorem dX3_holds_40 : decode cX3_holds 40 = .ok (.iload_n 2, 1) := by decide +kernel
theorem dX3_holds_41 : decode cX3_holds 41 = .ok (.ireturn, 1) := by decide +kernel
theorem dX4_init_0 : decode cX4_init 0 = .ok (.aload_n 0, 1) := by decide +kernel
theorem dX4_init_1 : decode cX4_init 1 = .ok (.invokespecial 3, 3) := by decide +kernel
theorem dX4_init_4 : decode cX4_init 4 = .ok (.aload_n 0, 1) := by decide +kernel
theorem dX4_init_5 : decode cX4_init 5 = .ok (.iconst (-1), 1) := by decide +kernel
theorem dX4_init_6 : decode cX4_init 6 = .ok (.putfield 9, 3) := by decide +kernel
theorem dX4_init_9 : decode cX4_init 9 = .ok (.return_, 1) := by decide +kernel
theorem dX4_restart_0 : decode cX4_restart 0 = .ok (.aload_n 0, 1) := by decide +kernel
theorem dX4_restart_1 : decode cX4_restart 1 = .ok (.iconst 0, 1) := by decide +kernel
theorem dX4_restart_2 : decode cX4_restart 2 = .ok (.putfield 15, 3) := by decide +kernel
theorem dX4_restart_5 : decode cX4_restart 5 = .ok (.aload_n 0, 1) := by decide +kernel
theorem dX4_restart_6 : decode cX4_restart 6 = .ok (.iconst 0, 1) := by decide +kernel
theorem dX4_restart_7 : decode cX4_restart 7 = .ok (.putfield 18, 3) := by decide +kernel
theorem dX4_restart_10 : decode cX4_restart 10 = .ok (.aload_n 0, 1) := by decide +kernel
theorem dX4_restart_11 : decode cX4_restart 11 = .ok (.iconst 0, 1) := by decide +kernel
theorem dX4_restart_12 : decode cX4_restart 12 = .ok (.putfield 21, 3) := by decide +kernel
theorem dX4_restart_15 : decode cX4_restart 15 = .ok (.aload_n 0, 1) := by decide +kernel
theorem dX4_restart_16 : decode cX4_restart 16 = .ok (.iconst (-1), 1) := by decide +kernel
theorem dX4_restart_17 : decode cX4_restart 17 = .ok (.putfield 9, 3) := by decide +kernel
theorem dX4_restart_20 : decode cX4_restart 20 = .ok (.aload_n 0, 1) := by decide +kernel
theorem dX4_restart_21 : decode cX4_restart 21 = .ok (.iconst 0, 1) := by decide +kernel
theorem dX4_restart_22 : decode cX4_restart 22 = .ok (.putfield 24, 3) := by decide +kernel
theorem dX4_restart_25 : decode cX4_restart 25 = .ok (.aload_n 0, 1) := by decide +kernel
theorem dX4_restart_26 : decode cX4_restart 26 = .ok (.lconst 0, 1) := by decide +kernel
theorem dX4_restart_27 : decode cX4_restart 27 = .ok (.putfield 27, 3) := by decide +kernel
theorem dX4_restart_30 : decode cX4_restart 30 = .ok (.return_, 1) := by decide +kernel
theorem dX4_addAnswer_0 : decode cX4_addAnswer 0 = .ok (.aload_n 0, 1) := by decide +kernel
theorem dX4_addAnswer_1 : decode cX4_addAnswer 1 = .ok (.dup, 1) := by decide +kernel
theorem dX4_addAnswer_2 : decode cX4_addAnswer 2 = .ok (.getfield 15, 3) := by decide +kernel
theorem dX4_addAnswer_5 : decode cX4_addAnswer 5 = .ok (.iconst 1, 1) := by decide +kernel
theorem dX4_addAnswer_6 : decode cX4_addAnswer 6 = .ok (.iadd, 1) := by decide +kernel
theorem dX4_addAnswer_7 : decode cX4_addAnswer 7 = .ok (.putfield 15, 3) := by decide +kernel
theorem dX4_addAnswer_10 : decode cX4_addAnswer 10 = .ok (.aload_n 0, 1) := by decide +kernel
theorem dX4_addAnswer_11 : decode cX4_addAnswer 11 = .ok (.dup, 1) := by decide +kernel
theorem dX4_addAnswer_12 : decode cX4_addAnswer 12 = .ok (.getfield 27, 3) := by decide +kernel
theorem dX4_addAnswer_15 : decode cX4_addAnswer 15 = .ok (.lload_n 1, 1) := by decide +kernel
theorem dX4_addAnswer_16 : decode cX4_addAnswer 16 = .ok (.ladd, 1) := by decide +kernel
theorem dX4_addAnswer_17 : decode cX4_addAnswer 17 = .ok (.putfield 27, 3) := by decide +kernel
theorem dX4_addAnswer_20 : decode cX4_addAnswer 20 = .ok (.return_, 1) := by decide +kernel
theorem dX4_addFailure_0 : decode cX4_addFailure 0 = .ok (.aload_n 0, 1) := by decide +kernel
theorem dX4_addFailure_1 : decode cX4_addFailure 1 = .ok (.dup, 1) := by decide +kernel
theorem dX4_addFailure_2 : decode cX4_addFailure 2 = .ok (.getfield 18, 3) := by decide +kernel
theorem dX4_addFailure_5 : decode cX4_addFailure 5 = .ok (.iconst 1, 1) := by decide +kernel
theorem dX4_addFailure_6 : decode cX4_addFailure 6 = .ok (.iadd, 1) := by decide +kernel
theorem dX4_addFailure_7 : decode cX4_addFailure 7 = .ok (.putfield 18, 3) := by decide +kernel
theorem dX4_addFailure_10 : decode cX4_addFailure 10 = .ok (.aload_n 0, 1) := by decide +kernel
theorem dX4_addFailure_11 : decode cX4_addFailure 11 = .ok (.iload_n 1, 1) := by decide +kernel
theorem dX4_addFailure_12 : decode cX4_addFailure 12 = .ok (.putfield 21, 3) := by decide +kernel
theorem dX4_addFailure_15 : decode cX4_addFailure 15 = .ok (.aload_n 0, 1) := by decide +kernel
theorem dX4_addFailure_16 : decode cX4_addFailure 16 = .ok (.iload_n 2, 1) := by decide +kernel
theorem dX4_addFailure_17 : decode cX4_addFailure 17 = .ok (.putfield 9, 3) := by decide +kernel
theorem dX4_addFailure_20 : decode cX4_addFailure 20 = .ok (.return_, 1) := by decide +kernel
theorem dX5_init_0 : decode cX5_init 0 = .ok (.aload_n 0, 1) := by decide +kernel
theorem dX5_init_1 : decode cX5_init 1 = .ok (.invokespecial 3, 3) := by decide +kernel
theorem dX5_init_4 : decode cX5_init 4 = .ok (.return_, 1) := by decide +kernel
theorem dX5_build_0 : decode cX5_build 0 = .ok (.aload_n 0, 1) := by decide +kernel
theorem dX5_build_1 : decode cX5_build 1 = .ok (.invokevirtual 9, 3) := by decide +kernel
theorem dX5_build_4 : decode cX5_build 4 = .ok (.pop2, 1) := by decide +kernel
theorem dX5_build_5 : decode cX5_build 5 = .ok (.aload_n 0, 1) := by decide +kernel
theorem dX5_build_6 : decode cX5_build 6 = .ok (.iconst 1, 1) := by decide +kernel
theorem dX5_build_7 : decode cX5_build 7 = .ok (.putfield 15, 3) := by decide +kernel
theorem dX5_build_10 : decode cX5_build 10 = .ok (.aload_n 0, 1) := by decide +kernel
theorem dX5_build_11 : decode cX5_build 11 = .ok (.iload_n 1, 1) := by decide +kernel
theorem dX5_build_12 : decode cX5_build 12 = .ok (.putfield 19, 3) := by decide +kernel
theorem dX5_build_15 : decode cX5_build 15 = .ok (.iload_n 1, 1) := by decide +kernel
theorem dX5_build_16 : decode cX5_build 16 = .ok (.i2l, 1) := by decide +kernel
theorem dX5_build_17 : decode cX5_build 17 = .ok (.lreturn, 1) := by decide +kernel
theorem dX5_strip_0 : decode cX5_strip 0 = .ok (.aload_n 0, 1) := by decide +kernel
theorem dX5_strip_1 : decode cX5_strip 1 = .ok (.iconst 0, 1) := by decide +kernel
theorem dX5_strip_2 : decode cX5_strip 2 = .ok (.putfield 15, 3) := by decide +kernel
theorem dX5_strip_5 : decode cX5_strip 5 = .ok (.aload_n 0, 1) := by decide +kernel
theorem dX5_strip_6 : decode cX5_strip 6 = .ok (.iconst 0, 1) := by decide +kernel
theorem dX5_strip_7 : decode cX5_strip 7 = .ok (.putfield 19, 3) := by decide +kernel
theorem dX5_strip_10 : decode cX5_strip 10 = .ok (.aload_n 0, 1) := by decide +kernel
theorem dX5_strip_11 : decode cX5_strip 11 = .ok (.aconst_null, 1) := by decide +kernel
theorem dX5_strip_12 : decode cX5_strip 12 = .ok (.putfield 23, 3) := by decide +kernel
theorem dX5_strip_15 : decode cX5_strip 15 = .ok (.aload_n 0, 1) := by decide +kernel
theorem dX5_strip_16 : decode cX5_strip 16 = .ok (.aconst_null, 1) := by decide +kernel
theorem dX5_strip_17 : decode cX5_strip 17 = .ok (.putfield 27, 3) := by decide +kernel
theorem dX5_strip_20 : decode cX5_strip 20 = .ok (.aload_n 0, 1) := by decide +kernel
theorem dX5_strip_21 : decode cX5_strip 21 = .ok (.iconst 0, 1) := by decide +kernel
theorem dX5_strip_22 : decode cX5_strip 22 = .ok (.putfield 30, 3) := by decide +kernel
theorem dX5_strip_25 : decode cX5_strip 25 = .ok (.aload_n 0, 1) := by decide +kernel
theorem dX5_strip_26 : decode cX5_strip 26 = .ok (.iconst 0, 1) := by decide +kernel
theorem dX5_strip_27 : decode cX5_strip 27 = .ok (.putfield 33, 3) := by decide +kernel
theorem dX5_strip_30 : decode cX5_strip 30 = .ok (.lconst 1, 1) := by decide +kernel
theorem dX5_strip_31 : decode cX5_strip 31 = .ok (.lreturn, 1) := by decide +kernel
theorem dX5_wheel_0 : decode cX5_wheel 0 = .ok (.iload_n 1, 1) := by decide +kernel
theorem dX5_wheel_1 : decode cX5_wheel 1 = .ok (.iconst 1, 1) := by decide +kernel
theorem dX5_wheel_2 : decode cX5_wheel 2 = .ok (.iand, 1) := by decide +kernel
theorem dX5_wheel_3 : decode cX5_wheel 3 = .ok (.ifCond .ne 10, 3) := by decide +kernel
theorem dX5_wheel_6 : decode cX5_wheel 6 = .ok (.aload_n 0, 1) := by decide +kernel
theorem dX5_wheel_7 : decode cX5_wheel 7 = .ok (.getfield 23, 3) := by decide +kernel
theorem dX5_wheel_10 : decode cX5_wheel 10 = .ok (.goto 7, 3) := by decide +kernel
theorem dX5_wheel_13 : decode cX5_wheel 13 = .ok (.aload_n 0, 1) := by decide +kernel
theorem dX5_wheel_14 : decode cX5_wheel 14 = .ok (.getfield 27, 3) := by decide +kernel
theorem dX5_wheel_17 : decode cX5_wheel 17 = .ok (.areturn, 1) := by decide +kernel
theorem dX5_fit_0 : decode cX5_fit 0 = .ok (.aload_n 0, 1) := by decide +kernel
theorem dX5_fit_1 : decode cX5_fit 1 = .ok (.getfield 15, 3) := by decide +kernel
theorem dX5_fit_4 : decode cX5_fit 4 = .ok (.ifCond .ne 8, 3) := by decide +kernel
theorem dX5_fit_7 : decode cX5_fit 7 = .ok (.iconst 1, 1) := by decide +kernel
theorem dX5_fit_8 : decode cX5_fit 8 = .ok (.invokestatic 36, 3) := by decide +kernel
theorem dX5_fit_11 : decode cX5_fit 11 = .ok (.lreturn, 1) := by decide +kernel
theorem dX5_fit_12 : decode cX5_fit 12 = .ok (.iload_n 2, 1) := by decide +kernel
theorem dX5_fit_13 : decode cX5_fit 13 = .ok (.bipush 100, 2) := by decide +kernel
theorem dX5_fit_15 : decode cX5_fit 15 = .ok (.if_icmp .lt 7, 3) := by decide +kernel
theorem dX5_fit_18 : decode cX5_fit 18 = .ok (.iconst 1, 1) := by decide +kernel
theorem dX5_fit_19 : decode cX5_fit 19 = .ok (.goto 4, 3) := by decide +kernel
theorem dX5_fit_22 : decode cX5_fit 22 = .ok (.iconst 0, 1) := by decide +kernel
theorem dX5_fit_23 : decode cX5_fit 23 = .ok (.istore_n 3, 1) := by decide +kernel
theorem dX5_fit_24 : decode cX5_fit 24 = .ok (.iload_n 2, 1) := by decide +kernel
theorem dX5_fit_25 : decode cX5_fit 25 = .ok (.ifCond .ne 7, 3) := by decide +kernel
theorem dX5_fit_28 : decode cX5_fit 28 = .ok (.aconst_null, 1) := by decide +kernel
theorem dX5_fit_29 : decode cX5_fit 29 = .ok (.goto 23, 3) := by decide +kernel
theorem dX5_fit_32 : decode cX5_fit 32 = .ok (.new 40, 3) := by decide +kernel
theorem dX5_fit_35 : decode cX5_fit 35 = .ok (.dup, 1) := by decide +kernel
theorem dX5_fit_36 : decode cX5_fit 36 = .ok (.iload_n 3, 1) := by decide +kernel
theorem dX5_fit_37 : decode cX5_fit 37 = .ok (.ifCond .eq 10, 3) := by decide +kernel
theorem dX5_fit_40 : decode cX5_fit 40 = .ok (.iload_n 2, 1) := by decide +kernel
theorem dX5_fit_41 : decode cX5_fit 41 = .ok (.bipush 100, 2) := by decide +kernel
theorem dX5_fit_43 : decode cX5_fit 43 = .ok (.isub, 1) := by decide +kernel
theorem dX5_fit_44 : decode cX5_fit 44 = .ok (.goto 4, 3) := by decide +kernel
theorem dX5_fit_47 : decode cX5_fit 47 = .ok (.iload_n 2, 1) := by decide +kernel
theorem dX5_fit_48 : decode cX5_fit 48 = .ok (.iload_n 3, 1) := by decide +kernel
theorem dX5_fit_49 : decode cX5_fit 49 = .ok (.invokespecial 42, 3) := by decide +kernel
theorem dX5_fit_52 : decode cX5_fit 52 = .ok (.astore 4, 2) := by decide +kernel
theorem dX5_fit_54 : decode cX5_fit 54 = .ok (.iload_n 1, 1) := by decide +kernel
theorem dX5_fit_55 : decode cX5_fit 55 = .ok (.iconst 1, 1) := by decide +kernel
theorem dX5_fit_56 : decode cX5_fit 56 = .ok (.iand, 1) := by decide +kernel
theorem dX5_fit_57 : decode cX5_fit 57 = .ok (.ifCond .ne 12, 3) := by decide +kernel
theorem dX5_fit_60 : decode cX5_fit 60 = .ok (.aload_n 0, 1) := by decide +kernel
theorem dX5_fit_61 : decode cX5_fit 61 = .ok (.aload 4, 2) := by decide +kernel
theorem dX5_fit_63 : decode cX5_fit 63 = .ok (.putfield 23, 3) := by decide +kernel
theorem dX5_fit_66 : decode cX5_fit 66 = .ok (.goto 9, 3) := by decide +kernel
theorem dX5_fit_69 : decode cX5_fit 69 = .ok (.aload_n 0, 1) := by decide +kernel
theorem dX5_fit_70 : decode cX5_fit 70 = .ok (.aload 4, 2) := by decide +kernel
theorem dX5_fit_72 : decode cX5_fit 72 = .ok (.putfield 27, 3) := by decide +kernel
theorem dX5_fit_75 : decode cX5_fit 75 = .ok (.iload_n 2, 1) := by decide +kernel
theorem dX5_fit_76 : decode cX5_fit 76 = .ok (.i2l, 1) := by decide +kernel
theorem dX5_fit_77 : decode cX5_fit 77 = .ok (.lreturn, 1) := by decide +kernel
theorem dX5_trueWheel_0 : decode cX5_trueWheel 0 = .ok (.aload_n 0, 1) := by decide +kernel
theorem dX5_trueWheel_1 : decode cX5_trueWheel 1 = .ok (.iload_n 1, 1) := by decide +kernel
theorem dX5_trueWheel_2 : decode cX5_trueWheel 2 = .ok (.invokevirtual 45, 3) := by decide +kernel
theorem dX5_trueWheel_5 : decode cX5_trueWheel 5 = .ok (.astore_n 2, 1) := by decide +kernel
theorem dX5_trueWheel_6 : decode cX5_trueWheel 6 = .ok (.aload_n 2, 1) := by decide +kernel
theorem dX5_trueWheel_7 : decode cX5_trueWheel 7 = .ok (.ifnonnull 10, 3) := by decide +kernel
theorem dX5_trueWheel_10 : decode cX5_trueWheel 10 = .ok (.iconst 1, 1) := by decide +kernel
theorem dX5_trueWheel_11 : decode cX5_trueWheel 11 = .ok (.invokestatic 36, 3) := by decide +kernel
theorem dX5_trueWheel_14 : decode cX5_trueWheel 14 = .ok (.goto 8, 3) := by decide +kernel
theorem dX5_trueWheel_17 : decode cX5_trueWheel 17 = .ok (.aload_n 2, 1) := by decide +kernel
theorem dX5_trueWheel_18 : decode cX5_trueWheel 18 = .ok (.invokevirtual 49, 3) := by decide +kernel
theorem dX5_trueWheel_21 : decode cX5_trueWheel 21 = .ok (.i2l, 1) := by decide +kernel
theorem dX5_trueWheel_22 : decode cX5_trueWheel 22 = .ok (.lreturn, 1) := by decide +kernel
theorem dX5_countSpokes_0 : decode cX5_countSpokes 0 = .ok (.aload_n 0, 1) := by decide +kernel
theorem dX5_countSpokes_1 : decode cX5_countSpokes 1 = .ok (.iload_n 1, 1) := by decide +kernel
theorem dX5_countSpokes_2 : decode cX5_countSpokes 2 = .ok (.invokevirtual 45, 3) := by decide +kernel
theorem dX5_countSpokes_5 : decode cX5_countSpokes 5 = .ok (.astore_n 2, 1) := by decide +kernel
theorem dX5_countSpokes_6 : decode cX5_countSpokes 6 = .ok (.aload_n 2, 1) := by decide +kernel
theorem dX5_countSpokes_7 : decode cX5_countSpokes 7 = .ok (.ifnonnull 10, 3) := by decide +kernel
theorem dX5_countSpokes_10 : decode cX5_countSpokes 10 = .ok (.iconst 1, 1) := by decide +kernel
theorem dX5_countSpokes_11 : decode cX5_countSpokes 11 = .ok (.invokestatic 36, 3) := by decide +kernel
theorem dX5_countSpokes_14 : decode cX5_countSpokes 14 = .ok (.goto 8, 3) := by decide +kernel
theorem dX5_countSpokes_17 : decode cX5_countSpokes 17 = .ok (.aload_n 2, 1) := by decide +kernel
theorem dX5_countSpokes_18 : decode cX5_countSpokes 18 = .ok (.getfield 53, 3) := by decide +kernel
theorem dX5_countSpokes_21 : decode cX5_countSpokes 21 = .ok (.i2l, 1) := by decide +kernel
theorem dX5_countSpokes_22 : decode cX5_countSpokes 22 = .ok (.lreturn, 1) := by decide +kernel
theorem dX5_light_0 : decode cX5_light 0 = .ok (.aload_n 0, 1) := by decide +kernel
theorem dX5_light_1 : decode cX5_light 1 = .ok (.getfield 15, 3) := by decide +kernel
theorem dX5_light_4 : decode cX5_light 4 = .ok (.ifCond .ne 8, 3) := by decide +kernel
theorem dX5_light_7 : decode cX5_light 7 = .ok (.iconst 1, 1) := by decide +kernel
theorem dX5_light_8 : decode cX5_light 8 = .ok (.invokestatic 36, 3) := by decide +kernel
theorem dX5_light_11 : decode cX5_light 11 = .ok (.lreturn, 1) := by decide +kernel
theorem dX5_light_12 : decode cX5_light 12 = .ok (.aload_n 0, 1) := by decide +kernel
theorem dX5_light_13 : decode cX5_light 13 = .ok (.iload_n 1, 1) := by decide +kernel
theorem dX5_light_14 : decode cX5_light 14 = .ok (.ifCond .ne 7, 3) := by decide +kernel
theorem dX5_light_17 : decode cX5_light 17 = .ok (.iconst 0, 1) := by decide +kernel
theorem dX5_light_18 : decode cX5_light 18 = .ok (.goto 13, 3) := by decide +kernel
theorem dX5_light_21 : decode cX5_light 21 = .ok (.iload_n 1, 1) := by decide +kernel
theorem dX5_light_22 : decode cX5_light 22 = .ok (.iconst 1, 1) := by decide +kernel
theorem dX5_light_23 : decode cX5_light 23 = .ok (.if_icmp .ne 7, 3) := by decide +kernel
theorem dX5_light_26 : decode cX5_light 26 = .ok (.iconst 1, 1) := by decide +kernel
theorem dX5_light_27 : decode cX5_light 27 = .ok (.goto 4, 3) := by decide +kernel
theorem dX5_light_30 : decode cX5_light 30 = .ok (.iconst 2, 1) := by decide +kernel
theorem dX5_light_31 : decode cX5_light 31 = .ok (.putfield 30, 3) := by decide +kernel
theorem dX5_light_34 : decode cX5_light 34 = .ok (.aload_n 0, 1) := by decide +kernel
theorem dX5_light_35 : decode cX5_light 35 = .ok (.aload_n 0, 1) := by decide +kernel
theorem dX5_light_36 : decode cX5_light 36 = .ok (.getfield 30, 3) := by decide +kernel
theorem dX5_light_39 : decode cX5_light 39 = .ok (.iconst 2, 1) := by decide +kernel
theorem dX5_light_40 : decode cX5_light 40 = .ok (.if_icmp .ne 7, 3) := by decide +kernel
theorem dX5_light_43 : decode cX5_light 43 = .ok (.iload_n 2, 1) := by decide +kernel
theorem dX5_light_44 : decode cX5_light 44 = .ok (.goto 4, 3) := by decide +kernel
theorem dX5_light_47 : decode cX5_light 47 = .ok (.iconst 0, 1) := by decide +kernel
theorem dX5_light_48 : decode cX5_light 48 = .ok (.putfield 33, 3) := by decide +kernel
theorem dX5_light_51 : decode cX5_light 51 = .ok (.iload_n 1, 1) := by decide +kernel
theorem dX5_light_52 : decode cX5_light 52 = .ok (.i2l, 1) := by decide +kernel
theorem dX5_light_53 : decode cX5_light 53 = .ok (.lreturn, 1) := by decide +kernel
theorem dX5_shine_0 : decode cX5_shine 0 = .ok (.aload_n 0, 1) := by decide +kernel
theorem dX5_shine_1 : decode cX5_shine 1 = .ok (.getfield 30, 3) := by decide +kernel
theorem dX5_shine_4 : decode cX5_shine 4 = .ok (.ifCond .ne 8, 3) := by decide +kernel
theorem dX5_shine_7 : decode cX5_shine 7 = .ok (.iconst 1, 1) := by decide +kernel
theorem dX5_shine_8 : decode cX5_shine 8 = .ok (.invokestatic 36, 3) := by decide +kernel
theorem dX5_shine_11 : decode cX5_shine 11 = .ok (.lreturn, 1) := by decide +kernel
theorem dX5_shine_12 : decode cX5_shine 12 = .ok (.aload_n 0, 1) := by decide +kernel
theorem dX5_shine_13 : decode cX5_shine 13 = .ok (.getfield 30, 3) := by decide +kernel
theorem dX5_shine_16 : decode cX5_shine 16 = .ok (.iconst 1, 1) := by decide +kernel
theorem dX5_shine_17 : decode cX5_shine 17 = .ok (.if_icmp .ne 8, 3) := by decide +kernel
theorem dX5_shine_20 : decode cX5_shine 20 = .ok (.iconst 3, 1) := by decide +kernel
theorem dX5_shine_21 : decode cX5_shine 21 = .ok (.iload_n 1, 1) := by decide +kernel
theorem dX5_shine_22 : decode cX5_shine 22 = .ok (.imul, 1) := by decide +kernel
theorem dX5_shine_23 : decode cX5_shine 23 = .ok (.i2l, 1) := by decide +kernel
theorem dX5_shine_24 : decode cX5_shine 24 = .ok (.lreturn, 1) := by decide +kernel
theorem dX5_shine_25 : decode cX5_shine 25 = .ok (.aload_n 0, 1) := by decide +kernel
theorem dX5_shine_26 : decode cX5_shine 26 = .ok (.getfield 33, 3) := by decide +kernel
theorem dX5_shine_29 : decode cX5_shine 29 = .ok (.ifCond .gt 5, 3) := by decide +kernel
theorem dX5_shine_32 : decode cX5_shine 32 = .ok (.lconst 0, 1) := by decide +kernel
theorem dX5_shine_33 : decode cX5_shine 33 = .ok (.lreturn, 1) := by decide +kernel
theorem dX5_shine_34 : decode cX5_shine 34 = .ok (.aload_n 0, 1) := by decide +kernel
theorem dX5_shine_35 : decode cX5_shine 35 = .ok (.dup, 1) := by decide +kernel
theorem dX5_shine_36 : decode cX5_shine 36 = .ok (.getfield 33, 3) := by decide +kernel
theorem dX5_shine_39 : decode cX5_shine 39 = .ok (.iconst 1, 1) := by decide +kernel
theorem dX5_shine_40 : decode cX5_shine 40 = .ok (.isub, 1) := by decide +kernel
theorem dX5_shine_41 : decode cX5_shine 41 = .ok (.putfield 33, 3) := by decide +kernel
theorem dX5_shine_44 : decode cX5_shine 44 = .ok (.iload_n 1, 1) := by decide +kernel
theorem dX5_shine_45 : decode cX5_shine 45 = .ok (.i2l, 1) := by decide +kernel
theorem dX5_shine_46 : decode cX5_shine 46 = .ok (.lreturn, 1) := by decide +kernel
theorem dX5_tell_0 : decode cX5_tell 0 = .ok (.iload_n 1, 1) := by decide +kernel
theorem dX5_tell_1 : decode cX5_tell 1 = .ok (.tableswitch 158 0 7 #[47, 60, 65, 84, 103, 122, 158, 141], 47) := by decide +kernel
theorem dX5_tell_48 : decode cX5_tell 48 = .ok (.aload_n 0, 1) := by decide +kernel
theorem dX5_tell_49 : decode cX5_tell 49 = .ok (.getfield 15, 3) := by decide +kernel
theorem dX5_tell_52 : decode cX5_tell 52 = .ok (.ifCond .eq 7, 3) := by decide +kernel
theorem dX5_tell_55 : decode cX5_tell 55 = .ok (.iconst 1, 1) := by decide +kernel
theorem dX5_tell_56 : decode cX5_tell 56 = .ok (.goto 4, 3) := by decide +kernel
theorem dX5_tell_59 : decode cX5_tell 59 = .ok (.iconst 0, 1) := by decide +kernel
theorem dX5_tell_60 : decode cX5_tell 60 = .ok (.ireturn, 1) := by decide +kernel
theorem dX5_tell_61 : decode cX5_tell 61 = .ok (.aload_n 0, 1) := by decide +kernel
theorem dX5_tell_62 : decode cX5_tell 62 = .ok (.getfield 19, 3) := by decide +kernel
theorem dX5_tell_65 : decode cX5_tell 65 = .ok (.ireturn, 1) := by decide +kernel
theorem dX5_tell_66 : decode cX5_tell 66 = .ok (.aload_n 0, 1) := by decide +kernel
theorem dX5_tell_67 : decode cX5_tell 67 = .ok (.getfield 23, 3) := by decide +kernel
theorem dX5_tell_70 : decode cX5_tell 70 = .ok (.ifnonnull 7, 3) := by decide +kernel
theorem dX5_tell_73 : decode cX5_tell 73 = .ok (.iconst 0, 1) := by decide +kernel
theorem dX5_tell_74 : decode cX5_tell 74 = .ok (.goto 10, 3) := by decide +kernel
theorem dX5_tell_77 : decode cX5_tell 77 = .ok (.aload_n 0, 1) := by decide +kernel
theorem dX5_tell_78 : decode cX5_tell 78 = .ok (.getfield 23, 3) := by decide +kernel
theorem dX5_tell_81 : decode cX5_tell 81 = .ok (.getfield 53, 3) := by decide +kernel
theorem dX5_tell_84 : decode cX5_tell 84 = .ok (.ireturn, 1) := by decide +kernel
theorem dX5_tell_85 : decode cX5_tell 85 = .ok (.aload_n 0, 1) := by decide +kernel
theorem dX5_tell_86 : decode cX5_tell 86 = .ok (.getfield 27, 3) := by decide +kernel
theorem dX5_tell_89 : decode cX5_tell 89 = .ok (.ifnonnull 7, 3) := by decide +kernel
theorem dX5_tell_92 : decode cX5_tell 92 = .ok (.iconst 0, 1) := by decide +kernel
theorem dX5_tell_93 : decode cX5_tell 93 = .ok (.goto 10, 3) := by decide +kernel
theorem dX5_tell_96 : decode cX5_tell 96 = .ok (.aload_n 0, 1) := by decide +kernel
theorem dX5_tell_97 : decode cX5_tell 97 = .ok (.getfield 27, 3) := by decide +kernel
theorem dX5_tell_100 : decode cX5_tell 100 = .ok (.getfield 53, 3) := by decide +kernel
theorem dX5_tell_103 : decode cX5_tell 103 = .ok (.ireturn, 1) := by decide +kernel
theorem dX5_tell_104 : decode cX5_tell 104 = .ok (.aload_n 0, 1) := by decide +kernel
theorem dX5_tell_105 : decode cX5_tell 105 = .ok (.getfield 23, 3) := by decide +kernel
theorem dX5_tell_108 : decode cX5_tell 108 = .ok (.ifnonnull 7, 3) := by decide +kernel
theorem dX5_tell_111 : decode cX5_tell 111 = .ok (.iconst 0, 1) := by decide +kernel
theorem dX5_tell_112 : decode cX5_tell 112 = .ok (.goto 10, 3) := by decide +kernel
theorem dX5_tell_115 : decode cX5_tell 115 = .ok (.aload_n 0, 1) := by decide +kernel
theorem dX5_tell_116 : decode cX5_tell 116 = .ok (.getfield 23, 3) := by decide +kernel
theorem dX5_tell_119 : decode cX5_tell 119 = .ok (.getfield 56, 3) := by decide +kernel
theorem dX5_tell_122 : decode cX5_tell 122 = .ok (.ireturn, 1) := by decide +kernel
theorem dX5_tell_123 : decode cX5_tell 123 = .ok (.aload_n 0, 1) := by decide +kernel
theorem dX5_tell_124 : decode cX5_tell 124 = .ok (.getfield 27, 3) := by decide +kernel
theorem dX5_tell_127 : decode cX5_tell 127 = .ok (.ifnonnull 7, 3) := by decide +kernel
theorem dX5_tell_130 : decode cX5_tell 130 = .ok (.iconst 0, 1) := by decide +kernel
theorem dX5_tell_131 : decode cX5_tell 131 = .ok (.goto 10, 3) := by decide +kernel
theorem dX5_tell_134 : decode cX5_tell 134 = .ok (.aload_n 0, 1) := by decide +kernel
theorem dX5_tell_135 : decode cX5_tell 135 = .ok (.getfield 27, 3) := by decide +kernel
theorem dX5_tell_138 : decode cX5_tell 138 = .ok (.getfield 56, 3) := by decide +kernel
theorem dX5_tell_141 : decode cX5_tell 141 = .ok (.ireturn, 1) := by decide +kernel
theorem dX5_tell_142 : decode cX5_tell 142 = .ok (.aload_n 0, 1) := by decide +kernel
theorem dX5_tell_143 : decode cX5_tell 143 = .ok (.getfield 30, 3) := by decide +kernel
theorem dX5_tell_146 : decode cX5_tell 146 = .ok (.iconst 1, 1) := by decide +kernel
theorem dX5_tell_147 : decode cX5_tell 147 = .ok (.if_icmp .ne 7, 3) := by decide +kernel
theorem dX5_tell_150 : decode cX5_tell 150 = .ok (.iconst (-1), 1) := by decide +kernel
theorem dX5_tell_151 : decode cX5_tell 151 = .ok (.goto 7, 3) := by decide +kernel
theorem dX5_tell_154 : decode cX5_tell 154 = .ok (.aload_n 0, 1) := by decide +kernel
theorem dX5_tell_155 : decode cX5_tell 155 = .ok (.getfield 33, 3) := by decide +kernel
theorem dX5_tell_158 : decode cX5_tell 158 = .ok (.ireturn, 1) := by decide +kernel
theorem dX5_tell_159 : decode cX5_tell 159 = .ok (.ldc 59, 2) := by decide +kernel
theorem dX5_tell_161 : decode cX5_tell 161 = .ok (.ireturn, 1) := by decide +kernel
theorem dX6_init_0 : decode cX6_init 0 = .ok (.aload_n 0, 1) := by decide +kernel
theorem dX6_init_1 : decode cX6_init 1 = .ok (.invokespecial 1, 3) := by decide +kernel
theorem dX6_init_4 : decode cX6_init 4 = .ok (.aload_n 0, 1) := by decide +kernel
theorem dX6_init_5 : decode cX6_init 5 = .ok (.iload_n 1, 1) := by decide +kernel
theorem dX6_init_6 : decode cX6_init 6 = .ok (.putfield 7, 3) := by decide +kernel
theorem dX6_init_9 : decode cX6_init 9 = .ok (.aload_n 0, 1) := by decide +kernel
theorem dX6_init_10 : decode cX6_init 10 = .ok (.iload_n 2, 1) := by decide +kernel
theorem dX6_init_11 : decode cX6_init 11 = .ok (.putfield 13, 3) := by decide +kernel
theorem dX6_init_14 : decode cX6_init 14 = .ok (.aload_n 0, 1) := by decide +kernel
theorem dX6_init_15 : decode cX6_init 15 = .ok (.iload_n 3, 1) := by decide +kernel
theorem dX6_init_16 : decode cX6_init 16 = .ok (.putfield 16, 3) := by decide +kernel
theorem dX6_init_19 : decode cX6_init 19 = .ok (.aload_n 0, 1) := by decide +kernel
theorem dX6_init_20 : decode cX6_init 20 = .ok (.iload 4, 2) := by decide +kernel
theorem dX6_init_22 : decode cX6_init 22 = .ok (.putfield 19, 3) := by decide +kernel
theorem dX6_init_25 : decode cX6_init 25 = .ok (.aload_n 0, 1) := by decide +kernel
theorem dX6_init_26 : decode cX6_init 26 = .ok (.iload 5, 2) := by decide +kernel
theorem dX6_init_28 : decode cX6_init 28 = .ok (.putfield 22, 3) := by decide +kernel
theorem dX6_init_31 : decode cX6_init 31 = .ok (.return_, 1) := by decide +kernel
theorem dX7_init_0 : decode cX7_init 0 = .ok (.aload_n 0, 1) := by decide +kernel
theorem dX7_init_1 : decode cX7_init 1 = .ok (.invokespecial 1, 3) := by decide +kernel
theorem dX7_init_4 : decode cX7_init 4 = .ok (.aload_n 0, 1) := by decide +kernel
theorem dX7_init_5 : decode cX7_init 5 = .ok (.iload_n 1, 1) := by decide +kernel
theorem dX7_init_6 : decode cX7_init 6 = .ok (.putfield 7, 3) := by decide +kernel
theorem dX7_init_9 : decode cX7_init 9 = .ok (.aload_n 0, 1) := by decide +kernel
theorem dX7_init_10 : decode cX7_init 10 = .ok (.iload_n 2, 1) := by decide +kernel
end
section
theorem dX7_init_11 : decode cX7_init 11 = .ok (.putfield 13, 3) := by decide +kernel
theorem dX7_init_14 : decode cX7_init 14 = .ok (.return_, 1) := by decide +kernel
theorem dX7_turn_0 : decode cX7_turn 0 = .ok (.aload_n 0, 1) := by decide +kernel
theorem dX7_turn_1 : decode cX7_turn 1 = .ok (.dup, 1) := by decide +kernel
theorem dX7_turn_2 : decode cX7_turn 2 = .ok (.getfield 17, 3) := by decide +kernel
theorem dX7_turn_5 : decode cX7_turn 5 = .ok (.iconst 1, 1) := by decide +kernel
theorem dX7_turn_6 : decode cX7_turn 6 = .ok (.iadd, 1) := by decide +kernel
theorem dX7_turn_7 : decode cX7_turn 7 = .ok (.putfield 17, 3) := by decide +kernel
theorem dX7_turn_10 : decode cX7_turn 10 = .ok (.aload_n 0, 1) := by decide +kernel
theorem dX7_turn_11 : decode cX7_turn 11 = .ok (.getfield 17, 3) := by decide +kernel
theorem dX7_turn_14 : decode cX7_turn 14 = .ok (.aload_n 0, 1) := by decide +kernel
theorem dX7_turn_15 : decode cX7_turn 15 = .ok (.getfield 7, 3) := by decide +kernel
theorem dX7_turn_18 : decode cX7_turn 18 = .ok (.imul, 1) := by decide +kernel
theorem dX7_turn_19 : decode cX7_turn 19 = .ok (.aload_n 0, 1) := by decide +kernel
theorem dX7_turn_20 : decode cX7_turn 20 = .ok (.getfield 13, 3) := by decide +kernel
theorem dX7_turn_23 : decode cX7_turn 23 = .ok (.ifCond .eq 7, 3) := by decide +kernel
theorem dX7_turn_26 : decode cX7_turn 26 = .ok (.iconst 1, 1) := by decide +kernel
theorem dX7_turn_27 : decode cX7_turn 27 = .ok (.goto 4, 3) := by decide +kernel
theorem dX7_turn_30 : decode cX7_turn 30 = .ok (.iconst 0, 1) := by decide +kernel
theorem dX7_turn_31 : decode cX7_turn 31 = .ok (.iadd, 1) := by decide +kernel
theorem dX7_turn_32 : decode cX7_turn 32 = .ok (.ireturn, 1) := by decide +kernel
theorem dX7_label_0 : decode cX7_label 0 = .ok (.aload_n 0, 1) := by decide +kernel
theorem dX7_label_1 : decode cX7_label 1 = .ok (.getfield 13, 3) := by decide +kernel
theorem dX7_label_4 : decode cX7_label 4 = .ok (.ifCond .eq 14, 3) := by decide +kernel
theorem dX7_label_7 : decode cX7_label 7 = .ok (.sipush 1000, 3) := by decide +kernel
theorem dX7_label_10 : decode cX7_label 10 = .ok (.aload_n 0, 1) := by decide +kernel
theorem dX7_label_11 : decode cX7_label 11 = .ok (.getfield 7, 3) := by decide +kernel
theorem dX7_label_14 : decode cX7_label 14 = .ok (.iadd, 1) := by decide +kernel
theorem dX7_label_15 : decode cX7_label 15 = .ok (.goto 7, 3) := by decide +kernel
theorem dX7_label_18 : decode cX7_label 18 = .ok (.aload_n 0, 1) := by decide +kernel
theorem dX7_label_19 : decode cX7_label 19 = .ok (.getfield 7, 3) := by decide +kernel
theorem dX7_label_22 : decode cX7_label 22 = .ok (.ireturn, 1) := by decide +kernel
theorem dX8_init_0 : decode cX8_init 0 = .ok (.aload_n 0, 1) := by decide +kernel
theorem dX8_init_1 : decode cX8_init 1 = .ok (.invokespecial 1, 3) := by decide +kernel
theorem dX8_init_4 : decode cX8_init 4 = .ok (.aload_n 0, 1) := by decide +kernel
theorem dX8_init_5 : decode cX8_init 5 = .ok (.iconst 4, 1) := by decide +kernel
theorem dX8_init_6 : decode cX8_init 6 = .ok (.anewarray 9, 3) := by decide +kernel
theorem dX8_init_9 : decode cX8_init 9 = .ok (.putfield 11, 3) := by decide +kernel
theorem dX8_init_12 : decode cX8_init 12 = .ok (.aload_n 0, 1) := by decide +kernel
theorem dX8_init_13 : decode cX8_init 13 = .ok (.iconst 4, 1) := by decide +kernel
theorem dX8_init_14 : decode cX8_init 14 = .ok (.anewarray 15, 3) := by decide +kernel
theorem dX8_init_17 : decode cX8_init 17 = .ok (.putfield 17, 3) := by decide +kernel
theorem dX8_init_20 : decode cX8_init 20 = .ok (.aload_n 0, 1) := by decide +kernel
theorem dX8_init_21 : decode cX8_init 21 = .ok (.iconst 4, 1) := by decide +kernel
theorem dX8_init_22 : decode cX8_init 22 = .ok (.anewarray 21, 3) := by decide +kernel
theorem dX8_init_25 : decode cX8_init 25 = .ok (.putfield 23, 3) := by decide +kernel
theorem dX8_init_28 : decode cX8_init 28 = .ok (.aload_n 0, 1) := by decide +kernel
theorem dX8_init_29 : decode cX8_init 29 = .ok (.iconst 4, 1) := by decide +kernel
theorem dX8_init_30 : decode cX8_init 30 = .ok (.anewarray 27, 3) := by decide +kernel
theorem dX8_init_33 : decode cX8_init 33 = .ok (.putfield 29, 3) := by decide +kernel
theorem dX8_init_36 : decode cX8_init 36 = .ok (.aload_n 0, 1) := by decide +kernel
theorem dX8_init_37 : decode cX8_init 37 = .ok (.iconst 4, 1) := by decide +kernel
theorem dX8_init_38 : decode cX8_init 38 = .ok (.anewarray 33, 3) := by decide +kernel
theorem dX8_init_41 : decode cX8_init 41 = .ok (.putfield 35, 3) := by decide +kernel
theorem dX8_init_44 : decode cX8_init 44 = .ok (.aload_n 0, 1) := by decide +kernel
theorem dX8_init_45 : decode cX8_init 45 = .ok (.iconst 4, 1) := by decide +kernel
theorem dX8_init_46 : decode cX8_init 46 = .ok (.newarray .int, 2) := by decide +kernel
theorem dX8_init_48 : decode cX8_init 48 = .ok (.putfield 39, 3) := by decide +kernel
theorem dX8_init_51 : decode cX8_init 51 = .ok (.aload_n 0, 1) := by decide +kernel
theorem dX8_init_52 : decode cX8_init 52 = .ok (.bipush 8, 2) := by decide +kernel
theorem dX8_init_54 : decode cX8_init 54 = .ok (.newarray .int, 2) := by decide +kernel
theorem dX8_init_56 : decode cX8_init 56 = .ok (.putfield 43, 3) := by decide +kernel
theorem dX8_init_59 : decode cX8_init 59 = .ok (.aload_n 0, 1) := by decide +kernel
theorem dX8_init_60 : decode cX8_init 60 = .ok (.new 46, 3) := by decide +kernel
theorem dX8_init_63 : decode cX8_init 63 = .ok (.dup, 1) := by decide +kernel
theorem dX8_init_64 : decode cX8_init 64 = .ok (.invokespecial 48, 3) := by decide +kernel
theorem dX8_init_67 : decode cX8_init 67 = .ok (.putfield 49, 3) := by decide +kernel
theorem dX8_init_70 : decode cX8_init 70 = .ok (.iconst 0, 1) := by decide +kernel
theorem dX8_init_71 : decode cX8_init 71 = .ok (.istore_n 1, 1) := by decide +kernel
theorem dX8_init_72 : decode cX8_init 72 = .ok (.iload_n 1, 1) := by decide +kernel
theorem dX8_init_73 : decode cX8_init 73 = .ok (.iconst 4, 1) := by decide +kernel
theorem dX8_init_74 : decode cX8_init 74 = .ok (.if_icmp .ge 81, 3) := by decide +kernel
theorem dX8_init_77 : decode cX8_init 77 = .ok (.aload_n 0, 1) := by decide +kernel
theorem dX8_init_78 : decode cX8_init 78 = .ok (.getfield 11, 3) := by decide +kernel
theorem dX8_init_81 : decode cX8_init 81 = .ok (.iload_n 1, 1) := by decide +kernel
theorem dX8_init_82 : decode cX8_init 82 = .ok (.new 9, 3) := by decide +kernel
theorem dX8_init_85 : decode cX8_init 85 = .ok (.dup, 1) := by decide +kernel
theorem dX8_init_86 : decode cX8_init 86 = .ok (.invokespecial 53, 3) := by decide +kernel
theorem dX8_init_89 : decode cX8_init 89 = .ok (.aastore, 1) := by decide +kernel
theorem dX8_init_90 : decode cX8_init 90 = .ok (.aload_n 0, 1) := by decide +kernel
theorem dX8_init_91 : decode cX8_init 91 = .ok (.getfield 17, 3) := by decide +kernel
theorem dX8_init_94 : decode cX8_init 94 = .ok (.iload_n 1, 1) := by decide +kernel
theorem dX8_init_95 : decode cX8_init 95 = .ok (.new 15, 3) := by decide +kernel
theorem dX8_init_98 : decode cX8_init 98 = .ok (.dup, 1) := by decide +kernel
theorem dX8_init_99 : decode cX8_init 99 = .ok (.invokespecial 54, 3) := by decide +kernel
theorem dX8_init_102 : decode cX8_init 102 = .ok (.aastore, 1) := by decide +kernel
theorem dX8_init_103 : decode cX8_init 103 = .ok (.aload_n 0, 1) := by decide +kernel
theorem dX8_init_104 : decode cX8_init 104 = .ok (.getfield 23, 3) := by decide +kernel
theorem dX8_init_107 : decode cX8_init 107 = .ok (.iload_n 1, 1) := by decide +kernel
theorem dX8_init_108 : decode cX8_init 108 = .ok (.new 21, 3) := by decide +kernel
theorem dX8_init_111 : decode cX8_init 111 = .ok (.dup, 1) := by decide +kernel
theorem dX8_init_112 : decode cX8_init 112 = .ok (.invokespecial 55, 3) := by decide +kernel
theorem dX8_init_115 : decode cX8_init 115 = .ok (.aastore, 1) := by decide +kernel
theorem dX8_init_116 : decode cX8_init 116 = .ok (.aload_n 0, 1) := by decide +kernel
theorem dX8_init_117 : decode cX8_init 117 = .ok (.getfield 29, 3) := by decide +kernel
theorem dX8_init_120 : decode cX8_init 120 = .ok (.iload_n 1, 1) := by decide +kernel
theorem dX8_init_121 : decode cX8_init 121 = .ok (.new 27, 3) := by decide +kernel
theorem dX8_init_124 : decode cX8_init 124 = .ok (.dup, 1) := by decide +kernel
theorem dX8_init_125 : decode cX8_init 125 = .ok (.invokespecial 56, 3) := by decide +kernel
theorem dX8_init_128 : decode cX8_init 128 = .ok (.aastore, 1) := by decide +kernel
theorem dX8_init_129 : decode cX8_init 129 = .ok (.aload_n 0, 1) := by decide +kernel
theorem dX8_init_130 : decode cX8_init 130 = .ok (.getfield 35, 3) := by decide +kernel
theorem dX8_init_133 : decode cX8_init 133 = .ok (.iload_n 1, 1) := by decide +kernel
theorem dX8_init_134 : decode cX8_init 134 = .ok (.new 33, 3) := by decide +kernel
theorem dX8_init_137 : decode cX8_init 137 = .ok (.dup, 1) := by decide +kernel
theorem dX8_init_138 : decode cX8_init 138 = .ok (.invokespecial 57, 3) := by decide +kernel
theorem dX8_init_141 : decode cX8_init 141 = .ok (.aastore, 1) := by decide +kernel
theorem dX8_init_142 : decode cX8_init 142 = .ok (.aload_n 0, 1) := by decide +kernel
theorem dX8_init_143 : decode cX8_init 143 = .ok (.getfield 39, 3) := by decide +kernel
theorem dX8_init_146 : decode cX8_init 146 = .ok (.iload_n 1, 1) := by decide +kernel
theorem dX8_init_147 : decode cX8_init 147 = .ok (.iconst 1, 1) := by decide +kernel
theorem dX8_init_148 : decode cX8_init 148 = .ok (.iastore, 1) := by decide +kernel
theorem dX8_init_149 : decode cX8_init 149 = .ok (.iinc 1 1, 3) := by decide +kernel
theorem dX8_init_152 : decode cX8_init 152 = .ok (.goto (-80), 3) := by decide +kernel
theorem dX8_init_155 : decode cX8_init 155 = .ok (.return_, 1) := by decide +kernel
theorem dX8_act_0 : decode cX8_act 0 = .ok (.iload_n 1, 1) := by decide +kernel
theorem dX8_act_1 : decode cX8_act 1 = .ok (.iload_n 2, 1) := by decide +kernel
theorem dX8_act_2 : decode cX8_act 2 = .ok (.iload_n 3, 1) := by decide +kernel
theorem dX8_act_3 : decode cX8_act 3 = .ok (.iload 4, 2) := by decide +kernel
theorem dX8_act_5 : decode cX8_act 5 = .ok (.invokestatic 58, 3) := by decide +kernel
theorem dX8_act_8 : decode cX8_act 8 = .ok (.ifCond .eq 15, 3) := by decide +kernel
theorem dX8_act_11 : decode cX8_act 11 = .ok (.aload_n 0, 1) := by decide +kernel
theorem dX8_act_12 : decode cX8_act 12 = .ok (.iload_n 1, 1) := by decide +kernel
theorem dX8_act_13 : decode cX8_act 13 = .ok (.iload_n 2, 1) := by decide +kernel
theorem dX8_act_14 : decode cX8_act 14 = .ok (.iload_n 3, 1) := by decide +kernel
theorem dX8_act_15 : decode cX8_act 15 = .ok (.iload 4, 2) := by decide +kernel
theorem dX8_act_17 : decode cX8_act 17 = .ok (.invokevirtual 62, 3) := by decide +kernel
theorem dX8_act_20 : decode cX8_act 20 = .ok (.goto 6, 3) := by decide +kernel
theorem dX8_act_23 : decode cX8_act 23 = .ok (.ldc2_w 66, 3) := by decide +kernel
theorem dX8_act_26 : decode cX8_act 26 = .ok (.lreturn, 1) := by decide +kernel
theorem dX8_step_0 : decode cX8_step 0 = .ok (.iload 6, 2) := by decide +kernel
theorem dX8_step_2 : decode cX8_step 2 = .ok (.iconst (-1), 1) := by decide +kernel
theorem dX8_step_3 : decode cX8_step 3 = .ok (.if_icmp .eq 13, 3) := by decide +kernel
theorem dX8_step_6 : decode cX8_step 6 = .ok (.iload 6, 2) := by decide +kernel
theorem dX8_step_8 : decode cX8_step 8 = .ok (.bipush 16, 2) := by decide +kernel
theorem dX8_step_10 : decode cX8_step 10 = .ok (.invokestatic 68, 3) := by decide +kernel
theorem dX8_step_13 : decode cX8_step 13 = .ok (.ifCond .eq 7, 3) := by decide +kernel
theorem dX8_step_16 : decode cX8_step 16 = .ok (.iconst 1, 1) := by decide +kernel
theorem dX8_step_17 : decode cX8_step 17 = .ok (.goto 4, 3) := by decide +kernel
theorem dX8_step_20 : decode cX8_step 20 = .ok (.iconst 0, 1) := by decide +kernel
theorem dX8_step_21 : decode cX8_step 21 = .ok (.istore 7, 2) := by decide +kernel
theorem dX8_step_23 : decode cX8_step 23 = .ok (.iload_n 1, 1) := by decide +kernel
theorem dX8_step_24 : decode cX8_step 24 = .ok (.iconst 4, 1) := by decide +kernel
theorem dX8_step_25 : decode cX8_step 25 = .ok (.invokestatic 68, 3) := by decide +kernel
theorem dX8_step_28 : decode cX8_step 28 = .ok (.ifCond .eq 20, 3) := by decide +kernel
theorem dX8_step_31 : decode cX8_step 31 = .ok (.iload 7, 2) := by decide +kernel
theorem dX8_step_33 : decode cX8_step 33 = .ok (.ifCond .eq 15, 3) := by decide +kernel
theorem dX8_step_36 : decode cX8_step 36 = .ok (.iload_n 2, 1) := by decide +kernel
theorem dX8_step_37 : decode cX8_step 37 = .ok (.iload_n 3, 1) := by decide +kernel
theorem dX8_step_38 : decode cX8_step 38 = .ok (.iload 4, 2) := by decide +kernel
theorem dX8_step_40 : decode cX8_step 40 = .ok (.iload 5, 2) := by decide +kernel
theorem dX8_step_42 : decode cX8_step 42 = .ok (.invokestatic 58, 3) := by decide +kernel
theorem dX8_step_45 : decode cX8_step 45 = .ok (.ifCond .ne 6, 3) := by decide +kernel
theorem dX8_step_48 : decode cX8_step 48 = .ok (.bipush (-2), 2) := by decide +kernel
theorem dX8_step_50 : decode cX8_step 50 = .ok (.ireturn, 1) := by decide +kernel
theorem dX8_step_51 : decode cX8_step 51 = .ok (.aload_n 0, 1) := by decide +kernel
theorem dX8_step_52 : decode cX8_step 52 = .ok (.getfield 35, 3) := by decide +kernel
theorem dX8_step_55 : decode cX8_step 55 = .ok (.iload_n 1, 1) := by decide +kernel
theorem dX8_step_56 : decode cX8_step 56 = .ok (.aaload, 1) := by decide +kernel
theorem dX8_step_57 : decode cX8_step 57 = .ok (.new 72, 3) := by decide +kernel
theorem dX8_step_60 : decode cX8_step 60 = .ok (.dup, 1) := by decide +kernel
theorem dX8_step_61 : decode cX8_step 61 = .ok (.iload_n 2, 1) := by decide +kernel
theorem dX8_step_62 : decode cX8_step 62 = .ok (.iload_n 3, 1) := by decide +kernel
theorem dX8_step_63 : decode cX8_step 63 = .ok (.iload 4, 2) := by decide +kernel
theorem dX8_step_65 : decode cX8_step 65 = .ok (.iload 5, 2) := by decide +kernel
theorem dX8_step_67 : decode cX8_step 67 = .ok (.iload 6, 2) := by decide +kernel
theorem dX8_step_69 : decode cX8_step 69 = .ok (.invokespecial 74, 3) := by decide +kernel
theorem dX8_step_72 : decode cX8_step 72 = .ok (.invokevirtual 77, 3) := by decide +kernel
theorem dX8_step_75 : decode cX8_step 75 = .ok (.ireturn, 1) := by decide +kernel
theorem dX8_clear_0 : decode cX8_clear 0 = .ok (.iload_n 1, 1) := by decide +kernel
theorem dX8_clear_1 : decode cX8_clear 1 = .ok (.iconst 4, 1) := by decide +kernel
theorem dX8_clear_2 : decode cX8_clear 2 = .ok (.invokestatic 68, 3) := by decide +kernel
theorem dX8_clear_5 : decode cX8_clear 5 = .ok (.ifCond .eq 15, 3) := by decide +kernel
theorem dX8_clear_8 : decode cX8_clear 8 = .ok (.aload_n 0, 1) := by decide +kernel
theorem dX8_clear_9 : decode cX8_clear 9 = .ok (.getfield 35, 3) := by decide +kernel
theorem dX8_clear_12 : decode cX8_clear 12 = .ok (.iload_n 1, 1) := by decide +kernel
theorem dX8_clear_13 : decode cX8_clear 13 = .ok (.aaload, 1) := by decide +kernel
theorem dX8_clear_14 : decode cX8_clear 14 = .ok (.invokevirtual 81, 3) := by decide +kernel
theorem dX8_clear_17 : decode cX8_clear 17 = .ok (.goto 5, 3) := by decide +kernel
theorem dX8_clear_20 : decode cX8_clear 20 = .ok (.bipush (-2), 2) := by decide +kernel
theorem dX8_clear_22 : decode cX8_clear 22 = .ok (.ireturn, 1) := by decide +kernel
theorem dX8_run_0 : decode cX8_run 0 = .ok (.iload_n 1, 1) := by decide +kernel
theorem dX8_run_1 : decode cX8_run 1 = .ok (.iconst 4, 1) := by decide +kernel
theorem dX8_run_2 : decode cX8_run 2 = .ok (.invokestatic 68, 3) := by decide +kernel
theorem dX8_run_5 : decode cX8_run 5 = .ok (.ifCond .eq 11, 3) := by decide +kernel
theorem dX8_run_8 : decode cX8_run 8 = .ok (.iload_n 2, 1) := by decide +kernel
theorem dX8_run_9 : decode cX8_run 9 = .ok (.iconst 2, 1) := by decide +kernel
theorem dX8_run_10 : decode cX8_run 10 = .ok (.invokestatic 68, 3) := by decide +kernel
theorem dX8_run_13 : decode cX8_run 13 = .ok (.ifCond .ne 6, 3) := by decide +kernel
theorem dX8_run_16 : decode cX8_run 16 = .ok (.bipush (-2), 2) := by decide +kernel
theorem dX8_run_18 : decode cX8_run 18 = .ok (.ireturn, 1) := by decide +kernel
theorem dX8_run_19 : decode cX8_run 19 = .ok (.aload_n 0, 1) := by decide +kernel
theorem dX8_run_20 : decode cX8_run 20 = .ok (.getfield 49, 3) := by decide +kernel
theorem dX8_run_23 : decode cX8_run 23 = .ok (.invokevirtual 85, 3) := by decide +kernel
theorem dX8_run_26 : decode cX8_run 26 = .ok (.aload_n 0, 1) := by decide +kernel
theorem dX8_run_27 : decode cX8_run 27 = .ok (.getfield 35, 3) := by decide +kernel
theorem dX8_run_30 : decode cX8_run 30 = .ok (.iload_n 1, 1) := by decide +kernel
theorem dX8_run_31 : decode cX8_run 31 = .ok (.aaload, 1) := by decide +kernel
theorem dX8_run_32 : decode cX8_run 32 = .ok (.astore_n 3, 1) := by decide +kernel
theorem dX8_run_33 : decode cX8_run 33 = .ok (.iconst 1, 1) := by decide +kernel
theorem dX8_run_34 : decode cX8_run 34 = .ok (.istore 4, 2) := by decide +kernel
theorem dX8_run_36 : decode cX8_run 36 = .ok (.iconst 0, 1) := by decide +kernel
theorem dX8_run_37 : decode cX8_run 37 = .ok (.istore 5, 2) := by decide +kernel
theorem dX8_run_39 : decode cX8_run 39 = .ok (.iload 5, 2) := by decide +kernel
theorem dX8_run_41 : decode cX8_run 41 = .ok (.aload_n 3, 1) := by decide +kernel
theorem dX8_run_42 : decode cX8_run 42 = .ok (.getfield 88, 3) := by decide +kernel
theorem dX8_run_45 : decode cX8_run 45 = .ok (.if_icmp .ge 46, 3) := by decide +kernel
theorem dX8_run_48 : decode cX8_run 48 = .ok (.iload 4, 2) := by decide +kernel
theorem dX8_run_50 : decode cX8_run 50 = .ok (.ifCond .eq 41, 3) := by decide +kernel
theorem dX8_run_53 : decode cX8_run 53 = .ok (.aload_n 0, 1) := by decide +kernel
theorem dX8_run_54 : decode cX8_run 54 = .ok (.aload_n 3, 1) := by decide +kernel
theorem dX8_run_55 : decode cX8_run 55 = .ok (.iload 5, 2) := by decide +kernel
theorem dX8_run_57 : decode cX8_run 57 = .ok (.invokevirtual 92, 3) := by decide +kernel
theorem dX8_run_60 : decode cX8_run 60 = .ok (.ifCond .ne 18, 3) := by decide +kernel
theorem dX8_run_63 : decode cX8_run 63 = .ok (.aload_n 0, 1) := by decide +kernel
theorem dX8_run_64 : decode cX8_run 64 = .ok (.aload_n 3, 1) := by decide +kernel
theorem dX8_run_65 : decode cX8_run 65 = .ok (.iload 5, 2) := by decide +kernel
theorem dX8_run_67 : decode cX8_run 67 = .ok (.invokevirtual 96, 3) := by decide +kernel
theorem dX8_run_70 : decode cX8_run 70 = .ok (.ifCond .ne 8, 3) := by decide +kernel
theorem dX8_run_73 : decode cX8_run 73 = .ok (.iload_n 2, 1) := by decide +kernel
theorem dX8_run_74 : decode cX8_run 74 = .ok (.iconst 1, 1) := by decide +kernel
theorem dX8_run_75 : decode cX8_run 75 = .ok (.if_icmp .ne 7, 3) := by decide +kernel
theorem dX8_run_78 : decode cX8_run 78 = .ok (.iconst 1, 1) := by decide +kernel
theorem dX8_run_79 : decode cX8_run 79 = .ok (.goto 4, 3) := by decide +kernel
theorem dX8_run_82 : decode cX8_run 82 = .ok (.iconst 0, 1) := by decide +kernel
theorem dX8_run_83 : decode cX8_run 83 = .ok (.istore 4, 2) := by decide +kernel
theorem dX8_run_85 : decode cX8_run 85 = .ok (.iinc 5 1, 3) := by decide +kernel
theorem dX8_run_88 : decode cX8_run 88 = .ok (.goto (-49), 3) := by decide +kernel
theorem dX8_run_91 : decode cX8_run 91 = .ok (.aload_n 0, 1) := by decide +kernel
theorem dX8_run_92 : decode cX8_run 92 = .ok (.getfield 49, 3) := by decide +kernel
theorem dX8_run_95 : decode cX8_run 95 = .ok (.getfield 99, 3) := by decide +kernel
theorem dX8_run_98 : decode cX8_run 98 = .ok (.ireturn, 1) := by decide +kernel
theorem dX8_told_0 : decode cX8_told 0 = .ok (.iload_n 1, 1) := by decide +kernel
theorem dX8_told_1 : decode cX8_told 1 = .ok (.tableswitch 75 0 4 #[35, 43, 51, 59, 67], 35) := by decide +kernel
theorem dX8_told_36 : decode cX8_told 36 = .ok (.aload_n 0, 1) := by decide +kernel
theorem dX8_told_37 : decode cX8_told 37 = .ok (.getfield 49, 3) := by decide +kernel
theorem dX8_told_40 : decode cX8_told 40 = .ok (.getfield 99, 3) := by decide +kernel
theorem dX8_told_43 : decode cX8_told 43 = .ok (.ireturn, 1) := by decide +kernel
theorem dX8_told_44 : decode cX8_told 44 = .ok (.aload_n 0, 1) := by decide +kernel
theorem dX8_told_45 : decode cX8_told 45 = .ok (.getfield 49, 3) := by decide +kernel
theorem dX8_told_48 : decode cX8_told 48 = .ok (.getfield 102, 3) := by decide +kernel
theorem dX8_told_51 : decode cX8_told 51 = .ok (.ireturn, 1) := by decide +kernel
theorem dX8_told_52 : decode cX8_told 52 = .ok (.aload_n 0, 1) := by decide +kernel
theorem dX8_told_53 : decode cX8_told 53 = .ok (.getfield 49, 3) := by decide +kernel
theorem dX8_told_56 : decode cX8_told 56 = .ok (.getfield 105, 3) := by decide +kernel
theorem dX8_told_59 : decode cX8_told 59 = .ok (.ireturn, 1) := by decide +kernel
theorem dX8_told_60 : decode cX8_told 60 = .ok (.aload_n 0, 1) := by decide +kernel
theorem dX8_told_61 : decode cX8_told 61 = .ok (.getfield 49, 3) := by decide +kernel
theorem dX8_told_64 : decode cX8_told 64 = .ok (.getfield 108, 3) := by decide +kernel
theorem dX8_told_67 : decode cX8_told 67 = .ok (.ireturn, 1) := by decide +kernel
theorem dX8_told_68 : decode cX8_told 68 = .ok (.aload_n 0, 1) := by decide +kernel
theorem dX8_told_69 : decode cX8_told 69 = .ok (.getfield 49, 3) := by decide +kernel
theorem dX8_told_72 : decode cX8_told 72 = .ok (.getfield 111, 3) := by decide +kernel
theorem dX8_told_75 : decode cX8_told 75 = .ok (.ireturn, 1) := by decide +kernel
theorem dX8_told_76 : decode cX8_told 76 = .ok (.bipush (-2), 2) := by decide +kernel
theorem dX8_told_78 : decode cX8_told 78 = .ok (.ireturn, 1) := by decide +kernel
theorem dX8_sum_0 : decode cX8_sum 0 = .ok (.aload_n 0, 1) := by decide +kernel
theorem dX8_sum_1 : decode cX8_sum 1 = .ok (.getfield 49, 3) := by decide +kernel
theorem dX8_sum_4 : decode cX8_sum 4 = .ok (.getfield 114, 3) := by decide +kernel
theorem dX8_sum_7 : decode cX8_sum 7 = .ok (.lreturn, 1) := by decide +kernel
theorem dX8_tally_0 : decode cX8_tally 0 = .ok (.iload_n 1, 1) := by decide +kernel
theorem dX8_tally_1 : decode cX8_tally 1 = .ok (.iconst 1, 1) := by decide +kernel
theorem dX8_tally_2 : decode cX8_tally 2 = .ok (.if_icmp .lt 18, 3) := by decide +kernel
theorem dX8_tally_5 : decode cX8_tally 5 = .ok (.iload_n 1, 1) := by decide +kernel
theorem dX8_tally_6 : decode cX8_tally 6 = .ok (.bipush 7, 2) := by decide +kernel
theorem dX8_tally_8 : decode cX8_tally 8 = .ok (.if_icmp .gt 12, 3) := by decide +kernel
theorem dX8_tally_11 : decode cX8_tally 11 = .ok (.aload_n 0, 1) := by decide +kernel
theorem dX8_tally_12 : decode cX8_tally 12 = .ok (.getfield 43, 3) := by decide +kernel
theorem dX8_tally_15 : decode cX8_tally 15 = .ok (.iload_n 1, 1) := by decide +kernel
theorem dX8_tally_16 : decode cX8_tally 16 = .ok (.iaload, 1) := by decide +kernel
theorem dX8_tally_17 : decode cX8_tally 17 = .ok (.goto 5, 3) := by decide +kernel
theorem dX8_tally_20 : decode cX8_tally 20 = .ok (.bipush (-2), 2) := by decide +kernel
theorem dX8_tally_22 : decode cX8_tally 22 = .ok (.ireturn, 1) := by decide +kernel
theorem dX8_stand_0 : decode cX8_stand 0 = .ok (.iload_n 1, 1) := by decide +kernel
theorem dX8_stand_1 : decode cX8_stand 1 = .ok (.iconst 4, 1) := by decide +kernel
theorem dX8_stand_2 : decode cX8_stand 2 = .ok (.invokestatic 68, 3) := by decide +kernel
theorem dX8_stand_5 : decode cX8_stand 5 = .ok (.ifCond .eq 12, 3) := by decide +kernel
theorem dX8_stand_8 : decode cX8_stand 8 = .ok (.iload_n 2, 1) := by decide +kernel
theorem dX8_stand_9 : decode cX8_stand 9 = .ok (.bipush 8, 2) := by decide +kernel
theorem dX8_stand_11 : decode cX8_stand 11 = .ok (.invokestatic 68, 3) := by decide +kernel
theorem dX8_stand_14 : decode cX8_stand 14 = .ok (.ifCond .ne 6, 3) := by decide +kernel
theorem dX8_stand_17 : decode cX8_stand 17 = .ok (.ldc 118, 2) := by decide +kernel
theorem dX8_stand_19 : decode cX8_stand 19 = .ok (.ireturn, 1) := by decide +kernel
theorem dX8_stand_20 : decode cX8_stand 20 = .ok (.iload_n 2, 1) := by decide +kernel
theorem dX8_stand_21 : decode cX8_stand 21 = .ok (.bipush 6, 2) := by decide +kernel
theorem dX8_stand_23 : decode cX8_stand 23 = .ok (.if_icmp .ne 16, 3) := by decide +kernel
theorem dX8_stand_26 : decode cX8_stand 26 = .ok (.aload_n 0, 1) := by decide +kernel
theorem dX8_stand_27 : decode cX8_stand 27 = .ok (.aload_n 0, 1) := by decide +kernel
theorem dX8_stand_28 : decode cX8_stand 28 = .ok (.getfield 11, 3) := by decide +kernel
theorem dX8_stand_31 : decode cX8_stand 31 = .ok (.iload_n 1, 1) := by decide +kernel
theorem dX8_stand_32 : decode cX8_stand 32 = .ok (.aaload, 1) := by decide +kernel
theorem dX8_stand_33 : decode cX8_stand 33 = .ok (.invokevirtual 119, 3) := by decide +kernel
theorem dX8_stand_36 : decode cX8_stand 36 = .ok (.goto 13, 3) := by decide +kernel
theorem dX8_stand_39 : decode cX8_stand 39 = .ok (.aload_n 0, 1) := by decide +kernel
theorem dX8_stand_40 : decode cX8_stand 40 = .ok (.getfield 11, 3) := by decide +kernel
theorem dX8_stand_43 : decode cX8_stand 43 = .ok (.iload_n 1, 1) := by decide +kernel
theorem dX8_stand_44 : decode cX8_stand 44 = .ok (.aaload, 1) := by decide +kernel
theorem dX8_stand_45 : decode cX8_stand 45 = .ok (.iload_n 2, 1) := by decide +kernel
theorem dX8_stand_46 : decode cX8_stand 46 = .ok (.invokevirtual 123, 3) := by decide +kernel
theorem dX8_stand_49 : decode cX8_stand 49 = .ok (.ireturn, 1) := by decide +kernel
theorem dX8_basket_0 : decode cX8_basket 0 = .ok (.iload_n 1, 1) := by decide +kernel
theorem dX8_basket_1 : decode cX8_basket 1 = .ok (.iconst 4, 1) := by decide +kernel
theorem dX8_basket_2 : decode cX8_basket 2 = .ok (.invokestatic 68, 3) := by decide +kernel
theorem dX8_basket_5 : decode cX8_basket 5 = .ok (.ifCond .eq 16, 3) := by decide +kernel
theorem dX8_basket_8 : decode cX8_basket 8 = .ok (.aload_n 0, 1) := by decide +kernel
theorem dX8_basket_9 : decode cX8_basket 9 = .ok (.getfield 17, 3) := by decide +kernel
theorem dX8_basket_12 : decode cX8_basket 12 = .ok (.iload_n 1, 1) := by decide +kernel
theorem dX8_basket_13 : decode cX8_basket 13 = .ok (.aaload, 1) := by decide +kernel
theorem dX8_basket_14 : decode cX8_basket 14 = .ok (.iload_n 2, 1) := by decide +kernel
theorem dX8_basket_15 : decode cX8_basket 15 = .ok (.invokevirtual 127, 3) := by decide +kernel
theorem dX8_basket_18 : decode cX8_basket 18 = .ok (.goto 4, 3) := by decide +kernel
theorem dX8_basket_21 : decode cX8_basket 21 = .ok (.iconst 0, 1) := by decide +kernel
theorem dX8_basket_22 : decode cX8_basket 22 = .ok (.ireturn, 1) := by decide +kernel
theorem dX8_rack_0 : decode cX8_rack 0 = .ok (.iload_n 1, 1) := by decide +kernel
theorem dX8_rack_1 : decode cX8_rack 1 = .ok (.iconst 4, 1) := by decide +kernel
theorem dX8_rack_2 : decode cX8_rack 2 = .ok (.invokestatic 68, 3) := by decide +kernel
theorem dX8_rack_5 : decode cX8_rack 5 = .ok (.ifCond .eq 16, 3) := by decide +kernel
theorem dX8_rack_8 : decode cX8_rack 8 = .ok (.aload_n 0, 1) := by decide +kernel
theorem dX8_rack_9 : decode cX8_rack 9 = .ok (.getfield 23, 3) := by decide +kernel
theorem dX8_rack_12 : decode cX8_rack 12 = .ok (.iload_n 1, 1) := by decide +kernel
theorem dX8_rack_13 : decode cX8_rack 13 = .ok (.aaload, 1) := by decide +kernel
theorem dX8_rack_14 : decode cX8_rack 14 = .ok (.iload_n 2, 1) := by decide +kernel
theorem dX8_rack_15 : decode cX8_rack 15 = .ok (.invokevirtual 130, 3) := by decide +kernel
theorem dX8_rack_18 : decode cX8_rack 18 = .ok (.goto 4, 3) := by decide +kernel
theorem dX8_rack_21 : decode cX8_rack 21 = .ok (.aconst_null, 1) := by decide +kernel
theorem dX8_rack_22 : decode cX8_rack 22 = .ok (.astore_n 3, 1) := by decide +kernel
theorem dX8_rack_23 : decode cX8_rack 23 = .ok (.aload_n 3, 1) := by decide +kernel
theorem dX8_rack_24 : decode cX8_rack 24 = .ok (.ifnonnull 8, 3) := by decide +kernel
theorem dX8_rack_27 : decode cX8_rack 27 = .ok (.ldc 118, 2) := by decide +kernel
theorem dX8_rack_29 : decode cX8_rack 29 = .ok (.goto 7, 3) := by decide +kernel
theorem dX8_rack_32 : decode cX8_rack 32 = .ok (.aload_n 3, 1) := by decide +kernel
theorem dX8_rack_33 : decode cX8_rack 33 = .ok (.invokevirtual 134, 3) := by decide +kernel
theorem dX8_rack_36 : decode cX8_rack 36 = .ok (.ireturn, 1) := by decide +kernel
theorem dX8_grid_0 : decode cX8_grid 0 = .ok (.iload_n 1, 1) := by decide +kernel
theorem dX8_grid_1 : decode cX8_grid 1 = .ok (.iconst 4, 1) := by decide +kernel
theorem dX8_grid_2 : decode cX8_grid 2 = .ok (.invokestatic 68, 3) := by decide +kernel
theorem dX8_grid_5 : decode cX8_grid 5 = .ok (.ifCond .eq 17, 3) := by decide +kernel
theorem dX8_grid_8 : decode cX8_grid 8 = .ok (.aload_n 0, 1) := by decide +kernel
theorem dX8_grid_9 : decode cX8_grid 9 = .ok (.getfield 29, 3) := by decide +kernel
theorem dX8_grid_12 : decode cX8_grid 12 = .ok (.iload_n 1, 1) := by decide +kernel
theorem dX8_grid_13 : decode cX8_grid 13 = .ok (.aaload, 1) := by decide +kernel
theorem dX8_grid_14 : decode cX8_grid 14 = .ok (.iload_n 2, 1) := by decide +kernel
theorem dX8_grid_15 : decode cX8_grid 15 = .ok (.iload_n 3, 1) := by decide +kernel
theorem dX8_grid_16 : decode cX8_grid 16 = .ok (.invokevirtual 139, 3) := by decide +kernel
theorem dX8_grid_19 : decode cX8_grid 19 = .ok (.goto 4, 3) := by decide +kernel
theorem dX8_grid_22 : decode cX8_grid 22 = .ok (.iconst 0, 1) := by decide +kernel
theorem dX8_grid_23 : decode cX8_grid 23 = .ok (.ireturn, 1) := by decide +kernel
theorem dX8_isWithin_0 : decode cX8_isWithin 0 = .ok (.iload_n 0, 1) := by decide +kernel
theorem dX8_isWithin_1 : decode cX8_isWithin 1 = .ok (.ifCond .lt 12, 3) := by decide +kernel
theorem dX8_isWithin_4 : decode cX8_isWithin 4 = .ok (.iload_n 0, 1) := by decide +kernel
theorem dX8_isWithin_5 : decode cX8_isWithin 5 = .ok (.iload_n 1, 1) := by decide +kernel
theorem dX8_isWithin_6 : decode cX8_isWithin 6 = .ok (.if_icmp .ge 7, 3) := by decide +kernel
theorem dX8_isWithin_9 : decode cX8_isWithin 9 = .ok (.iconst 1, 1) := by decide +kernel
theorem dX8_isWithin_10 : decode cX8_isWithin 10 = .ok (.goto 4, 3) := by decide +kernel
theorem dX8_isWithin_13 : decode cX8_isWithin 13 = .ok (.iconst 0, 1) := by decide +kernel
theorem dX8_isWithin_14 : decode cX8_isWithin 14 = .ok (.ireturn, 1) := by decide +kernel
theorem dX8_failure_0 : decode cX8_failure 0 = .ok (.ldc2_w 66, 3) := by decide +kernel
theorem dX8_failure_3 : decode cX8_failure 3 = .ok (.iload_n 0, 1) := by decide +kernel
theorem dX8_failure_4 : decode cX8_failure 4 = .ok (.i2l, 1) := by decide +kernel
theorem dX8_failure_5 : decode cX8_failure 5 = .ok (.ladd, 1) := by decide +kernel
theorem dX8_failure_6 : decode cX8_failure 6 = .ok (.lreturn, 1) := by decide +kernel
theorem dX8_reasonOf_0 : decode cX8_reasonOf 0 = .ok (.lload_n 0, 1) := by decide +kernel
theorem dX8_reasonOf_1 : decode cX8_reasonOf 1 = .ok (.ldc2_w 142, 3) := by decide +kernel
theorem dX8_reasonOf_4 : decode cX8_reasonOf 4 = .ok (.lcmp, 1) := by decide +kernel
theorem dX8_reasonOf_5 : decode cX8_reasonOf 5 = .ok (.ifCond .ge 12, 3) := by decide +kernel
theorem dX8_reasonOf_8 : decode cX8_reasonOf 8 = .ok (.lload_n 0, 1) := by decide +kernel
theorem dX8_reasonOf_9 : decode cX8_reasonOf 9 = .ok (.ldc2_w 66, 3) := by decide +kernel
theorem dX8_reasonOf_12 : decode cX8_reasonOf 12 = .ok (.lsub, 1) := by decide +kernel
theorem dX8_reasonOf_13 : decode cX8_reasonOf 13 = .ok (.l2i, 1) := by decide +kernel
theorem dX8_reasonOf_14 : decode cX8_reasonOf 14 = .ok (.goto 4, 3) := by decide +kernel
theorem dX8_reasonOf_17 : decode cX8_reasonOf 17 = .ok (.iconst 0, 1) := by decide +kernel
theorem dX8_reasonOf_18 : decode cX8_reasonOf 18 = .ok (.ireturn, 1) := by decide +kernel
theorem dX8_isStep_0 : decode cX8_isStep 0 = .ok (.iload_n 1, 1) := by decide +kernel
theorem dX8_isStep_1 : decode cX8_isStep 1 = .ok (.iconst 4, 1) := by decide +kernel
theorem dX8_isStep_2 : decode cX8_isStep 2 = .ok (.invokestatic 68, 3) := by decide +kernel
theorem dX8_isStep_5 : decode cX8_isStep 5 = .ok (.ifCond .ne 5, 3) := by decide +kernel
theorem dX8_isStep_8 : decode cX8_isStep 8 = .ok (.iconst 0, 1) := by decide +kernel
theorem dX8_isStep_9 : decode cX8_isStep 9 = .ok (.ireturn, 1) := by decide +kernel
theorem dX8_isStep_10 : decode cX8_isStep 10 = .ok (.iload_n 0, 1) := by decide +kernel
theorem dX8_isStep_11 : decode cX8_isStep 11 = .ok (.tableswitch 77 7 13 #[41, 41, 53, 77, 77, 77, 71], 41) := by decide +kernel
theorem dX8_isStep_52 : decode cX8_isStep 52 = .ok (.iload_n 2, 1) := by decide +kernel
theorem dX8_isStep_53 : decode cX8_isStep 53 = .ok (.bipush 12, 2) := by decide +kernel
theorem dX8_isStep_55 : decode cX8_isStep 55 = .ok (.if_icmp .gt 7, 3) := by decide +kernel
theorem dX8_isStep_58 : decode cX8_isStep 58 = .ok (.iconst 1, 1) := by decide +kernel
theorem dX8_isStep_59 : decode cX8_isStep 59 = .ok (.goto 4, 3) := by decide +kernel
theorem dX8_isStep_62 : decode cX8_isStep 62 = .ok (.iconst 0, 1) := by decide +kernel
theorem dX8_isStep_63 : decode cX8_isStep 63 = .ok (.ireturn, 1) := by decide +kernel
theorem dX8_isStep_64 : decode cX8_isStep 64 = .ok (.iload_n 2, 1) := by decide +kernel
theorem dX8_isStep_65 : decode cX8_isStep 65 = .ok (.bipush 12, 2) := by decide +kernel
theorem dX8_isStep_67 : decode cX8_isStep 67 = .ok (.if_icmp .gt 13, 3) := by decide +kernel
theorem dX8_isStep_70 : decode cX8_isStep 70 = .ok (.iload_n 3, 1) := by decide +kernel
theorem dX8_isStep_71 : decode cX8_isStep 71 = .ok (.bipush 12, 2) := by decide +kernel
theorem dX8_isStep_73 : decode cX8_isStep 73 = .ok (.if_icmp .gt 7, 3) := by decide +kernel
theorem dX8_isStep_76 : decode cX8_isStep 76 = .ok (.iconst 1, 1) := by decide +kernel
theorem dX8_isStep_77 : decode cX8_isStep 77 = .ok (.goto 4, 3) := by decide +kernel
theorem dX8_isStep_80 : decode cX8_isStep 80 = .ok (.iconst 0, 1) := by decide +kernel
theorem dX8_isStep_81 : decode cX8_isStep 81 = .ok (.ireturn, 1) := by decide +kernel
theorem dX8_isStep_82 : decode cX8_isStep 82 = .ok (.iload_n 3, 1) := by decide +kernel
theorem dX8_isStep_83 : decode cX8_isStep 83 = .ok (.iconst 4, 1) := by decide +kernel
theorem dX8_isStep_84 : decode cX8_isStep 84 = .ok (.invokestatic 68, 3) := by decide +kernel
theorem dX8_isStep_87 : decode cX8_isStep 87 = .ok (.ireturn, 1) := by decide +kernel
theorem dX8_isStep_88 : decode cX8_isStep 88 = .ok (.iload_n 0, 1) := by decide +kernel
theorem dX8_isStep_89 : decode cX8_isStep 89 = .ok (.ifCond .lt 13, 3) := by decide +kernel
theorem dX8_isStep_92 : decode cX8_isStep 92 = .ok (.iload_n 0, 1) := by decide +kernel
theorem dX8_isStep_93 : decode cX8_isStep 93 = .ok (.bipush 16, 2) := by decide +kernel
theorem dX8_isStep_95 : decode cX8_isStep 95 = .ok (.if_icmp .gt 7, 3) := by decide +kernel
theorem dX8_isStep_98 : decode cX8_isStep 98 = .ok (.iconst 1, 1) := by decide +kernel
theorem dX8_isStep_99 : decode cX8_isStep 99 = .ok (.goto 4, 3) := by decide +kernel
theorem dX8_isStep_102 : decode cX8_isStep 102 = .ok (.iconst 0, 1) := by decide +kernel
theorem dX8_isStep_103 : decode cX8_isStep 103 = .ok (.ireturn, 1) := by decide +kernel
theorem dX8_attempt_0 : decode cX8_attempt 0 = .ok (.aload_n 0, 1) := by decide +kernel
theorem dX8_attempt_1 : decode cX8_attempt 1 = .ok (.iload_n 1, 1) := by decide +kernel
theorem dX8_attempt_2 : decode cX8_attempt 2 = .ok (.iload_n 2, 1) := by decide +kernel
theorem dX8_attempt_3 : decode cX8_attempt 3 = .ok (.iload_n 3, 1) := by decide +kernel
theorem dX8_attempt_4 : decode cX8_attempt 4 = .ok (.iload 4, 2) := by decide +kernel
theorem dX8_attempt_6 : decode cX8_attempt 6 = .ok (.invokevirtual 144, 3) := by decide +kernel
theorem dX8_attempt_9 : decode cX8_attempt 9 = .ok (.lstore 5, 2) := by decide +kernel
theorem dX8_attempt_11 : decode cX8_attempt 11 = .ok (.lload 5, 2) := by decide +kernel
theorem dX8_attempt_13 : decode cX8_attempt 13 = .ok (.invokestatic 147, 3) := by decide +kernel
theorem dX8_attempt_16 : decode cX8_attempt 16 = .ok (.istore 7, 2) := by decide +kernel
theorem dX8_attempt_18 : decode cX8_attempt 18 = .ok (.iload 7, 2) := by decide +kernel
theorem dX8_attempt_20 : decode cX8_attempt 20 = .ok (.iconst 1, 1) := by decide +kernel
theorem dX8_attempt_21 : decode cX8_attempt 21 = .ok (.if_icmp .lt 21, 3) := by decide +kernel
theorem dX8_attempt_24 : decode cX8_attempt 24 = .ok (.iload 7, 2) := by decide +kernel
theorem dX8_attempt_26 : decode cX8_attempt 26 = .ok (.bipush 7, 2) := by decide +kernel
theorem dX8_attempt_28 : decode cX8_attempt 28 = .ok (.if_icmp .gt 14, 3) := by decide +kernel
theorem dX8_attempt_31 : decode cX8_attempt 31 = .ok (.aload_n 0, 1) := by decide +kernel
theorem dX8_attempt_32 : decode cX8_attempt 32 = .ok (.getfield 43, 3) := by decide +kernel
theorem dX8_attempt_35 : decode cX8_attempt 35 = .ok (.iload 7, 2) := by decide +kernel
theorem dX8_attempt_37 : decode cX8_attempt 37 = .ok (.dup2, 1) := by decide +kernel
theorem dX8_attempt_38 : decode cX8_attempt 38 = .ok (.iaload, 1) := by decide +kernel
theorem dX8_attempt_39 : decode cX8_attempt 39 = .ok (.iconst 1, 1) := by decide +kernel
theorem dX8_attempt_40 : decode cX8_attempt 40 = .ok (.iadd, 1) := by decide +kernel
theorem dX8_attempt_41 : decode cX8_attempt 41 = .ok (.iastore, 1) := by decide +kernel
theorem dX8_attempt_42 : decode cX8_attempt 42 = .ok (.lload 5, 2) := by decide +kernel
theorem dX8_attempt_44 : decode cX8_attempt 44 = .ok (.lreturn, 1) := by decide +kernel
theorem dX8_perform_0 : decode cX8_perform 0 = .ok (.iload_n 1, 1) := by decide +kernel
theorem dX8_perform_1 : decode cX8_perform 1 = .ok (.tableswitch 299 0 16 #[83, 94, 104, 117, 128, 139, 152, 163, 174, 197, 210, 219, 232, 245, 263, 274, 281], 83) := by decide +kernel
theorem dX8_perform_84 : decode cX8_perform 84 = .ok (.aload_n 0, 1) := by decide +kernel
theorem dX8_perform_85 : decode cX8_perform 85 = .ok (.getfield 11, 3) := by decide +kernel
theorem dX8_perform_88 : decode cX8_perform 88 = .ok (.iload_n 2, 1) := by decide +kernel
theorem dX8_perform_89 : decode cX8_perform 89 = .ok (.aaload, 1) := by decide +kernel
theorem dX8_perform_90 : decode cX8_perform 90 = .ok (.iload_n 3, 1) := by decide +kernel
theorem dX8_perform_91 : decode cX8_perform 91 = .ok (.invokevirtual 151, 3) := by decide +kernel
theorem dX8_perform_94 : decode cX8_perform 94 = .ok (.lreturn, 1) := by decide +kernel
theorem dX8_perform_95 : decode cX8_perform 95 = .ok (.aload_n 0, 1) := by decide +kernel
theorem dX8_perform_96 : decode cX8_perform 96 = .ok (.getfield 11, 3) := by decide +kernel
theorem dX8_perform_99 : decode cX8_perform 99 = .ok (.iload_n 2, 1) := by decide +kernel
theorem dX8_perform_100 : decode cX8_perform 100 = .ok (.aaload, 1) := by decide +kernel
theorem dX8_perform_101 : decode cX8_perform 101 = .ok (.invokevirtual 155, 3) := by decide +kernel
theorem dX8_perform_104 : decode cX8_perform 104 = .ok (.lreturn, 1) := by decide +kernel
theorem dX8_perform_105 : decode cX8_perform 105 = .ok (.aload_n 0, 1) := by decide +kernel
theorem dX8_perform_106 : decode cX8_perform 106 = .ok (.getfield 11, 3) := by decide +kernel
theorem dX8_perform_109 : decode cX8_perform 109 = .ok (.iload_n 2, 1) := by decide +kernel
theorem dX8_perform_110 : decode cX8_perform 110 = .ok (.aaload, 1) := by decide +kernel
theorem dX8_perform_111 : decode cX8_perform 111 = .ok (.iload_n 3, 1) := by decide +kernel
theorem dX8_perform_112 : decode cX8_perform 112 = .ok (.iload 4, 2) := by decide +kernel
theorem dX8_perform_114 : decode cX8_perform 114 = .ok (.invokevirtual 159, 3) := by decide +kernel
theorem dX8_perform_117 : decode cX8_perform 117 = .ok (.lreturn, 1) := by decide +kernel
theorem dX8_perform_118 : decode cX8_perform 118 = .ok (.aload_n 0, 1) := by decide +kernel
theorem dX8_perform_119 : decode cX8_perform 119 = .ok (.getfield 11, 3) := by decide +kernel
theorem dX8_perform_122 : decode cX8_perform 122 = .ok (.iload_n 2, 1) := by decide +kernel
theorem dX8_perform_123 : decode cX8_perform 123 = .ok (.aaload, 1) := by decide +kernel
theorem dX8_perform_124 : decode cX8_perform 124 = .ok (.iload_n 3, 1) := by decide +kernel
theorem dX8_perform_125 : decode cX8_perform 125 = .ok (.invokevirtual 163, 3) := by decide +kernel
theorem dX8_perform_128 : decode cX8_perform 128 = .ok (.lreturn, 1) := by decide +kernel
theorem dX8_perform_129 : decode cX8_perform 129 = .ok (.aload_n 0, 1) := by decide +kernel
theorem dX8_perform_130 : decode cX8_perform 130 = .ok (.getfield 11, 3) := by decide +kernel
theorem dX8_perform_133 : decode cX8_perform 133 = .ok (.iload_n 2, 1) := by decide +kernel
theorem dX8_perform_134 : decode cX8_perform 134 = .ok (.aaload, 1) := by decide +kernel
theorem dX8_perform_135 : decode cX8_perform 135 = .ok (.iload_n 3, 1) := by decide +kernel
theorem dX8_perform_136 : decode cX8_perform 136 = .ok (.invokevirtual 166, 3) := by decide +kernel
theorem dX8_perform_139 : decode cX8_perform 139 = .ok (.lreturn, 1) := by decide +kernel
theorem dX8_perform_140 : decode cX8_perform 140 = .ok (.aload_n 0, 1) := by decide +kernel
theorem dX8_perform_141 : decode cX8_perform 141 = .ok (.getfield 11, 3) := by decide +kernel
theorem dX8_perform_144 : decode cX8_perform 144 = .ok (.iload_n 2, 1) := by decide +kernel
theorem dX8_perform_145 : decode cX8_perform 145 = .ok (.aaload, 1) := by decide +kernel
theorem dX8_perform_146 : decode cX8_perform 146 = .ok (.iload_n 3, 1) := by decide +kernel
theorem dX8_perform_147 : decode cX8_perform 147 = .ok (.iload 4, 2) := by decide +kernel
theorem dX8_perform_149 : decode cX8_perform 149 = .ok (.invokevirtual 169, 3) := by decide +kernel
theorem dX8_perform_152 : decode cX8_perform 152 = .ok (.lreturn, 1) := by decide +kernel
theorem dX8_perform_153 : decode cX8_perform 153 = .ok (.aload_n 0, 1) := by decide +kernel
theorem dX8_perform_154 : decode cX8_perform 154 = .ok (.getfield 11, 3) := by decide +kernel
theorem dX8_perform_157 : decode cX8_perform 157 = .ok (.iload_n 2, 1) := by decide +kernel
theorem dX8_perform_158 : decode cX8_perform 158 = .ok (.aaload, 1) := by decide +kernel
theorem dX8_perform_159 : decode cX8_perform 159 = .ok (.iload_n 3, 1) := by decide +kernel
theorem dX8_perform_160 : decode cX8_perform 160 = .ok (.invokevirtual 172, 3) := by decide +kernel
theorem dX8_perform_163 : decode cX8_perform 163 = .ok (.lreturn, 1) := by decide +kernel
theorem dX8_perform_164 : decode cX8_perform 164 = .ok (.aload_n 0, 1) := by decide +kernel
theorem dX8_perform_165 : decode cX8_perform 165 = .ok (.getfield 17, 3) := by decide +kernel
theorem dX8_perform_168 : decode cX8_perform 168 = .ok (.iload_n 2, 1) := by decide +kernel
theorem dX8_perform_169 : decode cX8_perform 169 = .ok (.aaload, 1) := by decide +kernel
theorem dX8_perform_170 : decode cX8_perform 170 = .ok (.iload_n 3, 1) := by decide +kernel
theorem dX8_perform_171 : decode cX8_perform 171 = .ok (.invokevirtual 175, 3) := by decide +kernel
theorem dX8_perform_174 : decode cX8_perform 174 = .ok (.lreturn, 1) := by decide +kernel
theorem dX8_perform_175 : decode cX8_perform 175 = .ok (.aload_n 0, 1) := by decide +kernel
theorem dX8_perform_176 : decode cX8_perform 176 = .ok (.getfield 23, 3) := by decide +kernel
theorem dX8_perform_179 : decode cX8_perform 179 = .ok (.iload_n 2, 1) := by decide +kernel
theorem dX8_perform_180 : decode cX8_perform 180 = .ok (.aaload, 1) := by decide +kernel
theorem dX8_perform_181 : decode cX8_perform 181 = .ok (.iload_n 3, 1) := by decide +kernel
theorem dX8_perform_182 : decode cX8_perform 182 = .ok (.iload 4, 2) := by decide +kernel
theorem dX8_perform_184 : decode cX8_perform 184 = .ok (.iconst 1, 1) := by decide +kernel
theorem dX8_perform_185 : decode cX8_perform 185 = .ok (.iand, 1) := by decide +kernel
theorem dX8_perform_186 : decode cX8_perform 186 = .ok (.ifCond .eq 7, 3) := by decide +kernel
theorem dX8_perform_189 : decode cX8_perform 189 = .ok (.iconst 1, 1) := by decide +kernel
theorem dX8_perform_190 : decode cX8_perform 190 = .ok (.goto 4, 3) := by decide +kernel
theorem dX8_perform_193 : decode cX8_perform 193 = .ok (.iconst 0, 1) := by decide +kernel
theorem dX8_perform_194 : decode cX8_perform 194 = .ok (.invokevirtual 178, 3) := by decide +kernel
theorem dX8_perform_197 : decode cX8_perform 197 = .ok (.lreturn, 1) := by decide +kernel
theorem dX8_perform_198 : decode cX8_perform 198 = .ok (.aload_n 0, 1) := by decide +kernel
theorem dX8_perform_199 : decode cX8_perform 199 = .ok (.getfield 29, 3) := by decide +kernel
theorem dX8_perform_202 : decode cX8_perform 202 = .ok (.iload_n 2, 1) := by decide +kernel
theorem dX8_perform_203 : decode cX8_perform 203 = .ok (.aaload, 1) := by decide +kernel
theorem dX8_perform_204 : decode cX8_perform 204 = .ok (.iload_n 3, 1) := by decide +kernel
theorem dX8_perform_205 : decode cX8_perform 205 = .ok (.iload 4, 2) := by decide +kernel
theorem dX8_perform_207 : decode cX8_perform 207 = .ok (.invokevirtual 181, 3) := by decide +kernel
theorem dX8_perform_210 : decode cX8_perform 210 = .ok (.lreturn, 1) := by decide +kernel
theorem dX8_perform_211 : decode cX8_perform 211 = .ok (.aload_n 0, 1) := by decide +kernel
theorem dX8_perform_212 : decode cX8_perform 212 = .ok (.iload_n 2, 1) := by decide +kernel
theorem dX8_perform_213 : decode cX8_perform 213 = .ok (.iload_n 3, 1) := by decide +kernel
theorem dX8_perform_214 : decode cX8_perform 214 = .ok (.iload 4, 2) := by decide +kernel
theorem dX8_perform_216 : decode cX8_perform 216 = .ok (.invokevirtual 183, 3) := by decide +kernel
theorem dX8_perform_219 : decode cX8_perform 219 = .ok (.lreturn, 1) := by decide +kernel
theorem dX8_perform_220 : decode cX8_perform 220 = .ok (.aload_n 0, 1) := by decide +kernel
theorem dX8_perform_221 : decode cX8_perform 221 = .ok (.getfield 17, 3) := by decide +kernel
theorem dX8_perform_224 : decode cX8_perform 224 = .ok (.iload_n 2, 1) := by decide +kernel
theorem dX8_perform_225 : decode cX8_perform 225 = .ok (.aaload, 1) := by decide +kernel
theorem dX8_perform_226 : decode cX8_perform 226 = .ok (.iload_n 3, 1) := by decide +kernel
theorem dX8_perform_227 : decode cX8_perform 227 = .ok (.iload 4, 2) := by decide +kernel
theorem dX8_perform_229 : decode cX8_perform 229 = .ok (.invokevirtual 187, 3) := by decide +kernel
theorem dX8_perform_232 : decode cX8_perform 232 = .ok (.lreturn, 1) := by decide +kernel
theorem dX8_perform_233 : decode cX8_perform 233 = .ok (.aload_n 0, 1) := by decide +kernel
theorem dX8_perform_234 : decode cX8_perform 234 = .ok (.getfield 29, 3) := by decide +kernel
theorem dX8_perform_237 : decode cX8_perform 237 = .ok (.iload_n 2, 1) := by decide +kernel
theorem dX8_perform_238 : decode cX8_perform 238 = .ok (.aaload, 1) := by decide +kernel
theorem dX8_perform_239 : decode cX8_perform 239 = .ok (.iload_n 3, 1) := by decide +kernel
theorem dX8_perform_240 : decode cX8_perform 240 = .ok (.iload 4, 2) := by decide +kernel
theorem dX8_perform_242 : decode cX8_perform 242 = .ok (.invokevirtual 190, 3) := by decide +kernel
theorem dX8_perform_245 : decode cX8_perform 245 = .ok (.lreturn, 1) := by decide +kernel
theorem dX8_perform_246 : decode cX8_perform 246 = .ok (.aload_n 0, 1) := by decide +kernel
theorem dX8_perform_247 : decode cX8_perform 247 = .ok (.getfield 23, 3) := by decide +kernel
theorem dX8_perform_250 : decode cX8_perform 250 = .ok (.iload_n 2, 1) := by decide +kernel
theorem dX8_perform_251 : decode cX8_perform 251 = .ok (.aaload, 1) := by decide +kernel
theorem dX8_perform_252 : decode cX8_perform 252 = .ok (.iload_n 3, 1) := by decide +kernel
theorem dX8_perform_253 : decode cX8_perform 253 = .ok (.aload_n 0, 1) := by decide +kernel
theorem dX8_perform_254 : decode cX8_perform 254 = .ok (.getfield 11, 3) := by decide +kernel
theorem dX8_perform_257 : decode cX8_perform 257 = .ok (.iload 4, 2) := by decide +kernel
theorem dX8_perform_259 : decode cX8_perform 259 = .ok (.aaload, 1) := by decide +kernel
theorem dX8_perform_260 : decode cX8_perform 260 = .ok (.invokevirtual 193, 3) := by decide +kernel
theorem dX8_perform_263 : decode cX8_perform 263 = .ok (.lreturn, 1) := by decide +kernel
theorem dX8_perform_264 : decode cX8_perform 264 = .ok (.aload_n 0, 1) := by decide +kernel
theorem dX8_perform_265 : decode cX8_perform 265 = .ok (.getfield 23, 3) := by decide +kernel
theorem dX8_perform_268 : decode cX8_perform 268 = .ok (.iload_n 2, 1) := by decide +kernel
theorem dX8_perform_269 : decode cX8_perform 269 = .ok (.aaload, 1) := by decide +kernel
theorem dX8_perform_270 : decode cX8_perform 270 = .ok (.iload_n 3, 1) := by decide +kernel
theorem dX8_perform_271 : decode cX8_perform 271 = .ok (.invokevirtual 197, 3) := by decide +kernel
theorem dX8_perform_274 : decode cX8_perform 274 = .ok (.lreturn, 1) := by decide +kernel
theorem dX8_perform_275 : decode cX8_perform 275 = .ok (.aload_n 0, 1) := by decide +kernel
theorem dX8_perform_276 : decode cX8_perform 276 = .ok (.iload_n 2, 1) := by decide +kernel
theorem dX8_perform_277 : decode cX8_perform 277 = .ok (.iload_n 3, 1) := by decide +kernel
theorem dX8_perform_278 : decode cX8_perform 278 = .ok (.invokevirtual 200, 3) := by decide +kernel
theorem dX8_perform_281 : decode cX8_perform 281 = .ok (.lreturn, 1) := by decide +kernel
theorem dX8_perform_282 : decode cX8_perform 282 = .ok (.iload_n 3, 1) := by decide +kernel
theorem dX8_perform_283 : decode cX8_perform 283 = .ok (.ifCond .ne 7, 3) := by decide +kernel
theorem dX8_perform_286 : decode cX8_perform 286 = .ok (.lconst 0, 1) := by decide +kernel
theorem dX8_perform_287 : decode cX8_perform 287 = .ok (.goto 12, 3) := by decide +kernel
theorem dX8_perform_290 : decode cX8_perform 290 = .ok (.aload_n 0, 1) := by decide +kernel
theorem dX8_perform_291 : decode cX8_perform 291 = .ok (.getfield 39, 3) := by decide +kernel
theorem dX8_perform_294 : decode cX8_perform 294 = .ok (.iload_n 2, 1) := by decide +kernel
theorem dX8_perform_295 : decode cX8_perform 295 = .ok (.iaload, 1) := by decide +kernel
theorem dX8_perform_296 : decode cX8_perform 296 = .ok (.invokestatic 203, 3) := by decide +kernel
theorem dX8_perform_299 : decode cX8_perform 299 = .ok (.lreturn, 1) := by decide +kernel
theorem dX8_perform_300 : decode cX8_perform 300 = .ok (.ldc2_w 66, 3) := by decide +kernel
theorem dX8_perform_303 : decode cX8_perform 303 = .ok (.lreturn, 1) := by decide +kernel
theorem dX8_measure_0 : decode cX8_measure 0 = .ok (.iload_n 2, 1) := by decide +kernel
theorem dX8_measure_1 : decode cX8_measure 1 = .ok (.tableswitch 66 0 2 #[27, 40, 53], 27) := by decide +kernel
theorem dX8_measure_28 : decode cX8_measure 28 = .ok (.aload_n 0, 1) := by decide +kernel
theorem dX8_measure_29 : decode cX8_measure 29 = .ok (.getfield 17, 3) := by decide +kernel
theorem dX8_measure_32 : decode cX8_measure 32 = .ok (.iload_n 1, 1) := by decide +kernel
theorem dX8_measure_33 : decode cX8_measure 33 = .ok (.aaload, 1) := by decide +kernel
theorem dX8_measure_34 : decode cX8_measure 34 = .ok (.getfield 206, 3) := by decide +kernel
theorem dX8_measure_37 : decode cX8_measure 37 = .ok (.invokestatic 209, 3) := by decide +kernel
theorem dX8_measure_40 : decode cX8_measure 40 = .ok (.lreturn, 1) := by decide +kernel
theorem dX8_measure_41 : decode cX8_measure 41 = .ok (.aload_n 0, 1) := by decide +kernel
theorem dX8_measure_42 : decode cX8_measure 42 = .ok (.getfield 23, 3) := by decide +kernel
theorem dX8_measure_45 : decode cX8_measure 45 = .ok (.iload_n 1, 1) := by decide +kernel
theorem dX8_measure_46 : decode cX8_measure 46 = .ok (.aaload, 1) := by decide +kernel
theorem dX8_measure_47 : decode cX8_measure 47 = .ok (.getfield 212, 3) := by decide +kernel
theorem dX8_measure_50 : decode cX8_measure 50 = .ok (.invokestatic 209, 3) := by decide +kernel
theorem dX8_measure_53 : decode cX8_measure 53 = .ok (.lreturn, 1) := by decide +kernel
theorem dX8_measure_54 : decode cX8_measure 54 = .ok (.aload_n 0, 1) := by decide +kernel
theorem dX8_measure_55 : decode cX8_measure 55 = .ok (.getfield 29, 3) := by decide +kernel
theorem dX8_measure_58 : decode cX8_measure 58 = .ok (.iload_n 1, 1) := by decide +kernel
theorem dX8_measure_59 : decode cX8_measure 59 = .ok (.aaload, 1) := by decide +kernel
theorem dX8_measure_60 : decode cX8_measure 60 = .ok (.getfield 213, 3) := by decide +kernel
theorem dX8_measure_63 : decode cX8_measure 63 = .ok (.invokestatic 209, 3) := by decide +kernel
theorem dX8_measure_66 : decode cX8_measure 66 = .ok (.lreturn, 1) := by decide +kernel
theorem dX8_measure_67 : decode cX8_measure 67 = .ok (.aload_n 0, 1) := by decide +kernel
theorem dX8_measure_68 : decode cX8_measure 68 = .ok (.getfield 29, 3) := by decide +kernel
theorem dX8_measure_71 : decode cX8_measure 71 = .ok (.iload_n 1, 1) := by decide +kernel
theorem dX8_measure_72 : decode cX8_measure 72 = .ok (.aaload, 1) := by decide +kernel
theorem dX8_measure_73 : decode cX8_measure 73 = .ok (.iload_n 3, 1) := by decide +kernel
theorem dX8_measure_74 : decode cX8_measure 74 = .ok (.invokevirtual 216, 3) := by decide +kernel
theorem dX8_measure_77 : decode cX8_measure 77 = .ok (.lreturn, 1) := by decide +kernel
theorem dX8_lengthOrFailure_0 : decode cX8_lengthOrFailure 0 = .ok (.iload_n 0, 1) := by decide +kernel
theorem dX8_lengthOrFailure_1 : decode cX8_lengthOrFailure 1 = .ok (.iconst (-1), 1) := by decide +kernel
theorem dX8_lengthOrFailure_2 : decode cX8_lengthOrFailure 2 = .ok (.if_icmp .ne 10, 3) := by decide +kernel
theorem dX8_lengthOrFailure_5 : decode cX8_lengthOrFailure 5 = .ok (.iconst 1, 1) := by decide +kernel
theorem dX8_lengthOrFailure_6 : decode cX8_lengthOrFailure 6 = .ok (.invokestatic 203, 3) := by decide +kernel
theorem dX8_lengthOrFailure_9 : decode cX8_lengthOrFailure 9 = .ok (.goto 5, 3) := by decide +kernel
theorem dX8_lengthOrFailure_12 : decode cX8_lengthOrFailure 12 = .ok (.iload_n 0, 1) := by decide +kernel
theorem dX8_lengthOrFailure_13 : decode cX8_lengthOrFailure 13 = .ok (.i2l, 1) := by decide +kernel
theorem dX8_lengthOrFailure_14 : decode cX8_lengthOrFailure 14 = .ok (.lreturn, 1) := by decide +kernel
theorem dX8_excuse_0 : decode cX8_excuse 0 = .ok (.iload_n 2, 1) := by decide +kernel
theorem dX8_excuse_1 : decode cX8_excuse 1 = .ok (.lookupswitch 48 #[(0, 27), (1, 37)], 27) := by decide +kernel
theorem dX8_excuse_28 : decode cX8_excuse 28 = .ok (.aload_n 0, 1) := by decide +kernel
theorem dX8_excuse_29 : decode cX8_excuse 29 = .ok (.getfield 39, 3) := by decide +kernel
theorem dX8_excuse_32 : decode cX8_excuse 32 = .ok (.iload_n 1, 1) := by decide +kernel
theorem dX8_excuse_33 : decode cX8_excuse 33 = .ok (.iconst 1, 1) := by decide +kernel
theorem dX8_excuse_34 : decode cX8_excuse 34 = .ok (.iastore, 1) := by decide +kernel
theorem dX8_excuse_35 : decode cX8_excuse 35 = .ok (.goto 22, 3) := by decide +kernel
theorem dX8_excuse_38 : decode cX8_excuse 38 = .ok (.aload_n 0, 1) := by decide +kernel
theorem dX8_excuse_39 : decode cX8_excuse 39 = .ok (.getfield 39, 3) := by decide +kernel
theorem dX8_excuse_42 : decode cX8_excuse 42 = .ok (.iload_n 1, 1) := by decide +kernel
theorem dX8_excuse_43 : decode cX8_excuse 43 = .ok (.bipush 6, 2) := by decide +kernel
theorem dX8_excuse_45 : decode cX8_excuse 45 = .ok (.iastore, 1) := by decide +kernel
theorem dX8_excuse_46 : decode cX8_excuse 46 = .ok (.goto 11, 3) := by decide +kernel
theorem dX8_excuse_49 : decode cX8_excuse 49 = .ok (.aload_n 0, 1) := by decide +kernel
theorem dX8_excuse_50 : decode cX8_excuse 50 = .ok (.getfield 39, 3) := by decide +kernel
theorem dX8_excuse_53 : decode cX8_excuse 53 = .ok (.iload_n 1, 1) := by decide +kernel
theorem dX8_excuse_54 : decode cX8_excuse 54 = .ok (.bipush 7, 2) := by decide +kernel
theorem dX8_excuse_56 : decode cX8_excuse 56 = .ok (.iastore, 1) := by decide +kernel
theorem dX8_excuse_57 : decode cX8_excuse 57 = .ok (.iload_n 2, 1) := by decide +kernel
theorem dX8_excuse_58 : decode cX8_excuse 58 = .ok (.i2l, 1) := by decide +kernel
theorem dX8_excuse_59 : decode cX8_excuse 59 = .ok (.lreturn, 1) := by decide +kernel
theorem dX8_isDone_0 : decode cX8_isDone 0 = .ok (.aload_n 1, 1) := by decide +kernel
theorem dX8_isDone_1 : decode cX8_isDone 1 = .ok (.iload_n 2, 1) := by decide +kernel
theorem dX8_isDone_2 : decode cX8_isDone 2 = .ok (.invokevirtual 219, 3) := by decide +kernel
theorem dX8_isDone_5 : decode cX8_isDone 5 = .ok (.astore_n 3, 1) := by decide +kernel
theorem dX8_isDone_6 : decode cX8_isDone 6 = .ok (.aload_n 3, 1) := by decide +kernel
theorem dX8_isDone_7 : decode cX8_isDone 7 = .ok (.ifnonnull 5, 3) := by decide +kernel
theorem dX8_isDone_10 : decode cX8_isDone 10 = .ok (.iconst 0, 1) := by decide +kernel
theorem dX8_isDone_11 : decode cX8_isDone 11 = .ok (.ireturn, 1) := by decide +kernel
theorem dX8_isDone_12 : decode cX8_isDone 12 = .ok (.aload_n 0, 1) := by decide +kernel
theorem dX8_isDone_13 : decode cX8_isDone 13 = .ok (.aload_n 3, 1) := by decide +kernel
theorem dX8_isDone_14 : decode cX8_isDone 14 = .ok (.getfield 223, 3) := by decide +kernel
theorem dX8_isDone_17 : decode cX8_isDone 17 = .ok (.aload_n 3, 1) := by decide +kernel
theorem dX8_isDone_18 : decode cX8_isDone 18 = .ok (.getfield 226, 3) := by decide +kernel
theorem dX8_isDone_21 : decode cX8_isDone 21 = .ok (.aload_n 3, 1) := by decide +kernel
theorem dX8_isDone_22 : decode cX8_isDone 22 = .ok (.getfield 229, 3) := by decide +kernel
theorem dX8_isDone_25 : decode cX8_isDone 25 = .ok (.aload_n 3, 1) := by decide +kernel
theorem dX8_isDone_26 : decode cX8_isDone 26 = .ok (.getfield 232, 3) := by decide +kernel
theorem dX8_isDone_29 : decode cX8_isDone 29 = .ok (.invokevirtual 62, 3) := by decide +kernel
theorem dX8_isDone_32 : decode cX8_isDone 32 = .ok (.lstore 4, 2) := by decide +kernel
theorem dX8_isDone_34 : decode cX8_isDone 34 = .ok (.lload 4, 2) := by decide +kernel
theorem dX8_isDone_36 : decode cX8_isDone 36 = .ok (.invokestatic 147, 3) := by decide +kernel
theorem dX8_isDone_39 : decode cX8_isDone 39 = .ok (.istore 6, 2) := by decide +kernel
theorem dX8_isDone_41 : decode cX8_isDone 41 = .ok (.iload 6, 2) := by decide +kernel
theorem dX8_isDone_43 : decode cX8_isDone 43 = .ok (.ifCond .eq 15, 3) := by decide +kernel
theorem dX8_isDone_46 : decode cX8_isDone 46 = .ok (.aload_n 0, 1) := by decide +kernel
theorem dX8_isDone_47 : decode cX8_isDone 47 = .ok (.getfield 49, 3) := by decide +kernel
theorem dX8_isDone_50 : decode cX8_isDone 50 = .ok (.iload 6, 2) := by decide +kernel
theorem dX8_isDone_52 : decode cX8_isDone 52 = .ok (.iload_n 2, 1) := by decide +kernel
theorem dX8_isDone_53 : decode cX8_isDone 53 = .ok (.invokevirtual 235, 3) := by decide +kernel
theorem dX8_isDone_56 : decode cX8_isDone 56 = .ok (.iconst 0, 1) := by decide +kernel
theorem dX8_isDone_57 : decode cX8_isDone 57 = .ok (.ireturn, 1) := by decide +kernel
theorem dX8_isDone_58 : decode cX8_isDone 58 = .ok (.aload_n 0, 1) := by decide +kernel
theorem dX8_isDone_59 : decode cX8_isDone 59 = .ok (.getfield 49, 3) := by decide +kernel
theorem dX8_isDone_62 : decode cX8_isDone 62 = .ok (.lload 4, 2) := by decide +kernel
theorem dX8_isDone_64 : decode cX8_isDone 64 = .ok (.invokevirtual 239, 3) := by decide +kernel
theorem dX8_isDone_67 : decode cX8_isDone 67 = .ok (.iconst 1, 1) := by decide +kernel
theorem dX8_isDone_68 : decode cX8_isDone 68 = .ok (.ireturn, 1) := by decide +kernel
theorem dX8_isDoneInStead_0 : decode cX8_isDoneInStead 0 = .ok (.aload_n 1, 1) := by decide +kernel
theorem dX8_isDoneInStead_1 : decode cX8_isDoneInStead 1 = .ok (.iload_n 2, 1) := by decide +kernel
theorem dX8_isDoneInStead_2 : decode cX8_isDoneInStead 2 = .ok (.invokevirtual 219, 3) := by decide +kernel
theorem dX8_isDoneInStead_5 : decode cX8_isDoneInStead 5 = .ok (.astore_n 3, 1) := by decide +kernel
theorem dX8_isDoneInStead_6 : decode cX8_isDoneInStead 6 = .ok (.aload_n 3, 1) := by decide +kernel
theorem dX8_isDoneInStead_7 : decode cX8_isDoneInStead 7 = .ok (.ifnull 14, 3) := by decide +kernel
theorem dX8_isDoneInStead_10 : decode cX8_isDoneInStead 10 = .ok (.aload_n 1, 1) := by decide +kernel
theorem dX8_isDoneInStead_11 : decode cX8_isDoneInStead 11 = .ok (.aload_n 3, 1) := by decide +kernel
theorem dX8_isDoneInStead_12 : decode cX8_isDoneInStead 12 = .ok (.getfield 243, 3) := by decide +kernel
theorem dX8_isDoneInStead_15 : decode cX8_isDoneInStead 15 = .ok (.invokevirtual 219, 3) := by decide +kernel
theorem dX8_isDoneInStead_18 : decode cX8_isDoneInStead 18 = .ok (.ifnonnull 5, 3) := by decide +kernel
theorem dX8_isDoneInStead_21 : decode cX8_isDoneInStead 21 = .ok (.iconst 0, 1) := by decide +kernel
theorem dX8_isDoneInStead_22 : decode cX8_isDoneInStead 22 = .ok (.ireturn, 1) := by decide +kernel
theorem dX8_isDoneInStead_23 : decode cX8_isDoneInStead 23 = .ok (.aload_n 0, 1) := by decide +kernel
theorem dX8_isDoneInStead_24 : decode cX8_isDoneInStead 24 = .ok (.getfield 49, 3) := by decide +kernel
theorem dX8_isDoneInStead_27 : decode cX8_isDoneInStead 27 = .ok (.dup, 1) := by decide +kernel
theorem dX8_isDoneInStead_28 : decode cX8_isDoneInStead 28 = .ok (.getfield 111, 3) := by decide +kernel
theorem dX8_isDoneInStead_31 : decode cX8_isDoneInStead 31 = .ok (.iconst 1, 1) := by decide +kernel
theorem dX8_isDoneInStead_32 : decode cX8_isDoneInStead 32 = .ok (.iadd, 1) := by decide +kernel
theorem dX8_isDoneInStead_33 : decode cX8_isDoneInStead 33 = .ok (.putfield 111, 3) := by decide +kernel
theorem dX8_isDoneInStead_36 : decode cX8_isDoneInStead 36 = .ok (.aload_n 0, 1) := by decide +kernel
theorem dX8_isDoneInStead_37 : decode cX8_isDoneInStead 37 = .ok (.aload_n 1, 1) := by decide +kernel
theorem dX8_isDoneInStead_38 : decode cX8_isDoneInStead 38 = .ok (.aload_n 3, 1) := by decide +kernel
theorem dX8_isDoneInStead_39 : decode cX8_isDoneInStead 39 = .ok (.getfield 243, 3) := by decide +kernel
theorem dX8_isDoneInStead_42 : decode cX8_isDoneInStead 42 = .ok (.invokevirtual 92, 3) := by decide +kernel
theorem dX8_isDoneInStead_45 : decode cX8_isDoneInStead 45 = .ok (.ireturn, 1) := by decide +kernel
theorem dX8_hanging_0 : decode cX8_hanging 0 = .ok (.iconst 0, 1) := by decide +kernel
theorem dX8_hanging_1 : decode cX8_hanging 1 = .ok (.istore_n 2, 1) := by decide +kernel
end
section
theorem dX8_hanging_2 : decode cX8_hanging 2 = .ok (.iconst 0, 1) := by decide +kernel
theorem dX8_hanging_3 : decode cX8_hanging 3 = .ok (.istore_n 3, 1) := by decide +kernel
theorem dX8_hanging_4 : decode cX8_hanging 4 = .ok (.iload_n 3, 1) := by decide +kernel
theorem dX8_hanging_5 : decode cX8_hanging 5 = .ok (.iconst 4, 1) := by decide +kernel
theorem dX8_hanging_6 : decode cX8_hanging 6 = .ok (.if_icmp .ge 57, 3) := by decide +kernel
theorem dX8_hanging_9 : decode cX8_hanging 9 = .ok (.iload_n 2, 1) := by decide +kernel
theorem dX8_hanging_10 : decode cX8_hanging 10 = .ok (.aload_n 0, 1) := by decide +kernel
theorem dX8_hanging_11 : decode cX8_hanging 11 = .ok (.getfield 23, 3) := by decide +kernel
theorem dX8_hanging_14 : decode cX8_hanging 14 = .ok (.iload_n 3, 1) := by decide +kernel
theorem dX8_hanging_15 : decode cX8_hanging 15 = .ok (.aaload, 1) := by decide +kernel
theorem dX8_hanging_16 : decode cX8_hanging 16 = .ok (.aload_n 1, 1) := by decide +kernel
theorem dX8_hanging_17 : decode cX8_hanging 17 = .ok (.getfield 246, 3) := by decide +kernel
theorem dX8_hanging_20 : decode cX8_hanging 20 = .ok (.invokevirtual 250, 3) := by decide +kernel
theorem dX8_hanging_23 : decode cX8_hanging 23 = .ok (.ifCond .eq 7, 3) := by decide +kernel
theorem dX8_hanging_26 : decode cX8_hanging 26 = .ok (.iconst 1, 1) := by decide +kernel
theorem dX8_hanging_27 : decode cX8_hanging 27 = .ok (.goto 4, 3) := by decide +kernel
theorem dX8_hanging_30 : decode cX8_hanging 30 = .ok (.iconst 0, 1) := by decide +kernel
theorem dX8_hanging_31 : decode cX8_hanging 31 = .ok (.ior, 1) := by decide +kernel
theorem dX8_hanging_32 : decode cX8_hanging 32 = .ok (.istore_n 2, 1) := by decide +kernel
theorem dX8_hanging_33 : decode cX8_hanging 33 = .ok (.iload_n 2, 1) := by decide +kernel
theorem dX8_hanging_34 : decode cX8_hanging 34 = .ok (.aload_n 0, 1) := by decide +kernel
theorem dX8_hanging_35 : decode cX8_hanging 35 = .ok (.getfield 23, 3) := by decide +kernel
theorem dX8_hanging_38 : decode cX8_hanging 38 = .ok (.iload_n 3, 1) := by decide +kernel
theorem dX8_hanging_39 : decode cX8_hanging 39 = .ok (.aaload, 1) := by decide +kernel
theorem dX8_hanging_40 : decode cX8_hanging 40 = .ok (.aload_n 1, 1) := by decide +kernel
theorem dX8_hanging_41 : decode cX8_hanging 41 = .ok (.getfield 254, 3) := by decide +kernel
theorem dX8_hanging_44 : decode cX8_hanging 44 = .ok (.invokevirtual 250, 3) := by decide +kernel
theorem dX8_hanging_47 : decode cX8_hanging 47 = .ok (.ifCond .eq 7, 3) := by decide +kernel
theorem dX8_hanging_50 : decode cX8_hanging 50 = .ok (.iconst 2, 1) := by decide +kernel
theorem dX8_hanging_51 : decode cX8_hanging 51 = .ok (.goto 4, 3) := by decide +kernel
theorem dX8_hanging_54 : decode cX8_hanging 54 = .ok (.iconst 0, 1) := by decide +kernel
theorem dX8_hanging_55 : decode cX8_hanging 55 = .ok (.ior, 1) := by decide +kernel
theorem dX8_hanging_56 : decode cX8_hanging 56 = .ok (.istore_n 2, 1) := by decide +kernel
theorem dX8_hanging_57 : decode cX8_hanging 57 = .ok (.iinc 3 1, 3) := by decide +kernel
theorem dX8_hanging_60 : decode cX8_hanging 60 = .ok (.goto (-56), 3) := by decide +kernel
theorem dX8_hanging_63 : decode cX8_hanging 63 = .ok (.iload_n 2, 1) := by decide +kernel
theorem dX8_hanging_64 : decode cX8_hanging 64 = .ok (.ireturn, 1) := by decide +kernel
theorem dX9_init_0 : decode cX9_init 0 = .ok (.aload_n 0, 1) := by decide +kernel
theorem dX9_init_1 : decode cX9_init 1 = .ok (.invokespecial 1, 3) := by decide +kernel
theorem dX9_init_4 : decode cX9_init 4 = .ok (.aload_n 0, 1) := by decide +kernel
theorem dX9_init_5 : decode cX9_init 5 = .ok (.iconst 4, 1) := by decide +kernel
theorem dX9_init_6 : decode cX9_init 6 = .ok (.newarray .boolean, 2) := by decide +kernel
theorem dX9_init_8 : decode cX9_init 8 = .ok (.putfield 7, 3) := by decide +kernel
theorem dX9_init_11 : decode cX9_init 11 = .ok (.aload_n 0, 1) := by decide +kernel
theorem dX9_init_12 : decode cX9_init 12 = .ok (.iconst 4, 1) := by decide +kernel
theorem dX9_init_13 : decode cX9_init 13 = .ok (.newarray .int, 2) := by decide +kernel
theorem dX9_init_15 : decode cX9_init 15 = .ok (.putfield 13, 3) := by decide +kernel
theorem dX9_init_18 : decode cX9_init 18 = .ok (.aload_n 0, 1) := by decide +kernel
theorem dX9_init_19 : decode cX9_init 19 = .ok (.bipush 8, 2) := by decide +kernel
theorem dX9_init_21 : decode cX9_init 21 = .ok (.newarray .int, 2) := by decide +kernel
theorem dX9_init_23 : decode cX9_init 23 = .ok (.putfield 17, 3) := by decide +kernel
theorem dX9_init_26 : decode cX9_init 26 = .ok (.aload_n 0, 1) := by decide +kernel
theorem dX9_init_27 : decode cX9_init 27 = .ok (.iconst 4, 1) := by decide +kernel
theorem dX9_init_28 : decode cX9_init 28 = .ok (.newarray .int, 2) := by decide +kernel
theorem dX9_init_30 : decode cX9_init 30 = .ok (.putfield 20, 3) := by decide +kernel
theorem dX9_init_33 : decode cX9_init 33 = .ok (.aload_n 0, 1) := by decide +kernel
theorem dX9_init_34 : decode cX9_init 34 = .ok (.iconst 4, 1) := by decide +kernel
theorem dX9_init_35 : decode cX9_init 35 = .ok (.newarray .int, 2) := by decide +kernel
theorem dX9_init_37 : decode cX9_init 37 = .ok (.putfield 23, 3) := by decide +kernel
theorem dX9_init_40 : decode cX9_init 40 = .ok (.aload_n 0, 1) := by decide +kernel
theorem dX9_init_41 : decode cX9_init 41 = .ok (.bipush 100, 2) := by decide +kernel
theorem dX9_init_43 : decode cX9_init 43 = .ok (.newarray .int, 2) := by decide +kernel
theorem dX9_init_45 : decode cX9_init 45 = .ok (.putfield 26, 3) := by decide +kernel
theorem dX9_init_48 : decode cX9_init 48 = .ok (.aload_n 0, 1) := by decide +kernel
theorem dX9_init_49 : decode cX9_init 49 = .ok (.bipush 100, 2) := by decide +kernel
theorem dX9_init_51 : decode cX9_init 51 = .ok (.newarray .int, 2) := by decide +kernel
theorem dX9_init_53 : decode cX9_init 53 = .ok (.putfield 29, 3) := by decide +kernel
theorem dX9_init_56 : decode cX9_init 56 = .ok (.aload_n 0, 1) := by decide +kernel
theorem dX9_init_57 : decode cX9_init 57 = .ok (.bipush 100, 2) := by decide +kernel
theorem dX9_init_59 : decode cX9_init 59 = .ok (.newarray .boolean, 2) := by decide +kernel
theorem dX9_init_61 : decode cX9_init 61 = .ok (.putfield 32, 3) := by decide +kernel
theorem dX9_init_64 : decode cX9_init 64 = .ok (.aload_n 0, 1) := by decide +kernel
theorem dX9_init_65 : decode cX9_init 65 = .ok (.iconst 4, 1) := by decide +kernel
theorem dX9_init_66 : decode cX9_init 66 = .ok (.newarray .int, 2) := by decide +kernel
theorem dX9_init_68 : decode cX9_init 68 = .ok (.putfield 35, 3) := by decide +kernel
theorem dX9_init_71 : decode cX9_init 71 = .ok (.aload_n 0, 1) := by decide +kernel
theorem dX9_init_72 : decode cX9_init 72 = .ok (.bipush 80, 2) := by decide +kernel
theorem dX9_init_74 : decode cX9_init 74 = .ok (.newarray .int, 2) := by decide +kernel
theorem dX9_init_76 : decode cX9_init 76 = .ok (.putfield 38, 3) := by decide +kernel
theorem dX9_init_79 : decode cX9_init 79 = .ok (.aload_n 0, 1) := by decide +kernel
theorem dX9_init_80 : decode cX9_init 80 = .ok (.iconst 4, 1) := by decide +kernel
theorem dX9_init_81 : decode cX9_init 81 = .ok (.newarray .int, 2) := by decide +kernel
theorem dX9_init_83 : decode cX9_init 83 = .ok (.putfield 41, 3) := by decide +kernel
theorem dX9_init_86 : decode cX9_init 86 = .ok (.aload_n 0, 1) := by decide +kernel
theorem dX9_init_87 : decode cX9_init 87 = .ok (.iconst 4, 1) := by decide +kernel
theorem dX9_init_88 : decode cX9_init 88 = .ok (.newarray .boolean, 2) := by decide +kernel
theorem dX9_init_90 : decode cX9_init 90 = .ok (.putfield 44, 3) := by decide +kernel
theorem dX9_init_93 : decode cX9_init 93 = .ok (.aload_n 0, 1) := by decide +kernel
theorem dX9_init_94 : decode cX9_init 94 = .ok (.bipush 80, 2) := by decide +kernel
theorem dX9_init_96 : decode cX9_init 96 = .ok (.newarray .int, 2) := by decide +kernel
theorem dX9_init_98 : decode cX9_init 98 = .ok (.putfield 47, 3) := by decide +kernel
theorem dX9_init_101 : decode cX9_init 101 = .ok (.aload_n 0, 1) := by decide +kernel
theorem dX9_init_102 : decode cX9_init 102 = .ok (.iconst 4, 1) := by decide +kernel
theorem dX9_init_103 : decode cX9_init 103 = .ok (.newarray .int, 2) := by decide +kernel
theorem dX9_init_105 : decode cX9_init 105 = .ok (.putfield 50, 3) := by decide +kernel
theorem dX9_init_108 : decode cX9_init 108 = .ok (.aload_n 0, 1) := by decide +kernel
theorem dX9_init_109 : decode cX9_init 109 = .ok (.iconst 4, 1) := by decide +kernel
theorem dX9_init_110 : decode cX9_init 110 = .ok (.newarray .int, 2) := by decide +kernel
theorem dX9_init_112 : decode cX9_init 112 = .ok (.putfield 53, 3) := by decide +kernel
theorem dX9_init_115 : decode cX9_init 115 = .ok (.aload_n 0, 1) := by decide +kernel
theorem dX9_init_116 : decode cX9_init 116 = .ok (.sipush 1600, 3) := by decide +kernel
theorem dX9_init_119 : decode cX9_init 119 = .ok (.newarray .int, 2) := by decide +kernel
theorem dX9_init_121 : decode cX9_init 121 = .ok (.putfield 56, 3) := by decide +kernel
theorem dX9_init_124 : decode cX9_init 124 = .ok (.aload_n 0, 1) := by decide +kernel
theorem dX9_init_125 : decode cX9_init 125 = .ok (.iconst 4, 1) := by decide +kernel
theorem dX9_init_126 : decode cX9_init 126 = .ok (.newarray .int, 2) := by decide +kernel
theorem dX9_init_128 : decode cX9_init 128 = .ok (.putfield 59, 3) := by decide +kernel
theorem dX9_init_131 : decode cX9_init 131 = .ok (.aload_n 0, 1) := by decide +kernel
theorem dX9_init_132 : decode cX9_init 132 = .ok (.iconst 4, 1) := by decide +kernel
theorem dX9_init_133 : decode cX9_init 133 = .ok (.newarray .int, 2) := by decide +kernel
theorem dX9_init_135 : decode cX9_init 135 = .ok (.putfield 62, 3) := by decide +kernel
theorem dX9_init_138 : decode cX9_init 138 = .ok (.aload_n 0, 1) := by decide +kernel
theorem dX9_init_139 : decode cX9_init 139 = .ok (.sipush 320, 3) := by decide +kernel
theorem dX9_init_142 : decode cX9_init 142 = .ok (.newarray .int, 2) := by decide +kernel
theorem dX9_init_144 : decode cX9_init 144 = .ok (.putfield 65, 3) := by decide +kernel
theorem dX9_init_147 : decode cX9_init 147 = .ok (.aload_n 0, 1) := by decide +kernel
theorem dX9_init_148 : decode cX9_init 148 = .ok (.iconst (-1), 1) := by decide +kernel
theorem dX9_init_149 : decode cX9_init 149 = .ok (.putfield 68, 3) := by decide +kernel
theorem dX9_init_152 : decode cX9_init 152 = .ok (.aload_n 0, 1) := by decide +kernel
theorem dX9_init_153 : decode cX9_init 153 = .ok (.bipush 8, 2) := by decide +kernel
theorem dX9_init_155 : decode cX9_init 155 = .ok (.newarray .int, 2) := by decide +kernel
theorem dX9_init_157 : decode cX9_init 157 = .ok (.putfield 72, 3) := by decide +kernel
theorem dX9_init_160 : decode cX9_init 160 = .ok (.iconst 0, 1) := by decide +kernel
theorem dX9_init_161 : decode cX9_init 161 = .ok (.istore_n 1, 1) := by decide +kernel
theorem dX9_init_162 : decode cX9_init 162 = .ok (.iload_n 1, 1) := by decide +kernel
theorem dX9_init_163 : decode cX9_init 163 = .ok (.iconst 4, 1) := by decide +kernel
theorem dX9_init_164 : decode cX9_init 164 = .ok (.if_icmp .ge 30, 3) := by decide +kernel
theorem dX9_init_167 : decode cX9_init 167 = .ok (.aload_n 0, 1) := by decide +kernel
theorem dX9_init_168 : decode cX9_init 168 = .ok (.getfield 35, 3) := by decide +kernel
theorem dX9_init_171 : decode cX9_init 171 = .ok (.iload_n 1, 1) := by decide +kernel
theorem dX9_init_172 : decode cX9_init 172 = .ok (.iconst (-1), 1) := by decide +kernel
theorem dX9_init_173 : decode cX9_init 173 = .ok (.iastore, 1) := by decide +kernel
theorem dX9_init_174 : decode cX9_init 174 = .ok (.aload_n 0, 1) := by decide +kernel
theorem dX9_init_175 : decode cX9_init 175 = .ok (.getfield 41, 3) := by decide +kernel
theorem dX9_init_178 : decode cX9_init 178 = .ok (.iload_n 1, 1) := by decide +kernel
theorem dX9_init_179 : decode cX9_init 179 = .ok (.iconst (-1), 1) := by decide +kernel
theorem dX9_init_180 : decode cX9_init 180 = .ok (.iastore, 1) := by decide +kernel
theorem dX9_init_181 : decode cX9_init 181 = .ok (.aload_n 0, 1) := by decide +kernel
theorem dX9_init_182 : decode cX9_init 182 = .ok (.getfield 50, 3) := by decide +kernel
theorem dX9_init_185 : decode cX9_init 185 = .ok (.iload_n 1, 1) := by decide +kernel
theorem dX9_init_186 : decode cX9_init 186 = .ok (.iconst (-1), 1) := by decide +kernel
theorem dX9_init_187 : decode cX9_init 187 = .ok (.iastore, 1) := by decide +kernel
theorem dX9_init_188 : decode cX9_init 188 = .ok (.iinc 1 1, 3) := by decide +kernel
theorem dX9_init_191 : decode cX9_init 191 = .ok (.goto (-29), 3) := by decide +kernel
theorem dX9_init_194 : decode cX9_init 194 = .ok (.iconst 0, 1) := by decide +kernel
theorem dX9_init_195 : decode cX9_init 195 = .ok (.istore_n 1, 1) := by decide +kernel
theorem dX9_init_196 : decode cX9_init 196 = .ok (.iload_n 1, 1) := by decide +kernel
theorem dX9_init_197 : decode cX9_init 197 = .ok (.bipush 8, 2) := by decide +kernel
theorem dX9_init_199 : decode cX9_init 199 = .ok (.if_icmp .ge 16, 3) := by decide +kernel
theorem dX9_init_202 : decode cX9_init 202 = .ok (.aload_n 0, 1) := by decide +kernel
theorem dX9_init_203 : decode cX9_init 203 = .ok (.getfield 17, 3) := by decide +kernel
theorem dX9_init_206 : decode cX9_init 206 = .ok (.iload_n 1, 1) := by decide +kernel
theorem dX9_init_207 : decode cX9_init 207 = .ok (.iconst (-1), 1) := by decide +kernel
theorem dX9_init_208 : decode cX9_init 208 = .ok (.iastore, 1) := by decide +kernel
theorem dX9_init_209 : decode cX9_init 209 = .ok (.iinc 1 1, 3) := by decide +kernel
theorem dX9_init_212 : decode cX9_init 212 = .ok (.goto (-16), 3) := by decide +kernel
theorem dX9_init_215 : decode cX9_init 215 = .ok (.return_, 1) := by decide +kernel
theorem dX9_in_0 : decode cX9_in 0 = .ok (.lload_n 0, 1) := by decide +kernel
theorem dX9_in_1 : decode cX9_in 1 = .ok (.lload_n 2, 1) := by decide +kernel
theorem dX9_in_2 : decode cX9_in 2 = .ok (.lcmp, 1) := by decide +kernel
theorem dX9_in_3 : decode cX9_in 3 = .ok (.ifCond .lt 14, 3) := by decide +kernel
theorem dX9_in_6 : decode cX9_in 6 = .ok (.lload_n 0, 1) := by decide +kernel
theorem dX9_in_7 : decode cX9_in 7 = .ok (.lload 4, 2) := by decide +kernel
theorem dX9_in_9 : decode cX9_in 9 = .ok (.lcmp, 1) := by decide +kernel
theorem dX9_in_10 : decode cX9_in 10 = .ok (.ifCond .gt 7, 3) := by decide +kernel
theorem dX9_in_13 : decode cX9_in 13 = .ok (.iconst 1, 1) := by decide +kernel
theorem dX9_in_14 : decode cX9_in 14 = .ok (.goto 4, 3) := by decide +kernel
theorem dX9_in_17 : decode cX9_in 17 = .ok (.iconst 0, 1) := by decide +kernel
theorem dX9_in_18 : decode cX9_in 18 = .ok (.ireturn, 1) := by decide +kernel
theorem dX9_isStep_0 : decode cX9_isStep 0 = .ok (.iload_n 0, 1) := by decide +kernel
theorem dX9_isStep_1 : decode cX9_isStep 1 = .ok (.i2l, 1) := by decide +kernel
theorem dX9_isStep_2 : decode cX9_isStep 2 = .ok (.lconst 0, 1) := by decide +kernel
theorem dX9_isStep_3 : decode cX9_isStep 3 = .ok (.ldc2_w 75, 3) := by decide +kernel
theorem dX9_isStep_6 : decode cX9_isStep 6 = .ok (.invokestatic 77, 3) := by decide +kernel
theorem dX9_isStep_9 : decode cX9_isStep 9 = .ok (.ifCond .eq 15, 3) := by decide +kernel
theorem dX9_isStep_12 : decode cX9_isStep 12 = .ok (.iload_n 1, 1) := by decide +kernel
theorem dX9_isStep_13 : decode cX9_isStep 13 = .ok (.i2l, 1) := by decide +kernel
theorem dX9_isStep_14 : decode cX9_isStep 14 = .ok (.lconst 0, 1) := by decide +kernel
theorem dX9_isStep_15 : decode cX9_isStep 15 = .ok (.ldc2_w 81, 3) := by decide +kernel
theorem dX9_isStep_18 : decode cX9_isStep 18 = .ok (.invokestatic 77, 3) := by decide +kernel
theorem dX9_isStep_21 : decode cX9_isStep 21 = .ok (.ifCond .ne 5, 3) := by decide +kernel
theorem dX9_isStep_24 : decode cX9_isStep 24 = .ok (.iconst 0, 1) := by decide +kernel
theorem dX9_isStep_25 : decode cX9_isStep 25 = .ok (.ireturn, 1) := by decide +kernel
theorem dX9_isStep_26 : decode cX9_isStep 26 = .ok (.iload_n 0, 1) := by decide +kernel
theorem dX9_isStep_27 : decode cX9_isStep 27 = .ok (.bipush 13, 2) := by decide +kernel
theorem dX9_isStep_29 : decode cX9_isStep 29 = .ok (.if_icmp .ne 15, 3) := by decide +kernel
theorem dX9_isStep_32 : decode cX9_isStep 32 = .ok (.iload_n 3, 1) := by decide +kernel
theorem dX9_isStep_33 : decode cX9_isStep 33 = .ok (.i2l, 1) := by decide +kernel
theorem dX9_isStep_34 : decode cX9_isStep 34 = .ok (.lconst 0, 1) := by decide +kernel
theorem dX9_isStep_35 : decode cX9_isStep 35 = .ok (.ldc2_w 81, 3) := by decide +kernel
theorem dX9_isStep_38 : decode cX9_isStep 38 = .ok (.invokestatic 77, 3) := by decide +kernel
theorem dX9_isStep_41 : decode cX9_isStep 41 = .ok (.goto 38, 3) := by decide +kernel
theorem dX9_isStep_44 : decode cX9_isStep 44 = .ok (.iload_n 0, 1) := by decide +kernel
theorem dX9_isStep_45 : decode cX9_isStep 45 = .ok (.bipush 7, 2) := by decide +kernel
theorem dX9_isStep_47 : decode cX9_isStep 47 = .ok (.if_icmp .lt 27, 3) := by decide +kernel
theorem dX9_isStep_50 : decode cX9_isStep 50 = .ok (.iload_n 0, 1) := by decide +kernel
theorem dX9_isStep_51 : decode cX9_isStep 51 = .ok (.bipush 9, 2) := by decide +kernel
theorem dX9_isStep_53 : decode cX9_isStep 53 = .ok (.if_icmp .gt 21, 3) := by decide +kernel
theorem dX9_isStep_56 : decode cX9_isStep 56 = .ok (.iload_n 2, 1) := by decide +kernel
theorem dX9_isStep_57 : decode cX9_isStep 57 = .ok (.bipush 12, 2) := by decide +kernel
theorem dX9_isStep_59 : decode cX9_isStep 59 = .ok (.if_icmp .gt 19, 3) := by decide +kernel
theorem dX9_isStep_62 : decode cX9_isStep 62 = .ok (.iload_n 0, 1) := by decide +kernel
theorem dX9_isStep_63 : decode cX9_isStep 63 = .ok (.bipush 9, 2) := by decide +kernel
theorem dX9_isStep_65 : decode cX9_isStep 65 = .ok (.if_icmp .ne 9, 3) := by decide +kernel
theorem dX9_isStep_68 : decode cX9_isStep 68 = .ok (.iload_n 3, 1) := by decide +kernel
theorem dX9_isStep_69 : decode cX9_isStep 69 = .ok (.bipush 12, 2) := by decide +kernel
theorem dX9_isStep_71 : decode cX9_isStep 71 = .ok (.if_icmp .gt 7, 3) := by decide +kernel
theorem dX9_isStep_74 : decode cX9_isStep 74 = .ok (.iconst 1, 1) := by decide +kernel
theorem dX9_isStep_75 : decode cX9_isStep 75 = .ok (.goto 4, 3) := by decide +kernel
theorem dX9_isStep_78 : decode cX9_isStep 78 = .ok (.iconst 0, 1) := by decide +kernel
theorem dX9_isStep_79 : decode cX9_isStep 79 = .ok (.ireturn, 1) := by decide +kernel
theorem dX9_isUsed_0 : decode cX9_isUsed 0 = .ok (.iconst 0, 1) := by decide +kernel
theorem dX9_isUsed_1 : decode cX9_isUsed 1 = .ok (.istore_n 2, 1) := by decide +kernel
theorem dX9_isUsed_2 : decode cX9_isUsed 2 = .ok (.iconst 0, 1) := by decide +kernel
theorem dX9_isUsed_3 : decode cX9_isUsed 3 = .ok (.istore_n 3, 1) := by decide +kernel
theorem dX9_isUsed_4 : decode cX9_isUsed 4 = .ok (.iload_n 3, 1) := by decide +kernel
theorem dX9_isUsed_5 : decode cX9_isUsed 5 = .ok (.bipush 8, 2) := by decide +kernel
theorem dX9_isUsed_7 : decode cX9_isUsed 7 = .ok (.if_icmp .ge 29, 3) := by decide +kernel
theorem dX9_isUsed_10 : decode cX9_isUsed 10 = .ok (.iload_n 2, 1) := by decide +kernel
theorem dX9_isUsed_11 : decode cX9_isUsed 11 = .ok (.ifCond .ne 13, 3) := by decide +kernel
theorem dX9_isUsed_14 : decode cX9_isUsed 14 = .ok (.aload_n 0, 1) := by decide +kernel
theorem dX9_isUsed_15 : decode cX9_isUsed 15 = .ok (.getfield 17, 3) := by decide +kernel
theorem dX9_isUsed_18 : decode cX9_isUsed 18 = .ok (.iload_n 3, 1) := by decide +kernel
theorem dX9_isUsed_19 : decode cX9_isUsed 19 = .ok (.iaload, 1) := by decide +kernel
theorem dX9_isUsed_20 : decode cX9_isUsed 20 = .ok (.iload_n 1, 1) := by decide +kernel
theorem dX9_isUsed_21 : decode cX9_isUsed 21 = .ok (.if_icmp .ne 7, 3) := by decide +kernel
theorem dX9_isUsed_24 : decode cX9_isUsed 24 = .ok (.iconst 1, 1) := by decide +kernel
theorem dX9_isUsed_25 : decode cX9_isUsed 25 = .ok (.goto 4, 3) := by decide +kernel
theorem dX9_isUsed_28 : decode cX9_isUsed 28 = .ok (.iconst 0, 1) := by decide +kernel
theorem dX9_isUsed_29 : decode cX9_isUsed 29 = .ok (.istore_n 2, 1) := by decide +kernel
theorem dX9_isUsed_30 : decode cX9_isUsed 30 = .ok (.iinc 3 1, 3) := by decide +kernel
theorem dX9_isUsed_33 : decode cX9_isUsed 33 = .ok (.goto (-29), 3) := by decide +kernel
theorem dX9_isUsed_36 : decode cX9_isUsed 36 = .ok (.iconst 0, 1) := by decide +kernel
theorem dX9_isUsed_37 : decode cX9_isUsed 37 = .ok (.istore_n 3, 1) := by decide +kernel
theorem dX9_isUsed_38 : decode cX9_isUsed 38 = .ok (.iload_n 3, 1) := by decide +kernel
theorem dX9_isUsed_39 : decode cX9_isUsed 39 = .ok (.bipush 80, 2) := by decide +kernel
theorem dX9_isUsed_41 : decode cX9_isUsed 41 = .ok (.if_icmp .ge 45, 3) := by decide +kernel
theorem dX9_isUsed_44 : decode cX9_isUsed 44 = .ok (.iload_n 2, 1) := by decide +kernel
theorem dX9_isUsed_45 : decode cX9_isUsed 45 = .ok (.ifCond .ne 29, 3) := by decide +kernel
theorem dX9_isUsed_48 : decode cX9_isUsed 48 = .ok (.aload_n 0, 1) := by decide +kernel
theorem dX9_isUsed_49 : decode cX9_isUsed 49 = .ok (.getfield 41, 3) := by decide +kernel
theorem dX9_isUsed_52 : decode cX9_isUsed 52 = .ok (.iload_n 3, 1) := by decide +kernel
theorem dX9_isUsed_53 : decode cX9_isUsed 53 = .ok (.bipush 20, 2) := by decide +kernel
theorem dX9_isUsed_55 : decode cX9_isUsed 55 = .ok (.idiv, 1) := by decide +kernel
theorem dX9_isUsed_56 : decode cX9_isUsed 56 = .ok (.iaload, 1) := by decide +kernel
theorem dX9_isUsed_57 : decode cX9_isUsed 57 = .ok (.iload_n 3, 1) := by decide +kernel
theorem dX9_isUsed_58 : decode cX9_isUsed 58 = .ok (.bipush 20, 2) := by decide +kernel
theorem dX9_isUsed_60 : decode cX9_isUsed 60 = .ok (.irem, 1) := by decide +kernel
theorem dX9_isUsed_61 : decode cX9_isUsed 61 = .ok (.if_icmp .le 17, 3) := by decide +kernel
theorem dX9_isUsed_64 : decode cX9_isUsed 64 = .ok (.aload_n 0, 1) := by decide +kernel
theorem dX9_isUsed_65 : decode cX9_isUsed 65 = .ok (.getfield 47, 3) := by decide +kernel
theorem dX9_isUsed_68 : decode cX9_isUsed 68 = .ok (.iload_n 3, 1) := by decide +kernel
theorem dX9_isUsed_69 : decode cX9_isUsed 69 = .ok (.iaload, 1) := by decide +kernel
theorem dX9_isUsed_70 : decode cX9_isUsed 70 = .ok (.iload_n 1, 1) := by decide +kernel
theorem dX9_isUsed_71 : decode cX9_isUsed 71 = .ok (.if_icmp .ne 7, 3) := by decide +kernel
theorem dX9_isUsed_74 : decode cX9_isUsed 74 = .ok (.iconst 1, 1) := by decide +kernel
theorem dX9_isUsed_75 : decode cX9_isUsed 75 = .ok (.goto 4, 3) := by decide +kernel
theorem dX9_isUsed_78 : decode cX9_isUsed 78 = .ok (.iconst 0, 1) := by decide +kernel
theorem dX9_isUsed_79 : decode cX9_isUsed 79 = .ok (.istore_n 2, 1) := by decide +kernel
theorem dX9_isUsed_80 : decode cX9_isUsed 80 = .ok (.iinc 3 1, 3) := by decide +kernel
theorem dX9_isUsed_83 : decode cX9_isUsed 83 = .ok (.goto (-45), 3) := by decide +kernel
theorem dX9_isUsed_86 : decode cX9_isUsed 86 = .ok (.iload_n 2, 1) := by decide +kernel
theorem dX9_isUsed_87 : decode cX9_isUsed 87 = .ok (.ireturn, 1) := by decide +kernel
theorem dX9_newWheel_0 : decode cX9_newWheel 0 = .ok (.iconst 0, 1) := by decide +kernel
theorem dX9_newWheel_1 : decode cX9_newWheel 1 = .ok (.istore_n 2, 1) := by decide +kernel
theorem dX9_newWheel_2 : decode cX9_newWheel 2 = .ok (.aload_n 0, 1) := by decide +kernel
theorem dX9_newWheel_3 : decode cX9_newWheel 3 = .ok (.iload_n 2, 1) := by decide +kernel
theorem dX9_newWheel_4 : decode cX9_newWheel 4 = .ok (.invokevirtual 83, 3) := by decide +kernel
theorem dX9_newWheel_7 : decode cX9_newWheel 7 = .ok (.ifCond .eq 9, 3) := by decide +kernel
theorem dX9_newWheel_10 : decode cX9_newWheel 10 = .ok (.iinc 2 1, 3) := by decide +kernel
theorem dX9_newWheel_13 : decode cX9_newWheel 13 = .ok (.goto (-11), 3) := by decide +kernel
theorem dX9_newWheel_16 : decode cX9_newWheel 16 = .ok (.aload_n 0, 1) := by decide +kernel
theorem dX9_newWheel_17 : decode cX9_newWheel 17 = .ok (.getfield 32, 3) := by decide +kernel
theorem dX9_newWheel_20 : decode cX9_newWheel 20 = .ok (.iload_n 2, 1) := by decide +kernel
theorem dX9_newWheel_21 : decode cX9_newWheel 21 = .ok (.iload_n 1, 1) := by decide +kernel
theorem dX9_newWheel_22 : decode cX9_newWheel 22 = .ok (.bipush 100, 2) := by decide +kernel
theorem dX9_newWheel_24 : decode cX9_newWheel 24 = .ok (.if_icmp .lt 7, 3) := by decide +kernel
theorem dX9_newWheel_27 : decode cX9_newWheel 27 = .ok (.iconst 1, 1) := by decide +kernel
theorem dX9_newWheel_28 : decode cX9_newWheel 28 = .ok (.goto 4, 3) := by decide +kernel
theorem dX9_newWheel_31 : decode cX9_newWheel 31 = .ok (.iconst 0, 1) := by decide +kernel
theorem dX9_newWheel_32 : decode cX9_newWheel 32 = .ok (.bastore, 1) := by decide +kernel
theorem dX9_newWheel_33 : decode cX9_newWheel 33 = .ok (.aload_n 0, 1) := by decide +kernel
theorem dX9_newWheel_34 : decode cX9_newWheel 34 = .ok (.getfield 26, 3) := by decide +kernel
theorem dX9_newWheel_37 : decode cX9_newWheel 37 = .ok (.iload_n 2, 1) := by decide +kernel
theorem dX9_newWheel_38 : decode cX9_newWheel 38 = .ok (.iload_n 1, 1) := by decide +kernel
theorem dX9_newWheel_39 : decode cX9_newWheel 39 = .ok (.bipush 100, 2) := by decide +kernel
theorem dX9_newWheel_41 : decode cX9_newWheel 41 = .ok (.if_icmp .lt 10, 3) := by decide +kernel
theorem dX9_newWheel_44 : decode cX9_newWheel 44 = .ok (.iload_n 1, 1) := by decide +kernel
theorem dX9_newWheel_45 : decode cX9_newWheel 45 = .ok (.bipush 100, 2) := by decide +kernel
theorem dX9_newWheel_47 : decode cX9_newWheel 47 = .ok (.isub, 1) := by decide +kernel
theorem dX9_newWheel_48 : decode cX9_newWheel 48 = .ok (.goto 4, 3) := by decide +kernel
theorem dX9_newWheel_51 : decode cX9_newWheel 51 = .ok (.iload_n 1, 1) := by decide +kernel
theorem dX9_newWheel_52 : decode cX9_newWheel 52 = .ok (.iastore, 1) := by decide +kernel
theorem dX9_newWheel_53 : decode cX9_newWheel 53 = .ok (.aload_n 0, 1) := by decide +kernel
theorem dX9_newWheel_54 : decode cX9_newWheel 54 = .ok (.getfield 29, 3) := by decide +kernel
theorem dX9_newWheel_57 : decode cX9_newWheel 57 = .ok (.iload_n 2, 1) := by decide +kernel
theorem dX9_newWheel_58 : decode cX9_newWheel 58 = .ok (.iconst 0, 1) := by decide +kernel
theorem dX9_newWheel_59 : decode cX9_newWheel 59 = .ok (.iastore, 1) := by decide +kernel
theorem dX9_newWheel_60 : decode cX9_newWheel 60 = .ok (.iload_n 2, 1) := by decide +kernel
theorem dX9_newWheel_61 : decode cX9_newWheel 61 = .ok (.ireturn, 1) := by decide +kernel
theorem dX9_fails_0 : decode cX9_fails 0 = .ok (.aload_n 0, 1) := by decide +kernel
theorem dX9_fails_1 : decode cX9_fails 1 = .ok (.iload_n 1, 1) := by decide +kernel
theorem dX9_fails_2 : decode cX9_fails 2 = .ok (.putfield 87, 3) := by decide +kernel
theorem dX9_fails_5 : decode cX9_fails 5 = .ok (.aload_n 0, 1) := by decide +kernel
theorem dX9_fails_6 : decode cX9_fails 6 = .ok (.iconst 0, 1) := by decide +kernel
theorem dX9_fails_7 : decode cX9_fails 7 = .ok (.putfield 90, 3) := by decide +kernel
theorem dX9_fails_10 : decode cX9_fails 10 = .ok (.return_, 1) := by decide +kernel
theorem dX9_build_0 : decode cX9_build 0 = .ok (.aload_n 0, 1) := by decide +kernel
theorem dX9_build_1 : decode cX9_build 1 = .ok (.getfield 7, 3) := by decide +kernel
theorem dX9_build_4 : decode cX9_build 4 = .ok (.iload_n 1, 1) := by decide +kernel
theorem dX9_build_5 : decode cX9_build 5 = .ok (.iconst 1, 1) := by decide +kernel
theorem dX9_build_6 : decode cX9_build 6 = .ok (.bastore, 1) := by decide +kernel
theorem dX9_build_7 : decode cX9_build 7 = .ok (.aload_n 0, 1) := by decide +kernel
theorem dX9_build_8 : decode cX9_build 8 = .ok (.getfield 13, 3) := by decide +kernel
theorem dX9_build_11 : decode cX9_build 11 = .ok (.iload_n 1, 1) := by decide +kernel
theorem dX9_build_12 : decode cX9_build 12 = .ok (.iload_n 2, 1) := by decide +kernel
theorem dX9_build_13 : decode cX9_build 13 = .ok (.iastore, 1) := by decide +kernel
theorem dX9_build_14 : decode cX9_build 14 = .ok (.aload_n 0, 1) := by decide +kernel
theorem dX9_build_15 : decode cX9_build 15 = .ok (.iload_n 1, 1) := by decide +kernel
theorem dX9_build_16 : decode cX9_build 16 = .ok (.invokevirtual 93, 3) := by decide +kernel
theorem dX9_build_19 : decode cX9_build 19 = .ok (.aload_n 0, 1) := by decide +kernel
theorem dX9_build_20 : decode cX9_build 20 = .ok (.iload_n 2, 1) := by decide +kernel
theorem dX9_build_21 : decode cX9_build 21 = .ok (.putfield 90, 3) := by decide +kernel
theorem dX9_build_24 : decode cX9_build 24 = .ok (.return_, 1) := by decide +kernel
theorem dX9_strip_0 : decode cX9_strip 0 = .ok (.aload_n 0, 1) := by decide +kernel
theorem dX9_strip_1 : decode cX9_strip 1 = .ok (.getfield 17, 3) := by decide +kernel
theorem dX9_strip_4 : decode cX9_strip 4 = .ok (.iconst 2, 1) := by decide +kernel
theorem dX9_strip_5 : decode cX9_strip 5 = .ok (.iload_n 1, 1) := by decide +kernel
theorem dX9_strip_6 : decode cX9_strip 6 = .ok (.imul, 1) := by decide +kernel
theorem dX9_strip_7 : decode cX9_strip 7 = .ok (.iconst (-1), 1) := by decide +kernel
theorem dX9_strip_8 : decode cX9_strip 8 = .ok (.iastore, 1) := by decide +kernel
theorem dX9_strip_9 : decode cX9_strip 9 = .ok (.aload_n 0, 1) := by decide +kernel
theorem dX9_strip_10 : decode cX9_strip 10 = .ok (.getfield 17, 3) := by decide +kernel
theorem dX9_strip_13 : decode cX9_strip 13 = .ok (.iconst 2, 1) := by decide +kernel
theorem dX9_strip_14 : decode cX9_strip 14 = .ok (.iload_n 1, 1) := by decide +kernel
theorem dX9_strip_15 : decode cX9_strip 15 = .ok (.imul, 1) := by decide +kernel
theorem dX9_strip_16 : decode cX9_strip 16 = .ok (.iconst 1, 1) := by decide +kernel
theorem dX9_strip_17 : decode cX9_strip 17 = .ok (.iadd, 1) := by decide +kernel
theorem dX9_strip_18 : decode cX9_strip 18 = .ok (.iconst (-1), 1) := by decide +kernel
theorem dX9_strip_19 : decode cX9_strip 19 = .ok (.iastore, 1) := by decide +kernel
theorem dX9_strip_20 : decode cX9_strip 20 = .ok (.aload_n 0, 1) := by decide +kernel
theorem dX9_strip_21 : decode cX9_strip 21 = .ok (.getfield 20, 3) := by decide +kernel
theorem dX9_strip_24 : decode cX9_strip 24 = .ok (.iload_n 1, 1) := by decide +kernel
theorem dX9_strip_25 : decode cX9_strip 25 = .ok (.iconst 0, 1) := by decide +kernel
theorem dX9_strip_26 : decode cX9_strip 26 = .ok (.iastore, 1) := by decide +kernel
theorem dX9_strip_27 : decode cX9_strip 27 = .ok (.aload_n 0, 1) := by decide +kernel
theorem dX9_strip_28 : decode cX9_strip 28 = .ok (.iconst 1, 1) := by decide +kernel
theorem dX9_strip_29 : decode cX9_strip 29 = .ok (.putfield 90, 3) := by decide +kernel
theorem dX9_strip_32 : decode cX9_strip 32 = .ok (.return_, 1) := by decide +kernel
theorem dX9_fit_0 : decode cX9_fit 0 = .ok (.aload_n 0, 1) := by decide +kernel
theorem dX9_fit_1 : decode cX9_fit 1 = .ok (.getfield 7, 3) := by decide +kernel
theorem dX9_fit_4 : decode cX9_fit 4 = .ok (.iload_n 1, 1) := by decide +kernel
theorem dX9_fit_5 : decode cX9_fit 5 = .ok (.baload, 1) := by decide +kernel
theorem dX9_fit_6 : decode cX9_fit 6 = .ok (.ifCond .ne 9, 3) := by decide +kernel
theorem dX9_fit_9 : decode cX9_fit 9 = .ok (.aload_n 0, 1) := by decide +kernel
theorem dX9_fit_10 : decode cX9_fit 10 = .ok (.iconst 1, 1) := by decide +kernel
theorem dX9_fit_11 : decode cX9_fit 11 = .ok (.invokevirtual 97, 3) := by decide +kernel
theorem dX9_fit_14 : decode cX9_fit 14 = .ok (.return_, 1) := by decide +kernel
theorem dX9_fit_15 : decode cX9_fit 15 = .ok (.iconst 2, 1) := by decide +kernel
theorem dX9_fit_16 : decode cX9_fit 16 = .ok (.iload_n 1, 1) := by decide +kernel
theorem dX9_fit_17 : decode cX9_fit 17 = .ok (.imul, 1) := by decide +kernel
theorem dX9_fit_18 : decode cX9_fit 18 = .ok (.iload_n 2, 1) := by decide +kernel
theorem dX9_fit_19 : decode cX9_fit 19 = .ok (.iconst 1, 1) := by decide +kernel
theorem dX9_fit_20 : decode cX9_fit 20 = .ok (.iand, 1) := by decide +kernel
theorem dX9_fit_21 : decode cX9_fit 21 = .ok (.iadd, 1) := by decide +kernel
theorem dX9_fit_22 : decode cX9_fit 22 = .ok (.istore 4, 2) := by decide +kernel
theorem dX9_fit_24 : decode cX9_fit 24 = .ok (.aload_n 0, 1) := by decide +kernel
theorem dX9_fit_25 : decode cX9_fit 25 = .ok (.getfield 17, 3) := by decide +kernel
theorem dX9_fit_28 : decode cX9_fit 28 = .ok (.iload 4, 2) := by decide +kernel
theorem dX9_fit_30 : decode cX9_fit 30 = .ok (.iconst (-1), 1) := by decide +kernel
theorem dX9_fit_31 : decode cX9_fit 31 = .ok (.iastore, 1) := by decide +kernel
theorem dX9_fit_32 : decode cX9_fit 32 = .ok (.aload_n 0, 1) := by decide +kernel
theorem dX9_fit_33 : decode cX9_fit 33 = .ok (.getfield 17, 3) := by decide +kernel
theorem dX9_fit_36 : decode cX9_fit 36 = .ok (.iload 4, 2) := by decide +kernel
theorem dX9_fit_38 : decode cX9_fit 38 = .ok (.iload_n 3, 1) := by decide +kernel
theorem dX9_fit_39 : decode cX9_fit 39 = .ok (.ifCond .ne 7, 3) := by decide +kernel
theorem dX9_fit_42 : decode cX9_fit 42 = .ok (.iconst (-1), 1) := by decide +kernel
theorem dX9_fit_43 : decode cX9_fit 43 = .ok (.goto 8, 3) := by decide +kernel
theorem dX9_fit_46 : decode cX9_fit 46 = .ok (.aload_n 0, 1) := by decide +kernel
theorem dX9_fit_47 : decode cX9_fit 47 = .ok (.iload_n 3, 1) := by decide +kernel
theorem dX9_fit_48 : decode cX9_fit 48 = .ok (.invokevirtual 100, 3) := by decide +kernel
theorem dX9_fit_51 : decode cX9_fit 51 = .ok (.iastore, 1) := by decide +kernel
theorem dX9_fit_52 : decode cX9_fit 52 = .ok (.aload_n 0, 1) := by decide +kernel
theorem dX9_fit_53 : decode cX9_fit 53 = .ok (.iload_n 3, 1) := by decide +kernel
theorem dX9_fit_54 : decode cX9_fit 54 = .ok (.putfield 90, 3) := by decide +kernel
theorem dX9_fit_57 : decode cX9_fit 57 = .ok (.return_, 1) := by decide +kernel
theorem dX9_turn_0 : decode cX9_turn 0 = .ok (.aload_n 0, 1) := by decide +kernel
theorem dX9_turn_1 : decode cX9_turn 1 = .ok (.getfield 7, 3) := by decide +kernel
theorem dX9_turn_4 : decode cX9_turn 4 = .ok (.iload_n 1, 1) := by decide +kernel
theorem dX9_turn_5 : decode cX9_turn 5 = .ok (.baload, 1) := by decide +kernel
theorem dX9_turn_6 : decode cX9_turn 6 = .ok (.ifCond .eq 18, 3) := by decide +kernel
theorem dX9_turn_9 : decode cX9_turn 9 = .ok (.aload_n 0, 1) := by decide +kernel
theorem dX9_turn_10 : decode cX9_turn 10 = .ok (.getfield 17, 3) := by decide +kernel
theorem dX9_turn_13 : decode cX9_turn 13 = .ok (.iconst 2, 1) := by decide +kernel
theorem dX9_turn_14 : decode cX9_turn 14 = .ok (.iload_n 1, 1) := by decide +kernel
theorem dX9_turn_15 : decode cX9_turn 15 = .ok (.imul, 1) := by decide +kernel
theorem dX9_turn_16 : decode cX9_turn 16 = .ok (.iload_n 2, 1) := by decide +kernel
theorem dX9_turn_17 : decode cX9_turn 17 = .ok (.iconst 1, 1) := by decide +kernel
theorem dX9_turn_18 : decode cX9_turn 18 = .ok (.iand, 1) := by decide +kernel
theorem dX9_turn_19 : decode cX9_turn 19 = .ok (.iadd, 1) := by decide +kernel
theorem dX9_turn_20 : decode cX9_turn 20 = .ok (.iaload, 1) := by decide +kernel
theorem dX9_turn_21 : decode cX9_turn 21 = .ok (.goto 4, 3) := by decide +kernel
theorem dX9_turn_24 : decode cX9_turn 24 = .ok (.iconst (-1), 1) := by decide +kernel
theorem dX9_turn_25 : decode cX9_turn 25 = .ok (.istore 4, 2) := by decide +kernel
theorem dX9_turn_27 : decode cX9_turn 27 = .ok (.iload 4, 2) := by decide +kernel
theorem dX9_turn_29 : decode cX9_turn 29 = .ok (.iconst (-1), 1) := by decide +kernel
theorem dX9_turn_30 : decode cX9_turn 30 = .ok (.if_icmp .ne 9, 3) := by decide +kernel
theorem dX9_turn_33 : decode cX9_turn 33 = .ok (.aload_n 0, 1) := by decide +kernel
theorem dX9_turn_34 : decode cX9_turn 34 = .ok (.iconst 1, 1) := by decide +kernel
theorem dX9_turn_35 : decode cX9_turn 35 = .ok (.invokevirtual 97, 3) := by decide +kernel
theorem dX9_turn_38 : decode cX9_turn 38 = .ok (.return_, 1) := by decide +kernel
theorem dX9_turn_39 : decode cX9_turn 39 = .ok (.iload_n 3, 1) := by decide +kernel
theorem dX9_turn_40 : decode cX9_turn 40 = .ok (.ifCond .eq 15, 3) := by decide +kernel
theorem dX9_turn_43 : decode cX9_turn 43 = .ok (.aload_n 0, 1) := by decide +kernel
theorem dX9_turn_44 : decode cX9_turn 44 = .ok (.aload_n 0, 1) := by decide +kernel
theorem dX9_turn_45 : decode cX9_turn 45 = .ok (.getfield 26, 3) := by decide +kernel
theorem dX9_turn_48 : decode cX9_turn 48 = .ok (.iload 4, 2) := by decide +kernel
theorem dX9_turn_50 : decode cX9_turn 50 = .ok (.iaload, 1) := by decide +kernel
theorem dX9_turn_51 : decode cX9_turn 51 = .ok (.putfield 90, 3) := by decide +kernel
theorem dX9_turn_54 : decode cX9_turn 54 = .ok (.return_, 1) := by decide +kernel
theorem dX9_turn_55 : decode cX9_turn 55 = .ok (.aload_n 0, 1) := by decide +kernel
theorem dX9_turn_56 : decode cX9_turn 56 = .ok (.getfield 29, 3) := by decide +kernel
theorem dX9_turn_59 : decode cX9_turn 59 = .ok (.iload 4, 2) := by decide +kernel
theorem dX9_turn_61 : decode cX9_turn 61 = .ok (.dup2, 1) := by decide +kernel
theorem dX9_turn_62 : decode cX9_turn 62 = .ok (.iaload, 1) := by decide +kernel
theorem dX9_turn_63 : decode cX9_turn 63 = .ok (.iconst 1, 1) := by decide +kernel
theorem dX9_turn_64 : decode cX9_turn 64 = .ok (.iadd, 1) := by decide +kernel
theorem dX9_turn_65 : decode cX9_turn 65 = .ok (.iastore, 1) := by decide +kernel
theorem dX9_turn_66 : decode cX9_turn 66 = .ok (.aload_n 0, 1) := by decide +kernel
theorem dX9_turn_67 : decode cX9_turn 67 = .ok (.aload_n 0, 1) := by decide +kernel
theorem dX9_turn_68 : decode cX9_turn 68 = .ok (.getfield 29, 3) := by decide +kernel
theorem dX9_turn_71 : decode cX9_turn 71 = .ok (.iload 4, 2) := by decide +kernel
theorem dX9_turn_73 : decode cX9_turn 73 = .ok (.iaload, 1) := by decide +kernel
theorem dX9_turn_74 : decode cX9_turn 74 = .ok (.aload_n 0, 1) := by decide +kernel
theorem dX9_turn_75 : decode cX9_turn 75 = .ok (.getfield 26, 3) := by decide +kernel
theorem dX9_turn_78 : decode cX9_turn 78 = .ok (.iload 4, 2) := by decide +kernel
theorem dX9_turn_80 : decode cX9_turn 80 = .ok (.iaload, 1) := by decide +kernel
theorem dX9_turn_81 : decode cX9_turn 81 = .ok (.imul, 1) := by decide +kernel
theorem dX9_turn_82 : decode cX9_turn 82 = .ok (.aload_n 0, 1) := by decide +kernel
theorem dX9_turn_83 : decode cX9_turn 83 = .ok (.getfield 32, 3) := by decide +kernel
theorem dX9_turn_86 : decode cX9_turn 86 = .ok (.iload 4, 2) := by decide +kernel
theorem dX9_turn_88 : decode cX9_turn 88 = .ok (.baload, 1) := by decide +kernel
theorem dX9_turn_89 : decode cX9_turn 89 = .ok (.ifCond .eq 7, 3) := by decide +kernel
theorem dX9_turn_92 : decode cX9_turn 92 = .ok (.iconst 1, 1) := by decide +kernel
theorem dX9_turn_93 : decode cX9_turn 93 = .ok (.goto 4, 3) := by decide +kernel
theorem dX9_turn_96 : decode cX9_turn 96 = .ok (.iconst 0, 1) := by decide +kernel
theorem dX9_turn_97 : decode cX9_turn 97 = .ok (.iadd, 1) := by decide +kernel
theorem dX9_turn_98 : decode cX9_turn 98 = .ok (.putfield 90, 3) := by decide +kernel
theorem dX9_turn_101 : decode cX9_turn 101 = .ok (.return_, 1) := by decide +kernel
theorem dX9_light_0 : decode cX9_light 0 = .ok (.aload_n 0, 1) := by decide +kernel
theorem dX9_light_1 : decode cX9_light 1 = .ok (.getfield 7, 3) := by decide +kernel
theorem dX9_light_4 : decode cX9_light 4 = .ok (.iload_n 1, 1) := by decide +kernel
theorem dX9_light_5 : decode cX9_light 5 = .ok (.baload, 1) := by decide +kernel
theorem dX9_light_6 : decode cX9_light 6 = .ok (.ifCond .ne 9, 3) := by decide +kernel
theorem dX9_light_9 : decode cX9_light 9 = .ok (.aload_n 0, 1) := by decide +kernel
theorem dX9_light_10 : decode cX9_light 10 = .ok (.iconst 1, 1) := by decide +kernel
theorem dX9_light_11 : decode cX9_light 11 = .ok (.invokevirtual 97, 3) := by decide +kernel
theorem dX9_light_14 : decode cX9_light 14 = .ok (.return_, 1) := by decide +kernel
theorem dX9_light_15 : decode cX9_light 15 = .ok (.aload_n 0, 1) := by decide +kernel
theorem dX9_light_16 : decode cX9_light 16 = .ok (.getfield 20, 3) := by decide +kernel
theorem dX9_light_19 : decode cX9_light 19 = .ok (.iload_n 1, 1) := by decide +kernel
theorem dX9_light_20 : decode cX9_light 20 = .ok (.iload_n 2, 1) := by decide +kernel
theorem dX9_light_21 : decode cX9_light 21 = .ok (.ifCond .ne 7, 3) := by decide +kernel
theorem dX9_light_24 : decode cX9_light 24 = .ok (.iconst 0, 1) := by decide +kernel
theorem dX9_light_25 : decode cX9_light 25 = .ok (.goto 13, 3) := by decide +kernel
theorem dX9_light_28 : decode cX9_light 28 = .ok (.iload_n 2, 1) := by decide +kernel
theorem dX9_light_29 : decode cX9_light 29 = .ok (.iconst 1, 1) := by decide +kernel
theorem dX9_light_30 : decode cX9_light 30 = .ok (.if_icmp .ne 7, 3) := by decide +kernel
theorem dX9_light_33 : decode cX9_light 33 = .ok (.iconst 1, 1) := by decide +kernel
theorem dX9_light_34 : decode cX9_light 34 = .ok (.goto 4, 3) := by decide +kernel
theorem dX9_light_37 : decode cX9_light 37 = .ok (.iconst 2, 1) := by decide +kernel
theorem dX9_light_38 : decode cX9_light 38 = .ok (.iastore, 1) := by decide +kernel
theorem dX9_light_39 : decode cX9_light 39 = .ok (.aload_n 0, 1) := by decide +kernel
theorem dX9_light_40 : decode cX9_light 40 = .ok (.getfield 23, 3) := by decide +kernel
theorem dX9_light_43 : decode cX9_light 43 = .ok (.iload_n 1, 1) := by decide +kernel
theorem dX9_light_44 : decode cX9_light 44 = .ok (.iload_n 3, 1) := by decide +kernel
theorem dX9_light_45 : decode cX9_light 45 = .ok (.iastore, 1) := by decide +kernel
theorem dX9_light_46 : decode cX9_light 46 = .ok (.aload_n 0, 1) := by decide +kernel
theorem dX9_light_47 : decode cX9_light 47 = .ok (.iload_n 2, 1) := by decide +kernel
theorem dX9_light_48 : decode cX9_light 48 = .ok (.putfield 90, 3) := by decide +kernel
theorem dX9_light_51 : decode cX9_light 51 = .ok (.return_, 1) := by decide +kernel
theorem dX9_shine_0 : decode cX9_shine 0 = .ok (.aload_n 0, 1) := by decide +kernel
theorem dX9_shine_1 : decode cX9_shine 1 = .ok (.getfield 7, 3) := by decide +kernel
theorem dX9_shine_4 : decode cX9_shine 4 = .ok (.iload_n 1, 1) := by decide +kernel
theorem dX9_shine_5 : decode cX9_shine 5 = .ok (.baload, 1) := by decide +kernel
theorem dX9_shine_6 : decode cX9_shine 6 = .ok (.ifCond .eq 12, 3) := by decide +kernel
theorem dX9_shine_9 : decode cX9_shine 9 = .ok (.aload_n 0, 1) := by decide +kernel
theorem dX9_shine_10 : decode cX9_shine 10 = .ok (.getfield 20, 3) := by decide +kernel
theorem dX9_shine_13 : decode cX9_shine 13 = .ok (.iload_n 1, 1) := by decide +kernel
theorem dX9_shine_14 : decode cX9_shine 14 = .ok (.iaload, 1) := by decide +kernel
theorem dX9_shine_15 : decode cX9_shine 15 = .ok (.ifCond .ne 9, 3) := by decide +kernel
theorem dX9_shine_18 : decode cX9_shine 18 = .ok (.aload_n 0, 1) := by decide +kernel
theorem dX9_shine_19 : decode cX9_shine 19 = .ok (.iconst 1, 1) := by decide +kernel
theorem dX9_shine_20 : decode cX9_shine 20 = .ok (.invokevirtual 97, 3) := by decide +kernel
theorem dX9_shine_23 : decode cX9_shine 23 = .ok (.return_, 1) := by decide +kernel
theorem dX9_shine_24 : decode cX9_shine 24 = .ok (.aload_n 0, 1) := by decide +kernel
theorem dX9_shine_25 : decode cX9_shine 25 = .ok (.aload_n 0, 1) := by decide +kernel
theorem dX9_shine_26 : decode cX9_shine 26 = .ok (.getfield 20, 3) := by decide +kernel
theorem dX9_shine_29 : decode cX9_shine 29 = .ok (.iload_n 1, 1) := by decide +kernel
theorem dX9_shine_30 : decode cX9_shine 30 = .ok (.iaload, 1) := by decide +kernel
theorem dX9_shine_31 : decode cX9_shine 31 = .ok (.iconst 1, 1) := by decide +kernel
theorem dX9_shine_32 : decode cX9_shine 32 = .ok (.if_icmp .ne 9, 3) := by decide +kernel
theorem dX9_shine_35 : decode cX9_shine 35 = .ok (.iconst 3, 1) := by decide +kernel
theorem dX9_shine_36 : decode cX9_shine 36 = .ok (.iload_n 2, 1) := by decide +kernel
theorem dX9_shine_37 : decode cX9_shine 37 = .ok (.imul, 1) := by decide +kernel
theorem dX9_shine_38 : decode cX9_shine 38 = .ok (.goto 17, 3) := by decide +kernel
theorem dX9_shine_41 : decode cX9_shine 41 = .ok (.aload_n 0, 1) := by decide +kernel
theorem dX9_shine_42 : decode cX9_shine 42 = .ok (.getfield 23, 3) := by decide +kernel
theorem dX9_shine_45 : decode cX9_shine 45 = .ok (.iload_n 1, 1) := by decide +kernel
theorem dX9_shine_46 : decode cX9_shine 46 = .ok (.iaload, 1) := by decide +kernel
theorem dX9_shine_47 : decode cX9_shine 47 = .ok (.ifCond .le 7, 3) := by decide +kernel
theorem dX9_shine_50 : decode cX9_shine 50 = .ok (.iload_n 2, 1) := by decide +kernel
theorem dX9_shine_51 : decode cX9_shine 51 = .ok (.goto 4, 3) := by decide +kernel
theorem dX9_shine_54 : decode cX9_shine 54 = .ok (.iconst 0, 1) := by decide +kernel
theorem dX9_shine_55 : decode cX9_shine 55 = .ok (.putfield 90, 3) := by decide +kernel
theorem dX9_shine_58 : decode cX9_shine 58 = .ok (.aload_n 0, 1) := by decide +kernel
theorem dX9_shine_59 : decode cX9_shine 59 = .ok (.getfield 23, 3) := by decide +kernel
theorem dX9_shine_62 : decode cX9_shine 62 = .ok (.iload_n 1, 1) := by decide +kernel
theorem dX9_shine_63 : decode cX9_shine 63 = .ok (.aload_n 0, 1) := by decide +kernel
theorem dX9_shine_64 : decode cX9_shine 64 = .ok (.getfield 20, 3) := by decide +kernel
theorem dX9_shine_67 : decode cX9_shine 67 = .ok (.iload_n 1, 1) := by decide +kernel
theorem dX9_shine_68 : decode cX9_shine 68 = .ok (.iaload, 1) := by decide +kernel
theorem dX9_shine_69 : decode cX9_shine 69 = .ok (.iconst 2, 1) := by decide +kernel
theorem dX9_shine_70 : decode cX9_shine 70 = .ok (.if_icmp .ne 23, 3) := by decide +kernel
theorem dX9_shine_73 : decode cX9_shine 73 = .ok (.aload_n 0, 1) := by decide +kernel
theorem dX9_shine_74 : decode cX9_shine 74 = .ok (.getfield 23, 3) := by decide +kernel
theorem dX9_shine_77 : decode cX9_shine 77 = .ok (.iload_n 1, 1) := by decide +kernel
theorem dX9_shine_78 : decode cX9_shine 78 = .ok (.iaload, 1) := by decide +kernel
theorem dX9_shine_79 : decode cX9_shine 79 = .ok (.ifCond .le 14, 3) := by decide +kernel
theorem dX9_shine_82 : decode cX9_shine 82 = .ok (.aload_n 0, 1) := by decide +kernel
theorem dX9_shine_83 : decode cX9_shine 83 = .ok (.getfield 23, 3) := by decide +kernel
theorem dX9_shine_86 : decode cX9_shine 86 = .ok (.iload_n 1, 1) := by decide +kernel
theorem dX9_shine_87 : decode cX9_shine 87 = .ok (.iaload, 1) := by decide +kernel
theorem dX9_shine_88 : decode cX9_shine 88 = .ok (.iconst 1, 1) := by decide +kernel
theorem dX9_shine_89 : decode cX9_shine 89 = .ok (.isub, 1) := by decide +kernel
theorem dX9_shine_90 : decode cX9_shine 90 = .ok (.goto 9, 3) := by decide +kernel
theorem dX9_shine_93 : decode cX9_shine 93 = .ok (.aload_n 0, 1) := by decide +kernel
theorem dX9_shine_94 : decode cX9_shine 94 = .ok (.getfield 23, 3) := by decide +kernel
theorem dX9_shine_97 : decode cX9_shine 97 = .ok (.iload_n 1, 1) := by decide +kernel
theorem dX9_shine_98 : decode cX9_shine 98 = .ok (.iaload, 1) := by decide +kernel
theorem dX9_shine_99 : decode cX9_shine 99 = .ok (.iastore, 1) := by decide +kernel
theorem dX9_shine_100 : decode cX9_shine 100 = .ok (.return_, 1) := by decide +kernel
theorem dX9_make_0 : decode cX9_make 0 = .ok (.iload_n 3, 1) := by decide +kernel
theorem dX9_make_1 : decode cX9_make 1 = .ok (.ifCond .lt 14, 3) := by decide +kernel
theorem dX9_make_4 : decode cX9_make 4 = .ok (.iload_n 1, 1) := by decide +kernel
theorem dX9_make_5 : decode cX9_make 5 = .ok (.bipush 9, 2) := by decide +kernel
theorem dX9_make_7 : decode cX9_make 7 = .ok (.if_icmp .ne 14, 3) := by decide +kernel
theorem dX9_make_10 : decode cX9_make 10 = .ok (.iload 4, 2) := by decide +kernel
theorem dX9_make_12 : decode cX9_make 12 = .ok (.ifCond .ge 9, 3) := by decide +kernel
theorem dX9_make_15 : decode cX9_make 15 = .ok (.aload_n 0, 1) := by decide +kernel
theorem dX9_make_16 : decode cX9_make 16 = .ok (.iconst 2, 1) := by decide +kernel
theorem dX9_make_17 : decode cX9_make 17 = .ok (.invokevirtual 97, 3) := by decide +kernel
theorem dX9_make_20 : decode cX9_make 20 = .ok (.return_, 1) := by decide +kernel
theorem dX9_make_21 : decode cX9_make 21 = .ok (.aload_n 0, 1) := by decide +kernel
theorem dX9_make_22 : decode cX9_make 22 = .ok (.iload_n 3, 1) := by decide +kernel
theorem dX9_make_23 : decode cX9_make 23 = .ok (.putfield 90, 3) := by decide +kernel
theorem dX9_make_26 : decode cX9_make 26 = .ok (.iload_n 1, 1) := by decide +kernel
theorem dX9_make_27 : decode cX9_make 27 = .ok (.bipush 7, 2) := by decide +kernel
theorem dX9_make_29 : decode cX9_make 29 = .ok (.if_icmp .ne 42, 3) := by decide +kernel
theorem dX9_make_32 : decode cX9_make 32 = .ok (.aload_n 0, 1) := by decide +kernel
theorem dX9_make_33 : decode cX9_make 33 = .ok (.getfield 35, 3) := by decide +kernel
theorem dX9_make_36 : decode cX9_make 36 = .ok (.iload_n 2, 1) := by decide +kernel
theorem dX9_make_37 : decode cX9_make 37 = .ok (.iload_n 3, 1) := by decide +kernel
theorem dX9_make_38 : decode cX9_make 38 = .ok (.iastore, 1) := by decide +kernel
theorem dX9_make_39 : decode cX9_make 39 = .ok (.iconst 0, 1) := by decide +kernel
theorem dX9_make_40 : decode cX9_make 40 = .ok (.istore 5, 2) := by decide +kernel
theorem dX9_make_42 : decode cX9_make 42 = .ok (.iload 5, 2) := by decide +kernel
theorem dX9_make_44 : decode cX9_make 44 = .ok (.bipush 20, 2) := by decide +kernel
theorem dX9_make_46 : decode cX9_make 46 = .ok (.if_icmp .ge 22, 3) := by decide +kernel
theorem dX9_make_49 : decode cX9_make 49 = .ok (.aload_n 0, 1) := by decide +kernel
theorem dX9_make_50 : decode cX9_make 50 = .ok (.getfield 38, 3) := by decide +kernel
theorem dX9_make_53 : decode cX9_make 53 = .ok (.bipush 20, 2) := by decide +kernel
theorem dX9_make_55 : decode cX9_make 55 = .ok (.iload_n 2, 1) := by decide +kernel
theorem dX9_make_56 : decode cX9_make 56 = .ok (.imul, 1) := by decide +kernel
theorem dX9_make_57 : decode cX9_make 57 = .ok (.iload 5, 2) := by decide +kernel
theorem dX9_make_59 : decode cX9_make 59 = .ok (.iadd, 1) := by decide +kernel
theorem dX9_make_60 : decode cX9_make 60 = .ok (.iconst 0, 1) := by decide +kernel
theorem dX9_make_61 : decode cX9_make 61 = .ok (.iastore, 1) := by decide +kernel
theorem dX9_make_62 : decode cX9_make 62 = .ok (.iinc 5 1, 3) := by decide +kernel
theorem dX9_make_65 : decode cX9_make 65 = .ok (.goto (-23), 3) := by decide +kernel
theorem dX9_make_68 : decode cX9_make 68 = .ok (.goto 113, 3) := by decide +kernel
theorem dX9_make_71 : decode cX9_make 71 = .ok (.iload_n 1, 1) := by decide +kernel
theorem dX9_make_72 : decode cX9_make 72 = .ok (.bipush 8, 2) := by decide +kernel
theorem dX9_make_74 : decode cX9_make 74 = .ok (.if_icmp .ne 61, 3) := by decide +kernel
theorem dX9_make_77 : decode cX9_make 77 = .ok (.aload_n 0, 1) := by decide +kernel
theorem dX9_make_78 : decode cX9_make 78 = .ok (.getfield 41, 3) := by decide +kernel
theorem dX9_make_81 : decode cX9_make 81 = .ok (.iload_n 2, 1) := by decide +kernel
theorem dX9_make_82 : decode cX9_make 82 = .ok (.iload_n 3, 1) := by decide +kernel
theorem dX9_make_83 : decode cX9_make 83 = .ok (.iastore, 1) := by decide +kernel
theorem dX9_make_84 : decode cX9_make 84 = .ok (.aload_n 0, 1) := by decide +kernel
theorem dX9_make_85 : decode cX9_make 85 = .ok (.getfield 44, 3) := by decide +kernel
theorem dX9_make_88 : decode cX9_make 88 = .ok (.iload_n 2, 1) := by decide +kernel
theorem dX9_make_89 : decode cX9_make 89 = .ok (.iload 4, 2) := by decide +kernel
theorem dX9_make_91 : decode cX9_make 91 = .ok (.iconst 1, 1) := by decide +kernel
theorem dX9_make_92 : decode cX9_make 92 = .ok (.iand, 1) := by decide +kernel
theorem dX9_make_93 : decode cX9_make 93 = .ok (.iconst 1, 1) := by decide +kernel
theorem dX9_make_94 : decode cX9_make 94 = .ok (.if_icmp .ne 7, 3) := by decide +kernel
theorem dX9_make_97 : decode cX9_make 97 = .ok (.iconst 1, 1) := by decide +kernel
theorem dX9_make_98 : decode cX9_make 98 = .ok (.goto 4, 3) := by decide +kernel
theorem dX9_make_101 : decode cX9_make 101 = .ok (.iconst 0, 1) := by decide +kernel
theorem dX9_make_102 : decode cX9_make 102 = .ok (.bastore, 1) := by decide +kernel
theorem dX9_make_103 : decode cX9_make 103 = .ok (.iconst 0, 1) := by decide +kernel
theorem dX9_make_104 : decode cX9_make 104 = .ok (.istore 5, 2) := by decide +kernel
theorem dX9_make_106 : decode cX9_make 106 = .ok (.iload 5, 2) := by decide +kernel
theorem dX9_make_108 : decode cX9_make 108 = .ok (.bipush 20, 2) := by decide +kernel
theorem dX9_make_110 : decode cX9_make 110 = .ok (.if_icmp .ge 22, 3) := by decide +kernel
theorem dX9_make_113 : decode cX9_make 113 = .ok (.aload_n 0, 1) := by decide +kernel
theorem dX9_make_114 : decode cX9_make 114 = .ok (.getfield 47, 3) := by decide +kernel
theorem dX9_make_117 : decode cX9_make 117 = .ok (.bipush 20, 2) := by decide +kernel
theorem dX9_make_119 : decode cX9_make 119 = .ok (.iload_n 2, 1) := by decide +kernel
theorem dX9_make_120 : decode cX9_make 120 = .ok (.imul, 1) := by decide +kernel
theorem dX9_make_121 : decode cX9_make 121 = .ok (.iload 5, 2) := by decide +kernel
theorem dX9_make_123 : decode cX9_make 123 = .ok (.iadd, 1) := by decide +kernel
theorem dX9_make_124 : decode cX9_make 124 = .ok (.iconst (-1), 1) := by decide +kernel
theorem dX9_make_125 : decode cX9_make 125 = .ok (.iastore, 1) := by decide +kernel
theorem dX9_make_126 : decode cX9_make 126 = .ok (.iinc 5 1, 3) := by decide +kernel
theorem dX9_make_129 : decode cX9_make 129 = .ok (.goto (-23), 3) := by decide +kernel
theorem dX9_make_132 : decode cX9_make 132 = .ok (.goto 49, 3) := by decide +kernel
theorem dX9_make_135 : decode cX9_make 135 = .ok (.aload_n 0, 1) := by decide +kernel
theorem dX9_make_136 : decode cX9_make 136 = .ok (.getfield 50, 3) := by decide +kernel
theorem dX9_make_139 : decode cX9_make 139 = .ok (.iload_n 2, 1) := by decide +kernel
theorem dX9_make_140 : decode cX9_make 140 = .ok (.iload_n 3, 1) := by decide +kernel
theorem dX9_make_141 : decode cX9_make 141 = .ok (.iastore, 1) := by decide +kernel
theorem dX9_make_142 : decode cX9_make 142 = .ok (.aload_n 0, 1) := by decide +kernel
theorem dX9_make_143 : decode cX9_make 143 = .ok (.getfield 53, 3) := by decide +kernel
theorem dX9_make_146 : decode cX9_make 146 = .ok (.iload_n 2, 1) := by decide +kernel
theorem dX9_make_147 : decode cX9_make 147 = .ok (.iload 4, 2) := by decide +kernel
theorem dX9_make_149 : decode cX9_make 149 = .ok (.iastore, 1) := by decide +kernel
theorem dX9_make_150 : decode cX9_make 150 = .ok (.iconst 0, 1) := by decide +kernel
theorem dX9_make_151 : decode cX9_make 151 = .ok (.istore 5, 2) := by decide +kernel
theorem dX9_make_153 : decode cX9_make 153 = .ok (.iload 5, 2) := by decide +kernel
theorem dX9_make_155 : decode cX9_make 155 = .ok (.sipush 400, 3) := by decide +kernel
theorem dX9_make_158 : decode cX9_make 158 = .ok (.if_icmp .ge 23, 3) := by decide +kernel
theorem dX9_make_161 : decode cX9_make 161 = .ok (.aload_n 0, 1) := by decide +kernel
theorem dX9_make_162 : decode cX9_make 162 = .ok (.getfield 56, 3) := by decide +kernel
theorem dX9_make_165 : decode cX9_make 165 = .ok (.sipush 400, 3) := by decide +kernel
theorem dX9_make_168 : decode cX9_make 168 = .ok (.iload_n 2, 1) := by decide +kernel
theorem dX9_make_169 : decode cX9_make 169 = .ok (.imul, 1) := by decide +kernel
theorem dX9_make_170 : decode cX9_make 170 = .ok (.iload 5, 2) := by decide +kernel
theorem dX9_make_172 : decode cX9_make 172 = .ok (.iadd, 1) := by decide +kernel
theorem dX9_make_173 : decode cX9_make 173 = .ok (.iconst 0, 1) := by decide +kernel
theorem dX9_make_174 : decode cX9_make 174 = .ok (.iastore, 1) := by decide +kernel
theorem dX9_make_175 : decode cX9_make 175 = .ok (.iinc 5 1, 3) := by decide +kernel
theorem dX9_make_178 : decode cX9_make 178 = .ok (.goto (-25), 3) := by decide +kernel
theorem dX9_make_181 : decode cX9_make 181 = .ok (.return_, 1) := by decide +kernel
theorem dX9_measure_0 : decode cX9_measure 0 = .ok (.iload_n 2, 1) := by decide +kernel
theorem dX9_measure_1 : decode cX9_measure 1 = .ok (.ifCond .ne 12, 3) := by decide +kernel
theorem dX9_measure_4 : decode cX9_measure 4 = .ok (.aload_n 0, 1) := by decide +kernel
theorem dX9_measure_5 : decode cX9_measure 5 = .ok (.getfield 35, 3) := by decide +kernel
theorem dX9_measure_8 : decode cX9_measure 8 = .ok (.iload_n 1, 1) := by decide +kernel
theorem dX9_measure_9 : decode cX9_measure 9 = .ok (.iaload, 1) := by decide +kernel
theorem dX9_measure_10 : decode cX9_measure 10 = .ok (.goto 23, 3) := by decide +kernel
theorem dX9_measure_13 : decode cX9_measure 13 = .ok (.iload_n 2, 1) := by decide +kernel
theorem dX9_measure_14 : decode cX9_measure 14 = .ok (.iconst 1, 1) := by decide +kernel
theorem dX9_measure_15 : decode cX9_measure 15 = .ok (.if_icmp .ne 12, 3) := by decide +kernel
theorem dX9_measure_18 : decode cX9_measure 18 = .ok (.aload_n 0, 1) := by decide +kernel
theorem dX9_measure_19 : decode cX9_measure 19 = .ok (.getfield 41, 3) := by decide +kernel
theorem dX9_measure_22 : decode cX9_measure 22 = .ok (.iload_n 1, 1) := by decide +kernel
theorem dX9_measure_23 : decode cX9_measure 23 = .ok (.iaload, 1) := by decide +kernel
theorem dX9_measure_24 : decode cX9_measure 24 = .ok (.goto 9, 3) := by decide +kernel
theorem dX9_measure_27 : decode cX9_measure 27 = .ok (.aload_n 0, 1) := by decide +kernel
theorem dX9_measure_28 : decode cX9_measure 28 = .ok (.getfield 50, 3) := by decide +kernel
theorem dX9_measure_31 : decode cX9_measure 31 = .ok (.iload_n 1, 1) := by decide +kernel
theorem dX9_measure_32 : decode cX9_measure 32 = .ok (.iaload, 1) := by decide +kernel
theorem dX9_measure_33 : decode cX9_measure 33 = .ok (.istore 4, 2) := by decide +kernel
theorem dX9_measure_35 : decode cX9_measure 35 = .ok (.iload 4, 2) := by decide +kernel
theorem dX9_measure_37 : decode cX9_measure 37 = .ok (.iconst (-1), 1) := by decide +kernel
theorem dX9_measure_38 : decode cX9_measure 38 = .ok (.if_icmp .ne 11, 3) := by decide +kernel
theorem dX9_measure_41 : decode cX9_measure 41 = .ok (.aload_n 0, 1) := by decide +kernel
theorem dX9_measure_42 : decode cX9_measure 42 = .ok (.iconst 1, 1) := by decide +kernel
theorem dX9_measure_43 : decode cX9_measure 43 = .ok (.invokevirtual 97, 3) := by decide +kernel
theorem dX9_measure_46 : decode cX9_measure 46 = .ok (.goto 64, 3) := by decide +kernel
theorem dX9_measure_49 : decode cX9_measure 49 = .ok (.iload_n 2, 1) := by decide +kernel
theorem dX9_measure_50 : decode cX9_measure 50 = .ok (.i2l, 1) := by decide +kernel
theorem dX9_measure_51 : decode cX9_measure 51 = .ok (.lconst 0, 1) := by decide +kernel
theorem dX9_measure_52 : decode cX9_measure 52 = .ok (.ldc2_w 104, 3) := by decide +kernel
theorem dX9_measure_55 : decode cX9_measure 55 = .ok (.invokestatic 77, 3) := by decide +kernel
theorem dX9_measure_58 : decode cX9_measure 58 = .ok (.ifCond .ne 25, 3) := by decide +kernel
theorem dX9_measure_61 : decode cX9_measure 61 = .ok (.iload_n 3, 1) := by decide +kernel
theorem dX9_measure_62 : decode cX9_measure 62 = .ok (.i2l, 1) := by decide +kernel
theorem dX9_measure_63 : decode cX9_measure 63 = .ok (.lconst 0, 1) := by decide +kernel
theorem dX9_measure_64 : decode cX9_measure 64 = .ok (.iload 4, 2) := by decide +kernel
theorem dX9_measure_66 : decode cX9_measure 66 = .ok (.iconst 1, 1) := by decide +kernel
theorem dX9_measure_67 : decode cX9_measure 67 = .ok (.isub, 1) := by decide +kernel
theorem dX9_measure_68 : decode cX9_measure 68 = .ok (.i2l, 1) := by decide +kernel
theorem dX9_measure_69 : decode cX9_measure 69 = .ok (.invokestatic 77, 3) := by decide +kernel
theorem dX9_measure_72 : decode cX9_measure 72 = .ok (.ifCond .ne 11, 3) := by decide +kernel
theorem dX9_measure_75 : decode cX9_measure 75 = .ok (.aload_n 0, 1) := by decide +kernel
theorem dX9_measure_76 : decode cX9_measure 76 = .ok (.iconst 3, 1) := by decide +kernel
theorem dX9_measure_77 : decode cX9_measure 77 = .ok (.invokevirtual 97, 3) := by decide +kernel
theorem dX9_measure_80 : decode cX9_measure 80 = .ok (.goto 30, 3) := by decide +kernel
theorem dX9_measure_83 : decode cX9_measure 83 = .ok (.aload_n 0, 1) := by decide +kernel
theorem dX9_measure_84 : decode cX9_measure 84 = .ok (.iload_n 2, 1) := by decide +kernel
theorem dX9_measure_85 : decode cX9_measure 85 = .ok (.i2l, 1) := by decide +kernel
theorem dX9_measure_86 : decode cX9_measure 86 = .ok (.lconst 0, 1) := by decide +kernel
theorem dX9_measure_87 : decode cX9_measure 87 = .ok (.ldc2_w 104, 3) := by decide +kernel
theorem dX9_measure_90 : decode cX9_measure 90 = .ok (.invokestatic 77, 3) := by decide +kernel
theorem dX9_measure_93 : decode cX9_measure 93 = .ok (.ifCond .eq 8, 3) := by decide +kernel
theorem dX9_measure_96 : decode cX9_measure 96 = .ok (.iload 4, 2) := by decide +kernel
theorem dX9_measure_98 : decode cX9_measure 98 = .ok (.goto 9, 3) := by decide +kernel
end
section
theorem dX9_measure_101 : decode cX9_measure 101 = .ok (.aload_n 0, 1) := by decide +kernel
theorem dX9_measure_102 : decode cX9_measure 102 = .ok (.getfield 53, 3) := by decide +kernel
theorem dX9_measure_105 : decode cX9_measure 105 = .ok (.iload_n 1, 1) := by decide +kernel
theorem dX9_measure_106 : decode cX9_measure 106 = .ok (.iaload, 1) := by decide +kernel
theorem dX9_measure_107 : decode cX9_measure 107 = .ok (.putfield 90, 3) := by decide +kernel
theorem dX9_measure_110 : decode cX9_measure 110 = .ok (.return_, 1) := by decide +kernel
theorem dX9_has_0 : decode cX9_has 0 = .ok (.iload_n 1, 1) := by decide +kernel
theorem dX9_has_1 : decode cX9_has 1 = .ok (.iconst (-1), 1) := by decide +kernel
theorem dX9_has_2 : decode cX9_has 2 = .ok (.if_icmp .ne 11, 3) := by decide +kernel
theorem dX9_has_5 : decode cX9_has 5 = .ok (.aload_n 0, 1) := by decide +kernel
theorem dX9_has_6 : decode cX9_has 6 = .ok (.iconst 1, 1) := by decide +kernel
theorem dX9_has_7 : decode cX9_has 7 = .ok (.invokevirtual 97, 3) := by decide +kernel
theorem dX9_has_10 : decode cX9_has 10 = .ok (.goto 21, 3) := by decide +kernel
theorem dX9_has_13 : decode cX9_has 13 = .ok (.iload_n 2, 1) := by decide +kernel
theorem dX9_has_14 : decode cX9_has 14 = .ok (.i2l, 1) := by decide +kernel
theorem dX9_has_15 : decode cX9_has 15 = .ok (.lconst 0, 1) := by decide +kernel
theorem dX9_has_16 : decode cX9_has 16 = .ok (.iload_n 1, 1) := by decide +kernel
theorem dX9_has_17 : decode cX9_has 17 = .ok (.iconst 1, 1) := by decide +kernel
theorem dX9_has_18 : decode cX9_has 18 = .ok (.isub, 1) := by decide +kernel
theorem dX9_has_19 : decode cX9_has 19 = .ok (.i2l, 1) := by decide +kernel
theorem dX9_has_20 : decode cX9_has 20 = .ok (.invokestatic 77, 3) := by decide +kernel
theorem dX9_has_23 : decode cX9_has 23 = .ok (.ifCond .ne 8, 3) := by decide +kernel
theorem dX9_has_26 : decode cX9_has 26 = .ok (.aload_n 0, 1) := by decide +kernel
theorem dX9_has_27 : decode cX9_has 27 = .ok (.iconst 3, 1) := by decide +kernel
theorem dX9_has_28 : decode cX9_has 28 = .ok (.invokevirtual 97, 3) := by decide +kernel
theorem dX9_has_31 : decode cX9_has 31 = .ok (.aload_n 0, 1) := by decide +kernel
theorem dX9_has_32 : decode cX9_has 32 = .ok (.getfield 87, 3) := by decide +kernel
theorem dX9_has_35 : decode cX9_has 35 = .ok (.ifCond .ne 7, 3) := by decide +kernel
theorem dX9_has_38 : decode cX9_has 38 = .ok (.iconst 1, 1) := by decide +kernel
theorem dX9_has_39 : decode cX9_has 39 = .ok (.goto 4, 3) := by decide +kernel
theorem dX9_has_42 : decode cX9_has 42 = .ok (.iconst 0, 1) := by decide +kernel
theorem dX9_has_43 : decode cX9_has 43 = .ok (.ireturn, 1) := by decide +kernel
theorem dX9_hang_0 : decode cX9_hang 0 = .ok (.aload_n 0, 1) := by decide +kernel
theorem dX9_hang_1 : decode cX9_hang 1 = .ok (.getfield 41, 3) := by decide +kernel
theorem dX9_hang_4 : decode cX9_hang 4 = .ok (.iload_n 1, 1) := by decide +kernel
theorem dX9_hang_5 : decode cX9_hang 5 = .ok (.iaload, 1) := by decide +kernel
theorem dX9_hang_6 : decode cX9_hang 6 = .ok (.iconst (-1), 1) := by decide +kernel
theorem dX9_hang_7 : decode cX9_hang 7 = .ok (.if_icmp .eq 12, 3) := by decide +kernel
theorem dX9_hang_10 : decode cX9_hang 10 = .ok (.aload_n 0, 1) := by decide +kernel
theorem dX9_hang_11 : decode cX9_hang 11 = .ok (.getfield 7, 3) := by decide +kernel
theorem dX9_hang_14 : decode cX9_hang 14 = .ok (.iload_n 3, 1) := by decide +kernel
theorem dX9_hang_15 : decode cX9_hang 15 = .ok (.baload, 1) := by decide +kernel
theorem dX9_hang_16 : decode cX9_hang 16 = .ok (.ifCond .ne 9, 3) := by decide +kernel
theorem dX9_hang_19 : decode cX9_hang 19 = .ok (.aload_n 0, 1) := by decide +kernel
theorem dX9_hang_20 : decode cX9_hang 20 = .ok (.iconst 1, 1) := by decide +kernel
theorem dX9_hang_21 : decode cX9_hang 21 = .ok (.invokevirtual 97, 3) := by decide +kernel
theorem dX9_hang_24 : decode cX9_hang 24 = .ok (.return_, 1) := by decide +kernel
theorem dX9_hang_25 : decode cX9_hang 25 = .ok (.aload_n 0, 1) := by decide +kernel
theorem dX9_hang_26 : decode cX9_hang 26 = .ok (.aload_n 0, 1) := by decide +kernel
theorem dX9_hang_27 : decode cX9_hang 27 = .ok (.getfield 41, 3) := by decide +kernel
theorem dX9_hang_30 : decode cX9_hang 30 = .ok (.iload_n 1, 1) := by decide +kernel
theorem dX9_hang_31 : decode cX9_hang 31 = .ok (.iaload, 1) := by decide +kernel
theorem dX9_hang_32 : decode cX9_hang 32 = .ok (.iload_n 2, 1) := by decide +kernel
theorem dX9_hang_33 : decode cX9_hang 33 = .ok (.invokevirtual 106, 3) := by decide +kernel
theorem dX9_hang_36 : decode cX9_hang 36 = .ok (.ifCond .ne 4, 3) := by decide +kernel
theorem dX9_hang_39 : decode cX9_hang 39 = .ok (.return_, 1) := by decide +kernel
theorem dX9_hang_40 : decode cX9_hang 40 = .ok (.aload_n 0, 1) := by decide +kernel
theorem dX9_hang_41 : decode cX9_hang 41 = .ok (.getfield 17, 3) := by decide +kernel
theorem dX9_hang_44 : decode cX9_hang 44 = .ok (.iconst 2, 1) := by decide +kernel
theorem dX9_hang_45 : decode cX9_hang 45 = .ok (.iload_n 3, 1) := by decide +kernel
theorem dX9_hang_46 : decode cX9_hang 46 = .ok (.imul, 1) := by decide +kernel
theorem dX9_hang_47 : decode cX9_hang 47 = .ok (.iaload, 1) := by decide +kernel
theorem dX9_hang_48 : decode cX9_hang 48 = .ok (.istore 4, 2) := by decide +kernel
theorem dX9_hang_50 : decode cX9_hang 50 = .ok (.aload_n 0, 1) := by decide +kernel
theorem dX9_hang_51 : decode cX9_hang 51 = .ok (.getfield 44, 3) := by decide +kernel
theorem dX9_hang_54 : decode cX9_hang 54 = .ok (.iload_n 1, 1) := by decide +kernel
theorem dX9_hang_55 : decode cX9_hang 55 = .ok (.baload, 1) := by decide +kernel
theorem dX9_hang_56 : decode cX9_hang 56 = .ok (.ifCond .eq 25, 3) := by decide +kernel
theorem dX9_hang_59 : decode cX9_hang 59 = .ok (.iload 4, 2) := by decide +kernel
theorem dX9_hang_61 : decode cX9_hang 61 = .ok (.iconst (-1), 1) := by decide +kernel
theorem dX9_hang_62 : decode cX9_hang 62 = .ok (.if_icmp .eq 19, 3) := by decide +kernel
theorem dX9_hang_65 : decode cX9_hang 65 = .ok (.aload_n 0, 1) := by decide +kernel
theorem dX9_hang_66 : decode cX9_hang 66 = .ok (.getfield 32, 3) := by decide +kernel
theorem dX9_hang_69 : decode cX9_hang 69 = .ok (.iload 4, 2) := by decide +kernel
theorem dX9_hang_71 : decode cX9_hang 71 = .ok (.baload, 1) := by decide +kernel
theorem dX9_hang_72 : decode cX9_hang 72 = .ok (.ifCond .ne 9, 3) := by decide +kernel
theorem dX9_hang_75 : decode cX9_hang 75 = .ok (.aload_n 0, 1) := by decide +kernel
theorem dX9_hang_76 : decode cX9_hang 76 = .ok (.iconst 4, 1) := by decide +kernel
theorem dX9_hang_77 : decode cX9_hang 77 = .ok (.invokevirtual 97, 3) := by decide +kernel
theorem dX9_hang_80 : decode cX9_hang 80 = .ok (.return_, 1) := by decide +kernel
theorem dX9_hang_81 : decode cX9_hang 81 = .ok (.aload_n 0, 1) := by decide +kernel
theorem dX9_hang_82 : decode cX9_hang 82 = .ok (.getfield 47, 3) := by decide +kernel
theorem dX9_hang_85 : decode cX9_hang 85 = .ok (.bipush 20, 2) := by decide +kernel
theorem dX9_hang_87 : decode cX9_hang 87 = .ok (.iload_n 1, 1) := by decide +kernel
theorem dX9_hang_88 : decode cX9_hang 88 = .ok (.imul, 1) := by decide +kernel
theorem dX9_hang_89 : decode cX9_hang 89 = .ok (.iload_n 2, 1) := by decide +kernel
theorem dX9_hang_90 : decode cX9_hang 90 = .ok (.iadd, 1) := by decide +kernel
theorem dX9_hang_91 : decode cX9_hang 91 = .ok (.iload 4, 2) := by decide +kernel
theorem dX9_hang_93 : decode cX9_hang 93 = .ok (.iastore, 1) := by decide +kernel
theorem dX9_hang_94 : decode cX9_hang 94 = .ok (.aload_n 0, 1) := by decide +kernel
theorem dX9_hang_95 : decode cX9_hang 95 = .ok (.iconst 1, 1) := by decide +kernel
theorem dX9_hang_96 : decode cX9_hang 96 = .ok (.putfield 90, 3) := by decide +kernel
theorem dX9_hang_99 : decode cX9_hang 99 = .ok (.return_, 1) := by decide +kernel
theorem dX9_balance_0 : decode cX9_balance 0 = .ok (.aload_n 0, 1) := by decide +kernel
theorem dX9_balance_1 : decode cX9_balance 1 = .ok (.aload_n 0, 1) := by decide +kernel
theorem dX9_balance_2 : decode cX9_balance 2 = .ok (.getfield 41, 3) := by decide +kernel
theorem dX9_balance_5 : decode cX9_balance 5 = .ok (.iload_n 1, 1) := by decide +kernel
theorem dX9_balance_6 : decode cX9_balance 6 = .ok (.iaload, 1) := by decide +kernel
theorem dX9_balance_7 : decode cX9_balance 7 = .ok (.iload_n 2, 1) := by decide +kernel
theorem dX9_balance_8 : decode cX9_balance 8 = .ok (.invokevirtual 106, 3) := by decide +kernel
theorem dX9_balance_11 : decode cX9_balance 11 = .ok (.ifCond .ne 4, 3) := by decide +kernel
theorem dX9_balance_14 : decode cX9_balance 14 = .ok (.return_, 1) := by decide +kernel
theorem dX9_balance_15 : decode cX9_balance 15 = .ok (.aload_n 0, 1) := by decide +kernel
theorem dX9_balance_16 : decode cX9_balance 16 = .ok (.getfield 47, 3) := by decide +kernel
theorem dX9_balance_19 : decode cX9_balance 19 = .ok (.bipush 20, 2) := by decide +kernel
theorem dX9_balance_21 : decode cX9_balance 21 = .ok (.iload_n 1, 1) := by decide +kernel
theorem dX9_balance_22 : decode cX9_balance 22 = .ok (.imul, 1) := by decide +kernel
theorem dX9_balance_23 : decode cX9_balance 23 = .ok (.iload_n 2, 1) := by decide +kernel
theorem dX9_balance_24 : decode cX9_balance 24 = .ok (.iadd, 1) := by decide +kernel
theorem dX9_balance_25 : decode cX9_balance 25 = .ok (.iaload, 1) := by decide +kernel
theorem dX9_balance_26 : decode cX9_balance 26 = .ok (.istore_n 3, 1) := by decide +kernel
theorem dX9_balance_27 : decode cX9_balance 27 = .ok (.iload_n 3, 1) := by decide +kernel
theorem dX9_balance_28 : decode cX9_balance 28 = .ok (.iconst (-1), 1) := by decide +kernel
theorem dX9_balance_29 : decode cX9_balance 29 = .ok (.if_icmp .eq 12, 3) := by decide +kernel
theorem dX9_balance_32 : decode cX9_balance 32 = .ok (.aload_n 0, 1) := by decide +kernel
theorem dX9_balance_33 : decode cX9_balance 33 = .ok (.getfield 32, 3) := by decide +kernel
theorem dX9_balance_36 : decode cX9_balance 36 = .ok (.iload_n 3, 1) := by decide +kernel
theorem dX9_balance_37 : decode cX9_balance 37 = .ok (.baload, 1) := by decide +kernel
theorem dX9_balance_38 : decode cX9_balance 38 = .ok (.ifCond .ne 18, 3) := by decide +kernel
theorem dX9_balance_41 : decode cX9_balance 41 = .ok (.aload_n 0, 1) := by decide +kernel
theorem dX9_balance_42 : decode cX9_balance 42 = .ok (.iload_n 3, 1) := by decide +kernel
theorem dX9_balance_43 : decode cX9_balance 43 = .ok (.iconst (-1), 1) := by decide +kernel
theorem dX9_balance_44 : decode cX9_balance 44 = .ok (.if_icmp .ne 7, 3) := by decide +kernel
theorem dX9_balance_47 : decode cX9_balance 47 = .ok (.iconst 1, 1) := by decide +kernel
theorem dX9_balance_48 : decode cX9_balance 48 = .ok (.goto 4, 3) := by decide +kernel
theorem dX9_balance_51 : decode cX9_balance 51 = .ok (.iconst 5, 1) := by decide +kernel
theorem dX9_balance_52 : decode cX9_balance 52 = .ok (.invokevirtual 97, 3) := by decide +kernel
theorem dX9_balance_55 : decode cX9_balance 55 = .ok (.return_, 1) := by decide +kernel
theorem dX9_balance_56 : decode cX9_balance 56 = .ok (.aload_n 0, 1) := by decide +kernel
theorem dX9_balance_57 : decode cX9_balance 57 = .ok (.getfield 29, 3) := by decide +kernel
theorem dX9_balance_60 : decode cX9_balance 60 = .ok (.iload_n 3, 1) := by decide +kernel
theorem dX9_balance_61 : decode cX9_balance 61 = .ok (.iconst 0, 1) := by decide +kernel
theorem dX9_balance_62 : decode cX9_balance 62 = .ok (.iastore, 1) := by decide +kernel
theorem dX9_balance_63 : decode cX9_balance 63 = .ok (.aload_n 0, 1) := by decide +kernel
theorem dX9_balance_64 : decode cX9_balance 64 = .ok (.sipush 1000, 3) := by decide +kernel
theorem dX9_balance_67 : decode cX9_balance 67 = .ok (.aload_n 0, 1) := by decide +kernel
theorem dX9_balance_68 : decode cX9_balance 68 = .ok (.getfield 26, 3) := by decide +kernel
theorem dX9_balance_71 : decode cX9_balance 71 = .ok (.iload_n 3, 1) := by decide +kernel
theorem dX9_balance_72 : decode cX9_balance 72 = .ok (.iaload, 1) := by decide +kernel
theorem dX9_balance_73 : decode cX9_balance 73 = .ok (.iadd, 1) := by decide +kernel
theorem dX9_balance_74 : decode cX9_balance 74 = .ok (.putfield 90, 3) := by decide +kernel
theorem dX9_balance_77 : decode cX9_balance 77 = .ok (.return_, 1) := by decide +kernel
theorem dX9_does_0 : decode cX9_does 0 = .ok (.aload_n 0, 1) := by decide +kernel
theorem dX9_does_1 : decode cX9_does 1 = .ok (.iconst 0, 1) := by decide +kernel
theorem dX9_does_2 : decode cX9_does 2 = .ok (.putfield 87, 3) := by decide +kernel
theorem dX9_does_5 : decode cX9_does 5 = .ok (.aload_n 0, 1) := by decide +kernel
theorem dX9_does_6 : decode cX9_does 6 = .ok (.iconst 0, 1) := by decide +kernel
theorem dX9_does_7 : decode cX9_does 7 = .ok (.putfield 90, 3) := by decide +kernel
theorem dX9_does_10 : decode cX9_does 10 = .ok (.iload_n 1, 1) := by decide +kernel
theorem dX9_does_11 : decode cX9_does 11 = .ok (.tableswitch 354 0 15 #[77, 86, 108, 119, 119, 138, 149, 158, 158, 158, 170, 181, 226, 302, 313, 322], 77) := by decide +kernel
theorem dX9_does_88 : decode cX9_does 88 = .ok (.aload_n 0, 1) := by decide +kernel
theorem dX9_does_89 : decode cX9_does 89 = .ok (.iload_n 2, 1) := by decide +kernel
theorem dX9_does_90 : decode cX9_does 90 = .ok (.iload_n 3, 1) := by decide +kernel
theorem dX9_does_91 : decode cX9_does 91 = .ok (.invokevirtual 110, 3) := by decide +kernel
theorem dX9_does_94 : decode cX9_does 94 = .ok (.goto 300, 3) := by decide +kernel
theorem dX9_does_97 : decode cX9_does 97 = .ok (.aload_n 0, 1) := by decide +kernel
theorem dX9_does_98 : decode cX9_does 98 = .ok (.getfield 7, 3) := by decide +kernel
theorem dX9_does_101 : decode cX9_does 101 = .ok (.iload_n 2, 1) := by decide +kernel
theorem dX9_does_102 : decode cX9_does 102 = .ok (.iconst 0, 1) := by decide +kernel
theorem dX9_does_103 : decode cX9_does 103 = .ok (.bastore, 1) := by decide +kernel
theorem dX9_does_104 : decode cX9_does 104 = .ok (.aload_n 0, 1) := by decide +kernel
theorem dX9_does_105 : decode cX9_does 105 = .ok (.getfield 13, 3) := by decide +kernel
theorem dX9_does_108 : decode cX9_does 108 = .ok (.iload_n 2, 1) := by decide +kernel
theorem dX9_does_109 : decode cX9_does 109 = .ok (.iconst 0, 1) := by decide +kernel
theorem dX9_does_110 : decode cX9_does 110 = .ok (.iastore, 1) := by decide +kernel
theorem dX9_does_111 : decode cX9_does 111 = .ok (.aload_n 0, 1) := by decide +kernel
theorem dX9_does_112 : decode cX9_does 112 = .ok (.iload_n 2, 1) := by decide +kernel
theorem dX9_does_113 : decode cX9_does 113 = .ok (.invokevirtual 93, 3) := by decide +kernel
theorem dX9_does_116 : decode cX9_does 116 = .ok (.goto 278, 3) := by decide +kernel
theorem dX9_does_119 : decode cX9_does 119 = .ok (.aload_n 0, 1) := by decide +kernel
theorem dX9_does_120 : decode cX9_does 120 = .ok (.iload_n 2, 1) := by decide +kernel
theorem dX9_does_121 : decode cX9_does 121 = .ok (.iload_n 3, 1) := by decide +kernel
theorem dX9_does_122 : decode cX9_does 122 = .ok (.iload 4, 2) := by decide +kernel
theorem dX9_does_124 : decode cX9_does 124 = .ok (.invokevirtual 114, 3) := by decide +kernel
theorem dX9_does_127 : decode cX9_does 127 = .ok (.goto 267, 3) := by decide +kernel
theorem dX9_does_130 : decode cX9_does 130 = .ok (.aload_n 0, 1) := by decide +kernel
theorem dX9_does_131 : decode cX9_does 131 = .ok (.iload_n 2, 1) := by decide +kernel
theorem dX9_does_132 : decode cX9_does 132 = .ok (.iload_n 3, 1) := by decide +kernel
theorem dX9_does_133 : decode cX9_does 133 = .ok (.iload_n 1, 1) := by decide +kernel
theorem dX9_does_134 : decode cX9_does 134 = .ok (.iconst 4, 1) := by decide +kernel
theorem dX9_does_135 : decode cX9_does 135 = .ok (.if_icmp .ne 7, 3) := by decide +kernel
theorem dX9_does_138 : decode cX9_does 138 = .ok (.iconst 1, 1) := by decide +kernel
theorem dX9_does_139 : decode cX9_does 139 = .ok (.goto 4, 3) := by decide +kernel
theorem dX9_does_142 : decode cX9_does 142 = .ok (.iconst 0, 1) := by decide +kernel
theorem dX9_does_143 : decode cX9_does 143 = .ok (.invokevirtual 118, 3) := by decide +kernel
theorem dX9_does_146 : decode cX9_does 146 = .ok (.goto 248, 3) := by decide +kernel
theorem dX9_does_149 : decode cX9_does 149 = .ok (.aload_n 0, 1) := by decide +kernel
theorem dX9_does_150 : decode cX9_does 150 = .ok (.iload_n 2, 1) := by decide +kernel
theorem dX9_does_151 : decode cX9_does 151 = .ok (.iload_n 3, 1) := by decide +kernel
theorem dX9_does_152 : decode cX9_does 152 = .ok (.iload 4, 2) := by decide +kernel
theorem dX9_does_154 : decode cX9_does 154 = .ok (.invokevirtual 122, 3) := by decide +kernel
theorem dX9_does_157 : decode cX9_does 157 = .ok (.goto 237, 3) := by decide +kernel
theorem dX9_does_160 : decode cX9_does 160 = .ok (.aload_n 0, 1) := by decide +kernel
theorem dX9_does_161 : decode cX9_does 161 = .ok (.iload_n 2, 1) := by decide +kernel
theorem dX9_does_162 : decode cX9_does 162 = .ok (.iload_n 3, 1) := by decide +kernel
theorem dX9_does_163 : decode cX9_does 163 = .ok (.invokevirtual 125, 3) := by decide +kernel
theorem dX9_does_166 : decode cX9_does 166 = .ok (.goto 228, 3) := by decide +kernel
theorem dX9_does_169 : decode cX9_does 169 = .ok (.aload_n 0, 1) := by decide +kernel
theorem dX9_does_170 : decode cX9_does 170 = .ok (.iload_n 1, 1) := by decide +kernel
theorem dX9_does_171 : decode cX9_does 171 = .ok (.iload_n 2, 1) := by decide +kernel
theorem dX9_does_172 : decode cX9_does 172 = .ok (.iload_n 3, 1) := by decide +kernel
theorem dX9_does_173 : decode cX9_does 173 = .ok (.iload 4, 2) := by decide +kernel
theorem dX9_does_175 : decode cX9_does 175 = .ok (.invokevirtual 128, 3) := by decide +kernel
theorem dX9_does_178 : decode cX9_does 178 = .ok (.goto 216, 3) := by decide +kernel
theorem dX9_does_181 : decode cX9_does 181 = .ok (.aload_n 0, 1) := by decide +kernel
theorem dX9_does_182 : decode cX9_does 182 = .ok (.iload_n 2, 1) := by decide +kernel
theorem dX9_does_183 : decode cX9_does 183 = .ok (.iload_n 3, 1) := by decide +kernel
theorem dX9_does_184 : decode cX9_does 184 = .ok (.iload 4, 2) := by decide +kernel
theorem dX9_does_186 : decode cX9_does 186 = .ok (.invokevirtual 132, 3) := by decide +kernel
theorem dX9_does_189 : decode cX9_does 189 = .ok (.goto 205, 3) := by decide +kernel
theorem dX9_does_192 : decode cX9_does 192 = .ok (.aload_n 0, 1) := by decide +kernel
theorem dX9_does_193 : decode cX9_does 193 = .ok (.aload_n 0, 1) := by decide +kernel
theorem dX9_does_194 : decode cX9_does 194 = .ok (.getfield 35, 3) := by decide +kernel
theorem dX9_does_197 : decode cX9_does 197 = .ok (.iload_n 2, 1) := by decide +kernel
theorem dX9_does_198 : decode cX9_does 198 = .ok (.iaload, 1) := by decide +kernel
theorem dX9_does_199 : decode cX9_does 199 = .ok (.iload_n 3, 1) := by decide +kernel
theorem dX9_does_200 : decode cX9_does 200 = .ok (.invokevirtual 106, 3) := by decide +kernel
theorem dX9_does_203 : decode cX9_does 203 = .ok (.ifCond .eq 191, 3) := by decide +kernel
theorem dX9_does_206 : decode cX9_does 206 = .ok (.aload_n 0, 1) := by decide +kernel
theorem dX9_does_207 : decode cX9_does 207 = .ok (.aload_n 0, 1) := by decide +kernel
theorem dX9_does_208 : decode cX9_does 208 = .ok (.getfield 38, 3) := by decide +kernel
theorem dX9_does_211 : decode cX9_does 211 = .ok (.bipush 20, 2) := by decide +kernel
theorem dX9_does_213 : decode cX9_does 213 = .ok (.iload_n 2, 1) := by decide +kernel
theorem dX9_does_214 : decode cX9_does 214 = .ok (.imul, 1) := by decide +kernel
theorem dX9_does_215 : decode cX9_does 215 = .ok (.iload_n 3, 1) := by decide +kernel
theorem dX9_does_216 : decode cX9_does 216 = .ok (.iadd, 1) := by decide +kernel
theorem dX9_does_217 : decode cX9_does 217 = .ok (.iaload, 1) := by decide +kernel
theorem dX9_does_218 : decode cX9_does 218 = .ok (.putfield 90, 3) := by decide +kernel
theorem dX9_does_221 : decode cX9_does 221 = .ok (.aload_n 0, 1) := by decide +kernel
theorem dX9_does_222 : decode cX9_does 222 = .ok (.getfield 38, 3) := by decide +kernel
theorem dX9_does_225 : decode cX9_does 225 = .ok (.bipush 20, 2) := by decide +kernel
theorem dX9_does_227 : decode cX9_does 227 = .ok (.iload_n 2, 1) := by decide +kernel
theorem dX9_does_228 : decode cX9_does 228 = .ok (.imul, 1) := by decide +kernel
theorem dX9_does_229 : decode cX9_does 229 = .ok (.iload_n 3, 1) := by decide +kernel
theorem dX9_does_230 : decode cX9_does 230 = .ok (.iadd, 1) := by decide +kernel
theorem dX9_does_231 : decode cX9_does 231 = .ok (.iload 4, 2) := by decide +kernel
theorem dX9_does_233 : decode cX9_does 233 = .ok (.iastore, 1) := by decide +kernel
theorem dX9_does_234 : decode cX9_does 234 = .ok (.goto 160, 3) := by decide +kernel
theorem dX9_does_237 : decode cX9_does 237 = .ok (.aload_n 0, 1) := by decide +kernel
theorem dX9_does_238 : decode cX9_does 238 = .ok (.aload_n 0, 1) := by decide +kernel
theorem dX9_does_239 : decode cX9_does 239 = .ok (.getfield 50, 3) := by decide +kernel
theorem dX9_does_242 : decode cX9_does 242 = .ok (.iload_n 2, 1) := by decide +kernel
theorem dX9_does_243 : decode cX9_does 243 = .ok (.iaload, 1) := by decide +kernel
theorem dX9_does_244 : decode cX9_does 244 = .ok (.iload_n 3, 1) := by decide +kernel
theorem dX9_does_245 : decode cX9_does 245 = .ok (.invokevirtual 106, 3) := by decide +kernel
theorem dX9_does_248 : decode cX9_does 248 = .ok (.ifCond .eq 146, 3) := by decide +kernel
theorem dX9_does_251 : decode cX9_does 251 = .ok (.aload_n 0, 1) := by decide +kernel
theorem dX9_does_252 : decode cX9_does 252 = .ok (.aload_n 0, 1) := by decide +kernel
theorem dX9_does_253 : decode cX9_does 253 = .ok (.getfield 53, 3) := by decide +kernel
theorem dX9_does_256 : decode cX9_does 256 = .ok (.iload_n 2, 1) := by decide +kernel
theorem dX9_does_257 : decode cX9_does 257 = .ok (.iaload, 1) := by decide +kernel
theorem dX9_does_258 : decode cX9_does 258 = .ok (.iload 4, 2) := by decide +kernel
theorem dX9_does_260 : decode cX9_does 260 = .ok (.invokevirtual 106, 3) := by decide +kernel
theorem dX9_does_263 : decode cX9_does 263 = .ok (.ifCond .eq 131, 3) := by decide +kernel
theorem dX9_does_266 : decode cX9_does 266 = .ok (.aload_n 0, 1) := by decide +kernel
theorem dX9_does_267 : decode cX9_does 267 = .ok (.getfield 56, 3) := by decide +kernel
theorem dX9_does_270 : decode cX9_does 270 = .ok (.sipush 400, 3) := by decide +kernel
theorem dX9_does_273 : decode cX9_does 273 = .ok (.iload_n 2, 1) := by decide +kernel
theorem dX9_does_274 : decode cX9_does 274 = .ok (.imul, 1) := by decide +kernel
theorem dX9_does_275 : decode cX9_does 275 = .ok (.bipush 20, 2) := by decide +kernel
theorem dX9_does_277 : decode cX9_does 277 = .ok (.iload_n 3, 1) := by decide +kernel
theorem dX9_does_278 : decode cX9_does 278 = .ok (.imul, 1) := by decide +kernel
theorem dX9_does_279 : decode cX9_does 279 = .ok (.iadd, 1) := by decide +kernel
theorem dX9_does_280 : decode cX9_does 280 = .ok (.iload 4, 2) := by decide +kernel
theorem dX9_does_282 : decode cX9_does 282 = .ok (.iadd, 1) := by decide +kernel
theorem dX9_does_283 : decode cX9_does 283 = .ok (.dup2, 1) := by decide +kernel
theorem dX9_does_284 : decode cX9_does 284 = .ok (.iaload, 1) := by decide +kernel
theorem dX9_does_285 : decode cX9_does 285 = .ok (.iconst 1, 1) := by decide +kernel
theorem dX9_does_286 : decode cX9_does 286 = .ok (.iadd, 1) := by decide +kernel
theorem dX9_does_287 : decode cX9_does 287 = .ok (.iastore, 1) := by decide +kernel
theorem dX9_does_288 : decode cX9_does 288 = .ok (.aload_n 0, 1) := by decide +kernel
theorem dX9_does_289 : decode cX9_does 289 = .ok (.aload_n 0, 1) := by decide +kernel
theorem dX9_does_290 : decode cX9_does 290 = .ok (.getfield 56, 3) := by decide +kernel
theorem dX9_does_293 : decode cX9_does 293 = .ok (.sipush 400, 3) := by decide +kernel
theorem dX9_does_296 : decode cX9_does 296 = .ok (.iload_n 2, 1) := by decide +kernel
theorem dX9_does_297 : decode cX9_does 297 = .ok (.imul, 1) := by decide +kernel
theorem dX9_does_298 : decode cX9_does 298 = .ok (.bipush 20, 2) := by decide +kernel
theorem dX9_does_300 : decode cX9_does 300 = .ok (.iload_n 3, 1) := by decide +kernel
theorem dX9_does_301 : decode cX9_does 301 = .ok (.imul, 1) := by decide +kernel
theorem dX9_does_302 : decode cX9_does 302 = .ok (.iadd, 1) := by decide +kernel
theorem dX9_does_303 : decode cX9_does 303 = .ok (.iload 4, 2) := by decide +kernel
theorem dX9_does_305 : decode cX9_does 305 = .ok (.iadd, 1) := by decide +kernel
theorem dX9_does_306 : decode cX9_does 306 = .ok (.iaload, 1) := by decide +kernel
theorem dX9_does_307 : decode cX9_does 307 = .ok (.putfield 90, 3) := by decide +kernel
theorem dX9_does_310 : decode cX9_does 310 = .ok (.goto 84, 3) := by decide +kernel
theorem dX9_does_313 : decode cX9_does 313 = .ok (.aload_n 0, 1) := by decide +kernel
theorem dX9_does_314 : decode cX9_does 314 = .ok (.iload_n 2, 1) := by decide +kernel
theorem dX9_does_315 : decode cX9_does 315 = .ok (.iload_n 3, 1) := by decide +kernel
theorem dX9_does_316 : decode cX9_does 316 = .ok (.iload 4, 2) := by decide +kernel
theorem dX9_does_318 : decode cX9_does 318 = .ok (.invokevirtual 135, 3) := by decide +kernel
theorem dX9_does_321 : decode cX9_does 321 = .ok (.goto 73, 3) := by decide +kernel
theorem dX9_does_324 : decode cX9_does 324 = .ok (.aload_n 0, 1) := by decide +kernel
theorem dX9_does_325 : decode cX9_does 325 = .ok (.iload_n 2, 1) := by decide +kernel
theorem dX9_does_326 : decode cX9_does 326 = .ok (.iload_n 3, 1) := by decide +kernel
theorem dX9_does_327 : decode cX9_does 327 = .ok (.invokevirtual 138, 3) := by decide +kernel
theorem dX9_does_330 : decode cX9_does 330 = .ok (.goto 64, 3) := by decide +kernel
theorem dX9_does_333 : decode cX9_does 333 = .ok (.aload_n 0, 1) := by decide +kernel
theorem dX9_does_334 : decode cX9_does 334 = .ok (.getfield 59, 3) := by decide +kernel
theorem dX9_does_337 : decode cX9_does 337 = .ok (.iload_n 2, 1) := by decide +kernel
theorem dX9_does_338 : decode cX9_does 338 = .ok (.iload_n 3, 1) := by decide +kernel
theorem dX9_does_339 : decode cX9_does 339 = .ok (.ifCond .ne 7, 3) := by decide +kernel
theorem dX9_does_342 : decode cX9_does 342 = .ok (.iconst 0, 1) := by decide +kernel
theorem dX9_does_343 : decode cX9_does 343 = .ok (.goto 13, 3) := by decide +kernel
theorem dX9_does_346 : decode cX9_does 346 = .ok (.iload_n 3, 1) := by decide +kernel
theorem dX9_does_347 : decode cX9_does 347 = .ok (.iconst 1, 1) := by decide +kernel
theorem dX9_does_348 : decode cX9_does 348 = .ok (.if_icmp .ne 7, 3) := by decide +kernel
theorem dX9_does_351 : decode cX9_does 351 = .ok (.iconst 1, 1) := by decide +kernel
theorem dX9_does_352 : decode cX9_does 352 = .ok (.goto 4, 3) := by decide +kernel
theorem dX9_does_355 : decode cX9_does 355 = .ok (.iconst 2, 1) := by decide +kernel
theorem dX9_does_356 : decode cX9_does 356 = .ok (.iastore, 1) := by decide +kernel
theorem dX9_does_357 : decode cX9_does 357 = .ok (.aload_n 0, 1) := by decide +kernel
theorem dX9_does_358 : decode cX9_does 358 = .ok (.iload_n 3, 1) := by decide +kernel
theorem dX9_does_359 : decode cX9_does 359 = .ok (.putfield 90, 3) := by decide +kernel
theorem dX9_does_362 : decode cX9_does 362 = .ok (.goto 32, 3) := by decide +kernel
theorem dX9_does_365 : decode cX9_does 365 = .ok (.iload_n 3, 1) := by decide +kernel
theorem dX9_does_366 : decode cX9_does 366 = .ok (.ifCond .eq 28, 3) := by decide +kernel
theorem dX9_does_369 : decode cX9_does 369 = .ok (.aload_n 0, 1) := by decide +kernel
theorem dX9_does_370 : decode cX9_does 370 = .ok (.aload_n 0, 1) := by decide +kernel
theorem dX9_does_371 : decode cX9_does 371 = .ok (.getfield 59, 3) := by decide +kernel
theorem dX9_does_374 : decode cX9_does 374 = .ok (.iload_n 2, 1) := by decide +kernel
theorem dX9_does_375 : decode cX9_does 375 = .ok (.iaload, 1) := by decide +kernel
theorem dX9_does_376 : decode cX9_does 376 = .ok (.ifCond .ne 7, 3) := by decide +kernel
theorem dX9_does_379 : decode cX9_does 379 = .ok (.iconst 1, 1) := by decide +kernel
theorem dX9_does_380 : decode cX9_does 380 = .ok (.goto 11, 3) := by decide +kernel
theorem dX9_does_383 : decode cX9_does 383 = .ok (.iconst 5, 1) := by decide +kernel
theorem dX9_does_384 : decode cX9_does 384 = .ok (.aload_n 0, 1) := by decide +kernel
theorem dX9_does_385 : decode cX9_does 385 = .ok (.getfield 59, 3) := by decide +kernel
theorem dX9_does_388 : decode cX9_does 388 = .ok (.iload_n 2, 1) := by decide +kernel
theorem dX9_does_389 : decode cX9_does 389 = .ok (.iaload, 1) := by decide +kernel
theorem dX9_does_390 : decode cX9_does 390 = .ok (.iadd, 1) := by decide +kernel
theorem dX9_does_391 : decode cX9_does 391 = .ok (.invokevirtual 97, 3) := by decide +kernel
theorem dX9_does_394 : decode cX9_does 394 = .ok (.aload_n 0, 1) := by decide +kernel
theorem dX9_does_395 : decode cX9_does 395 = .ok (.getfield 87, 3) := by decide +kernel
theorem dX9_does_398 : decode cX9_does 398 = .ok (.ifCond .eq 16, 3) := by decide +kernel
theorem dX9_does_401 : decode cX9_does 401 = .ok (.aload_n 0, 1) := by decide +kernel
theorem dX9_does_402 : decode cX9_does 402 = .ok (.getfield 72, 3) := by decide +kernel
theorem dX9_does_405 : decode cX9_does 405 = .ok (.aload_n 0, 1) := by decide +kernel
theorem dX9_does_406 : decode cX9_does 406 = .ok (.getfield 87, 3) := by decide +kernel
theorem dX9_does_409 : decode cX9_does 409 = .ok (.dup2, 1) := by decide +kernel
theorem dX9_does_410 : decode cX9_does 410 = .ok (.iaload, 1) := by decide +kernel
theorem dX9_does_411 : decode cX9_does 411 = .ok (.iconst 1, 1) := by decide +kernel
theorem dX9_does_412 : decode cX9_does 412 = .ok (.iadd, 1) := by decide +kernel
theorem dX9_does_413 : decode cX9_does 413 = .ok (.iastore, 1) := by decide +kernel
theorem dX9_does_414 : decode cX9_does 414 = .ok (.return_, 1) := by decide +kernel
theorem dX9_act_0 : decode cX9_act 0 = .ok (.iload_n 1, 1) := by decide +kernel
theorem dX9_act_1 : decode cX9_act 1 = .ok (.iload_n 2, 1) := by decide +kernel
theorem dX9_act_2 : decode cX9_act 2 = .ok (.iload_n 3, 1) := by decide +kernel
theorem dX9_act_3 : decode cX9_act 3 = .ok (.iload 4, 2) := by decide +kernel
theorem dX9_act_5 : decode cX9_act 5 = .ok (.invokestatic 141, 3) := by decide +kernel
theorem dX9_act_8 : decode cX9_act 8 = .ok (.ifCond .ne 7, 3) := by decide +kernel
theorem dX9_act_11 : decode cX9_act 11 = .ok (.ldc2_w 145, 3) := by decide +kernel
theorem dX9_act_14 : decode cX9_act 14 = .ok (.lreturn, 1) := by decide +kernel
theorem dX9_act_15 : decode cX9_act 15 = .ok (.aload_n 0, 1) := by decide +kernel
theorem dX9_act_16 : decode cX9_act 16 = .ok (.iload_n 1, 1) := by decide +kernel
theorem dX9_act_17 : decode cX9_act 17 = .ok (.iload_n 2, 1) := by decide +kernel
theorem dX9_act_18 : decode cX9_act 18 = .ok (.iload_n 3, 1) := by decide +kernel
theorem dX9_act_19 : decode cX9_act 19 = .ok (.iload 4, 2) := by decide +kernel
theorem dX9_act_21 : decode cX9_act 21 = .ok (.invokevirtual 147, 3) := by decide +kernel
theorem dX9_act_24 : decode cX9_act 24 = .ok (.aload_n 0, 1) := by decide +kernel
theorem dX9_act_25 : decode cX9_act 25 = .ok (.getfield 87, 3) := by decide +kernel
theorem dX9_act_28 : decode cX9_act 28 = .ok (.ifCond .eq 15, 3) := by decide +kernel
theorem dX9_act_31 : decode cX9_act 31 = .ok (.ldc2_w 145, 3) := by decide +kernel
theorem dX9_act_34 : decode cX9_act 34 = .ok (.aload_n 0, 1) := by decide +kernel
theorem dX9_act_35 : decode cX9_act 35 = .ok (.getfield 87, 3) := by decide +kernel
theorem dX9_act_38 : decode cX9_act 38 = .ok (.i2l, 1) := by decide +kernel
theorem dX9_act_39 : decode cX9_act 39 = .ok (.ladd, 1) := by decide +kernel
theorem dX9_act_40 : decode cX9_act 40 = .ok (.goto 8, 3) := by decide +kernel
theorem dX9_act_43 : decode cX9_act 43 = .ok (.aload_n 0, 1) := by decide +kernel
theorem dX9_act_44 : decode cX9_act 44 = .ok (.getfield 90, 3) := by decide +kernel
theorem dX9_act_47 : decode cX9_act 47 = .ok (.i2l, 1) := by decide +kernel
theorem dX9_act_48 : decode cX9_act 48 = .ok (.lreturn, 1) := by decide +kernel
theorem dX9_step_0 : decode cX9_step 0 = .ok (.iload_n 1, 1) := by decide +kernel
theorem dX9_step_1 : decode cX9_step 1 = .ok (.i2l, 1) := by decide +kernel
theorem dX9_step_2 : decode cX9_step 2 = .ok (.lconst 0, 1) := by decide +kernel
theorem dX9_step_3 : decode cX9_step 3 = .ok (.ldc2_w 81, 3) := by decide +kernel
theorem dX9_step_6 : decode cX9_step 6 = .ok (.invokestatic 77, 3) := by decide +kernel
theorem dX9_step_9 : decode cX9_step 9 = .ok (.ifCond .eq 30, 3) := by decide +kernel
theorem dX9_step_12 : decode cX9_step 12 = .ok (.iload_n 2, 1) := by decide +kernel
theorem dX9_step_13 : decode cX9_step 13 = .ok (.iload_n 3, 1) := by decide +kernel
theorem dX9_step_14 : decode cX9_step 14 = .ok (.iload 4, 2) := by decide +kernel
theorem dX9_step_16 : decode cX9_step 16 = .ok (.iload 5, 2) := by decide +kernel
theorem dX9_step_18 : decode cX9_step 18 = .ok (.invokestatic 141, 3) := by decide +kernel
theorem dX9_step_21 : decode cX9_step 21 = .ok (.ifCond .eq 18, 3) := by decide +kernel
theorem dX9_step_24 : decode cX9_step 24 = .ok (.iload 6, 2) := by decide +kernel
theorem dX9_step_26 : decode cX9_step 26 = .ok (.i2l, 1) := by decide +kernel
theorem dX9_step_27 : decode cX9_step 27 = .ok (.ldc2_w 150, 3) := by decide +kernel
theorem dX9_step_30 : decode cX9_step 30 = .ok (.ldc2_w 152, 3) := by decide +kernel
theorem dX9_step_33 : decode cX9_step 33 = .ok (.invokestatic 77, 3) := by decide +kernel
theorem dX9_step_36 : decode cX9_step 36 = .ok (.ifCond .ne 6, 3) := by decide +kernel
theorem dX9_step_39 : decode cX9_step 39 = .ok (.bipush (-2), 2) := by decide +kernel
theorem dX9_step_41 : decode cX9_step 41 = .ok (.ireturn, 1) := by decide +kernel
theorem dX9_step_42 : decode cX9_step 42 = .ok (.aload_n 0, 1) := by decide +kernel
theorem dX9_step_43 : decode cX9_step 43 = .ok (.getfield 62, 3) := by decide +kernel
theorem dX9_step_46 : decode cX9_step 46 = .ok (.iload_n 1, 1) := by decide +kernel
theorem dX9_step_47 : decode cX9_step 47 = .ok (.iaload, 1) := by decide +kernel
theorem dX9_step_48 : decode cX9_step 48 = .ok (.bipush 16, 2) := by decide +kernel
theorem dX9_step_50 : decode cX9_step 50 = .ok (.if_icmp .ne 6, 3) := by decide +kernel
theorem dX9_step_53 : decode cX9_step 53 = .ok (.bipush (-3), 2) := by decide +kernel
theorem dX9_step_55 : decode cX9_step 55 = .ok (.ireturn, 1) := by decide +kernel
theorem dX9_step_56 : decode cX9_step 56 = .ok (.iconst 5, 1) := by decide +kernel
theorem dX9_step_57 : decode cX9_step 57 = .ok (.bipush 16, 2) := by decide +kernel
theorem dX9_step_59 : decode cX9_step 59 = .ok (.iload_n 1, 1) := by decide +kernel
theorem dX9_step_60 : decode cX9_step 60 = .ok (.imul, 1) := by decide +kernel
theorem dX9_step_61 : decode cX9_step 61 = .ok (.aload_n 0, 1) := by decide +kernel
theorem dX9_step_62 : decode cX9_step 62 = .ok (.getfield 62, 3) := by decide +kernel
theorem dX9_step_65 : decode cX9_step 65 = .ok (.iload_n 1, 1) := by decide +kernel
theorem dX9_step_66 : decode cX9_step 66 = .ok (.iaload, 1) := by decide +kernel
theorem dX9_step_67 : decode cX9_step 67 = .ok (.iadd, 1) := by decide +kernel
theorem dX9_step_68 : decode cX9_step 68 = .ok (.imul, 1) := by decide +kernel
theorem dX9_step_69 : decode cX9_step 69 = .ok (.istore 7, 2) := by decide +kernel
theorem dX9_step_71 : decode cX9_step 71 = .ok (.aload_n 0, 1) := by decide +kernel
theorem dX9_step_72 : decode cX9_step 72 = .ok (.getfield 65, 3) := by decide +kernel
theorem dX9_step_75 : decode cX9_step 75 = .ok (.iload 7, 2) := by decide +kernel
theorem dX9_step_77 : decode cX9_step 77 = .ok (.iload_n 2, 1) := by decide +kernel
theorem dX9_step_78 : decode cX9_step 78 = .ok (.iastore, 1) := by decide +kernel
theorem dX9_step_79 : decode cX9_step 79 = .ok (.aload_n 0, 1) := by decide +kernel
theorem dX9_step_80 : decode cX9_step 80 = .ok (.getfield 65, 3) := by decide +kernel
theorem dX9_step_83 : decode cX9_step 83 = .ok (.iload 7, 2) := by decide +kernel
theorem dX9_step_85 : decode cX9_step 85 = .ok (.iconst 1, 1) := by decide +kernel
theorem dX9_step_86 : decode cX9_step 86 = .ok (.iadd, 1) := by decide +kernel
theorem dX9_step_87 : decode cX9_step 87 = .ok (.iload_n 3, 1) := by decide +kernel
theorem dX9_step_88 : decode cX9_step 88 = .ok (.iastore, 1) := by decide +kernel
theorem dX9_step_89 : decode cX9_step 89 = .ok (.aload_n 0, 1) := by decide +kernel
theorem dX9_step_90 : decode cX9_step 90 = .ok (.getfield 65, 3) := by decide +kernel
theorem dX9_step_93 : decode cX9_step 93 = .ok (.iload 7, 2) := by decide +kernel
theorem dX9_step_95 : decode cX9_step 95 = .ok (.iconst 2, 1) := by decide +kernel
theorem dX9_step_96 : decode cX9_step 96 = .ok (.iadd, 1) := by decide +kernel
theorem dX9_step_97 : decode cX9_step 97 = .ok (.iload 4, 2) := by decide +kernel
theorem dX9_step_99 : decode cX9_step 99 = .ok (.iastore, 1) := by decide +kernel
theorem dX9_step_100 : decode cX9_step 100 = .ok (.aload_n 0, 1) := by decide +kernel
theorem dX9_step_101 : decode cX9_step 101 = .ok (.getfield 65, 3) := by decide +kernel
theorem dX9_step_104 : decode cX9_step 104 = .ok (.iload 7, 2) := by decide +kernel
theorem dX9_step_106 : decode cX9_step 106 = .ok (.iconst 3, 1) := by decide +kernel
theorem dX9_step_107 : decode cX9_step 107 = .ok (.iadd, 1) := by decide +kernel
theorem dX9_step_108 : decode cX9_step 108 = .ok (.iload 5, 2) := by decide +kernel
theorem dX9_step_110 : decode cX9_step 110 = .ok (.iastore, 1) := by decide +kernel
theorem dX9_step_111 : decode cX9_step 111 = .ok (.aload_n 0, 1) := by decide +kernel
theorem dX9_step_112 : decode cX9_step 112 = .ok (.getfield 65, 3) := by decide +kernel
theorem dX9_step_115 : decode cX9_step 115 = .ok (.iload 7, 2) := by decide +kernel
theorem dX9_step_117 : decode cX9_step 117 = .ok (.iconst 4, 1) := by decide +kernel
theorem dX9_step_118 : decode cX9_step 118 = .ok (.iadd, 1) := by decide +kernel
theorem dX9_step_119 : decode cX9_step 119 = .ok (.iload 6, 2) := by decide +kernel
theorem dX9_step_121 : decode cX9_step 121 = .ok (.iastore, 1) := by decide +kernel
theorem dX9_step_122 : decode cX9_step 122 = .ok (.aload_n 0, 1) := by decide +kernel
theorem dX9_step_123 : decode cX9_step 123 = .ok (.getfield 62, 3) := by decide +kernel
theorem dX9_step_126 : decode cX9_step 126 = .ok (.iload_n 1, 1) := by decide +kernel
theorem dX9_step_127 : decode cX9_step 127 = .ok (.dup2, 1) := by decide +kernel
theorem dX9_step_128 : decode cX9_step 128 = .ok (.iaload, 1) := by decide +kernel
theorem dX9_step_129 : decode cX9_step 129 = .ok (.iconst 1, 1) := by decide +kernel
theorem dX9_step_130 : decode cX9_step 130 = .ok (.iadd, 1) := by decide +kernel
theorem dX9_step_131 : decode cX9_step 131 = .ok (.iastore, 1) := by decide +kernel
theorem dX9_step_132 : decode cX9_step 132 = .ok (.aload_n 0, 1) := by decide +kernel
theorem dX9_step_133 : decode cX9_step 133 = .ok (.getfield 62, 3) := by decide +kernel
theorem dX9_step_136 : decode cX9_step 136 = .ok (.iload_n 1, 1) := by decide +kernel
theorem dX9_step_137 : decode cX9_step 137 = .ok (.iaload, 1) := by decide +kernel
theorem dX9_step_138 : decode cX9_step 138 = .ok (.iconst 1, 1) := by decide +kernel
theorem dX9_step_139 : decode cX9_step 139 = .ok (.isub, 1) := by decide +kernel
theorem dX9_step_140 : decode cX9_step 140 = .ok (.ireturn, 1) := by decide +kernel
theorem dX9_clear_0 : decode cX9_clear 0 = .ok (.iload_n 1, 1) := by decide +kernel
theorem dX9_clear_1 : decode cX9_clear 1 = .ok (.i2l, 1) := by decide +kernel
theorem dX9_clear_2 : decode cX9_clear 2 = .ok (.lconst 0, 1) := by decide +kernel
theorem dX9_clear_3 : decode cX9_clear 3 = .ok (.ldc2_w 81, 3) := by decide +kernel
theorem dX9_clear_6 : decode cX9_clear 6 = .ok (.invokestatic 77, 3) := by decide +kernel
theorem dX9_clear_9 : decode cX9_clear 9 = .ok (.ifCond .ne 6, 3) := by decide +kernel
theorem dX9_clear_12 : decode cX9_clear 12 = .ok (.bipush (-2), 2) := by decide +kernel
theorem dX9_clear_14 : decode cX9_clear 14 = .ok (.ireturn, 1) := by decide +kernel
theorem dX9_clear_15 : decode cX9_clear 15 = .ok (.aload_n 0, 1) := by decide +kernel
theorem dX9_clear_16 : decode cX9_clear 16 = .ok (.getfield 62, 3) := by decide +kernel
theorem dX9_clear_19 : decode cX9_clear 19 = .ok (.iload_n 1, 1) := by decide +kernel
theorem dX9_clear_20 : decode cX9_clear 20 = .ok (.iaload, 1) := by decide +kernel
theorem dX9_clear_21 : decode cX9_clear 21 = .ok (.istore_n 2, 1) := by decide +kernel
theorem dX9_clear_22 : decode cX9_clear 22 = .ok (.aload_n 0, 1) := by decide +kernel
theorem dX9_clear_23 : decode cX9_clear 23 = .ok (.getfield 62, 3) := by decide +kernel
theorem dX9_clear_26 : decode cX9_clear 26 = .ok (.iload_n 1, 1) := by decide +kernel
theorem dX9_clear_27 : decode cX9_clear 27 = .ok (.iconst 0, 1) := by decide +kernel
theorem dX9_clear_28 : decode cX9_clear 28 = .ok (.iastore, 1) := by decide +kernel
theorem dX9_clear_29 : decode cX9_clear 29 = .ok (.iload_n 2, 1) := by decide +kernel
theorem dX9_clear_30 : decode cX9_clear 30 = .ok (.ireturn, 1) := by decide +kernel
theorem dX9_goes_0 : decode cX9_goes 0 = .ok (.iconst 5, 1) := by decide +kernel
theorem dX9_goes_1 : decode cX9_goes 1 = .ok (.bipush 16, 2) := by decide +kernel
theorem dX9_goes_3 : decode cX9_goes 3 = .ok (.iload_n 1, 1) := by decide +kernel
theorem dX9_goes_4 : decode cX9_goes 4 = .ok (.imul, 1) := by decide +kernel
theorem dX9_goes_5 : decode cX9_goes 5 = .ok (.iload_n 2, 1) := by decide +kernel
theorem dX9_goes_6 : decode cX9_goes 6 = .ok (.iadd, 1) := by decide +kernel
theorem dX9_goes_7 : decode cX9_goes 7 = .ok (.imul, 1) := by decide +kernel
theorem dX9_goes_8 : decode cX9_goes 8 = .ok (.istore_n 3, 1) := by decide +kernel
theorem dX9_goes_9 : decode cX9_goes 9 = .ok (.aload_n 0, 1) := by decide +kernel
theorem dX9_goes_10 : decode cX9_goes 10 = .ok (.aload_n 0, 1) := by decide +kernel
theorem dX9_goes_11 : decode cX9_goes 11 = .ok (.getfield 65, 3) := by decide +kernel
theorem dX9_goes_14 : decode cX9_goes 14 = .ok (.iload_n 3, 1) := by decide +kernel
theorem dX9_goes_15 : decode cX9_goes 15 = .ok (.iaload, 1) := by decide +kernel
theorem dX9_goes_16 : decode cX9_goes 16 = .ok (.aload_n 0, 1) := by decide +kernel
theorem dX9_goes_17 : decode cX9_goes 17 = .ok (.getfield 65, 3) := by decide +kernel
theorem dX9_goes_20 : decode cX9_goes 20 = .ok (.iload_n 3, 1) := by decide +kernel
theorem dX9_goes_21 : decode cX9_goes 21 = .ok (.iconst 1, 1) := by decide +kernel
theorem dX9_goes_22 : decode cX9_goes 22 = .ok (.iadd, 1) := by decide +kernel
theorem dX9_goes_23 : decode cX9_goes 23 = .ok (.iaload, 1) := by decide +kernel
theorem dX9_goes_24 : decode cX9_goes 24 = .ok (.aload_n 0, 1) := by decide +kernel
theorem dX9_goes_25 : decode cX9_goes 25 = .ok (.getfield 65, 3) := by decide +kernel
theorem dX9_goes_28 : decode cX9_goes 28 = .ok (.iload_n 3, 1) := by decide +kernel
theorem dX9_goes_29 : decode cX9_goes 29 = .ok (.iconst 2, 1) := by decide +kernel
theorem dX9_goes_30 : decode cX9_goes 30 = .ok (.iadd, 1) := by decide +kernel
theorem dX9_goes_31 : decode cX9_goes 31 = .ok (.iaload, 1) := by decide +kernel
theorem dX9_goes_32 : decode cX9_goes 32 = .ok (.aload_n 0, 1) := by decide +kernel
theorem dX9_goes_33 : decode cX9_goes 33 = .ok (.getfield 65, 3) := by decide +kernel
theorem dX9_goes_36 : decode cX9_goes 36 = .ok (.iload_n 3, 1) := by decide +kernel
theorem dX9_goes_37 : decode cX9_goes 37 = .ok (.iconst 3, 1) := by decide +kernel
theorem dX9_goes_38 : decode cX9_goes 38 = .ok (.iadd, 1) := by decide +kernel
theorem dX9_goes_39 : decode cX9_goes 39 = .ok (.iaload, 1) := by decide +kernel
theorem dX9_goes_40 : decode cX9_goes 40 = .ok (.invokevirtual 147, 3) := by decide +kernel
theorem dX9_goes_43 : decode cX9_goes 43 = .ok (.aload_n 0, 1) := by decide +kernel
theorem dX9_goes_44 : decode cX9_goes 44 = .ok (.getfield 87, 3) := by decide +kernel
theorem dX9_goes_47 : decode cX9_goes 47 = .ok (.ifCond .ne 30, 3) := by decide +kernel
theorem dX9_goes_50 : decode cX9_goes 50 = .ok (.aload_n 0, 1) := by decide +kernel
theorem dX9_goes_51 : decode cX9_goes 51 = .ok (.dup, 1) := by decide +kernel
theorem dX9_goes_52 : decode cX9_goes 52 = .ok (.getfield 154, 3) := by decide +kernel
theorem dX9_goes_55 : decode cX9_goes 55 = .ok (.iconst 1, 1) := by decide +kernel
theorem dX9_goes_56 : decode cX9_goes 56 = .ok (.iadd, 1) := by decide +kernel
theorem dX9_goes_57 : decode cX9_goes 57 = .ok (.putfield 154, 3) := by decide +kernel
theorem dX9_goes_60 : decode cX9_goes 60 = .ok (.aload_n 0, 1) := by decide +kernel
theorem dX9_goes_61 : decode cX9_goes 61 = .ok (.dup, 1) := by decide +kernel
theorem dX9_goes_62 : decode cX9_goes 62 = .ok (.getfield 157, 3) := by decide +kernel
theorem dX9_goes_65 : decode cX9_goes 65 = .ok (.aload_n 0, 1) := by decide +kernel
theorem dX9_goes_66 : decode cX9_goes 66 = .ok (.getfield 90, 3) := by decide +kernel
theorem dX9_goes_69 : decode cX9_goes 69 = .ok (.i2l, 1) := by decide +kernel
theorem dX9_goes_70 : decode cX9_goes 70 = .ok (.ladd, 1) := by decide +kernel
theorem dX9_goes_71 : decode cX9_goes 71 = .ok (.putfield 157, 3) := by decide +kernel
theorem dX9_goes_74 : decode cX9_goes 74 = .ok (.goto 26, 3) := by decide +kernel
theorem dX9_goes_77 : decode cX9_goes 77 = .ok (.aload_n 0, 1) := by decide +kernel
theorem dX9_goes_78 : decode cX9_goes 78 = .ok (.dup, 1) := by decide +kernel
theorem dX9_goes_79 : decode cX9_goes 79 = .ok (.getfield 161, 3) := by decide +kernel
theorem dX9_goes_82 : decode cX9_goes 82 = .ok (.iconst 1, 1) := by decide +kernel
theorem dX9_goes_83 : decode cX9_goes 83 = .ok (.iadd, 1) := by decide +kernel
theorem dX9_goes_84 : decode cX9_goes 84 = .ok (.putfield 161, 3) := by decide +kernel
theorem dX9_goes_87 : decode cX9_goes 87 = .ok (.aload_n 0, 1) := by decide +kernel
theorem dX9_goes_88 : decode cX9_goes 88 = .ok (.aload_n 0, 1) := by decide +kernel
theorem dX9_goes_89 : decode cX9_goes 89 = .ok (.getfield 87, 3) := by decide +kernel
theorem dX9_goes_92 : decode cX9_goes 92 = .ok (.putfield 164, 3) := by decide +kernel
theorem dX9_goes_95 : decode cX9_goes 95 = .ok (.aload_n 0, 1) := by decide +kernel
theorem dX9_goes_96 : decode cX9_goes 96 = .ok (.iload_n 2, 1) := by decide +kernel
theorem dX9_goes_97 : decode cX9_goes 97 = .ok (.putfield 68, 3) := by decide +kernel
theorem dX9_goes_100 : decode cX9_goes 100 = .ok (.return_, 1) := by decide +kernel
theorem dX9_run_0 : decode cX9_run 0 = .ok (.iload_n 1, 1) := by decide +kernel
theorem dX9_run_1 : decode cX9_run 1 = .ok (.i2l, 1) := by decide +kernel
theorem dX9_run_2 : decode cX9_run 2 = .ok (.lconst 0, 1) := by decide +kernel
theorem dX9_run_3 : decode cX9_run 3 = .ok (.ldc2_w 81, 3) := by decide +kernel
theorem dX9_run_6 : decode cX9_run 6 = .ok (.invokestatic 77, 3) := by decide +kernel
theorem dX9_run_9 : decode cX9_run 9 = .ok (.ifCond .eq 13, 3) := by decide +kernel
theorem dX9_run_12 : decode cX9_run 12 = .ok (.iload_n 2, 1) := by decide +kernel
theorem dX9_run_13 : decode cX9_run 13 = .ok (.i2l, 1) := by decide +kernel
theorem dX9_run_14 : decode cX9_run 14 = .ok (.lconst 0, 1) := by decide +kernel
theorem dX9_run_15 : decode cX9_run 15 = .ok (.lconst 1, 1) := by decide +kernel
theorem dX9_run_16 : decode cX9_run 16 = .ok (.invokestatic 77, 3) := by decide +kernel
theorem dX9_run_19 : decode cX9_run 19 = .ok (.ifCond .ne 6, 3) := by decide +kernel
theorem dX9_run_22 : decode cX9_run 22 = .ok (.bipush (-2), 2) := by decide +kernel
theorem dX9_run_24 : decode cX9_run 24 = .ok (.ireturn, 1) := by decide +kernel
theorem dX9_run_25 : decode cX9_run 25 = .ok (.aload_n 0, 1) := by decide +kernel
theorem dX9_run_26 : decode cX9_run 26 = .ok (.iconst 0, 1) := by decide +kernel
theorem dX9_run_27 : decode cX9_run 27 = .ok (.putfield 154, 3) := by decide +kernel
theorem dX9_run_30 : decode cX9_run 30 = .ok (.aload_n 0, 1) := by decide +kernel
theorem dX9_run_31 : decode cX9_run 31 = .ok (.iconst 0, 1) := by decide +kernel
theorem dX9_run_32 : decode cX9_run 32 = .ok (.putfield 161, 3) := by decide +kernel
theorem dX9_run_35 : decode cX9_run 35 = .ok (.aload_n 0, 1) := by decide +kernel
theorem dX9_run_36 : decode cX9_run 36 = .ok (.iconst 0, 1) := by decide +kernel
theorem dX9_run_37 : decode cX9_run 37 = .ok (.putfield 164, 3) := by decide +kernel
theorem dX9_run_40 : decode cX9_run 40 = .ok (.aload_n 0, 1) := by decide +kernel
theorem dX9_run_41 : decode cX9_run 41 = .ok (.iconst (-1), 1) := by decide +kernel
theorem dX9_run_42 : decode cX9_run 42 = .ok (.putfield 68, 3) := by decide +kernel
theorem dX9_run_45 : decode cX9_run 45 = .ok (.aload_n 0, 1) := by decide +kernel
theorem dX9_run_46 : decode cX9_run 46 = .ok (.iconst 0, 1) := by decide +kernel
theorem dX9_run_47 : decode cX9_run 47 = .ok (.putfield 167, 3) := by decide +kernel
theorem dX9_run_50 : decode cX9_run 50 = .ok (.aload_n 0, 1) := by decide +kernel
theorem dX9_run_51 : decode cX9_run 51 = .ok (.lconst 0, 1) := by decide +kernel
theorem dX9_run_52 : decode cX9_run 52 = .ok (.putfield 157, 3) := by decide +kernel
theorem dX9_run_55 : decode cX9_run 55 = .ok (.iconst 1, 1) := by decide +kernel
theorem dX9_run_56 : decode cX9_run 56 = .ok (.istore_n 3, 1) := by decide +kernel
theorem dX9_run_57 : decode cX9_run 57 = .ok (.iconst 0, 1) := by decide +kernel
theorem dX9_run_58 : decode cX9_run 58 = .ok (.istore 4, 2) := by decide +kernel
theorem dX9_run_60 : decode cX9_run 60 = .ok (.iload 4, 2) := by decide +kernel
theorem dX9_run_62 : decode cX9_run 62 = .ok (.aload_n 0, 1) := by decide +kernel
theorem dX9_run_63 : decode cX9_run 63 = .ok (.getfield 62, 3) := by decide +kernel
theorem dX9_run_66 : decode cX9_run 66 = .ok (.iload_n 1, 1) := by decide +kernel
theorem dX9_run_67 : decode cX9_run 67 = .ok (.iaload, 1) := by decide +kernel
theorem dX9_run_68 : decode cX9_run 68 = .ok (.if_icmp .ge 99, 3) := by decide +kernel
theorem dX9_run_71 : decode cX9_run 71 = .ok (.iload_n 3, 1) := by decide +kernel
theorem dX9_run_72 : decode cX9_run 72 = .ok (.ifCond .eq 95, 3) := by decide +kernel
theorem dX9_run_75 : decode cX9_run 75 = .ok (.aload_n 0, 1) := by decide +kernel
theorem dX9_run_76 : decode cX9_run 76 = .ok (.iload_n 1, 1) := by decide +kernel
theorem dX9_run_77 : decode cX9_run 77 = .ok (.iload 4, 2) := by decide +kernel
theorem dX9_run_79 : decode cX9_run 79 = .ok (.invokevirtual 170, 3) := by decide +kernel
theorem dX9_run_82 : decode cX9_run 82 = .ok (.aload_n 0, 1) := by decide +kernel
theorem dX9_run_83 : decode cX9_run 83 = .ok (.getfield 87, 3) := by decide +kernel
theorem dX9_run_86 : decode cX9_run 86 = .ok (.ifCond .eq 75, 3) := by decide +kernel
theorem dX9_run_89 : decode cX9_run 89 = .ok (.aload_n 0, 1) := by decide +kernel
theorem dX9_run_90 : decode cX9_run 90 = .ok (.getfield 65, 3) := by decide +kernel
theorem dX9_run_93 : decode cX9_run 93 = .ok (.iconst 5, 1) := by decide +kernel
theorem dX9_run_94 : decode cX9_run 94 = .ok (.bipush 16, 2) := by decide +kernel
theorem dX9_run_96 : decode cX9_run 96 = .ok (.iload_n 1, 1) := by decide +kernel
theorem dX9_run_97 : decode cX9_run 97 = .ok (.imul, 1) := by decide +kernel
theorem dX9_run_98 : decode cX9_run 98 = .ok (.iload 4, 2) := by decide +kernel
theorem dX9_run_100 : decode cX9_run 100 = .ok (.iadd, 1) := by decide +kernel
theorem dX9_run_101 : decode cX9_run 101 = .ok (.imul, 1) := by decide +kernel
theorem dX9_run_102 : decode cX9_run 102 = .ok (.iconst 4, 1) := by decide +kernel
theorem dX9_run_103 : decode cX9_run 103 = .ok (.iadd, 1) := by decide +kernel
theorem dX9_run_104 : decode cX9_run 104 = .ok (.iaload, 1) := by decide +kernel
theorem dX9_run_105 : decode cX9_run 105 = .ok (.istore 5, 2) := by decide +kernel
theorem dX9_run_107 : decode cX9_run 107 = .ok (.iload 5, 2) := by decide +kernel
theorem dX9_run_109 : decode cX9_run 109 = .ok (.i2l, 1) := by decide +kernel
theorem dX9_run_110 : decode cX9_run 110 = .ok (.lconst 0, 1) := by decide +kernel
theorem dX9_run_111 : decode cX9_run 111 = .ok (.aload_n 0, 1) := by decide +kernel
theorem dX9_run_112 : decode cX9_run 112 = .ok (.getfield 62, 3) := by decide +kernel
theorem dX9_run_115 : decode cX9_run 115 = .ok (.iload_n 1, 1) := by decide +kernel
theorem dX9_run_116 : decode cX9_run 116 = .ok (.iaload, 1) := by decide +kernel
theorem dX9_run_117 : decode cX9_run 117 = .ok (.iconst 1, 1) := by decide +kernel
theorem dX9_run_118 : decode cX9_run 118 = .ok (.isub, 1) := by decide +kernel
theorem dX9_run_119 : decode cX9_run 119 = .ok (.i2l, 1) := by decide +kernel
theorem dX9_run_120 : decode cX9_run 120 = .ok (.invokestatic 77, 3) := by decide +kernel
theorem dX9_run_123 : decode cX9_run 123 = .ok (.ifCond .eq 20, 3) := by decide +kernel
theorem dX9_run_126 : decode cX9_run 126 = .ok (.aload_n 0, 1) := by decide +kernel
theorem dX9_run_127 : decode cX9_run 127 = .ok (.dup, 1) := by decide +kernel
theorem dX9_run_128 : decode cX9_run 128 = .ok (.getfield 167, 3) := by decide +kernel
theorem dX9_run_131 : decode cX9_run 131 = .ok (.iconst 1, 1) := by decide +kernel
theorem dX9_run_132 : decode cX9_run 132 = .ok (.iadd, 1) := by decide +kernel
theorem dX9_run_133 : decode cX9_run 133 = .ok (.putfield 167, 3) := by decide +kernel
theorem dX9_run_136 : decode cX9_run 136 = .ok (.aload_n 0, 1) := by decide +kernel
theorem dX9_run_137 : decode cX9_run 137 = .ok (.iload_n 1, 1) := by decide +kernel
theorem dX9_run_138 : decode cX9_run 138 = .ok (.iload 5, 2) := by decide +kernel
theorem dX9_run_140 : decode cX9_run 140 = .ok (.invokevirtual 170, 3) := by decide +kernel
theorem dX9_run_143 : decode cX9_run 143 = .ok (.aload_n 0, 1) := by decide +kernel
theorem dX9_run_144 : decode cX9_run 144 = .ok (.getfield 87, 3) := by decide +kernel
theorem dX9_run_147 : decode cX9_run 147 = .ok (.ifCond .eq 8, 3) := by decide +kernel
theorem dX9_run_150 : decode cX9_run 150 = .ok (.iload_n 2, 1) := by decide +kernel
theorem dX9_run_151 : decode cX9_run 151 = .ok (.iconst 1, 1) := by decide +kernel
theorem dX9_run_152 : decode cX9_run 152 = .ok (.if_icmp .ne 7, 3) := by decide +kernel
theorem dX9_run_155 : decode cX9_run 155 = .ok (.iconst 1, 1) := by decide +kernel
theorem dX9_run_156 : decode cX9_run 156 = .ok (.goto 4, 3) := by decide +kernel
theorem dX9_run_159 : decode cX9_run 159 = .ok (.iconst 0, 1) := by decide +kernel
theorem dX9_run_160 : decode cX9_run 160 = .ok (.istore_n 3, 1) := by decide +kernel
theorem dX9_run_161 : decode cX9_run 161 = .ok (.iinc 4 1, 3) := by decide +kernel
theorem dX9_run_164 : decode cX9_run 164 = .ok (.goto (-104), 3) := by decide +kernel
theorem dX9_run_167 : decode cX9_run 167 = .ok (.aload_n 0, 1) := by decide +kernel
theorem dX9_run_168 : decode cX9_run 168 = .ok (.getfield 154, 3) := by decide +kernel
theorem dX9_run_171 : decode cX9_run 171 = .ok (.ireturn, 1) := by decide +kernel
theorem dX9_told_0 : decode cX9_told 0 = .ok (.iload_n 1, 1) := by decide +kernel
theorem dX9_told_1 : decode cX9_told 1 = .ok (.tableswitch 60 0 4 #[35, 40, 45, 50, 55], 35) := by decide +kernel
theorem dX9_told_36 : decode cX9_told 36 = .ok (.aload_n 0, 1) := by decide +kernel
theorem dX9_told_37 : decode cX9_told 37 = .ok (.getfield 154, 3) := by decide +kernel
theorem dX9_told_40 : decode cX9_told 40 = .ok (.ireturn, 1) := by decide +kernel
theorem dX9_told_41 : decode cX9_told 41 = .ok (.aload_n 0, 1) := by decide +kernel
theorem dX9_told_42 : decode cX9_told 42 = .ok (.getfield 161, 3) := by decide +kernel
theorem dX9_told_45 : decode cX9_told 45 = .ok (.ireturn, 1) := by decide +kernel
theorem dX9_told_46 : decode cX9_told 46 = .ok (.aload_n 0, 1) := by decide +kernel
theorem dX9_told_47 : decode cX9_told 47 = .ok (.getfield 164, 3) := by decide +kernel
theorem dX9_told_50 : decode cX9_told 50 = .ok (.ireturn, 1) := by decide +kernel
theorem dX9_told_51 : decode cX9_told 51 = .ok (.aload_n 0, 1) := by decide +kernel
theorem dX9_told_52 : decode cX9_told 52 = .ok (.getfield 68, 3) := by decide +kernel
theorem dX9_told_55 : decode cX9_told 55 = .ok (.ireturn, 1) := by decide +kernel
theorem dX9_told_56 : decode cX9_told 56 = .ok (.aload_n 0, 1) := by decide +kernel
theorem dX9_told_57 : decode cX9_told 57 = .ok (.getfield 167, 3) := by decide +kernel
theorem dX9_told_60 : decode cX9_told 60 = .ok (.ireturn, 1) := by decide +kernel
theorem dX9_told_61 : decode cX9_told 61 = .ok (.bipush (-2), 2) := by decide +kernel
theorem dX9_told_63 : decode cX9_told 63 = .ok (.ireturn, 1) := by decide +kernel
theorem dX9_sum_0 : decode cX9_sum 0 = .ok (.aload_n 0, 1) := by decide +kernel
theorem dX9_sum_1 : decode cX9_sum 1 = .ok (.getfield 157, 3) := by decide +kernel
theorem dX9_sum_4 : decode cX9_sum 4 = .ok (.lreturn, 1) := by decide +kernel
theorem dX9_tally_0 : decode cX9_tally 0 = .ok (.iload_n 1, 1) := by decide +kernel
theorem dX9_tally_1 : decode cX9_tally 1 = .ok (.i2l, 1) := by decide +kernel
theorem dX9_tally_2 : decode cX9_tally 2 = .ok (.lconst 1, 1) := by decide +kernel
theorem dX9_tally_3 : decode cX9_tally 3 = .ok (.ldc2_w 173, 3) := by decide +kernel
theorem dX9_tally_6 : decode cX9_tally 6 = .ok (.invokestatic 77, 3) := by decide +kernel
theorem dX9_tally_9 : decode cX9_tally 9 = .ok (.ifCond .eq 12, 3) := by decide +kernel
theorem dX9_tally_12 : decode cX9_tally 12 = .ok (.aload_n 0, 1) := by decide +kernel
theorem dX9_tally_13 : decode cX9_tally 13 = .ok (.getfield 72, 3) := by decide +kernel
theorem dX9_tally_16 : decode cX9_tally 16 = .ok (.iload_n 1, 1) := by decide +kernel
theorem dX9_tally_17 : decode cX9_tally 17 = .ok (.iaload, 1) := by decide +kernel
theorem dX9_tally_18 : decode cX9_tally 18 = .ok (.goto 5, 3) := by decide +kernel
theorem dX9_tally_21 : decode cX9_tally 21 = .ok (.bipush (-2), 2) := by decide +kernel
theorem dX9_tally_23 : decode cX9_tally 23 = .ok (.ireturn, 1) := by decide +kernel
theorem dX9_hangs_0 : decode cX9_hangs 0 = .ok (.iconst 0, 1) := by decide +kernel
theorem dX9_hangs_1 : decode cX9_hangs 1 = .ok (.istore_n 2, 1) := by decide +kernel
theorem dX9_hangs_2 : decode cX9_hangs 2 = .ok (.iconst 0, 1) := by decide +kernel
theorem dX9_hangs_3 : decode cX9_hangs 3 = .ok (.istore_n 3, 1) := by decide +kernel
theorem dX9_hangs_4 : decode cX9_hangs 4 = .ok (.iload_n 3, 1) := by decide +kernel
theorem dX9_hangs_5 : decode cX9_hangs 5 = .ok (.bipush 80, 2) := by decide +kernel
theorem dX9_hangs_7 : decode cX9_hangs 7 = .ok (.if_icmp .ge 50, 3) := by decide +kernel
theorem dX9_hangs_10 : decode cX9_hangs 10 = .ok (.iload_n 2, 1) := by decide +kernel
theorem dX9_hangs_11 : decode cX9_hangs 11 = .ok (.ifCond .ne 34, 3) := by decide +kernel
theorem dX9_hangs_14 : decode cX9_hangs 14 = .ok (.iload_n 1, 1) := by decide +kernel
theorem dX9_hangs_15 : decode cX9_hangs 15 = .ok (.iconst (-1), 1) := by decide +kernel
theorem dX9_hangs_16 : decode cX9_hangs 16 = .ok (.if_icmp .eq 33, 3) := by decide +kernel
theorem dX9_hangs_19 : decode cX9_hangs 19 = .ok (.aload_n 0, 1) := by decide +kernel
theorem dX9_hangs_20 : decode cX9_hangs 20 = .ok (.getfield 41, 3) := by decide +kernel
theorem dX9_hangs_23 : decode cX9_hangs 23 = .ok (.iload_n 3, 1) := by decide +kernel
theorem dX9_hangs_24 : decode cX9_hangs 24 = .ok (.bipush 20, 2) := by decide +kernel
theorem dX9_hangs_26 : decode cX9_hangs 26 = .ok (.idiv, 1) := by decide +kernel
theorem dX9_hangs_27 : decode cX9_hangs 27 = .ok (.iaload, 1) := by decide +kernel
theorem dX9_hangs_28 : decode cX9_hangs 28 = .ok (.iload_n 3, 1) := by decide +kernel
theorem dX9_hangs_29 : decode cX9_hangs 29 = .ok (.bipush 20, 2) := by decide +kernel
theorem dX9_hangs_31 : decode cX9_hangs 31 = .ok (.irem, 1) := by decide +kernel
theorem dX9_hangs_32 : decode cX9_hangs 32 = .ok (.if_icmp .le 17, 3) := by decide +kernel
end
section
theorem dX9_hangs_35 : decode cX9_hangs 35 = .ok (.aload_n 0, 1) := by decide +kernel
theorem dX9_hangs_36 : decode cX9_hangs 36 = .ok (.getfield 47, 3) := by decide +kernel
theorem dX9_hangs_39 : decode cX9_hangs 39 = .ok (.iload_n 3, 1) := by decide +kernel
theorem dX9_hangs_40 : decode cX9_hangs 40 = .ok (.iaload, 1) := by decide +kernel
theorem dX9_hangs_41 : decode cX9_hangs 41 = .ok (.iload_n 1, 1) := by decide +kernel
theorem dX9_hangs_42 : decode cX9_hangs 42 = .ok (.if_icmp .ne 7, 3) := by decide +kernel
theorem dX9_hangs_45 : decode cX9_hangs 45 = .ok (.iconst 1, 1) := by decide +kernel
theorem dX9_hangs_46 : decode cX9_hangs 46 = .ok (.goto 4, 3) := by decide +kernel
theorem dX9_hangs_49 : decode cX9_hangs 49 = .ok (.iconst 0, 1) := by decide +kernel
theorem dX9_hangs_50 : decode cX9_hangs 50 = .ok (.istore_n 2, 1) := by decide +kernel
theorem dX9_hangs_51 : decode cX9_hangs 51 = .ok (.iinc 3 1, 3) := by decide +kernel
theorem dX9_hangs_54 : decode cX9_hangs 54 = .ok (.goto (-50), 3) := by decide +kernel
theorem dX9_hangs_57 : decode cX9_hangs 57 = .ok (.iload_n 2, 1) := by decide +kernel
theorem dX9_hangs_58 : decode cX9_hangs 58 = .ok (.ireturn, 1) := by decide +kernel
theorem dX9_stand_0 : decode cX9_stand 0 = .ok (.iload_n 1, 1) := by decide +kernel
theorem dX9_stand_1 : decode cX9_stand 1 = .ok (.i2l, 1) := by decide +kernel
theorem dX9_stand_2 : decode cX9_stand 2 = .ok (.lconst 0, 1) := by decide +kernel
theorem dX9_stand_3 : decode cX9_stand 3 = .ok (.ldc2_w 81, 3) := by decide +kernel
theorem dX9_stand_6 : decode cX9_stand 6 = .ok (.invokestatic 77, 3) := by decide +kernel
theorem dX9_stand_9 : decode cX9_stand 9 = .ok (.ifCond .eq 15, 3) := by decide +kernel
theorem dX9_stand_12 : decode cX9_stand 12 = .ok (.iload_n 2, 1) := by decide +kernel
theorem dX9_stand_13 : decode cX9_stand 13 = .ok (.i2l, 1) := by decide +kernel
theorem dX9_stand_14 : decode cX9_stand 14 = .ok (.lconst 0, 1) := by decide +kernel
theorem dX9_stand_15 : decode cX9_stand 15 = .ok (.ldc2_w 173, 3) := by decide +kernel
theorem dX9_stand_18 : decode cX9_stand 18 = .ok (.invokestatic 77, 3) := by decide +kernel
theorem dX9_stand_21 : decode cX9_stand 21 = .ok (.ifCond .ne 6, 3) := by decide +kernel
theorem dX9_stand_24 : decode cX9_stand 24 = .ok (.ldc 175, 2) := by decide +kernel
theorem dX9_stand_26 : decode cX9_stand 26 = .ok (.ireturn, 1) := by decide +kernel
theorem dX9_stand_27 : decode cX9_stand 27 = .ok (.aload_n 0, 1) := by decide +kernel
theorem dX9_stand_28 : decode cX9_stand 28 = .ok (.getfield 7, 3) := by decide +kernel
theorem dX9_stand_31 : decode cX9_stand 31 = .ok (.iload_n 1, 1) := by decide +kernel
theorem dX9_stand_32 : decode cX9_stand 32 = .ok (.baload, 1) := by decide +kernel
theorem dX9_stand_33 : decode cX9_stand 33 = .ok (.ifCond .ne 5, 3) := by decide +kernel
theorem dX9_stand_36 : decode cX9_stand 36 = .ok (.iconst 0, 1) := by decide +kernel
theorem dX9_stand_37 : decode cX9_stand 37 = .ok (.ireturn, 1) := by decide +kernel
theorem dX9_stand_38 : decode cX9_stand 38 = .ok (.aload_n 0, 1) := by decide +kernel
theorem dX9_stand_39 : decode cX9_stand 39 = .ok (.getfield 17, 3) := by decide +kernel
theorem dX9_stand_42 : decode cX9_stand 42 = .ok (.iconst 2, 1) := by decide +kernel
theorem dX9_stand_43 : decode cX9_stand 43 = .ok (.iload_n 1, 1) := by decide +kernel
theorem dX9_stand_44 : decode cX9_stand 44 = .ok (.imul, 1) := by decide +kernel
theorem dX9_stand_45 : decode cX9_stand 45 = .ok (.iload_n 2, 1) := by decide +kernel
theorem dX9_stand_46 : decode cX9_stand 46 = .ok (.iconst 1, 1) := by decide +kernel
theorem dX9_stand_47 : decode cX9_stand 47 = .ok (.iand, 1) := by decide +kernel
theorem dX9_stand_48 : decode cX9_stand 48 = .ok (.iadd, 1) := by decide +kernel
theorem dX9_stand_49 : decode cX9_stand 49 = .ok (.iaload, 1) := by decide +kernel
theorem dX9_stand_50 : decode cX9_stand 50 = .ok (.istore_n 3, 1) := by decide +kernel
theorem dX9_stand_51 : decode cX9_stand 51 = .ok (.iload_n 2, 1) := by decide +kernel
theorem dX9_stand_52 : decode cX9_stand 52 = .ok (.tableswitch 129 0 6 #[44, 46, 53, 53, 69, 69, 85], 44) := by decide +kernel
theorem dX9_stand_96 : decode cX9_stand 96 = .ok (.iconst 1, 1) := by decide +kernel
theorem dX9_stand_97 : decode cX9_stand 97 = .ok (.ireturn, 1) := by decide +kernel
theorem dX9_stand_98 : decode cX9_stand 98 = .ok (.aload_n 0, 1) := by decide +kernel
theorem dX9_stand_99 : decode cX9_stand 99 = .ok (.getfield 13, 3) := by decide +kernel
theorem dX9_stand_102 : decode cX9_stand 102 = .ok (.iload_n 1, 1) := by decide +kernel
theorem dX9_stand_103 : decode cX9_stand 103 = .ok (.iaload, 1) := by decide +kernel
theorem dX9_stand_104 : decode cX9_stand 104 = .ok (.ireturn, 1) := by decide +kernel
theorem dX9_stand_105 : decode cX9_stand 105 = .ok (.iload_n 3, 1) := by decide +kernel
theorem dX9_stand_106 : decode cX9_stand 106 = .ok (.iconst (-1), 1) := by decide +kernel
theorem dX9_stand_107 : decode cX9_stand 107 = .ok (.if_icmp .ne 7, 3) := by decide +kernel
theorem dX9_stand_110 : decode cX9_stand 110 = .ok (.iconst 0, 1) := by decide +kernel
theorem dX9_stand_111 : decode cX9_stand 111 = .ok (.goto 9, 3) := by decide +kernel
theorem dX9_stand_114 : decode cX9_stand 114 = .ok (.aload_n 0, 1) := by decide +kernel
theorem dX9_stand_115 : decode cX9_stand 115 = .ok (.getfield 26, 3) := by decide +kernel
theorem dX9_stand_118 : decode cX9_stand 118 = .ok (.iload_n 3, 1) := by decide +kernel
theorem dX9_stand_119 : decode cX9_stand 119 = .ok (.iaload, 1) := by decide +kernel
theorem dX9_stand_120 : decode cX9_stand 120 = .ok (.ireturn, 1) := by decide +kernel
theorem dX9_stand_121 : decode cX9_stand 121 = .ok (.iload_n 3, 1) := by decide +kernel
theorem dX9_stand_122 : decode cX9_stand 122 = .ok (.iconst (-1), 1) := by decide +kernel
theorem dX9_stand_123 : decode cX9_stand 123 = .ok (.if_icmp .ne 7, 3) := by decide +kernel
theorem dX9_stand_126 : decode cX9_stand 126 = .ok (.iconst 0, 1) := by decide +kernel
theorem dX9_stand_127 : decode cX9_stand 127 = .ok (.goto 9, 3) := by decide +kernel
theorem dX9_stand_130 : decode cX9_stand 130 = .ok (.aload_n 0, 1) := by decide +kernel
theorem dX9_stand_131 : decode cX9_stand 131 = .ok (.getfield 29, 3) := by decide +kernel
theorem dX9_stand_134 : decode cX9_stand 134 = .ok (.iload_n 3, 1) := by decide +kernel
theorem dX9_stand_135 : decode cX9_stand 135 = .ok (.iaload, 1) := by decide +kernel
theorem dX9_stand_136 : decode cX9_stand 136 = .ok (.ireturn, 1) := by decide +kernel
theorem dX9_stand_137 : decode cX9_stand 137 = .ok (.aload_n 0, 1) := by decide +kernel
theorem dX9_stand_138 : decode cX9_stand 138 = .ok (.aload_n 0, 1) := by decide +kernel
theorem dX9_stand_139 : decode cX9_stand 139 = .ok (.getfield 17, 3) := by decide +kernel
theorem dX9_stand_142 : decode cX9_stand 142 = .ok (.iconst 2, 1) := by decide +kernel
theorem dX9_stand_143 : decode cX9_stand 143 = .ok (.iload_n 1, 1) := by decide +kernel
theorem dX9_stand_144 : decode cX9_stand 144 = .ok (.imul, 1) := by decide +kernel
theorem dX9_stand_145 : decode cX9_stand 145 = .ok (.iaload, 1) := by decide +kernel
theorem dX9_stand_146 : decode cX9_stand 146 = .ok (.invokevirtual 176, 3) := by decide +kernel
theorem dX9_stand_149 : decode cX9_stand 149 = .ok (.ifCond .eq 7, 3) := by decide +kernel
theorem dX9_stand_152 : decode cX9_stand 152 = .ok (.iconst 1, 1) := by decide +kernel
theorem dX9_stand_153 : decode cX9_stand 153 = .ok (.goto 4, 3) := by decide +kernel
theorem dX9_stand_156 : decode cX9_stand 156 = .ok (.iconst 0, 1) := by decide +kernel
theorem dX9_stand_157 : decode cX9_stand 157 = .ok (.aload_n 0, 1) := by decide +kernel
theorem dX9_stand_158 : decode cX9_stand 158 = .ok (.aload_n 0, 1) := by decide +kernel
theorem dX9_stand_159 : decode cX9_stand 159 = .ok (.getfield 17, 3) := by decide +kernel
theorem dX9_stand_162 : decode cX9_stand 162 = .ok (.iconst 2, 1) := by decide +kernel
theorem dX9_stand_163 : decode cX9_stand 163 = .ok (.iload_n 1, 1) := by decide +kernel
theorem dX9_stand_164 : decode cX9_stand 164 = .ok (.imul, 1) := by decide +kernel
theorem dX9_stand_165 : decode cX9_stand 165 = .ok (.iconst 1, 1) := by decide +kernel
theorem dX9_stand_166 : decode cX9_stand 166 = .ok (.iadd, 1) := by decide +kernel
theorem dX9_stand_167 : decode cX9_stand 167 = .ok (.iaload, 1) := by decide +kernel
theorem dX9_stand_168 : decode cX9_stand 168 = .ok (.invokevirtual 176, 3) := by decide +kernel
theorem dX9_stand_171 : decode cX9_stand 171 = .ok (.ifCond .eq 7, 3) := by decide +kernel
theorem dX9_stand_174 : decode cX9_stand 174 = .ok (.iconst 2, 1) := by decide +kernel
theorem dX9_stand_175 : decode cX9_stand 175 = .ok (.goto 4, 3) := by decide +kernel
theorem dX9_stand_178 : decode cX9_stand 178 = .ok (.iconst 0, 1) := by decide +kernel
theorem dX9_stand_179 : decode cX9_stand 179 = .ok (.iadd, 1) := by decide +kernel
theorem dX9_stand_180 : decode cX9_stand 180 = .ok (.ireturn, 1) := by decide +kernel
theorem dX9_stand_181 : decode cX9_stand 181 = .ok (.aload_n 0, 1) := by decide +kernel
theorem dX9_stand_182 : decode cX9_stand 182 = .ok (.getfield 20, 3) := by decide +kernel
theorem dX9_stand_185 : decode cX9_stand 185 = .ok (.iload_n 1, 1) := by decide +kernel
theorem dX9_stand_186 : decode cX9_stand 186 = .ok (.iaload, 1) := by decide +kernel
theorem dX9_stand_187 : decode cX9_stand 187 = .ok (.ifCond .ne 7, 3) := by decide +kernel
theorem dX9_stand_190 : decode cX9_stand 190 = .ok (.iconst 0, 1) := by decide +kernel
theorem dX9_stand_191 : decode cX9_stand 191 = .ok (.goto 23, 3) := by decide +kernel
theorem dX9_stand_194 : decode cX9_stand 194 = .ok (.aload_n 0, 1) := by decide +kernel
theorem dX9_stand_195 : decode cX9_stand 195 = .ok (.getfield 20, 3) := by decide +kernel
theorem dX9_stand_198 : decode cX9_stand 198 = .ok (.iload_n 1, 1) := by decide +kernel
theorem dX9_stand_199 : decode cX9_stand 199 = .ok (.iaload, 1) := by decide +kernel
theorem dX9_stand_200 : decode cX9_stand 200 = .ok (.iconst 1, 1) := by decide +kernel
theorem dX9_stand_201 : decode cX9_stand 201 = .ok (.if_icmp .ne 7, 3) := by decide +kernel
theorem dX9_stand_204 : decode cX9_stand 204 = .ok (.iconst (-1), 1) := by decide +kernel
theorem dX9_stand_205 : decode cX9_stand 205 = .ok (.goto 9, 3) := by decide +kernel
theorem dX9_stand_208 : decode cX9_stand 208 = .ok (.aload_n 0, 1) := by decide +kernel
theorem dX9_stand_209 : decode cX9_stand 209 = .ok (.getfield 23, 3) := by decide +kernel
theorem dX9_stand_212 : decode cX9_stand 212 = .ok (.iload_n 1, 1) := by decide +kernel
theorem dX9_stand_213 : decode cX9_stand 213 = .ok (.iaload, 1) := by decide +kernel
theorem dX9_stand_214 : decode cX9_stand 214 = .ok (.ireturn, 1) := by decide +kernel
theorem dX9_basket_0 : decode cX9_basket 0 = .ok (.iload_n 1, 1) := by decide +kernel
theorem dX9_basket_1 : decode cX9_basket 1 = .ok (.i2l, 1) := by decide +kernel
theorem dX9_basket_2 : decode cX9_basket 2 = .ok (.lconst 0, 1) := by decide +kernel
theorem dX9_basket_3 : decode cX9_basket 3 = .ok (.ldc2_w 81, 3) := by decide +kernel
theorem dX9_basket_6 : decode cX9_basket 6 = .ok (.invokestatic 77, 3) := by decide +kernel
theorem dX9_basket_9 : decode cX9_basket 9 = .ok (.ifCond .eq 35, 3) := by decide +kernel
theorem dX9_basket_12 : decode cX9_basket 12 = .ok (.iload_n 2, 1) := by decide +kernel
theorem dX9_basket_13 : decode cX9_basket 13 = .ok (.i2l, 1) := by decide +kernel
theorem dX9_basket_14 : decode cX9_basket 14 = .ok (.lconst 0, 1) := by decide +kernel
theorem dX9_basket_15 : decode cX9_basket 15 = .ok (.aload_n 0, 1) := by decide +kernel
theorem dX9_basket_16 : decode cX9_basket 16 = .ok (.getfield 35, 3) := by decide +kernel
theorem dX9_basket_19 : decode cX9_basket 19 = .ok (.iload_n 1, 1) := by decide +kernel
theorem dX9_basket_20 : decode cX9_basket 20 = .ok (.iaload, 1) := by decide +kernel
theorem dX9_basket_21 : decode cX9_basket 21 = .ok (.iconst 1, 1) := by decide +kernel
theorem dX9_basket_22 : decode cX9_basket 22 = .ok (.isub, 1) := by decide +kernel
theorem dX9_basket_23 : decode cX9_basket 23 = .ok (.i2l, 1) := by decide +kernel
theorem dX9_basket_24 : decode cX9_basket 24 = .ok (.invokestatic 77, 3) := by decide +kernel
theorem dX9_basket_27 : decode cX9_basket 27 = .ok (.ifCond .eq 17, 3) := by decide +kernel
theorem dX9_basket_30 : decode cX9_basket 30 = .ok (.aload_n 0, 1) := by decide +kernel
theorem dX9_basket_31 : decode cX9_basket 31 = .ok (.getfield 38, 3) := by decide +kernel
theorem dX9_basket_34 : decode cX9_basket 34 = .ok (.bipush 20, 2) := by decide +kernel
theorem dX9_basket_36 : decode cX9_basket 36 = .ok (.iload_n 1, 1) := by decide +kernel
theorem dX9_basket_37 : decode cX9_basket 37 = .ok (.imul, 1) := by decide +kernel
theorem dX9_basket_38 : decode cX9_basket 38 = .ok (.iload_n 2, 1) := by decide +kernel
theorem dX9_basket_39 : decode cX9_basket 39 = .ok (.iadd, 1) := by decide +kernel
theorem dX9_basket_40 : decode cX9_basket 40 = .ok (.iaload, 1) := by decide +kernel
theorem dX9_basket_41 : decode cX9_basket 41 = .ok (.goto 4, 3) := by decide +kernel
theorem dX9_basket_44 : decode cX9_basket 44 = .ok (.iconst 0, 1) := by decide +kernel
theorem dX9_basket_45 : decode cX9_basket 45 = .ok (.ireturn, 1) := by decide +kernel
theorem dX9_rack_0 : decode cX9_rack 0 = .ok (.iload_n 1, 1) := by decide +kernel
theorem dX9_rack_1 : decode cX9_rack 1 = .ok (.i2l, 1) := by decide +kernel
theorem dX9_rack_2 : decode cX9_rack 2 = .ok (.lconst 0, 1) := by decide +kernel
theorem dX9_rack_3 : decode cX9_rack 3 = .ok (.ldc2_w 81, 3) := by decide +kernel
theorem dX9_rack_6 : decode cX9_rack 6 = .ok (.invokestatic 77, 3) := by decide +kernel
theorem dX9_rack_9 : decode cX9_rack 9 = .ok (.ifCond .eq 35, 3) := by decide +kernel
theorem dX9_rack_12 : decode cX9_rack 12 = .ok (.iload_n 2, 1) := by decide +kernel
theorem dX9_rack_13 : decode cX9_rack 13 = .ok (.i2l, 1) := by decide +kernel
theorem dX9_rack_14 : decode cX9_rack 14 = .ok (.lconst 0, 1) := by decide +kernel
theorem dX9_rack_15 : decode cX9_rack 15 = .ok (.aload_n 0, 1) := by decide +kernel
theorem dX9_rack_16 : decode cX9_rack 16 = .ok (.getfield 41, 3) := by decide +kernel
theorem dX9_rack_19 : decode cX9_rack 19 = .ok (.iload_n 1, 1) := by decide +kernel
theorem dX9_rack_20 : decode cX9_rack 20 = .ok (.iaload, 1) := by decide +kernel
theorem dX9_rack_21 : decode cX9_rack 21 = .ok (.iconst 1, 1) := by decide +kernel
theorem dX9_rack_22 : decode cX9_rack 22 = .ok (.isub, 1) := by decide +kernel
theorem dX9_rack_23 : decode cX9_rack 23 = .ok (.i2l, 1) := by decide +kernel
theorem dX9_rack_24 : decode cX9_rack 24 = .ok (.invokestatic 77, 3) := by decide +kernel
theorem dX9_rack_27 : decode cX9_rack 27 = .ok (.ifCond .eq 17, 3) := by decide +kernel
theorem dX9_rack_30 : decode cX9_rack 30 = .ok (.aload_n 0, 1) := by decide +kernel
theorem dX9_rack_31 : decode cX9_rack 31 = .ok (.getfield 47, 3) := by decide +kernel
theorem dX9_rack_34 : decode cX9_rack 34 = .ok (.bipush 20, 2) := by decide +kernel
theorem dX9_rack_36 : decode cX9_rack 36 = .ok (.iload_n 1, 1) := by decide +kernel
theorem dX9_rack_37 : decode cX9_rack 37 = .ok (.imul, 1) := by decide +kernel
theorem dX9_rack_38 : decode cX9_rack 38 = .ok (.iload_n 2, 1) := by decide +kernel
theorem dX9_rack_39 : decode cX9_rack 39 = .ok (.iadd, 1) := by decide +kernel
theorem dX9_rack_40 : decode cX9_rack 40 = .ok (.iaload, 1) := by decide +kernel
theorem dX9_rack_41 : decode cX9_rack 41 = .ok (.goto 4, 3) := by decide +kernel
theorem dX9_rack_44 : decode cX9_rack 44 = .ok (.iconst (-1), 1) := by decide +kernel
theorem dX9_rack_45 : decode cX9_rack 45 = .ok (.istore_n 3, 1) := by decide +kernel
theorem dX9_rack_46 : decode cX9_rack 46 = .ok (.iload_n 3, 1) := by decide +kernel
theorem dX9_rack_47 : decode cX9_rack 47 = .ok (.iconst (-1), 1) := by decide +kernel
theorem dX9_rack_48 : decode cX9_rack 48 = .ok (.if_icmp .ne 8, 3) := by decide +kernel
theorem dX9_rack_51 : decode cX9_rack 51 = .ok (.ldc 175, 2) := by decide +kernel
theorem dX9_rack_53 : decode cX9_rack 53 = .ok (.goto 26, 3) := by decide +kernel
theorem dX9_rack_56 : decode cX9_rack 56 = .ok (.aload_n 0, 1) := by decide +kernel
theorem dX9_rack_57 : decode cX9_rack 57 = .ok (.getfield 26, 3) := by decide +kernel
theorem dX9_rack_60 : decode cX9_rack 60 = .ok (.iload_n 3, 1) := by decide +kernel
theorem dX9_rack_61 : decode cX9_rack 61 = .ok (.iaload, 1) := by decide +kernel
theorem dX9_rack_62 : decode cX9_rack 62 = .ok (.aload_n 0, 1) := by decide +kernel
theorem dX9_rack_63 : decode cX9_rack 63 = .ok (.getfield 32, 3) := by decide +kernel
theorem dX9_rack_66 : decode cX9_rack 66 = .ok (.iload_n 3, 1) := by decide +kernel
theorem dX9_rack_67 : decode cX9_rack 67 = .ok (.baload, 1) := by decide +kernel
theorem dX9_rack_68 : decode cX9_rack 68 = .ok (.ifCond .eq 9, 3) := by decide +kernel
theorem dX9_rack_71 : decode cX9_rack 71 = .ok (.sipush 1000, 3) := by decide +kernel
theorem dX9_rack_74 : decode cX9_rack 74 = .ok (.goto 4, 3) := by decide +kernel
theorem dX9_rack_77 : decode cX9_rack 77 = .ok (.iconst 0, 1) := by decide +kernel
theorem dX9_rack_78 : decode cX9_rack 78 = .ok (.iadd, 1) := by decide +kernel
theorem dX9_rack_79 : decode cX9_rack 79 = .ok (.ireturn, 1) := by decide +kernel
theorem dX9_grid_0 : decode cX9_grid 0 = .ok (.iload_n 1, 1) := by decide +kernel
theorem dX9_grid_1 : decode cX9_grid 1 = .ok (.i2l, 1) := by decide +kernel
theorem dX9_grid_2 : decode cX9_grid 2 = .ok (.lconst 0, 1) := by decide +kernel
theorem dX9_grid_3 : decode cX9_grid 3 = .ok (.ldc2_w 81, 3) := by decide +kernel
theorem dX9_grid_6 : decode cX9_grid 6 = .ok (.invokestatic 77, 3) := by decide +kernel
theorem dX9_grid_9 : decode cX9_grid 9 = .ok (.ifCond .eq 59, 3) := by decide +kernel
theorem dX9_grid_12 : decode cX9_grid 12 = .ok (.iload_n 2, 1) := by decide +kernel
theorem dX9_grid_13 : decode cX9_grid 13 = .ok (.i2l, 1) := by decide +kernel
theorem dX9_grid_14 : decode cX9_grid 14 = .ok (.lconst 0, 1) := by decide +kernel
theorem dX9_grid_15 : decode cX9_grid 15 = .ok (.aload_n 0, 1) := by decide +kernel
theorem dX9_grid_16 : decode cX9_grid 16 = .ok (.getfield 50, 3) := by decide +kernel
theorem dX9_grid_19 : decode cX9_grid 19 = .ok (.iload_n 1, 1) := by decide +kernel
theorem dX9_grid_20 : decode cX9_grid 20 = .ok (.iaload, 1) := by decide +kernel
theorem dX9_grid_21 : decode cX9_grid 21 = .ok (.iconst 1, 1) := by decide +kernel
theorem dX9_grid_22 : decode cX9_grid 22 = .ok (.isub, 1) := by decide +kernel
theorem dX9_grid_23 : decode cX9_grid 23 = .ok (.i2l, 1) := by decide +kernel
theorem dX9_grid_24 : decode cX9_grid 24 = .ok (.invokestatic 77, 3) := by decide +kernel
theorem dX9_grid_27 : decode cX9_grid 27 = .ok (.ifCond .eq 41, 3) := by decide +kernel
theorem dX9_grid_30 : decode cX9_grid 30 = .ok (.iload_n 3, 1) := by decide +kernel
theorem dX9_grid_31 : decode cX9_grid 31 = .ok (.i2l, 1) := by decide +kernel
theorem dX9_grid_32 : decode cX9_grid 32 = .ok (.lconst 0, 1) := by decide +kernel
theorem dX9_grid_33 : decode cX9_grid 33 = .ok (.aload_n 0, 1) := by decide +kernel
theorem dX9_grid_34 : decode cX9_grid 34 = .ok (.getfield 53, 3) := by decide +kernel
theorem dX9_grid_37 : decode cX9_grid 37 = .ok (.iload_n 1, 1) := by decide +kernel
theorem dX9_grid_38 : decode cX9_grid 38 = .ok (.iaload, 1) := by decide +kernel
theorem dX9_grid_39 : decode cX9_grid 39 = .ok (.iconst 1, 1) := by decide +kernel
theorem dX9_grid_40 : decode cX9_grid 40 = .ok (.isub, 1) := by decide +kernel
theorem dX9_grid_41 : decode cX9_grid 41 = .ok (.i2l, 1) := by decide +kernel
theorem dX9_grid_42 : decode cX9_grid 42 = .ok (.invokestatic 77, 3) := by decide +kernel
theorem dX9_grid_45 : decode cX9_grid 45 = .ok (.ifCond .eq 23, 3) := by decide +kernel
theorem dX9_grid_48 : decode cX9_grid 48 = .ok (.aload_n 0, 1) := by decide +kernel
theorem dX9_grid_49 : decode cX9_grid 49 = .ok (.getfield 56, 3) := by decide +kernel
theorem dX9_grid_52 : decode cX9_grid 52 = .ok (.sipush 400, 3) := by decide +kernel
theorem dX9_grid_55 : decode cX9_grid 55 = .ok (.iload_n 1, 1) := by decide +kernel
theorem dX9_grid_56 : decode cX9_grid 56 = .ok (.imul, 1) := by decide +kernel
theorem dX9_grid_57 : decode cX9_grid 57 = .ok (.bipush 20, 2) := by decide +kernel
theorem dX9_grid_59 : decode cX9_grid 59 = .ok (.iload_n 2, 1) := by decide +kernel
theorem dX9_grid_60 : decode cX9_grid 60 = .ok (.imul, 1) := by decide +kernel
theorem dX9_grid_61 : decode cX9_grid 61 = .ok (.iadd, 1) := by decide +kernel
theorem dX9_grid_62 : decode cX9_grid 62 = .ok (.iload_n 3, 1) := by decide +kernel
theorem dX9_grid_63 : decode cX9_grid 63 = .ok (.iadd, 1) := by decide +kernel
theorem dX9_grid_64 : decode cX9_grid 64 = .ok (.iaload, 1) := by decide +kernel
theorem dX9_grid_65 : decode cX9_grid 65 = .ok (.goto 4, 3) := by decide +kernel
theorem dX9_grid_68 : decode cX9_grid 68 = .ok (.iconst 0, 1) := by decide +kernel
theorem dX9_grid_69 : decode cX9_grid 69 = .ok (.ireturn, 1) := by decide +kernel
theorem dJ7_fill_53178_0 : decode cJ7_fill_53178 0 = .ok (.iconst 0, 1) := by decide +kernel
theorem dJ7_fill_53178_1 : decode cJ7_fill_53178 1 = .ok (.istore_n 2, 1) := by decide +kernel
theorem dJ7_fill_53178_2 : decode cJ7_fill_53178 2 = .ok (.aload_n 0, 1) := by decide +kernel
theorem dJ7_fill_53178_3 : decode cJ7_fill_53178 3 = .ok (.arraylength, 1) := by decide +kernel
theorem dJ7_fill_53178_4 : decode cJ7_fill_53178 4 = .ok (.istore_n 3, 1) := by decide +kernel
theorem dJ7_fill_53178_5 : decode cJ7_fill_53178 5 = .ok (.iload_n 2, 1) := by decide +kernel
theorem dJ7_fill_53178_6 : decode cJ7_fill_53178 6 = .ok (.iload_n 3, 1) := by decide +kernel
theorem dJ7_fill_53178_7 : decode cJ7_fill_53178 7 = .ok (.if_icmp .ge 13, 3) := by decide +kernel
theorem dJ7_fill_53178_10 : decode cJ7_fill_53178 10 = .ok (.aload_n 0, 1) := by decide +kernel
theorem dJ7_fill_53178_11 : decode cJ7_fill_53178 11 = .ok (.iload_n 2, 1) := by decide +kernel
theorem dJ7_fill_53178_12 : decode cJ7_fill_53178 12 = .ok (.iload_n 1, 1) := by decide +kernel
theorem dJ7_fill_53178_13 : decode cJ7_fill_53178 13 = .ok (.iastore, 1) := by decide +kernel
theorem dJ7_fill_53178_14 : decode cJ7_fill_53178 14 = .ok (.iinc 2 1, 3) := by decide +kernel
theorem dJ7_fill_53178_17 : decode cJ7_fill_53178 17 = .ok (.goto (-12), 3) := by decide +kernel
theorem dJ7_fill_53178_20 : decode cJ7_fill_53178 20 = .ok (.return_, 1) := by decide +kernel
theorem dL_law_0 : decode cL_law 0 = .ok (.new 7, 3) := by decide +kernel
theorem dL_law_3 : decode cL_law 3 = .ok (.dup, 1) := by decide +kernel
theorem dL_law_4 : decode cL_law 4 = .ok (.invokespecial 9, 3) := by decide +kernel
theorem dL_law_7 : decode cL_law 7 = .ok (.astore_n 1, 1) := by decide +kernel
theorem dL_law_8 : decode cL_law 8 = .ok (.new 10, 3) := by decide +kernel
theorem dL_law_11 : decode cL_law 11 = .ok (.dup, 1) := by decide +kernel
theorem dL_law_12 : decode cL_law 12 = .ok (.invokespecial 12, 3) := by decide +kernel
theorem dL_law_15 : decode cL_law 15 = .ok (.astore_n 2, 1) := by decide +kernel
theorem dL_law_16 : decode cL_law 16 = .ok (.iconst 0, 1) := by decide +kernel
theorem dL_law_17 : decode cL_law 17 = .ok (.istore_n 3, 1) := by decide +kernel
theorem dL_law_18 : decode cL_law 18 = .ok (.iload_n 3, 1) := by decide +kernel
theorem dL_law_19 : decode cL_law 19 = .ok (.aload_n 0, 1) := by decide +kernel
theorem dL_law_20 : decode cL_law 20 = .ok (.arraylength, 1) := by decide +kernel
theorem dL_law_21 : decode cL_law 21 = .ok (.bipush 7, 2) := by decide +kernel
theorem dL_law_23 : decode cL_law 23 = .ok (.isub, 1) := by decide +kernel
theorem dL_law_24 : decode cL_law 24 = .ok (.if_icmp .gt 461, 3) := by decide +kernel
theorem dL_law_27 : decode cL_law 27 = .ok (.aload_n 0, 1) := by decide +kernel
theorem dL_law_28 : decode cL_law 28 = .ok (.iload_n 3, 1) := by decide +kernel
theorem dL_law_29 : decode cL_law 29 = .ok (.iaload, 1) := by decide +kernel
theorem dL_law_30 : decode cL_law 30 = .ok (.bipush 15, 2) := by decide +kernel
theorem dL_law_32 : decode cL_law 32 = .ok (.iand, 1) := by decide +kernel
theorem dL_law_33 : decode cL_law 33 = .ok (.tableswitch 446 0 10 #[59, 113, 188, 211, 244, 267, 281, 304, 337, 370, 403], 59) := by decide +kernel
theorem dL_law_92 : decode cL_law 92 = .ok (.aload_n 1, 1) := by decide +kernel
theorem dL_law_93 : decode cL_law 93 = .ok (.aload_n 0, 1) := by decide +kernel
theorem dL_law_94 : decode cL_law 94 = .ok (.iload_n 3, 1) := by decide +kernel
theorem dL_law_95 : decode cL_law 95 = .ok (.iconst 1, 1) := by decide +kernel
theorem dL_law_96 : decode cL_law 96 = .ok (.iadd, 1) := by decide +kernel
theorem dL_law_97 : decode cL_law 97 = .ok (.iaload, 1) := by decide +kernel
theorem dL_law_98 : decode cL_law 98 = .ok (.aload_n 0, 1) := by decide +kernel
theorem dL_law_99 : decode cL_law 99 = .ok (.iload_n 3, 1) := by decide +kernel
theorem dL_law_100 : decode cL_law 100 = .ok (.iconst 2, 1) := by decide +kernel
theorem dL_law_101 : decode cL_law 101 = .ok (.iadd, 1) := by decide +kernel
theorem dL_law_102 : decode cL_law 102 = .ok (.iaload, 1) := by decide +kernel
theorem dL_law_103 : decode cL_law 103 = .ok (.aload_n 0, 1) := by decide +kernel
theorem dL_law_104 : decode cL_law 104 = .ok (.iload_n 3, 1) := by decide +kernel
theorem dL_law_105 : decode cL_law 105 = .ok (.iconst 3, 1) := by decide +kernel
theorem dL_law_106 : decode cL_law 106 = .ok (.iadd, 1) := by decide +kernel
theorem dL_law_107 : decode cL_law 107 = .ok (.iaload, 1) := by decide +kernel
theorem dL_law_108 : decode cL_law 108 = .ok (.aload_n 0, 1) := by decide +kernel
theorem dL_law_109 : decode cL_law 109 = .ok (.iload_n 3, 1) := by decide +kernel
theorem dL_law_110 : decode cL_law 110 = .ok (.iconst 4, 1) := by decide +kernel
theorem dL_law_111 : decode cL_law 111 = .ok (.iadd, 1) := by decide +kernel
theorem dL_law_112 : decode cL_law 112 = .ok (.iaload, 1) := by decide +kernel
theorem dL_law_113 : decode cL_law 113 = .ok (.invokevirtual 13, 3) := by decide +kernel
theorem dL_law_116 : decode cL_law 116 = .ok (.aload_n 2, 1) := by decide +kernel
theorem dL_law_117 : decode cL_law 117 = .ok (.aload_n 0, 1) := by decide +kernel
theorem dL_law_118 : decode cL_law 118 = .ok (.iload_n 3, 1) := by decide +kernel
theorem dL_law_119 : decode cL_law 119 = .ok (.iconst 1, 1) := by decide +kernel
theorem dL_law_120 : decode cL_law 120 = .ok (.iadd, 1) := by decide +kernel
theorem dL_law_121 : decode cL_law 121 = .ok (.iaload, 1) := by decide +kernel
theorem dL_law_122 : decode cL_law 122 = .ok (.aload_n 0, 1) := by decide +kernel
theorem dL_law_123 : decode cL_law 123 = .ok (.iload_n 3, 1) := by decide +kernel
theorem dL_law_124 : decode cL_law 124 = .ok (.iconst 2, 1) := by decide +kernel
theorem dL_law_125 : decode cL_law 125 = .ok (.iadd, 1) := by decide +kernel
theorem dL_law_126 : decode cL_law 126 = .ok (.iaload, 1) := by decide +kernel
theorem dL_law_127 : decode cL_law 127 = .ok (.aload_n 0, 1) := by decide +kernel
theorem dL_law_128 : decode cL_law 128 = .ok (.iload_n 3, 1) := by decide +kernel
theorem dL_law_129 : decode cL_law 129 = .ok (.iconst 3, 1) := by decide +kernel
theorem dL_law_130 : decode cL_law 130 = .ok (.iadd, 1) := by decide +kernel
theorem dL_law_131 : decode cL_law 131 = .ok (.iaload, 1) := by decide +kernel
theorem dL_law_132 : decode cL_law 132 = .ok (.aload_n 0, 1) := by decide +kernel
theorem dL_law_133 : decode cL_law 133 = .ok (.iload_n 3, 1) := by decide +kernel
theorem dL_law_134 : decode cL_law 134 = .ok (.iconst 4, 1) := by decide +kernel
theorem dL_law_135 : decode cL_law 135 = .ok (.iadd, 1) := by decide +kernel
theorem dL_law_136 : decode cL_law 136 = .ok (.iaload, 1) := by decide +kernel
theorem dL_law_137 : decode cL_law 137 = .ok (.invokevirtual 17, 3) := by decide +kernel
theorem dL_law_140 : decode cL_law 140 = .ok (.lcmp, 1) := by decide +kernel
theorem dL_law_141 : decode cL_law 141 = .ok (.ifCond .eq 338, 3) := by decide +kernel
theorem dL_law_144 : decode cL_law 144 = .ok (.iconst 0, 1) := by decide +kernel
theorem dL_law_145 : decode cL_law 145 = .ok (.ireturn, 1) := by decide +kernel
theorem dL_law_146 : decode cL_law 146 = .ok (.aload_n 1, 1) := by decide +kernel
theorem dL_law_147 : decode cL_law 147 = .ok (.aload_n 0, 1) := by decide +kernel
theorem dL_law_148 : decode cL_law 148 = .ok (.iload_n 3, 1) := by decide +kernel
theorem dL_law_149 : decode cL_law 149 = .ok (.iconst 1, 1) := by decide +kernel
theorem dL_law_150 : decode cL_law 150 = .ok (.iadd, 1) := by decide +kernel
theorem dL_law_151 : decode cL_law 151 = .ok (.iaload, 1) := by decide +kernel
theorem dL_law_152 : decode cL_law 152 = .ok (.aload_n 0, 1) := by decide +kernel
theorem dL_law_153 : decode cL_law 153 = .ok (.iload_n 3, 1) := by decide +kernel
theorem dL_law_154 : decode cL_law 154 = .ok (.iconst 2, 1) := by decide +kernel
theorem dL_law_155 : decode cL_law 155 = .ok (.iadd, 1) := by decide +kernel
theorem dL_law_156 : decode cL_law 156 = .ok (.iaload, 1) := by decide +kernel
theorem dL_law_157 : decode cL_law 157 = .ok (.aload_n 0, 1) := by decide +kernel
theorem dL_law_158 : decode cL_law 158 = .ok (.iload_n 3, 1) := by decide +kernel
theorem dL_law_159 : decode cL_law 159 = .ok (.iconst 3, 1) := by decide +kernel
theorem dL_law_160 : decode cL_law 160 = .ok (.iadd, 1) := by decide +kernel
theorem dL_law_161 : decode cL_law 161 = .ok (.iaload, 1) := by decide +kernel
theorem dL_law_162 : decode cL_law 162 = .ok (.aload_n 0, 1) := by decide +kernel
theorem dL_law_163 : decode cL_law 163 = .ok (.iload_n 3, 1) := by decide +kernel
theorem dL_law_164 : decode cL_law 164 = .ok (.iconst 4, 1) := by decide +kernel
theorem dL_law_165 : decode cL_law 165 = .ok (.iadd, 1) := by decide +kernel
theorem dL_law_166 : decode cL_law 166 = .ok (.iaload, 1) := by decide +kernel
theorem dL_law_167 : decode cL_law 167 = .ok (.aload_n 0, 1) := by decide +kernel
theorem dL_law_168 : decode cL_law 168 = .ok (.iload_n 3, 1) := by decide +kernel
theorem dL_law_169 : decode cL_law 169 = .ok (.iconst 5, 1) := by decide +kernel
theorem dL_law_170 : decode cL_law 170 = .ok (.iadd, 1) := by decide +kernel
theorem dL_law_171 : decode cL_law 171 = .ok (.iaload, 1) := by decide +kernel
theorem dL_law_172 : decode cL_law 172 = .ok (.aload_n 0, 1) := by decide +kernel
theorem dL_law_173 : decode cL_law 173 = .ok (.iload_n 3, 1) := by decide +kernel
theorem dL_law_174 : decode cL_law 174 = .ok (.bipush 6, 2) := by decide +kernel
theorem dL_law_176 : decode cL_law 176 = .ok (.iadd, 1) := by decide +kernel
theorem dL_law_177 : decode cL_law 177 = .ok (.iaload, 1) := by decide +kernel
theorem dL_law_178 : decode cL_law 178 = .ok (.invokevirtual 18, 3) := by decide +kernel
theorem dL_law_181 : decode cL_law 181 = .ok (.aload_n 2, 1) := by decide +kernel
theorem dL_law_182 : decode cL_law 182 = .ok (.aload_n 0, 1) := by decide +kernel
theorem dL_law_183 : decode cL_law 183 = .ok (.iload_n 3, 1) := by decide +kernel
theorem dL_law_184 : decode cL_law 184 = .ok (.iconst 1, 1) := by decide +kernel
theorem dL_law_185 : decode cL_law 185 = .ok (.iadd, 1) := by decide +kernel
theorem dL_law_186 : decode cL_law 186 = .ok (.iaload, 1) := by decide +kernel
theorem dL_law_187 : decode cL_law 187 = .ok (.aload_n 0, 1) := by decide +kernel
theorem dL_law_188 : decode cL_law 188 = .ok (.iload_n 3, 1) := by decide +kernel
theorem dL_law_189 : decode cL_law 189 = .ok (.iconst 2, 1) := by decide +kernel
theorem dL_law_190 : decode cL_law 190 = .ok (.iadd, 1) := by decide +kernel
theorem dL_law_191 : decode cL_law 191 = .ok (.iaload, 1) := by decide +kernel
theorem dL_law_192 : decode cL_law 192 = .ok (.aload_n 0, 1) := by decide +kernel
theorem dL_law_193 : decode cL_law 193 = .ok (.iload_n 3, 1) := by decide +kernel
theorem dL_law_194 : decode cL_law 194 = .ok (.iconst 3, 1) := by decide +kernel
theorem dL_law_195 : decode cL_law 195 = .ok (.iadd, 1) := by decide +kernel
theorem dL_law_196 : decode cL_law 196 = .ok (.iaload, 1) := by decide +kernel
theorem dL_law_197 : decode cL_law 197 = .ok (.aload_n 0, 1) := by decide +kernel
theorem dL_law_198 : decode cL_law 198 = .ok (.iload_n 3, 1) := by decide +kernel
theorem dL_law_199 : decode cL_law 199 = .ok (.iconst 4, 1) := by decide +kernel
theorem dL_law_200 : decode cL_law 200 = .ok (.iadd, 1) := by decide +kernel
theorem dL_law_201 : decode cL_law 201 = .ok (.iaload, 1) := by decide +kernel
theorem dL_law_202 : decode cL_law 202 = .ok (.aload_n 0, 1) := by decide +kernel
theorem dL_law_203 : decode cL_law 203 = .ok (.iload_n 3, 1) := by decide +kernel
theorem dL_law_204 : decode cL_law 204 = .ok (.iconst 5, 1) := by decide +kernel
theorem dL_law_205 : decode cL_law 205 = .ok (.iadd, 1) := by decide +kernel
theorem dL_law_206 : decode cL_law 206 = .ok (.iaload, 1) := by decide +kernel
theorem dL_law_207 : decode cL_law 207 = .ok (.aload_n 0, 1) := by decide +kernel
theorem dL_law_208 : decode cL_law 208 = .ok (.iload_n 3, 1) := by decide +kernel
theorem dL_law_209 : decode cL_law 209 = .ok (.bipush 6, 2) := by decide +kernel
theorem dL_law_211 : decode cL_law 211 = .ok (.iadd, 1) := by decide +kernel
theorem dL_law_212 : decode cL_law 212 = .ok (.iaload, 1) := by decide +kernel
theorem dL_law_213 : decode cL_law 213 = .ok (.invokevirtual 22, 3) := by decide +kernel
theorem dL_law_216 : decode cL_law 216 = .ok (.if_icmp .eq 263, 3) := by decide +kernel
theorem dL_law_219 : decode cL_law 219 = .ok (.iconst 0, 1) := by decide +kernel
theorem dL_law_220 : decode cL_law 220 = .ok (.ireturn, 1) := by decide +kernel
theorem dL_law_221 : decode cL_law 221 = .ok (.aload_n 1, 1) := by decide +kernel
theorem dL_law_222 : decode cL_law 222 = .ok (.aload_n 0, 1) := by decide +kernel
theorem dL_law_223 : decode cL_law 223 = .ok (.iload_n 3, 1) := by decide +kernel
theorem dL_law_224 : decode cL_law 224 = .ok (.iconst 1, 1) := by decide +kernel
theorem dL_law_225 : decode cL_law 225 = .ok (.iadd, 1) := by decide +kernel
theorem dL_law_226 : decode cL_law 226 = .ok (.iaload, 1) := by decide +kernel
theorem dL_law_227 : decode cL_law 227 = .ok (.invokevirtual 23, 3) := by decide +kernel
theorem dL_law_230 : decode cL_law 230 = .ok (.aload_n 2, 1) := by decide +kernel
theorem dL_law_231 : decode cL_law 231 = .ok (.aload_n 0, 1) := by decide +kernel
theorem dL_law_232 : decode cL_law 232 = .ok (.iload_n 3, 1) := by decide +kernel
theorem dL_law_233 : decode cL_law 233 = .ok (.iconst 1, 1) := by decide +kernel
theorem dL_law_234 : decode cL_law 234 = .ok (.iadd, 1) := by decide +kernel
theorem dL_law_235 : decode cL_law 235 = .ok (.iaload, 1) := by decide +kernel
theorem dL_law_236 : decode cL_law 236 = .ok (.invokevirtual 27, 3) := by decide +kernel
theorem dL_law_239 : decode cL_law 239 = .ok (.if_icmp .eq 240, 3) := by decide +kernel
theorem dL_law_242 : decode cL_law 242 = .ok (.iconst 0, 1) := by decide +kernel
theorem dL_law_243 : decode cL_law 243 = .ok (.ireturn, 1) := by decide +kernel
theorem dL_law_244 : decode cL_law 244 = .ok (.aload_n 1, 1) := by decide +kernel
theorem dL_law_245 : decode cL_law 245 = .ok (.aload_n 0, 1) := by decide +kernel
theorem dL_law_246 : decode cL_law 246 = .ok (.iload_n 3, 1) := by decide +kernel
theorem dL_law_247 : decode cL_law 247 = .ok (.iconst 1, 1) := by decide +kernel
theorem dL_law_248 : decode cL_law 248 = .ok (.iadd, 1) := by decide +kernel
theorem dL_law_249 : decode cL_law 249 = .ok (.iaload, 1) := by decide +kernel
theorem dL_law_250 : decode cL_law 250 = .ok (.aload_n 0, 1) := by decide +kernel
theorem dL_law_251 : decode cL_law 251 = .ok (.iload_n 3, 1) := by decide +kernel
theorem dL_law_252 : decode cL_law 252 = .ok (.iconst 2, 1) := by decide +kernel
theorem dL_law_253 : decode cL_law 253 = .ok (.iadd, 1) := by decide +kernel
theorem dL_law_254 : decode cL_law 254 = .ok (.iaload, 1) := by decide +kernel
theorem dL_law_255 : decode cL_law 255 = .ok (.invokevirtual 28, 3) := by decide +kernel
theorem dL_law_258 : decode cL_law 258 = .ok (.aload_n 2, 1) := by decide +kernel
theorem dL_law_259 : decode cL_law 259 = .ok (.aload_n 0, 1) := by decide +kernel
theorem dL_law_260 : decode cL_law 260 = .ok (.iload_n 3, 1) := by decide +kernel
theorem dL_law_261 : decode cL_law 261 = .ok (.iconst 1, 1) := by decide +kernel
theorem dL_law_262 : decode cL_law 262 = .ok (.iadd, 1) := by decide +kernel
theorem dL_law_263 : decode cL_law 263 = .ok (.iaload, 1) := by decide +kernel
theorem dL_law_264 : decode cL_law 264 = .ok (.aload_n 0, 1) := by decide +kernel
theorem dL_law_265 : decode cL_law 265 = .ok (.iload_n 3, 1) := by decide +kernel
theorem dL_law_266 : decode cL_law 266 = .ok (.iconst 2, 1) := by decide +kernel
theorem dL_law_267 : decode cL_law 267 = .ok (.iadd, 1) := by decide +kernel
theorem dL_law_268 : decode cL_law 268 = .ok (.iaload, 1) := by decide +kernel
theorem dL_law_269 : decode cL_law 269 = .ok (.invokevirtual 32, 3) := by decide +kernel
theorem dL_law_272 : decode cL_law 272 = .ok (.if_icmp .eq 207, 3) := by decide +kernel
theorem dL_law_275 : decode cL_law 275 = .ok (.iconst 0, 1) := by decide +kernel
theorem dL_law_276 : decode cL_law 276 = .ok (.ireturn, 1) := by decide +kernel
theorem dL_law_277 : decode cL_law 277 = .ok (.aload_n 1, 1) := by decide +kernel
theorem dL_law_278 : decode cL_law 278 = .ok (.aload_n 0, 1) := by decide +kernel
theorem dL_law_279 : decode cL_law 279 = .ok (.iload_n 3, 1) := by decide +kernel
theorem dL_law_280 : decode cL_law 280 = .ok (.iconst 1, 1) := by decide +kernel
theorem dL_law_281 : decode cL_law 281 = .ok (.iadd, 1) := by decide +kernel
theorem dL_law_282 : decode cL_law 282 = .ok (.iaload, 1) := by decide +kernel
theorem dL_law_283 : decode cL_law 283 = .ok (.invokevirtual 33, 3) := by decide +kernel
theorem dL_law_286 : decode cL_law 286 = .ok (.aload_n 2, 1) := by decide +kernel
theorem dL_law_287 : decode cL_law 287 = .ok (.aload_n 0, 1) := by decide +kernel
theorem dL_law_288 : decode cL_law 288 = .ok (.iload_n 3, 1) := by decide +kernel
theorem dL_law_289 : decode cL_law 289 = .ok (.iconst 1, 1) := by decide +kernel
theorem dL_law_290 : decode cL_law 290 = .ok (.iadd, 1) := by decide +kernel
theorem dL_law_291 : decode cL_law 291 = .ok (.iaload, 1) := by decide +kernel
theorem dL_law_292 : decode cL_law 292 = .ok (.invokevirtual 36, 3) := by decide +kernel
theorem dL_law_295 : decode cL_law 295 = .ok (.if_icmp .eq 184, 3) := by decide +kernel
theorem dL_law_298 : decode cL_law 298 = .ok (.iconst 0, 1) := by decide +kernel
theorem dL_law_299 : decode cL_law 299 = .ok (.ireturn, 1) := by decide +kernel
theorem dL_law_300 : decode cL_law 300 = .ok (.aload_n 1, 1) := by decide +kernel
theorem dL_law_301 : decode cL_law 301 = .ok (.invokevirtual 37, 3) := by decide +kernel
theorem dL_law_304 : decode cL_law 304 = .ok (.aload_n 2, 1) := by decide +kernel
theorem dL_law_305 : decode cL_law 305 = .ok (.invokevirtual 41, 3) := by decide +kernel
theorem dL_law_308 : decode cL_law 308 = .ok (.lcmp, 1) := by decide +kernel
theorem dL_law_309 : decode cL_law 309 = .ok (.ifCond .eq 170, 3) := by decide +kernel
theorem dL_law_312 : decode cL_law 312 = .ok (.iconst 0, 1) := by decide +kernel
theorem dL_law_313 : decode cL_law 313 = .ok (.ireturn, 1) := by decide +kernel
theorem dL_law_314 : decode cL_law 314 = .ok (.aload_n 1, 1) := by decide +kernel
theorem dL_law_315 : decode cL_law 315 = .ok (.aload_n 0, 1) := by decide +kernel
theorem dL_law_316 : decode cL_law 316 = .ok (.iload_n 3, 1) := by decide +kernel
theorem dL_law_317 : decode cL_law 317 = .ok (.iconst 1, 1) := by decide +kernel
theorem dL_law_318 : decode cL_law 318 = .ok (.iadd, 1) := by decide +kernel
theorem dL_law_319 : decode cL_law 319 = .ok (.iaload, 1) := by decide +kernel
theorem dL_law_320 : decode cL_law 320 = .ok (.invokevirtual 42, 3) := by decide +kernel
theorem dL_law_323 : decode cL_law 323 = .ok (.aload_n 2, 1) := by decide +kernel
theorem dL_law_324 : decode cL_law 324 = .ok (.aload_n 0, 1) := by decide +kernel
theorem dL_law_325 : decode cL_law 325 = .ok (.iload_n 3, 1) := by decide +kernel
theorem dL_law_326 : decode cL_law 326 = .ok (.iconst 1, 1) := by decide +kernel
theorem dL_law_327 : decode cL_law 327 = .ok (.iadd, 1) := by decide +kernel
theorem dL_law_328 : decode cL_law 328 = .ok (.iaload, 1) := by decide +kernel
theorem dL_law_329 : decode cL_law 329 = .ok (.invokevirtual 45, 3) := by decide +kernel
theorem dL_law_332 : decode cL_law 332 = .ok (.if_icmp .eq 147, 3) := by decide +kernel
theorem dL_law_335 : decode cL_law 335 = .ok (.iconst 0, 1) := by decide +kernel
theorem dL_law_336 : decode cL_law 336 = .ok (.ireturn, 1) := by decide +kernel
theorem dL_law_337 : decode cL_law 337 = .ok (.aload_n 1, 1) := by decide +kernel
theorem dL_law_338 : decode cL_law 338 = .ok (.aload_n 0, 1) := by decide +kernel
theorem dL_law_339 : decode cL_law 339 = .ok (.iload_n 3, 1) := by decide +kernel
theorem dL_law_340 : decode cL_law 340 = .ok (.iconst 1, 1) := by decide +kernel
theorem dL_law_341 : decode cL_law 341 = .ok (.iadd, 1) := by decide +kernel
theorem dL_law_342 : decode cL_law 342 = .ok (.iaload, 1) := by decide +kernel
theorem dL_law_343 : decode cL_law 343 = .ok (.aload_n 0, 1) := by decide +kernel
theorem dL_law_344 : decode cL_law 344 = .ok (.iload_n 3, 1) := by decide +kernel
theorem dL_law_345 : decode cL_law 345 = .ok (.iconst 2, 1) := by decide +kernel
theorem dL_law_346 : decode cL_law 346 = .ok (.iadd, 1) := by decide +kernel
theorem dL_law_347 : decode cL_law 347 = .ok (.iaload, 1) := by decide +kernel
theorem dL_law_348 : decode cL_law 348 = .ok (.invokevirtual 46, 3) := by decide +kernel
theorem dL_law_351 : decode cL_law 351 = .ok (.aload_n 2, 1) := by decide +kernel
theorem dL_law_352 : decode cL_law 352 = .ok (.aload_n 0, 1) := by decide +kernel
theorem dL_law_353 : decode cL_law 353 = .ok (.iload_n 3, 1) := by decide +kernel
theorem dL_law_354 : decode cL_law 354 = .ok (.iconst 1, 1) := by decide +kernel
theorem dL_law_355 : decode cL_law 355 = .ok (.iadd, 1) := by decide +kernel
theorem dL_law_356 : decode cL_law 356 = .ok (.iaload, 1) := by decide +kernel
theorem dL_law_357 : decode cL_law 357 = .ok (.aload_n 0, 1) := by decide +kernel
theorem dL_law_358 : decode cL_law 358 = .ok (.iload_n 3, 1) := by decide +kernel
theorem dL_law_359 : decode cL_law 359 = .ok (.iconst 2, 1) := by decide +kernel
theorem dL_law_360 : decode cL_law 360 = .ok (.iadd, 1) := by decide +kernel
theorem dL_law_361 : decode cL_law 361 = .ok (.iaload, 1) := by decide +kernel
theorem dL_law_362 : decode cL_law 362 = .ok (.invokevirtual 49, 3) := by decide +kernel
theorem dL_law_365 : decode cL_law 365 = .ok (.if_icmp .eq 114, 3) := by decide +kernel
theorem dL_law_368 : decode cL_law 368 = .ok (.iconst 0, 1) := by decide +kernel
theorem dL_law_369 : decode cL_law 369 = .ok (.ireturn, 1) := by decide +kernel
theorem dL_law_370 : decode cL_law 370 = .ok (.aload_n 1, 1) := by decide +kernel
theorem dL_law_371 : decode cL_law 371 = .ok (.aload_n 0, 1) := by decide +kernel
theorem dL_law_372 : decode cL_law 372 = .ok (.iload_n 3, 1) := by decide +kernel
theorem dL_law_373 : decode cL_law 373 = .ok (.iconst 1, 1) := by decide +kernel
theorem dL_law_374 : decode cL_law 374 = .ok (.iadd, 1) := by decide +kernel
theorem dL_law_375 : decode cL_law 375 = .ok (.iaload, 1) := by decide +kernel
theorem dL_law_376 : decode cL_law 376 = .ok (.aload_n 0, 1) := by decide +kernel
theorem dL_law_377 : decode cL_law 377 = .ok (.iload_n 3, 1) := by decide +kernel
theorem dL_law_378 : decode cL_law 378 = .ok (.iconst 2, 1) := by decide +kernel
theorem dL_law_379 : decode cL_law 379 = .ok (.iadd, 1) := by decide +kernel
theorem dL_law_380 : decode cL_law 380 = .ok (.iaload, 1) := by decide +kernel
theorem dL_law_381 : decode cL_law 381 = .ok (.invokevirtual 50, 3) := by decide +kernel
theorem dL_law_384 : decode cL_law 384 = .ok (.aload_n 2, 1) := by decide +kernel
theorem dL_law_385 : decode cL_law 385 = .ok (.aload_n 0, 1) := by decide +kernel
theorem dL_law_386 : decode cL_law 386 = .ok (.iload_n 3, 1) := by decide +kernel
theorem dL_law_387 : decode cL_law 387 = .ok (.iconst 1, 1) := by decide +kernel
theorem dL_law_388 : decode cL_law 388 = .ok (.iadd, 1) := by decide +kernel
theorem dL_law_389 : decode cL_law 389 = .ok (.iaload, 1) := by decide +kernel
theorem dL_law_390 : decode cL_law 390 = .ok (.aload_n 0, 1) := by decide +kernel
theorem dL_law_391 : decode cL_law 391 = .ok (.iload_n 3, 1) := by decide +kernel
theorem dL_law_392 : decode cL_law 392 = .ok (.iconst 2, 1) := by decide +kernel
theorem dL_law_393 : decode cL_law 393 = .ok (.iadd, 1) := by decide +kernel
theorem dL_law_394 : decode cL_law 394 = .ok (.iaload, 1) := by decide +kernel
theorem dL_law_395 : decode cL_law 395 = .ok (.invokevirtual 53, 3) := by decide +kernel
theorem dL_law_398 : decode cL_law 398 = .ok (.if_icmp .eq 81, 3) := by decide +kernel
theorem dL_law_401 : decode cL_law 401 = .ok (.iconst 0, 1) := by decide +kernel
theorem dL_law_402 : decode cL_law 402 = .ok (.ireturn, 1) := by decide +kernel
theorem dL_law_403 : decode cL_law 403 = .ok (.aload_n 1, 1) := by decide +kernel
theorem dL_law_404 : decode cL_law 404 = .ok (.aload_n 0, 1) := by decide +kernel
theorem dL_law_405 : decode cL_law 405 = .ok (.iload_n 3, 1) := by decide +kernel
theorem dL_law_406 : decode cL_law 406 = .ok (.iconst 1, 1) := by decide +kernel
theorem dL_law_407 : decode cL_law 407 = .ok (.iadd, 1) := by decide +kernel
theorem dL_law_408 : decode cL_law 408 = .ok (.iaload, 1) := by decide +kernel
theorem dL_law_409 : decode cL_law 409 = .ok (.aload_n 0, 1) := by decide +kernel
theorem dL_law_410 : decode cL_law 410 = .ok (.iload_n 3, 1) := by decide +kernel
theorem dL_law_411 : decode cL_law 411 = .ok (.iconst 2, 1) := by decide +kernel
theorem dL_law_412 : decode cL_law 412 = .ok (.iadd, 1) := by decide +kernel
theorem dL_law_413 : decode cL_law 413 = .ok (.iaload, 1) := by decide +kernel
theorem dL_law_414 : decode cL_law 414 = .ok (.invokevirtual 54, 3) := by decide +kernel
theorem dL_law_417 : decode cL_law 417 = .ok (.aload_n 2, 1) := by decide +kernel
theorem dL_law_418 : decode cL_law 418 = .ok (.aload_n 0, 1) := by decide +kernel
theorem dL_law_419 : decode cL_law 419 = .ok (.iload_n 3, 1) := by decide +kernel
theorem dL_law_420 : decode cL_law 420 = .ok (.iconst 1, 1) := by decide +kernel
theorem dL_law_421 : decode cL_law 421 = .ok (.iadd, 1) := by decide +kernel
theorem dL_law_422 : decode cL_law 422 = .ok (.iaload, 1) := by decide +kernel
theorem dL_law_423 : decode cL_law 423 = .ok (.aload_n 0, 1) := by decide +kernel
theorem dL_law_424 : decode cL_law 424 = .ok (.iload_n 3, 1) := by decide +kernel
theorem dL_law_425 : decode cL_law 425 = .ok (.iconst 2, 1) := by decide +kernel
theorem dL_law_426 : decode cL_law 426 = .ok (.iadd, 1) := by decide +kernel
theorem dL_law_427 : decode cL_law 427 = .ok (.iaload, 1) := by decide +kernel
theorem dL_law_428 : decode cL_law 428 = .ok (.invokevirtual 57, 3) := by decide +kernel
theorem dL_law_431 : decode cL_law 431 = .ok (.if_icmp .eq 48, 3) := by decide +kernel
theorem dL_law_434 : decode cL_law 434 = .ok (.iconst 0, 1) := by decide +kernel
theorem dL_law_435 : decode cL_law 435 = .ok (.ireturn, 1) := by decide +kernel
theorem dL_law_436 : decode cL_law 436 = .ok (.aload_n 1, 1) := by decide +kernel
theorem dL_law_437 : decode cL_law 437 = .ok (.aload_n 0, 1) := by decide +kernel
theorem dL_law_438 : decode cL_law 438 = .ok (.iload_n 3, 1) := by decide +kernel
theorem dL_law_439 : decode cL_law 439 = .ok (.iconst 1, 1) := by decide +kernel
theorem dL_law_440 : decode cL_law 440 = .ok (.iadd, 1) := by decide +kernel
theorem dL_law_441 : decode cL_law 441 = .ok (.iaload, 1) := by decide +kernel
theorem dL_law_442 : decode cL_law 442 = .ok (.aload_n 0, 1) := by decide +kernel
theorem dL_law_443 : decode cL_law 443 = .ok (.iload_n 3, 1) := by decide +kernel
theorem dL_law_444 : decode cL_law 444 = .ok (.iconst 2, 1) := by decide +kernel
theorem dL_law_445 : decode cL_law 445 = .ok (.iadd, 1) := by decide +kernel
theorem dL_law_446 : decode cL_law 446 = .ok (.iaload, 1) := by decide +kernel
theorem dL_law_447 : decode cL_law 447 = .ok (.aload_n 0, 1) := by decide +kernel
theorem dL_law_448 : decode cL_law 448 = .ok (.iload_n 3, 1) := by decide +kernel
theorem dL_law_449 : decode cL_law 449 = .ok (.iconst 3, 1) := by decide +kernel
theorem dL_law_450 : decode cL_law 450 = .ok (.iadd, 1) := by decide +kernel
theorem dL_law_451 : decode cL_law 451 = .ok (.iaload, 1) := by decide +kernel
theorem dL_law_452 : decode cL_law 452 = .ok (.invokevirtual 58, 3) := by decide +kernel
theorem dL_law_455 : decode cL_law 455 = .ok (.aload_n 2, 1) := by decide +kernel
theorem dL_law_456 : decode cL_law 456 = .ok (.aload_n 0, 1) := by decide +kernel
theorem dL_law_457 : decode cL_law 457 = .ok (.iload_n 3, 1) := by decide +kernel
theorem dL_law_458 : decode cL_law 458 = .ok (.iconst 1, 1) := by decide +kernel
theorem dL_law_459 : decode cL_law 459 = .ok (.iadd, 1) := by decide +kernel
theorem dL_law_460 : decode cL_law 460 = .ok (.iaload, 1) := by decide +kernel
theorem dL_law_461 : decode cL_law 461 = .ok (.aload_n 0, 1) := by decide +kernel
theorem dL_law_462 : decode cL_law 462 = .ok (.iload_n 3, 1) := by decide +kernel
theorem dL_law_463 : decode cL_law 463 = .ok (.iconst 2, 1) := by decide +kernel
theorem dL_law_464 : decode cL_law 464 = .ok (.iadd, 1) := by decide +kernel
theorem dL_law_465 : decode cL_law 465 = .ok (.iaload, 1) := by decide +kernel
theorem dL_law_466 : decode cL_law 466 = .ok (.aload_n 0, 1) := by decide +kernel
theorem dL_law_467 : decode cL_law 467 = .ok (.iload_n 3, 1) := by decide +kernel
theorem dL_law_468 : decode cL_law 468 = .ok (.iconst 3, 1) := by decide +kernel
theorem dL_law_469 : decode cL_law 469 = .ok (.iadd, 1) := by decide +kernel
theorem dL_law_470 : decode cL_law 470 = .ok (.iaload, 1) := by decide +kernel
theorem dL_law_471 : decode cL_law 471 = .ok (.invokevirtual 62, 3) := by decide +kernel
theorem dL_law_474 : decode cL_law 474 = .ok (.if_icmp .eq 5, 3) := by decide +kernel
theorem dL_law_477 : decode cL_law 477 = .ok (.iconst 0, 1) := by decide +kernel
theorem dL_law_478 : decode cL_law 478 = .ok (.ireturn, 1) := by decide +kernel
theorem dL_law_479 : decode cL_law 479 = .ok (.iinc 3 7, 3) := by decide +kernel
theorem dL_law_482 : decode cL_law 482 = .ok (.goto (-464), 3) := by decide +kernel
theorem dL_law_485 : decode cL_law 485 = .ok (.iconst 1, 1) := by decide +kernel
theorem dL_law_486 : decode cL_law 486 = .ok (.ireturn, 1) := by decide +kernel
end
section
/-! small rows for the walks: booleans, references that may be null, switches -/
def bz (b : Bool) : Int32 := if b then 1 else 0
theorem gx_nbz (b : Bool) : narrow .boolean (.int (bz b)) = .int (bz b) := by cases b <;> rfl
theorem gx_fbz (b : Bool) : fits .boolean (.int (bz b)) = true := by cases b <;> rfl
theorem gx_vbz (b : Bool) : vp_nar .boolean (bz b) = bz b := by cases b <;> rfl
theorem gx_cat (o : Option Nat) : (va_rf o).category = 1 := by cases o <;> rfl
theorem gx_fits (C : String) (o : Option Nat) : fits (.object C) (va_rf o) = true := by cases o <;> rfl
theorem gx_narr (C : String) (o : Option Nat) : narrow (.object C) (va_rf o) = va_rf o := by cases o <;> rfl
theorem gx_ne {w : fW} {a q : Nat} {x : va_E} (h : w a = some x) (n : w q = none) : a ≠ q := fun e => by rw [e, n] at h; cases h
theorem gx_upid {w : fW} {a : Nat} {x : va_E} (h : w a = some x) : va_up w a (some x) = w := by
  funext b
  by_cases hb : b = a
  · rw [hb, va_up_self, h]
  · rw [va_up_ne _ _ hb]
theorem gx_bz0 {b : Bool} (h : bz b = 0) : b = false := by cases b with | false => rfl | true => exact absurd h (by decide)
theorem gx_bz1 {b : Bool} (h : ¬ bz b = 0) : b = true := by cases b with | true => rfl | false => exact absurd rfl h
section GXR
variable {p : Program} {l : Launch} {e : Env} {R : Room} {s : State} {m : MethodId} {args : Array Value} {below : List Frame} {meth : Method} {c : Code} {H : Heap} {locs : List Loc} {cells slots : Nat} {Q : State → Prop}
variable {cc : ByteArray} {pc : Nat} {ls : Array Slot} {rest : List Value}
theorem gx_ifeq (hx : p.tables.exec = Jvm.exec) (hb : c.code = cc) {b : Bool} {off : Int} {tgt : Nat} (hdg : decode cc pc = .ok (.ifCond .eq off, 3)) (ht : (pc : Int) + off = (tgt : Int)) (kt : b = false → W p l e R s m args below meth c H locs cells slots Q (F0 m tgt ls rest)) (kf : b = true → W p l e R s m args below meth c H locs cells slots Q (F0 m (pc + 3) ls rest)) : W p l e R s m args below meth c H locs cells slots Q (F0 m pc ls (.int (bz b) :: rest)) :=
  lv_if_eq hx hb hdg ht (fun h => kt (gx_bz0 h)) (fun h => kf (gx_bz1 h))
theorem gx_ifne (hx : p.tables.exec = Jvm.exec) (hb : c.code = cc) {b : Bool} {off : Int} {tgt : Nat} (hdg : decode cc pc = .ok (.ifCond .ne off, 3)) (ht : (pc : Int) + off = (tgt : Int)) (kt : b = true → W p l e R s m args below meth c H locs cells slots Q (F0 m tgt ls rest)) (kf : b = false → W p l e R s m args below meth c H locs cells slots Q (F0 m (pc + 3) ls rest)) : W p l e R s m args below meth c H locs cells slots Q (F0 m pc ls (.int (bz b) :: rest)) :=
  lv_if_ne hx hb hdg ht (fun h => kt (gx_bz1 h)) (fun h => kf (gx_bz0 h))
theorem gx_aload_nq (hx : p.tables.exec = Jvm.exec) (hb : c.code = cc) {k : Fin 4} {i : Nat} {o : Option Nat} (hdg : decode cc pc = .ok (.aload_n k, 1)) (hi : (k : Nat) = i) (hl : ls[i]? = some (.val (va_rf o))) (kk : W p l e R s m args below meth c H locs cells slots Q (F0 m (pc + 1) ls (va_rf o :: rest))) : W p l e R s m args below meth c H locs cells slots Q (F0 m pc ls rest) := by
  cases o with
  | none => exact lv_aload_nN hx hb hdg hi hl kk
  | some x => exact lv_aload_n hx hb hdg hi hl kk
theorem gx_aloadq (hx : p.tables.exec = Jvm.exec) (hb : c.code = cc) {i : Nat} {o : Option Nat} (hdg : decode cc pc = .ok (.aload i, 2)) (hl : ls[i]? = some (.val (va_rf o))) (kk : W p l e R s m args below meth c H locs cells slots Q (F0 m (pc + 2) ls (va_rf o :: rest))) : W p l e R s m args below meth c H locs cells slots Q (F0 m pc ls rest) := by
  cases o with
  | none => exact lv_aloadN hx hb hdg hl kk
  | some x => exact lv_aload hx hb hdg hl kk
theorem gx_astore_nq (hx : p.tables.exec = Jvm.exec) (hb : c.code = cc) {k : Fin 4} {i nL : Nat} {o : Option Nat} {lv lv' : List (Nat × Value)} (hdg : decode cc pc = .ok (.astore_n k, 1)) (hi : (k : Nat) = i) (h : lv_has ls nL lv) (hn : i < nL) (hl : (i, va_rf o) :: lv.filter (fun q => !(q.1 == i) && !(q.1 + 1 == i && q.2.category == 2)) = lv') (kk : ∀ ls' : Array Slot, lv_has ls' nL lv' → W p l e R s m args below meth c H locs cells slots Q (F0 m (pc + 1) ls' rest)) : W p l e R s m args below meth c H locs cells slots Q (F0 m pc ls (va_rf o :: rest)) := by
  cases o with
  | none => exact lv_astore_nN hx hb hdg hi h hn hl kk
  | some x => exact lv_astore_n hx hb hdg hi h hn hl kk
theorem gx_astoreq (hx : p.tables.exec = Jvm.exec) (hb : c.code = cc) {i nL : Nat} {o : Option Nat} {lv lv' : List (Nat × Value)} (hdg : decode cc pc = .ok (.astore i, 2)) (h : lv_has ls nL lv) (hn : i < nL) (hl : (i, va_rf o) :: lv.filter (fun q => !(q.1 == i) && !(q.1 + 1 == i && q.2.category == 2)) = lv') (kk : ∀ ls' : Array Slot, lv_has ls' nL lv' → W p l e R s m args below meth c H locs cells slots Q (F0 m (pc + 2) ls' rest)) : W p l e R s m args below meth c H locs cells slots Q (F0 m pc ls (va_rf o :: rest)) := by
  cases o with
  | none => exact lv_astoreN hx hb hdg h hn hl kk
  | some x => exact lv_astore hx hb hdg h hn hl kk
theorem gx_ifnull (hx : p.tables.exec = Jvm.exec) (hb : c.code = cc) {o : Option Nat} {off : Int} {tgt : Nat} (hdg : decode cc pc = .ok (.ifnull off, 3)) (ht : (pc : Int) + off = (tgt : Int)) (kn : o = none → W p l e R s m args below meth c H locs cells slots Q (F0 m tgt ls rest)) (ks : ∀ x, o = some x → W p l e R s m args below meth c H locs cells slots Q (F0 m (pc + 3) ls rest)) : W p l e R s m args below meth c H locs cells slots Q (F0 m pc ls (va_rf o :: rest)) := by
  cases o with
  | none => exact lv_ifnullN hx hb hdg ht (kn rfl)
  | some x => exact lv_ifnull hx hb hdg (ks x rfl)
theorem gx_ifnonnull (hx : p.tables.exec = Jvm.exec) (hb : c.code = cc) {o : Option Nat} {off : Int} {tgt : Nat} (hdg : decode cc pc = .ok (.ifnonnull off, 3)) (ht : (pc : Int) + off = (tgt : Int)) (kn : o = none → W p l e R s m args below meth c H locs cells slots Q (F0 m (pc + 3) ls rest)) (ks : ∀ x, o = some x → W p l e R s m args below meth c H locs cells slots Q (F0 m tgt ls rest)) : W p l e R s m args below meth c H locs cells slots Q (F0 m pc ls (va_rf o :: rest)) := by
  cases o with
  | none => exact lv_ifnonnullN hx hb hdg (kn rfl)
  | some x => exact lv_ifnonnull hx hb hdg ht (ks x rfl)
end GXR
theorem gx_i (x k : Int32) {a : Int} (h : k.toInt = a) : x = k ↔ x.toInt = a := by rw [← h]; exact Int32.toInt_inj.symm
theorem gx_sw3 (x : Int32) : x = 0 ∨ x = 1 ∨ x = 2 ∨ (x.toInt < 0 ∨ 2 < x.toInt) := by
  rw [gx_i x 0 (a := 0) rfl, gx_i x 1 (a := 1) rfl, gx_i x 2 (a := 2) rfl]; omega
theorem gx_sw5 (x : Int32) : x = 0 ∨ x = 1 ∨ x = 2 ∨ x = 3 ∨ x = 4 ∨ (x.toInt < 0 ∨ 4 < x.toInt) := by
  rw [gx_i x 0 (a := 0) rfl, gx_i x 1 (a := 1) rfl, gx_i x 2 (a := 2) rfl, gx_i x 3 (a := 3) rfl, gx_i x 4 (a := 4) rfl]; omega
theorem gx_sw7 (x : Int32) : x = 0 ∨ x = 1 ∨ x = 2 ∨ x = 3 ∨ x = 4 ∨ x = 5 ∨ x = 6 ∨ (x.toInt < 0 ∨ 6 < x.toInt) := by
  rw [gx_i x 0 (a := 0) rfl, gx_i x 1 (a := 1) rfl, gx_i x 2 (a := 2) rfl, gx_i x 3 (a := 3) rfl, gx_i x 4 (a := 4) rfl, gx_i x 5 (a := 5) rfl, gx_i x 6 (a := 6) rfl]; omega
theorem gx_sw8 (x : Int32) : x = 0 ∨ x = 1 ∨ x = 2 ∨ x = 3 ∨ x = 4 ∨ x = 5 ∨ x = 6 ∨ x = 7 ∨ (x.toInt < 0 ∨ 7 < x.toInt) := by
  rw [gx_i x 0 (a := 0) rfl, gx_i x 1 (a := 1) rfl, gx_i x 2 (a := 2) rfl, gx_i x 3 (a := 3) rfl, gx_i x 4 (a := 4) rfl, gx_i x 5 (a := 5) rfl, gx_i x 6 (a := 6) rfl, gx_i x 7 (a := 7) rfl]; omega
theorem gx_sw11 (x : Int32) : x = 0 ∨ x = 1 ∨ x = 2 ∨ x = 3 ∨ x = 4 ∨ x = 5 ∨ x = 6 ∨ x = 7 ∨ x = 8 ∨ x = 9 ∨ x = 10 ∨ (x.toInt < 0 ∨ 10 < x.toInt) := by
  rw [gx_i x 0 (a := 0) rfl, gx_i x 1 (a := 1) rfl, gx_i x 2 (a := 2) rfl, gx_i x 3 (a := 3) rfl, gx_i x 4 (a := 4) rfl, gx_i x 5 (a := 5) rfl, gx_i x 6 (a := 6) rfl, gx_i x 7 (a := 7) rfl, gx_i x 8 (a := 8) rfl, gx_i x 9 (a := 9) rfl, gx_i x 10 (a := 10) rfl]; omega
theorem gx_sw16 (x : Int32) : x = 0 ∨ x = 1 ∨ x = 2 ∨ x = 3 ∨ x = 4 ∨ x = 5 ∨ x = 6 ∨ x = 7 ∨ x = 8 ∨ x = 9 ∨ x = 10 ∨ x = 11 ∨ x = 12 ∨ x = 13 ∨ x = 14 ∨ x = 15 ∨ (x.toInt < 0 ∨ 15 < x.toInt) := by
  rw [gx_i x 0 (a := 0) rfl, gx_i x 1 (a := 1) rfl, gx_i x 2 (a := 2) rfl, gx_i x 3 (a := 3) rfl, gx_i x 4 (a := 4) rfl, gx_i x 5 (a := 5) rfl, gx_i x 6 (a := 6) rfl, gx_i x 7 (a := 7) rfl, gx_i x 8 (a := 8) rfl, gx_i x 9 (a := 9) rfl, gx_i x 10 (a := 10) rfl, gx_i x 11 (a := 11) rfl, gx_i x 12 (a := 12) rfl, gx_i x 13 (a := 13) rfl, gx_i x 14 (a := 14) rfl, gx_i x 15 (a := 15) rfl]; omega
theorem gx_sw17 (x : Int32) : x = 0 ∨ x = 1 ∨ x = 2 ∨ x = 3 ∨ x = 4 ∨ x = 5 ∨ x = 6 ∨ x = 7 ∨ x = 8 ∨ x = 9 ∨ x = 10 ∨ x = 11 ∨ x = 12 ∨ x = 13 ∨ x = 14 ∨ x = 15 ∨ x = 16 ∨ (x.toInt < 0 ∨ 16 < x.toInt) := by
  rw [gx_i x 0 (a := 0) rfl, gx_i x 1 (a := 1) rfl, gx_i x 2 (a := 2) rfl, gx_i x 3 (a := 3) rfl, gx_i x 4 (a := 4) rfl, gx_i x 5 (a := 5) rfl, gx_i x 6 (a := 6) rfl, gx_i x 7 (a := 7) rfl, gx_i x 8 (a := 8) rfl, gx_i x 9 (a := 9) rfl, gx_i x 10 (a := 10) rfl, gx_i x 11 (a := 11) rfl, gx_i x 12 (a := 12) rfl, gx_i x 13 (a := 13) rfl, gx_i x 14 (a := 14) rfl, gx_i x 15 (a := 15) rfl, gx_i x 16 (a := 16) rfl]; omega
/-! the words of the spec -/
def wi (i n : Int32) : Bool := decide (0 ≤ i) && decide (i < n)
theorem wi_t {i n : Int32} (h1 : 0 ≤ i) (h2 : i < n) : wi i n = true := by simp [wi, h1, h2]
theorem wi_1 {i n : Int32} (h : wi i n = true) : 0 ≤ i := by simp [wi] at h; exact h.1
theorem wi_2 {i n : Int32} (h : wi i n = true) : i < n := by simp [wi] at h; exact h.2
abbrev ix (i : Int32) : Nat := i.toNatClampNeg
theorem wi_in {i n : Int32} {N : Nat} (h : wi i n = true) (hn : n.toInt ≤ N) : vp_in i N := by
  have h1 := Int32.le_iff_toInt_le.mp (wi_1 h)
  have h2 := Int32.lt_iff_toInt_lt.mp (wi_2 h)
  have h3 : (0 : Int32).toInt = 0 := rfl
  exact vp_in_iff.mpr ⟨by omega, by omega⟩
theorem ix_int {i : Int32} (h : 0 ≤ i) : (ix i : Int) = i.toInt := by
  have h1 := Int32.le_iff_toInt_le.mp h
  have h3 : (0 : Int32).toInt = 0 := rfl
  show (i.toInt.toNat : Int) = i.toInt
  omega
theorem wi_lt {i n : Int32} {N : Nat} (h : wi i n = true) (hn : n.toInt ≤ N) : ix i < N := by
  have h1 := ix_int (wi_1 h)
  have h2 := Int32.lt_iff_toInt_lt.mp (wi_2 h)
  omega
theorem ix_inj {i j : Int32} (hi : 0 ≤ i) (hj : 0 ≤ j) (h : ix i = ix j) : i = j := by
  have h1 := ix_int hi
  have h2 := ix_int hj
  exact Int32.toInt_inj.mp (by omega)
def fl (r : Int32) : Int64 := (-9223372036854775808) + r.toInt64
end
section
theorem wi_f1 {i n : Int32} (h : i < 0) : wi i n = false := by
  have h1 := Int32.lt_iff_toInt_lt.mp h
  have : ¬ 0 ≤ i := fun q => by have := Int32.le_iff_toInt_le.mp q; omega
  simp [wi, this]
theorem wi_f2 {i n : Int32} (h : n ≤ i) : wi i n = false := by
  have h1 := Int32.le_iff_toInt_le.mp h
  have : ¬ i < n := fun q => by have := Int32.lt_iff_toInt_lt.mp q; omega
  simp [wi, this]
theorem wi_t2 {i n : Int32} (h1 : ¬ i < 0) (h2 : ¬ n ≤ i) : wi i n = true := by
  have a1 : 0 ≤ i := by
    rw [Int32.le_iff_toInt_le]; rw [Int32.lt_iff_toInt_lt] at h1; omega
  have a2 : i < n := by
    rw [Int32.lt_iff_toInt_lt]; rw [Int32.le_iff_toInt_le] at h2; omega
  exact wi_t a1 a2
theorem i_nlt {x y : Int32} : ¬ x < y ↔ y ≤ x := by rw [Int32.lt_iff_toInt_lt, Int32.le_iff_toInt_le]; omega
theorem i_nle {x y : Int32} : ¬ x ≤ y ↔ y < x := by rw [Int32.lt_iff_toInt_lt, Int32.le_iff_toInt_le]; omega
/-- reason of an outcome, as the class reads it -/
def rsn (o : Int64) : Int32 := if o < (-2147483648) then (o - (-9223372036854775808)).toInt32 else 0
/-- a wheel: spokes, disc, turns -/
abbrev aWh : Type := Int32 × Bool × Int32
abbrev cWh (x : aWh) : va_E := .inr (7, [.int x.1, .int (bz x.2.1), .int x.2.2])
/-- a stand: bike, frame, front, rear, lamp, charge -/
abbrev aS : Type := Bool × Int32 × Option Nat × Option Nat × Int32 × Int32
abbrev cSt (x : aS) : va_E := .inr (5, [.int (bz x.1), .int x.2.1, va_rf x.2.2.1, va_rf x.2.2.2.1, .int x.2.2.2.2.1, .int x.2.2.2.2.2])
def sdw (side : Int32) (fo re : Option Nat) : Option Nat := if side &&& 1 = 0 then fo else re
def whT (x : aWh) : Int32 := (x.2.2 + 1) * x.1 + bz x.2.1
def whL (x : aWh) : Int32 := if x.2.1 then 1000 + x.1 else x.1
def whN (c : Int32) : aWh := if c < 100 then (c, false, 0) else (c - 100, true, 0)
/-- an outcome: a reason and an answer -/
def oc (r : Int32 × Int32) : Int64 := if r.1 = 0 then r.2.toInt64 else fl r.1
theorem gx_neA {w : fW} {a b : Nat} {o : Nat × List Value} {x : ClassId × vp_A} (h : w a = some (.inr o)) (h' : w b = some (.inl x)) : a ≠ b := fun e => by rw [e, h'] at h; cases h
theorem gx_neO {w : fW} {a b ci cj : Nat} {fs gs : List Value} (h : w a = some (.inr (ci, fs))) (h' : w b = some (.inr (cj, gs))) (hn : ci ≠ cj) : a ≠ b := fun e => by rw [e, h'] at h; cases h; exact hn rfl
theorem fw_P.arr {D : va_G} {cl : List vw_C} {A : Nat → Prop} {w : fW} {H : Heap} {a n : Nat} {cA : ClassId} {f g : Nat → Int32} (h : fw_P D cl A (va_up w a (some (.inl (cA, n, .inl f)))) H) (hg : ∀ j, j < n → f j = g j) : fw_P D cl A (va_up w a (some (.inl (cA, n, .inl g)))) H := by
  intro b y hb
  by_cases hba : b = a
  · subst hba
    rw [va_up_self] at hb
    cases hb
    obtain ⟨h1, h2⟩ := h b _ (va_up_self _ _ _)
    refine ⟨?_, h2⟩
    have h3 : H[b]? = some (arrV cA n (fun j => .int (f j))) := h1
    show H[b]? = some (arrV cA n (fun j => .int (g j)))
    rw [h3]
    unfold arrV
    have : (fun j : Fin n => Value.int (f j.val)) = (fun j : Fin n => Value.int (g j.val)) := funext fun j => congrArg Value.int (hg j.val j.isLt)
    rw [this]
  · rw [va_up_ne _ _ hba] at hb
    exact h b y (by rw [va_up_ne _ _ hba]; exact hb)
theorem fw_P.arq {D : va_G} {cl : List vw_C} {A : Nat → Prop} {w : fW} {H : Heap} {a n : Nat} {cA : ClassId} {f g : Nat → Option Nat} (h : fw_P D cl A (va_up w a (some (.inl (cA, n, .inr (.inr (.inr (.inr f))))))) H) (hg : ∀ j, j < n → f j = g j) : fw_P D cl A (va_up w a (some (.inl (cA, n, .inr (.inr (.inr (.inr g))))))) H := by
  intro b y hb
  by_cases hba : b = a
  · subst hba
    rw [va_up_self] at hb
    cases hb
    obtain ⟨h1, h2⟩ := h b _ (va_up_self _ _ _)
    refine ⟨?_, h2⟩
    have h3 : H[b]? = some (arrV cA n (fun j => va_rf (f j))) := h1
    show H[b]? = some (arrV cA n (fun j => va_rf (g j)))
    rw [h3]
    unfold arrV
    have : (fun j : Fin n => va_rf (f j.val)) = (fun j : Fin n => va_rf (g j.val)) := funext fun j => congrArg va_rf (hg j.val j.isLt)
    rw [this]
  · rw [va_up_ne _ _ hba] at hb
    exact h b y (by rw [va_up_ne _ _ hba]; exact hb)
def sdset (side : Int32) (x : aS) (o : Option Nat) : aS := if side &&& 1 = 0 then (x.1, x.2.1, o, x.2.2.2.1, x.2.2.2.2.1, x.2.2.2.2.2) else (x.1, x.2.1, x.2.2.1, o, x.2.2.2.2.1, x.2.2.2.2.2)
def lmp (b : Int32) : Int32 := if b = 0 then 0 else if b = 1 then 1 else 2
def spLight (x : aS) (b k : Int32) : (Int32 × Int32) × aS := if x.1 = false then ((1, 0), x) else ((0, b), (x.1, x.2.1, x.2.2.1, x.2.2.2.1, lmp b, if lmp b = 2 then k else 0))
def spShine (x : aS) (b : Int32) : (Int32 × Int32) × aS := if x.2.2.2.2.1 = 0 then ((1, 0), x) else if x.2.2.2.2.1 = 1 then ((0, 3 * b), x) else if 0 < x.2.2.2.2.2 then ((0, b), (x.1, x.2.1, x.2.2.1, x.2.2.2.1, x.2.2.2.2.1, x.2.2.2.2.2 - 1)) else ((0, 0), x)
def oSp (W : Nat → aWh) (o : Option Nat) : Int32 := match o with
  | none => 0
  | some q => (W q).1
def oTu (W : Nat → aWh) (o : Option Nat) : Int32 := match o with
  | none => 0
  | some q => (W q).2.2
def spTell (W : Nat → aWh) (x : aS) (k : Int32) : Int32 := if k = 0 then bz x.1 else if k = 1 then x.2.1 else if k = 2 then oSp W x.2.2.1 else if k = 3 then oSp W x.2.2.2.1 else if k = 4 then oTu W x.2.2.1 else if k = 5 then oTu W x.2.2.2.1 else if k = 7 then (if x.2.2.2.2.1 = 1 then -1 else x.2.2.2.2.2) else -2147483648
theorem fill_step (f : Nat → Int32) (i : Nat) (x : Int32) : upd (fun j => if j < i then x else f j) i x = fun j => if j < i + 1 then x else f j := by
  funext j
  unfold upd
  by_cases h : j = i
  · subst h; simp
  · by_cases h2 : j < i
    · simp [h, h2, Nat.lt_succ_of_lt h2]
    · have : ¬ j < i + 1 := by omega
      simp [h, h2, this]
theorem none_step (f : Nat → Option Nat) (i : Nat) : va_up (fun j => if j < i then none else f j) i none = fun j => if j < i + 1 then none else f j := by
  funext j
  unfold va_up
  by_cases h : j = i
  · subst h; simp
  · by_cases h2 : j < i
    · simp [h, h2, Nat.lt_succ_of_lt h2]
    · have : ¬ j < i + 1 := by omega
      simp [h, h2, this]
/-- does a wheel hang among the first n places -/
def hldN (o : Option Nat) (f : Nat → Option Nat) : Nat → Bool
  | 0 => false
  | n + 1 => hldN o f n || (o.isSome && f n == o)
theorem g_ix {i j : Int32} (hi : wi i 12 = true) (hj : wi j 12 = true) : vp_in (i * 12 + j) 144 ∧ ix (i * 12 + j) = 12 * ix i + ix j := by
  obtain ⟨a, ha, rfl⟩ := vp_in_of (wi_in hi (N := 12) (by decide)) (by decide)
  obtain ⟨b, hb, rfl⟩ := vp_in_of (wi_in hj (N := 12) (by decide)) (by decide)
  have e : nI a * 12 + nI b = nI (12 * a + b) := by
    rw [show (12 : Int32) = nI 12 from rfl, pk_mul, nI_add, Nat.mul_comm]
  rw [e]
  refine ⟨vp_in_nI (by omega) (by decide), ?_⟩
  show (nI (12 * a + b)).toNatClampNeg = 12 * (nI a).toNatClampNeg + (nI b).toNatClampNeg
  rw [nI_clamp (by omega), nI_clamp (by omega), nI_clamp (by omega)]
theorem wi_le {i n k : Int32} (h : wi i n = true) (hn : n ≤ k) : wi i k = true := by
  refine wi_t (wi_1 h) ?_
  have h2 := Int32.lt_iff_toInt_lt.mp (wi_2 h)
  have h3 := Int32.le_iff_toInt_le.mp hn
  exact Int32.lt_iff_toInt_lt.mpr (by omega)
theorem fw_astqQ {p : Program} {l : Launch} {e : Env} {R : Room} {s : State} {m : MethodId} {args : Array Value} {below : List Frame} {meth : Method} {c : Code} {H : Heap} {locs : List Loc} {cells slots : Nat} {Q : State → Prop} {cc : ByteArray} {nL : Nat} {ret : Option FieldType} {own : String} {BS NW : List Cond} {D : va_G} {cl : List vw_C} {ty : List (ClassId × FieldType)} {A : Nat → Prop} {pc : Nat} {ls : Array Slot} {rest : List Value} {w : fW} {a : Nat} (X : gX p s m args meth c cc nL ret own BS NW D cl ty A) (hF : fw_P D cl A w H) (hS : va_S A s.heap H locs) {cA : ClassId} {r : vw_C} {n ci : Nat} {o : Option Nat} {f : Nat → Option Nat} (he : w a = some (.inl (cA, n, .inr (.inr (.inr (.inr f)))))) (t0 : Nat) (ht : ty[t0]? = some (cA, .object r.1)) (hv : ∀ q, o = some q → ∃ vs, w q = some (.inr (ci, vs))) (hc : cl[ci]? = some r) {i : Int32} (hin : vp_in i n) (hdg : decode cc pc = .ok (.aastore, 1))
    (kk : ∀ (H1 : Heap) (locs1 : List Loc), fw_P D cl A (va_up w a (some (.inl (cA, n, .inr (.inr (.inr (.inr (va_up f i.toNatClampNeg o)))))))) H1 → va_S A s.heap H1 locs1 → W p l e R s m args below meth c H1 locs1 cells slots Q (F0 m (pc + 1) ls rest)) : W p l e R s m args below meth c H locs cells slots Q (F0 m pc ls (va_rf o :: .int i :: .ref a :: rest)) := by
  cases o with
  | none => exact fw_astqN X hF hS he t0 ht hin hdg kk
  | some q =>
    obtain ⟨vs, hvs⟩ := hv q rfl
    exact fw_astq X hF hS he t0 ht hvs hc hin hdg kk
theorem i_as (n : Int32) : n + 1 - 1 = n := by simp
theorem i_ior (a b : Bool) : bz a ||| bz b = bz (a || b) := by cases a <;> cases b <;> rfl
end
section
set_option maxHeartbeats 4000000 in
set_option maxRecDepth 100000 in
/-- 0 ≤ i < n -/
theorem c_X8_isWithin (l : Launch) (D : va_G) (cs : Nat → ClassId) (w : fW) (sz : Nat) (i n : Int32) : gM l bs_B nw_B D cls10 (tyl cs) yX8_isWithin cX8_isWithin 2 (some .boolean) 0 0 0 0 w sz [.int i, .int n] (fun v w' => v = some (.int (bz (wi i n))) ∧ w' = w) := by
  refine gM.of (by decide +kernel) (Nat.le_of_ble_eq_true rfl) (fun p e s m below meth c A ls X hsz hnm hF hS hl => ?_)
  have hx := X.1
  have hb := X.2.1
  have hl : lv_has ls 2 [(0, .int i), (1, .int n)] := hl
  refine lv_iload_n hx hb dX8_isWithin_0 rfl (lv_at hl 0 rfl) ?_
  refine lv_if_lt (tgt := 13) hx hb dX8_isWithin_1 (by decide) (fun c1_1 => ?_) (fun c1_1 => ?_)
  · refine lv_iconst (v := 0) hx hb dX8_isWithin_13 (by decide) ?_
    refine fw_zret X hF hS rfl ?_ (Nat.le_of_ble_eq_true rfl) (Nat.le_of_ble_eq_true rfl) dX8_isWithin_14
    exact ⟨congrArg (fun b => some (Value.int (bz b))) ((wi_f1 c1_1).symm), rfl⟩
  · refine lv_iload_n hx hb dX8_isWithin_4 rfl (lv_at hl 0 rfl) ?_
    refine lv_iload_n hx hb dX8_isWithin_5 rfl (lv_at hl 1 rfl) ?_
    refine lv_icmp_ge (tgt := 13) hx hb dX8_isWithin_6 (by decide) (fun c6_2 => ?_) (fun c6_2 => ?_)
    · refine lv_iconst (v := 0) hx hb dX8_isWithin_13 (by decide) ?_
      refine fw_zret X hF hS rfl ?_ (Nat.le_of_ble_eq_true rfl) (Nat.le_of_ble_eq_true rfl) dX8_isWithin_14
      exact ⟨congrArg (fun b => some (Value.int (bz b))) ((wi_f2 c6_2).symm), rfl⟩
    · refine lv_iconst (v := 1) hx hb dX8_isWithin_9 (by decide) ?_
      refine lv_goto (tgt := 14) hx hb dX8_isWithin_10 (by decide) ?_
      refine fw_zret X hF hS rfl ?_ (Nat.le_of_ble_eq_true rfl) (Nat.le_of_ble_eq_true rfl) dX8_isWithin_14
      exact ⟨congrArg (fun b => some (Value.int (bz b))) ((wi_t2 c1_1 c6_2).symm), rfl⟩
set_option maxHeartbeats 4000000 in
set_option maxRecDepth 100000 in
theorem c_X8_failure (l : Launch) (D : va_G) (cs : Nat → ClassId) (w : fW) (sz : Nat) (r : Int32) : gM l bs_B nw_B D cls10 (tyl cs) yX8_failure cX8_failure 1 (some .long) 0 0 0 0 w sz [.int r] (fun v w' => v = some (.long (fl r)) ∧ w' = w) := by
  refine gM.of (by decide +kernel) (Nat.le_of_ble_eq_true rfl) (fun p e s m below meth c A ls X hsz hnm hF hS hl => ?_)
  have hx := X.1
  have hb := X.2.1
  have hl : lv_has ls 1 [(0, .int r)] := hl
  refine lv_ldc2 (v := (-9223372036854775808)) hx hb X.2.2.2.1 (X.2.2.2.2.1 _ wm_235) dX8_failure_0 ?_
  refine lv_iload_n hx hb dX8_failure_3 rfl (lv_at hl 0 rfl) ?_
  refine lv_i2l hx hb dX8_failure_4 rfl ?_
  refine lv_ladd hx hb dX8_failure_5 ?_
  refine fw_lret X hF hS ?_ (Nat.le_of_ble_eq_true rfl) (Nat.le_of_ble_eq_true rfl) dX8_failure_6
  exact ⟨rfl, rfl⟩
set_option maxHeartbeats 4000000 in
set_option maxRecDepth 100000 in
theorem c_X8_reasonOf (l : Launch) (D : va_G) (cs : Nat → ClassId) (w : fW) (sz : Nat) (o : Int64) : gM l bs_B nw_B D cls10 (tyl cs) yX8_reasonOf cX8_reasonOf 2 (some .int) 0 0 0 0 w sz [.long o] (fun v w' => v = some (.int (rsn o)) ∧ w' = w) := by
  refine gM.of (by decide +kernel) (Nat.le_of_ble_eq_true rfl) (fun p e s m below meth c A ls X hsz hnm hF hS hl => ?_)
  have hx := X.1
  have hb := X.2.1
  have hl : lv_has ls 2 [(0, .long o)] := hl
  refine lv_lload_n hx hb dX8_reasonOf_0 rfl (lv_at hl 0 rfl) ?_
  refine lv_ldc2 (v := (-2147483648)) hx hb X.2.2.2.1 (X.2.2.2.2.1 _ wm_345) dX8_reasonOf_1 ?_
  refine W.lcmp hx hb dX8_reasonOf_4 ?_
  refine lv_if_ge (tgt := 17) hx hb dX8_reasonOf_5 (by decide) (fun c5_1 => ?_) (fun c5_1 => ?_)
  · refine lv_iconst (v := 0) hx hb dX8_reasonOf_17 (by decide) ?_
    refine fw_iret X hF hS ?_ (Nat.le_of_ble_eq_true rfl) (Nat.le_of_ble_eq_true rfl) dX8_reasonOf_18
    refine ⟨congrArg (fun z => some (Value.int z)) ?_, rfl⟩
    unfold rsn
    first | rw [if_neg (fun q => Int64.not_le.mpr q ((lg_cmp_ge _ _).mp c5_1))] | rw [if_pos (Int64.not_le.mp (fun q => c5_1 ((lg_cmp_ge _ _).mpr q)))]
  · refine lv_lload_n hx hb dX8_reasonOf_8 rfl (lv_at hl 0 rfl) ?_
    refine lv_ldc2 (v := (-9223372036854775808)) hx hb X.2.2.2.1 (X.2.2.2.2.1 _ wm_235) dX8_reasonOf_9 ?_
    refine lv_lsub hx hb dX8_reasonOf_12 ?_
    refine lv_l2i hx hb dX8_reasonOf_13 rfl ?_
    refine lv_goto (tgt := 18) hx hb dX8_reasonOf_14 (by decide) ?_
    refine fw_iret X hF hS ?_ (Nat.le_of_ble_eq_true rfl) (Nat.le_of_ble_eq_true rfl) dX8_reasonOf_18
    refine ⟨congrArg (fun z => some (Value.int z)) ?_, rfl⟩
    unfold rsn
    first | rw [if_neg (fun q => Int64.not_le.mpr q ((lg_cmp_ge _ _).mp c5_1))] | rw [if_pos (Int64.not_le.mp (fun q => c5_1 ((lg_cmp_ge _ _).mpr q)))]
set_option maxHeartbeats 4000000 in
set_option maxRecDepth 100000 in
theorem c_X8_lengthOrFailure (l : Launch) (D : va_G) (cs : Nat → ClassId) (w : fW) (sz : Nat) (n : Int32) : gM l bs_B nw_B D cls10 (tyl cs) yX8_lengthOrFailure cX8_lengthOrFailure 1 (some .long) 1 20 0 0 w sz [.int n] (fun v w' => v = some (.long (if n = -1 then fl 1 else n.toInt64)) ∧ w' = w) := by
  refine gM.of (by decide +kernel) (Nat.le_of_ble_eq_true rfl) (fun p e s m below meth c A ls X hsz hnm hF hS hl => ?_)
  have hx := X.1
  have hb := X.2.1
  have hl : lv_has ls 1 [(0, .int n)] := hl
  refine lv_iload_n hx hb dX8_lengthOrFailure_0 rfl (lv_at hl 0 rfl) ?_
  refine lv_iconst (v := (-1)) hx hb dX8_lengthOrFailure_1 (by decide) ?_
  refine lv_icmp_ne (tgt := 12) hx hb dX8_lengthOrFailure_2 (by decide) (fun c2_1 => ?_) (fun c2_1 => ?_)
  · refine lv_iload_n hx hb dX8_lengthOrFailure_12 rfl (lv_at hl 0 rfl) ?_
    refine lv_i2l hx hb dX8_lengthOrFailure_13 rfl ?_
    refine fw_lret X hF hS ?_ (Nat.le_of_ble_eq_true rfl) (Nat.le_of_ble_eq_true rfl) dX8_lengthOrFailure_14
    refine ⟨congrArg (fun z => some (Value.long z)) ?_, rfl⟩
    first | rw [if_pos c2_1] | rw [if_neg c2_1]
  · refine lv_iconst (v := 1) hx hb dX8_lengthOrFailure_5 (by decide) ?_
    refine fw_callS (As := [.int 1]) (rest := []) X bs_all nw_all mf_X8_failure (c_X8_failure l D cs _ _ 1) wm_306 wm_233 hF hS rfl ((⟨⟨Nat.le_of_ble_eq_true rfl, Nat.le_of_ble_eq_true rfl⟩, Nat.le_of_ble_eq_true rfl, Nat.le_of_ble_eq_true rfl⟩)) rfl hl.1 rfl (Nat.le_of_ble_eq_true rfl) dX8_lengthOrFailure_6 (fun v u2 H locs hp hF hS hz1 hk1 hd1 => ?_)
    obtain ⟨rfl, hw1⟩ := hp
    rw [hw1] at hF
    refine W.eq (g2 := F0 m 9 ls [.long (fl 1)]) rfl ?_
    refine lv_goto (tgt := 14) hx hb dX8_lengthOrFailure_9 (by decide) ?_
    refine fw_lret X hF hS ?_ (Nat.le_of_ble_eq_true rfl) (Nat.le_of_ble_eq_true rfl) dX8_lengthOrFailure_14
    refine ⟨congrArg (fun z => some (Value.long z)) ?_, rfl⟩
    first | rw [if_pos c2_1] | rw [if_neg c2_1]
set_option maxHeartbeats 4000000 in
set_option maxRecDepth 100000 in
theorem c_X7_init (l : Launch) (D : va_G) (cs : Nat → ClassId) (w : fW) (sz : Nat) (h0 : Nat) (sp tu : Int32) (di : Bool) (h : w h0 = some (.inr (7, [.int 0, .int 0, .int tu]))) : gM l bs_B nw_B D cls10 (tyl cs) yX7_init cX7_init 3 none 1 20 0 0 w sz [.ref h0, .int sp, .int (bz di)] (fun v w' => v = none ∧ w' = va_up w h0 (some (cWh (sp, di, tu)))) := by
  refine gM.of (by decide +kernel) (Nat.le_of_ble_eq_true rfl) (fun p e s m below meth c A ls X hsz hnm hF hS hl => ?_)
  have hx := X.1
  have hb := X.2.1
  have hl : lv_has ls 3 [(0, .ref h0), (1, .int sp), (2, .int (bz di))] := hl
  have h : w h0 = some (.inr (7, [.int 0, .int 0, .int tu])) := h
  refine lv_aload_n hx hb dX7_init_0 rfl (lv_at hl 0 rfl) ?_
  refine W.objInit hx hb X.2.2.2.1 (X.2.2.2.2.1 _ wm_241) (X.2.2.2.2.1 _ wm_42) (X.2.2.2.2.1 _ wm_43) rfl (by rw [X.2.2.1]; exact hl.1) rfl dX7_init_1 (Nat.le_of_ble_eq_true rfl) (Nat.le_of_ble_eq_true rfl) ?_
  refine W.eq (g2 := F0 m 4 ls []) rfl ?_
  refine lv_aload_n hx hb dX7_init_4 rfl (lv_at hl 0 rfl) ?_
  refine lv_iload_n hx hb dX7_init_5 rfl (lv_at hl 1 rfl) ?_
  refine fw_putF X gC_ok hF hS h rfl 0 (by decide) wm_242 rfl hnm rfl (tf := .int) (by decide +kernel) rfl rfl (Nat.le_of_ble_eq_true rfl) dX7_init_6 (fun H locs hF hS => ?_)
  have hF : fw_P D cls10 A (va_up w h0 (some (.inr (7, [.int sp, .int 0, .int tu])))) H := hF
  refine lv_aload_n hx hb dX7_init_9 rfl (lv_at hl 0 rfl) ?_
  refine lv_iload_n hx hb dX7_init_10 rfl (lv_at hl 2 rfl) ?_
  refine fw_putF X gC_ok hF hS (va_up_self _ _ _) rfl 1 (by decide) wm_244 rfl hnm rfl (tf := .boolean) (by decide +kernel) (gx_nbz _) (gx_fbz _) (Nat.le_of_ble_eq_true rfl) dX7_init_11 (fun H locs hF hS => ?_)
  rw [bx_uu] at hF
  have hF : fw_P D cls10 A (va_up w h0 (some (.inr (7, [.int sp, .int (bz di), .int tu])))) H := hF
  refine fw_vret X hF hS ?_ (Nat.le_of_ble_eq_true rfl) (Nat.le_of_ble_eq_true rfl) dX7_init_14
  exact ⟨rfl, rfl⟩
set_option maxHeartbeats 4000000 in
set_option maxRecDepth 100000 in
theorem c_X7_turn (l : Launch) (D : va_G) (cs : Nat → ClassId) (w : fW) (sz : Nat) (h0 : Nat) (sp tu : Int32) (di : Bool) (h : w h0 = some (cWh (sp, di, tu))) : gM l bs_B nw_B D cls10 (tyl cs) yX7_turn cX7_turn 1 (some .int) 0 0 0 0 w sz [.ref h0] (fun v w' => v = some (.int (whT (sp, di, tu))) ∧ w' = va_up w h0 (some (cWh (sp, di, tu + 1)))) := by
  refine gM.of (by decide +kernel) (Nat.le_of_ble_eq_true rfl) (fun p e s m below meth c A ls X hsz hnm hF hS hl => ?_)
  have hx := X.1
  have hb := X.2.1
  have hl : lv_has ls 1 [(0, .ref h0)] := hl
  have h : w h0 = some (.inr (7, [.int sp, .int (bz di), .int tu])) := h
  refine lv_aload_n hx hb dX7_turn_0 rfl (lv_at hl 0 rfl) ?_
  refine lv_dup hx hb dX7_turn_1 rfl ?_
  refine fw_get X gC_ok hF h rfl 2 (by decide) wm_246 rfl dX7_turn_2 ?_
  refine lv_iconst (v := 1) hx hb dX7_turn_5 (by decide) ?_
  refine lv_iadd hx hb dX7_turn_6 ?_
  refine fw_put X gC_ok hF hS h rfl 2 (by decide) wm_246 rfl (tf := .int) (by decide +kernel) rfl rfl (Nat.le_of_ble_eq_true rfl) dX7_turn_7 (fun H locs hF hS => ?_)
  have hF : fw_P D cls10 A (va_up w h0 (some (.inr (7, [.int sp, .int (bz di), .int (tu + 1)])))) H := hF
  refine lv_aload_n hx hb dX7_turn_10 rfl (lv_at hl 0 rfl) ?_
  refine fw_get X gC_ok hF (va_up_self _ _ _) rfl 2 (by decide) wm_246 rfl dX7_turn_11 ?_
  refine lv_aload_n hx hb dX7_turn_14 rfl (lv_at hl 0 rfl) ?_
  refine fw_get X gC_ok hF (va_up_self _ _ _) rfl 0 (by decide) wm_242 rfl dX7_turn_15 ?_
  refine lv_imul hx hb dX7_turn_18 ?_
  refine lv_aload_n hx hb dX7_turn_19 rfl (lv_at hl 0 rfl) ?_
  refine fw_get X gC_ok hF (va_up_self _ _ _) rfl 1 (by decide) wm_244 rfl dX7_turn_20 ?_
  refine gx_ifeq (tgt := 30) hx hb dX7_turn_23 (by decide) (fun c23_1 => ?_) (fun c23_1 => ?_)
  · refine lv_iconst (v := 0) hx hb dX7_turn_30 (by decide) ?_
    refine lv_iadd hx hb dX7_turn_31 ?_
    refine fw_iret X hF hS ?_ (Nat.le_of_ble_eq_true rfl) (Nat.le_of_ble_eq_true rfl) dX7_turn_32
    exact ⟨by simp [whT, bz, c23_1], rfl⟩
  · refine lv_iconst (v := 1) hx hb dX7_turn_26 (by decide) ?_
    refine lv_goto (tgt := 31) hx hb dX7_turn_27 (by decide) ?_
    refine lv_iadd hx hb dX7_turn_31 ?_
    refine fw_iret X hF hS ?_ (Nat.le_of_ble_eq_true rfl) (Nat.le_of_ble_eq_true rfl) dX7_turn_32
    exact ⟨by simp [whT, bz, c23_1], rfl⟩
set_option maxHeartbeats 4000000 in
set_option maxRecDepth 100000 in
theorem c_X7_label (l : Launch) (D : va_G) (cs : Nat → ClassId) (w : fW) (sz : Nat) (h0 : Nat) (sp tu : Int32) (di : Bool) (h : w h0 = some (cWh (sp, di, tu))) : gM l bs_B nw_B D cls10 (tyl cs) yX7_label cX7_label 1 (some .int) 0 0 0 0 w sz [.ref h0] (fun v w' => v = some (.int (whL (sp, di, tu))) ∧ w' = w) := by
  refine gM.of (by decide +kernel) (Nat.le_of_ble_eq_true rfl) (fun p e s m below meth c A ls X hsz hnm hF hS hl => ?_)
  have hx := X.1
  have hb := X.2.1
  have hl : lv_has ls 1 [(0, .ref h0)] := hl
  have h : w h0 = some (.inr (7, [.int sp, .int (bz di), .int tu])) := h
  refine lv_aload_n hx hb dX7_label_0 rfl (lv_at hl 0 rfl) ?_
  refine fw_get X gC_ok hF h rfl 1 (by decide) wm_244 rfl dX7_label_1 ?_
  refine gx_ifeq (tgt := 18) hx hb dX7_label_4 (by decide) (fun c4_1 => ?_) (fun c4_1 => ?_)
  · refine lv_aload_n hx hb dX7_label_18 rfl (lv_at hl 0 rfl) ?_
    refine fw_get X gC_ok hF h rfl 0 (by decide) wm_242 rfl dX7_label_19 ?_
    refine fw_iret X hF hS ?_ (Nat.le_of_ble_eq_true rfl) (Nat.le_of_ble_eq_true rfl) dX7_label_22
    exact ⟨by simp [whL, c4_1], rfl⟩
  · refine lv_sipush (v := 1000) hx hb dX7_label_7 (by decide) ?_
    refine lv_aload_n hx hb dX7_label_10 rfl (lv_at hl 0 rfl) ?_
    refine fw_get X gC_ok hF h rfl 0 (by decide) wm_242 rfl dX7_label_11 ?_
    refine lv_iadd hx hb dX7_label_14 ?_
    refine lv_goto (tgt := 22) hx hb dX7_label_15 (by decide) ?_
    refine fw_iret X hF hS ?_ (Nat.le_of_ble_eq_true rfl) (Nat.le_of_ble_eq_true rfl) dX7_label_22
    exact ⟨by simp [whL, c4_1], rfl⟩
set_option maxHeartbeats 4000000 in
set_option maxRecDepth 100000 in
theorem c_X5_init (l : Launch) (D : va_G) (cs : Nat → ClassId) (w : fW) (sz : Nat) (h0 : Nat) (bk : Bool) (fr : Int32) (fo re : Option Nat) (la ch : Int32) (h : w h0 = some (cSt (bk, fr, fo, re, la, ch))) : gM l bs_B nw_B D cls10 (tyl cs) yX5_init cX5_init 1 none 1 20 0 0 w sz [.ref h0] (fun v w' => v = none ∧ w' = w) := by
  refine gM.of (by decide +kernel) (Nat.le_of_ble_eq_true rfl) (fun p e s m below meth c A ls X hsz hnm hF hS hl => ?_)
  have hx := X.1
  have hb := X.2.1
  have hl : lv_has ls 1 [(0, .ref h0)] := hl
  have h : w h0 = some (.inr (5, [.int (bz bk), .int fr, va_rf fo, va_rf re, .int la, .int ch])) := h
  refine lv_aload_n hx hb dX5_init_0 rfl (lv_at hl 0 rfl) ?_
  refine W.objInit hx hb X.2.2.2.1 (X.2.2.2.2.1 _ wm_90) (X.2.2.2.2.1 _ wm_42) (X.2.2.2.2.1 _ wm_43) rfl (by rw [X.2.2.1]; exact hl.1) rfl dX5_init_1 (Nat.le_of_ble_eq_true rfl) (Nat.le_of_ble_eq_true rfl) ?_
  refine W.eq (g2 := F0 m 4 ls []) rfl ?_
  refine fw_vret X hF hS ?_ (Nat.le_of_ble_eq_true rfl) (Nat.le_of_ble_eq_true rfl) dX5_init_4
  exact ⟨rfl, rfl⟩
set_option maxHeartbeats 4000000 in
set_option maxRecDepth 100000 in
theorem c_X5_strip (l : Launch) (D : va_G) (cs : Nat → ClassId) (w : fW) (sz : Nat) (h0 : Nat) (bk : Bool) (fr : Int32) (fo re : Option Nat) (la ch : Int32) (h : w h0 = some (cSt (bk, fr, fo, re, la, ch))) : gM l bs_B nw_B D cls10 (tyl cs) yX5_strip cX5_strip 1 (some .long) 0 0 0 0 w sz [.ref h0] (fun v w' => v = some (.long 1) ∧ w' = va_up w h0 (some (cSt (false, 0, none, none, 0, 0)))) := by
  refine gM.of (by decide +kernel) (Nat.le_of_ble_eq_true rfl) (fun p e s m below meth c A ls X hsz hnm hF hS hl => ?_)
  have hx := X.1
  have hb := X.2.1
  have hl : lv_has ls 1 [(0, .ref h0)] := hl
  have h : w h0 = some (.inr (5, [.int (bz bk), .int fr, va_rf fo, va_rf re, .int la, .int ch])) := h
  refine lv_aload_n hx hb dX5_strip_0 rfl (lv_at hl 0 rfl) ?_
  refine lv_iconst (v := 0) hx hb dX5_strip_1 (by decide) ?_
  refine fw_put X gC_ok hF hS h rfl 0 (by decide) wm_91 rfl (tf := .boolean) (by decide +kernel) rfl rfl (Nat.le_of_ble_eq_true rfl) dX5_strip_2 (fun H locs hF hS => ?_)
  have hF : fw_P D cls10 A (va_up w h0 (some (.inr (5, [.int 0, .int fr, va_rf fo, va_rf re, .int la, .int ch])))) H := hF
  refine lv_aload_n hx hb dX5_strip_5 rfl (lv_at hl 0 rfl) ?_
  refine lv_iconst (v := 0) hx hb dX5_strip_6 (by decide) ?_
  refine fw_put X gC_ok hF hS (va_up_self _ _ _) rfl 1 (by decide) wm_93 rfl (tf := .int) (by decide +kernel) rfl rfl (Nat.le_of_ble_eq_true rfl) dX5_strip_7 (fun H locs hF hS => ?_)
  rw [bx_uu] at hF
  have hF : fw_P D cls10 A (va_up w h0 (some (.inr (5, [.int 0, .int 0, va_rf fo, va_rf re, .int la, .int ch])))) H := hF
  refine lv_aload_n hx hb dX5_strip_10 rfl (lv_at hl 0 rfl) ?_
  refine lv_null hx hb dX5_strip_11 ?_
  refine fw_put X gC_ok hF hS (va_up_self _ _ _) rfl 2 (by decide) wm_94 rfl (tf := .object "CycleShop$Wheel") (by decide +kernel) rfl rfl (Nat.le_of_ble_eq_true rfl) dX5_strip_12 (fun H locs hF hS => ?_)
  rw [bx_uu] at hF
  have hF : fw_P D cls10 A (va_up w h0 (some (.inr (5, [.int 0, .int 0, .null, va_rf re, .int la, .int ch])))) H := hF
  refine lv_aload_n hx hb dX5_strip_15 rfl (lv_at hl 0 rfl) ?_
  refine lv_null hx hb dX5_strip_16 ?_
  refine fw_put X gC_ok hF hS (va_up_self _ _ _) rfl 3 (by decide) wm_97 rfl (tf := .object "CycleShop$Wheel") (by decide +kernel) rfl rfl (Nat.le_of_ble_eq_true rfl) dX5_strip_17 (fun H locs hF hS => ?_)
  rw [bx_uu] at hF
  have hF : fw_P D cls10 A (va_up w h0 (some (.inr (5, [.int 0, .int 0, .null, .null, .int la, .int ch])))) H := hF
  refine lv_aload_n hx hb dX5_strip_20 rfl (lv_at hl 0 rfl) ?_
  refine lv_iconst (v := 0) hx hb dX5_strip_21 (by decide) ?_
  refine fw_put X gC_ok hF hS (va_up_self _ _ _) rfl 4 (by decide) wm_99 rfl (tf := .int) (by decide +kernel) rfl rfl (Nat.le_of_ble_eq_true rfl) dX5_strip_22 (fun H locs hF hS => ?_)
  rw [bx_uu] at hF
  have hF : fw_P D cls10 A (va_up w h0 (some (.inr (5, [.int 0, .int 0, .null, .null, .int 0, .int ch])))) H := hF
  refine lv_aload_n hx hb dX5_strip_25 rfl (lv_at hl 0 rfl) ?_
  refine lv_iconst (v := 0) hx hb dX5_strip_26 (by decide) ?_
  refine fw_put X gC_ok hF hS (va_up_self _ _ _) rfl 5 (by decide) wm_100 rfl (tf := .int) (by decide +kernel) rfl rfl (Nat.le_of_ble_eq_true rfl) dX5_strip_27 (fun H locs hF hS => ?_)
  rw [bx_uu] at hF
  have hF : fw_P D cls10 A (va_up w h0 (some (.inr (5, [.int 0, .int 0, .null, .null, .int 0, .int 0])))) H := hF
  refine lv_lconst (v := 1) hx hb dX5_strip_30 (by decide) ?_
  refine fw_lret X hF hS ?_ (Nat.le_of_ble_eq_true rfl) (Nat.le_of_ble_eq_true rfl) dX5_strip_31
  exact ⟨rfl, rfl⟩
set_option maxHeartbeats 4000000 in
set_option maxRecDepth 100000 in
theorem c_X5_build (l : Launch) (D : va_G) (cs : Nat → ClassId) (w : fW) (sz : Nat) (h0 : Nat) (bk : Bool) (fr : Int32) (fo re : Option Nat) (la ch : Int32) (h : w h0 = some (cSt (bk, fr, fo, re, la, ch))) (b : Int32) : gM l bs_B nw_B D cls10 (tyl cs) yX5_build cX5_build 2 (some .long) 1 20 0 0 w sz [.ref h0, .int b] (fun v w' => v = some (.long b.toInt64) ∧ w' = va_up w h0 (some (cSt (true, b, none, none, 0, 0)))) := by
  refine gM.of (by decide +kernel) (Nat.le_of_ble_eq_true rfl) (fun p e s m below meth c A ls X hsz hnm hF hS hl => ?_)
  have hx := X.1
  have hb := X.2.1
  have hl : lv_has ls 2 [(0, .ref h0), (1, .int b)] := hl
  have h : w h0 = some (.inr (5, [.int (bz bk), .int fr, va_rf fo, va_rf re, .int la, .int ch])) := h
  refine lv_aload_n hx hb dX5_build_0 rfl (lv_at hl 0 rfl) ?_
  refine fw_callV (As := []) (rest := []) X bs_all nw_all mf_X5_strip (c_X5_strip l D cs _ _ h0 bk fr fo re la ch h) wm_223 wm_224 wm_225 hF hS rfl h rfl rfl ((⟨⟨Nat.le_of_ble_eq_true rfl, Nat.le_of_ble_eq_true rfl⟩, Nat.le_of_ble_eq_true rfl, Nat.le_of_ble_eq_true rfl⟩)) rfl hl.1 rfl (Nat.le_of_ble_eq_true rfl) dX5_build_1 (fun v u1 H locs hp hF hS hz1 hk1 hd1 => ?_)
  obtain ⟨rfl, hw1⟩ := hp
  rw [hw1] at hF
  refine W.eq (g2 := F0 m 4 ls [.long 1]) rfl ?_
  refine lv_pop2_2 hx hb dX5_build_4 rfl ?_
  refine lv_aload_n hx hb dX5_build_5 rfl (lv_at hl 0 rfl) ?_
  refine lv_iconst (v := 1) hx hb dX5_build_6 (by decide) ?_
  refine fw_put X gC_ok hF hS (va_up_self _ _ _) rfl 0 (by decide) wm_91 rfl (tf := .boolean) (by decide +kernel) rfl rfl (Nat.le_of_ble_eq_true rfl) dX5_build_7 (fun H locs hF hS => ?_)
  have hF : fw_P D cls10 A (va_up (va_up w h0 (some (.inr (5, [.int (bz false), .int 0, va_rf none, va_rf none, .int 0, .int 0])))) h0 (some (.inr (5, [.int 1, .int 0, va_rf none, va_rf none, .int 0, .int 0])))) H := hF
  refine lv_aload_n hx hb dX5_build_10 rfl (lv_at hl 0 rfl) ?_
  refine lv_iload_n hx hb dX5_build_11 rfl (lv_at hl 1 rfl) ?_
  refine fw_put X gC_ok hF hS (va_up_self _ _ _) rfl 1 (by decide) wm_93 rfl (tf := .int) (by decide +kernel) rfl rfl (Nat.le_of_ble_eq_true rfl) dX5_build_12 (fun H locs hF hS => ?_)
  rw [bx_uu] at hF
  have hF : fw_P D cls10 A (va_up (va_up w h0 (some (.inr (5, [.int (bz false), .int 0, va_rf none, va_rf none, .int 0, .int 0])))) h0 (some (.inr (5, [.int 1, .int b, va_rf none, va_rf none, .int 0, .int 0])))) H := hF
  refine lv_iload_n hx hb dX5_build_15 rfl (lv_at hl 1 rfl) ?_
  refine lv_i2l hx hb dX5_build_16 rfl ?_
  refine fw_lret X hF hS ?_ (Nat.le_of_ble_eq_true rfl) (Nat.le_of_ble_eq_true rfl) dX5_build_17
  exact ⟨rfl, by simp only [bx_uu]; rfl⟩
set_option maxHeartbeats 4000000 in
set_option maxRecDepth 100000 in
theorem c_X5_wheel (l : Launch) (D : va_G) (cs : Nat → ClassId) (w : fW) (sz : Nat) (h0 : Nat) (bk : Bool) (fr : Int32) (fo re : Option Nat) (la ch : Int32) (h : w h0 = some (cSt (bk, fr, fo, re, la, ch))) (b : Int32) : gM l bs_B nw_B D cls10 (tyl cs) yX5_wheel cX5_wheel 2 (some (.object "CycleShop$Wheel")) 0 0 0 0 w sz [.ref h0, .int b] (fun v w' => v = some (va_rf (sdw b fo re)) ∧ w' = w) := by
  refine gM.of (by decide +kernel) (Nat.le_of_ble_eq_true rfl) (fun p e s m below meth c A ls X hsz hnm hF hS hl => ?_)
  have hx := X.1
  have hb := X.2.1
  have hl : lv_has ls 2 [(0, .ref h0), (1, .int b)] := hl
  have h : w h0 = some (.inr (5, [.int (bz bk), .int fr, va_rf fo, va_rf re, .int la, .int ch])) := h
  refine lv_iload_n hx hb dX5_wheel_0 rfl (lv_at hl 1 rfl) ?_
  refine lv_iconst (v := 1) hx hb dX5_wheel_1 (by decide) ?_
  refine lv_iand hx hb dX5_wheel_2 ?_
  refine lv_if_ne (tgt := 13) hx hb dX5_wheel_3 (by decide) (fun c3_1 => ?_) (fun c3_1 => ?_)
  · refine lv_aload_n hx hb dX5_wheel_13 rfl (lv_at hl 0 rfl) ?_
    refine fw_get X gC_ok hF h rfl 3 (by decide) wm_97 rfl dX5_wheel_14 ?_
    refine fw_aret (o := re) X hF hS ?_ (Nat.le_of_ble_eq_true rfl) (Nat.le_of_ble_eq_true rfl) dX5_wheel_17
    exact ⟨by simp [sdw, c3_1], rfl⟩
  · refine lv_aload_n hx hb dX5_wheel_6 rfl (lv_at hl 0 rfl) ?_
    refine fw_get X gC_ok hF h rfl 2 (by decide) wm_94 rfl dX5_wheel_7 ?_
    refine lv_goto (tgt := 17) hx hb dX5_wheel_10 (by decide) ?_
    refine fw_aret (o := fo) X hF hS ?_ (Nat.le_of_ble_eq_true rfl) (Nat.le_of_ble_eq_true rfl) dX5_wheel_17
    exact ⟨by simp [sdw, c3_1], rfl⟩
end
section
set_option maxHeartbeats 4000000 in
set_option maxRecDepth 100000 in
theorem c_X5_light (l : Launch) (D : va_G) (cs : Nat → ClassId) (w : fW) (sz : Nat) (h0 : Nat) (bk : Bool) (fr : Int32) (fo re : Option Nat) (la ch : Int32) (h : w h0 = some (cSt (bk, fr, fo, re, la, ch))) (b k : Int32) : gM l bs_B nw_B D cls10 (tyl cs) yX5_light cX5_light 3 (some .long) 1 20 0 0 w sz [.ref h0, .int b, .int k] (fun v w' => v = some (.long (oc (spLight (bk, fr, fo, re, la, ch) b k).1)) ∧ w' = va_up w h0 (some (cSt (spLight (bk, fr, fo, re, la, ch) b k).2))) := by
  refine gM.of (by decide +kernel) (Nat.le_of_ble_eq_true rfl) (fun p e s m below meth c A ls X hsz hnm hF hS hl => ?_)
  have hx := X.1
  have hb := X.2.1
  have hl : lv_has ls 3 [(0, .ref h0), (1, .int b), (2, .int k)] := hl
  have h : w h0 = some (.inr (5, [.int (bz bk), .int fr, va_rf fo, va_rf re, .int la, .int ch])) := h
  refine lv_aload_n hx hb dX5_light_0 rfl (lv_at hl 0 rfl) ?_
  refine fw_get X gC_ok hF h rfl 0 (by decide) wm_91 rfl dX5_light_1 ?_
  refine gx_ifne (tgt := 12) hx hb dX5_light_4 (by decide) (fun c4_1 => ?_) (fun c4_1 => ?_)
  · refine lv_aload_n hx hb dX5_light_12 rfl (lv_at hl 0 rfl) ?_
    refine lv_iload_n hx hb dX5_light_13 rfl (lv_at hl 1 rfl) ?_
    refine lv_if_ne (tgt := 21) hx hb dX5_light_14 (by decide) (fun c14_2 => ?_) (fun c14_2 => ?_)
    · refine lv_iload_n hx hb dX5_light_21 rfl (lv_at hl 1 rfl) ?_
      refine lv_iconst (v := 1) hx hb dX5_light_22 (by decide) ?_
      refine lv_icmp_ne (tgt := 30) hx hb dX5_light_23 (by decide) (fun c23_3 => ?_) (fun c23_3 => ?_)
      · refine lv_iconst (v := 2) hx hb dX5_light_30 (by decide) ?_
        refine fw_put X gC_ok hF hS h rfl 4 (by decide) wm_99 rfl (tf := .int) (by decide +kernel) rfl rfl (Nat.le_of_ble_eq_true rfl) dX5_light_31 (fun H locs hF hS => ?_)
        have hF : fw_P D cls10 A (va_up w h0 (some (.inr (5, [.int (bz bk), .int fr, va_rf fo, va_rf re, .int 2, .int ch])))) H := hF
        refine lv_aload_n hx hb dX5_light_34 rfl (lv_at hl 0 rfl) ?_
        refine lv_aload_n hx hb dX5_light_35 rfl (lv_at hl 0 rfl) ?_
        refine fw_get X gC_ok hF (va_up_self _ _ _) rfl 4 (by decide) wm_99 rfl dX5_light_36 ?_
        refine lv_iconst (v := 2) hx hb dX5_light_39 (by decide) ?_
        refine lv_icmp_ne (tgt := 47) hx hb dX5_light_40 (by decide) (fun h => absurd h (by decide)) (fun _ => ?_)
        refine lv_iload_n hx hb dX5_light_43 rfl (lv_at hl 2 rfl) ?_
        refine lv_goto (tgt := 48) hx hb dX5_light_44 (by decide) ?_
        refine fw_put X gC_ok hF hS (va_up_self _ _ _) rfl 5 (by decide) wm_100 rfl (tf := .int) (by decide +kernel) rfl rfl (Nat.le_of_ble_eq_true rfl) dX5_light_48 (fun H locs hF hS => ?_)
        rw [bx_uu] at hF
        have hF : fw_P D cls10 A (va_up w h0 (some (.inr (5, [.int (bz bk), .int fr, va_rf fo, va_rf re, .int 2, .int k])))) H := hF
        refine lv_iload_n hx hb dX5_light_51 rfl (lv_at hl 1 rfl) ?_
        refine lv_i2l hx hb dX5_light_52 rfl ?_
        refine fw_lret X hF hS ?_ (Nat.le_of_ble_eq_true rfl) (Nat.le_of_ble_eq_true rfl) dX5_light_53
        refine ⟨by simp [spLight, lmp, oc, c4_1, c14_2, c23_3], ?_⟩
        simp [spLight, lmp, c4_1, c14_2, c23_3]
      · refine lv_iconst (v := 1) hx hb dX5_light_26 (by decide) ?_
        refine lv_goto (tgt := 31) hx hb dX5_light_27 (by decide) ?_
        refine fw_put X gC_ok hF hS h rfl 4 (by decide) wm_99 rfl (tf := .int) (by decide +kernel) rfl rfl (Nat.le_of_ble_eq_true rfl) dX5_light_31 (fun H locs hF hS => ?_)
        have hF : fw_P D cls10 A (va_up w h0 (some (.inr (5, [.int (bz bk), .int fr, va_rf fo, va_rf re, .int 1, .int ch])))) H := hF
        refine lv_aload_n hx hb dX5_light_34 rfl (lv_at hl 0 rfl) ?_
        refine lv_aload_n hx hb dX5_light_35 rfl (lv_at hl 0 rfl) ?_
        refine fw_get X gC_ok hF (va_up_self _ _ _) rfl 4 (by decide) wm_99 rfl dX5_light_36 ?_
        refine lv_iconst (v := 2) hx hb dX5_light_39 (by decide) ?_
        refine lv_icmp_ne (tgt := 47) hx hb dX5_light_40 (by decide) (fun _ => ?_) (fun h => absurd h (by decide))
        refine lv_iconst (v := 0) hx hb dX5_light_47 (by decide) ?_
        refine fw_put X gC_ok hF hS (va_up_self _ _ _) rfl 5 (by decide) wm_100 rfl (tf := .int) (by decide +kernel) rfl rfl (Nat.le_of_ble_eq_true rfl) dX5_light_48 (fun H locs hF hS => ?_)
        rw [bx_uu] at hF
        have hF : fw_P D cls10 A (va_up w h0 (some (.inr (5, [.int (bz bk), .int fr, va_rf fo, va_rf re, .int 1, .int 0])))) H := hF
        refine lv_iload_n hx hb dX5_light_51 rfl (lv_at hl 1 rfl) ?_
        refine lv_i2l hx hb dX5_light_52 rfl ?_
        refine fw_lret X hF hS ?_ (Nat.le_of_ble_eq_true rfl) (Nat.le_of_ble_eq_true rfl) dX5_light_53
        refine ⟨by simp [spLight, lmp, oc, c4_1, c14_2, c23_3], ?_⟩
        simp [spLight, lmp, c4_1, c14_2, c23_3]
    · refine lv_iconst (v := 0) hx hb dX5_light_17 (by decide) ?_
      refine lv_goto (tgt := 31) hx hb dX5_light_18 (by decide) ?_
      refine fw_put X gC_ok hF hS h rfl 4 (by decide) wm_99 rfl (tf := .int) (by decide +kernel) rfl rfl (Nat.le_of_ble_eq_true rfl) dX5_light_31 (fun H locs hF hS => ?_)
      have hF : fw_P D cls10 A (va_up w h0 (some (.inr (5, [.int (bz bk), .int fr, va_rf fo, va_rf re, .int 0, .int ch])))) H := hF
      refine lv_aload_n hx hb dX5_light_34 rfl (lv_at hl 0 rfl) ?_
      refine lv_aload_n hx hb dX5_light_35 rfl (lv_at hl 0 rfl) ?_
      refine fw_get X gC_ok hF (va_up_self _ _ _) rfl 4 (by decide) wm_99 rfl dX5_light_36 ?_
      refine lv_iconst (v := 2) hx hb dX5_light_39 (by decide) ?_
      refine lv_icmp_ne (tgt := 47) hx hb dX5_light_40 (by decide) (fun _ => ?_) (fun h => absurd h (by decide))
      refine lv_iconst (v := 0) hx hb dX5_light_47 (by decide) ?_
      refine fw_put X gC_ok hF hS (va_up_self _ _ _) rfl 5 (by decide) wm_100 rfl (tf := .int) (by decide +kernel) rfl rfl (Nat.le_of_ble_eq_true rfl) dX5_light_48 (fun H locs hF hS => ?_)
      rw [bx_uu] at hF
      have hF : fw_P D cls10 A (va_up w h0 (some (.inr (5, [.int (bz bk), .int fr, va_rf fo, va_rf re, .int 0, .int 0])))) H := hF
      refine lv_iload_n hx hb dX5_light_51 rfl (lv_at hl 1 rfl) ?_
      refine lv_i2l hx hb dX5_light_52 rfl ?_
      refine fw_lret X hF hS ?_ (Nat.le_of_ble_eq_true rfl) (Nat.le_of_ble_eq_true rfl) dX5_light_53
      refine ⟨by simp [spLight, lmp, oc, c4_1, c14_2], ?_⟩
      simp [spLight, lmp, c4_1, c14_2]
  · refine lv_iconst (v := 1) hx hb dX5_light_7 (by decide) ?_
    refine fw_callSN (As := [.int 1]) (rest := []) X bs_all nw_all mf_X8_failure (c_X8_failure l D cs _ _ 1) nm_232 wm_233 hF hS rfl ((⟨⟨Nat.le_of_ble_eq_true rfl, Nat.le_of_ble_eq_true rfl⟩, Nat.le_of_ble_eq_true rfl, Nat.le_of_ble_eq_true rfl⟩)) rfl hl.1 rfl (Nat.le_of_ble_eq_true rfl) dX5_light_8 (fun v u7 H locs hp hF hS hz1 hk1 hd1 => ?_)
    obtain ⟨rfl, hw1⟩ := hp
    rw [hw1] at hF
    refine W.eq (g2 := F0 m 11 ls [.long (fl 1)]) rfl ?_
    refine fw_lret X hF hS ?_ (Nat.le_of_ble_eq_true rfl) (Nat.le_of_ble_eq_true rfl) dX5_light_11
    refine ⟨by simp [spLight, lmp, oc, c4_1], ?_⟩
    refine (gx_upid ?_).symm
    simp [h, spLight, lmp, c4_1]
set_option maxHeartbeats 4000000 in
set_option maxRecDepth 100000 in
theorem c_X5_shine (l : Launch) (D : va_G) (cs : Nat → ClassId) (w : fW) (sz : Nat) (h0 : Nat) (bk : Bool) (fr : Int32) (fo re : Option Nat) (la ch : Int32) (h : w h0 = some (cSt (bk, fr, fo, re, la, ch))) (b : Int32) : gM l bs_B nw_B D cls10 (tyl cs) yX5_shine cX5_shine 2 (some .long) 1 20 0 0 w sz [.ref h0, .int b] (fun v w' => v = some (.long (oc (spShine (bk, fr, fo, re, la, ch) b).1)) ∧ w' = va_up w h0 (some (cSt (spShine (bk, fr, fo, re, la, ch) b).2))) := by
  refine gM.of (by decide +kernel) (Nat.le_of_ble_eq_true rfl) (fun p e s m below meth c A ls X hsz hnm hF hS hl => ?_)
  have hx := X.1
  have hb := X.2.1
  have hl : lv_has ls 2 [(0, .ref h0), (1, .int b)] := hl
  have h : w h0 = some (.inr (5, [.int (bz bk), .int fr, va_rf fo, va_rf re, .int la, .int ch])) := h
  refine lv_aload_n hx hb dX5_shine_0 rfl (lv_at hl 0 rfl) ?_
  refine fw_get X gC_ok hF h rfl 4 (by decide) wm_99 rfl dX5_shine_1 ?_
  refine lv_if_ne (tgt := 12) hx hb dX5_shine_4 (by decide) (fun c4_1 => ?_) (fun c4_1 => ?_)
  · refine lv_aload_n hx hb dX5_shine_12 rfl (lv_at hl 0 rfl) ?_
    refine fw_get X gC_ok hF h rfl 4 (by decide) wm_99 rfl dX5_shine_13 ?_
    refine lv_iconst (v := 1) hx hb dX5_shine_16 (by decide) ?_
    refine lv_icmp_ne (tgt := 25) hx hb dX5_shine_17 (by decide) (fun c17_2 => ?_) (fun c17_2 => ?_)
    · refine lv_aload_n hx hb dX5_shine_25 rfl (lv_at hl 0 rfl) ?_
      refine fw_get X gC_ok hF h rfl 5 (by decide) wm_100 rfl dX5_shine_26 ?_
      refine lv_if_gt (tgt := 34) hx hb dX5_shine_29 (by decide) (fun c29_3 => ?_) (fun c29_3 => ?_)
      · refine lv_aload_n hx hb dX5_shine_34 rfl (lv_at hl 0 rfl) ?_
        refine lv_dup hx hb dX5_shine_35 rfl ?_
        refine fw_get X gC_ok hF h rfl 5 (by decide) wm_100 rfl dX5_shine_36 ?_
        refine lv_iconst (v := 1) hx hb dX5_shine_39 (by decide) ?_
        refine lv_isub hx hb dX5_shine_40 ?_
        refine fw_put X gC_ok hF hS h rfl 5 (by decide) wm_100 rfl (tf := .int) (by decide +kernel) rfl rfl (Nat.le_of_ble_eq_true rfl) dX5_shine_41 (fun H locs hF hS => ?_)
        have hF : fw_P D cls10 A (va_up w h0 (some (.inr (5, [.int (bz bk), .int fr, va_rf fo, va_rf re, .int la, .int (ch - 1)])))) H := hF
        refine lv_iload_n hx hb dX5_shine_44 rfl (lv_at hl 1 rfl) ?_
        refine lv_i2l hx hb dX5_shine_45 rfl ?_
        refine fw_lret X hF hS ?_ (Nat.le_of_ble_eq_true rfl) (Nat.le_of_ble_eq_true rfl) dX5_shine_46
        refine ⟨by simp [spShine, oc, c4_1, c17_2, c29_3], ?_⟩
        simp [spShine, c4_1, c17_2, c29_3]
      · refine lv_lconst (v := 0) hx hb dX5_shine_32 (by decide) ?_
        refine fw_lret X hF hS ?_ (Nat.le_of_ble_eq_true rfl) (Nat.le_of_ble_eq_true rfl) dX5_shine_33
        refine ⟨by simp [spShine, oc, c4_1, c17_2, c29_3], ?_⟩
        refine (gx_upid ?_).symm
        simp [h, spShine, c4_1, c17_2, c29_3]
    · refine lv_iconst (v := 3) hx hb dX5_shine_20 (by decide) ?_
      refine lv_iload_n hx hb dX5_shine_21 rfl (lv_at hl 1 rfl) ?_
      refine lv_imul hx hb dX5_shine_22 ?_
      refine lv_i2l hx hb dX5_shine_23 rfl ?_
      refine fw_lret X hF hS ?_ (Nat.le_of_ble_eq_true rfl) (Nat.le_of_ble_eq_true rfl) dX5_shine_24
      refine ⟨by simp [spShine, oc, c4_1, c17_2], ?_⟩
      refine (gx_upid ?_).symm
      simp [h, spShine, c4_1, c17_2]
  · refine lv_iconst (v := 1) hx hb dX5_shine_7 (by decide) ?_
    refine fw_callSN (As := [.int 1]) (rest := []) X bs_all nw_all mf_X8_failure (c_X8_failure l D cs _ _ 1) nm_232 wm_233 hF hS rfl ((⟨⟨Nat.le_of_ble_eq_true rfl, Nat.le_of_ble_eq_true rfl⟩, Nat.le_of_ble_eq_true rfl, Nat.le_of_ble_eq_true rfl⟩)) rfl hl.1 rfl (Nat.le_of_ble_eq_true rfl) dX5_shine_8 (fun v u4 H locs hp hF hS hz1 hk1 hd1 => ?_)
    obtain ⟨rfl, hw1⟩ := hp
    rw [hw1] at hF
    refine W.eq (g2 := F0 m 11 ls [.long (fl 1)]) rfl ?_
    refine fw_lret X hF hS ?_ (Nat.le_of_ble_eq_true rfl) (Nat.le_of_ble_eq_true rfl) dX5_shine_11
    refine ⟨by simp [spShine, oc, c4_1], ?_⟩
    refine (gx_upid ?_).symm
    simp [h, spShine, c4_1]
set_option maxHeartbeats 4000000 in
set_option maxRecDepth 100000 in
theorem c_X5_tell (l : Launch) (D : va_G) (cs : Nat → ClassId) (w : fW) (sz : Nat) (h0 : Nat) (bk : Bool) (fr : Int32) (fo re : Option Nat) (la ch : Int32) (h : w h0 = some (cSt (bk, fr, fo, re, la, ch))) (kk : Int32) (W9 : Nat → aWh) (hfo : ∀ q, fo = some q → w q = some (cWh (W9 q))) (hre : ∀ q, re = some q → w q = some (cWh (W9 q))) : gM l bs_B nw_B D cls10 (tyl cs) yX5_tell cX5_tell 2 (some .int) 0 0 0 0 w sz [.ref h0, .int kk] (fun v w' => v = some (.int (spTell W9 (bk, fr, fo, re, la, ch) kk)) ∧ w' = w) := by
  refine gM.of (by decide +kernel) (Nat.le_of_ble_eq_true rfl) (fun p e s m below meth c A ls X hsz hnm hF hS hl => ?_)
  have hx := X.1
  have hb := X.2.1
  have hl : lv_has ls 2 [(0, .ref h0), (1, .int kk)] := hl
  have h : w h0 = some (.inr (5, [.int (bz bk), .int fr, va_rf fo, va_rf re, .int la, .int ch])) := h
  refine lv_iload_n hx hb dX5_tell_0 rfl (lv_at hl 1 rfl) ?_
  rcases gx_sw8 kk with sw1 | sw1 | sw1 | sw1 | sw1 | sw1 | sw1 | sw1 | sw1
  · refine lv_tableIn (off := 47) (tgt := 48) hx hb dX5_tell_1 (by rw [sw1]; decide) (by rw [sw1]; decide) (by rw [sw1]; rfl) (by decide) ?_
    refine lv_aload_n hx hb dX5_tell_48 rfl (lv_at hl 0 rfl) ?_
    refine fw_get X gC_ok hF h rfl 0 (by decide) wm_91 rfl dX5_tell_49 ?_
    refine gx_ifeq (tgt := 59) hx hb dX5_tell_52 (by decide) (fun c52_2 => ?_) (fun c52_2 => ?_)
    · refine lv_iconst (v := 0) hx hb dX5_tell_59 (by decide) ?_
      refine fw_iret X hF hS ?_ (Nat.le_of_ble_eq_true rfl) (Nat.le_of_ble_eq_true rfl) dX5_tell_60
      exact ⟨by simp [spTell, oSp, oTu, bz, sw1, c52_2], rfl⟩
    · refine lv_iconst (v := 1) hx hb dX5_tell_55 (by decide) ?_
      refine lv_goto (tgt := 60) hx hb dX5_tell_56 (by decide) ?_
      refine fw_iret X hF hS ?_ (Nat.le_of_ble_eq_true rfl) (Nat.le_of_ble_eq_true rfl) dX5_tell_60
      exact ⟨by simp [spTell, oSp, oTu, bz, sw1, c52_2], rfl⟩
  · refine lv_tableIn (off := 60) (tgt := 61) hx hb dX5_tell_1 (by rw [sw1]; decide) (by rw [sw1]; decide) (by rw [sw1]; rfl) (by decide) ?_
    refine lv_aload_n hx hb dX5_tell_61 rfl (lv_at hl 0 rfl) ?_
    refine fw_get X gC_ok hF h rfl 1 (by decide) wm_93 rfl dX5_tell_62 ?_
    refine fw_iret X hF hS ?_ (Nat.le_of_ble_eq_true rfl) (Nat.le_of_ble_eq_true rfl) dX5_tell_65
    exact ⟨by simp [spTell, oSp, oTu, bz, sw1], rfl⟩
  · refine lv_tableIn (off := 65) (tgt := 66) hx hb dX5_tell_1 (by rw [sw1]; decide) (by rw [sw1]; decide) (by rw [sw1]; rfl) (by decide) ?_
    refine lv_aload_n hx hb dX5_tell_66 rfl (lv_at hl 0 rfl) ?_
    refine fw_get X gC_ok hF h rfl 2 (by decide) wm_94 rfl dX5_tell_67 ?_
    refine gx_ifnonnull (tgt := 77) hx hb dX5_tell_70 (by decide) (fun hq3 => ?_) (fun q3 hq3 => ?_)
    · subst hq3
      have h : w h0 = some (.inr (5, [.int (bz bk), .int fr, .null, va_rf re, .int la, .int ch])) := h
      refine lv_iconst (v := 0) hx hb dX5_tell_73 (by decide) ?_
      refine lv_goto (tgt := 84) hx hb dX5_tell_74 (by decide) ?_
      refine fw_iret X hF hS ?_ (Nat.le_of_ble_eq_true rfl) (Nat.le_of_ble_eq_true rfl) dX5_tell_84
      exact ⟨by simp [spTell, oSp, oTu, bz, sw1], rfl⟩
    · subst hq3
      have h : w h0 = some (.inr (5, [.int (bz bk), .int fr, .ref q3, va_rf re, .int la, .int ch])) := h
      refine lv_aload_n hx hb dX5_tell_77 rfl (lv_at hl 0 rfl) ?_
      refine fw_get X gC_ok hF h rfl 2 (by decide) wm_94 rfl dX5_tell_78 ?_
      refine fw_get X gC_ok hF (hfo _ rfl) rfl 0 (by decide) wm_243 rfl dX5_tell_81 ?_
      refine fw_iret X hF hS ?_ (Nat.le_of_ble_eq_true rfl) (Nat.le_of_ble_eq_true rfl) dX5_tell_84
      exact ⟨by simp [spTell, oSp, oTu, bz, sw1], rfl⟩
  · refine lv_tableIn (off := 84) (tgt := 85) hx hb dX5_tell_1 (by rw [sw1]; decide) (by rw [sw1]; decide) (by rw [sw1]; rfl) (by decide) ?_
    refine lv_aload_n hx hb dX5_tell_85 rfl (lv_at hl 0 rfl) ?_
    refine fw_get X gC_ok hF h rfl 3 (by decide) wm_97 rfl dX5_tell_86 ?_
    refine gx_ifnonnull (tgt := 96) hx hb dX5_tell_89 (by decide) (fun hq4 => ?_) (fun q4 hq4 => ?_)
    · subst hq4
      have h : w h0 = some (.inr (5, [.int (bz bk), .int fr, va_rf fo, .null, .int la, .int ch])) := h
      refine lv_iconst (v := 0) hx hb dX5_tell_92 (by decide) ?_
      refine lv_goto (tgt := 103) hx hb dX5_tell_93 (by decide) ?_
      refine fw_iret X hF hS ?_ (Nat.le_of_ble_eq_true rfl) (Nat.le_of_ble_eq_true rfl) dX5_tell_103
      exact ⟨by simp [spTell, oSp, oTu, bz, sw1], rfl⟩
    · subst hq4
      have h : w h0 = some (.inr (5, [.int (bz bk), .int fr, va_rf fo, .ref q4, .int la, .int ch])) := h
      refine lv_aload_n hx hb dX5_tell_96 rfl (lv_at hl 0 rfl) ?_
      refine fw_get X gC_ok hF h rfl 3 (by decide) wm_97 rfl dX5_tell_97 ?_
      refine fw_get X gC_ok hF (hre _ rfl) rfl 0 (by decide) wm_243 rfl dX5_tell_100 ?_
      refine fw_iret X hF hS ?_ (Nat.le_of_ble_eq_true rfl) (Nat.le_of_ble_eq_true rfl) dX5_tell_103
      exact ⟨by simp [spTell, oSp, oTu, bz, sw1], rfl⟩
  · refine lv_tableIn (off := 103) (tgt := 104) hx hb dX5_tell_1 (by rw [sw1]; decide) (by rw [sw1]; decide) (by rw [sw1]; rfl) (by decide) ?_
    refine lv_aload_n hx hb dX5_tell_104 rfl (lv_at hl 0 rfl) ?_
    refine fw_get X gC_ok hF h rfl 2 (by decide) wm_94 rfl dX5_tell_105 ?_
    refine gx_ifnonnull (tgt := 115) hx hb dX5_tell_108 (by decide) (fun hq5 => ?_) (fun q5 hq5 => ?_)
    · subst hq5
      have h : w h0 = some (.inr (5, [.int (bz bk), .int fr, .null, va_rf re, .int la, .int ch])) := h
      refine lv_iconst (v := 0) hx hb dX5_tell_111 (by decide) ?_
      refine lv_goto (tgt := 122) hx hb dX5_tell_112 (by decide) ?_
      refine fw_iret X hF hS ?_ (Nat.le_of_ble_eq_true rfl) (Nat.le_of_ble_eq_true rfl) dX5_tell_122
      exact ⟨by simp [spTell, oSp, oTu, bz, sw1], rfl⟩
    · subst hq5
      have h : w h0 = some (.inr (5, [.int (bz bk), .int fr, .ref q5, va_rf re, .int la, .int ch])) := h
      refine lv_aload_n hx hb dX5_tell_115 rfl (lv_at hl 0 rfl) ?_
      refine fw_get X gC_ok hF h rfl 2 (by decide) wm_94 rfl dX5_tell_116 ?_
      refine fw_get X gC_ok hF (hfo _ rfl) rfl 2 (by decide) wm_248 rfl dX5_tell_119 ?_
      refine fw_iret X hF hS ?_ (Nat.le_of_ble_eq_true rfl) (Nat.le_of_ble_eq_true rfl) dX5_tell_122
      exact ⟨by simp [spTell, oSp, oTu, bz, sw1], rfl⟩
  · refine lv_tableIn (off := 122) (tgt := 123) hx hb dX5_tell_1 (by rw [sw1]; decide) (by rw [sw1]; decide) (by rw [sw1]; rfl) (by decide) ?_
    refine lv_aload_n hx hb dX5_tell_123 rfl (lv_at hl 0 rfl) ?_
    refine fw_get X gC_ok hF h rfl 3 (by decide) wm_97 rfl dX5_tell_124 ?_
    refine gx_ifnonnull (tgt := 134) hx hb dX5_tell_127 (by decide) (fun hq6 => ?_) (fun q6 hq6 => ?_)
    · subst hq6
      have h : w h0 = some (.inr (5, [.int (bz bk), .int fr, va_rf fo, .null, .int la, .int ch])) := h
      refine lv_iconst (v := 0) hx hb dX5_tell_130 (by decide) ?_
      refine lv_goto (tgt := 141) hx hb dX5_tell_131 (by decide) ?_
      refine fw_iret X hF hS ?_ (Nat.le_of_ble_eq_true rfl) (Nat.le_of_ble_eq_true rfl) dX5_tell_141
      exact ⟨by simp [spTell, oSp, oTu, bz, sw1], rfl⟩
    · subst hq6
      have h : w h0 = some (.inr (5, [.int (bz bk), .int fr, va_rf fo, .ref q6, .int la, .int ch])) := h
      refine lv_aload_n hx hb dX5_tell_134 rfl (lv_at hl 0 rfl) ?_
      refine fw_get X gC_ok hF h rfl 3 (by decide) wm_97 rfl dX5_tell_135 ?_
      refine fw_get X gC_ok hF (hre _ rfl) rfl 2 (by decide) wm_248 rfl dX5_tell_138 ?_
      refine fw_iret X hF hS ?_ (Nat.le_of_ble_eq_true rfl) (Nat.le_of_ble_eq_true rfl) dX5_tell_141
      exact ⟨by simp [spTell, oSp, oTu, bz, sw1], rfl⟩
  · refine lv_tableIn (off := 158) (tgt := 159) hx hb dX5_tell_1 (by rw [sw1]; decide) (by rw [sw1]; decide) (by rw [sw1]; rfl) (by decide) ?_
    refine lv_ldc (v := (-2147483648)) hx hb X.2.2.2.1 (X.2.2.2.2.1 _ wm_447) dX5_tell_159 ?_
    refine fw_iret X hF hS ?_ (Nat.le_of_ble_eq_true rfl) (Nat.le_of_ble_eq_true rfl) dX5_tell_161
    exact ⟨by simp [spTell, oSp, oTu, bz, sw1], rfl⟩
  · refine lv_tableIn (off := 141) (tgt := 142) hx hb dX5_tell_1 (by rw [sw1]; decide) (by rw [sw1]; decide) (by rw [sw1]; rfl) (by decide) ?_
    refine lv_aload_n hx hb dX5_tell_142 rfl (lv_at hl 0 rfl) ?_
    refine fw_get X gC_ok hF h rfl 4 (by decide) wm_99 rfl dX5_tell_143 ?_
    refine lv_iconst (v := 1) hx hb dX5_tell_146 (by decide) ?_
    refine lv_icmp_ne (tgt := 154) hx hb dX5_tell_147 (by decide) (fun c147_7 => ?_) (fun c147_7 => ?_)
    · refine lv_aload_n hx hb dX5_tell_154 rfl (lv_at hl 0 rfl) ?_
      refine fw_get X gC_ok hF h rfl 5 (by decide) wm_100 rfl dX5_tell_155 ?_
      refine fw_iret X hF hS ?_ (Nat.le_of_ble_eq_true rfl) (Nat.le_of_ble_eq_true rfl) dX5_tell_158
      exact ⟨by simp [spTell, oSp, oTu, bz, sw1, c147_7], rfl⟩
    · refine lv_iconst (v := (-1)) hx hb dX5_tell_150 (by decide) ?_
      refine lv_goto (tgt := 158) hx hb dX5_tell_151 (by decide) ?_
      refine fw_iret X hF hS ?_ (Nat.le_of_ble_eq_true rfl) (Nat.le_of_ble_eq_true rfl) dX5_tell_158
      exact ⟨by simp [spTell, oSp, oTu, bz, sw1, c147_7], rfl⟩
  · refine lv_tableOut (tgt := 159) hx hb dX5_tell_1 sw1 (by decide) ?_
    have n0 : ¬ kk = 0 := fun q => by rw [q] at sw1; revert sw1; decide
    have n1 : ¬ kk = 1 := fun q => by rw [q] at sw1; revert sw1; decide
    have n2 : ¬ kk = 2 := fun q => by rw [q] at sw1; revert sw1; decide
    have n3 : ¬ kk = 3 := fun q => by rw [q] at sw1; revert sw1; decide
    have n4 : ¬ kk = 4 := fun q => by rw [q] at sw1; revert sw1; decide
    have n5 : ¬ kk = 5 := fun q => by rw [q] at sw1; revert sw1; decide
    have n6 : ¬ kk = 6 := fun q => by rw [q] at sw1; revert sw1; decide
    have n7 : ¬ kk = 7 := fun q => by rw [q] at sw1; revert sw1; decide
    refine lv_ldc (v := (-2147483648)) hx hb X.2.2.2.1 (X.2.2.2.2.1 _ wm_447) dX5_tell_159 ?_
    refine fw_iret X hF hS ?_ (Nat.le_of_ble_eq_true rfl) (Nat.le_of_ble_eq_true rfl) dX5_tell_161
    exact ⟨by simp [spTell, oSp, oTu, bz, n0, n1, n2, n3, n4, n5, n6, n7], rfl⟩
set_option maxHeartbeats 4000000 in
set_option maxRecDepth 100000 in
theorem c_X5_trueWheel (l : Launch) (D : va_G) (cs : Nat → ClassId) (w : fW) (sz : Nat) (h0 : Nat) (bk : Bool) (fr : Int32) (fo re : Option Nat) (la ch : Int32) (h : w h0 = some (cSt (bk, fr, fo, re, la, ch))) (b : Int32) (W9 : Nat → aWh) (hso : ∀ q, sdw b fo re = some q → w q = some (cWh (W9 q))) : gM l bs_B nw_B D cls10 (tyl cs) yX5_trueWheel cX5_trueWheel 3 (some .long) 1 21 0 0 w sz [.ref h0, .int b] (fun v w' => (sdw b fo re = none ∧ v = some (.long (fl 1)) ∧ w' = w) ∨ (∃ q, sdw b fo re = some q ∧ v = some (.long (whT (W9 q)).toInt64) ∧ w' = va_up w q (some (cWh ((W9 q).1, (W9 q).2.1, (W9 q).2.2 + 1))))) := by
  refine gM.of (by decide +kernel) (Nat.le_of_ble_eq_true rfl) (fun p e s m below meth c A ls X hsz hnm hF hS hl => ?_)
  have hx := X.1
  have hb := X.2.1
  have hl : lv_has ls 3 [(0, .ref h0), (1, .int b)] := hl
  have h : w h0 = some (.inr (5, [.int (bz bk), .int fr, va_rf fo, va_rf re, .int la, .int ch])) := h
  refine lv_aload_n hx hb dX5_trueWheel_0 rfl (lv_at hl 0 rfl) ?_
  refine lv_iload_n hx hb dX5_trueWheel_1 rfl (lv_at hl 1 rfl) ?_
  refine fw_callV (As := [.int b]) (rest := []) X bs_all nw_all mf_X5_wheel (c_X5_wheel l D cs _ _ h0 bk fr fo re la ch h b) wm_260 wm_261 wm_262 hF hS rfl h rfl rfl ((⟨⟨Nat.le_of_ble_eq_true rfl, Nat.le_of_ble_eq_true rfl⟩, Nat.le_of_ble_eq_true rfl, Nat.le_of_ble_eq_true rfl⟩)) rfl hl.1 rfl (Nat.le_of_ble_eq_true rfl) dX5_trueWheel_2 (fun v u1 H locs hp hF hS hz1 hk1 hd1 => ?_)
  obtain ⟨rfl, hw1⟩ := hp
  rw [hw1] at hF
  refine W.eq (g2 := F0 m 5 ls [va_rf (sdw b fo re)]) rfl ?_
  refine gx_astore_nq (i := 2) (lv' := [(2, va_rf (sdw b fo re)), (0, .ref h0), (1, .int b)]) hx hb dX5_trueWheel_5 rfl hl (by decide) (by simp [gx_cat, Value.category]) (fun ls hl => ?_)
  refine gx_aload_nq hx hb dX5_trueWheel_6 rfl (lv_at hl 0 rfl) ?_
  refine gx_ifnonnull (tgt := 17) hx hb dX5_trueWheel_7 (by decide) (fun hq2 => ?_) (fun q2 hq2 => ?_)
  · have hl : lv_has ls 3 [(2, .null), (0, .ref h0), (1, .int b)] := by rw [hq2] at hl; exact hl
    refine lv_iconst (v := 1) hx hb dX5_trueWheel_10 (by decide) ?_
    refine fw_callSN (As := [.int 1]) (rest := []) X bs_all nw_all mf_X8_failure (c_X8_failure l D cs _ _ 1) nm_232 wm_233 hF hS rfl ((⟨⟨Nat.le_of_ble_eq_true rfl, Nat.le_of_ble_eq_true rfl⟩, Nat.le_of_ble_eq_true rfl, Nat.le_of_ble_eq_true rfl⟩)) rfl hl.1 rfl (Nat.le_of_ble_eq_true rfl) dX5_trueWheel_11 (fun v u3 H locs hp hF hS hz1 hk1 hd1 => ?_)
    obtain ⟨rfl, hw1⟩ := hp
    rw [hw1] at hF
    refine W.eq (g2 := F0 m 14 ls [.long (fl 1)]) rfl ?_
    refine lv_goto (tgt := 22) hx hb dX5_trueWheel_14 (by decide) ?_
    refine fw_lret X hF hS ?_ (Nat.le_of_ble_eq_true rfl) (Nat.le_of_ble_eq_true rfl) dX5_trueWheel_22
    exact Or.inl ⟨hq2, rfl, rfl⟩
  · have hl : lv_has ls 3 [(2, .ref q2), (0, .ref h0), (1, .int b)] := by rw [hq2] at hl; exact hl
    refine lv_aload_n hx hb dX5_trueWheel_17 rfl (lv_at hl 0 rfl) ?_
    refine fw_callV (As := []) (rest := []) X bs_all nw_all mf_X7_turn (c_X7_turn l D cs _ _ q2 ((W9 q2).1) ((W9 q2).2.2) ((W9 q2).2.1) (hso q2 hq2)) wm_264 wm_265 wm_266 hF hS rfl (hso q2 hq2) rfl rfl ((⟨⟨Nat.le_of_ble_eq_true rfl, Nat.le_of_ble_eq_true rfl⟩, Nat.le_of_ble_eq_true rfl, Nat.le_of_ble_eq_true rfl⟩)) rfl hl.1 rfl (Nat.le_of_ble_eq_true rfl) dX5_trueWheel_18 (fun v u4 H locs hp hF hS hz1 hk1 hd1 => ?_)
    obtain ⟨rfl, hw1⟩ := hp
    rw [hw1] at hF
    refine W.eq (g2 := F0 m 21 ls [.int (whT ((W9 q2).1, (W9 q2).2.1, (W9 q2).2.2))]) rfl ?_
    refine lv_i2l hx hb dX5_trueWheel_21 rfl ?_
    refine fw_lret X hF hS ?_ (Nat.le_of_ble_eq_true rfl) (Nat.le_of_ble_eq_true rfl) dX5_trueWheel_22
    exact Or.inr ⟨q2, hq2, rfl, rfl⟩
set_option maxHeartbeats 4000000 in
set_option maxRecDepth 100000 in
theorem c_X5_countSpokes (l : Launch) (D : va_G) (cs : Nat → ClassId) (w : fW) (sz : Nat) (h0 : Nat) (bk : Bool) (fr : Int32) (fo re : Option Nat) (la ch : Int32) (h : w h0 = some (cSt (bk, fr, fo, re, la, ch))) (b : Int32) (W9 : Nat → aWh) (hso : ∀ q, sdw b fo re = some q → w q = some (cWh (W9 q))) : gM l bs_B nw_B D cls10 (tyl cs) yX5_countSpokes cX5_countSpokes 3 (some .long) 1 21 0 0 w sz [.ref h0, .int b] (fun v w' => (sdw b fo re = none ∧ v = some (.long (fl 1)) ∧ w' = w) ∨ (∃ q, sdw b fo re = some q ∧ v = some (.long (W9 q).1.toInt64) ∧ w' = w)) := by
  refine gM.of (by decide +kernel) (Nat.le_of_ble_eq_true rfl) (fun p e s m below meth c A ls X hsz hnm hF hS hl => ?_)
  have hx := X.1
  have hb := X.2.1
  have hl : lv_has ls 3 [(0, .ref h0), (1, .int b)] := hl
  have h : w h0 = some (.inr (5, [.int (bz bk), .int fr, va_rf fo, va_rf re, .int la, .int ch])) := h
  refine lv_aload_n hx hb dX5_countSpokes_0 rfl (lv_at hl 0 rfl) ?_
  refine lv_iload_n hx hb dX5_countSpokes_1 rfl (lv_at hl 1 rfl) ?_
  refine fw_callV (As := [.int b]) (rest := []) X bs_all nw_all mf_X5_wheel (c_X5_wheel l D cs _ _ h0 bk fr fo re la ch h b) wm_260 wm_261 wm_262 hF hS rfl h rfl rfl ((⟨⟨Nat.le_of_ble_eq_true rfl, Nat.le_of_ble_eq_true rfl⟩, Nat.le_of_ble_eq_true rfl, Nat.le_of_ble_eq_true rfl⟩)) rfl hl.1 rfl (Nat.le_of_ble_eq_true rfl) dX5_countSpokes_2 (fun v u1 H locs hp hF hS hz1 hk1 hd1 => ?_)
  obtain ⟨rfl, hw1⟩ := hp
  rw [hw1] at hF
  refine W.eq (g2 := F0 m 5 ls [va_rf (sdw b fo re)]) rfl ?_
  refine gx_astore_nq (i := 2) (lv' := [(2, va_rf (sdw b fo re)), (0, .ref h0), (1, .int b)]) hx hb dX5_countSpokes_5 rfl hl (by decide) (by simp [gx_cat, Value.category]) (fun ls hl => ?_)
  refine gx_aload_nq hx hb dX5_countSpokes_6 rfl (lv_at hl 0 rfl) ?_
  refine gx_ifnonnull (tgt := 17) hx hb dX5_countSpokes_7 (by decide) (fun hq2 => ?_) (fun q2 hq2 => ?_)
  · have hl : lv_has ls 3 [(2, .null), (0, .ref h0), (1, .int b)] := by rw [hq2] at hl; exact hl
    refine lv_iconst (v := 1) hx hb dX5_countSpokes_10 (by decide) ?_
    refine fw_callSN (As := [.int 1]) (rest := []) X bs_all nw_all mf_X8_failure (c_X8_failure l D cs _ _ 1) nm_232 wm_233 hF hS rfl ((⟨⟨Nat.le_of_ble_eq_true rfl, Nat.le_of_ble_eq_true rfl⟩, Nat.le_of_ble_eq_true rfl, Nat.le_of_ble_eq_true rfl⟩)) rfl hl.1 rfl (Nat.le_of_ble_eq_true rfl) dX5_countSpokes_11 (fun v u3 H locs hp hF hS hz1 hk1 hd1 => ?_)
    obtain ⟨rfl, hw1⟩ := hp
    rw [hw1] at hF
    refine W.eq (g2 := F0 m 14 ls [.long (fl 1)]) rfl ?_
    refine lv_goto (tgt := 22) hx hb dX5_countSpokes_14 (by decide) ?_
    refine fw_lret X hF hS ?_ (Nat.le_of_ble_eq_true rfl) (Nat.le_of_ble_eq_true rfl) dX5_countSpokes_22
    exact Or.inl ⟨hq2, rfl, rfl⟩
  · have hl : lv_has ls 3 [(2, .ref q2), (0, .ref h0), (1, .int b)] := by rw [hq2] at hl; exact hl
    refine lv_aload_n hx hb dX5_countSpokes_17 rfl (lv_at hl 0 rfl) ?_
    refine fw_get X gC_ok hF (hso q2 hq2) rfl 0 (by decide) wm_243 rfl dX5_countSpokes_18 ?_
    refine lv_i2l hx hb dX5_countSpokes_21 rfl ?_
    refine fw_lret X hF hS ?_ (Nat.le_of_ble_eq_true rfl) (Nat.le_of_ble_eq_true rfl) dX5_countSpokes_22
    exact Or.inr ⟨q2, hq2, rfl, rfl⟩
set_option maxHeartbeats 4000000 in
set_option maxRecDepth 100000 in
theorem c_X5_fit (l : Launch) (D : va_G) (cs : Nat → ClassId) (w : fW) (sz : Nat) (h0 : Nat) (bk : Bool) (fr : Int32) (fo re : Option Nat) (la ch : Int32) (h : w h0 = some (cSt (bk, fr, fo, re, la, ch))) (b k : Int32) : gM l bs_B nw_B D cls10 (tyl cs) yX5_fit cX5_fit 5 (some .long) 2 42 1 3 w sz [.ref h0, .int b, .int k] (fun v w' => (bk = false ∧ v = some (.long (fl 1)) ∧ w' = w) ∨ (bk = true ∧ k = 0 ∧ v = some (.long k.toInt64) ∧ w' = va_up w h0 (some (cSt (sdset b (bk, fr, fo, re, la, ch) none)))) ∨ (bk = true ∧ ¬ k = 0 ∧ v = some (.long k.toInt64) ∧ ∃ q, w q = none ∧ w' = va_up (va_up w q (some (cWh (whN k)))) h0 (some (cSt (sdset b (bk, fr, fo, re, la, ch) (some q)))))) := by
  refine gM.of (by decide +kernel) (Nat.le_of_ble_eq_true rfl) (fun p e s m below meth c A ls X hsz hnm hF hS hl => ?_)
  have hx := X.1
  have hb := X.2.1
  have hl : lv_has ls 5 [(0, .ref h0), (1, .int b), (2, .int k)] := hl
  have h : w h0 = some (.inr (5, [.int (bz bk), .int fr, va_rf fo, va_rf re, .int la, .int ch])) := h
  refine lv_aload_n hx hb dX5_fit_0 rfl (lv_at hl 0 rfl) ?_
  refine fw_get X gC_ok hF h rfl 0 (by decide) wm_91 rfl dX5_fit_1 ?_
  refine gx_ifne (tgt := 12) hx hb dX5_fit_4 (by decide) (fun c4_1 => ?_) (fun c4_1 => ?_)
  · refine lv_iload_n hx hb dX5_fit_12 rfl (lv_at hl 2 rfl) ?_
    refine lv_bipush (v := 100) hx hb dX5_fit_13 (by decide) ?_
    refine lv_icmp_lt (tgt := 22) hx hb dX5_fit_15 (by decide) (fun c15_2 => ?_) (fun c15_2 => ?_)
    · refine lv_iconst (v := 0) hx hb dX5_fit_22 (by decide) ?_
      refine lv_istore_n (lv' := [(3, .int 0), (0, .ref h0), (1, .int b), (2, .int k)]) hx hb dX5_fit_23 rfl hl (by decide) rfl (fun ls hl => ?_)
      refine lv_iload_n hx hb dX5_fit_24 rfl (lv_at hl 3 rfl) ?_
      refine lv_if_ne (tgt := 32) hx hb dX5_fit_25 (by decide) (fun c25_3 => ?_) (fun c25_3 => ?_)
      · refine fw_new (ci := 7) (fs := [.int 0, .int 0, .int 0]) X gC_ok hF hS rfl tyX7 tyX7_ok (by decide +kernel) wm_236 wm_237 wm_33 (Nat.le_of_ble_eq_true rfl) (Nat.le_of_ble_eq_true rfl) dX5_fit_32 (fun q4 H nq4 zq4 zzq4 hF hS => ?_)
        refine lv_dup hx hb dX5_fit_35 rfl ?_
        refine lv_iload_n hx hb dX5_fit_36 rfl (lv_at hl 0 rfl) ?_
        refine lv_if_eq (tgt := 47) hx hb dX5_fit_37 (by decide) (fun _ => ?_) (fun h => absurd rfl h)
        refine lv_iload_n hx hb dX5_fit_47 rfl (lv_at hl 3 rfl) ?_
        refine lv_iload_n hx hb dX5_fit_48 rfl (lv_at hl 0 rfl) ?_
        refine fw_callI (As := [.int k, .int 0]) (rest := [.ref q4]) X bs_all nw_all mf_X7_init (c_X7_init l D cs _ _ q4 k 0 false (va_up_self _ _ _)) wm_238 wm_239 rfl hF hS rfl ((⟨⟨Nat.le_of_ble_eq_true rfl, Nat.le_of_ble_eq_true rfl⟩, Nat.le_of_ble_eq_true rfl, Nat.le_of_ble_eq_true rfl⟩)) rfl hl.1 rfl (Nat.le_of_ble_eq_true rfl) dX5_fit_49 (fun v u6 H locs hp hF hS hz1 hk1 hd1 => ?_)
        obtain ⟨rfl, hw1⟩ := hp
        rw [hw1] at hF
        refine W.eq (g2 := F0 m 52 ls [.ref q4]) rfl ?_
        refine lv_astore (lv' := [(4, .ref q4), (3, .int 0), (0, .ref h0), (1, .int b), (2, .int k)]) hx hb dX5_fit_52 hl (by decide) rfl (fun ls hl => ?_)
        refine lv_iload_n hx hb dX5_fit_54 rfl (lv_at hl 3 rfl) ?_
        refine lv_iconst (v := 1) hx hb dX5_fit_55 (by decide) ?_
        refine lv_iand hx hb dX5_fit_56 ?_
        refine lv_if_ne (tgt := 69) hx hb dX5_fit_57 (by decide) (fun c57_7 => ?_) (fun c57_7 => ?_)
        · refine lv_aload_n hx hb dX5_fit_69 rfl (lv_at hl 2 rfl) ?_
          refine lv_aload hx hb dX5_fit_70 (lv_at hl 0 rfl) ?_
          refine fw_put X gC_ok hF hS ((va_up_ne _ _ (gx_ne h nq4)).trans ((va_up_ne _ _ (gx_ne h nq4)).trans h)) rfl 3 (by decide) wm_97 rfl (tf := .object "CycleShop$Wheel") (by decide +kernel) rfl rfl (Nat.le_of_ble_eq_true rfl) dX5_fit_72 (fun H locs hF hS => ?_)
          have hF : fw_P D cls10 A (va_up (va_up (va_up w q4 (some (.inr (7, [.int 0, .int 0, .int 0])))) q4 (some (.inr (7, [.int k, .int (bz false), .int 0])))) h0 (some (.inr (5, [.int (bz bk), .int fr, va_rf fo, .ref q4, .int la, .int ch])))) H := hF
          refine lv_iload_n hx hb dX5_fit_75 rfl (lv_at hl 4 rfl) ?_
          refine lv_i2l hx hb dX5_fit_76 rfl ?_
          refine fw_lret X hF hS ?_ (Nat.le_of_ble_eq_true rfl) (Nat.le_of_ble_eq_true rfl) dX5_fit_77
          refine Or.inr (Or.inr ⟨c4_1, c25_3, rfl, q4, nq4, ?_⟩)
          simp [sdset, whN, bx_uu, c4_1, c15_2, c25_3, c57_7]
          rfl
        · refine lv_aload_n hx hb dX5_fit_60 rfl (lv_at hl 2 rfl) ?_
          refine lv_aload hx hb dX5_fit_61 (lv_at hl 0 rfl) ?_
          refine fw_put X gC_ok hF hS ((va_up_ne _ _ (gx_ne h nq4)).trans ((va_up_ne _ _ (gx_ne h nq4)).trans h)) rfl 2 (by decide) wm_94 rfl (tf := .object "CycleShop$Wheel") (by decide +kernel) rfl rfl (Nat.le_of_ble_eq_true rfl) dX5_fit_63 (fun H locs hF hS => ?_)
          have hF : fw_P D cls10 A (va_up (va_up (va_up w q4 (some (.inr (7, [.int 0, .int 0, .int 0])))) q4 (some (.inr (7, [.int k, .int (bz false), .int 0])))) h0 (some (.inr (5, [.int (bz bk), .int fr, .ref q4, va_rf re, .int la, .int ch])))) H := hF
          refine lv_goto (tgt := 75) hx hb dX5_fit_66 (by decide) ?_
          refine lv_iload_n hx hb dX5_fit_75 rfl (lv_at hl 4 rfl) ?_
          refine lv_i2l hx hb dX5_fit_76 rfl ?_
          refine fw_lret X hF hS ?_ (Nat.le_of_ble_eq_true rfl) (Nat.le_of_ble_eq_true rfl) dX5_fit_77
          refine Or.inr (Or.inr ⟨c4_1, c25_3, rfl, q4, nq4, ?_⟩)
          simp [sdset, whN, bx_uu, c4_1, c15_2, c25_3, c57_7]
          rfl
      · refine lv_null hx hb dX5_fit_28 ?_
        refine lv_goto (tgt := 52) hx hb dX5_fit_29 (by decide) ?_
        refine lv_astoreN (lv' := [(4, .null), (3, .int 0), (0, .ref h0), (1, .int b), (2, .int k)]) hx hb dX5_fit_52 hl (by decide) rfl (fun ls hl => ?_)
        refine lv_iload_n hx hb dX5_fit_54 rfl (lv_at hl 3 rfl) ?_
        refine lv_iconst (v := 1) hx hb dX5_fit_55 (by decide) ?_
        refine lv_iand hx hb dX5_fit_56 ?_
        refine lv_if_ne (tgt := 69) hx hb dX5_fit_57 (by decide) (fun c57_8 => ?_) (fun c57_8 => ?_)
        · refine lv_aload_n hx hb dX5_fit_69 rfl (lv_at hl 2 rfl) ?_
          refine lv_aloadN hx hb dX5_fit_70 (lv_at hl 0 rfl) ?_
          refine fw_put X gC_ok hF hS h rfl 3 (by decide) wm_97 rfl (tf := .object "CycleShop$Wheel") (by decide +kernel) rfl rfl (Nat.le_of_ble_eq_true rfl) dX5_fit_72 (fun H locs hF hS => ?_)
          have hF : fw_P D cls10 A (va_up w h0 (some (.inr (5, [.int (bz bk), .int fr, va_rf fo, .null, .int la, .int ch])))) H := hF
          refine lv_iload_n hx hb dX5_fit_75 rfl (lv_at hl 4 rfl) ?_
          refine lv_i2l hx hb dX5_fit_76 rfl ?_
          refine fw_lret X hF hS ?_ (Nat.le_of_ble_eq_true rfl) (Nat.le_of_ble_eq_true rfl) dX5_fit_77
          refine Or.inr (Or.inl ⟨c4_1, c25_3, rfl, ?_⟩)
          simp [sdset, c4_1, c15_2, c25_3, c57_8]
          rfl
        · refine lv_aload_n hx hb dX5_fit_60 rfl (lv_at hl 2 rfl) ?_
          refine lv_aloadN hx hb dX5_fit_61 (lv_at hl 0 rfl) ?_
          refine fw_put X gC_ok hF hS h rfl 2 (by decide) wm_94 rfl (tf := .object "CycleShop$Wheel") (by decide +kernel) rfl rfl (Nat.le_of_ble_eq_true rfl) dX5_fit_63 (fun H locs hF hS => ?_)
          have hF : fw_P D cls10 A (va_up w h0 (some (.inr (5, [.int (bz bk), .int fr, .null, va_rf re, .int la, .int ch])))) H := hF
          refine lv_goto (tgt := 75) hx hb dX5_fit_66 (by decide) ?_
          refine lv_iload_n hx hb dX5_fit_75 rfl (lv_at hl 4 rfl) ?_
          refine lv_i2l hx hb dX5_fit_76 rfl ?_
          refine fw_lret X hF hS ?_ (Nat.le_of_ble_eq_true rfl) (Nat.le_of_ble_eq_true rfl) dX5_fit_77
          refine Or.inr (Or.inl ⟨c4_1, c25_3, rfl, ?_⟩)
          simp [sdset, c4_1, c15_2, c25_3, c57_8]
          rfl
    · refine lv_iconst (v := 1) hx hb dX5_fit_18 (by decide) ?_
      refine lv_goto (tgt := 23) hx hb dX5_fit_19 (by decide) ?_
      refine lv_istore_n (lv' := [(3, .int 1), (0, .ref h0), (1, .int b), (2, .int k)]) hx hb dX5_fit_23 rfl hl (by decide) rfl (fun ls hl => ?_)
      refine lv_iload_n hx hb dX5_fit_24 rfl (lv_at hl 3 rfl) ?_
      refine lv_if_ne (tgt := 32) hx hb dX5_fit_25 (by decide) (fun c25_9 => ?_) (fun c25_9 => ?_)
      · refine fw_new (ci := 7) (fs := [.int 0, .int 0, .int 0]) X gC_ok hF hS rfl tyX7 tyX7_ok (by decide +kernel) wm_236 wm_237 wm_33 (Nat.le_of_ble_eq_true rfl) (Nat.le_of_ble_eq_true rfl) dX5_fit_32 (fun q10 H nq10 zq10 zzq10 hF hS => ?_)
        refine lv_dup hx hb dX5_fit_35 rfl ?_
        refine lv_iload_n hx hb dX5_fit_36 rfl (lv_at hl 0 rfl) ?_
        refine lv_if_eq (tgt := 47) hx hb dX5_fit_37 (by decide) (fun h => absurd h (by decide)) (fun _ => ?_)
        refine lv_iload_n hx hb dX5_fit_40 rfl (lv_at hl 3 rfl) ?_
        refine lv_bipush (v := 100) hx hb dX5_fit_41 (by decide) ?_
        refine lv_isub hx hb dX5_fit_43 ?_
        refine lv_goto (tgt := 48) hx hb dX5_fit_44 (by decide) ?_
        refine lv_iload_n hx hb dX5_fit_48 rfl (lv_at hl 0 rfl) ?_
        refine fw_callI (As := [.int (k - 100), .int 1]) (rest := [.ref q10]) X bs_all nw_all mf_X7_init (c_X7_init l D cs _ _ q10 (k - 100) 0 true (va_up_self _ _ _)) wm_238 wm_239 rfl hF hS rfl ((⟨⟨Nat.le_of_ble_eq_true rfl, Nat.le_of_ble_eq_true rfl⟩, Nat.le_of_ble_eq_true rfl, Nat.le_of_ble_eq_true rfl⟩)) rfl hl.1 rfl (Nat.le_of_ble_eq_true rfl) dX5_fit_49 (fun v u12 H locs hp hF hS hz1 hk1 hd1 => ?_)
        obtain ⟨rfl, hw1⟩ := hp
        rw [hw1] at hF
        refine W.eq (g2 := F0 m 52 ls [.ref q10]) rfl ?_
        refine lv_astore (lv' := [(4, .ref q10), (3, .int 1), (0, .ref h0), (1, .int b), (2, .int k)]) hx hb dX5_fit_52 hl (by decide) rfl (fun ls hl => ?_)
        refine lv_iload_n hx hb dX5_fit_54 rfl (lv_at hl 3 rfl) ?_
        refine lv_iconst (v := 1) hx hb dX5_fit_55 (by decide) ?_
        refine lv_iand hx hb dX5_fit_56 ?_
        refine lv_if_ne (tgt := 69) hx hb dX5_fit_57 (by decide) (fun c57_13 => ?_) (fun c57_13 => ?_)
        · refine lv_aload_n hx hb dX5_fit_69 rfl (lv_at hl 2 rfl) ?_
          refine lv_aload hx hb dX5_fit_70 (lv_at hl 0 rfl) ?_
          refine fw_put X gC_ok hF hS ((va_up_ne _ _ (gx_ne h nq10)).trans ((va_up_ne _ _ (gx_ne h nq10)).trans h)) rfl 3 (by decide) wm_97 rfl (tf := .object "CycleShop$Wheel") (by decide +kernel) rfl rfl (Nat.le_of_ble_eq_true rfl) dX5_fit_72 (fun H locs hF hS => ?_)
          have hF : fw_P D cls10 A (va_up (va_up (va_up w q10 (some (.inr (7, [.int 0, .int 0, .int 0])))) q10 (some (.inr (7, [.int (k - 100), .int (bz true), .int 0])))) h0 (some (.inr (5, [.int (bz bk), .int fr, va_rf fo, .ref q10, .int la, .int ch])))) H := hF
          refine lv_iload_n hx hb dX5_fit_75 rfl (lv_at hl 4 rfl) ?_
          refine lv_i2l hx hb dX5_fit_76 rfl ?_
          refine fw_lret X hF hS ?_ (Nat.le_of_ble_eq_true rfl) (Nat.le_of_ble_eq_true rfl) dX5_fit_77
          refine Or.inr (Or.inr ⟨c4_1, c25_9, rfl, q10, nq10, ?_⟩)
          simp [sdset, whN, bx_uu, c4_1, c15_2, c25_9, c57_13]
          rfl
        · refine lv_aload_n hx hb dX5_fit_60 rfl (lv_at hl 2 rfl) ?_
          refine lv_aload hx hb dX5_fit_61 (lv_at hl 0 rfl) ?_
          refine fw_put X gC_ok hF hS ((va_up_ne _ _ (gx_ne h nq10)).trans ((va_up_ne _ _ (gx_ne h nq10)).trans h)) rfl 2 (by decide) wm_94 rfl (tf := .object "CycleShop$Wheel") (by decide +kernel) rfl rfl (Nat.le_of_ble_eq_true rfl) dX5_fit_63 (fun H locs hF hS => ?_)
          have hF : fw_P D cls10 A (va_up (va_up (va_up w q10 (some (.inr (7, [.int 0, .int 0, .int 0])))) q10 (some (.inr (7, [.int (k - 100), .int (bz true), .int 0])))) h0 (some (.inr (5, [.int (bz bk), .int fr, .ref q10, va_rf re, .int la, .int ch])))) H := hF
          refine lv_goto (tgt := 75) hx hb dX5_fit_66 (by decide) ?_
          refine lv_iload_n hx hb dX5_fit_75 rfl (lv_at hl 4 rfl) ?_
          refine lv_i2l hx hb dX5_fit_76 rfl ?_
          refine fw_lret X hF hS ?_ (Nat.le_of_ble_eq_true rfl) (Nat.le_of_ble_eq_true rfl) dX5_fit_77
          refine Or.inr (Or.inr ⟨c4_1, c25_9, rfl, q10, nq10, ?_⟩)
          simp [sdset, whN, bx_uu, c4_1, c15_2, c25_9, c57_13]
          rfl
      · refine lv_null hx hb dX5_fit_28 ?_
        refine lv_goto (tgt := 52) hx hb dX5_fit_29 (by decide) ?_
        refine lv_astoreN (lv' := [(4, .null), (3, .int 1), (0, .ref h0), (1, .int b), (2, .int k)]) hx hb dX5_fit_52 hl (by decide) rfl (fun ls hl => ?_)
        refine lv_iload_n hx hb dX5_fit_54 rfl (lv_at hl 3 rfl) ?_
        refine lv_iconst (v := 1) hx hb dX5_fit_55 (by decide) ?_
        refine lv_iand hx hb dX5_fit_56 ?_
        refine lv_if_ne (tgt := 69) hx hb dX5_fit_57 (by decide) (fun c57_14 => ?_) (fun c57_14 => ?_)
        · refine lv_aload_n hx hb dX5_fit_69 rfl (lv_at hl 2 rfl) ?_
          refine lv_aloadN hx hb dX5_fit_70 (lv_at hl 0 rfl) ?_
          refine fw_put X gC_ok hF hS h rfl 3 (by decide) wm_97 rfl (tf := .object "CycleShop$Wheel") (by decide +kernel) rfl rfl (Nat.le_of_ble_eq_true rfl) dX5_fit_72 (fun H locs hF hS => ?_)
          have hF : fw_P D cls10 A (va_up w h0 (some (.inr (5, [.int (bz bk), .int fr, va_rf fo, .null, .int la, .int ch])))) H := hF
          refine lv_iload_n hx hb dX5_fit_75 rfl (lv_at hl 4 rfl) ?_
          refine lv_i2l hx hb dX5_fit_76 rfl ?_
          refine fw_lret X hF hS ?_ (Nat.le_of_ble_eq_true rfl) (Nat.le_of_ble_eq_true rfl) dX5_fit_77
          refine Or.inr (Or.inl ⟨c4_1, c25_9, rfl, ?_⟩)
          simp [sdset, c4_1, c15_2, c25_9, c57_14]
          rfl
        · refine lv_aload_n hx hb dX5_fit_60 rfl (lv_at hl 2 rfl) ?_
          refine lv_aloadN hx hb dX5_fit_61 (lv_at hl 0 rfl) ?_
          refine fw_put X gC_ok hF hS h rfl 2 (by decide) wm_94 rfl (tf := .object "CycleShop$Wheel") (by decide +kernel) rfl rfl (Nat.le_of_ble_eq_true rfl) dX5_fit_63 (fun H locs hF hS => ?_)
          have hF : fw_P D cls10 A (va_up w h0 (some (.inr (5, [.int (bz bk), .int fr, .null, va_rf re, .int la, .int ch])))) H := hF
          refine lv_goto (tgt := 75) hx hb dX5_fit_66 (by decide) ?_
          refine lv_iload_n hx hb dX5_fit_75 rfl (lv_at hl 4 rfl) ?_
          refine lv_i2l hx hb dX5_fit_76 rfl ?_
          refine fw_lret X hF hS ?_ (Nat.le_of_ble_eq_true rfl) (Nat.le_of_ble_eq_true rfl) dX5_fit_77
          refine Or.inr (Or.inl ⟨c4_1, c25_9, rfl, ?_⟩)
          simp [sdset, c4_1, c15_2, c25_9, c57_14]
          rfl
  · refine lv_iconst (v := 1) hx hb dX5_fit_7 (by decide) ?_
    refine fw_callSN (As := [.int 1]) (rest := []) X bs_all nw_all mf_X8_failure (c_X8_failure l D cs _ _ 1) nm_232 wm_233 hF hS rfl ((⟨⟨Nat.le_of_ble_eq_true rfl, Nat.le_of_ble_eq_true rfl⟩, Nat.le_of_ble_eq_true rfl, Nat.le_of_ble_eq_true rfl⟩)) rfl hl.1 rfl (Nat.le_of_ble_eq_true rfl) dX5_fit_8 (fun v u15 H locs hp hF hS hz1 hk1 hd1 => ?_)
    obtain ⟨rfl, hw1⟩ := hp
    rw [hw1] at hF
    refine W.eq (g2 := F0 m 11 ls [.long (fl 1)]) rfl ?_
    refine fw_lret X hF hS ?_ (Nat.le_of_ble_eq_true rfl) (Nat.le_of_ble_eq_true rfl) dX5_fit_11
    exact Or.inl ⟨c4_1, rfl, rfl⟩
end
section
set_option maxHeartbeats 4000000 in
set_option maxRecDepth 100000 in
theorem c_J7_fill_53178 (l : Launch) (D : va_G) (cs : Nat → ClassId) (w : fW) (sz : Nat) (h1 N : Nat) (f : Nat → Int32) (x : Int32) (hN : N < 2 ^ 31) (h : w h1 = some (.inl (cs 0, N, .inl f))) : gM l bs_B nw_B D cls10 (tyl cs) yJ7_fill_53178 cJ7_fill_53178 4 none 0 0 0 0 w sz [.ref h1, .int x] (fun v w' => v = none ∧ w' = va_up w h1 (some (.inl (cs 0, N, .inl (fun _ => x))))) := by
  refine gM.of (by decide +kernel) (Nat.le_of_ble_eq_true rfl) (fun p e s m below meth c A ls X hsz hnm hF hS hl => ?_)
  have hx := X.1
  have hb := X.2.1
  have loop : ∀ (n i : Nat), i + n = N → ∀ (H : Heap) (locs : List Loc) (ls : Array Slot), fw_P D cls10 A (va_up w h1 (some (.inl (cs 0, N, .inl (fun j => if j < i then x else f j))))) H → va_S A s.heap H locs → lv_has ls 4 [(0, .ref h1), (1, .int x), (2, .int (nI i)), (3, .int (nI N))] → W p l e ({ frames := 0, cells := 0, slots := 0, locals := 0 } : Room) s m ([.ref h1, .int x] : List Value).toArray below meth c H locs 0 0 (MQ below (gQ D cls10 A (fun v w' => v = none ∧ w' = va_up w h1 (some (.inl (cs 0, N, .inl (fun _ => x)))))) ([.ref h1, .int x] : List Value).toArray s 0 0 A) (F0 m 5 ls []) := by
    intro n
    induction n with
    | zero =>
      intro i hi H locs ls hF hS hl
      refine lv_iload_n hx hb dJ7_fill_53178_5 rfl (lv_at hl 2 rfl) ?_
      refine lv_iload_n hx hb dJ7_fill_53178_6 rfl (lv_at hl 3 rfl) ?_
      refine lv_icmp_ge (tgt := 20) hx hb dJ7_fill_53178_7 (by decide) (fun c7_1 => ?_) (fun c7_1 => ?_)
      · have hF := hF.arr (g := fun _ => x) (fun j hj => if_pos (by omega))
        refine fw_vret X hF hS ?_ (Nat.le_of_ble_eq_true rfl) (Nat.le_of_ble_eq_true rfl) dJ7_fill_53178_20
        exact ⟨rfl, rfl⟩
      · exact absurd (nI_le (by omega) (by omega)) c7_1
    | succ n ih =>
      intro i hi H locs ls hF hS hl
      refine lv_iload_n hx hb dJ7_fill_53178_5 rfl (lv_at hl 2 rfl) ?_
      refine lv_iload_n hx hb dJ7_fill_53178_6 rfl (lv_at hl 3 rfl) ?_
      refine lv_icmp_ge (tgt := 20) hx hb dJ7_fill_53178_7 (by decide) (fun c7_1 => ?_) (fun c7_1 => ?_)
      · exact absurd c7_1 (nI_ge (by omega) hN)
      · refine lv_aload_n hx hb dJ7_fill_53178_10 rfl (lv_at hl 0 rfl) ?_
        refine lv_iload_n hx hb dJ7_fill_53178_11 rfl (lv_at hl 2 rfl) ?_
        refine lv_iload_n hx hb dJ7_fill_53178_12 rfl (lv_at hl 1 rfl) ?_
        refine fw_iast X hF hS (va_up_self _ _ _) 0 rfl (vp_in_nI (by omega) hN) dJ7_fill_53178_13 (fun H locs hF hS => ?_)
        rw [show (nI i).toNatClampNeg = i from nI_clamp (by omega)] at hF
        rw [bx_uu, fill_step] at hF
        refine lv_iinc (v := nI (i + 1)) (lv' := [(2, .int (nI (i + 1))), (0, .ref h1), (1, .int x), (3, .int (nI N))]) hx hb dJ7_fill_53178_14 hl (k := 2) rfl (nI_1 i) (by decide) rfl (fun ls hl => ?_)
        refine lv_goto (tgt := 5) hx hb dJ7_fill_53178_17 (by decide) ?_
        exact ih (i + 1) (by omega) H locs ls hF hS (lv_sub hl [1, 2, 0, 3] rfl)
  have hl : lv_has ls 4 [(0, .ref h1), (1, .int x)] := hl
  refine lv_iconst (v := 0) hx hb dJ7_fill_53178_0 (by decide) ?_
  refine lv_istore_n (lv' := [(2, .int 0), (0, .ref h1), (1, .int x)]) hx hb dJ7_fill_53178_1 rfl hl (by decide) rfl (fun ls hl => ?_)
  refine lv_aload_n hx hb dJ7_fill_53178_2 rfl (lv_at hl 1 rfl) ?_
  refine fw_alen X hF h 0 rfl (v := nI N) rfl dJ7_fill_53178_3 ?_
  refine lv_istore_n (lv' := [(3, .int (nI N)), (2, .int 0), (0, .ref h1), (1, .int x)]) hx hb dJ7_fill_53178_4 rfl hl (by decide) rfl (fun ls hl => ?_)
  refine loop N 0 (by omega) _ _ ls ?_ hS (lv_sub hl [2, 3, 1, 0] rfl)
  rw [gx_upid (by simpa using h)]
  exact hF
set_option maxHeartbeats 4000000 in
set_option maxRecDepth 100000 in
theorem c_X0_init (l : Launch) (D : va_G) (cs : Nat → ClassId) (w : fW) (sz : Nat) (h0 : Nat) (h : w h0 = some (.inr (0, [.null, .int 0]))) : gM l bs_B nw_B D cls10 (tyl cs) yX0_init cX0_init 1 none 1 20 1 12 w sz [.ref h0] (fun v w' => v = none ∧ ∃ q, w q = none ∧ w' = va_up (va_up w q (some (.inl (cs 0, 12, .inl (fun _ => 0))))) h0 (some (.inr (0, [.ref q, .int (-1)])))) := by
  refine gM.of (by decide +kernel) (Nat.le_of_ble_eq_true rfl) (fun p e s m below meth c A ls X hsz hnm hF hS hl => ?_)
  have hx := X.1
  have hb := X.2.1
  have hl : lv_has ls 1 [(0, .ref h0)] := hl
  have h : w h0 = some (.inr (0, [.null, .int 0])) := h
  refine lv_aload_n hx hb dX0_init_0 rfl (lv_at hl 0 rfl) ?_
  refine W.objInit hx hb X.2.2.2.1 (X.2.2.2.2.1 _ wm_118) (X.2.2.2.2.1 _ wm_42) (X.2.2.2.2.1 _ wm_43) rfl (by rw [X.2.2.1]; exact hl.1) rfl dX0_init_1 (Nat.le_of_ble_eq_true rfl) (Nat.le_of_ble_eq_true rfl) ?_
  refine W.eq (g2 := F0 m 4 ls []) rfl ?_
  refine lv_aload_n hx hb dX0_init_4 rfl (lv_at hl 0 rfl) ?_
  refine lv_bipush (v := 12) hx hb dX0_init_5 (by decide) ?_
  refine fw_newa X hF hS (atype := .int) wm_85 rfl (fun _ h => by cases h) 0 rfl (N' := 12) (a0 := (12, .inl (fun _ => 0))) rfl (by decide) (by decide) (by decide) (Nat.le_of_ble_eq_true rfl) (Nat.le_of_ble_eq_true rfl) dX0_init_7 (fun q1 H nq1 zq1 zzq1 hF hS => ?_)
  refine fw_putF X gC_ok hF hS ((va_up_ne _ _ (gx_ne h nq1)).trans h) rfl 0 (by decide) wm_119 rfl hnm rfl (tf := .array .int) (by decide +kernel) rfl rfl (Nat.le_of_ble_eq_true rfl) dX0_init_9 (fun H locs hF hS => ?_)
  have hF : fw_P D cls10 A (va_up (va_up w q1 (some (.inl (cs 0, 12, .inl (fun _ => 0))))) h0 (some (.inr (0, [.ref q1, .int 0])))) H := hF
  refine lv_aload_n hx hb dX0_init_12 rfl (lv_at hl 0 rfl) ?_
  refine lv_iconst (v := (-1)) hx hb dX0_init_13 (by decide) ?_
  refine fw_put X gC_ok hF hS (va_up_self _ _ _) rfl 1 (by decide) wm_120 rfl (tf := .int) (by decide +kernel) rfl rfl (Nat.le_of_ble_eq_true rfl) dX0_init_14 (fun H locs hF hS => ?_)
  rw [bx_uu] at hF
  have hF : fw_P D cls10 A (va_up (va_up w q1 (some (.inl (cs 0, 12, .inl (fun _ => 0))))) h0 (some (.inr (0, [.ref q1, .int (-1)])))) H := hF
  refine fw_vret X hF hS ?_ (Nat.le_of_ble_eq_true rfl) (Nat.le_of_ble_eq_true rfl) dX0_init_17
  exact ⟨rfl, _, nq1, by simp only [bx_uu]⟩
set_option maxHeartbeats 4000000 in
set_option maxRecDepth 100000 in
theorem c_X0_make (l : Launch) (D : va_G) (cs : Nat → ClassId) (w : fW) (sz : Nat) (h0 h1 : Nat) (n : Int32) (f : Nat → Int32) (h : w h0 = some (.inr (0, [.ref h1, .int n]))) (g : w h1 = some (.inl (cs 0, 12, .inl f))) (b : Int32) : gM l bs_B nw_B D cls10 (tyl cs) yX0_make cX0_make 2 (some .long) 1 23 0 0 w sz [.ref h0, .int b] (fun v w' => ((b < 0 ∨ 12 < b) ∧ v = some (.long (fl 2)) ∧ w' = w) ∨ (¬ (b < 0 ∨ 12 < b) ∧ v = some (.long b.toInt64) ∧ w' = va_up (va_up w h1 (some (.inl (cs 0, 12, .inl (fun _ => 0))))) h0 (some (.inr (0, [.ref h1, .int b]))))) := by
  refine gM.of (by decide +kernel) (Nat.le_of_ble_eq_true rfl) (fun p e s m below meth c A ls X hsz hnm hF hS hl => ?_)
  have hx := X.1
  have hb := X.2.1
  have hl : lv_has ls 2 [(0, .ref h0), (1, .int b)] := hl
  have h : w h0 = some (.inr (0, [.ref h1, .int n])) := h
  have g : w h1 = some (.inl (cs 0, 12, .inl f)) := g
  refine lv_iload_n hx hb dX0_make_0 rfl (lv_at hl 1 rfl) ?_
  refine lv_if_lt (tgt := 10) hx hb dX0_make_1 (by decide) (fun c1_1 => ?_) (fun c1_1 => ?_)
  · refine lv_iconst (v := 2) hx hb dX0_make_10 (by decide) ?_
    refine fw_callSN (As := [.int 2]) (rest := []) X bs_all nw_all mf_X8_failure (c_X8_failure l D cs _ _ 2) nm_284 wm_233 hF hS rfl ((⟨⟨Nat.le_of_ble_eq_true rfl, Nat.le_of_ble_eq_true rfl⟩, Nat.le_of_ble_eq_true rfl, Nat.le_of_ble_eq_true rfl⟩)) rfl hl.1 rfl (Nat.le_of_ble_eq_true rfl) dX0_make_11 (fun v u2 H locs hp hF hS hz1 hk1 hd1 => ?_)
    obtain ⟨rfl, hw1⟩ := hp
    rw [hw1] at hF
    refine W.eq (g2 := F0 m 14 ls [.long (fl 2)]) rfl ?_
    refine fw_lret X hF hS ?_ (Nat.le_of_ble_eq_true rfl) (Nat.le_of_ble_eq_true rfl) dX0_make_14
    exact Or.inl ⟨Or.inl c1_1, rfl, rfl⟩
  · refine lv_iload_n hx hb dX0_make_4 rfl (lv_at hl 1 rfl) ?_
    refine lv_bipush (v := 12) hx hb dX0_make_5 (by decide) ?_
    refine lv_icmp_le (tgt := 15) hx hb dX0_make_7 (by decide) (fun c7_3 => ?_) (fun c7_3 => ?_)
    · refine lv_aload_n hx hb dX0_make_15 rfl (lv_at hl 0 rfl) ?_
      refine fw_get X gC_ok hF h rfl 0 (by decide) wm_119 rfl dX0_make_16 ?_
      refine lv_iconst (v := 0) hx hb dX0_make_19 (by decide) ?_
      refine fw_callS (As := [.ref h1, .int 0]) (rest := []) X bs_all nw_all mf_J7_fill_53178 (c_J7_fill_53178 l D cs _ _ h1 12 f 0 (by decide) g) wm_285 wm_286 hF hS rfl ((⟨⟨Nat.le_of_ble_eq_true rfl, Nat.le_of_ble_eq_true rfl⟩, Nat.le_of_ble_eq_true rfl, Nat.le_of_ble_eq_true rfl⟩)) rfl hl.1 rfl (Nat.le_of_ble_eq_true rfl) dX0_make_20 (fun v u4 H locs hp hF hS hz1 hk1 hd1 => ?_)
      obtain ⟨rfl, hw1⟩ := hp
      rw [hw1] at hF
      refine W.eq (g2 := F0 m 23 ls []) rfl ?_
      refine lv_aload_n hx hb dX0_make_23 rfl (lv_at hl 0 rfl) ?_
      refine lv_iload_n hx hb dX0_make_24 rfl (lv_at hl 1 rfl) ?_
      refine fw_put X gC_ok hF hS ((va_up_ne _ _ (gx_neA h g)).trans h) rfl 1 (by decide) wm_120 rfl (tf := .int) (by decide +kernel) rfl rfl (Nat.le_of_ble_eq_true rfl) dX0_make_25 (fun H locs hF hS => ?_)
      have hF : fw_P D cls10 A (va_up (va_up w h1 (some (.inl (cs 0, 12, .inl (fun _ => 0))))) h0 (some (.inr (0, [.ref h1, .int b])))) H := hF
      refine lv_iload_n hx hb dX0_make_28 rfl (lv_at hl 1 rfl) ?_
      refine lv_i2l hx hb dX0_make_29 rfl ?_
      refine fw_lret X hF hS ?_ (Nat.le_of_ble_eq_true rfl) (Nat.le_of_ble_eq_true rfl) dX0_make_30
      exact Or.inr ⟨fun q => q.elim c1_1 (fun z => i_nlt.mpr c7_3 z), rfl, rfl⟩
    · refine lv_iconst (v := 2) hx hb dX0_make_10 (by decide) ?_
      refine fw_callSN (As := [.int 2]) (rest := []) X bs_all nw_all mf_X8_failure (c_X8_failure l D cs _ _ 2) nm_284 wm_233 hF hS rfl ((⟨⟨Nat.le_of_ble_eq_true rfl, Nat.le_of_ble_eq_true rfl⟩, Nat.le_of_ble_eq_true rfl, Nat.le_of_ble_eq_true rfl⟩)) rfl hl.1 rfl (Nat.le_of_ble_eq_true rfl) dX0_make_11 (fun v u5 H locs hp hF hS hz1 hk1 hd1 => ?_)
      obtain ⟨rfl, hw1⟩ := hp
      rw [hw1] at hF
      refine W.eq (g2 := F0 m 14 ls [.long (fl 2)]) rfl ?_
      refine fw_lret X hF hS ?_ (Nat.le_of_ble_eq_true rfl) (Nat.le_of_ble_eq_true rfl) dX0_make_14
      exact Or.inl ⟨Or.inr (i_nle.mp c7_3), rfl, rfl⟩
set_option maxHeartbeats 4000000 in
set_option maxRecDepth 100000 in
theorem c_X0_put (l : Launch) (D : va_G) (cs : Nat → ClassId) (w : fW) (sz : Nat) (h0 h1 : Nat) (n : Int32) (f : Nat → Int32) (h : w h0 = some (.inr (0, [.ref h1, .int n]))) (g : w h1 = some (.inl (cs 0, 12, .inl f))) (i k : Int32) (hn : n ≤ 12) : gM l bs_B nw_B D cls10 (tyl cs) yX0_put cX0_put 4 (some .long) 1 21 0 0 w sz [.ref h0, .int i, .int k] (fun v w' => (n = -1 ∧ v = some (.long (fl 1)) ∧ w' = w) ∨ (¬ n = -1 ∧ wi i n = false ∧ v = some (.long (fl 3)) ∧ w' = w) ∨ (¬ n = -1 ∧ wi i n = true ∧ v = some (.long (f (ix i)).toInt64) ∧ w' = va_up w h1 (some (.inl (cs 0, 12, .inl (upd f (ix i) k)))))) := by
  refine gM.of (by decide +kernel) (Nat.le_of_ble_eq_true rfl) (fun p e s m below meth c A ls X hsz hnm hF hS hl => ?_)
  have hx := X.1
  have hb := X.2.1
  have hl : lv_has ls 4 [(0, .ref h0), (1, .int i), (2, .int k)] := hl
  have h : w h0 = some (.inr (0, [.ref h1, .int n])) := h
  have g : w h1 = some (.inl (cs 0, 12, .inl f)) := g
  refine lv_aload_n hx hb dX0_put_0 rfl (lv_at hl 0 rfl) ?_
  refine fw_get X gC_ok hF h rfl 1 (by decide) wm_120 rfl dX0_put_1 ?_
  refine lv_iconst (v := (-1)) hx hb dX0_put_4 (by decide) ?_
  refine lv_icmp_ne (tgt := 13) hx hb dX0_put_5 (by decide) (fun c5_1 => ?_) (fun c5_1 => ?_)
  · refine lv_iload_n hx hb dX0_put_13 rfl (lv_at hl 1 rfl) ?_
    refine lv_aload_n hx hb dX0_put_14 rfl (lv_at hl 0 rfl) ?_
    refine fw_get X gC_ok hF h rfl 1 (by decide) wm_120 rfl dX0_put_15 ?_
    refine fw_callSN (As := [.int i, .int n]) (rest := []) X bs_all nw_all mf_X8_isWithin (c_X8_isWithin l D cs _ _ i n) nm_316 wm_209 hF hS rfl ((⟨⟨Nat.le_of_ble_eq_true rfl, Nat.le_of_ble_eq_true rfl⟩, Nat.le_of_ble_eq_true rfl, Nat.le_of_ble_eq_true rfl⟩)) rfl hl.1 rfl (Nat.le_of_ble_eq_true rfl) dX0_put_18 (fun v u2 H locs hp hF hS hz1 hk1 hd1 => ?_)
    obtain ⟨rfl, hw1⟩ := hp
    rw [hw1] at hF
    refine W.eq (g2 := F0 m 21 ls [.int (bz (wi i n))]) rfl ?_
    refine gx_ifne (tgt := 29) hx hb dX0_put_21 (by decide) (fun c21_3 => ?_) (fun c21_3 => ?_)
    · refine lv_aload_n hx hb dX0_put_29 rfl (lv_at hl 0 rfl) ?_
      refine fw_get X gC_ok hF h rfl 0 (by decide) wm_119 rfl dX0_put_30 ?_
      refine lv_iload_n hx hb dX0_put_33 rfl (lv_at hl 1 rfl) ?_
      refine fw_iald X hF g 0 rfl (wi_in (wi_le c21_3 hn) (N := 12) (by decide)) (v := f (ix i)) rfl dX0_put_34 ?_
      refine lv_istore_n (lv' := [(3, .int (f (ix i))), (0, .ref h0), (1, .int i), (2, .int k)]) hx hb dX0_put_35 rfl hl (by decide) rfl (fun ls hl => ?_)
      refine lv_aload_n hx hb dX0_put_36 rfl (lv_at hl 1 rfl) ?_
      refine fw_get X gC_ok hF h rfl 0 (by decide) wm_119 rfl dX0_put_37 ?_
      refine lv_iload_n hx hb dX0_put_40 rfl (lv_at hl 2 rfl) ?_
      refine lv_iload_n hx hb dX0_put_41 rfl (lv_at hl 3 rfl) ?_
      refine fw_iast X hF hS g 0 rfl (wi_in (wi_le c21_3 hn) (N := 12) (by decide)) dX0_put_42 (fun H locs hF hS => ?_)
      have hF : fw_P D cls10 A (va_up w h1 (some (.inl (cs 0, 12, .inl (upd f (ix i) k))))) H := hF
      refine lv_iload_n hx hb dX0_put_43 rfl (lv_at hl 0 rfl) ?_
      refine lv_i2l hx hb dX0_put_44 rfl ?_
      refine fw_lret X hF hS ?_ (Nat.le_of_ble_eq_true rfl) (Nat.le_of_ble_eq_true rfl) dX0_put_45
      exact Or.inr (Or.inr ⟨c5_1, c21_3, rfl, rfl⟩)
    · refine lv_iconst (v := 3) hx hb dX0_put_24 (by decide) ?_
      refine fw_callSN (As := [.int 3]) (rest := []) X bs_all nw_all mf_X8_failure (c_X8_failure l D cs _ _ 3) nm_284 wm_233 hF hS rfl ((⟨⟨Nat.le_of_ble_eq_true rfl, Nat.le_of_ble_eq_true rfl⟩, Nat.le_of_ble_eq_true rfl, Nat.le_of_ble_eq_true rfl⟩)) rfl hl.1 rfl (Nat.le_of_ble_eq_true rfl) dX0_put_25 (fun v u4 H locs hp hF hS hz1 hk1 hd1 => ?_)
      obtain ⟨rfl, hw1⟩ := hp
      rw [hw1] at hF
      refine W.eq (g2 := F0 m 28 ls [.long (fl 3)]) rfl ?_
      refine fw_lret X hF hS ?_ (Nat.le_of_ble_eq_true rfl) (Nat.le_of_ble_eq_true rfl) dX0_put_28
      exact Or.inr (Or.inl ⟨c5_1, c21_3, rfl, rfl⟩)
  · refine lv_iconst (v := 1) hx hb dX0_put_8 (by decide) ?_
    refine fw_callSN (As := [.int 1]) (rest := []) X bs_all nw_all mf_X8_failure (c_X8_failure l D cs _ _ 1) nm_284 wm_233 hF hS rfl ((⟨⟨Nat.le_of_ble_eq_true rfl, Nat.le_of_ble_eq_true rfl⟩, Nat.le_of_ble_eq_true rfl, Nat.le_of_ble_eq_true rfl⟩)) rfl hl.1 rfl (Nat.le_of_ble_eq_true rfl) dX0_put_9 (fun v u5 H locs hp hF hS hz1 hk1 hd1 => ?_)
    obtain ⟨rfl, hw1⟩ := hp
    rw [hw1] at hF
    refine W.eq (g2 := F0 m 12 ls [.long (fl 1)]) rfl ?_
    refine fw_lret X hF hS ?_ (Nat.le_of_ble_eq_true rfl) (Nat.le_of_ble_eq_true rfl) dX0_put_12
    exact Or.inl ⟨c5_1, rfl, rfl⟩
set_option maxHeartbeats 4000000 in
set_option maxRecDepth 100000 in
theorem c_X0_numberAt (l : Launch) (D : va_G) (cs : Nat → ClassId) (w : fW) (sz : Nat) (h0 h1 : Nat) (n : Int32) (f : Nat → Int32) (h : w h0 = some (.inr (0, [.ref h1, .int n]))) (g : w h1 = some (.inl (cs 0, 12, .inl f))) (i : Int32) (hn : n ≤ 12) : gM l bs_B nw_B D cls10 (tyl cs) yX0_numberAt cX0_numberAt 2 (some .int) 1 21 0 0 w sz [.ref h0, .int i] (fun v w' => v = some (.int (if wi i n = true then f (ix i) else 0)) ∧ w' = w) := by
  refine gM.of (by decide +kernel) (Nat.le_of_ble_eq_true rfl) (fun p e s m below meth c A ls X hsz hnm hF hS hl => ?_)
  have hx := X.1
  have hb := X.2.1
  have hl : lv_has ls 2 [(0, .ref h0), (1, .int i)] := hl
  have h : w h0 = some (.inr (0, [.ref h1, .int n])) := h
  have g : w h1 = some (.inl (cs 0, 12, .inl f)) := g
  refine lv_iload_n hx hb dX0_numberAt_0 rfl (lv_at hl 1 rfl) ?_
  refine lv_aload_n hx hb dX0_numberAt_1 rfl (lv_at hl 0 rfl) ?_
  refine fw_get X gC_ok hF h rfl 1 (by decide) wm_120 rfl dX0_numberAt_2 ?_
  refine fw_callSN (As := [.int i, .int n]) (rest := []) X bs_all nw_all mf_X8_isWithin (c_X8_isWithin l D cs _ _ i n) nm_316 wm_209 hF hS rfl ((⟨⟨Nat.le_of_ble_eq_true rfl, Nat.le_of_ble_eq_true rfl⟩, Nat.le_of_ble_eq_true rfl, Nat.le_of_ble_eq_true rfl⟩)) rfl hl.1 rfl (Nat.le_of_ble_eq_true rfl) dX0_numberAt_5 (fun v u1 H locs hp hF hS hz1 hk1 hd1 => ?_)
  obtain ⟨rfl, hw1⟩ := hp
  rw [hw1] at hF
  refine W.eq (g2 := F0 m 8 ls [.int (bz (wi i n))]) rfl ?_
  refine gx_ifeq (tgt := 20) hx hb dX0_numberAt_8 (by decide) (fun c8_2 => ?_) (fun c8_2 => ?_)
  · refine lv_iconst (v := 0) hx hb dX0_numberAt_20 (by decide) ?_
    refine fw_iret X hF hS ?_ (Nat.le_of_ble_eq_true rfl) (Nat.le_of_ble_eq_true rfl) dX0_numberAt_21
    exact ⟨by simp [c8_2], rfl⟩
  · refine lv_aload_n hx hb dX0_numberAt_11 rfl (lv_at hl 0 rfl) ?_
    refine fw_get X gC_ok hF h rfl 0 (by decide) wm_119 rfl dX0_numberAt_12 ?_
    refine lv_iload_n hx hb dX0_numberAt_15 rfl (lv_at hl 1 rfl) ?_
    refine fw_iald X hF g 0 rfl (wi_in (wi_le c8_2 hn) (N := 12) (by decide)) (v := f (ix i)) rfl dX0_numberAt_16 ?_
    refine lv_goto (tgt := 21) hx hb dX0_numberAt_17 (by decide) ?_
    refine fw_iret X hF hS ?_ (Nat.le_of_ble_eq_true rfl) (Nat.le_of_ble_eq_true rfl) dX0_numberAt_21
    exact ⟨by simp [c8_2], rfl⟩
set_option maxHeartbeats 4000000 in
set_option maxRecDepth 100000 in
theorem c_X1_init (l : Launch) (D : va_G) (cs : Nat → ClassId) (w : fW) (sz : Nat) (h0 : Nat) (h : w h0 = some (.inr (1, [.null, .int 0, .int 0]))) : gM l bs_B nw_B D cls10 (tyl cs) yX1_init cX1_init 1 none 1 20 1 144 w sz [.ref h0] (fun v w' => v = none ∧ ∃ q, w q = none ∧ w' = va_up (va_up w q (some (.inl (cs 0, 144, .inl (fun _ => 0))))) h0 (some (.inr (1, [.ref q, .int (-1), .int 0])))) := by
  refine gM.of (by decide +kernel) (Nat.le_of_ble_eq_true rfl) (fun p e s m below meth c A ls X hsz hnm hF hS hl => ?_)
  have hx := X.1
  have hb := X.2.1
  have hl : lv_has ls 1 [(0, .ref h0)] := hl
  have h : w h0 = some (.inr (1, [.null, .int 0, .int 0])) := h
  refine lv_aload_n hx hb dX1_init_0 rfl (lv_at hl 0 rfl) ?_
  refine W.objInit hx hb X.2.2.2.1 (X.2.2.2.2.1 _ wm_149) (X.2.2.2.2.1 _ wm_42) (X.2.2.2.2.1 _ wm_43) rfl (by rw [X.2.2.1]; exact hl.1) rfl dX1_init_1 (Nat.le_of_ble_eq_true rfl) (Nat.le_of_ble_eq_true rfl) ?_
  refine W.eq (g2 := F0 m 4 ls []) rfl ?_
  refine lv_aload_n hx hb dX1_init_4 rfl (lv_at hl 0 rfl) ?_
  refine lv_sipush (v := 144) hx hb dX1_init_5 (by decide) ?_
  refine fw_newa X hF hS (atype := .int) wm_85 rfl (fun _ h => by cases h) 0 rfl (N' := 144) (a0 := (144, .inl (fun _ => 0))) rfl (by decide) (by decide) (by decide) (Nat.le_of_ble_eq_true rfl) (Nat.le_of_ble_eq_true rfl) dX1_init_8 (fun q1 H nq1 zq1 zzq1 hF hS => ?_)
  refine fw_putF X gC_ok hF hS ((va_up_ne _ _ (gx_ne h nq1)).trans h) rfl 0 (by decide) wm_150 rfl hnm rfl (tf := .array .int) (by decide +kernel) rfl rfl (Nat.le_of_ble_eq_true rfl) dX1_init_10 (fun H locs hF hS => ?_)
  have hF : fw_P D cls10 A (va_up (va_up w q1 (some (.inl (cs 0, 144, .inl (fun _ => 0))))) h0 (some (.inr (1, [.ref q1, .int 0, .int 0])))) H := hF
  refine lv_aload_n hx hb dX1_init_13 rfl (lv_at hl 0 rfl) ?_
  refine lv_iconst (v := (-1)) hx hb dX1_init_14 (by decide) ?_
  refine fw_put X gC_ok hF hS (va_up_self _ _ _) rfl 1 (by decide) wm_151 rfl (tf := .int) (by decide +kernel) rfl rfl (Nat.le_of_ble_eq_true rfl) dX1_init_15 (fun H locs hF hS => ?_)
  rw [bx_uu] at hF
  have hF : fw_P D cls10 A (va_up (va_up w q1 (some (.inl (cs 0, 144, .inl (fun _ => 0))))) h0 (some (.inr (1, [.ref q1, .int (-1), .int 0])))) H := hF
  refine fw_vret X hF hS ?_ (Nat.le_of_ble_eq_true rfl) (Nat.le_of_ble_eq_true rfl) dX1_init_18
  exact ⟨rfl, _, nq1, by simp only [bx_uu]⟩
set_option maxHeartbeats 4000000 in
set_option maxRecDepth 100000 in
theorem c_X1_make (l : Launch) (D : va_G) (cs : Nat → ClassId) (w : fW) (sz : Nat) (h0 h1 : Nat) (n k : Int32) (f : Nat → Int32) (h : w h0 = some (.inr (1, [.ref h1, .int n, .int k]))) (g : w h1 = some (.inl (cs 0, 144, .inl f))) (b d : Int32) : gM l bs_B nw_B D cls10 (tyl cs) yX1_make cX1_make 3 (some .long) 1 23 0 0 w sz [.ref h0, .int b, .int d] (fun v w' => ((b < 0 ∨ d < 0 ∨ 12 < b ∨ 12 < d) ∧ v = some (.long (fl 2)) ∧ w' = w) ∨ (¬ (b < 0 ∨ d < 0 ∨ 12 < b ∨ 12 < d) ∧ v = some (.long b.toInt64) ∧ w' = va_up (va_up w h1 (some (.inl (cs 0, 144, .inl (fun _ => 0))))) h0 (some (.inr (1, [.ref h1, .int b, .int d]))))) := by
  refine gM.of (by decide +kernel) (Nat.le_of_ble_eq_true rfl) (fun p e s m below meth c A ls X hsz hnm hF hS hl => ?_)
  have hx := X.1
  have hb := X.2.1
  have hl : lv_has ls 3 [(0, .ref h0), (1, .int b), (2, .int d)] := hl
  have h : w h0 = some (.inr (1, [.ref h1, .int n, .int k])) := h
  have g : w h1 = some (.inl (cs 0, 144, .inl f)) := g
  refine lv_iload_n hx hb dX1_make_0 rfl (lv_at hl 1 rfl) ?_
  refine lv_if_lt (tgt := 20) hx hb dX1_make_1 (by decide) (fun c1_1 => ?_) (fun c1_1 => ?_)
  · refine lv_iconst (v := 2) hx hb dX1_make_20 (by decide) ?_
    refine fw_callSN (As := [.int 2]) (rest := []) X bs_all nw_all mf_X8_failure (c_X8_failure l D cs _ _ 2) nm_297 wm_233 hF hS rfl ((⟨⟨Nat.le_of_ble_eq_true rfl, Nat.le_of_ble_eq_true rfl⟩, Nat.le_of_ble_eq_true rfl, Nat.le_of_ble_eq_true rfl⟩)) rfl hl.1 rfl (Nat.le_of_ble_eq_true rfl) dX1_make_21 (fun v u2 H locs hp hF hS hz1 hk1 hd1 => ?_)
    obtain ⟨rfl, hw1⟩ := hp
    rw [hw1] at hF
    refine W.eq (g2 := F0 m 24 ls [.long (fl 2)]) rfl ?_
    refine fw_lret X hF hS ?_ (Nat.le_of_ble_eq_true rfl) (Nat.le_of_ble_eq_true rfl) dX1_make_24
    exact Or.inl ⟨Or.inl c1_1, rfl, rfl⟩
  · refine lv_iload_n hx hb dX1_make_4 rfl (lv_at hl 2 rfl) ?_
    refine lv_if_lt (tgt := 20) hx hb dX1_make_5 (by decide) (fun c5_3 => ?_) (fun c5_3 => ?_)
    · refine lv_iconst (v := 2) hx hb dX1_make_20 (by decide) ?_
      refine fw_callSN (As := [.int 2]) (rest := []) X bs_all nw_all mf_X8_failure (c_X8_failure l D cs _ _ 2) nm_297 wm_233 hF hS rfl ((⟨⟨Nat.le_of_ble_eq_true rfl, Nat.le_of_ble_eq_true rfl⟩, Nat.le_of_ble_eq_true rfl, Nat.le_of_ble_eq_true rfl⟩)) rfl hl.1 rfl (Nat.le_of_ble_eq_true rfl) dX1_make_21 (fun v u4 H locs hp hF hS hz1 hk1 hd1 => ?_)
      obtain ⟨rfl, hw1⟩ := hp
      rw [hw1] at hF
      refine W.eq (g2 := F0 m 24 ls [.long (fl 2)]) rfl ?_
      refine fw_lret X hF hS ?_ (Nat.le_of_ble_eq_true rfl) (Nat.le_of_ble_eq_true rfl) dX1_make_24
      exact Or.inl ⟨Or.inr (Or.inl c5_3), rfl, rfl⟩
    · refine lv_iload_n hx hb dX1_make_8 rfl (lv_at hl 1 rfl) ?_
      refine lv_bipush (v := 12) hx hb dX1_make_9 (by decide) ?_
      refine lv_icmp_gt (tgt := 20) hx hb dX1_make_11 (by decide) (fun c11_5 => ?_) (fun c11_5 => ?_)
      · refine lv_iconst (v := 2) hx hb dX1_make_20 (by decide) ?_
        refine fw_callSN (As := [.int 2]) (rest := []) X bs_all nw_all mf_X8_failure (c_X8_failure l D cs _ _ 2) nm_297 wm_233 hF hS rfl ((⟨⟨Nat.le_of_ble_eq_true rfl, Nat.le_of_ble_eq_true rfl⟩, Nat.le_of_ble_eq_true rfl, Nat.le_of_ble_eq_true rfl⟩)) rfl hl.1 rfl (Nat.le_of_ble_eq_true rfl) dX1_make_21 (fun v u6 H locs hp hF hS hz1 hk1 hd1 => ?_)
        obtain ⟨rfl, hw1⟩ := hp
        rw [hw1] at hF
        refine W.eq (g2 := F0 m 24 ls [.long (fl 2)]) rfl ?_
        refine fw_lret X hF hS ?_ (Nat.le_of_ble_eq_true rfl) (Nat.le_of_ble_eq_true rfl) dX1_make_24
        exact Or.inl ⟨Or.inr (Or.inr (Or.inl c11_5)), rfl, rfl⟩
      · refine lv_iload_n hx hb dX1_make_14 rfl (lv_at hl 2 rfl) ?_
        refine lv_bipush (v := 12) hx hb dX1_make_15 (by decide) ?_
        refine lv_icmp_le (tgt := 25) hx hb dX1_make_17 (by decide) (fun c17_7 => ?_) (fun c17_7 => ?_)
        · refine lv_aload_n hx hb dX1_make_25 rfl (lv_at hl 0 rfl) ?_
          refine fw_get X gC_ok hF h rfl 0 (by decide) wm_150 rfl dX1_make_26 ?_
          refine lv_iconst (v := 0) hx hb dX1_make_29 (by decide) ?_
          refine fw_callS (As := [.ref h1, .int 0]) (rest := []) X bs_all nw_all mf_J7_fill_53178 (c_J7_fill_53178 l D cs _ _ h1 144 f 0 (by decide) g) wm_298 wm_286 hF hS rfl ((⟨⟨Nat.le_of_ble_eq_true rfl, Nat.le_of_ble_eq_true rfl⟩, Nat.le_of_ble_eq_true rfl, Nat.le_of_ble_eq_true rfl⟩)) rfl hl.1 rfl (Nat.le_of_ble_eq_true rfl) dX1_make_30 (fun v u8 H locs hp hF hS hz1 hk1 hd1 => ?_)
          obtain ⟨rfl, hw1⟩ := hp
          rw [hw1] at hF
          refine W.eq (g2 := F0 m 33 ls []) rfl ?_
          refine lv_aload_n hx hb dX1_make_33 rfl (lv_at hl 0 rfl) ?_
          refine lv_iload_n hx hb dX1_make_34 rfl (lv_at hl 1 rfl) ?_
          refine fw_put X gC_ok hF hS ((va_up_ne _ _ (gx_neA h g)).trans h) rfl 1 (by decide) wm_151 rfl (tf := .int) (by decide +kernel) rfl rfl (Nat.le_of_ble_eq_true rfl) dX1_make_35 (fun H locs hF hS => ?_)
          have hF : fw_P D cls10 A (va_up (va_up w h1 (some (.inl (cs 0, 144, .inl (fun _ => 0))))) h0 (some (.inr (1, [.ref h1, .int b, .int k])))) H := hF
          refine lv_aload_n hx hb dX1_make_38 rfl (lv_at hl 0 rfl) ?_
          refine lv_iload_n hx hb dX1_make_39 rfl (lv_at hl 2 rfl) ?_
          refine fw_put X gC_ok hF hS (va_up_self _ _ _) rfl 2 (by decide) wm_153 rfl (tf := .int) (by decide +kernel) rfl rfl (Nat.le_of_ble_eq_true rfl) dX1_make_40 (fun H locs hF hS => ?_)
          rw [bx_uu] at hF
          have hF : fw_P D cls10 A (va_up (va_up w h1 (some (.inl (cs 0, 144, .inl (fun _ => 0))))) h0 (some (.inr (1, [.ref h1, .int b, .int d])))) H := hF
          refine lv_iload_n hx hb dX1_make_43 rfl (lv_at hl 1 rfl) ?_
          refine lv_i2l hx hb dX1_make_44 rfl ?_
          refine fw_lret X hF hS ?_ (Nat.le_of_ble_eq_true rfl) (Nat.le_of_ble_eq_true rfl) dX1_make_45
          exact Or.inr ⟨fun q => q.elim c1_1 (fun q => q.elim c5_3 (fun q => q.elim c11_5 (fun z => i_nlt.mpr c17_7 z))), rfl, by simp only [bx_uu]⟩
        · refine lv_iconst (v := 2) hx hb dX1_make_20 (by decide) ?_
          refine fw_callSN (As := [.int 2]) (rest := []) X bs_all nw_all mf_X8_failure (c_X8_failure l D cs _ _ 2) nm_297 wm_233 hF hS rfl ((⟨⟨Nat.le_of_ble_eq_true rfl, Nat.le_of_ble_eq_true rfl⟩, Nat.le_of_ble_eq_true rfl, Nat.le_of_ble_eq_true rfl⟩)) rfl hl.1 rfl (Nat.le_of_ble_eq_true rfl) dX1_make_21 (fun v u9 H locs hp hF hS hz1 hk1 hd1 => ?_)
          obtain ⟨rfl, hw1⟩ := hp
          rw [hw1] at hF
          refine W.eq (g2 := F0 m 24 ls [.long (fl 2)]) rfl ?_
          refine fw_lret X hF hS ?_ (Nat.le_of_ble_eq_true rfl) (Nat.le_of_ble_eq_true rfl) dX1_make_24
          exact Or.inl ⟨Or.inr (Or.inr (Or.inr (i_nle.mp c17_7))), rfl, rfl⟩
set_option maxHeartbeats 4000000 in
set_option maxRecDepth 100000 in
theorem c_X1_has (l : Launch) (D : va_G) (cs : Nat → ClassId) (w : fW) (sz : Nat) (h0 h1 : Nat) (n k : Int32) (f : Nat → Int32) (h : w h0 = some (.inr (1, [.ref h1, .int n, .int k]))) (g : w h1 = some (.inl (cs 0, 144, .inl f))) (i j : Int32) : gM l bs_B nw_B D cls10 (tyl cs) yX1_has cX1_has 3 (some .boolean) 1 21 0 0 w sz [.ref h0, .int i, .int j] (fun v w' => v = some (.int (bz (wi i n && wi j k))) ∧ w' = w) := by
  refine gM.of (by decide +kernel) (Nat.le_of_ble_eq_true rfl) (fun p e s m below meth c A ls X hsz hnm hF hS hl => ?_)
  have hx := X.1
  have hb := X.2.1
  have hl : lv_has ls 3 [(0, .ref h0), (1, .int i), (2, .int j)] := hl
  have h : w h0 = some (.inr (1, [.ref h1, .int n, .int k])) := h
  have g : w h1 = some (.inl (cs 0, 144, .inl f)) := g
  refine lv_iload_n hx hb dX1_has_0 rfl (lv_at hl 1 rfl) ?_
  refine lv_aload_n hx hb dX1_has_1 rfl (lv_at hl 0 rfl) ?_
  refine fw_get X gC_ok hF h rfl 1 (by decide) wm_151 rfl dX1_has_2 ?_
  refine fw_callSN (As := [.int i, .int n]) (rest := []) X bs_all nw_all mf_X8_isWithin (c_X8_isWithin l D cs _ _ i n) nm_311 wm_209 hF hS rfl ((⟨⟨Nat.le_of_ble_eq_true rfl, Nat.le_of_ble_eq_true rfl⟩, Nat.le_of_ble_eq_true rfl, Nat.le_of_ble_eq_true rfl⟩)) rfl hl.1 rfl (Nat.le_of_ble_eq_true rfl) dX1_has_5 (fun v u1 H locs hp hF hS hz1 hk1 hd1 => ?_)
  obtain ⟨rfl, hw1⟩ := hp
  rw [hw1] at hF
  refine W.eq (g2 := F0 m 8 ls [.int (bz (wi i n))]) rfl ?_
  refine gx_ifeq (tgt := 26) hx hb dX1_has_8 (by decide) (fun c8_2 => ?_) (fun c8_2 => ?_)
  · refine lv_iconst (v := 0) hx hb dX1_has_26 (by decide) ?_
    refine fw_zret X hF hS rfl ?_ (Nat.le_of_ble_eq_true rfl) (Nat.le_of_ble_eq_true rfl) dX1_has_27
    exact ⟨by simp [bz, c8_2], rfl⟩
  · refine lv_iload_n hx hb dX1_has_11 rfl (lv_at hl 2 rfl) ?_
    refine lv_aload_n hx hb dX1_has_12 rfl (lv_at hl 0 rfl) ?_
    refine fw_get X gC_ok hF h rfl 2 (by decide) wm_153 rfl dX1_has_13 ?_
    refine fw_callSN (As := [.int j, .int k]) (rest := []) X bs_all nw_all mf_X8_isWithin (c_X8_isWithin l D cs _ _ j k) nm_311 wm_209 hF hS rfl ((⟨⟨Nat.le_of_ble_eq_true rfl, Nat.le_of_ble_eq_true rfl⟩, Nat.le_of_ble_eq_true rfl, Nat.le_of_ble_eq_true rfl⟩)) rfl hl.1 rfl (Nat.le_of_ble_eq_true rfl) dX1_has_16 (fun v u3 H locs hp hF hS hz1 hk1 hd1 => ?_)
    obtain ⟨rfl, hw1⟩ := hp
    rw [hw1] at hF
    refine W.eq (g2 := F0 m 19 ls [.int (bz (wi j k))]) rfl ?_
    refine gx_ifeq (tgt := 26) hx hb dX1_has_19 (by decide) (fun c19_4 => ?_) (fun c19_4 => ?_)
    · refine lv_iconst (v := 0) hx hb dX1_has_26 (by decide) ?_
      refine fw_zret X hF hS rfl ?_ (Nat.le_of_ble_eq_true rfl) (Nat.le_of_ble_eq_true rfl) dX1_has_27
      exact ⟨by simp [bz, c8_2, c19_4], rfl⟩
    · refine lv_iconst (v := 1) hx hb dX1_has_22 (by decide) ?_
      refine lv_goto (tgt := 27) hx hb dX1_has_23 (by decide) ?_
      refine fw_zret X hF hS rfl ?_ (Nat.le_of_ble_eq_true rfl) (Nat.le_of_ble_eq_true rfl) dX1_has_27
      exact ⟨by simp [bz, c8_2, c19_4], rfl⟩
set_option maxHeartbeats 4000000 in
set_option maxRecDepth 100000 in
theorem c_X1_rowLength (l : Launch) (D : va_G) (cs : Nat → ClassId) (w : fW) (sz : Nat) (h0 h1 : Nat) (n k : Int32) (f : Nat → Int32) (h : w h0 = some (.inr (1, [.ref h1, .int n, .int k]))) (g : w h1 = some (.inl (cs 0, 144, .inl f))) (i : Int32) : gM l bs_B nw_B D cls10 (tyl cs) yX1_rowLength cX1_rowLength 2 (some .long) 1 21 0 0 w sz [.ref h0, .int i] (fun v w' => (n = -1 ∧ v = some (.long (fl 1)) ∧ w' = w) ∨ (¬ n = -1 ∧ wi i n = false ∧ v = some (.long (fl 3)) ∧ w' = w) ∨ (¬ n = -1 ∧ wi i n = true ∧ v = some (.long k.toInt64) ∧ w' = w)) := by
  refine gM.of (by decide +kernel) (Nat.le_of_ble_eq_true rfl) (fun p e s m below meth c A ls X hsz hnm hF hS hl => ?_)
  have hx := X.1
  have hb := X.2.1
  have hl : lv_has ls 2 [(0, .ref h0), (1, .int i)] := hl
  have h : w h0 = some (.inr (1, [.ref h1, .int n, .int k])) := h
  have g : w h1 = some (.inl (cs 0, 144, .inl f)) := g
  refine lv_aload_n hx hb dX1_rowLength_0 rfl (lv_at hl 0 rfl) ?_
  refine fw_get X gC_ok hF h rfl 1 (by decide) wm_151 rfl dX1_rowLength_1 ?_
  refine lv_iconst (v := (-1)) hx hb dX1_rowLength_4 (by decide) ?_
  refine lv_icmp_ne (tgt := 13) hx hb dX1_rowLength_5 (by decide) (fun c5_1 => ?_) (fun c5_1 => ?_)
  · refine lv_iload_n hx hb dX1_rowLength_13 rfl (lv_at hl 1 rfl) ?_
    refine lv_aload_n hx hb dX1_rowLength_14 rfl (lv_at hl 0 rfl) ?_
    refine fw_get X gC_ok hF h rfl 1 (by decide) wm_151 rfl dX1_rowLength_15 ?_
    refine fw_callSN (As := [.int i, .int n]) (rest := []) X bs_all nw_all mf_X8_isWithin (c_X8_isWithin l D cs _ _ i n) nm_311 wm_209 hF hS rfl ((⟨⟨Nat.le_of_ble_eq_true rfl, Nat.le_of_ble_eq_true rfl⟩, Nat.le_of_ble_eq_true rfl, Nat.le_of_ble_eq_true rfl⟩)) rfl hl.1 rfl (Nat.le_of_ble_eq_true rfl) dX1_rowLength_18 (fun v u2 H locs hp hF hS hz1 hk1 hd1 => ?_)
    obtain ⟨rfl, hw1⟩ := hp
    rw [hw1] at hF
    refine W.eq (g2 := F0 m 21 ls [.int (bz (wi i n))]) rfl ?_
    refine gx_ifeq (tgt := 32) hx hb dX1_rowLength_21 (by decide) (fun c21_3 => ?_) (fun c21_3 => ?_)
    · refine lv_iconst (v := 3) hx hb dX1_rowLength_32 (by decide) ?_
      refine fw_callSN (As := [.int 3]) (rest := []) X bs_all nw_all mf_X8_failure (c_X8_failure l D cs _ _ 3) nm_297 wm_233 hF hS rfl ((⟨⟨Nat.le_of_ble_eq_true rfl, Nat.le_of_ble_eq_true rfl⟩, Nat.le_of_ble_eq_true rfl, Nat.le_of_ble_eq_true rfl⟩)) rfl hl.1 rfl (Nat.le_of_ble_eq_true rfl) dX1_rowLength_33 (fun v u4 H locs hp hF hS hz1 hk1 hd1 => ?_)
      obtain ⟨rfl, hw1⟩ := hp
      rw [hw1] at hF
      refine W.eq (g2 := F0 m 36 ls [.long (fl 3)]) rfl ?_
      refine fw_lret X hF hS ?_ (Nat.le_of_ble_eq_true rfl) (Nat.le_of_ble_eq_true rfl) dX1_rowLength_36
      exact Or.inr (Or.inl ⟨c5_1, c21_3, rfl, rfl⟩)
    · refine lv_aload_n hx hb dX1_rowLength_24 rfl (lv_at hl 0 rfl) ?_
      refine fw_get X gC_ok hF h rfl 2 (by decide) wm_153 rfl dX1_rowLength_25 ?_
      refine lv_i2l hx hb dX1_rowLength_28 rfl ?_
      refine lv_goto (tgt := 36) hx hb dX1_rowLength_29 (by decide) ?_
      refine fw_lret X hF hS ?_ (Nat.le_of_ble_eq_true rfl) (Nat.le_of_ble_eq_true rfl) dX1_rowLength_36
      exact Or.inr (Or.inr ⟨c5_1, c21_3, rfl, rfl⟩)
  · refine lv_iconst (v := 1) hx hb dX1_rowLength_8 (by decide) ?_
    refine fw_callSN (As := [.int 1]) (rest := []) X bs_all nw_all mf_X8_failure (c_X8_failure l D cs _ _ 1) nm_297 wm_233 hF hS rfl ((⟨⟨Nat.le_of_ble_eq_true rfl, Nat.le_of_ble_eq_true rfl⟩, Nat.le_of_ble_eq_true rfl, Nat.le_of_ble_eq_true rfl⟩)) rfl hl.1 rfl (Nat.le_of_ble_eq_true rfl) dX1_rowLength_9 (fun v u5 H locs hp hF hS hz1 hk1 hd1 => ?_)
    obtain ⟨rfl, hw1⟩ := hp
    rw [hw1] at hF
    refine W.eq (g2 := F0 m 12 ls [.long (fl 1)]) rfl ?_
    refine fw_lret X hF hS ?_ (Nat.le_of_ble_eq_true rfl) (Nat.le_of_ble_eq_true rfl) dX1_rowLength_12
    exact Or.inl ⟨c5_1, rfl, rfl⟩
set_option maxHeartbeats 4000000 in
set_option maxRecDepth 100000 in
theorem c_X1_addOne (l : Launch) (D : va_G) (cs : Nat → ClassId) (w : fW) (sz : Nat) (h0 h1 : Nat) (n k : Int32) (f : Nat → Int32) (h : w h0 = some (.inr (1, [.ref h1, .int n, .int k]))) (g : w h1 = some (.inl (cs 0, 144, .inl f))) (i j : Int32) (hn : n ≤ 12) (hk : k ≤ 12) : gM l bs_B nw_B D cls10 (tyl cs) yX1_addOne cX1_addOne 4 (some .long) 2 43 0 0 w sz [.ref h0, .int i, .int j] (fun v w' => (n = -1 ∧ v = some (.long (fl 1)) ∧ w' = w) ∨ (¬ n = -1 ∧ (wi i n && wi j k) = false ∧ v = some (.long (fl 3)) ∧ w' = w) ∨ (¬ n = -1 ∧ (wi i n && wi j k) = true ∧ v = some (.long (f (12 * ix i + ix j) + 1).toInt64) ∧ w' = va_up w h1 (some (.inl (cs 0, 144, .inl (upd f (12 * ix i + ix j) (f (12 * ix i + ix j) + 1))))))) := by
  refine gM.of (by decide +kernel) (Nat.le_of_ble_eq_true rfl) (fun p e s m below meth c A ls X hsz hnm hF hS hl => ?_)
  have hx := X.1
  have hb := X.2.1
  have hl : lv_has ls 4 [(0, .ref h0), (1, .int i), (2, .int j)] := hl
  have h : w h0 = some (.inr (1, [.ref h1, .int n, .int k])) := h
  have g : w h1 = some (.inl (cs 0, 144, .inl f)) := g
  refine lv_aload_n hx hb dX1_addOne_0 rfl (lv_at hl 0 rfl) ?_
  refine fw_get X gC_ok hF h rfl 1 (by decide) wm_151 rfl dX1_addOne_1 ?_
  refine lv_iconst (v := (-1)) hx hb dX1_addOne_4 (by decide) ?_
  refine lv_icmp_ne (tgt := 13) hx hb dX1_addOne_5 (by decide) (fun c5_1 => ?_) (fun c5_1 => ?_)
  · refine lv_aload_n hx hb dX1_addOne_13 rfl (lv_at hl 0 rfl) ?_
    refine lv_iload_n hx hb dX1_addOne_14 rfl (lv_at hl 1 rfl) ?_
    refine lv_iload_n hx hb dX1_addOne_15 rfl (lv_at hl 2 rfl) ?_
    refine fw_callV (As := [.int i, .int j]) (rest := []) X bs_all nw_all mf_X1_has (c_X1_has l D cs _ _ h0 h1 n k f h g i j) wm_321 wm_322 wm_323 hF hS rfl h rfl rfl ((⟨⟨Nat.le_of_ble_eq_true rfl, Nat.le_of_ble_eq_true rfl⟩, Nat.le_of_ble_eq_true rfl, Nat.le_of_ble_eq_true rfl⟩)) rfl hl.1 rfl (Nat.le_of_ble_eq_true rfl) dX1_addOne_16 (fun v u2 H locs hp hF hS hz1 hk1 hd1 => ?_)
    obtain ⟨rfl, hw1⟩ := hp
    rw [hw1] at hF
    refine W.eq (g2 := F0 m 19 ls [.int (bz (wi i n && wi j k))]) rfl ?_
    refine gx_ifne (tgt := 27) hx hb dX1_addOne_19 (by decide) (fun c19_3 => ?_) (fun c19_3 => ?_)
    · have hij := Bool.and_eq_true_iff.mp c19_3
      have hgx := g_ix (wi_le hij.1 hn) (wi_le hij.2 hk)
      refine lv_iload_n hx hb dX1_addOne_27 rfl (lv_at hl 1 rfl) ?_
      refine lv_bipush (v := 12) hx hb dX1_addOne_28 (by decide) ?_
      refine lv_imul hx hb dX1_addOne_30 ?_
      refine lv_iload_n hx hb dX1_addOne_31 rfl (lv_at hl 2 rfl) ?_
      refine lv_iadd hx hb dX1_addOne_32 ?_
      refine lv_istore_n (lv' := [(3, .int ((i * 12) + j)), (0, .ref h0), (1, .int i), (2, .int j)]) hx hb dX1_addOne_33 rfl hl (by decide) rfl (fun ls hl => ?_)
      refine lv_aload_n hx hb dX1_addOne_34 rfl (lv_at hl 1 rfl) ?_
      refine fw_get X gC_ok hF h rfl 0 (by decide) wm_150 rfl dX1_addOne_35 ?_
      refine lv_iload_n hx hb dX1_addOne_38 rfl (lv_at hl 0 rfl) ?_
      refine lv_dup2_11 hx hb dX1_addOne_39 rfl rfl ?_
      refine fw_iald X hF g 0 rfl hgx.1 (v := f (ix ((i * 12) + j))) rfl dX1_addOne_40 ?_
      refine lv_iconst (v := 1) hx hb dX1_addOne_41 (by decide) ?_
      refine lv_iadd hx hb dX1_addOne_42 ?_
      refine fw_iast X hF hS g 0 rfl hgx.1 dX1_addOne_43 (fun H locs hF hS => ?_)
      have hF : fw_P D cls10 A (va_up w h1 (some (.inl (cs 0, 144, .inl (upd f (ix ((i * 12) + j)) ((f (ix ((i * 12) + j))) + 1)))))) H := hF
      refine lv_aload_n hx hb dX1_addOne_44 rfl (lv_at hl 1 rfl) ?_
      refine fw_get X gC_ok hF ((va_up_ne _ _ (gx_neA h g)).trans h) rfl 0 (by decide) wm_150 rfl dX1_addOne_45 ?_
      refine lv_iload_n hx hb dX1_addOne_48 rfl (lv_at hl 0 rfl) ?_
      refine fw_iald X hF (va_up_self _ _ _) 0 rfl hgx.1 (v := (upd f (ix ((i * 12) + j)) ((f (ix ((i * 12) + j))) + 1)) (ix ((i * 12) + j))) rfl dX1_addOne_49 ?_
      refine lv_i2l hx hb dX1_addOne_50 rfl ?_
      refine fw_lret X hF hS ?_ (Nat.le_of_ble_eq_true rfl) (Nat.le_of_ble_eq_true rfl) dX1_addOne_51
      refine Or.inr (Or.inr ⟨c5_1, c19_3, ?_, ?_⟩)
      · rw [← hgx.2]; simp [upd]
      · rw [← hgx.2]
    · refine lv_iconst (v := 3) hx hb dX1_addOne_22 (by decide) ?_
      refine fw_callSN (As := [.int 3]) (rest := []) X bs_all nw_all mf_X8_failure (c_X8_failure l D cs _ _ 3) nm_297 wm_233 hF hS rfl ((⟨⟨Nat.le_of_ble_eq_true rfl, Nat.le_of_ble_eq_true rfl⟩, Nat.le_of_ble_eq_true rfl, Nat.le_of_ble_eq_true rfl⟩)) rfl hl.1 rfl (Nat.le_of_ble_eq_true rfl) dX1_addOne_23 (fun v u4 H locs hp hF hS hz1 hk1 hd1 => ?_)
      obtain ⟨rfl, hw1⟩ := hp
      rw [hw1] at hF
      refine W.eq (g2 := F0 m 26 ls [.long (fl 3)]) rfl ?_
      refine fw_lret X hF hS ?_ (Nat.le_of_ble_eq_true rfl) (Nat.le_of_ble_eq_true rfl) dX1_addOne_26
      exact Or.inr (Or.inl ⟨c5_1, c19_3, rfl, rfl⟩)
  · refine lv_iconst (v := 1) hx hb dX1_addOne_8 (by decide) ?_
    refine fw_callSN (As := [.int 1]) (rest := []) X bs_all nw_all mf_X8_failure (c_X8_failure l D cs _ _ 1) nm_297 wm_233 hF hS rfl ((⟨⟨Nat.le_of_ble_eq_true rfl, Nat.le_of_ble_eq_true rfl⟩, Nat.le_of_ble_eq_true rfl, Nat.le_of_ble_eq_true rfl⟩)) rfl hl.1 rfl (Nat.le_of_ble_eq_true rfl) dX1_addOne_9 (fun v u5 H locs hp hF hS hz1 hk1 hd1 => ?_)
    obtain ⟨rfl, hw1⟩ := hp
    rw [hw1] at hF
    refine W.eq (g2 := F0 m 12 ls [.long (fl 1)]) rfl ?_
    refine fw_lret X hF hS ?_ (Nat.le_of_ble_eq_true rfl) (Nat.le_of_ble_eq_true rfl) dX1_addOne_12
    exact Or.inl ⟨c5_1, rfl, rfl⟩
set_option maxHeartbeats 4000000 in
set_option maxRecDepth 100000 in
theorem c_X1_numberAt (l : Launch) (D : va_G) (cs : Nat → ClassId) (w : fW) (sz : Nat) (h0 h1 : Nat) (n k : Int32) (f : Nat → Int32) (h : w h0 = some (.inr (1, [.ref h1, .int n, .int k]))) (g : w h1 = some (.inl (cs 0, 144, .inl f))) (i j : Int32) (hn : n ≤ 12) (hk : k ≤ 12) : gM l bs_B nw_B D cls10 (tyl cs) yX1_numberAt cX1_numberAt 3 (some .int) 2 43 0 0 w sz [.ref h0, .int i, .int j] (fun v w' => v = some (.int (if (wi i n && wi j k) = true then f (12 * ix i + ix j) else 0)) ∧ w' = w) := by
  refine gM.of (by decide +kernel) (Nat.le_of_ble_eq_true rfl) (fun p e s m below meth c A ls X hsz hnm hF hS hl => ?_)
  have hx := X.1
  have hb := X.2.1
  have hl : lv_has ls 3 [(0, .ref h0), (1, .int i), (2, .int j)] := hl
  have h : w h0 = some (.inr (1, [.ref h1, .int n, .int k])) := h
  have g : w h1 = some (.inl (cs 0, 144, .inl f)) := g
  refine lv_aload_n hx hb dX1_numberAt_0 rfl (lv_at hl 0 rfl) ?_
  refine lv_iload_n hx hb dX1_numberAt_1 rfl (lv_at hl 1 rfl) ?_
  refine lv_iload_n hx hb dX1_numberAt_2 rfl (lv_at hl 2 rfl) ?_
  refine fw_callV (As := [.int i, .int j]) (rest := []) X bs_all nw_all mf_X1_has (c_X1_has l D cs _ _ h0 h1 n k f h g i j) wm_321 wm_322 wm_323 hF hS rfl h rfl rfl ((⟨⟨Nat.le_of_ble_eq_true rfl, Nat.le_of_ble_eq_true rfl⟩, Nat.le_of_ble_eq_true rfl, Nat.le_of_ble_eq_true rfl⟩)) rfl hl.1 rfl (Nat.le_of_ble_eq_true rfl) dX1_numberAt_3 (fun v u1 H locs hp hF hS hz1 hk1 hd1 => ?_)
  obtain ⟨rfl, hw1⟩ := hp
  rw [hw1] at hF
  refine W.eq (g2 := F0 m 6 ls [.int (bz (wi i n && wi j k))]) rfl ?_
  refine gx_ifeq (tgt := 23) hx hb dX1_numberAt_6 (by decide) (fun c6_2 => ?_) (fun c6_2 => ?_)
  · refine lv_iconst (v := 0) hx hb dX1_numberAt_23 (by decide) ?_
    refine fw_iret X hF hS ?_ (Nat.le_of_ble_eq_true rfl) (Nat.le_of_ble_eq_true rfl) dX1_numberAt_24
    exact ⟨by simp [c6_2], rfl⟩
  · have hij := Bool.and_eq_true_iff.mp c6_2
    have hgx := g_ix (wi_le hij.1 hn) (wi_le hij.2 hk)
    refine lv_aload_n hx hb dX1_numberAt_9 rfl (lv_at hl 0 rfl) ?_
    refine fw_get X gC_ok hF h rfl 0 (by decide) wm_150 rfl dX1_numberAt_10 ?_
    refine lv_iload_n hx hb dX1_numberAt_13 rfl (lv_at hl 1 rfl) ?_
    refine lv_bipush (v := 12) hx hb dX1_numberAt_14 (by decide) ?_
    refine lv_imul hx hb dX1_numberAt_16 ?_
    refine lv_iload_n hx hb dX1_numberAt_17 rfl (lv_at hl 2 rfl) ?_
    refine lv_iadd hx hb dX1_numberAt_18 ?_
    refine fw_iald X hF g 0 rfl hgx.1 (v := f (ix ((i * 12) + j))) rfl dX1_numberAt_19 ?_
    refine lv_goto (tgt := 24) hx hb dX1_numberAt_20 (by decide) ?_
    refine fw_iret X hF hS ?_ (Nat.le_of_ble_eq_true rfl) (Nat.le_of_ble_eq_true rfl) dX1_numberAt_24
    refine ⟨?_, rfl⟩
    rw [← hgx.2]
    simp [c6_2]
end
section
set_option maxHeartbeats 4000000 in
set_option maxRecDepth 100000 in
theorem c_X3_init (l : Launch) (D : va_G) (cs : Nat → ClassId) (w : fW) (sz : Nat) (h0 : Nat) (h : w h0 = some (.inr (3, [.null, .int 0, .int 0]))) : gM l bs_B nw_B D cls10 (tyl cs) yX3_init cX3_init 1 none 1 20 1 12 w sz [.ref h0] (fun v w' => v = none ∧ ∃ q, w q = none ∧ w' = va_up (va_up w q (some (.inl (cs 7, 12, .inr (.inr (.inr (.inr (fun _ => none)))))))) h0 (some (.inr (3, [.ref q, .int (-1), .int 0])))) := by
  refine gM.of (by decide +kernel) (Nat.le_of_ble_eq_true rfl) (fun p e s m below meth c A ls X hsz hnm hF hS hl => ?_)
  have hx := X.1
  have hb := X.2.1
  have hl : lv_has ls 1 [(0, .ref h0)] := hl
  have h : w h0 = some (.inr (3, [.null, .int 0, .int 0])) := h
  refine lv_aload_n hx hb dX3_init_0 rfl (lv_at hl 0 rfl) ?_
  refine W.objInit hx hb X.2.2.2.1 (X.2.2.2.2.1 _ wm_131) (X.2.2.2.2.1 _ wm_42) (X.2.2.2.2.1 _ wm_43) rfl (by rw [X.2.2.1]; exact hl.1) rfl dX3_init_1 (Nat.le_of_ble_eq_true rfl) (Nat.le_of_ble_eq_true rfl) ?_
  refine W.eq (g2 := F0 m 4 ls []) rfl ?_
  refine lv_aload_n hx hb dX3_init_4 rfl (lv_at hl 0 rfl) ?_
  refine lv_bipush (v := 12) hx hb dX3_init_5 (by decide) ?_
  refine fw_newq X hF hS wm_132 nm_133 7 rfl (N' := 12) (by decide) (by decide) (by decide) (Nat.le_of_ble_eq_true rfl) (Nat.le_of_ble_eq_true rfl) dX3_init_7 (fun q1 H nq1 zq1 zzq1 hF hS => ?_)
  refine fw_putF X gC_ok hF hS ((va_up_ne _ _ (gx_ne h nq1)).trans h) rfl 0 (by decide) wm_134 rfl hnm rfl (tf := .array (.object "CycleShop$Wheel")) (by decide +kernel) rfl rfl (Nat.le_of_ble_eq_true rfl) dX3_init_10 (fun H locs hF hS => ?_)
  have hF : fw_P D cls10 A (va_up (va_up w q1 (some (.inl (cs 7, 12, .inr (.inr (.inr (.inr (fun _ => none)))))))) h0 (some (.inr (3, [.ref q1, .int 0, .int 0])))) H := hF
  refine lv_aload_n hx hb dX3_init_13 rfl (lv_at hl 0 rfl) ?_
  refine lv_iconst (v := (-1)) hx hb dX3_init_14 (by decide) ?_
  refine fw_put X gC_ok hF hS (va_up_self _ _ _) rfl 1 (by decide) wm_135 rfl (tf := .int) (by decide +kernel) rfl rfl (Nat.le_of_ble_eq_true rfl) dX3_init_15 (fun H locs hF hS => ?_)
  rw [bx_uu] at hF
  have hF : fw_P D cls10 A (va_up (va_up w q1 (some (.inl (cs 7, 12, .inr (.inr (.inr (.inr (fun _ => none)))))))) h0 (some (.inr (3, [.ref q1, .int (-1), .int 0])))) H := hF
  refine fw_vret X hF hS ?_ (Nat.le_of_ble_eq_true rfl) (Nat.le_of_ble_eq_true rfl) dX3_init_18
  exact ⟨rfl, _, nq1, by simp only [bx_uu]⟩
set_option maxHeartbeats 4000000 in
set_option maxRecDepth 100000 in
theorem c_X3_make (l : Launch) (D : va_G) (cs : Nat → ClassId) (w : fW) (sz : Nat) (h0 h1 : Nat) (n : Int32) (di : Bool) (f : Nat → Option Nat) (h : w h0 = some (.inr (3, [.ref h1, .int n, .int (bz di)]))) (g : w h1 = some (.inl (cs 7, 12, .inr (.inr (.inr (.inr f)))))) (b : Int32) (k : Bool) : gM l bs_B nw_B D cls10 (tyl cs) yX3_make cX3_make 4 (some .long) 1 20 0 0 w sz [.ref h0, .int b, .int (bz k)] (fun v w' => ((b < 0 ∨ 12 < b) ∧ v = some (.long (fl 2)) ∧ w' = w) ∨ (¬ (b < 0 ∨ 12 < b) ∧ v = some (.long b.toInt64) ∧ w' = va_up (va_up w h1 (some (.inl (cs 7, 12, .inr (.inr (.inr (.inr (fun _ => none)))))))) h0 (some (.inr (3, [.ref h1, .int b, .int (bz k)]))))) := by
  refine gM.of (by decide +kernel) (Nat.le_of_ble_eq_true rfl) (fun p e s m below meth c A ls X hsz hnm hF hS hl => ?_)
  have hx := X.1
  have hb := X.2.1
  have loop : ¬ (b < 0 ∨ 12 < b) → ∀ (n9 i : Nat), i + n9 = 12 → ∀ (H : Heap) (locs : List Loc) (ls : Array Slot), fw_P D cls10 A (va_up w h1 (some (.inl (cs 7, 12, .inr (.inr (.inr (.inr (fun j => if j < i then none else f j)))))))) H → va_S A s.heap H locs → lv_has ls 4 [(0, .ref h0), (1, .int b), (2, .int (bz k)), (3, .int (nI i))] → W p l e ({ frames := 1, cells := 0, slots := 0, locals := 20 } : Room) s m ([.ref h0, .int b, .int (bz k)] : List Value).toArray below meth c H locs 0 0 (MQ below (gQ D cls10 A (fun v w' => ((b < 0 ∨ 12 < b) ∧ v = some (.long (fl 2)) ∧ w' = w) ∨ (¬ (b < 0 ∨ 12 < b) ∧ v = some (.long b.toInt64) ∧ w' = va_up (va_up w h1 (some (.inl (cs 7, 12, .inr (.inr (.inr (.inr (fun _ => none)))))))) h0 (some (.inr (3, [.ref h1, .int b, .int (bz k)])))))) ([.ref h0, .int b, .int (bz k)] : List Value).toArray s 0 0 A) (F0 m 17 ls []) := by
    intro hsz9 n9
    induction n9 with
    | zero =>
      intro i hi H locs ls hF hS hl
      refine lv_iload_n hx hb dX3_make_17 rfl (lv_at hl 3 rfl) ?_
      refine lv_bipush (v := 12) hx hb dX3_make_18 (by decide) ?_
      refine lv_icmp_ge (tgt := 36) hx hb dX3_make_20 (by decide) (fun c20_1 => ?_) (fun c20_1 => ?_)
      · have hF := hF.arq (g := fun _ => none) (fun j hj => if_pos (by omega))
        refine lv_aload_n hx hb dX3_make_36 rfl (lv_at hl 0 rfl) ?_
        refine lv_iload_n hx hb dX3_make_37 rfl (lv_at hl 1 rfl) ?_
        refine fw_put X gC_ok hF hS ((va_up_ne _ _ (gx_neA h g)).trans h) rfl 1 (by decide) wm_135 rfl (tf := .int) (by decide +kernel) rfl rfl (Nat.le_of_ble_eq_true rfl) dX3_make_38 (fun H locs hF hS => ?_)
        have hF : fw_P D cls10 A (va_up (va_up w h1 (some (.inl (cs 7, 12, .inr (.inr (.inr (.inr (fun _ => none)))))))) h0 (some (.inr (3, [.ref h1, .int b, .int (bz di)])))) H := hF
        refine lv_aload_n hx hb dX3_make_41 rfl (lv_at hl 0 rfl) ?_
        refine lv_iload_n hx hb dX3_make_42 rfl (lv_at hl 2 rfl) ?_
        refine fw_put X gC_ok hF hS (va_up_self _ _ _) rfl 2 (by decide) wm_137 rfl (tf := .boolean) (by decide +kernel) (gx_nbz _) (gx_fbz _) (Nat.le_of_ble_eq_true rfl) dX3_make_43 (fun H locs hF hS => ?_)
        rw [bx_uu] at hF
        have hF : fw_P D cls10 A (va_up (va_up w h1 (some (.inl (cs 7, 12, .inr (.inr (.inr (.inr (fun _ => none)))))))) h0 (some (.inr (3, [.ref h1, .int b, .int (bz k)])))) H := hF
        refine lv_iload_n hx hb dX3_make_46 rfl (lv_at hl 1 rfl) ?_
        refine lv_i2l hx hb dX3_make_47 rfl ?_
        refine fw_lret X hF hS ?_ (Nat.le_of_ble_eq_true rfl) (Nat.le_of_ble_eq_true rfl) dX3_make_48
        exact Or.inr ⟨hsz9, rfl, rfl⟩
      · exact absurd (show nI 12 ≤ nI i from nI_le (by omega) (by omega)) c20_1
    | succ n9 ih =>
      intro i hi H locs ls hF hS hl
      refine lv_iload_n hx hb dX3_make_17 rfl (lv_at hl 3 rfl) ?_
      refine lv_bipush (v := 12) hx hb dX3_make_18 (by decide) ?_
      refine lv_icmp_ge (tgt := 36) hx hb dX3_make_20 (by decide) (fun c20_1 => ?_) (fun c20_1 => ?_)
      · exact absurd (show nI 12 ≤ nI i from c20_1) (nI_ge (by omega) (by decide))
      · refine lv_aload_n hx hb dX3_make_23 rfl (lv_at hl 0 rfl) ?_
        refine fw_get X gC_ok hF ((va_up_ne _ _ (gx_neA h g)).trans h) rfl 0 (by decide) wm_134 rfl dX3_make_24 ?_
        refine lv_iload_n hx hb dX3_make_27 rfl (lv_at hl 3 rfl) ?_
        refine lv_null hx hb dX3_make_28 ?_
        refine fw_astqN X hF hS (va_up_self _ _ _) 7 rfl (vp_in_nI (by omega) (by decide)) dX3_make_29 (fun H locs hF hS => ?_)
        rw [show (nI i).toNatClampNeg = i from nI_clamp (by omega)] at hF
        rw [bx_uu, none_step] at hF
        refine lv_iinc (v := nI (i + 1)) (lv' := [(3, .int (nI (i + 1))), (0, .ref h0), (1, .int b), (2, .int (bz k))]) hx hb dX3_make_30 hl (k := 3) rfl (nI_1 i) (by decide) rfl (fun ls hl => ?_)
        refine lv_goto (tgt := 17) hx hb dX3_make_33 (by decide) ?_
        exact ih (i + 1) (by omega) H locs ls hF hS (lv_sub hl [1, 2, 3, 0] rfl)
  have hl : lv_has ls 4 [(0, .ref h0), (1, .int b), (2, .int (bz k))] := hl
  refine lv_iload_n hx hb dX3_make_0 rfl (lv_at hl 1 rfl) ?_
  refine lv_if_lt (tgt := 10) hx hb dX3_make_1 (by decide) (fun c1_1 => ?_) (fun c1_1 => ?_)
  · refine lv_iconst (v := 2) hx hb dX3_make_10 (by decide) ?_
    refine fw_callSN (As := [.int 2]) (rest := []) X bs_all nw_all mf_X8_failure (c_X8_failure l D cs _ _ 2) nm_292 wm_233 hF hS rfl ((⟨⟨Nat.le_of_ble_eq_true rfl, Nat.le_of_ble_eq_true rfl⟩, Nat.le_of_ble_eq_true rfl, Nat.le_of_ble_eq_true rfl⟩)) rfl hl.1 rfl (Nat.le_of_ble_eq_true rfl) dX3_make_11 (fun v u2 H locs hp hF hS hz1 hk1 hd1 => ?_)
    obtain ⟨rfl, hw1⟩ := hp
    rw [hw1] at hF
    refine W.eq (g2 := F0 m 14 ls [.long (fl 2)]) rfl ?_
    refine fw_lret X hF hS ?_ (Nat.le_of_ble_eq_true rfl) (Nat.le_of_ble_eq_true rfl) dX3_make_14
    exact Or.inl ⟨Or.inl c1_1, rfl, rfl⟩
  · refine lv_iload_n hx hb dX3_make_4 rfl (lv_at hl 1 rfl) ?_
    refine lv_bipush (v := 12) hx hb dX3_make_5 (by decide) ?_
    refine lv_icmp_le (tgt := 15) hx hb dX3_make_7 (by decide) (fun c7_3 => ?_) (fun c7_3 => ?_)
    · refine lv_iconst (v := 0) hx hb dX3_make_15 (by decide) ?_
      refine lv_istore_n (lv' := [(3, .int 0), (0, .ref h0), (1, .int b), (2, .int (bz k))]) hx hb dX3_make_16 rfl hl (by decide) rfl (fun ls hl => ?_)
      refine loop (fun q => q.elim c1_1 (fun z => i_nlt.mpr c7_3 z)) 12 0 (by omega) _ _ ls ?_ hS (lv_sub hl [1, 2, 3, 0] rfl)
      rw [gx_upid (by simpa using g)]
      exact hF
    · refine lv_iconst (v := 2) hx hb dX3_make_10 (by decide) ?_
      refine fw_callSN (As := [.int 2]) (rest := []) X bs_all nw_all mf_X8_failure (c_X8_failure l D cs _ _ 2) nm_292 wm_233 hF hS rfl ((⟨⟨Nat.le_of_ble_eq_true rfl, Nat.le_of_ble_eq_true rfl⟩, Nat.le_of_ble_eq_true rfl, Nat.le_of_ble_eq_true rfl⟩)) rfl hl.1 rfl (Nat.le_of_ble_eq_true rfl) dX3_make_11 (fun v u4 H locs hp hF hS hz1 hk1 hd1 => ?_)
      obtain ⟨rfl, hw1⟩ := hp
      rw [hw1] at hF
      refine W.eq (g2 := F0 m 14 ls [.long (fl 2)]) rfl ?_
      refine fw_lret X hF hS ?_ (Nat.le_of_ble_eq_true rfl) (Nat.le_of_ble_eq_true rfl) dX3_make_14
      exact Or.inl ⟨Or.inr (i_nle.mp c7_3), rfl, rfl⟩
set_option maxHeartbeats 4000000 in
set_option maxRecDepth 100000 in
theorem c_X3_hang (l : Launch) (D : va_G) (cs : Nat → ClassId) (w : fW) (sz : Nat) (h0 h1 : Nat) (n : Int32) (di : Bool) (f : Nat → Option Nat) (h : w h0 = some (.inr (3, [.ref h1, .int n, .int (bz di)]))) (g : w h1 = some (.inl (cs 7, 12, .inr (.inr (.inr (.inr f)))))) (t0 : Nat) (bk : Bool) (fr : Int32) (fo re : Option Nat) (la ch : Int32) (ht : w t0 = some (cSt (bk, fr, fo, re, la, ch))) (W9 : Nat → aWh) (hfo : ∀ q, fo = some q → w q = some (cWh (W9 q))) (i : Int32) (hn : n ≤ 12) : gM l bs_B nw_B D cls10 (tyl cs) yX3_hang cX3_hang 4 (some .long) 1 21 0 0 w sz [.ref h0, .int i, .ref t0] (fun v w' => ((n = -1 ∨ bk = false) ∧ v = some (.long (fl 1)) ∧ w' = w) ∨ (¬ (n = -1 ∨ bk = false) ∧ wi i n = false ∧ v = some (.long (fl 3)) ∧ w' = w) ∨ (¬ (n = -1 ∨ bk = false) ∧ wi i n = true ∧ (di = true ∧ ∃ q, fo = some q ∧ (W9 q).2.1 = false) ∧ v = some (.long (fl 4)) ∧ w' = w) ∨ (¬ (n = -1 ∨ bk = false) ∧ wi i n = true ∧ ¬ (di = true ∧ ∃ q, fo = some q ∧ (W9 q).2.1 = false) ∧ v = some (.long 1) ∧ w' = va_up w h1 (some (.inl (cs 7, 12, .inr (.inr (.inr (.inr (va_up f (ix i) fo))))))))) := by
  refine gM.of (by decide +kernel) (Nat.le_of_ble_eq_true rfl) (fun p e s m below meth c A ls X hsz hnm hF hS hl => ?_)
  have hx := X.1
  have hb := X.2.1
  have hl : lv_has ls 4 [(0, .ref h0), (1, .int i), (2, .ref t0)] := hl
  have h : w h0 = some (.inr (3, [.ref h1, .int n, .int (bz di)])) := h
  have g : w h1 = some (.inl (cs 7, 12, .inr (.inr (.inr (.inr f))))) := g
  have ht : w t0 = some (.inr (5, [.int (bz bk), .int fr, va_rf fo, va_rf re, .int la, .int ch])) := ht
  refine lv_aload_n hx hb dX3_hang_0 rfl (lv_at hl 0 rfl) ?_
  refine fw_get X gC_ok hF h rfl 1 (by decide) wm_135 rfl dX3_hang_1 ?_
  refine lv_iconst (v := (-1)) hx hb dX3_hang_4 (by decide) ?_
  refine lv_icmp_eq (tgt := 15) hx hb dX3_hang_5 (by decide) (fun c5_1 => ?_) (fun c5_1 => ?_)
  · refine lv_iconst (v := 1) hx hb dX3_hang_15 (by decide) ?_
    refine fw_callSN (As := [.int 1]) (rest := []) X bs_all nw_all mf_X8_failure (c_X8_failure l D cs _ _ 1) nm_292 wm_233 hF hS rfl ((⟨⟨Nat.le_of_ble_eq_true rfl, Nat.le_of_ble_eq_true rfl⟩, Nat.le_of_ble_eq_true rfl, Nat.le_of_ble_eq_true rfl⟩)) rfl hl.1 rfl (Nat.le_of_ble_eq_true rfl) dX3_hang_16 (fun v u2 H locs hp hF hS hz1 hk1 hd1 => ?_)
    obtain ⟨rfl, hw1⟩ := hp
    rw [hw1] at hF
    refine W.eq (g2 := F0 m 19 ls [.long (fl 1)]) rfl ?_
    refine fw_lret X hF hS ?_ (Nat.le_of_ble_eq_true rfl) (Nat.le_of_ble_eq_true rfl) dX3_hang_19
    exact Or.inl ⟨Or.inl c5_1, rfl, rfl⟩
  · refine lv_aload_n hx hb dX3_hang_8 rfl (lv_at hl 2 rfl) ?_
    refine fw_get X gC_ok hF ht rfl 0 (by decide) wm_92 rfl dX3_hang_9 ?_
    refine gx_ifne (tgt := 20) hx hb dX3_hang_12 (by decide) (fun c12_3 => ?_) (fun c12_3 => ?_)
    · refine lv_iload_n hx hb dX3_hang_20 rfl (lv_at hl 1 rfl) ?_
      refine lv_aload_n hx hb dX3_hang_21 rfl (lv_at hl 0 rfl) ?_
      refine fw_get X gC_ok hF h rfl 1 (by decide) wm_135 rfl dX3_hang_22 ?_
      refine fw_callSN (As := [.int i, .int n]) (rest := []) X bs_all nw_all mf_X8_isWithin (c_X8_isWithin l D cs _ _ i n) nm_329 wm_209 hF hS rfl ((⟨⟨Nat.le_of_ble_eq_true rfl, Nat.le_of_ble_eq_true rfl⟩, Nat.le_of_ble_eq_true rfl, Nat.le_of_ble_eq_true rfl⟩)) rfl hl.1 rfl (Nat.le_of_ble_eq_true rfl) dX3_hang_25 (fun v u4 H locs hp hF hS hz1 hk1 hd1 => ?_)
      obtain ⟨rfl, hw1⟩ := hp
      rw [hw1] at hF
      refine W.eq (g2 := F0 m 28 ls [.int (bz (wi i n))]) rfl ?_
      refine gx_ifne (tgt := 36) hx hb dX3_hang_28 (by decide) (fun c28_5 => ?_) (fun c28_5 => ?_)
      · refine lv_aload_n hx hb dX3_hang_36 rfl (lv_at hl 2 rfl) ?_
        refine fw_get X gC_ok hF ht rfl 2 (by decide) wm_95 rfl dX3_hang_37 ?_
        refine gx_astore_nq (i := 3) (lv' := [(3, va_rf fo), (0, .ref h0), (1, .int i), (2, .ref t0)]) hx hb dX3_hang_40 rfl hl (by decide) (by simp [gx_cat, Value.category]) (fun ls hl => ?_)
        refine lv_aload_n hx hb dX3_hang_41 rfl (lv_at hl 1 rfl) ?_
        refine fw_get X gC_ok hF h rfl 2 (by decide) wm_137 rfl dX3_hang_42 ?_
        refine gx_ifeq (tgt := 64) hx hb dX3_hang_45 (by decide) (fun c45_6 => ?_) (fun c45_6 => ?_)
        · refine lv_aload_n hx hb dX3_hang_64 rfl (lv_at hl 1 rfl) ?_
          refine fw_get X gC_ok hF h rfl 0 (by decide) wm_134 rfl dX3_hang_65 ?_
          refine lv_iload_n hx hb dX3_hang_68 rfl (lv_at hl 2 rfl) ?_
          refine gx_aload_nq hx hb dX3_hang_69 rfl (lv_at hl 0 rfl) ?_
          refine fw_astqQ X hF hS g 7 rfl (fun q hq => ⟨_, hfo q hq⟩) rfl (wi_in (wi_le c28_5 hn) (N := 12) (by decide)) dX3_hang_70 (fun H locs hF hS => ?_)
          have hF : fw_P D cls10 A (va_up w h1 (some (.inl (cs 7, 12, .inr (.inr (.inr (.inr (va_up f (ix i) fo)))))))) H := hF
          refine lv_lconst (v := 1) hx hb dX3_hang_71 (by decide) ?_
          refine fw_lret X hF hS ?_ (Nat.le_of_ble_eq_true rfl) (Nat.le_of_ble_eq_true rfl) dX3_hang_72
          exact Or.inr (Or.inr (Or.inr ⟨(fun q => q.elim c5_1 (fun z => by rw [c12_3] at z; cases z)), c28_5, (fun z => by rw [c45_6] at z; cases z.1), rfl, rfl⟩))
        · refine gx_aload_nq hx hb dX3_hang_48 rfl (lv_at hl 0 rfl) ?_
          refine gx_ifnull (tgt := 64) hx hb dX3_hang_49 (by decide) (fun hq7 => ?_) (fun q7 hq7 => ?_)
          · subst hq7
            have ht : w t0 = some (.inr (5, [.int (bz bk), .int fr, .null, va_rf re, .int la, .int ch])) := ht
            have hl : lv_has ls 4 [(3, .null), (0, .ref h0), (1, .int i), (2, .ref t0)] := hl
            refine lv_aload_n hx hb dX3_hang_64 rfl (lv_at hl 1 rfl) ?_
            refine fw_get X gC_ok hF h rfl 0 (by decide) wm_134 rfl dX3_hang_65 ?_
            refine lv_iload_n hx hb dX3_hang_68 rfl (lv_at hl 2 rfl) ?_
            refine lv_aload_nN hx hb dX3_hang_69 rfl (lv_at hl 0 rfl) ?_
            refine fw_astqN X hF hS g 7 rfl (wi_in (wi_le c28_5 hn) (N := 12) (by decide)) dX3_hang_70 (fun H locs hF hS => ?_)
            have hF : fw_P D cls10 A (va_up w h1 (some (.inl (cs 7, 12, .inr (.inr (.inr (.inr (va_up f (ix i) none)))))))) H := hF
            refine lv_lconst (v := 1) hx hb dX3_hang_71 (by decide) ?_
            refine fw_lret X hF hS ?_ (Nat.le_of_ble_eq_true rfl) (Nat.le_of_ble_eq_true rfl) dX3_hang_72
            exact Or.inr (Or.inr (Or.inr ⟨(fun q => q.elim c5_1 (fun z => by rw [c12_3] at z; cases z)), c28_5, (fun z => by obtain ⟨-, q, e1, -⟩ := z; cases e1), rfl, rfl⟩))
          · subst hq7
            have ht : w t0 = some (.inr (5, [.int (bz bk), .int fr, .ref q7, va_rf re, .int la, .int ch])) := ht
            have hl : lv_has ls 4 [(3, .ref q7), (0, .ref h0), (1, .int i), (2, .ref t0)] := hl
            refine lv_aload_n hx hb dX3_hang_52 rfl (lv_at hl 0 rfl) ?_
            refine fw_get X gC_ok hF (hfo _ rfl) rfl 1 (by decide) wm_245 rfl dX3_hang_53 ?_
            refine gx_ifne (tgt := 64) hx hb dX3_hang_56 (by decide) (fun c56_8 => ?_) (fun c56_8 => ?_)
            · refine lv_aload_n hx hb dX3_hang_64 rfl (lv_at hl 1 rfl) ?_
              refine fw_get X gC_ok hF h rfl 0 (by decide) wm_134 rfl dX3_hang_65 ?_
              refine lv_iload_n hx hb dX3_hang_68 rfl (lv_at hl 2 rfl) ?_
              refine lv_aload_n hx hb dX3_hang_69 rfl (lv_at hl 0 rfl) ?_
              refine fw_astq X hF hS g 7 rfl (hfo _ rfl) rfl (wi_in (wi_le c28_5 hn) (N := 12) (by decide)) dX3_hang_70 (fun H locs hF hS => ?_)
              have hF : fw_P D cls10 A (va_up w h1 (some (.inl (cs 7, 12, .inr (.inr (.inr (.inr (va_up f (ix i) (some q7))))))))) H := hF
              refine lv_lconst (v := 1) hx hb dX3_hang_71 (by decide) ?_
              refine fw_lret X hF hS ?_ (Nat.le_of_ble_eq_true rfl) (Nat.le_of_ble_eq_true rfl) dX3_hang_72
              exact Or.inr (Or.inr (Or.inr ⟨(fun q => q.elim c5_1 (fun z => by rw [c12_3] at z; cases z)), c28_5, (fun z => by obtain ⟨-, q, e1, e2⟩ := z; cases e1; rw [c56_8] at e2; cases e2), rfl, rfl⟩))
            · refine lv_iconst (v := 4) hx hb dX3_hang_59 (by decide) ?_
              refine fw_callSN (As := [.int 4]) (rest := []) X bs_all nw_all mf_X8_failure (c_X8_failure l D cs _ _ 4) nm_292 wm_233 hF hS rfl ((⟨⟨Nat.le_of_ble_eq_true rfl, Nat.le_of_ble_eq_true rfl⟩, Nat.le_of_ble_eq_true rfl, Nat.le_of_ble_eq_true rfl⟩)) rfl hl.1 rfl (Nat.le_of_ble_eq_true rfl) dX3_hang_60 (fun v u9 H locs hp hF hS hz1 hk1 hd1 => ?_)
              obtain ⟨rfl, hw1⟩ := hp
              rw [hw1] at hF
              refine W.eq (g2 := F0 m 63 ls [.long (fl 4)]) rfl ?_
              refine fw_lret X hF hS ?_ (Nat.le_of_ble_eq_true rfl) (Nat.le_of_ble_eq_true rfl) dX3_hang_63
              exact Or.inr (Or.inr (Or.inl ⟨(fun q => q.elim c5_1 (fun z => by rw [c12_3] at z; cases z)), c28_5, ⟨c45_6, q7, rfl, c56_8⟩, rfl, rfl⟩))
      · refine lv_iconst (v := 3) hx hb dX3_hang_31 (by decide) ?_
        refine fw_callSN (As := [.int 3]) (rest := []) X bs_all nw_all mf_X8_failure (c_X8_failure l D cs _ _ 3) nm_292 wm_233 hF hS rfl ((⟨⟨Nat.le_of_ble_eq_true rfl, Nat.le_of_ble_eq_true rfl⟩, Nat.le_of_ble_eq_true rfl, Nat.le_of_ble_eq_true rfl⟩)) rfl hl.1 rfl (Nat.le_of_ble_eq_true rfl) dX3_hang_32 (fun v u10 H locs hp hF hS hz1 hk1 hd1 => ?_)
        obtain ⟨rfl, hw1⟩ := hp
        rw [hw1] at hF
        refine W.eq (g2 := F0 m 35 ls [.long (fl 3)]) rfl ?_
        refine fw_lret X hF hS ?_ (Nat.le_of_ble_eq_true rfl) (Nat.le_of_ble_eq_true rfl) dX3_hang_35
        exact Or.inr (Or.inl ⟨(fun q => q.elim c5_1 (fun z => by rw [c12_3] at z; cases z)), c28_5, rfl, rfl⟩)
    · refine lv_iconst (v := 1) hx hb dX3_hang_15 (by decide) ?_
      refine fw_callSN (As := [.int 1]) (rest := []) X bs_all nw_all mf_X8_failure (c_X8_failure l D cs _ _ 1) nm_292 wm_233 hF hS rfl ((⟨⟨Nat.le_of_ble_eq_true rfl, Nat.le_of_ble_eq_true rfl⟩, Nat.le_of_ble_eq_true rfl, Nat.le_of_ble_eq_true rfl⟩)) rfl hl.1 rfl (Nat.le_of_ble_eq_true rfl) dX3_hang_16 (fun v u11 H locs hp hF hS hz1 hk1 hd1 => ?_)
      obtain ⟨rfl, hw1⟩ := hp
      rw [hw1] at hF
      refine W.eq (g2 := F0 m 19 ls [.long (fl 1)]) rfl ?_
      refine fw_lret X hF hS ?_ (Nat.le_of_ble_eq_true rfl) (Nat.le_of_ble_eq_true rfl) dX3_hang_19
      exact Or.inl ⟨Or.inr c12_3, rfl, rfl⟩
set_option maxHeartbeats 4000000 in
set_option maxRecDepth 100000 in
theorem c_X3_balance (l : Launch) (D : va_G) (cs : Nat → ClassId) (w : fW) (sz : Nat) (h0 h1 : Nat) (n : Int32) (di : Bool) (f : Nat → Option Nat) (h : w h0 = some (.inr (3, [.ref h1, .int n, .int (bz di)]))) (g : w h1 = some (.inl (cs 7, 12, .inr (.inr (.inr (.inr f)))))) (i : Int32) (W9 : Nat → aWh) (hpl : wi i n = true → ∀ q, f (ix i) = some q → w q = some (cWh (W9 q))) (hn : n ≤ 12) : gM l bs_B nw_B D cls10 (tyl cs) yX3_balance cX3_balance 3 (some .long) 1 21 0 0 w sz [.ref h0, .int i] (fun v w' => (n = -1 ∧ v = some (.long (fl 1)) ∧ w' = w) ∨ (¬ n = -1 ∧ wi i n = false ∧ v = some (.long (fl 3)) ∧ w' = w) ∨ (¬ n = -1 ∧ wi i n = true ∧ f (ix i) = none ∧ v = some (.long (fl 1)) ∧ w' = w) ∨ (¬ n = -1 ∧ wi i n = true ∧ ∃ q, f (ix i) = some q ∧ (W9 q).2.1 = false ∧ v = some (.long (fl 5)) ∧ w' = w) ∨ (¬ n = -1 ∧ wi i n = true ∧ ∃ q, f (ix i) = some q ∧ (W9 q).2.1 = true ∧ v = some (.long (1000 + (W9 q).1).toInt64) ∧ w' = va_up w q (some (cWh ((W9 q).1, (W9 q).2.1, 0))))) := by
  refine gM.of (by decide +kernel) (Nat.le_of_ble_eq_true rfl) (fun p e s m below meth c A ls X hsz hnm hF hS hl => ?_)
  have hx := X.1
  have hb := X.2.1
  have hl : lv_has ls 3 [(0, .ref h0), (1, .int i)] := hl
  have h : w h0 = some (.inr (3, [.ref h1, .int n, .int (bz di)])) := h
  have g : w h1 = some (.inl (cs 7, 12, .inr (.inr (.inr (.inr f))))) := g
  refine lv_aload_n hx hb dX3_balance_0 rfl (lv_at hl 0 rfl) ?_
  refine fw_get X gC_ok hF h rfl 1 (by decide) wm_135 rfl dX3_balance_1 ?_
  refine lv_iconst (v := (-1)) hx hb dX3_balance_4 (by decide) ?_
  refine lv_icmp_ne (tgt := 13) hx hb dX3_balance_5 (by decide) (fun c5_1 => ?_) (fun c5_1 => ?_)
  · refine lv_iload_n hx hb dX3_balance_13 rfl (lv_at hl 1 rfl) ?_
    refine lv_aload_n hx hb dX3_balance_14 rfl (lv_at hl 0 rfl) ?_
    refine fw_get X gC_ok hF h rfl 1 (by decide) wm_135 rfl dX3_balance_15 ?_
    refine fw_callSN (As := [.int i, .int n]) (rest := []) X bs_all nw_all mf_X8_isWithin (c_X8_isWithin l D cs _ _ i n) nm_329 wm_209 hF hS rfl ((⟨⟨Nat.le_of_ble_eq_true rfl, Nat.le_of_ble_eq_true rfl⟩, Nat.le_of_ble_eq_true rfl, Nat.le_of_ble_eq_true rfl⟩)) rfl hl.1 rfl (Nat.le_of_ble_eq_true rfl) dX3_balance_18 (fun v u2 H locs hp hF hS hz1 hk1 hd1 => ?_)
    obtain ⟨rfl, hw1⟩ := hp
    rw [hw1] at hF
    refine W.eq (g2 := F0 m 21 ls [.int (bz (wi i n))]) rfl ?_
    refine gx_ifne (tgt := 29) hx hb dX3_balance_21 (by decide) (fun c21_3 => ?_) (fun c21_3 => ?_)
    · refine lv_aload_n hx hb dX3_balance_29 rfl (lv_at hl 0 rfl) ?_
      refine fw_get X gC_ok hF h rfl 0 (by decide) wm_134 rfl dX3_balance_30 ?_
      refine lv_iload_n hx hb dX3_balance_33 rfl (lv_at hl 1 rfl) ?_
      refine fw_aldq X hF g 7 rfl (wi_in (wi_le c21_3 hn) (N := 12) (by decide)) (v := f (ix i)) rfl dX3_balance_34 ?_
      refine gx_astore_nq (i := 2) (lv' := [(2, va_rf (f (ix i))), (0, .ref h0), (1, .int i)]) hx hb dX3_balance_35 rfl hl (by decide) (by simp [gx_cat, Value.category]) (fun ls hl => ?_)
      refine gx_aload_nq hx hb dX3_balance_36 rfl (lv_at hl 0 rfl) ?_
      refine gx_ifnonnull (tgt := 45) hx hb dX3_balance_37 (by decide) (fun hq4 => ?_) (fun q4 hq4 => ?_)
      · have hl : lv_has ls 3 [(2, .null), (0, .ref h0), (1, .int i)] := by rw [hq4] at hl; exact hl
        refine lv_iconst (v := 1) hx hb dX3_balance_40 (by decide) ?_
        refine fw_callSN (As := [.int 1]) (rest := []) X bs_all nw_all mf_X8_failure (c_X8_failure l D cs _ _ 1) nm_292 wm_233 hF hS rfl ((⟨⟨Nat.le_of_ble_eq_true rfl, Nat.le_of_ble_eq_true rfl⟩, Nat.le_of_ble_eq_true rfl, Nat.le_of_ble_eq_true rfl⟩)) rfl hl.1 rfl (Nat.le_of_ble_eq_true rfl) dX3_balance_41 (fun v u5 H locs hp hF hS hz1 hk1 hd1 => ?_)
        obtain ⟨rfl, hw1⟩ := hp
        rw [hw1] at hF
        refine W.eq (g2 := F0 m 44 ls [.long (fl 1)]) rfl ?_
        refine fw_lret X hF hS ?_ (Nat.le_of_ble_eq_true rfl) (Nat.le_of_ble_eq_true rfl) dX3_balance_44
        exact Or.inr (Or.inr (Or.inl ⟨c5_1, c21_3, hq4, rfl, rfl⟩))
      · have hl : lv_has ls 3 [(2, .ref q4), (0, .ref h0), (1, .int i)] := by rw [hq4] at hl; exact hl
        refine lv_aload_n hx hb dX3_balance_45 rfl (lv_at hl 0 rfl) ?_
        refine fw_get X gC_ok hF ((hpl c21_3) q4 hq4) rfl 1 (by decide) wm_245 rfl dX3_balance_46 ?_
        refine gx_ifne (tgt := 57) hx hb dX3_balance_49 (by decide) (fun c49_6 => ?_) (fun c49_6 => ?_)
        · refine lv_aload_n hx hb dX3_balance_57 rfl (lv_at hl 0 rfl) ?_
          refine lv_iconst (v := 0) hx hb dX3_balance_58 (by decide) ?_
          refine fw_put X gC_ok hF hS ((hpl c21_3) q4 hq4) rfl 2 (by decide) wm_247 rfl (tf := .int) (by decide +kernel) rfl rfl (Nat.le_of_ble_eq_true rfl) dX3_balance_59 (fun H locs hF hS => ?_)
          have hF : fw_P D cls10 A (va_up w q4 (some (.inr (7, [.int ((W9 q4).1), .int (bz (W9 q4).2.1), .int 0])))) H := hF
          refine lv_aload_n hx hb dX3_balance_62 rfl (lv_at hl 0 rfl) ?_
          refine fw_callV (As := []) (rest := []) X bs_all nw_all mf_X7_label (c_X7_label l D cs _ _ q4 ((W9 q4).1) 0 ((W9 q4).2.1) (va_up_self _ _ _)) wm_334 wm_335 wm_336 hF hS rfl (va_up_self _ _ _) rfl rfl ((⟨⟨Nat.le_of_ble_eq_true rfl, Nat.le_of_ble_eq_true rfl⟩, Nat.le_of_ble_eq_true rfl, Nat.le_of_ble_eq_true rfl⟩)) rfl hl.1 rfl (Nat.le_of_ble_eq_true rfl) dX3_balance_63 (fun v u7 H locs hp hF hS hz1 hk1 hd1 => ?_)
          obtain ⟨rfl, hw1⟩ := hp
          rw [hw1] at hF
          refine W.eq (g2 := F0 m 66 ls [.int (whL ((W9 q4).1, (W9 q4).2.1, 0))]) rfl ?_
          refine lv_i2l hx hb dX3_balance_66 rfl ?_
          refine fw_lret X hF hS ?_ (Nat.le_of_ble_eq_true rfl) (Nat.le_of_ble_eq_true rfl) dX3_balance_67
          refine Or.inr (Or.inr (Or.inr (Or.inr ⟨c5_1, c21_3, q4, hq4, c49_6, ?_, rfl⟩)))
          simp [whL, c49_6]
        · refine lv_iconst (v := 5) hx hb dX3_balance_52 (by decide) ?_
          refine fw_callSN (As := [.int 5]) (rest := []) X bs_all nw_all mf_X8_failure (c_X8_failure l D cs _ _ 5) nm_292 wm_233 hF hS rfl ((⟨⟨Nat.le_of_ble_eq_true rfl, Nat.le_of_ble_eq_true rfl⟩, Nat.le_of_ble_eq_true rfl, Nat.le_of_ble_eq_true rfl⟩)) rfl hl.1 rfl (Nat.le_of_ble_eq_true rfl) dX3_balance_53 (fun v u8 H locs hp hF hS hz1 hk1 hd1 => ?_)
          obtain ⟨rfl, hw1⟩ := hp
          rw [hw1] at hF
          refine W.eq (g2 := F0 m 56 ls [.long (fl 5)]) rfl ?_
          refine fw_lret X hF hS ?_ (Nat.le_of_ble_eq_true rfl) (Nat.le_of_ble_eq_true rfl) dX3_balance_56
          exact Or.inr (Or.inr (Or.inr (Or.inl ⟨c5_1, c21_3, q4, hq4, c49_6, rfl, rfl⟩)))
    · refine lv_iconst (v := 3) hx hb dX3_balance_24 (by decide) ?_
      refine fw_callSN (As := [.int 3]) (rest := []) X bs_all nw_all mf_X8_failure (c_X8_failure l D cs _ _ 3) nm_292 wm_233 hF hS rfl ((⟨⟨Nat.le_of_ble_eq_true rfl, Nat.le_of_ble_eq_true rfl⟩, Nat.le_of_ble_eq_true rfl, Nat.le_of_ble_eq_true rfl⟩)) rfl hl.1 rfl (Nat.le_of_ble_eq_true rfl) dX3_balance_25 (fun v u9 H locs hp hF hS hz1 hk1 hd1 => ?_)
      obtain ⟨rfl, hw1⟩ := hp
      rw [hw1] at hF
      refine W.eq (g2 := F0 m 28 ls [.long (fl 3)]) rfl ?_
      refine fw_lret X hF hS ?_ (Nat.le_of_ble_eq_true rfl) (Nat.le_of_ble_eq_true rfl) dX3_balance_28
      exact Or.inr (Or.inl ⟨c5_1, c21_3, rfl, rfl⟩)
  · refine lv_iconst (v := 1) hx hb dX3_balance_8 (by decide) ?_
    refine fw_callSN (As := [.int 1]) (rest := []) X bs_all nw_all mf_X8_failure (c_X8_failure l D cs _ _ 1) nm_292 wm_233 hF hS rfl ((⟨⟨Nat.le_of_ble_eq_true rfl, Nat.le_of_ble_eq_true rfl⟩, Nat.le_of_ble_eq_true rfl, Nat.le_of_ble_eq_true rfl⟩)) rfl hl.1 rfl (Nat.le_of_ble_eq_true rfl) dX3_balance_9 (fun v u10 H locs hp hF hS hz1 hk1 hd1 => ?_)
    obtain ⟨rfl, hw1⟩ := hp
    rw [hw1] at hF
    refine W.eq (g2 := F0 m 12 ls [.long (fl 1)]) rfl ?_
    refine fw_lret X hF hS ?_ (Nat.le_of_ble_eq_true rfl) (Nat.le_of_ble_eq_true rfl) dX3_balance_12
    exact Or.inl ⟨c5_1, rfl, rfl⟩
set_option maxHeartbeats 4000000 in
set_option maxRecDepth 100000 in
theorem c_X3_wheelAt (l : Launch) (D : va_G) (cs : Nat → ClassId) (w : fW) (sz : Nat) (h0 h1 : Nat) (n : Int32) (di : Bool) (f : Nat → Option Nat) (h : w h0 = some (.inr (3, [.ref h1, .int n, .int (bz di)]))) (g : w h1 = some (.inl (cs 7, 12, .inr (.inr (.inr (.inr f)))))) (i : Int32) (hn : n ≤ 12) : gM l bs_B nw_B D cls10 (tyl cs) yX3_wheelAt cX3_wheelAt 2 (some (.object "CycleShop$Wheel")) 1 21 0 0 w sz [.ref h0, .int i] (fun v w' => v = some (va_rf (if wi i n = true then f (ix i) else none)) ∧ w' = w) := by
  refine gM.of (by decide +kernel) (Nat.le_of_ble_eq_true rfl) (fun p e s m below meth c A ls X hsz hnm hF hS hl => ?_)
  have hx := X.1
  have hb := X.2.1
  have hl : lv_has ls 2 [(0, .ref h0), (1, .int i)] := hl
  have h : w h0 = some (.inr (3, [.ref h1, .int n, .int (bz di)])) := h
  have g : w h1 = some (.inl (cs 7, 12, .inr (.inr (.inr (.inr f))))) := g
  refine lv_iload_n hx hb dX3_wheelAt_0 rfl (lv_at hl 1 rfl) ?_
  refine lv_aload_n hx hb dX3_wheelAt_1 rfl (lv_at hl 0 rfl) ?_
  refine fw_get X gC_ok hF h rfl 1 (by decide) wm_135 rfl dX3_wheelAt_2 ?_
  refine fw_callSN (As := [.int i, .int n]) (rest := []) X bs_all nw_all mf_X8_isWithin (c_X8_isWithin l D cs _ _ i n) nm_329 wm_209 hF hS rfl ((⟨⟨Nat.le_of_ble_eq_true rfl, Nat.le_of_ble_eq_true rfl⟩, Nat.le_of_ble_eq_true rfl, Nat.le_of_ble_eq_true rfl⟩)) rfl hl.1 rfl (Nat.le_of_ble_eq_true rfl) dX3_wheelAt_5 (fun v u1 H locs hp hF hS hz1 hk1 hd1 => ?_)
  obtain ⟨rfl, hw1⟩ := hp
  rw [hw1] at hF
  refine W.eq (g2 := F0 m 8 ls [.int (bz (wi i n))]) rfl ?_
  refine gx_ifeq (tgt := 20) hx hb dX3_wheelAt_8 (by decide) (fun c8_2 => ?_) (fun c8_2 => ?_)
  · refine lv_null hx hb dX3_wheelAt_20 ?_
    refine fw_aret (o := none) X hF hS ?_ (Nat.le_of_ble_eq_true rfl) (Nat.le_of_ble_eq_true rfl) dX3_wheelAt_21
    exact ⟨by simp [c8_2, va_rf], rfl⟩
  · refine lv_aload_n hx hb dX3_wheelAt_11 rfl (lv_at hl 0 rfl) ?_
    refine fw_get X gC_ok hF h rfl 0 (by decide) wm_134 rfl dX3_wheelAt_12 ?_
    refine lv_iload_n hx hb dX3_wheelAt_15 rfl (lv_at hl 1 rfl) ?_
    refine fw_aldq X hF g 7 rfl (wi_in (wi_le c8_2 hn) (N := 12) (by decide)) (v := f (ix i)) rfl dX3_wheelAt_16 ?_
    refine lv_goto (tgt := 21) hx hb dX3_wheelAt_17 (by decide) ?_
    refine fw_aret (o := f (ix i)) X hF hS ?_ (Nat.le_of_ble_eq_true rfl) (Nat.le_of_ble_eq_true rfl) dX3_wheelAt_21
    exact ⟨by simp [c8_2, va_rf], rfl⟩
set_option maxHeartbeats 4000000 in
set_option maxRecDepth 100000 in
theorem c_X2_init (l : Launch) (D : va_G) (cs : Nat → ClassId) (w : fW) (sz : Nat) (h0 : Nat) (h : w h0 = some (.inr (2, [.null, .int 0]))) : gM l bs_B nw_B D cls10 (tyl cs) yX2_init cX2_init 1 none 1 20 1 16 w sz [.ref h0] (fun v w' => v = none ∧ ∃ q, w q = none ∧ w' = va_up (va_up w q (some (.inl (cs 8, 16, .inr (.inr (.inr (.inr (fun _ => none)))))))) h0 (some (.inr (2, [.ref q, .int 0])))) := by
  refine gM.of (by decide +kernel) (Nat.le_of_ble_eq_true rfl) (fun p e s m below meth c A ls X hsz hnm hF hS hl => ?_)
  have hx := X.1
  have hb := X.2.1
  have hl : lv_has ls 1 [(0, .ref h0)] := hl
  have h : w h0 = some (.inr (2, [.null, .int 0])) := h
  refine lv_aload_n hx hb dX2_init_0 rfl (lv_at hl 0 rfl) ?_
  refine W.objInit hx hb X.2.2.2.1 (X.2.2.2.2.1 _ wm_165) (X.2.2.2.2.1 _ wm_42) (X.2.2.2.2.1 _ wm_43) rfl (by rw [X.2.2.1]; exact hl.1) rfl dX2_init_1 (Nat.le_of_ble_eq_true rfl) (Nat.le_of_ble_eq_true rfl) ?_
  refine W.eq (g2 := F0 m 4 ls []) rfl ?_
  refine lv_aload_n hx hb dX2_init_4 rfl (lv_at hl 0 rfl) ?_
  refine lv_bipush (v := 16) hx hb dX2_init_5 (by decide) ?_
  refine fw_newq X hF hS wm_166 nm_167 8 rfl (N' := 16) (by decide) (by decide) (by decide) (Nat.le_of_ble_eq_true rfl) (Nat.le_of_ble_eq_true rfl) dX2_init_7 (fun q1 H nq1 zq1 zzq1 hF hS => ?_)
  refine fw_putF X gC_ok hF hS ((va_up_ne _ _ (gx_ne h nq1)).trans h) rfl 0 (by decide) wm_168 rfl hnm rfl (tf := .array (.object "CycleShop$Step")) (by decide +kernel) rfl rfl (Nat.le_of_ble_eq_true rfl) dX2_init_10 (fun H locs hF hS => ?_)
  have hF : fw_P D cls10 A (va_up (va_up w q1 (some (.inl (cs 8, 16, .inr (.inr (.inr (.inr (fun _ => none)))))))) h0 (some (.inr (2, [.ref q1, .int 0])))) H := hF
  refine fw_vret X hF hS ?_ (Nat.le_of_ble_eq_true rfl) (Nat.le_of_ble_eq_true rfl) dX2_init_13
  exact ⟨rfl, _, nq1, rfl⟩
set_option maxHeartbeats 4000000 in
set_option maxRecDepth 100000 in
theorem c_X2_append (l : Launch) (D : va_G) (cs : Nat → ClassId) (w : fW) (sz : Nat) (h0 h1 : Nat) (n : Int32) (f : Nat → Option Nat) (h : w h0 = some (.inr (2, [.ref h1, .int n]))) (g : w h1 = some (.inl (cs 8, 16, .inr (.inr (.inr (.inr f)))))) (t0 : Nat) (s1 s2 s3 s4 s5 : Int32) (ht : w t0 = some (.inr (6, [.int s1, .int s2, .int s3, .int s4, .int s5]))) (hn0 : 0 ≤ n) : gM l bs_B nw_B D cls10 (tyl cs) yX2_append cX2_append 2 (some .int) 0 0 0 0 w sz [.ref h0, .ref t0] (fun v w' => (16 ≤ n ∧ v = some (.int (-3)) ∧ w' = w) ∨ (n < 16 ∧ v = some (.int n) ∧ w' = va_up (va_up w h1 (some (.inl (cs 8, 16, .inr (.inr (.inr (.inr (va_up f (ix n) (some t0))))))))) h0 (some (.inr (2, [.ref h1, .int (n + 1)]))))) := by
  refine gM.of (by decide +kernel) (Nat.le_of_ble_eq_true rfl) (fun p e s m below meth c A ls X hsz hnm hF hS hl => ?_)
  have hx := X.1
  have hb := X.2.1
  have hl : lv_has ls 2 [(0, .ref h0), (1, .ref t0)] := hl
  have h : w h0 = some (.inr (2, [.ref h1, .int n])) := h
  have g : w h1 = some (.inl (cs 8, 16, .inr (.inr (.inr (.inr f))))) := g
  have ht : w t0 = some (.inr (6, [.int s1, .int s2, .int s3, .int s4, .int s5])) := ht
  refine lv_aload_n hx hb dX2_append_0 rfl (lv_at hl 0 rfl) ?_
  refine fw_get X gC_ok hF h rfl 1 (by decide) wm_169 rfl dX2_append_1 ?_
  refine lv_bipush (v := 16) hx hb dX2_append_4 (by decide) ?_
  refine lv_icmp_lt (tgt := 12) hx hb dX2_append_6 (by decide) (fun c6_1 => ?_) (fun c6_1 => ?_)
  · refine lv_aload_n hx hb dX2_append_12 rfl (lv_at hl 0 rfl) ?_
    refine fw_get X gC_ok hF h rfl 0 (by decide) wm_168 rfl dX2_append_13 ?_
    refine lv_aload_n hx hb dX2_append_16 rfl (lv_at hl 0 rfl) ?_
    refine fw_get X gC_ok hF h rfl 1 (by decide) wm_169 rfl dX2_append_17 ?_
    refine lv_aload_n hx hb dX2_append_20 rfl (lv_at hl 1 rfl) ?_
    refine fw_astq X hF hS g 8 rfl ht rfl (wi_in (wi_t hn0 c6_1) (N := 16) (by decide)) dX2_append_21 (fun H locs hF hS => ?_)
    have hF : fw_P D cls10 A (va_up w h1 (some (.inl (cs 8, 16, .inr (.inr (.inr (.inr (va_up f (ix n) (some t0))))))))) H := hF
    refine lv_aload_n hx hb dX2_append_22 rfl (lv_at hl 0 rfl) ?_
    refine lv_dup hx hb dX2_append_23 rfl ?_
    refine fw_get X gC_ok hF ((va_up_ne _ _ (gx_neA h g)).trans h) rfl 1 (by decide) wm_169 rfl dX2_append_24 ?_
    refine lv_iconst (v := 1) hx hb dX2_append_27 (by decide) ?_
    refine lv_iadd hx hb dX2_append_28 ?_
    refine fw_put X gC_ok hF hS ((va_up_ne _ _ (gx_neA h g)).trans h) rfl 1 (by decide) wm_169 rfl (tf := .int) (by decide +kernel) rfl rfl (Nat.le_of_ble_eq_true rfl) dX2_append_29 (fun H locs hF hS => ?_)
    have hF : fw_P D cls10 A (va_up (va_up w h1 (some (.inl (cs 8, 16, .inr (.inr (.inr (.inr (va_up f (ix n) (some t0))))))))) h0 (some (.inr (2, [.ref h1, .int (n + 1)])))) H := hF
    refine lv_aload_n hx hb dX2_append_32 rfl (lv_at hl 0 rfl) ?_
    refine fw_get X gC_ok hF (va_up_self _ _ _) rfl 1 (by decide) wm_169 rfl dX2_append_33 ?_
    refine lv_iconst (v := 1) hx hb dX2_append_36 (by decide) ?_
    refine lv_isub hx hb dX2_append_37 ?_
    refine fw_iret X hF hS ?_ (Nat.le_of_ble_eq_true rfl) (Nat.le_of_ble_eq_true rfl) dX2_append_38
    exact Or.inr ⟨c6_1, congrArg (fun z => some (Value.int z)) (i_as n), rfl⟩
  · refine lv_bipush (v := (-3)) hx hb dX2_append_9 (by decide) ?_
    refine fw_iret X hF hS ?_ (Nat.le_of_ble_eq_true rfl) (Nat.le_of_ble_eq_true rfl) dX2_append_11
    exact Or.inl ⟨i_nlt.mp c6_1, rfl, rfl⟩
set_option maxHeartbeats 4000000 in
set_option maxRecDepth 100000 in
theorem c_X2_empty (l : Launch) (D : va_G) (cs : Nat → ClassId) (w : fW) (sz : Nat) (h0 h1 : Nat) (n : Int32) (f : Nat → Option Nat) (h : w h0 = some (.inr (2, [.ref h1, .int n]))) (g : w h1 = some (.inl (cs 8, 16, .inr (.inr (.inr (.inr f)))))) : gM l bs_B nw_B D cls10 (tyl cs) yX2_empty cX2_empty 2 (some .int) 0 0 0 0 w sz [.ref h0] (fun v w' => v = some (.int n) ∧ w' = va_up w h0 (some (.inr (2, [.ref h1, .int 0])))) := by
  refine gM.of (by decide +kernel) (Nat.le_of_ble_eq_true rfl) (fun p e s m below meth c A ls X hsz hnm hF hS hl => ?_)
  have hx := X.1
  have hb := X.2.1
  have hl : lv_has ls 2 [(0, .ref h0)] := hl
  have h : w h0 = some (.inr (2, [.ref h1, .int n])) := h
  have g : w h1 = some (.inl (cs 8, 16, .inr (.inr (.inr (.inr f))))) := g
  refine lv_aload_n hx hb dX2_empty_0 rfl (lv_at hl 0 rfl) ?_
  refine fw_get X gC_ok hF h rfl 1 (by decide) wm_169 rfl dX2_empty_1 ?_
  refine lv_istore_n (lv' := [(1, .int n), (0, .ref h0)]) hx hb dX2_empty_4 rfl hl (by decide) rfl (fun ls hl => ?_)
  refine lv_aload_n hx hb dX2_empty_5 rfl (lv_at hl 1 rfl) ?_
  refine lv_iconst (v := 0) hx hb dX2_empty_6 (by decide) ?_
  refine fw_put X gC_ok hF hS h rfl 1 (by decide) wm_169 rfl (tf := .int) (by decide +kernel) rfl rfl (Nat.le_of_ble_eq_true rfl) dX2_empty_7 (fun H locs hF hS => ?_)
  have hF : fw_P D cls10 A (va_up w h0 (some (.inr (2, [.ref h1, .int 0])))) H := hF
  refine lv_iload_n hx hb dX2_empty_10 rfl (lv_at hl 0 rfl) ?_
  refine fw_iret X hF hS ?_ (Nat.le_of_ble_eq_true rfl) (Nat.le_of_ble_eq_true rfl) dX2_empty_11
  exact ⟨rfl, rfl⟩
set_option maxHeartbeats 4000000 in
set_option maxRecDepth 100000 in
theorem c_X2_stepAt (l : Launch) (D : va_G) (cs : Nat → ClassId) (w : fW) (sz : Nat) (h0 h1 : Nat) (n : Int32) (f : Nat → Option Nat) (h : w h0 = some (.inr (2, [.ref h1, .int n]))) (g : w h1 = some (.inl (cs 8, 16, .inr (.inr (.inr (.inr f)))))) (i : Int32) (hn : n ≤ 16) : gM l bs_B nw_B D cls10 (tyl cs) yX2_stepAt cX2_stepAt 2 (some (.object "CycleShop$Step")) 1 21 0 0 w sz [.ref h0, .int i] (fun v w' => v = some (va_rf (if wi i n = true then f (ix i) else none)) ∧ w' = w) := by
  refine gM.of (by decide +kernel) (Nat.le_of_ble_eq_true rfl) (fun p e s m below meth c A ls X hsz hnm hF hS hl => ?_)
  have hx := X.1
  have hb := X.2.1
  have hl : lv_has ls 2 [(0, .ref h0), (1, .int i)] := hl
  have h : w h0 = some (.inr (2, [.ref h1, .int n])) := h
  have g : w h1 = some (.inl (cs 8, 16, .inr (.inr (.inr (.inr f))))) := g
  refine lv_iload_n hx hb dX2_stepAt_0 rfl (lv_at hl 1 rfl) ?_
  refine lv_aload_n hx hb dX2_stepAt_1 rfl (lv_at hl 0 rfl) ?_
  refine fw_get X gC_ok hF h rfl 1 (by decide) wm_169 rfl dX2_stepAt_2 ?_
  refine fw_callSN (As := [.int i, .int n]) (rest := []) X bs_all nw_all mf_X8_isWithin (c_X8_isWithin l D cs _ _ i n) nm_405 wm_209 hF hS rfl ((⟨⟨Nat.le_of_ble_eq_true rfl, Nat.le_of_ble_eq_true rfl⟩, Nat.le_of_ble_eq_true rfl, Nat.le_of_ble_eq_true rfl⟩)) rfl hl.1 rfl (Nat.le_of_ble_eq_true rfl) dX2_stepAt_5 (fun v u1 H locs hp hF hS hz1 hk1 hd1 => ?_)
  obtain ⟨rfl, hw1⟩ := hp
  rw [hw1] at hF
  refine W.eq (g2 := F0 m 8 ls [.int (bz (wi i n))]) rfl ?_
  refine gx_ifeq (tgt := 20) hx hb dX2_stepAt_8 (by decide) (fun c8_2 => ?_) (fun c8_2 => ?_)
  · refine lv_null hx hb dX2_stepAt_20 ?_
    refine fw_aret (o := none) X hF hS ?_ (Nat.le_of_ble_eq_true rfl) (Nat.le_of_ble_eq_true rfl) dX2_stepAt_21
    exact ⟨by simp [c8_2, va_rf], rfl⟩
  · refine lv_aload_n hx hb dX2_stepAt_11 rfl (lv_at hl 0 rfl) ?_
    refine fw_get X gC_ok hF h rfl 0 (by decide) wm_168 rfl dX2_stepAt_12 ?_
    refine lv_iload_n hx hb dX2_stepAt_15 rfl (lv_at hl 1 rfl) ?_
    refine fw_aldq X hF g 8 rfl (wi_in (wi_le c8_2 hn) (N := 16) (by decide)) (v := f (ix i)) rfl dX2_stepAt_16 ?_
    refine lv_goto (tgt := 21) hx hb dX2_stepAt_17 (by decide) ?_
    refine fw_aret (o := f (ix i)) X hF hS ?_ (Nat.le_of_ble_eq_true rfl) (Nat.le_of_ble_eq_true rfl) dX2_stepAt_21
    exact ⟨by simp [c8_2, va_rf], rfl⟩
set_option maxHeartbeats 4000000 in
set_option maxRecDepth 100000 in
theorem c_X4_init (l : Launch) (D : va_G) (cs : Nat → ClassId) (w : fW) (sz : Nat) (h0 : Nat) (r1 r2 r3 r4 r5 : Int32) (r6 : Int64) (h : w h0 = some (.inr (4, [.int r1, .int r2, .int r3, .int r4, .int r5, .long r6]))) : gM l bs_B nw_B D cls10 (tyl cs) yX4_init cX4_init 1 none 1 20 0 0 w sz [.ref h0] (fun v w' => v = none ∧ w' = va_up w h0 (some (.inr (4, [.int r1, .int r2, .int r3, .int (-1), .int r5, .long r6])))) := by
  refine gM.of (by decide +kernel) (Nat.le_of_ble_eq_true rfl) (fun p e s m below meth c A ls X hsz hnm hF hS hl => ?_)
  have hx := X.1
  have hb := X.2.1
  have hl : lv_has ls 1 [(0, .ref h0)] := hl
  have h : w h0 = some (.inr (4, [.int r1, .int r2, .int r3, .int r4, .int r5, .long r6])) := h
  refine lv_aload_n hx hb dX4_init_0 rfl (lv_at hl 0 rfl) ?_
  refine W.objInit hx hb X.2.2.2.1 (X.2.2.2.2.1 _ wm_59) (X.2.2.2.2.1 _ wm_42) (X.2.2.2.2.1 _ wm_43) rfl (by rw [X.2.2.1]; exact hl.1) rfl dX4_init_1 (Nat.le_of_ble_eq_true rfl) (Nat.le_of_ble_eq_true rfl) ?_
  refine W.eq (g2 := F0 m 4 ls []) rfl ?_
  refine lv_aload_n hx hb dX4_init_4 rfl (lv_at hl 0 rfl) ?_
  refine lv_iconst (v := (-1)) hx hb dX4_init_5 (by decide) ?_
  refine fw_put X gC_ok hF hS h rfl 3 (by decide) wm_66 rfl (tf := .int) (by decide +kernel) rfl rfl (Nat.le_of_ble_eq_true rfl) dX4_init_6 (fun H locs hF hS => ?_)
  have hF : fw_P D cls10 A (va_up w h0 (some (.inr (4, [.int r1, .int r2, .int r3, .int (-1), .int r5, .long r6])))) H := hF
  refine fw_vret X hF hS ?_ (Nat.le_of_ble_eq_true rfl) (Nat.le_of_ble_eq_true rfl) dX4_init_9
  exact ⟨rfl, rfl⟩
set_option maxHeartbeats 4000000 in
set_option maxRecDepth 100000 in
theorem c_X4_restart (l : Launch) (D : va_G) (cs : Nat → ClassId) (w : fW) (sz : Nat) (h0 : Nat) (r1 r2 r3 r4 r5 : Int32) (r6 : Int64) (h : w h0 = some (.inr (4, [.int r1, .int r2, .int r3, .int r4, .int r5, .long r6]))) : gM l bs_B nw_B D cls10 (tyl cs) yX4_restart cX4_restart 1 none 0 0 0 0 w sz [.ref h0] (fun v w' => v = none ∧ w' = va_up w h0 (some (.inr (4, [.int 0, .int 0, .int 0, .int (-1), .int 0, .long 0])))) := by
  refine gM.of (by decide +kernel) (Nat.le_of_ble_eq_true rfl) (fun p e s m below meth c A ls X hsz hnm hF hS hl => ?_)
  have hx := X.1
  have hb := X.2.1
  have hl : lv_has ls 1 [(0, .ref h0)] := hl
  have h : w h0 = some (.inr (4, [.int r1, .int r2, .int r3, .int r4, .int r5, .long r6])) := h
  refine lv_aload_n hx hb dX4_restart_0 rfl (lv_at hl 0 rfl) ?_
  refine lv_iconst (v := 0) hx hb dX4_restart_1 (by decide) ?_
  refine fw_put X gC_ok hF hS h rfl 0 (by decide) wm_60 rfl (tf := .int) (by decide +kernel) rfl rfl (Nat.le_of_ble_eq_true rfl) dX4_restart_2 (fun H locs hF hS => ?_)
  have hF : fw_P D cls10 A (va_up w h0 (some (.inr (4, [.int 0, .int r2, .int r3, .int r4, .int r5, .long r6])))) H := hF
  refine lv_aload_n hx hb dX4_restart_5 rfl (lv_at hl 0 rfl) ?_
  refine lv_iconst (v := 0) hx hb dX4_restart_6 (by decide) ?_
  refine fw_put X gC_ok hF hS (va_up_self _ _ _) rfl 1 (by decide) wm_62 rfl (tf := .int) (by decide +kernel) rfl rfl (Nat.le_of_ble_eq_true rfl) dX4_restart_7 (fun H locs hF hS => ?_)
  rw [bx_uu] at hF
  have hF : fw_P D cls10 A (va_up w h0 (some (.inr (4, [.int 0, .int 0, .int r3, .int r4, .int r5, .long r6])))) H := hF
  refine lv_aload_n hx hb dX4_restart_10 rfl (lv_at hl 0 rfl) ?_
  refine lv_iconst (v := 0) hx hb dX4_restart_11 (by decide) ?_
  refine fw_put X gC_ok hF hS (va_up_self _ _ _) rfl 2 (by decide) wm_64 rfl (tf := .int) (by decide +kernel) rfl rfl (Nat.le_of_ble_eq_true rfl) dX4_restart_12 (fun H locs hF hS => ?_)
  rw [bx_uu] at hF
  have hF : fw_P D cls10 A (va_up w h0 (some (.inr (4, [.int 0, .int 0, .int 0, .int r4, .int r5, .long r6])))) H := hF
  refine lv_aload_n hx hb dX4_restart_15 rfl (lv_at hl 0 rfl) ?_
  refine lv_iconst (v := (-1)) hx hb dX4_restart_16 (by decide) ?_
  refine fw_put X gC_ok hF hS (va_up_self _ _ _) rfl 3 (by decide) wm_66 rfl (tf := .int) (by decide +kernel) rfl rfl (Nat.le_of_ble_eq_true rfl) dX4_restart_17 (fun H locs hF hS => ?_)
  rw [bx_uu] at hF
  have hF : fw_P D cls10 A (va_up w h0 (some (.inr (4, [.int 0, .int 0, .int 0, .int (-1), .int r5, .long r6])))) H := hF
  refine lv_aload_n hx hb dX4_restart_20 rfl (lv_at hl 0 rfl) ?_
  refine lv_iconst (v := 0) hx hb dX4_restart_21 (by decide) ?_
  refine fw_put X gC_ok hF hS (va_up_self _ _ _) rfl 4 (by decide) wm_68 rfl (tf := .int) (by decide +kernel) rfl rfl (Nat.le_of_ble_eq_true rfl) dX4_restart_22 (fun H locs hF hS => ?_)
  rw [bx_uu] at hF
  have hF : fw_P D cls10 A (va_up w h0 (some (.inr (4, [.int 0, .int 0, .int 0, .int (-1), .int 0, .long r6])))) H := hF
  refine lv_aload_n hx hb dX4_restart_25 rfl (lv_at hl 0 rfl) ?_
  refine lv_lconst (v := 0) hx hb dX4_restart_26 (by decide) ?_
  refine fw_put X gC_ok hF hS (va_up_self _ _ _) rfl 5 (by decide) wm_70 rfl (tf := .long) (by decide +kernel) rfl rfl (Nat.le_of_ble_eq_true rfl) dX4_restart_27 (fun H locs hF hS => ?_)
  rw [bx_uu] at hF
  have hF : fw_P D cls10 A (va_up w h0 (some (.inr (4, [.int 0, .int 0, .int 0, .int (-1), .int 0, .long 0])))) H := hF
  refine fw_vret X hF hS ?_ (Nat.le_of_ble_eq_true rfl) (Nat.le_of_ble_eq_true rfl) dX4_restart_30
  exact ⟨rfl, rfl⟩
set_option maxHeartbeats 4000000 in
set_option maxRecDepth 100000 in
theorem c_X4_addAnswer (l : Launch) (D : va_G) (cs : Nat → ClassId) (w : fW) (sz : Nat) (h0 : Nat) (r1 r2 r3 r4 r5 : Int32) (r6 : Int64) (h : w h0 = some (.inr (4, [.int r1, .int r2, .int r3, .int r4, .int r5, .long r6]))) (o : Int64) : gM l bs_B nw_B D cls10 (tyl cs) yX4_addAnswer cX4_addAnswer 3 none 0 0 0 0 w sz [.ref h0, .long o] (fun v w' => v = none ∧ w' = va_up w h0 (some (.inr (4, [.int (r1 + 1), .int r2, .int r3, .int r4, .int r5, .long (r6 + o)])))) := by
  refine gM.of (by decide +kernel) (Nat.le_of_ble_eq_true rfl) (fun p e s m below meth c A ls X hsz hnm hF hS hl => ?_)
  have hx := X.1
  have hb := X.2.1
  have hl : lv_has ls 3 [(0, .ref h0), (1, .long o)] := hl
  have h : w h0 = some (.inr (4, [.int r1, .int r2, .int r3, .int r4, .int r5, .long r6])) := h
  refine lv_aload_n hx hb dX4_addAnswer_0 rfl (lv_at hl 0 rfl) ?_
  refine lv_dup hx hb dX4_addAnswer_1 rfl ?_
  refine fw_get X gC_ok hF h rfl 0 (by decide) wm_60 rfl dX4_addAnswer_2 ?_
  refine lv_iconst (v := 1) hx hb dX4_addAnswer_5 (by decide) ?_
  refine lv_iadd hx hb dX4_addAnswer_6 ?_
  refine fw_put X gC_ok hF hS h rfl 0 (by decide) wm_60 rfl (tf := .int) (by decide +kernel) rfl rfl (Nat.le_of_ble_eq_true rfl) dX4_addAnswer_7 (fun H locs hF hS => ?_)
  have hF : fw_P D cls10 A (va_up w h0 (some (.inr (4, [.int (r1 + 1), .int r2, .int r3, .int r4, .int r5, .long r6])))) H := hF
  refine lv_aload_n hx hb dX4_addAnswer_10 rfl (lv_at hl 0 rfl) ?_
  refine lv_dup hx hb dX4_addAnswer_11 rfl ?_
  refine fw_get X gC_ok hF (va_up_self _ _ _) rfl 5 (by decide) wm_70 rfl dX4_addAnswer_12 ?_
  refine lv_lload_n hx hb dX4_addAnswer_15 rfl (lv_at hl 1 rfl) ?_
  refine lv_ladd hx hb dX4_addAnswer_16 ?_
  refine fw_put X gC_ok hF hS (va_up_self _ _ _) rfl 5 (by decide) wm_70 rfl (tf := .long) (by decide +kernel) rfl rfl (Nat.le_of_ble_eq_true rfl) dX4_addAnswer_17 (fun H locs hF hS => ?_)
  rw [bx_uu] at hF
  have hF : fw_P D cls10 A (va_up w h0 (some (.inr (4, [.int (r1 + 1), .int r2, .int r3, .int r4, .int r5, .long (r6 + o)])))) H := hF
  refine fw_vret X hF hS ?_ (Nat.le_of_ble_eq_true rfl) (Nat.le_of_ble_eq_true rfl) dX4_addAnswer_20
  exact ⟨rfl, rfl⟩
set_option maxHeartbeats 4000000 in
set_option maxRecDepth 100000 in
theorem c_X4_addFailure (l : Launch) (D : va_G) (cs : Nat → ClassId) (w : fW) (sz : Nat) (h0 : Nat) (r1 r2 r3 r4 r5 : Int32) (r6 : Int64) (h : w h0 = some (.inr (4, [.int r1, .int r2, .int r3, .int r4, .int r5, .long r6]))) (a b : Int32) : gM l bs_B nw_B D cls10 (tyl cs) yX4_addFailure cX4_addFailure 3 none 0 0 0 0 w sz [.ref h0, .int a, .int b] (fun v w' => v = none ∧ w' = va_up w h0 (some (.inr (4, [.int r1, .int (r2 + 1), .int a, .int b, .int r5, .long r6])))) := by
  refine gM.of (by decide +kernel) (Nat.le_of_ble_eq_true rfl) (fun p e s m below meth c A ls X hsz hnm hF hS hl => ?_)
  have hx := X.1
  have hb := X.2.1
  have hl : lv_has ls 3 [(0, .ref h0), (1, .int a), (2, .int b)] := hl
  have h : w h0 = some (.inr (4, [.int r1, .int r2, .int r3, .int r4, .int r5, .long r6])) := h
  refine lv_aload_n hx hb dX4_addFailure_0 rfl (lv_at hl 0 rfl) ?_
  refine lv_dup hx hb dX4_addFailure_1 rfl ?_
  refine fw_get X gC_ok hF h rfl 1 (by decide) wm_62 rfl dX4_addFailure_2 ?_
  refine lv_iconst (v := 1) hx hb dX4_addFailure_5 (by decide) ?_
  refine lv_iadd hx hb dX4_addFailure_6 ?_
  refine fw_put X gC_ok hF hS h rfl 1 (by decide) wm_62 rfl (tf := .int) (by decide +kernel) rfl rfl (Nat.le_of_ble_eq_true rfl) dX4_addFailure_7 (fun H locs hF hS => ?_)
  have hF : fw_P D cls10 A (va_up w h0 (some (.inr (4, [.int r1, .int (r2 + 1), .int r3, .int r4, .int r5, .long r6])))) H := hF
  refine lv_aload_n hx hb dX4_addFailure_10 rfl (lv_at hl 0 rfl) ?_
  refine lv_iload_n hx hb dX4_addFailure_11 rfl (lv_at hl 1 rfl) ?_
  refine fw_put X gC_ok hF hS (va_up_self _ _ _) rfl 2 (by decide) wm_64 rfl (tf := .int) (by decide +kernel) rfl rfl (Nat.le_of_ble_eq_true rfl) dX4_addFailure_12 (fun H locs hF hS => ?_)
  rw [bx_uu] at hF
  have hF : fw_P D cls10 A (va_up w h0 (some (.inr (4, [.int r1, .int (r2 + 1), .int a, .int r4, .int r5, .long r6])))) H := hF
  refine lv_aload_n hx hb dX4_addFailure_15 rfl (lv_at hl 0 rfl) ?_
  refine lv_iload_n hx hb dX4_addFailure_16 rfl (lv_at hl 2 rfl) ?_
  refine fw_put X gC_ok hF hS (va_up_self _ _ _) rfl 3 (by decide) wm_66 rfl (tf := .int) (by decide +kernel) rfl rfl (Nat.le_of_ble_eq_true rfl) dX4_addFailure_17 (fun H locs hF hS => ?_)
  rw [bx_uu] at hF
  have hF : fw_P D cls10 A (va_up w h0 (some (.inr (4, [.int r1, .int (r2 + 1), .int a, .int b, .int r5, .long r6])))) H := hF
  refine fw_vret X hF hS ?_ (Nat.le_of_ble_eq_true rfl) (Nat.le_of_ble_eq_true rfl) dX4_addFailure_20
  exact ⟨rfl, rfl⟩
set_option maxHeartbeats 4000000 in
set_option maxRecDepth 100000 in
theorem c_X6_init (l : Launch) (D : va_G) (cs : Nat → ClassId) (w : fW) (sz : Nat) (h0 : Nat) (s1 s2 s3 s4 s5 : Int32) (h : w h0 = some (.inr (6, [.int 0, .int 0, .int 0, .int 0, .int 0]))) : gM l bs_B nw_B D cls10 (tyl cs) yX6_init cX6_init 6 none 1 20 0 0 w sz [.ref h0, .int s1, .int s2, .int s3, .int s4, .int s5] (fun v w' => v = none ∧ w' = va_up w h0 (some (.inr (6, [.int s1, .int s2, .int s3, .int s4, .int s5])))) := by
  refine gM.of (by decide +kernel) (Nat.le_of_ble_eq_true rfl) (fun p e s m below meth c A ls X hsz hnm hF hS hl => ?_)
  have hx := X.1
  have hb := X.2.1
  have hl : lv_has ls 6 [(0, .ref h0), (1, .int s1), (2, .int s2), (3, .int s3), (4, .int s4), (5, .int s5)] := hl
  have h : w h0 = some (.inr (6, [.int 0, .int 0, .int 0, .int 0, .int 0])) := h
  refine lv_aload_n hx hb dX6_init_0 rfl (lv_at hl 0 rfl) ?_
  refine W.objInit hx hb X.2.2.2.1 (X.2.2.2.2.1 _ wm_355) (X.2.2.2.2.1 _ wm_42) (X.2.2.2.2.1 _ wm_43) rfl (by rw [X.2.2.1]; exact hl.1) rfl dX6_init_1 (Nat.le_of_ble_eq_true rfl) (Nat.le_of_ble_eq_true rfl) ?_
  refine W.eq (g2 := F0 m 4 ls []) rfl ?_
  refine lv_aload_n hx hb dX6_init_4 rfl (lv_at hl 0 rfl) ?_
  refine lv_iload_n hx hb dX6_init_5 rfl (lv_at hl 1 rfl) ?_
  refine fw_putF X gC_ok hF hS h rfl 0 (by decide) wm_356 rfl hnm rfl (tf := .int) (by decide +kernel) rfl rfl (Nat.le_of_ble_eq_true rfl) dX6_init_6 (fun H locs hF hS => ?_)
  have hF : fw_P D cls10 A (va_up w h0 (some (.inr (6, [.int s1, .int 0, .int 0, .int 0, .int 0])))) H := hF
  refine lv_aload_n hx hb dX6_init_9 rfl (lv_at hl 0 rfl) ?_
  refine lv_iload_n hx hb dX6_init_10 rfl (lv_at hl 2 rfl) ?_
  refine fw_putF X gC_ok hF hS (va_up_self _ _ _) rfl 1 (by decide) wm_358 rfl hnm rfl (tf := .int) (by decide +kernel) rfl rfl (Nat.le_of_ble_eq_true rfl) dX6_init_11 (fun H locs hF hS => ?_)
  rw [bx_uu] at hF
  have hF : fw_P D cls10 A (va_up w h0 (some (.inr (6, [.int s1, .int s2, .int 0, .int 0, .int 0])))) H := hF
  refine lv_aload_n hx hb dX6_init_14 rfl (lv_at hl 0 rfl) ?_
  refine lv_iload_n hx hb dX6_init_15 rfl (lv_at hl 3 rfl) ?_
  refine fw_putF X gC_ok hF hS (va_up_self _ _ _) rfl 2 (by decide) wm_360 rfl hnm rfl (tf := .int) (by decide +kernel) rfl rfl (Nat.le_of_ble_eq_true rfl) dX6_init_16 (fun H locs hF hS => ?_)
  rw [bx_uu] at hF
  have hF : fw_P D cls10 A (va_up w h0 (some (.inr (6, [.int s1, .int s2, .int s3, .int 0, .int 0])))) H := hF
  refine lv_aload_n hx hb dX6_init_19 rfl (lv_at hl 0 rfl) ?_
  refine lv_iload hx hb dX6_init_20 (lv_at hl 4 rfl) ?_
  refine fw_putF X gC_ok hF hS (va_up_self _ _ _) rfl 3 (by decide) wm_362 rfl hnm rfl (tf := .int) (by decide +kernel) rfl rfl (Nat.le_of_ble_eq_true rfl) dX6_init_22 (fun H locs hF hS => ?_)
  rw [bx_uu] at hF
  have hF : fw_P D cls10 A (va_up w h0 (some (.inr (6, [.int s1, .int s2, .int s3, .int s4, .int 0])))) H := hF
  refine lv_aload_n hx hb dX6_init_25 rfl (lv_at hl 0 rfl) ?_
  refine lv_iload hx hb dX6_init_26 (lv_at hl 5 rfl) ?_
  refine fw_putF X gC_ok hF hS (va_up_self _ _ _) rfl 4 (by decide) wm_364 rfl hnm rfl (tf := .int) (by decide +kernel) rfl rfl (Nat.le_of_ble_eq_true rfl) dX6_init_28 (fun H locs hF hS => ?_)
  rw [bx_uu] at hF
  have hF : fw_P D cls10 A (va_up w h0 (some (.inr (6, [.int s1, .int s2, .int s3, .int s4, .int s5])))) H := hF
  refine fw_vret X hF hS ?_ (Nat.le_of_ble_eq_true rfl) (Nat.le_of_ble_eq_true rfl) dX6_init_31
  exact ⟨rfl, rfl⟩
end
section
/-! the shop's state: stands, baskets, racks, grids, jobs, excuses, tallies, report, wheels -/
abbrev aBa : Type := Int32 × (Nat → Int32)
abbrev aRa : Type := Int32 × Bool × (Nat → Option Nat)
abbrev aGr : Type := Int32 × Int32 × (Nat → Int32)
abbrev aSp : Type := Int32 × Int32 × Int32 × Int32 × Int32
abbrev aJo : Type := Int32 × (Nat → aSp)
abbrev aRe : Type := Int32 × Int32 × Int32 × Int32 × Int32 × Int64
abbrev Sg : Type := (Nat → aS) × (Nat → aBa) × (Nat → aRa) × (Nat → aGr) × (Nat → aJo) × (Nat → Int32) × (Nat → Int32) × aRe × (Nat → Option aWh)
abbrev tSt (T : Sg) : Nat → aS := T.1
abbrev tBa (T : Sg) : Nat → aBa := T.2.1
abbrev tRa (T : Sg) : Nat → aRa := T.2.2.1
abbrev tGr (T : Sg) : Nat → aGr := T.2.2.2.1
abbrev tJo (T : Sg) : Nat → aJo := T.2.2.2.2.1
abbrev tEx (T : Sg) : Nat → Int32 := T.2.2.2.2.2.1
abbrev tTa (T : Sg) : Nat → Int32 := T.2.2.2.2.2.2.1
abbrev tRe (T : Sg) : aRe := T.2.2.2.2.2.2.2.1
abbrev tWh (T : Sg) : Nat → Option aWh := T.2.2.2.2.2.2.2.2
def setSt (T : Sg) (i : Nat) (x : aS) : Sg := (va_up (tSt T) i x, tBa T, tRa T, tGr T, tJo T, tEx T, tTa T, tRe T, tWh T)
def setBa (T : Sg) (i : Nat) (x : aBa) : Sg := (tSt T, va_up (tBa T) i x, tRa T, tGr T, tJo T, tEx T, tTa T, tRe T, tWh T)
def setRa (T : Sg) (i : Nat) (x : aRa) : Sg := (tSt T, tBa T, va_up (tRa T) i x, tGr T, tJo T, tEx T, tTa T, tRe T, tWh T)
def setGr (T : Sg) (i : Nat) (x : aGr) : Sg := (tSt T, tBa T, tRa T, va_up (tGr T) i x, tJo T, tEx T, tTa T, tRe T, tWh T)
def setJo (T : Sg) (i : Nat) (x : aJo) : Sg := (tSt T, tBa T, tRa T, tGr T, va_up (tJo T) i x, tEx T, tTa T, tRe T, tWh T)
def setEx (T : Sg) (x : Nat → Int32) : Sg := (tSt T, tBa T, tRa T, tGr T, tJo T, x, tTa T, tRe T, tWh T)
def setTa (T : Sg) (x : Nat → Int32) : Sg := (tSt T, tBa T, tRa T, tGr T, tJo T, tEx T, x, tRe T, tWh T)
def setRe (T : Sg) (x : aRe) : Sg := (tSt T, tBa T, tRa T, tGr T, tJo T, tEx T, tTa T, x, tWh T)
def setWh (T : Sg) (q : Nat) (x : aWh) : Sg := (tSt T, tBa T, tRa T, tGr T, tJo T, tEx T, tTa T, tRe T, va_up (tWh T) q (some x))
abbrev W9 (T : Sg) : Nat → aWh := fun q => (tWh T q).getD (0, false, 0)
/-! the spec: what a step does -/
def okS (k a b d : Int32) : Bool := wi k 17 && (wi a 4 && (if k = 13 then wi d 4 else if k = 7 then decide (b ≤ 12) else if k = 8 then decide (b ≤ 12) else if k = 9 then (decide (b ≤ 12) && decide (d ≤ 12)) else true))
def spFit (q : Nat) (a b d : Int32) (T : Sg) : (Int32 × Int32) × Sg := if (tSt T (ix a)).1 = false then ((1, 0), T) else if d = 0 then ((0, d), setSt T (ix a) (sdset b (tSt T (ix a)) none)) else ((0, d), setSt (setWh T q (whN d)) (ix a) (sdset b (tSt T (ix a)) (some q)))
def spTrue (b : Int32) (x : aS) (T : Sg) : (Int32 × Int32) × Sg := match sdw b x.2.2.1 x.2.2.2.1 with
  | none => ((1, 0), T)
  | some q => ((0, whT (W9 T q)), setWh T q ((W9 T q).1, (W9 T q).2.1, (W9 T q).2.2 + 1))
def spCount (b : Int32) (x : aS) (T : Sg) : (Int32 × Int32) × Sg := match sdw b x.2.2.1 x.2.2.2.1 with
  | none => ((1, 0), T)
  | some q => ((0, (W9 T q).1), T)
def spLen (n : Int32) : Int32 × Int32 := if n = -1 then (1, 0) else (0, n)
def spRow (n k i : Int32) : Int32 × Int32 := if n = -1 then (1, 0) else if wi i n = true then (0, k) else (3, 0)
def spLong (a b d : Int32) (T : Sg) : Int32 × Int32 := if b = 0 then spLen (tBa T (ix a)).1 else if b = 1 then spLen (tRa T (ix a)).1 else if b = 2 then spLen (tGr T (ix a)).1 else spRow (tGr T (ix a)).1 (tGr T (ix a)).2.1 d
def spPut (a b d : Int32) (T : Sg) : (Int32 × Int32) × Sg := if (tBa T (ix a)).1 = -1 then ((1, 0), T) else if wi b (tBa T (ix a)).1 = true then ((0, (tBa T (ix a)).2 (ix b)), setBa T (ix a) ((tBa T (ix a)).1, upd (tBa T (ix a)).2 (ix b) d)) else ((3, 0), T)
def spAdd (a b d : Int32) (T : Sg) : (Int32 × Int32) × Sg := if (tGr T (ix a)).1 = -1 then ((1, 0), T) else if (wi b (tGr T (ix a)).1 && wi d (tGr T (ix a)).2.1) = true then ((0, (tGr T (ix a)).2.2 (12 * ix b + ix d) + 1), setGr T (ix a) ((tGr T (ix a)).1, (tGr T (ix a)).2.1, upd (tGr T (ix a)).2.2 (12 * ix b + ix d) ((tGr T (ix a)).2.2 (12 * ix b + ix d) + 1))) else ((3, 0), T)
def noStore (T : Sg) (r : aRa) (x : aS) : Bool := r.2.1 && (match x.2.2.1 with
  | none => false
  | some q => !(W9 T q).2.1)
def spHang (a b d : Int32) (T : Sg) : (Int32 × Int32) × Sg := if (tRa T (ix a)).1 = -1 ∨ (tSt T (ix d)).1 = false then ((1, 0), T) else if wi b (tRa T (ix a)).1 = true then (if noStore T (tRa T (ix a)) (tSt T (ix d)) = true then ((4, 0), T) else ((0, 1), setRa T (ix a) ((tRa T (ix a)).1, (tRa T (ix a)).2.1, va_up (tRa T (ix a)).2.2 (ix b) (tSt T (ix d)).2.2.1))) else ((3, 0), T)
def spBal (a b : Int32) (T : Sg) : (Int32 × Int32) × Sg := if (tRa T (ix a)).1 = -1 then ((1, 0), T) else if wi b (tRa T (ix a)).1 = true then (match (tRa T (ix a)).2.2 (ix b) with
  | none => ((1, 0), T)
  | some q => if (W9 T q).2.1 = true then ((0, 1000 + (W9 T q).1), setWh T q ((W9 T q).1, (W9 T q).2.1, 0)) else ((5, 0), T)) else ((3, 0), T)
def excI (b : Int32) : Int32 := if b = 0 then 1 else if b = 1 then 6 else 7
def spDo (q : Nat) (k a b d : Int32) (T : Sg) : (Int32 × Int32) × Sg :=
  if k = 0 then ((0, b), setSt T (ix a) (true, b, none, none, 0, 0))
  else if k = 1 then ((0, 1), setSt T (ix a) (false, 0, none, none, 0, 0))
  else if k = 2 then spFit q a b d T
  else if k = 3 then spTrue b (tSt T (ix a)) T
  else if k = 4 then spCount b (tSt T (ix a)) T
  else if k = 5 then ((spLight (tSt T (ix a)) b d).1, setSt T (ix a) (spLight (tSt T (ix a)) b d).2)
  else if k = 6 then ((spShine (tSt T (ix a)) b).1, setSt T (ix a) (spShine (tSt T (ix a)) b).2)
  else if k = 7 then (if b < 0 then ((2, 0), T) else ((0, b), setBa T (ix a) (b, fun _ => 0)))
  else if k = 8 then (if b < 0 then ((2, 0), T) else ((0, b), setRa T (ix a) (b, !decide (d &&& 1 = 0), fun _ => none)))
  else if k = 9 then (if b < 0 ∨ d < 0 then ((2, 0), T) else ((0, b), setGr T (ix a) (b, d, fun _ => 0)))
  else if k = 10 then (spLong a b d T, T)
  else if k = 11 then spPut a b d T
  else if k = 12 then spAdd a b d T
  else if k = 13 then spHang a b d T
  else if k = 14 then spBal a b T
  else if k = 15 then ((0, b), setEx T (upd (tEx T) (ix a) (excI b)))
  else (if b = 0 then (0, 0) else (tEx T (ix a), 0), T)
def spAt (q : Nat) (k a b d : Int32) (T : Sg) : (Int32 × Int32) × Sg := ((spDo q k a b d T).1, if (spDo q k a b d T).1.1 = 0 then (spDo q k a b d T).2 else setTa (spDo q k a b d T).2 (upd (tTa (spDo q k a b d T).2) (ix (spDo q k a b d T).1.1) (tTa (spDo q k a b d T).2 (ix (spDo q k a b d T).1.1) + 1)))
theorem gSt (T : Sg) (i j : Nat) (x : aS) : tSt (setSt T i x) j = va_up (tSt T) i x j := rfl
theorem gBa (T : Sg) (i j : Nat) (x : aBa) : tBa (setBa T i x) j = va_up (tBa T) i x j := rfl
theorem gRa (T : Sg) (i j : Nat) (x : aRa) : tRa (setRa T i x) j = va_up (tRa T) i x j := rfl
theorem gGr (T : Sg) (i j : Nat) (x : aGr) : tGr (setGr T i x) j = va_up (tGr T) i x j := rfl
theorem gJo (T : Sg) (i j : Nat) (x : aJo) : tJo (setJo T i x) j = va_up (tJo T) i x j := rfl
theorem gWh (T : Sg) (i j : Nat) (x : aWh) : tWh (setWh T i x) j = va_up (tWh T) i (some x) j := rfl
/-! the world of the shop -/
abbrev cRe (x : aRe) : va_E := .inr (4, [.int x.1, .int x.2.1, .int x.2.2.1, .int x.2.2.2.1, .int x.2.2.2.2.1, .long x.2.2.2.2.2])
abbrev cSp (x : aSp) : va_E := .inr (6, [.int x.1, .int x.2.1, .int x.2.2.1, .int x.2.2.2.1, .int x.2.2.2.2])
/-- addresses apart -/
def adI (ad : Nat → Nat) : Prop := ∀ t t', t < 46 → t' < 46 → ad t = ad t' → t = t'
def SW (cs : Nat → ClassId) (ad : Nat → Nat) (T : Sg) (jf : Nat → Nat → Option Nat) (w : fW) : Prop :=
  adI ad ∧
  w (ad 0) = some (.inr (8, [.ref (ad 1), .ref (ad 2), .ref (ad 3), .ref (ad 4), .ref (ad 5), .ref (ad 6), .ref (ad 7), .ref (ad 8)])) ∧
  w (ad 1) = some (.inl (cs 2, 4, .inr (.inr (.inr (.inr (fun j => some (ad (10 + j)))))))) ∧
  w (ad 2) = some (.inl (cs 3, 4, .inr (.inr (.inr (.inr (fun j => some (ad (14 + j)))))))) ∧
  w (ad 3) = some (.inl (cs 4, 4, .inr (.inr (.inr (.inr (fun j => some (ad (22 + j)))))))) ∧
  w (ad 4) = some (.inl (cs 5, 4, .inr (.inr (.inr (.inr (fun j => some (ad (30 + j)))))))) ∧
  w (ad 5) = some (.inl (cs 6, 4, .inr (.inr (.inr (.inr (fun j => some (ad (38 + j)))))))) ∧
  w (ad 6) = some (.inl (cs 0, 4, .inl (tEx T))) ∧
  w (ad 7) = some (.inl (cs 0, 8, .inl (tTa T))) ∧
  w (ad 8) = some (cRe (tRe T)) ∧
  (∀ i, i < 4 → w (ad (10 + i)) = some (cSt (tSt T i))) ∧
  (∀ i, i < 4 → w (ad (14 + i)) = some (.inr (0, [.ref (ad (18 + i)), .int (tBa T i).1]))) ∧
  (∀ i, i < 4 → w (ad (18 + i)) = some (.inl (cs 0, 12, .inl (tBa T i).2))) ∧
  (∀ i, i < 4 → w (ad (22 + i)) = some (.inr (3, [.ref (ad (26 + i)), .int (tRa T i).1, .int (bz (tRa T i).2.1)]))) ∧
  (∀ i, i < 4 → w (ad (26 + i)) = some (.inl (cs 7, 12, .inr (.inr (.inr (.inr (tRa T i).2.2)))))) ∧
  (∀ i, i < 4 → w (ad (30 + i)) = some (.inr (1, [.ref (ad (34 + i)), .int (tGr T i).1, .int (tGr T i).2.1]))) ∧
  (∀ i, i < 4 → w (ad (34 + i)) = some (.inl (cs 0, 144, .inl (tGr T i).2.2))) ∧
  (∀ i, i < 4 → w (ad (38 + i)) = some (.inr (2, [.ref (ad (42 + i)), .int (tJo T i).1]))) ∧
  (∀ i, i < 4 → w (ad (42 + i)) = some (.inl (cs 8, 16, .inr (.inr (.inr (.inr (jf i))))))) ∧
  (∀ q x, tWh T q = some x → w q = some (cWh x)) ∧
  (∀ j k, j < 4 → k < ix (tJo T j).1 → ∃ q, jf j k = some q ∧ w q = some (cSp ((tJo T j).2 k)))
theorem adI.ne {ad : Nat → Nat} (h : adI ad) {t t' : Nat} (h1 : t < 46) (h2 : t' < 46) (h3 : t ≠ t') : ad t ≠ ad t' := fun e => h3 (h t t' h1 h2 e)
theorem SW.fix {cs : Nat → ClassId} {ad : Nat → Nat} {T : Sg} {jf : Nat → Nat → Option Nat} {w : fW} (h : SW cs ad T jf w) {t : Nat} (ht : t < 46) (h9 : t ≠ 9) : ∃ e, w (ad t) = some e ∧ (∀ fs, e ≠ .inr (7, fs)) ∧ (∀ fs, e ≠ .inr (6, fs)) := by
  rcases (show t = 0 ∨ t = 1 ∨ t = 2 ∨ t = 3 ∨ t = 4 ∨ t = 5 ∨ t = 6 ∨ t = 7 ∨ t = 8 ∨ (10 ≤ t ∧ t < 14) ∨ (14 ≤ t ∧ t < 18) ∨ (18 ≤ t ∧ t < 22) ∨ (22 ≤ t ∧ t < 26) ∨ (26 ≤ t ∧ t < 30) ∨ (30 ≤ t ∧ t < 34) ∨ (34 ≤ t ∧ t < 38) ∨ (38 ≤ t ∧ t < 42) ∨ (42 ≤ t ∧ t < 46) by omega) with rfl | rfl | rfl | rfl | rfl | rfl | rfl | rfl | rfl | k | k | k | k | k | k | k | k | k
  · exact ⟨_, h.2.1, (fun fs e => by cases e), (fun fs e => by cases e)⟩
  · exact ⟨_, h.2.2.1, (fun fs e => by cases e), (fun fs e => by cases e)⟩
  · exact ⟨_, h.2.2.2.1, (fun fs e => by cases e), (fun fs e => by cases e)⟩
  · exact ⟨_, h.2.2.2.2.1, (fun fs e => by cases e), (fun fs e => by cases e)⟩
  · exact ⟨_, h.2.2.2.2.2.1, (fun fs e => by cases e), (fun fs e => by cases e)⟩
  · exact ⟨_, h.2.2.2.2.2.2.1, (fun fs e => by cases e), (fun fs e => by cases e)⟩
  · exact ⟨_, h.2.2.2.2.2.2.2.1, (fun fs e => by cases e), (fun fs e => by cases e)⟩
  · exact ⟨_, h.2.2.2.2.2.2.2.2.1, (fun fs e => by cases e), (fun fs e => by cases e)⟩
  · exact ⟨_, h.2.2.2.2.2.2.2.2.2.1, (fun fs e => by cases e), (fun fs e => by cases e)⟩
  · have := h.2.2.2.2.2.2.2.2.2.2.1 (t - 10) (by omega)
    rw [show 10 + (t - 10) = t by omega] at this
    exact ⟨_, this, (fun fs e => by cases e), (fun fs e => by cases e)⟩
  · have := h.2.2.2.2.2.2.2.2.2.2.2.1 (t - 14) (by omega)
    rw [show 14 + (t - 14) = t by omega] at this
    exact ⟨_, this, (fun fs e => by cases e), (fun fs e => by cases e)⟩
  · have := h.2.2.2.2.2.2.2.2.2.2.2.2.1 (t - 18) (by omega)
    rw [show 18 + (t - 18) = t by omega] at this
    exact ⟨_, this, (fun fs e => by cases e), (fun fs e => by cases e)⟩
  · have := h.2.2.2.2.2.2.2.2.2.2.2.2.2.1 (t - 22) (by omega)
    rw [show 22 + (t - 22) = t by omega] at this
    exact ⟨_, this, (fun fs e => by cases e), (fun fs e => by cases e)⟩
  · have := h.2.2.2.2.2.2.2.2.2.2.2.2.2.2.1 (t - 26) (by omega)
    rw [show 26 + (t - 26) = t by omega] at this
    exact ⟨_, this, (fun fs e => by cases e), (fun fs e => by cases e)⟩
  · have := h.2.2.2.2.2.2.2.2.2.2.2.2.2.2.2.1 (t - 30) (by omega)
    rw [show 30 + (t - 30) = t by omega] at this
    exact ⟨_, this, (fun fs e => by cases e), (fun fs e => by cases e)⟩
  · have := h.2.2.2.2.2.2.2.2.2.2.2.2.2.2.2.2.1 (t - 34) (by omega)
    rw [show 34 + (t - 34) = t by omega] at this
    exact ⟨_, this, (fun fs e => by cases e), (fun fs e => by cases e)⟩
  · have := h.2.2.2.2.2.2.2.2.2.2.2.2.2.2.2.2.2.1 (t - 38) (by omega)
    rw [show 38 + (t - 38) = t by omega] at this
    exact ⟨_, this, (fun fs e => by cases e), (fun fs e => by cases e)⟩
  · have := h.2.2.2.2.2.2.2.2.2.2.2.2.2.2.2.2.2.2.1 (t - 42) (by omega)
    rw [show 42 + (t - 42) = t by omega] at this
    exact ⟨_, this, (fun fs e => by cases e), (fun fs e => by cases e)⟩
theorem SW.ne7 {cs : Nat → ClassId} {ad : Nat → Nat} {T : Sg} {jf : Nat → Nat → Option Nat} {w : fW} (h : SW cs ad T jf w) {t q : Nat} {fs : List Value} (hq : w q = some (.inr (7, fs))) (ht : t < 46) (h9 : t ≠ 9) : q ≠ ad t := by
  obtain ⟨e, h1, h2, -⟩ := h.fix ht h9
  intro hh
  rw [hh, h1] at hq
  exact h2 fs (Option.some.inj hq)
theorem SW.ne6 {cs : Nat → ClassId} {ad : Nat → Nat} {T : Sg} {jf : Nat → Nat → Option Nat} {w : fW} (h : SW cs ad T jf w) {t q : Nat} {fs : List Value} (hq : w q = some (.inr (6, fs))) (ht : t < 46) (h9 : t ≠ 9) : q ≠ ad t := by
  obtain ⟨e, h1, -, h2⟩ := h.fix ht h9
  intro hh
  rw [hh, h1] at hq
  exact h2 fs (Option.some.inj hq)
theorem SW.st {cs : Nat → ClassId} {ad : Nat → Nat} {T : Sg} {jf : Nat → Nat → Option Nat} {w : fW} (h : SW cs ad T jf w) {i : Nat} (hi : i < 4) (x : aS) : SW cs ad (setSt T i x) jf (va_up w (ad (10 + i)) (some (cSt x))) := by
  have hne : ∀ t, t < 46 → t ≠ 10 + i → ad t ≠ ad (10 + i) := fun t h1 h2 => h.1.ne h1 (by omega) h2
  exact ⟨h.1,
    by rw [va_up_ne _ _ (hne _ (by omega) (by omega))]; exact h.2.1,
    by rw [va_up_ne _ _ (hne _ (by omega) (by omega))]; exact h.2.2.1,
    by rw [va_up_ne _ _ (hne _ (by omega) (by omega))]; exact h.2.2.2.1,
    by rw [va_up_ne _ _ (hne _ (by omega) (by omega))]; exact h.2.2.2.2.1,
    by rw [va_up_ne _ _ (hne _ (by omega) (by omega))]; exact h.2.2.2.2.2.1,
    by rw [va_up_ne _ _ (hne _ (by omega) (by omega))]; exact h.2.2.2.2.2.2.1,
    by rw [va_up_ne _ _ (hne _ (by omega) (by omega))]; exact h.2.2.2.2.2.2.2.1,
    by rw [va_up_ne _ _ (hne _ (by omega) (by omega))]; exact h.2.2.2.2.2.2.2.2.1,
    by rw [va_up_ne _ _ (hne _ (by omega) (by omega))]; exact h.2.2.2.2.2.2.2.2.2.1,
    fun j hj => by
      by_cases hji : j = i
      · subst hji; rw [va_up_self, gSt, va_up_self]
      · rw [va_up_ne _ _ (hne _ (by omega) (by omega)), gSt, va_up_ne _ _ hji]; exact h.2.2.2.2.2.2.2.2.2.2.1 j hj,
    fun j hj => by rw [va_up_ne _ _ (hne _ (by omega) (by omega))]; exact h.2.2.2.2.2.2.2.2.2.2.2.1 j hj,
    fun j hj => by rw [va_up_ne _ _ (hne _ (by omega) (by omega))]; exact h.2.2.2.2.2.2.2.2.2.2.2.2.1 j hj,
    fun j hj => by rw [va_up_ne _ _ (hne _ (by omega) (by omega))]; exact h.2.2.2.2.2.2.2.2.2.2.2.2.2.1 j hj,
    fun j hj => by rw [va_up_ne _ _ (hne _ (by omega) (by omega))]; exact h.2.2.2.2.2.2.2.2.2.2.2.2.2.2.1 j hj,
    fun j hj => by rw [va_up_ne _ _ (hne _ (by omega) (by omega))]; exact h.2.2.2.2.2.2.2.2.2.2.2.2.2.2.2.1 j hj,
    fun j hj => by rw [va_up_ne _ _ (hne _ (by omega) (by omega))]; exact h.2.2.2.2.2.2.2.2.2.2.2.2.2.2.2.2.1 j hj,
    fun j hj => by rw [va_up_ne _ _ (hne _ (by omega) (by omega))]; exact h.2.2.2.2.2.2.2.2.2.2.2.2.2.2.2.2.2.1 j hj,
    fun j hj => by rw [va_up_ne _ _ (hne _ (by omega) (by omega))]; exact h.2.2.2.2.2.2.2.2.2.2.2.2.2.2.2.2.2.2.1 j hj,
    fun q x hq => by rw [va_up_ne _ _ (h.ne7 (h.2.2.2.2.2.2.2.2.2.2.2.2.2.2.2.2.2.2.2.1 q x hq) (by omega) (by omega))]; exact h.2.2.2.2.2.2.2.2.2.2.2.2.2.2.2.2.2.2.2.1 q x hq,
    fun j k hj hk => by
      obtain ⟨q, h1, h2⟩ := h.2.2.2.2.2.2.2.2.2.2.2.2.2.2.2.2.2.2.2.2 j k hj hk
      exact ⟨q, h1, by rw [va_up_ne _ _ (h.ne6 h2 (by omega) (by omega))]; exact h2⟩⟩
theorem SW.baO {cs : Nat → ClassId} {ad : Nat → Nat} {T : Sg} {jf : Nat → Nat → Option Nat} {w : fW} (h : SW cs ad T jf w) {i : Nat} (hi : i < 4) (n : Int32) : SW cs ad (setBa T i (n, (tBa T i).2)) jf (va_up w (ad (14 + i)) (some (.inr (0, [.ref (ad (18 + i)), .int n])))) := by
  have hne : ∀ t, t < 46 → t ≠ 14 + i → ad t ≠ ad (14 + i) := fun t h1 h2 => h.1.ne h1 (by omega) h2
  exact ⟨h.1,
    by rw [va_up_ne _ _ (hne _ (by omega) (by omega))]; exact h.2.1,
    by rw [va_up_ne _ _ (hne _ (by omega) (by omega))]; exact h.2.2.1,
    by rw [va_up_ne _ _ (hne _ (by omega) (by omega))]; exact h.2.2.2.1,
    by rw [va_up_ne _ _ (hne _ (by omega) (by omega))]; exact h.2.2.2.2.1,
    by rw [va_up_ne _ _ (hne _ (by omega) (by omega))]; exact h.2.2.2.2.2.1,
    by rw [va_up_ne _ _ (hne _ (by omega) (by omega))]; exact h.2.2.2.2.2.2.1,
    by rw [va_up_ne _ _ (hne _ (by omega) (by omega))]; exact h.2.2.2.2.2.2.2.1,
    by rw [va_up_ne _ _ (hne _ (by omega) (by omega))]; exact h.2.2.2.2.2.2.2.2.1,
    by rw [va_up_ne _ _ (hne _ (by omega) (by omega))]; exact h.2.2.2.2.2.2.2.2.2.1,
    fun j hj => by rw [va_up_ne _ _ (hne _ (by omega) (by omega))]; exact h.2.2.2.2.2.2.2.2.2.2.1 j hj,
    fun j hj => by
      by_cases hji : j = i
      · subst hji; rw [va_up_self, gBa, va_up_self]
      · rw [va_up_ne _ _ (hne _ (by omega) (by omega)), gBa, va_up_ne _ _ hji]; exact h.2.2.2.2.2.2.2.2.2.2.2.1 j hj,
    fun j hj => by rw [va_up_ne _ _ (hne _ (by omega) (by omega))]; exact (by
      by_cases hji : j = i
      · subst hji; rw [gBa, va_up_self]; exact h.2.2.2.2.2.2.2.2.2.2.2.2.1 j hj
      · rw [gBa, va_up_ne _ _ hji]; exact h.2.2.2.2.2.2.2.2.2.2.2.2.1 j hj),
    fun j hj => by rw [va_up_ne _ _ (hne _ (by omega) (by omega))]; exact h.2.2.2.2.2.2.2.2.2.2.2.2.2.1 j hj,
    fun j hj => by rw [va_up_ne _ _ (hne _ (by omega) (by omega))]; exact h.2.2.2.2.2.2.2.2.2.2.2.2.2.2.1 j hj,
    fun j hj => by rw [va_up_ne _ _ (hne _ (by omega) (by omega))]; exact h.2.2.2.2.2.2.2.2.2.2.2.2.2.2.2.1 j hj,
    fun j hj => by rw [va_up_ne _ _ (hne _ (by omega) (by omega))]; exact h.2.2.2.2.2.2.2.2.2.2.2.2.2.2.2.2.1 j hj,
    fun j hj => by rw [va_up_ne _ _ (hne _ (by omega) (by omega))]; exact h.2.2.2.2.2.2.2.2.2.2.2.2.2.2.2.2.2.1 j hj,
    fun j hj => by rw [va_up_ne _ _ (hne _ (by omega) (by omega))]; exact h.2.2.2.2.2.2.2.2.2.2.2.2.2.2.2.2.2.2.1 j hj,
    fun q x hq => by rw [va_up_ne _ _ (h.ne7 (h.2.2.2.2.2.2.2.2.2.2.2.2.2.2.2.2.2.2.2.1 q x hq) (by omega) (by omega))]; exact h.2.2.2.2.2.2.2.2.2.2.2.2.2.2.2.2.2.2.2.1 q x hq,
    fun j k hj hk => by
      obtain ⟨q, h1, h2⟩ := h.2.2.2.2.2.2.2.2.2.2.2.2.2.2.2.2.2.2.2.2 j k hj hk
      exact ⟨q, h1, by rw [va_up_ne _ _ (h.ne6 h2 (by omega) (by omega))]; exact h2⟩⟩
theorem SW.baA {cs : Nat → ClassId} {ad : Nat → Nat} {T : Sg} {jf : Nat → Nat → Option Nat} {w : fW} (h : SW cs ad T jf w) {i : Nat} (hi : i < 4) (f : Nat → Int32) : SW cs ad (setBa T i ((tBa T i).1, f)) jf (va_up w (ad (18 + i)) (some (.inl (cs 0, 12, .inl f)))) := by
  have hne : ∀ t, t < 46 → t ≠ 18 + i → ad t ≠ ad (18 + i) := fun t h1 h2 => h.1.ne h1 (by omega) h2
  exact ⟨h.1,
    by rw [va_up_ne _ _ (hne _ (by omega) (by omega))]; exact h.2.1,
    by rw [va_up_ne _ _ (hne _ (by omega) (by omega))]; exact h.2.2.1,
    by rw [va_up_ne _ _ (hne _ (by omega) (by omega))]; exact h.2.2.2.1,
    by rw [va_up_ne _ _ (hne _ (by omega) (by omega))]; exact h.2.2.2.2.1,
    by rw [va_up_ne _ _ (hne _ (by omega) (by omega))]; exact h.2.2.2.2.2.1,
    by rw [va_up_ne _ _ (hne _ (by omega) (by omega))]; exact h.2.2.2.2.2.2.1,
    by rw [va_up_ne _ _ (hne _ (by omega) (by omega))]; exact h.2.2.2.2.2.2.2.1,
    by rw [va_up_ne _ _ (hne _ (by omega) (by omega))]; exact h.2.2.2.2.2.2.2.2.1,
    by rw [va_up_ne _ _ (hne _ (by omega) (by omega))]; exact h.2.2.2.2.2.2.2.2.2.1,
    fun j hj => by rw [va_up_ne _ _ (hne _ (by omega) (by omega))]; exact h.2.2.2.2.2.2.2.2.2.2.1 j hj,
    fun j hj => by rw [va_up_ne _ _ (hne _ (by omega) (by omega))]; exact (by
      by_cases hji : j = i
      · subst hji; rw [gBa, va_up_self]; exact h.2.2.2.2.2.2.2.2.2.2.2.1 j hj
      · rw [gBa, va_up_ne _ _ hji]; exact h.2.2.2.2.2.2.2.2.2.2.2.1 j hj),
    fun j hj => by
      by_cases hji : j = i
      · subst hji; rw [va_up_self, gBa, va_up_self]
      · rw [va_up_ne _ _ (hne _ (by omega) (by omega)), gBa, va_up_ne _ _ hji]; exact h.2.2.2.2.2.2.2.2.2.2.2.2.1 j hj,
    fun j hj => by rw [va_up_ne _ _ (hne _ (by omega) (by omega))]; exact h.2.2.2.2.2.2.2.2.2.2.2.2.2.1 j hj,
    fun j hj => by rw [va_up_ne _ _ (hne _ (by omega) (by omega))]; exact h.2.2.2.2.2.2.2.2.2.2.2.2.2.2.1 j hj,
    fun j hj => by rw [va_up_ne _ _ (hne _ (by omega) (by omega))]; exact h.2.2.2.2.2.2.2.2.2.2.2.2.2.2.2.1 j hj,
    fun j hj => by rw [va_up_ne _ _ (hne _ (by omega) (by omega))]; exact h.2.2.2.2.2.2.2.2.2.2.2.2.2.2.2.2.1 j hj,
    fun j hj => by rw [va_up_ne _ _ (hne _ (by omega) (by omega))]; exact h.2.2.2.2.2.2.2.2.2.2.2.2.2.2.2.2.2.1 j hj,
    fun j hj => by rw [va_up_ne _ _ (hne _ (by omega) (by omega))]; exact h.2.2.2.2.2.2.2.2.2.2.2.2.2.2.2.2.2.2.1 j hj,
    fun q x hq => by rw [va_up_ne _ _ (h.ne7 (h.2.2.2.2.2.2.2.2.2.2.2.2.2.2.2.2.2.2.2.1 q x hq) (by omega) (by omega))]; exact h.2.2.2.2.2.2.2.2.2.2.2.2.2.2.2.2.2.2.2.1 q x hq,
    fun j k hj hk => by
      obtain ⟨q, h1, h2⟩ := h.2.2.2.2.2.2.2.2.2.2.2.2.2.2.2.2.2.2.2.2 j k hj hk
      exact ⟨q, h1, by rw [va_up_ne _ _ (h.ne6 h2 (by omega) (by omega))]; exact h2⟩⟩
theorem SW.raO {cs : Nat → ClassId} {ad : Nat → Nat} {T : Sg} {jf : Nat → Nat → Option Nat} {w : fW} (h : SW cs ad T jf w) {i : Nat} (hi : i < 4) (n : Int32) (b : Bool) : SW cs ad (setRa T i (n, b, (tRa T i).2.2)) jf (va_up w (ad (22 + i)) (some (.inr (3, [.ref (ad (26 + i)), .int n, .int (bz b)])))) := by
  have hne : ∀ t, t < 46 → t ≠ 22 + i → ad t ≠ ad (22 + i) := fun t h1 h2 => h.1.ne h1 (by omega) h2
  exact ⟨h.1,
    by rw [va_up_ne _ _ (hne _ (by omega) (by omega))]; exact h.2.1,
    by rw [va_up_ne _ _ (hne _ (by omega) (by omega))]; exact h.2.2.1,
    by rw [va_up_ne _ _ (hne _ (by omega) (by omega))]; exact h.2.2.2.1,
    by rw [va_up_ne _ _ (hne _ (by omega) (by omega))]; exact h.2.2.2.2.1,
    by rw [va_up_ne _ _ (hne _ (by omega) (by omega))]; exact h.2.2.2.2.2.1,
    by rw [va_up_ne _ _ (hne _ (by omega) (by omega))]; exact h.2.2.2.2.2.2.1,
    by rw [va_up_ne _ _ (hne _ (by omega) (by omega))]; exact h.2.2.2.2.2.2.2.1,
    by rw [va_up_ne _ _ (hne _ (by omega) (by omega))]; exact h.2.2.2.2.2.2.2.2.1,
    by rw [va_up_ne _ _ (hne _ (by omega) (by omega))]; exact h.2.2.2.2.2.2.2.2.2.1,
    fun j hj => by rw [va_up_ne _ _ (hne _ (by omega) (by omega))]; exact h.2.2.2.2.2.2.2.2.2.2.1 j hj,
    fun j hj => by rw [va_up_ne _ _ (hne _ (by omega) (by omega))]; exact h.2.2.2.2.2.2.2.2.2.2.2.1 j hj,
    fun j hj => by rw [va_up_ne _ _ (hne _ (by omega) (by omega))]; exact h.2.2.2.2.2.2.2.2.2.2.2.2.1 j hj,
    fun j hj => by
      by_cases hji : j = i
      · subst hji; rw [va_up_self, gRa, va_up_self]
      · rw [va_up_ne _ _ (hne _ (by omega) (by omega)), gRa, va_up_ne _ _ hji]; exact h.2.2.2.2.2.2.2.2.2.2.2.2.2.1 j hj,
    fun j hj => by rw [va_up_ne _ _ (hne _ (by omega) (by omega))]; exact (by
      by_cases hji : j = i
      · subst hji; rw [gRa, va_up_self]; exact h.2.2.2.2.2.2.2.2.2.2.2.2.2.2.1 j hj
      · rw [gRa, va_up_ne _ _ hji]; exact h.2.2.2.2.2.2.2.2.2.2.2.2.2.2.1 j hj),
    fun j hj => by rw [va_up_ne _ _ (hne _ (by omega) (by omega))]; exact h.2.2.2.2.2.2.2.2.2.2.2.2.2.2.2.1 j hj,
    fun j hj => by rw [va_up_ne _ _ (hne _ (by omega) (by omega))]; exact h.2.2.2.2.2.2.2.2.2.2.2.2.2.2.2.2.1 j hj,
    fun j hj => by rw [va_up_ne _ _ (hne _ (by omega) (by omega))]; exact h.2.2.2.2.2.2.2.2.2.2.2.2.2.2.2.2.2.1 j hj,
    fun j hj => by rw [va_up_ne _ _ (hne _ (by omega) (by omega))]; exact h.2.2.2.2.2.2.2.2.2.2.2.2.2.2.2.2.2.2.1 j hj,
    fun q x hq => by rw [va_up_ne _ _ (h.ne7 (h.2.2.2.2.2.2.2.2.2.2.2.2.2.2.2.2.2.2.2.1 q x hq) (by omega) (by omega))]; exact h.2.2.2.2.2.2.2.2.2.2.2.2.2.2.2.2.2.2.2.1 q x hq,
    fun j k hj hk => by
      obtain ⟨q, h1, h2⟩ := h.2.2.2.2.2.2.2.2.2.2.2.2.2.2.2.2.2.2.2.2 j k hj hk
      exact ⟨q, h1, by rw [va_up_ne _ _ (h.ne6 h2 (by omega) (by omega))]; exact h2⟩⟩
theorem SW.raA {cs : Nat → ClassId} {ad : Nat → Nat} {T : Sg} {jf : Nat → Nat → Option Nat} {w : fW} (h : SW cs ad T jf w) {i : Nat} (hi : i < 4) (f : Nat → Option Nat) : SW cs ad (setRa T i ((tRa T i).1, (tRa T i).2.1, f)) jf (va_up w (ad (26 + i)) (some (.inl (cs 7, 12, .inr (.inr (.inr (.inr f))))))) := by
  have hne : ∀ t, t < 46 → t ≠ 26 + i → ad t ≠ ad (26 + i) := fun t h1 h2 => h.1.ne h1 (by omega) h2
  exact ⟨h.1,
    by rw [va_up_ne _ _ (hne _ (by omega) (by omega))]; exact h.2.1,
    by rw [va_up_ne _ _ (hne _ (by omega) (by omega))]; exact h.2.2.1,
    by rw [va_up_ne _ _ (hne _ (by omega) (by omega))]; exact h.2.2.2.1,
    by rw [va_up_ne _ _ (hne _ (by omega) (by omega))]; exact h.2.2.2.2.1,
    by rw [va_up_ne _ _ (hne _ (by omega) (by omega))]; exact h.2.2.2.2.2.1,
    by rw [va_up_ne _ _ (hne _ (by omega) (by omega))]; exact h.2.2.2.2.2.2.1,
    by rw [va_up_ne _ _ (hne _ (by omega) (by omega))]; exact h.2.2.2.2.2.2.2.1,
    by rw [va_up_ne _ _ (hne _ (by omega) (by omega))]; exact h.2.2.2.2.2.2.2.2.1,
    by rw [va_up_ne _ _ (hne _ (by omega) (by omega))]; exact h.2.2.2.2.2.2.2.2.2.1,
    fun j hj => by rw [va_up_ne _ _ (hne _ (by omega) (by omega))]; exact h.2.2.2.2.2.2.2.2.2.2.1 j hj,
    fun j hj => by rw [va_up_ne _ _ (hne _ (by omega) (by omega))]; exact h.2.2.2.2.2.2.2.2.2.2.2.1 j hj,
    fun j hj => by rw [va_up_ne _ _ (hne _ (by omega) (by omega))]; exact h.2.2.2.2.2.2.2.2.2.2.2.2.1 j hj,
    fun j hj => by rw [va_up_ne _ _ (hne _ (by omega) (by omega))]; exact (by
      by_cases hji : j = i
      · subst hji; rw [gRa, va_up_self]; exact h.2.2.2.2.2.2.2.2.2.2.2.2.2.1 j hj
      · rw [gRa, va_up_ne _ _ hji]; exact h.2.2.2.2.2.2.2.2.2.2.2.2.2.1 j hj),
    fun j hj => by
      by_cases hji : j = i
      · subst hji; rw [va_up_self, gRa, va_up_self]
      · rw [va_up_ne _ _ (hne _ (by omega) (by omega)), gRa, va_up_ne _ _ hji]; exact h.2.2.2.2.2.2.2.2.2.2.2.2.2.2.1 j hj,
    fun j hj => by rw [va_up_ne _ _ (hne _ (by omega) (by omega))]; exact h.2.2.2.2.2.2.2.2.2.2.2.2.2.2.2.1 j hj,
    fun j hj => by rw [va_up_ne _ _ (hne _ (by omega) (by omega))]; exact h.2.2.2.2.2.2.2.2.2.2.2.2.2.2.2.2.1 j hj,
    fun j hj => by rw [va_up_ne _ _ (hne _ (by omega) (by omega))]; exact h.2.2.2.2.2.2.2.2.2.2.2.2.2.2.2.2.2.1 j hj,
    fun j hj => by rw [va_up_ne _ _ (hne _ (by omega) (by omega))]; exact h.2.2.2.2.2.2.2.2.2.2.2.2.2.2.2.2.2.2.1 j hj,
    fun q x hq => by rw [va_up_ne _ _ (h.ne7 (h.2.2.2.2.2.2.2.2.2.2.2.2.2.2.2.2.2.2.2.1 q x hq) (by omega) (by omega))]; exact h.2.2.2.2.2.2.2.2.2.2.2.2.2.2.2.2.2.2.2.1 q x hq,
    fun j k hj hk => by
      obtain ⟨q, h1, h2⟩ := h.2.2.2.2.2.2.2.2.2.2.2.2.2.2.2.2.2.2.2.2 j k hj hk
      exact ⟨q, h1, by rw [va_up_ne _ _ (h.ne6 h2 (by omega) (by omega))]; exact h2⟩⟩
theorem SW.grO {cs : Nat → ClassId} {ad : Nat → Nat} {T : Sg} {jf : Nat → Nat → Option Nat} {w : fW} (h : SW cs ad T jf w) {i : Nat} (hi : i < 4) (n k : Int32) : SW cs ad (setGr T i (n, k, (tGr T i).2.2)) jf (va_up w (ad (30 + i)) (some (.inr (1, [.ref (ad (34 + i)), .int n, .int k])))) := by
  have hne : ∀ t, t < 46 → t ≠ 30 + i → ad t ≠ ad (30 + i) := fun t h1 h2 => h.1.ne h1 (by omega) h2
  exact ⟨h.1,
    by rw [va_up_ne _ _ (hne _ (by omega) (by omega))]; exact h.2.1,
    by rw [va_up_ne _ _ (hne _ (by omega) (by omega))]; exact h.2.2.1,
    by rw [va_up_ne _ _ (hne _ (by omega) (by omega))]; exact h.2.2.2.1,
    by rw [va_up_ne _ _ (hne _ (by omega) (by omega))]; exact h.2.2.2.2.1,
    by rw [va_up_ne _ _ (hne _ (by omega) (by omega))]; exact h.2.2.2.2.2.1,
    by rw [va_up_ne _ _ (hne _ (by omega) (by omega))]; exact h.2.2.2.2.2.2.1,
    by rw [va_up_ne _ _ (hne _ (by omega) (by omega))]; exact h.2.2.2.2.2.2.2.1,
    by rw [va_up_ne _ _ (hne _ (by omega) (by omega))]; exact h.2.2.2.2.2.2.2.2.1,
    by rw [va_up_ne _ _ (hne _ (by omega) (by omega))]; exact h.2.2.2.2.2.2.2.2.2.1,
    fun j hj => by rw [va_up_ne _ _ (hne _ (by omega) (by omega))]; exact h.2.2.2.2.2.2.2.2.2.2.1 j hj,
    fun j hj => by rw [va_up_ne _ _ (hne _ (by omega) (by omega))]; exact h.2.2.2.2.2.2.2.2.2.2.2.1 j hj,
    fun j hj => by rw [va_up_ne _ _ (hne _ (by omega) (by omega))]; exact h.2.2.2.2.2.2.2.2.2.2.2.2.1 j hj,
    fun j hj => by rw [va_up_ne _ _ (hne _ (by omega) (by omega))]; exact h.2.2.2.2.2.2.2.2.2.2.2.2.2.1 j hj,
    fun j hj => by rw [va_up_ne _ _ (hne _ (by omega) (by omega))]; exact h.2.2.2.2.2.2.2.2.2.2.2.2.2.2.1 j hj,
    fun j hj => by
      by_cases hji : j = i
      · subst hji; rw [va_up_self, gGr, va_up_self]
      · rw [va_up_ne _ _ (hne _ (by omega) (by omega)), gGr, va_up_ne _ _ hji]; exact h.2.2.2.2.2.2.2.2.2.2.2.2.2.2.2.1 j hj,
    fun j hj => by rw [va_up_ne _ _ (hne _ (by omega) (by omega))]; exact (by
      by_cases hji : j = i
      · subst hji; rw [gGr, va_up_self]; exact h.2.2.2.2.2.2.2.2.2.2.2.2.2.2.2.2.1 j hj
      · rw [gGr, va_up_ne _ _ hji]; exact h.2.2.2.2.2.2.2.2.2.2.2.2.2.2.2.2.1 j hj),
    fun j hj => by rw [va_up_ne _ _ (hne _ (by omega) (by omega))]; exact h.2.2.2.2.2.2.2.2.2.2.2.2.2.2.2.2.2.1 j hj,
    fun j hj => by rw [va_up_ne _ _ (hne _ (by omega) (by omega))]; exact h.2.2.2.2.2.2.2.2.2.2.2.2.2.2.2.2.2.2.1 j hj,
    fun q x hq => by rw [va_up_ne _ _ (h.ne7 (h.2.2.2.2.2.2.2.2.2.2.2.2.2.2.2.2.2.2.2.1 q x hq) (by omega) (by omega))]; exact h.2.2.2.2.2.2.2.2.2.2.2.2.2.2.2.2.2.2.2.1 q x hq,
    fun j k hj hk => by
      obtain ⟨q, h1, h2⟩ := h.2.2.2.2.2.2.2.2.2.2.2.2.2.2.2.2.2.2.2.2 j k hj hk
      exact ⟨q, h1, by rw [va_up_ne _ _ (h.ne6 h2 (by omega) (by omega))]; exact h2⟩⟩
theorem SW.grA {cs : Nat → ClassId} {ad : Nat → Nat} {T : Sg} {jf : Nat → Nat → Option Nat} {w : fW} (h : SW cs ad T jf w) {i : Nat} (hi : i < 4) (f : Nat → Int32) : SW cs ad (setGr T i ((tGr T i).1, (tGr T i).2.1, f)) jf (va_up w (ad (34 + i)) (some (.inl (cs 0, 144, .inl f)))) := by
  have hne : ∀ t, t < 46 → t ≠ 34 + i → ad t ≠ ad (34 + i) := fun t h1 h2 => h.1.ne h1 (by omega) h2
  exact ⟨h.1,
    by rw [va_up_ne _ _ (hne _ (by omega) (by omega))]; exact h.2.1,
    by rw [va_up_ne _ _ (hne _ (by omega) (by omega))]; exact h.2.2.1,
    by rw [va_up_ne _ _ (hne _ (by omega) (by omega))]; exact h.2.2.2.1,
    by rw [va_up_ne _ _ (hne _ (by omega) (by omega))]; exact h.2.2.2.2.1,
    by rw [va_up_ne _ _ (hne _ (by omega) (by omega))]; exact h.2.2.2.2.2.1,
    by rw [va_up_ne _ _ (hne _ (by omega) (by omega))]; exact h.2.2.2.2.2.2.1,
    by rw [va_up_ne _ _ (hne _ (by omega) (by omega))]; exact h.2.2.2.2.2.2.2.1,
    by rw [va_up_ne _ _ (hne _ (by omega) (by omega))]; exact h.2.2.2.2.2.2.2.2.1,
    by rw [va_up_ne _ _ (hne _ (by omega) (by omega))]; exact h.2.2.2.2.2.2.2.2.2.1,
    fun j hj => by rw [va_up_ne _ _ (hne _ (by omega) (by omega))]; exact h.2.2.2.2.2.2.2.2.2.2.1 j hj,
    fun j hj => by rw [va_up_ne _ _ (hne _ (by omega) (by omega))]; exact h.2.2.2.2.2.2.2.2.2.2.2.1 j hj,
    fun j hj => by rw [va_up_ne _ _ (hne _ (by omega) (by omega))]; exact h.2.2.2.2.2.2.2.2.2.2.2.2.1 j hj,
    fun j hj => by rw [va_up_ne _ _ (hne _ (by omega) (by omega))]; exact h.2.2.2.2.2.2.2.2.2.2.2.2.2.1 j hj,
    fun j hj => by rw [va_up_ne _ _ (hne _ (by omega) (by omega))]; exact h.2.2.2.2.2.2.2.2.2.2.2.2.2.2.1 j hj,
    fun j hj => by rw [va_up_ne _ _ (hne _ (by omega) (by omega))]; exact (by
      by_cases hji : j = i
      · subst hji; rw [gGr, va_up_self]; exact h.2.2.2.2.2.2.2.2.2.2.2.2.2.2.2.1 j hj
      · rw [gGr, va_up_ne _ _ hji]; exact h.2.2.2.2.2.2.2.2.2.2.2.2.2.2.2.1 j hj),
    fun j hj => by
      by_cases hji : j = i
      · subst hji; rw [va_up_self, gGr, va_up_self]
      · rw [va_up_ne _ _ (hne _ (by omega) (by omega)), gGr, va_up_ne _ _ hji]; exact h.2.2.2.2.2.2.2.2.2.2.2.2.2.2.2.2.1 j hj,
    fun j hj => by rw [va_up_ne _ _ (hne _ (by omega) (by omega))]; exact h.2.2.2.2.2.2.2.2.2.2.2.2.2.2.2.2.2.1 j hj,
    fun j hj => by rw [va_up_ne _ _ (hne _ (by omega) (by omega))]; exact h.2.2.2.2.2.2.2.2.2.2.2.2.2.2.2.2.2.2.1 j hj,
    fun q x hq => by rw [va_up_ne _ _ (h.ne7 (h.2.2.2.2.2.2.2.2.2.2.2.2.2.2.2.2.2.2.2.1 q x hq) (by omega) (by omega))]; exact h.2.2.2.2.2.2.2.2.2.2.2.2.2.2.2.2.2.2.2.1 q x hq,
    fun j k hj hk => by
      obtain ⟨q, h1, h2⟩ := h.2.2.2.2.2.2.2.2.2.2.2.2.2.2.2.2.2.2.2.2 j k hj hk
      exact ⟨q, h1, by rw [va_up_ne _ _ (h.ne6 h2 (by omega) (by omega))]; exact h2⟩⟩
theorem SW.ex {cs : Nat → ClassId} {ad : Nat → Nat} {T : Sg} {jf : Nat → Nat → Option Nat} {w : fW} (h : SW cs ad T jf w) (f : Nat → Int32) : SW cs ad (setEx T f) jf (va_up w (ad (6)) (some (.inl (cs 0, 4, .inl f)))) := by
  have hne : ∀ t, t < 46 → t ≠ 6 → ad t ≠ ad (6) := fun t h1 h2 => h.1.ne h1 (by omega) h2
  exact ⟨h.1,
    by rw [va_up_ne _ _ (hne _ (by omega) (by omega))]; exact h.2.1,
    by rw [va_up_ne _ _ (hne _ (by omega) (by omega))]; exact h.2.2.1,
    by rw [va_up_ne _ _ (hne _ (by omega) (by omega))]; exact h.2.2.2.1,
    by rw [va_up_ne _ _ (hne _ (by omega) (by omega))]; exact h.2.2.2.2.1,
    by rw [va_up_ne _ _ (hne _ (by omega) (by omega))]; exact h.2.2.2.2.2.1,
    by rw [va_up_ne _ _ (hne _ (by omega) (by omega))]; exact h.2.2.2.2.2.2.1,
    va_up_self _ _ _,
    by rw [va_up_ne _ _ (hne _ (by omega) (by omega))]; exact h.2.2.2.2.2.2.2.2.1,
    by rw [va_up_ne _ _ (hne _ (by omega) (by omega))]; exact h.2.2.2.2.2.2.2.2.2.1,
    fun j hj => by rw [va_up_ne _ _ (hne _ (by omega) (by omega))]; exact h.2.2.2.2.2.2.2.2.2.2.1 j hj,
    fun j hj => by rw [va_up_ne _ _ (hne _ (by omega) (by omega))]; exact h.2.2.2.2.2.2.2.2.2.2.2.1 j hj,
    fun j hj => by rw [va_up_ne _ _ (hne _ (by omega) (by omega))]; exact h.2.2.2.2.2.2.2.2.2.2.2.2.1 j hj,
    fun j hj => by rw [va_up_ne _ _ (hne _ (by omega) (by omega))]; exact h.2.2.2.2.2.2.2.2.2.2.2.2.2.1 j hj,
    fun j hj => by rw [va_up_ne _ _ (hne _ (by omega) (by omega))]; exact h.2.2.2.2.2.2.2.2.2.2.2.2.2.2.1 j hj,
    fun j hj => by rw [va_up_ne _ _ (hne _ (by omega) (by omega))]; exact h.2.2.2.2.2.2.2.2.2.2.2.2.2.2.2.1 j hj,
    fun j hj => by rw [va_up_ne _ _ (hne _ (by omega) (by omega))]; exact h.2.2.2.2.2.2.2.2.2.2.2.2.2.2.2.2.1 j hj,
    fun j hj => by rw [va_up_ne _ _ (hne _ (by omega) (by omega))]; exact h.2.2.2.2.2.2.2.2.2.2.2.2.2.2.2.2.2.1 j hj,
    fun j hj => by rw [va_up_ne _ _ (hne _ (by omega) (by omega))]; exact h.2.2.2.2.2.2.2.2.2.2.2.2.2.2.2.2.2.2.1 j hj,
    fun q x hq => by rw [va_up_ne _ _ (h.ne7 (h.2.2.2.2.2.2.2.2.2.2.2.2.2.2.2.2.2.2.2.1 q x hq) (by omega) (by omega))]; exact h.2.2.2.2.2.2.2.2.2.2.2.2.2.2.2.2.2.2.2.1 q x hq,
    fun j k hj hk => by
      obtain ⟨q, h1, h2⟩ := h.2.2.2.2.2.2.2.2.2.2.2.2.2.2.2.2.2.2.2.2 j k hj hk
      exact ⟨q, h1, by rw [va_up_ne _ _ (h.ne6 h2 (by omega) (by omega))]; exact h2⟩⟩
theorem SW.ta {cs : Nat → ClassId} {ad : Nat → Nat} {T : Sg} {jf : Nat → Nat → Option Nat} {w : fW} (h : SW cs ad T jf w) (f : Nat → Int32) : SW cs ad (setTa T f) jf (va_up w (ad (7)) (some (.inl (cs 0, 8, .inl f)))) := by
  have hne : ∀ t, t < 46 → t ≠ 7 → ad t ≠ ad (7) := fun t h1 h2 => h.1.ne h1 (by omega) h2
  exact ⟨h.1,
    by rw [va_up_ne _ _ (hne _ (by omega) (by omega))]; exact h.2.1,
    by rw [va_up_ne _ _ (hne _ (by omega) (by omega))]; exact h.2.2.1,
    by rw [va_up_ne _ _ (hne _ (by omega) (by omega))]; exact h.2.2.2.1,
    by rw [va_up_ne _ _ (hne _ (by omega) (by omega))]; exact h.2.2.2.2.1,
    by rw [va_up_ne _ _ (hne _ (by omega) (by omega))]; exact h.2.2.2.2.2.1,
    by rw [va_up_ne _ _ (hne _ (by omega) (by omega))]; exact h.2.2.2.2.2.2.1,
    by rw [va_up_ne _ _ (hne _ (by omega) (by omega))]; exact h.2.2.2.2.2.2.2.1,
    va_up_self _ _ _,
    by rw [va_up_ne _ _ (hne _ (by omega) (by omega))]; exact h.2.2.2.2.2.2.2.2.2.1,
    fun j hj => by rw [va_up_ne _ _ (hne _ (by omega) (by omega))]; exact h.2.2.2.2.2.2.2.2.2.2.1 j hj,
    fun j hj => by rw [va_up_ne _ _ (hne _ (by omega) (by omega))]; exact h.2.2.2.2.2.2.2.2.2.2.2.1 j hj,
    fun j hj => by rw [va_up_ne _ _ (hne _ (by omega) (by omega))]; exact h.2.2.2.2.2.2.2.2.2.2.2.2.1 j hj,
    fun j hj => by rw [va_up_ne _ _ (hne _ (by omega) (by omega))]; exact h.2.2.2.2.2.2.2.2.2.2.2.2.2.1 j hj,
    fun j hj => by rw [va_up_ne _ _ (hne _ (by omega) (by omega))]; exact h.2.2.2.2.2.2.2.2.2.2.2.2.2.2.1 j hj,
    fun j hj => by rw [va_up_ne _ _ (hne _ (by omega) (by omega))]; exact h.2.2.2.2.2.2.2.2.2.2.2.2.2.2.2.1 j hj,
    fun j hj => by rw [va_up_ne _ _ (hne _ (by omega) (by omega))]; exact h.2.2.2.2.2.2.2.2.2.2.2.2.2.2.2.2.1 j hj,
    fun j hj => by rw [va_up_ne _ _ (hne _ (by omega) (by omega))]; exact h.2.2.2.2.2.2.2.2.2.2.2.2.2.2.2.2.2.1 j hj,
    fun j hj => by rw [va_up_ne _ _ (hne _ (by omega) (by omega))]; exact h.2.2.2.2.2.2.2.2.2.2.2.2.2.2.2.2.2.2.1 j hj,
    fun q x hq => by rw [va_up_ne _ _ (h.ne7 (h.2.2.2.2.2.2.2.2.2.2.2.2.2.2.2.2.2.2.2.1 q x hq) (by omega) (by omega))]; exact h.2.2.2.2.2.2.2.2.2.2.2.2.2.2.2.2.2.2.2.1 q x hq,
    fun j k hj hk => by
      obtain ⟨q, h1, h2⟩ := h.2.2.2.2.2.2.2.2.2.2.2.2.2.2.2.2.2.2.2.2 j k hj hk
      exact ⟨q, h1, by rw [va_up_ne _ _ (h.ne6 h2 (by omega) (by omega))]; exact h2⟩⟩
theorem SW.re {cs : Nat → ClassId} {ad : Nat → Nat} {T : Sg} {jf : Nat → Nat → Option Nat} {w : fW} (h : SW cs ad T jf w) (x : aRe) : SW cs ad (setRe T x) jf (va_up w (ad (8)) (some (cRe x))) := by
  have hne : ∀ t, t < 46 → t ≠ 8 → ad t ≠ ad (8) := fun t h1 h2 => h.1.ne h1 (by omega) h2
  exact ⟨h.1,
    by rw [va_up_ne _ _ (hne _ (by omega) (by omega))]; exact h.2.1,
    by rw [va_up_ne _ _ (hne _ (by omega) (by omega))]; exact h.2.2.1,
    by rw [va_up_ne _ _ (hne _ (by omega) (by omega))]; exact h.2.2.2.1,
    by rw [va_up_ne _ _ (hne _ (by omega) (by omega))]; exact h.2.2.2.2.1,
    by rw [va_up_ne _ _ (hne _ (by omega) (by omega))]; exact h.2.2.2.2.2.1,
    by rw [va_up_ne _ _ (hne _ (by omega) (by omega))]; exact h.2.2.2.2.2.2.1,
    by rw [va_up_ne _ _ (hne _ (by omega) (by omega))]; exact h.2.2.2.2.2.2.2.1,
    by rw [va_up_ne _ _ (hne _ (by omega) (by omega))]; exact h.2.2.2.2.2.2.2.2.1,
    va_up_self _ _ _,
    fun j hj => by rw [va_up_ne _ _ (hne _ (by omega) (by omega))]; exact h.2.2.2.2.2.2.2.2.2.2.1 j hj,
    fun j hj => by rw [va_up_ne _ _ (hne _ (by omega) (by omega))]; exact h.2.2.2.2.2.2.2.2.2.2.2.1 j hj,
    fun j hj => by rw [va_up_ne _ _ (hne _ (by omega) (by omega))]; exact h.2.2.2.2.2.2.2.2.2.2.2.2.1 j hj,
    fun j hj => by rw [va_up_ne _ _ (hne _ (by omega) (by omega))]; exact h.2.2.2.2.2.2.2.2.2.2.2.2.2.1 j hj,
    fun j hj => by rw [va_up_ne _ _ (hne _ (by omega) (by omega))]; exact h.2.2.2.2.2.2.2.2.2.2.2.2.2.2.1 j hj,
    fun j hj => by rw [va_up_ne _ _ (hne _ (by omega) (by omega))]; exact h.2.2.2.2.2.2.2.2.2.2.2.2.2.2.2.1 j hj,
    fun j hj => by rw [va_up_ne _ _ (hne _ (by omega) (by omega))]; exact h.2.2.2.2.2.2.2.2.2.2.2.2.2.2.2.2.1 j hj,
    fun j hj => by rw [va_up_ne _ _ (hne _ (by omega) (by omega))]; exact h.2.2.2.2.2.2.2.2.2.2.2.2.2.2.2.2.2.1 j hj,
    fun j hj => by rw [va_up_ne _ _ (hne _ (by omega) (by omega))]; exact h.2.2.2.2.2.2.2.2.2.2.2.2.2.2.2.2.2.2.1 j hj,
    fun q x hq => by rw [va_up_ne _ _ (h.ne7 (h.2.2.2.2.2.2.2.2.2.2.2.2.2.2.2.2.2.2.2.1 q x hq) (by omega) (by omega))]; exact h.2.2.2.2.2.2.2.2.2.2.2.2.2.2.2.2.2.2.2.1 q x hq,
    fun j k hj hk => by
      obtain ⟨q, h1, h2⟩ := h.2.2.2.2.2.2.2.2.2.2.2.2.2.2.2.2.2.2.2.2 j k hj hk
      exact ⟨q, h1, by rw [va_up_ne _ _ (h.ne6 h2 (by omega) (by omega))]; exact h2⟩⟩
theorem SW.joE {cs : Nat → ClassId} {ad : Nat → Nat} {T : Sg} {jf : Nat → Nat → Option Nat} {w : fW} (h : SW cs ad T jf w) {i : Nat} (hi : i < 4)  : SW cs ad (setJo T i (0, (tJo T i).2)) jf (va_up w (ad (38 + i)) (some (.inr (2, [.ref (ad (42 + i)), .int 0])))) := by
  have hne : ∀ t, t < 46 → t ≠ 38 + i → ad t ≠ ad (38 + i) := fun t h1 h2 => h.1.ne h1 (by omega) h2
  exact ⟨h.1,
    by rw [va_up_ne _ _ (hne _ (by omega) (by omega))]; exact h.2.1,
    by rw [va_up_ne _ _ (hne _ (by omega) (by omega))]; exact h.2.2.1,
    by rw [va_up_ne _ _ (hne _ (by omega) (by omega))]; exact h.2.2.2.1,
    by rw [va_up_ne _ _ (hne _ (by omega) (by omega))]; exact h.2.2.2.2.1,
    by rw [va_up_ne _ _ (hne _ (by omega) (by omega))]; exact h.2.2.2.2.2.1,
    by rw [va_up_ne _ _ (hne _ (by omega) (by omega))]; exact h.2.2.2.2.2.2.1,
    by rw [va_up_ne _ _ (hne _ (by omega) (by omega))]; exact h.2.2.2.2.2.2.2.1,
    by rw [va_up_ne _ _ (hne _ (by omega) (by omega))]; exact h.2.2.2.2.2.2.2.2.1,
    by rw [va_up_ne _ _ (hne _ (by omega) (by omega))]; exact h.2.2.2.2.2.2.2.2.2.1,
    fun j hj => by rw [va_up_ne _ _ (hne _ (by omega) (by omega))]; exact h.2.2.2.2.2.2.2.2.2.2.1 j hj,
    fun j hj => by rw [va_up_ne _ _ (hne _ (by omega) (by omega))]; exact h.2.2.2.2.2.2.2.2.2.2.2.1 j hj,
    fun j hj => by rw [va_up_ne _ _ (hne _ (by omega) (by omega))]; exact h.2.2.2.2.2.2.2.2.2.2.2.2.1 j hj,
    fun j hj => by rw [va_up_ne _ _ (hne _ (by omega) (by omega))]; exact h.2.2.2.2.2.2.2.2.2.2.2.2.2.1 j hj,
    fun j hj => by rw [va_up_ne _ _ (hne _ (by omega) (by omega))]; exact h.2.2.2.2.2.2.2.2.2.2.2.2.2.2.1 j hj,
    fun j hj => by rw [va_up_ne _ _ (hne _ (by omega) (by omega))]; exact h.2.2.2.2.2.2.2.2.2.2.2.2.2.2.2.1 j hj,
    fun j hj => by rw [va_up_ne _ _ (hne _ (by omega) (by omega))]; exact h.2.2.2.2.2.2.2.2.2.2.2.2.2.2.2.2.1 j hj,
    fun j hj => by
      by_cases hji : j = i
      · subst hji; rw [va_up_self, gJo, va_up_self]
      · rw [va_up_ne _ _ (hne _ (by omega) (by omega)), gJo, va_up_ne _ _ hji]; exact h.2.2.2.2.2.2.2.2.2.2.2.2.2.2.2.2.2.1 j hj,
    fun j hj => by rw [va_up_ne _ _ (hne _ (by omega) (by omega))]; exact h.2.2.2.2.2.2.2.2.2.2.2.2.2.2.2.2.2.2.1 j hj,
    fun q x hq => by rw [va_up_ne _ _ (h.ne7 (h.2.2.2.2.2.2.2.2.2.2.2.2.2.2.2.2.2.2.2.1 q x hq) (by omega) (by omega))]; exact h.2.2.2.2.2.2.2.2.2.2.2.2.2.2.2.2.2.2.2.1 q x hq,
    fun j k hj hk => by
      by_cases hji : j = i
      · subst hji
        rw [gJo, va_up_self] at hk
        exact absurd hk (Nat.not_lt_zero _)
      · rw [gJo, va_up_ne _ _ hji] at hk ⊢
        obtain ⟨q, h1, h2⟩ := h.2.2.2.2.2.2.2.2.2.2.2.2.2.2.2.2.2.2.2.2 j k hj hk
        exact ⟨q, h1, by rw [va_up_ne _ _ (h.ne6 h2 (by omega) (by omega))]; exact h2⟩⟩
theorem SW.wh {cs : Nat → ClassId} {ad : Nat → Nat} {T : Sg} {jf : Nat → Nat → Option Nat} {w : fW} (h : SW cs ad T jf w) {q : Nat} {fs : List Value} (hq : w q = some (.inr (7, fs)) ∨ w q = none) (x : aWh) : SW cs ad (setWh T q x) jf (va_up w q (some (cWh x))) := by
  have hne : ∀ t, t < 46 → t ≠ 9 → ad t ≠ q := fun t h1 h2 => by
    rcases hq with hq | hq
    · exact (h.ne7 hq h1 h2).symm
    · obtain ⟨e, h3, -⟩ := h.fix h1 h2
      exact gx_ne h3 hq
  exact ⟨h.1,
    by rw [va_up_ne _ _ (hne _ (by omega) (by omega))]; exact h.2.1,
    by rw [va_up_ne _ _ (hne _ (by omega) (by omega))]; exact h.2.2.1,
    by rw [va_up_ne _ _ (hne _ (by omega) (by omega))]; exact h.2.2.2.1,
    by rw [va_up_ne _ _ (hne _ (by omega) (by omega))]; exact h.2.2.2.2.1,
    by rw [va_up_ne _ _ (hne _ (by omega) (by omega))]; exact h.2.2.2.2.2.1,
    by rw [va_up_ne _ _ (hne _ (by omega) (by omega))]; exact h.2.2.2.2.2.2.1,
    by rw [va_up_ne _ _ (hne _ (by omega) (by omega))]; exact h.2.2.2.2.2.2.2.1,
    by rw [va_up_ne _ _ (hne _ (by omega) (by omega))]; exact h.2.2.2.2.2.2.2.2.1,
    by rw [va_up_ne _ _ (hne _ (by omega) (by omega))]; exact h.2.2.2.2.2.2.2.2.2.1,
    fun j hj => by rw [va_up_ne _ _ (hne _ (by omega) (by omega))]; exact h.2.2.2.2.2.2.2.2.2.2.1 j hj,
    fun j hj => by rw [va_up_ne _ _ (hne _ (by omega) (by omega))]; exact h.2.2.2.2.2.2.2.2.2.2.2.1 j hj,
    fun j hj => by rw [va_up_ne _ _ (hne _ (by omega) (by omega))]; exact h.2.2.2.2.2.2.2.2.2.2.2.2.1 j hj,
    fun j hj => by rw [va_up_ne _ _ (hne _ (by omega) (by omega))]; exact h.2.2.2.2.2.2.2.2.2.2.2.2.2.1 j hj,
    fun j hj => by rw [va_up_ne _ _ (hne _ (by omega) (by omega))]; exact h.2.2.2.2.2.2.2.2.2.2.2.2.2.2.1 j hj,
    fun j hj => by rw [va_up_ne _ _ (hne _ (by omega) (by omega))]; exact h.2.2.2.2.2.2.2.2.2.2.2.2.2.2.2.1 j hj,
    fun j hj => by rw [va_up_ne _ _ (hne _ (by omega) (by omega))]; exact h.2.2.2.2.2.2.2.2.2.2.2.2.2.2.2.2.1 j hj,
    fun j hj => by rw [va_up_ne _ _ (hne _ (by omega) (by omega))]; exact h.2.2.2.2.2.2.2.2.2.2.2.2.2.2.2.2.2.1 j hj,
    fun j hj => by rw [va_up_ne _ _ (hne _ (by omega) (by omega))]; exact h.2.2.2.2.2.2.2.2.2.2.2.2.2.2.2.2.2.2.1 j hj,
    fun r y hr => by
      by_cases hrq : r = q
      · subst hrq
        rw [gWh, va_up_self] at hr
        rw [va_up_self]
        cases hr
        rfl
      · rw [gWh, va_up_ne _ _ hrq] at hr
        rw [va_up_ne _ _ hrq]
        exact h.2.2.2.2.2.2.2.2.2.2.2.2.2.2.2.2.2.2.2.1 r y hr,
    fun j k hj hk => by
      obtain ⟨r, h1, h2⟩ := h.2.2.2.2.2.2.2.2.2.2.2.2.2.2.2.2.2.2.2.2 j k hj hk
      refine ⟨r, h1, ?_⟩
      rw [va_up_ne]
      · exact h2
      · intro e
        rw [e] at h2
        rcases hq with hq | hq <;> rw [hq] at h2 <;> cases h2⟩
end
section
theorem gx_lk01 (x : Int32) : x = 0 ∨ x = 1 ∨ (¬ x = 0 ∧ ¬ x = 1) := by
  by_cases h : x = 0
  · exact Or.inl h
  · by_cases h2 : x = 1
    · exact Or.inr (Or.inl h2)
    · exact Or.inr (Or.inr ⟨h, h2⟩)
theorem gx_sw7_13 (x : Int32) : x = 7 ∨ x = 8 ∨ x = 9 ∨ x = 10 ∨ x = 11 ∨ x = 12 ∨ x = 13 ∨ (x.toInt < 7 ∨ 13 < x.toInt) := by
  rw [gx_i x 7 (a := 7) rfl, gx_i x 8 (a := 8) rfl, gx_i x 9 (a := 9) rfl, gx_i x 10 (a := 10) rfl, gx_i x 11 (a := 11) rfl, gx_i x 12 (a := 12) rfl, gx_i x 13 (a := 13) rfl]; omega
theorem wi17 {k : Int32} (h1 : ¬ k < 0) (h2 : ¬ 16 < k) : wi k 17 = true := by
  refine wi_t2 h1 (fun q => h2 ?_)
  have := Int32.le_iff_toInt_le.mp q
  have h3 : (17 : Int32).toInt = 17 := rfl
  have h4 : (16 : Int32).toInt = 16 := rfl
  exact Int32.lt_iff_toInt_lt.mpr (by omega)
theorem wi17f {k : Int32} (h2 : 16 < k) : wi k 17 = false := by
  refine wi_f2 ?_
  have := Int32.lt_iff_toInt_lt.mp h2
  have h3 : (17 : Int32).toInt = 17 := rfl
  have h4 : (16 : Int32).toInt = 16 := rfl
  exact Int32.le_iff_toInt_le.mpr (by omega)
/-! what holds of every state that comes -/
def lenI (n : Int32) : Prop := -1 ≤ n ∧ n ≤ 12
def stI (T : Sg) (x : aS) : Prop := (∀ q, x.2.2.1 = some q → (tWh T q).isSome = true) ∧ (∀ q, x.2.2.2.1 = some q → (tWh T q).isSome = true) ∧ (x.1 = false → x = (false, 0, none, none, 0, 0)) ∧ (x.2.2.2.2.1 = 0 ∨ x.2.2.2.2.1 = 1 ∨ x.2.2.2.2.1 = 2) ∧ (¬ x.2.2.2.2.1 = 2 → x.2.2.2.2.2 = 0)
def spI (x : aSp) : Prop := okS x.1 x.2.1 x.2.2.1 x.2.2.2.1 = true ∧ (x.2.2.2.2 = -1 ∨ wi x.2.2.2.2 16 = true)
def exI (e : Int32) : Prop := e = 1 ∨ e = 6 ∨ e = 7
def Inv (T : Sg) : Prop :=
  (∀ i, i < 4 → stI T (tSt T i)) ∧
  (∀ i, i < 4 → lenI (tBa T i).1) ∧
  (∀ i, i < 4 → lenI (tRa T i).1 ∧ ∀ j q, j < 12 → (tRa T i).2.2 j = some q → (tWh T q).isSome = true) ∧
  (∀ i, i < 4 → lenI (tGr T i).1 ∧ 0 ≤ (tGr T i).2.1 ∧ (tGr T i).2.1 ≤ 12) ∧
  (∀ j, j < 4 → 0 ≤ (tJo T j).1 ∧ (tJo T j).1 ≤ 16 ∧ ∀ k, k < ix (tJo T j).1 → spI ((tJo T j).2 k)) ∧
  (∀ i, i < 4 → exI (tEx T i))
theorem SW.whl {cs : Nat → ClassId} {ad : Nat → Nat} {T : Sg} {jf : Nat → Nat → Option Nat} {w : fW} (h : SW cs ad T jf w) {q : Nat} (hq : (tWh T q).isSome = true) : w q = some (cWh (W9 T q)) := by
  cases hx : tWh T q with
  | none => rw [hx] at hq; cases hq
  | some x =>
    have e : W9 T q = x := by show (tWh T q).getD _ = x; rw [hx]; rfl
    rw [e]
    exact h.2.2.2.2.2.2.2.2.2.2.2.2.2.2.2.2.2.2.2.1 q x hx
theorem SW.fr {cs : Nat → ClassId} {ad : Nat → Nat} {T : Sg} {jf : Nat → Nat → Option Nat} {w : fW} (h : SW cs ad T jf w) {q : Nat} (hq : w q = none) : tWh T q = none := by
  cases hx : tWh T q with
  | none => rfl
  | some x => have := h.2.2.2.2.2.2.2.2.2.2.2.2.2.2.2.2.2.2.2.1 q x hx; rw [hq] at this; cases this
theorem Inv.sd {T : Sg} (h : Inv T) {i q : Nat} (hi : i < 4) {b : Int32} (hq : sdw b (tSt T i).2.2.1 (tSt T i).2.2.2.1 = some q) : (tWh T q).isSome = true := by
  unfold sdw at hq
  split at hq
  · exact (h.1 i hi).1 q hq
  · exact (h.1 i hi).2.1 q hq
theorem ok_k {k a b d : Int32} (h : okS k a b d = true) : wi k 17 = true := by
  unfold okS at h
  exact (Bool.and_eq_true_iff.mp h).1
theorem ok_a {k a b d : Int32} (h : okS k a b d = true) : wi a 4 = true := by
  unfold okS at h
  exact (Bool.and_eq_true_iff.mp (Bool.and_eq_true_iff.mp h).2).1
theorem ok_7 {a b d : Int32} (h : okS 7 a b d = true) : b ≤ 12 := by
  simpa [okS] using (Bool.and_eq_true_iff.mp (Bool.and_eq_true_iff.mp h).2).2
theorem ok_8 {a b d : Int32} (h : okS 8 a b d = true) : b ≤ 12 := by
  simpa [okS] using (Bool.and_eq_true_iff.mp (Bool.and_eq_true_iff.mp h).2).2
theorem ok_9 {a b d : Int32} (h : okS 9 a b d = true) : b ≤ 12 ∧ d ≤ 12 := by
  simpa [okS] using (Bool.and_eq_true_iff.mp (Bool.and_eq_true_iff.mp h).2).2
theorem ok_13 {a b d : Int32} (h : okS 13 a b d = true) : wi d 4 = true := by
  simpa [okS] using (Bool.and_eq_true_iff.mp (Bool.and_eq_true_iff.mp h).2).2
theorem wi_kl {k : Int32} (h : wi k 17 = true) (z : k.toInt < 0 ∨ 16 < k.toInt) : False := by
  have h1 := Int32.le_iff_toInt_le.mp (wi_1 h)
  have h2 := Int32.lt_iff_toInt_lt.mp (wi_2 h)
  have h3 : (0 : Int32).toInt = 0 := rfl
  have h4 : (17 : Int32).toInt = 17 := rfl
  omega
theorem oc_len (n : Int32) : oc (spLen n) = if n = -1 then fl 1 else n.toInt64 := by
  unfold spLen
  by_cases h : n = -1
  · rw [if_pos h, if_pos h]; rfl
  · rw [if_neg h, if_neg h]; rfl
theorem uSt (T : Sg) (i : Nat) : setSt T i (tSt T i) = T := by
  unfold setSt
  have : va_up (tSt T) i (tSt T i) = tSt T := by funext j; by_cases h : j = i <;> simp [va_up, h]
  rw [this]
theorem uu {α : Type} (f : Nat → α) (k : Nat) (v u : α) : va_up (va_up f k v) k u = va_up f k u := bx_uu f k v u
theorem uBa (T : Sg) (i : Nat) (x y : aBa) : setBa (setBa T i x) i y = setBa T i y := congrArg (fun z : Nat → aBa => ((tSt T, z, tRa T, tGr T, tJo T, tEx T, tTa T, tRe T, tWh T) : Sg)) (uu _ _ _ _)
theorem uRa (T : Sg) (i : Nat) (x y : aRa) : setRa (setRa T i x) i y = setRa T i y := congrArg (fun z : Nat → aRa => ((tSt T, tBa T, z, tGr T, tJo T, tEx T, tTa T, tRe T, tWh T) : Sg)) (uu _ _ _ _)
theorem uGr (T : Sg) (i : Nat) (x y : aGr) : setGr (setGr T i x) i y = setGr T i y := congrArg (fun z : Nat → aGr => ((tSt T, tBa T, tRa T, z, tJo T, tEx T, tTa T, tRe T, tWh T) : Sg)) (uu _ _ _ _)
theorem noS {T : Sg} {r : aRa} {x : aS} : noStore T r x = true ↔ (r.2.1 = true ∧ ∃ q, x.2.2.1 = some q ∧ (W9 T q).2.1 = false) := by
  unfold noStore
  cases hx : x.2.2.1 with
  | none => simp
  | some q => simp
set_option maxHeartbeats 4000000 in
set_option maxRecDepth 100000 in
theorem c_X8_isStep (l : Launch) (D : va_G) (cs : Nat → ClassId) (w : fW) (sz : Nat) (k a b d : Int32) : gM l bs_B nw_B D cls10 (tyl cs) yX8_isStep cX8_isStep 4 (some .boolean) 1 21 0 0 w sz [.int k, .int a, .int b, .int d] (fun v w' => v = some (.int (bz (okS k a b d))) ∧ w' = w) := by
  refine gM.of (by decide +kernel) (Nat.le_of_ble_eq_true rfl) (fun p e s m below meth c A ls X hsz hnm hF hS hl => ?_)
  have hx := X.1
  have hb := X.2.1
  have hl : lv_has ls 4 [(0, .int k), (1, .int a), (2, .int b), (3, .int d)] := hl
  refine lv_iload_n hx hb dX8_isStep_0 rfl (lv_at hl 1 rfl) ?_
  refine lv_iconst (v := 4) hx hb dX8_isStep_1 (by decide) ?_
  refine fw_callS (As := [.int a, .int 4]) (rest := []) X bs_all nw_all mf_X8_isWithin (c_X8_isWithin l D cs _ _ a 4) wm_208 wm_209 hF hS rfl ((⟨⟨Nat.le_of_ble_eq_true rfl, Nat.le_of_ble_eq_true rfl⟩, Nat.le_of_ble_eq_true rfl, Nat.le_of_ble_eq_true rfl⟩)) rfl hl.1 rfl (Nat.le_of_ble_eq_true rfl) dX8_isStep_2 (fun v u1 H locs hp hF hS hz1 hk1 hd1 => ?_)
  obtain ⟨rfl, hw1⟩ := hp
  rw [hw1] at hF
  refine W.eq (g2 := F0 m 5 ls [.int (bz (wi a 4))]) rfl ?_
  refine gx_ifne (tgt := 10) hx hb dX8_isStep_5 (by decide) (fun c5_2 => ?_) (fun c5_2 => ?_)
  · refine lv_iload_n hx hb dX8_isStep_10 rfl (lv_at hl 0 rfl) ?_
    rcases gx_sw7_13 k with sw3 | sw3 | sw3 | sw3 | sw3 | sw3 | sw3 | sw3
    · refine lv_tableIn (off := 41) (tgt := 52) hx hb dX8_isStep_11 (by rw [sw3]; decide) (by rw [sw3]; decide) (by rw [sw3]; rfl) (by decide) ?_
      refine lv_iload_n hx hb dX8_isStep_52 rfl (lv_at hl 2 rfl) ?_
      refine lv_bipush (v := 12) hx hb dX8_isStep_53 (by decide) ?_
      refine lv_icmp_gt (tgt := 62) hx hb dX8_isStep_55 (by decide) (fun c55_4 => ?_) (fun c55_4 => ?_)
      · refine lv_iconst (v := 0) hx hb dX8_isStep_62 (by decide) ?_
        refine fw_zret X hF hS rfl ?_ (Nat.le_of_ble_eq_true rfl) (Nat.le_of_ble_eq_true rfl) dX8_isStep_63
        refine ⟨congrArg (fun z => some (Value.int (bz z))) (show false = okS k a b d from ?_), rfl⟩
        have gc55_4 := i_nle.mpr c55_4
        simp [okS, c5_2, sw3, gc55_4]
        all_goals first | decide | (intro _; decide)
      · refine lv_iconst (v := 1) hx hb dX8_isStep_58 (by decide) ?_
        refine lv_goto (tgt := 63) hx hb dX8_isStep_59 (by decide) ?_
        refine fw_zret X hF hS rfl ?_ (Nat.le_of_ble_eq_true rfl) (Nat.le_of_ble_eq_true rfl) dX8_isStep_63
        refine ⟨congrArg (fun z => some (Value.int (bz z))) (show true = okS k a b d from ?_), rfl⟩
        have gc55_4 := i_nlt.mp c55_4
        simp [okS, c5_2, sw3, gc55_4]
        all_goals first | decide | (intro _; decide)
    · refine lv_tableIn (off := 41) (tgt := 52) hx hb dX8_isStep_11 (by rw [sw3]; decide) (by rw [sw3]; decide) (by rw [sw3]; rfl) (by decide) ?_
      refine lv_iload_n hx hb dX8_isStep_52 rfl (lv_at hl 2 rfl) ?_
      refine lv_bipush (v := 12) hx hb dX8_isStep_53 (by decide) ?_
      refine lv_icmp_gt (tgt := 62) hx hb dX8_isStep_55 (by decide) (fun c55_5 => ?_) (fun c55_5 => ?_)
      · refine lv_iconst (v := 0) hx hb dX8_isStep_62 (by decide) ?_
        refine fw_zret X hF hS rfl ?_ (Nat.le_of_ble_eq_true rfl) (Nat.le_of_ble_eq_true rfl) dX8_isStep_63
        refine ⟨congrArg (fun z => some (Value.int (bz z))) (show false = okS k a b d from ?_), rfl⟩
        have gc55_5 := i_nle.mpr c55_5
        simp [okS, c5_2, sw3, gc55_5]
        all_goals first | decide | (intro _; decide)
      · refine lv_iconst (v := 1) hx hb dX8_isStep_58 (by decide) ?_
        refine lv_goto (tgt := 63) hx hb dX8_isStep_59 (by decide) ?_
        refine fw_zret X hF hS rfl ?_ (Nat.le_of_ble_eq_true rfl) (Nat.le_of_ble_eq_true rfl) dX8_isStep_63
        refine ⟨congrArg (fun z => some (Value.int (bz z))) (show true = okS k a b d from ?_), rfl⟩
        have gc55_5 := i_nlt.mp c55_5
        simp [okS, c5_2, sw3, gc55_5]
        all_goals first | decide | (intro _; decide)
    · refine lv_tableIn (off := 53) (tgt := 64) hx hb dX8_isStep_11 (by rw [sw3]; decide) (by rw [sw3]; decide) (by rw [sw3]; rfl) (by decide) ?_
      refine lv_iload_n hx hb dX8_isStep_64 rfl (lv_at hl 2 rfl) ?_
      refine lv_bipush (v := 12) hx hb dX8_isStep_65 (by decide) ?_
      refine lv_icmp_gt (tgt := 80) hx hb dX8_isStep_67 (by decide) (fun c67_6 => ?_) (fun c67_6 => ?_)
      · refine lv_iconst (v := 0) hx hb dX8_isStep_80 (by decide) ?_
        refine fw_zret X hF hS rfl ?_ (Nat.le_of_ble_eq_true rfl) (Nat.le_of_ble_eq_true rfl) dX8_isStep_81
        refine ⟨congrArg (fun z => some (Value.int (bz z))) (show false = okS k a b d from ?_), rfl⟩
        have gc67_6 := i_nle.mpr c67_6
        simp [okS, c5_2, sw3, gc67_6]
        all_goals first | decide | (intro _; decide)
      · refine lv_iload_n hx hb dX8_isStep_70 rfl (lv_at hl 3 rfl) ?_
        refine lv_bipush (v := 12) hx hb dX8_isStep_71 (by decide) ?_
        refine lv_icmp_gt (tgt := 80) hx hb dX8_isStep_73 (by decide) (fun c73_7 => ?_) (fun c73_7 => ?_)
        · refine lv_iconst (v := 0) hx hb dX8_isStep_80 (by decide) ?_
          refine fw_zret X hF hS rfl ?_ (Nat.le_of_ble_eq_true rfl) (Nat.le_of_ble_eq_true rfl) dX8_isStep_81
          refine ⟨congrArg (fun z => some (Value.int (bz z))) (show false = okS k a b d from ?_), rfl⟩
          have gc67_6 := i_nlt.mp c67_6
          have gc73_7 := i_nle.mpr c73_7
          simp [okS, c5_2, sw3, gc67_6, gc73_7]
          all_goals first | decide | (intro _; decide)
        · refine lv_iconst (v := 1) hx hb dX8_isStep_76 (by decide) ?_
          refine lv_goto (tgt := 81) hx hb dX8_isStep_77 (by decide) ?_
          refine fw_zret X hF hS rfl ?_ (Nat.le_of_ble_eq_true rfl) (Nat.le_of_ble_eq_true rfl) dX8_isStep_81
          refine ⟨congrArg (fun z => some (Value.int (bz z))) (show true = okS k a b d from ?_), rfl⟩
          have gc67_6 := i_nlt.mp c67_6
          have gc73_7 := i_nlt.mp c73_7
          simp [okS, c5_2, sw3, gc67_6, gc73_7]
          all_goals first | decide | (intro _; decide)
    · refine lv_tableIn (off := 77) (tgt := 88) hx hb dX8_isStep_11 (by rw [sw3]; decide) (by rw [sw3]; decide) (by rw [sw3]; rfl) (by decide) ?_
      refine lv_iload_n hx hb dX8_isStep_88 rfl (lv_at hl 0 rfl) ?_
      refine lv_if_lt (tgt := 102) hx hb dX8_isStep_89 (by decide) (fun c89_8 => ?_) (fun c89_8 => ?_)
      · refine lv_iconst (v := 0) hx hb dX8_isStep_102 (by decide) ?_
        refine fw_zret X hF hS rfl ?_ (Nat.le_of_ble_eq_true rfl) (Nat.le_of_ble_eq_true rfl) dX8_isStep_103
        refine ⟨congrArg (fun z => some (Value.int (bz z))) (show false = okS k a b d from ?_), rfl⟩
        have hk := wi_f1 (n := 17) c89_8
        rw [sw3] at hk
        simp [okS, c5_2, sw3, hk]
      · refine lv_iload_n hx hb dX8_isStep_92 rfl (lv_at hl 0 rfl) ?_
        refine lv_bipush (v := 16) hx hb dX8_isStep_93 (by decide) ?_
        refine lv_icmp_gt (tgt := 102) hx hb dX8_isStep_95 (by decide) (fun c95_9 => ?_) (fun c95_9 => ?_)
        · refine lv_iconst (v := 0) hx hb dX8_isStep_102 (by decide) ?_
          refine fw_zret X hF hS rfl ?_ (Nat.le_of_ble_eq_true rfl) (Nat.le_of_ble_eq_true rfl) dX8_isStep_103
          refine ⟨congrArg (fun z => some (Value.int (bz z))) (show false = okS k a b d from ?_), rfl⟩
          have hk := wi17f c95_9
          rw [sw3] at hk
          simp [okS, c5_2, sw3, hk]
        · refine lv_iconst (v := 1) hx hb dX8_isStep_98 (by decide) ?_
          refine lv_goto (tgt := 103) hx hb dX8_isStep_99 (by decide) ?_
          refine fw_zret X hF hS rfl ?_ (Nat.le_of_ble_eq_true rfl) (Nat.le_of_ble_eq_true rfl) dX8_isStep_103
          refine ⟨congrArg (fun z => some (Value.int (bz z))) (show true = okS k a b d from ?_), rfl⟩
          have hk := wi17 c89_8 c95_9
          rw [sw3] at hk
          simp [okS, c5_2, sw3, hk]
    · refine lv_tableIn (off := 77) (tgt := 88) hx hb dX8_isStep_11 (by rw [sw3]; decide) (by rw [sw3]; decide) (by rw [sw3]; rfl) (by decide) ?_
      refine lv_iload_n hx hb dX8_isStep_88 rfl (lv_at hl 0 rfl) ?_
      refine lv_if_lt (tgt := 102) hx hb dX8_isStep_89 (by decide) (fun c89_10 => ?_) (fun c89_10 => ?_)
      · refine lv_iconst (v := 0) hx hb dX8_isStep_102 (by decide) ?_
        refine fw_zret X hF hS rfl ?_ (Nat.le_of_ble_eq_true rfl) (Nat.le_of_ble_eq_true rfl) dX8_isStep_103
        refine ⟨congrArg (fun z => some (Value.int (bz z))) (show false = okS k a b d from ?_), rfl⟩
        have hk := wi_f1 (n := 17) c89_10
        rw [sw3] at hk
        simp [okS, c5_2, sw3, hk]
      · refine lv_iload_n hx hb dX8_isStep_92 rfl (lv_at hl 0 rfl) ?_
        refine lv_bipush (v := 16) hx hb dX8_isStep_93 (by decide) ?_
        refine lv_icmp_gt (tgt := 102) hx hb dX8_isStep_95 (by decide) (fun c95_11 => ?_) (fun c95_11 => ?_)
        · refine lv_iconst (v := 0) hx hb dX8_isStep_102 (by decide) ?_
          refine fw_zret X hF hS rfl ?_ (Nat.le_of_ble_eq_true rfl) (Nat.le_of_ble_eq_true rfl) dX8_isStep_103
          refine ⟨congrArg (fun z => some (Value.int (bz z))) (show false = okS k a b d from ?_), rfl⟩
          have hk := wi17f c95_11
          rw [sw3] at hk
          simp [okS, c5_2, sw3, hk]
        · refine lv_iconst (v := 1) hx hb dX8_isStep_98 (by decide) ?_
          refine lv_goto (tgt := 103) hx hb dX8_isStep_99 (by decide) ?_
          refine fw_zret X hF hS rfl ?_ (Nat.le_of_ble_eq_true rfl) (Nat.le_of_ble_eq_true rfl) dX8_isStep_103
          refine ⟨congrArg (fun z => some (Value.int (bz z))) (show true = okS k a b d from ?_), rfl⟩
          have hk := wi17 c89_10 c95_11
          rw [sw3] at hk
          simp [okS, c5_2, sw3, hk]
    · refine lv_tableIn (off := 77) (tgt := 88) hx hb dX8_isStep_11 (by rw [sw3]; decide) (by rw [sw3]; decide) (by rw [sw3]; rfl) (by decide) ?_
      refine lv_iload_n hx hb dX8_isStep_88 rfl (lv_at hl 0 rfl) ?_
      refine lv_if_lt (tgt := 102) hx hb dX8_isStep_89 (by decide) (fun c89_12 => ?_) (fun c89_12 => ?_)
      · refine lv_iconst (v := 0) hx hb dX8_isStep_102 (by decide) ?_
        refine fw_zret X hF hS rfl ?_ (Nat.le_of_ble_eq_true rfl) (Nat.le_of_ble_eq_true rfl) dX8_isStep_103
        refine ⟨congrArg (fun z => some (Value.int (bz z))) (show false = okS k a b d from ?_), rfl⟩
        have hk := wi_f1 (n := 17) c89_12
        rw [sw3] at hk
        simp [okS, c5_2, sw3, hk]
      · refine lv_iload_n hx hb dX8_isStep_92 rfl (lv_at hl 0 rfl) ?_
        refine lv_bipush (v := 16) hx hb dX8_isStep_93 (by decide) ?_
        refine lv_icmp_gt (tgt := 102) hx hb dX8_isStep_95 (by decide) (fun c95_13 => ?_) (fun c95_13 => ?_)
        · refine lv_iconst (v := 0) hx hb dX8_isStep_102 (by decide) ?_
          refine fw_zret X hF hS rfl ?_ (Nat.le_of_ble_eq_true rfl) (Nat.le_of_ble_eq_true rfl) dX8_isStep_103
          refine ⟨congrArg (fun z => some (Value.int (bz z))) (show false = okS k a b d from ?_), rfl⟩
          have hk := wi17f c95_13
          rw [sw3] at hk
          simp [okS, c5_2, sw3, hk]
        · refine lv_iconst (v := 1) hx hb dX8_isStep_98 (by decide) ?_
          refine lv_goto (tgt := 103) hx hb dX8_isStep_99 (by decide) ?_
          refine fw_zret X hF hS rfl ?_ (Nat.le_of_ble_eq_true rfl) (Nat.le_of_ble_eq_true rfl) dX8_isStep_103
          refine ⟨congrArg (fun z => some (Value.int (bz z))) (show true = okS k a b d from ?_), rfl⟩
          have hk := wi17 c89_12 c95_13
          rw [sw3] at hk
          simp [okS, c5_2, sw3, hk]
    · refine lv_tableIn (off := 71) (tgt := 82) hx hb dX8_isStep_11 (by rw [sw3]; decide) (by rw [sw3]; decide) (by rw [sw3]; rfl) (by decide) ?_
      refine lv_iload_n hx hb dX8_isStep_82 rfl (lv_at hl 3 rfl) ?_
      refine lv_iconst (v := 4) hx hb dX8_isStep_83 (by decide) ?_
      refine fw_callS (As := [.int d, .int 4]) (rest := []) X bs_all nw_all mf_X8_isWithin (c_X8_isWithin l D cs _ _ d 4) wm_208 wm_209 hF hS rfl ((⟨⟨Nat.le_of_ble_eq_true rfl, Nat.le_of_ble_eq_true rfl⟩, Nat.le_of_ble_eq_true rfl, Nat.le_of_ble_eq_true rfl⟩)) rfl hl.1 rfl (Nat.le_of_ble_eq_true rfl) dX8_isStep_84 (fun v u14 H locs hp hF hS hz1 hk1 hd1 => ?_)
      obtain ⟨rfl, hw1⟩ := hp
      rw [hw1] at hF
      refine W.eq (g2 := F0 m 87 ls [.int (bz (wi d 4))]) rfl ?_
      refine fw_zret X hF hS (gx_nbz _) ?_ (Nat.le_of_ble_eq_true rfl) (Nat.le_of_ble_eq_true rfl) dX8_isStep_87
      refine ⟨congrArg (fun z => some (Value.int (bz z))) (show (wi d 4) = okS k a b d from ?_), rfl⟩
      simp [okS, c5_2, sw3]
      all_goals first | decide | (intro _; decide)
    · refine lv_tableOut (tgt := 88) hx hb dX8_isStep_11 sw3 (by decide) ?_
      have n7 : ¬ k = 7 := fun q => by rw [q] at sw3; revert sw3; decide
      have n8 : ¬ k = 8 := fun q => by rw [q] at sw3; revert sw3; decide
      have n9 : ¬ k = 9 := fun q => by rw [q] at sw3; revert sw3; decide
      have n13 : ¬ k = 13 := fun q => by rw [q] at sw3; revert sw3; decide
      refine lv_iload_n hx hb dX8_isStep_88 rfl (lv_at hl 0 rfl) ?_
      refine lv_if_lt (tgt := 102) hx hb dX8_isStep_89 (by decide) (fun c89_15 => ?_) (fun c89_15 => ?_)
      · refine lv_iconst (v := 0) hx hb dX8_isStep_102 (by decide) ?_
        refine fw_zret X hF hS rfl ?_ (Nat.le_of_ble_eq_true rfl) (Nat.le_of_ble_eq_true rfl) dX8_isStep_103
        refine ⟨congrArg (fun z => some (Value.int (bz z))) (show false = okS k a b d from ?_), rfl⟩
        have hk := wi_f1 (n := 17) c89_15
        simp [okS, c5_2, n7, n8, n9, n13, hk]
      · refine lv_iload_n hx hb dX8_isStep_92 rfl (lv_at hl 0 rfl) ?_
        refine lv_bipush (v := 16) hx hb dX8_isStep_93 (by decide) ?_
        refine lv_icmp_gt (tgt := 102) hx hb dX8_isStep_95 (by decide) (fun c95_16 => ?_) (fun c95_16 => ?_)
        · refine lv_iconst (v := 0) hx hb dX8_isStep_102 (by decide) ?_
          refine fw_zret X hF hS rfl ?_ (Nat.le_of_ble_eq_true rfl) (Nat.le_of_ble_eq_true rfl) dX8_isStep_103
          refine ⟨congrArg (fun z => some (Value.int (bz z))) (show false = okS k a b d from ?_), rfl⟩
          have hk := wi17f c95_16
          simp [okS, c5_2, n7, n8, n9, n13, hk]
        · refine lv_iconst (v := 1) hx hb dX8_isStep_98 (by decide) ?_
          refine lv_goto (tgt := 103) hx hb dX8_isStep_99 (by decide) ?_
          refine fw_zret X hF hS rfl ?_ (Nat.le_of_ble_eq_true rfl) (Nat.le_of_ble_eq_true rfl) dX8_isStep_103
          refine ⟨congrArg (fun z => some (Value.int (bz z))) (show true = okS k a b d from ?_), rfl⟩
          have hk := wi17 c89_15 c95_16
          simp [okS, c5_2, n7, n8, n9, n13, hk]
  · refine lv_iconst (v := 0) hx hb dX8_isStep_8 (by decide) ?_
    refine fw_zret X hF hS rfl ?_ (Nat.le_of_ble_eq_true rfl) (Nat.le_of_ble_eq_true rfl) dX8_isStep_9
    refine ⟨congrArg (fun z => some (Value.int (bz z))) (show false = okS k a b d from ?_), rfl⟩
    simp [okS, c5_2]
    all_goals first | decide | (intro _; decide)
set_option maxHeartbeats 4000000 in
set_option maxRecDepth 100000 in
theorem c_X8_measure (l : Launch) (D : va_G) (cs : Nat → ClassId) (w : fW) (sz : Nat) (ad : Nat → Nat) (T : Sg) (jf : Nat → Nat → Option Nat) (hW : SW cs ad T jf w) (a b d : Int32) (ha : wi a 4 = true) : gM l bs_B nw_B D cls10 (tyl cs) yX8_measure cX8_measure 4 (some .long) 2 42 0 0 w sz [.ref (ad 0), .int a, .int b, .int d] (fun v w' => v = some (.long (oc (spLong a b d T))) ∧ w' = w) := by
  refine gM.of (by decide +kernel) (Nat.le_of_ble_eq_true rfl) (fun p e s m below meth c A ls X hsz hnm hF hS hl => ?_)
  have hx := X.1
  have hb := X.2.1
  have hl : lv_has ls 4 [(0, .ref (ad 0)), (1, .int a), (2, .int b), (3, .int d)] := hl
  refine lv_iload_n hx hb dX8_measure_0 rfl (lv_at hl 2 rfl) ?_
  rcases gx_sw3 b with sw1 | sw1 | sw1 | sw1
  · refine lv_tableIn (off := 27) (tgt := 28) hx hb dX8_measure_1 (by rw [sw1]; decide) (by rw [sw1]; decide) (by rw [sw1]; rfl) (by decide) ?_
    refine lv_aload_n hx hb dX8_measure_28 rfl (lv_at hl 0 rfl) ?_
    refine fw_get X gC_ok hF (hW.2.1) rfl 1 (by decide) wm_177 rfl dX8_measure_29 ?_
    refine lv_iload_n hx hb dX8_measure_32 rfl (lv_at hl 1 rfl) ?_
    refine fw_aldq X hF (hW.2.2.2.1) 3 rfl (wi_in ha (N := 4) (by decide)) (v := some (ad (14 + (ix a)))) rfl dX8_measure_33 ?_
    refine W.eq (g2 := F0 m 34 ls [.ref (ad (14 + (ix a)))]) rfl ?_
    refine fw_get X gC_ok hF (hW.2.2.2.2.2.2.2.2.2.2.2.1 (ix a) (wi_lt ha (N := 4) (by decide))) rfl 1 (by decide) wm_121 rfl dX8_measure_34 ?_
    refine fw_callS (As := [.int ((tBa T (ix a)).1)]) (rest := []) X bs_all nw_all mf_X8_lengthOrFailure (c_X8_lengthOrFailure l D cs _ _ ((tBa T (ix a)).1)) wm_303 wm_304 hF hS rfl ((⟨⟨Nat.le_of_ble_eq_true rfl, Nat.le_of_ble_eq_true rfl⟩, Nat.le_of_ble_eq_true rfl, Nat.le_of_ble_eq_true rfl⟩)) rfl hl.1 rfl (Nat.le_of_ble_eq_true rfl) dX8_measure_37 (fun v u2 H locs hp hF hS hz1 hk1 hd1 => ?_)
    obtain ⟨rfl, hw1⟩ := hp
    rw [hw1] at hF
    refine W.eq (g2 := F0 m 40 ls [.long (if ((tBa T (ix a)).1) = -1 then fl 1 else ((tBa T (ix a)).1).toInt64)]) rfl ?_
    refine fw_lret X hF hS ?_ (Nat.le_of_ble_eq_true rfl) (Nat.le_of_ble_eq_true rfl) dX8_measure_40
    refine ⟨?_, rfl⟩
    rw [← oc_len]
    simp [spLong, sw1]
  · refine lv_tableIn (off := 40) (tgt := 41) hx hb dX8_measure_1 (by rw [sw1]; decide) (by rw [sw1]; decide) (by rw [sw1]; rfl) (by decide) ?_
    refine lv_aload_n hx hb dX8_measure_41 rfl (lv_at hl 0 rfl) ?_
    refine fw_get X gC_ok hF (hW.2.1) rfl 2 (by decide) wm_178 rfl dX8_measure_42 ?_
    refine lv_iload_n hx hb dX8_measure_45 rfl (lv_at hl 1 rfl) ?_
    refine fw_aldq X hF (hW.2.2.2.2.1) 4 rfl (wi_in ha (N := 4) (by decide)) (v := some (ad (22 + (ix a)))) rfl dX8_measure_46 ?_
    refine W.eq (g2 := F0 m 47 ls [.ref (ad (22 + (ix a)))]) rfl ?_
    refine fw_get X gC_ok hF (hW.2.2.2.2.2.2.2.2.2.2.2.2.2.1 (ix a) (wi_lt ha (N := 4) (by decide))) rfl 1 (by decide) wm_136 rfl dX8_measure_47 ?_
    refine fw_callS (As := [.int ((tRa T (ix a)).1)]) (rest := []) X bs_all nw_all mf_X8_lengthOrFailure (c_X8_lengthOrFailure l D cs _ _ ((tRa T (ix a)).1)) wm_303 wm_304 hF hS rfl ((⟨⟨Nat.le_of_ble_eq_true rfl, Nat.le_of_ble_eq_true rfl⟩, Nat.le_of_ble_eq_true rfl, Nat.le_of_ble_eq_true rfl⟩)) rfl hl.1 rfl (Nat.le_of_ble_eq_true rfl) dX8_measure_50 (fun v u3 H locs hp hF hS hz1 hk1 hd1 => ?_)
    obtain ⟨rfl, hw1⟩ := hp
    rw [hw1] at hF
    refine W.eq (g2 := F0 m 53 ls [.long (if ((tRa T (ix a)).1) = -1 then fl 1 else ((tRa T (ix a)).1).toInt64)]) rfl ?_
    refine fw_lret X hF hS ?_ (Nat.le_of_ble_eq_true rfl) (Nat.le_of_ble_eq_true rfl) dX8_measure_53
    refine ⟨?_, rfl⟩
    rw [← oc_len]
    simp [spLong, sw1]
  · refine lv_tableIn (off := 53) (tgt := 54) hx hb dX8_measure_1 (by rw [sw1]; decide) (by rw [sw1]; decide) (by rw [sw1]; rfl) (by decide) ?_
    refine lv_aload_n hx hb dX8_measure_54 rfl (lv_at hl 0 rfl) ?_
    refine fw_get X gC_ok hF (hW.2.1) rfl 3 (by decide) wm_179 rfl dX8_measure_55 ?_
    refine lv_iload_n hx hb dX8_measure_58 rfl (lv_at hl 1 rfl) ?_
    refine fw_aldq X hF (hW.2.2.2.2.2.1) 5 rfl (wi_in ha (N := 4) (by decide)) (v := some (ad (30 + (ix a)))) rfl dX8_measure_59 ?_
    refine W.eq (g2 := F0 m 60 ls [.ref (ad (30 + (ix a)))]) rfl ?_
    refine fw_get X gC_ok hF (hW.2.2.2.2.2.2.2.2.2.2.2.2.2.2.2.1 (ix a) (wi_lt ha (N := 4) (by decide))) rfl 1 (by decide) wm_152 rfl dX8_measure_60 ?_
    refine fw_callS (As := [.int ((tGr T (ix a)).1)]) (rest := []) X bs_all nw_all mf_X8_lengthOrFailure (c_X8_lengthOrFailure l D cs _ _ ((tGr T (ix a)).1)) wm_303 wm_304 hF hS rfl ((⟨⟨Nat.le_of_ble_eq_true rfl, Nat.le_of_ble_eq_true rfl⟩, Nat.le_of_ble_eq_true rfl, Nat.le_of_ble_eq_true rfl⟩)) rfl hl.1 rfl (Nat.le_of_ble_eq_true rfl) dX8_measure_63 (fun v u4 H locs hp hF hS hz1 hk1 hd1 => ?_)
    obtain ⟨rfl, hw1⟩ := hp
    rw [hw1] at hF
    refine W.eq (g2 := F0 m 66 ls [.long (if ((tGr T (ix a)).1) = -1 then fl 1 else ((tGr T (ix a)).1).toInt64)]) rfl ?_
    refine fw_lret X hF hS ?_ (Nat.le_of_ble_eq_true rfl) (Nat.le_of_ble_eq_true rfl) dX8_measure_66
    refine ⟨?_, rfl⟩
    rw [← oc_len]
    simp [spLong, sw1]
  · refine lv_tableOut (tgt := 67) hx hb dX8_measure_1 sw1 (by decide) ?_
    refine lv_aload_n hx hb dX8_measure_67 rfl (lv_at hl 0 rfl) ?_
    refine fw_get X gC_ok hF (hW.2.1) rfl 3 (by decide) wm_179 rfl dX8_measure_68 ?_
    refine lv_iload_n hx hb dX8_measure_71 rfl (lv_at hl 1 rfl) ?_
    refine fw_aldq X hF (hW.2.2.2.2.2.1) 5 rfl (wi_in ha (N := 4) (by decide)) (v := some (ad (30 + (ix a)))) rfl dX8_measure_72 ?_
    refine W.eq (g2 := F0 m 73 ls [.ref (ad (30 + (ix a)))]) rfl ?_
    refine lv_iload_n hx hb dX8_measure_73 rfl (lv_at hl 3 rfl) ?_
    refine fw_callV (As := [.int d]) (rest := []) X bs_all nw_all mf_X1_rowLength (c_X1_rowLength l D cs _ _ (ad (30 + (ix a))) (ad (34 + (ix a))) ((tGr T (ix a)).1) ((tGr T (ix a)).2.1) ((tGr T (ix a)).2.2) (hW.2.2.2.2.2.2.2.2.2.2.2.2.2.2.2.1 (ix a) (wi_lt ha (N := 4) (by decide))) (hW.2.2.2.2.2.2.2.2.2.2.2.2.2.2.2.2.1 (ix a) (wi_lt ha (N := 4) (by decide))) d) wm_307 wm_308 wm_309 hF hS rfl (hW.2.2.2.2.2.2.2.2.2.2.2.2.2.2.2.1 (ix a) (wi_lt ha (N := 4) (by decide))) rfl rfl ((⟨⟨Nat.le_of_ble_eq_true rfl, Nat.le_of_ble_eq_true rfl⟩, Nat.le_of_ble_eq_true rfl, Nat.le_of_ble_eq_true rfl⟩)) rfl hl.1 rfl (Nat.le_of_ble_eq_true rfl) dX8_measure_74 (fun v u5 H locs hp hF hS hz1 hk1 hd1 => ?_)
    rcases hp with ⟨k1, rfl, hw1⟩ | ⟨k1, k2, rfl, hw1⟩ | ⟨k1, k2, rfl, hw1⟩
    · rw [hw1] at hF
      refine W.eq (g2 := F0 m 77 ls [.long (fl 1)]) rfl ?_
      refine fw_lret X hF hS ?_ (Nat.le_of_ble_eq_true rfl) (Nat.le_of_ble_eq_true rfl) dX8_measure_77
      have m0 : ¬ b = 0 := fun q => by rw [q] at sw1; revert sw1; decide
      have m1 : ¬ b = 1 := fun q => by rw [q] at sw1; revert sw1; decide
      have m2 : ¬ b = 2 := fun q => by rw [q] at sw1; revert sw1; decide
      refine ⟨?_, rfl⟩
      simp [spLong, spRow, oc, m0, m1, m2, k1]
    · rw [hw1] at hF
      refine W.eq (g2 := F0 m 77 ls [.long (fl 3)]) rfl ?_
      refine fw_lret X hF hS ?_ (Nat.le_of_ble_eq_true rfl) (Nat.le_of_ble_eq_true rfl) dX8_measure_77
      have m0 : ¬ b = 0 := fun q => by rw [q] at sw1; revert sw1; decide
      have m1 : ¬ b = 1 := fun q => by rw [q] at sw1; revert sw1; decide
      have m2 : ¬ b = 2 := fun q => by rw [q] at sw1; revert sw1; decide
      refine ⟨?_, rfl⟩
      simp [spLong, spRow, oc, m0, m1, m2, k1, k2]
    · rw [hw1] at hF
      refine W.eq (g2 := F0 m 77 ls [.long (((tGr T (ix a)).2.1).toInt64)]) rfl ?_
      refine fw_lret X hF hS ?_ (Nat.le_of_ble_eq_true rfl) (Nat.le_of_ble_eq_true rfl) dX8_measure_77
      have m0 : ¬ b = 0 := fun q => by rw [q] at sw1; revert sw1; decide
      have m1 : ¬ b = 1 := fun q => by rw [q] at sw1; revert sw1; decide
      have m2 : ¬ b = 2 := fun q => by rw [q] at sw1; revert sw1; decide
      refine ⟨?_, rfl⟩
      simp [spLong, spRow, oc, m0, m1, m2, k1, k2]
set_option maxHeartbeats 4000000 in
set_option maxRecDepth 100000 in
theorem c_X8_excuse (l : Launch) (D : va_G) (cs : Nat → ClassId) (w : fW) (sz : Nat) (ad : Nat → Nat) (T : Sg) (jf : Nat → Nat → Option Nat) (hW : SW cs ad T jf w) (a b : Int32) (ha : wi a 4 = true) : gM l bs_B nw_B D cls10 (tyl cs) yX8_excuse cX8_excuse 3 (some .long) 0 0 0 0 w sz [.ref (ad 0), .int a, .int b] (fun v w' => v = some (.long b.toInt64) ∧ w' = va_up w (ad 6) (some (.inl (cs 0, 4, .inl (upd (tEx T) (ix a) (excI b)))))) := by
  refine gM.of (by decide +kernel) (Nat.le_of_ble_eq_true rfl) (fun p e s m below meth c A ls X hsz hnm hF hS hl => ?_)
  have hx := X.1
  have hb := X.2.1
  have hl : lv_has ls 3 [(0, .ref (ad 0)), (1, .int a), (2, .int b)] := hl
  refine lv_iload_n hx hb dX8_excuse_0 rfl (lv_at hl 2 rfl) ?_
  rcases gx_lk01 b with sw1 | sw1 | sw1
  · refine lv_lookup (off := 27) (tgt := 28) hx hb dX8_excuse_1 (by decide) (by rw [sw1]; rfl) (by decide) ?_
    refine lv_aload_n hx hb dX8_excuse_28 rfl (lv_at hl 0 rfl) ?_
    refine fw_get X gC_ok hF (hW.2.1) rfl 5 (by decide) wm_181 rfl dX8_excuse_29 ?_
    refine lv_iload_n hx hb dX8_excuse_32 rfl (lv_at hl 1 rfl) ?_
    refine lv_iconst (v := 1) hx hb dX8_excuse_33 (by decide) ?_
    refine fw_iast X hF hS (hW.2.2.2.2.2.2.2.1) 0 rfl (wi_in ha (N := 4) (by decide)) dX8_excuse_34 (fun H locs hF hS => ?_)
    have hF : fw_P D cls10 A (va_up w (ad 6) (some (.inl (cs 0, 4, .inl (upd (tEx T) (ix a) 1))))) H := hF
    refine lv_goto (tgt := 57) hx hb dX8_excuse_35 (by decide) ?_
    refine lv_iload_n hx hb dX8_excuse_57 rfl (lv_at hl 2 rfl) ?_
    refine lv_i2l hx hb dX8_excuse_58 rfl ?_
    refine fw_lret X hF hS ?_ (Nat.le_of_ble_eq_true rfl) (Nat.le_of_ble_eq_true rfl) dX8_excuse_59
    refine ⟨rfl, ?_⟩
    simp [excI, sw1]
  · refine lv_lookup (off := 37) (tgt := 38) hx hb dX8_excuse_1 (by decide) (by rw [sw1]; rfl) (by decide) ?_
    refine lv_aload_n hx hb dX8_excuse_38 rfl (lv_at hl 0 rfl) ?_
    refine fw_get X gC_ok hF (hW.2.1) rfl 5 (by decide) wm_181 rfl dX8_excuse_39 ?_
    refine lv_iload_n hx hb dX8_excuse_42 rfl (lv_at hl 1 rfl) ?_
    refine lv_bipush (v := 6) hx hb dX8_excuse_43 (by decide) ?_
    refine fw_iast X hF hS (hW.2.2.2.2.2.2.2.1) 0 rfl (wi_in ha (N := 4) (by decide)) dX8_excuse_45 (fun H locs hF hS => ?_)
    have hF : fw_P D cls10 A (va_up w (ad 6) (some (.inl (cs 0, 4, .inl (upd (tEx T) (ix a) 6))))) H := hF
    refine lv_goto (tgt := 57) hx hb dX8_excuse_46 (by decide) ?_
    refine lv_iload_n hx hb dX8_excuse_57 rfl (lv_at hl 2 rfl) ?_
    refine lv_i2l hx hb dX8_excuse_58 rfl ?_
    refine fw_lret X hF hS ?_ (Nat.le_of_ble_eq_true rfl) (Nat.le_of_ble_eq_true rfl) dX8_excuse_59
    refine ⟨rfl, ?_⟩
    simp [excI, sw1]
  · refine lv_lookup (off := 48) (tgt := 49) hx hb dX8_excuse_1 (by decide) (by rw [show (#[(0, 27), (1, 37)] : Array (Int × Int)).toList = [(0, 27), (1, 37)] from rfl, lv_osw (a := 0) sw1.1 rfl, lv_osw (a := 1) sw1.2 rfl]; rfl) (by decide) ?_
    refine lv_aload_n hx hb dX8_excuse_49 rfl (lv_at hl 0 rfl) ?_
    refine fw_get X gC_ok hF (hW.2.1) rfl 5 (by decide) wm_181 rfl dX8_excuse_50 ?_
    refine lv_iload_n hx hb dX8_excuse_53 rfl (lv_at hl 1 rfl) ?_
    refine lv_bipush (v := 7) hx hb dX8_excuse_54 (by decide) ?_
    refine fw_iast X hF hS (hW.2.2.2.2.2.2.2.1) 0 rfl (wi_in ha (N := 4) (by decide)) dX8_excuse_56 (fun H locs hF hS => ?_)
    have hF : fw_P D cls10 A (va_up w (ad 6) (some (.inl (cs 0, 4, .inl (upd (tEx T) (ix a) 7))))) H := hF
    refine lv_iload_n hx hb dX8_excuse_57 rfl (lv_at hl 2 rfl) ?_
    refine lv_i2l hx hb dX8_excuse_58 rfl ?_
    refine fw_lret X hF hS ?_ (Nat.le_of_ble_eq_true rfl) (Nat.le_of_ble_eq_true rfl) dX8_excuse_59
    refine ⟨rfl, ?_⟩
    simp [excI, sw1.1, sw1.2]
end
section
set_option maxHeartbeats 4000000 in
set_option maxRecDepth 100000 in
theorem c_X8_perform (l : Launch) (D : va_G) (cs : Nat → ClassId) (w : fW) (sz : Nat) (ad : Nat → Nat) (T : Sg) (jf : Nat → Nat → Option Nat) (hW : SW cs ad T jf w) (hI : Inv T) (k a b d : Int32) (hok : okS k a b d = true) : gM l bs_B nw_B D cls10 (tyl cs) yX8_perform cX8_perform 5 (some .long) 3 66 1 3 w sz [.ref (ad 0), .int k, .int a, .int b, .int d] (fun v w' => ∃ q, w q = none ∧ v = some (.long (oc (spDo q k a b d T).1)) ∧ SW cs ad (spDo q k a b d T).2 jf w') := by
  refine gM.of (by decide +kernel) (Nat.le_of_ble_eq_true rfl) (fun p e s m below meth c A ls X hsz hnm hF hS hl => ?_)
  have hx := X.1
  have hb := X.2.1
  have hl : lv_has ls 5 [(0, .ref (ad 0)), (1, .int k), (2, .int a), (3, .int b), (4, .int d)] := hl
  have ha := ok_a hok
  have hA9 : ix a < 4 := wi_lt ha (N := 4) (by decide)
  have hfr : w sz = none := hF.fresh (by omega)
  refine lv_iload_n hx hb dX8_perform_0 rfl (lv_at hl 1 rfl) ?_
  rcases gx_sw17 k with sw1 | sw1 | sw1 | sw1 | sw1 | sw1 | sw1 | sw1 | sw1 | sw1 | sw1 | sw1 | sw1 | sw1 | sw1 | sw1 | sw1 | sw1
  · refine lv_tableIn (off := 83) (tgt := 84) hx hb dX8_perform_1 (by rw [sw1]; decide) (by rw [sw1]; decide) (by rw [sw1]; rfl) (by decide) ?_
    subst sw1
    refine lv_aload_n hx hb dX8_perform_84 rfl (lv_at hl 0 rfl) ?_
    refine fw_get X gC_ok hF (hW.2.1) rfl 0 (by decide) wm_176 rfl dX8_perform_85 ?_
    refine lv_iload_n hx hb dX8_perform_88 rfl (lv_at hl 2 rfl) ?_
    refine fw_aldq X hF (hW.2.2.1) 2 rfl (wi_in ha (N := 4) (by decide)) (v := some (ad (10 + (ix a)))) rfl dX8_perform_89 ?_
    refine W.eq (g2 := F0 m 90 ls [.ref (ad (10 + (ix a)))]) rfl ?_
    refine lv_iload_n hx hb dX8_perform_90 rfl (lv_at hl 3 rfl) ?_
    refine fw_callV (As := [.int b]) (rest := []) X bs_all nw_all mf_X5_build (c_X5_build l D cs _ _ (ad (10 + (ix a))) ((tSt T (ix a)).1) ((tSt T (ix a)).2.1) ((tSt T (ix a)).2.2.1) ((tSt T (ix a)).2.2.2.1) ((tSt T (ix a)).2.2.2.2.1) ((tSt T (ix a)).2.2.2.2.2) (hW.2.2.2.2.2.2.2.2.2.2.1 (ix a) hA9) b) wm_219 wm_220 wm_221 hF hS rfl (hW.2.2.2.2.2.2.2.2.2.2.1 (ix a) hA9) rfl rfl ((⟨⟨Nat.le_of_ble_eq_true rfl, Nat.le_of_ble_eq_true rfl⟩, Nat.le_of_ble_eq_true rfl, Nat.le_of_ble_eq_true rfl⟩)) rfl hl.1 rfl (Nat.le_of_ble_eq_true rfl) dX8_perform_91 (fun v u2 H locs hp hF hS hz1 hk1 hd1 => ?_)
    obtain ⟨rfl, hw1⟩ := hp
    rw [hw1] at hF
    refine W.eq (g2 := F0 m 94 ls [.long b.toInt64]) rfl ?_
    refine fw_lret X hF hS ?_ (Nat.le_of_ble_eq_true rfl) (Nat.le_of_ble_eq_true rfl) dX8_perform_94
    have e9 : spDo sz 0 a b d T = ((0, b), setSt T (ix a) (true, b, none, none, 0, 0)) := by simp [spDo]
    exact ⟨sz, hfr, by rw [e9]; first | done | rfl, by rw [e9]; exact hW.st hA9 _⟩
  · refine lv_tableIn (off := 94) (tgt := 95) hx hb dX8_perform_1 (by rw [sw1]; decide) (by rw [sw1]; decide) (by rw [sw1]; rfl) (by decide) ?_
    subst sw1
    refine lv_aload_n hx hb dX8_perform_95 rfl (lv_at hl 0 rfl) ?_
    refine fw_get X gC_ok hF (hW.2.1) rfl 0 (by decide) wm_176 rfl dX8_perform_96 ?_
    refine lv_iload_n hx hb dX8_perform_99 rfl (lv_at hl 2 rfl) ?_
    refine fw_aldq X hF (hW.2.2.1) 2 rfl (wi_in ha (N := 4) (by decide)) (v := some (ad (10 + (ix a)))) rfl dX8_perform_100 ?_
    refine W.eq (g2 := F0 m 101 ls [.ref (ad (10 + (ix a)))]) rfl ?_
    refine fw_callV (As := []) (rest := []) X bs_all nw_all mf_X5_strip (c_X5_strip l D cs _ _ (ad (10 + (ix a))) ((tSt T (ix a)).1) ((tSt T (ix a)).2.1) ((tSt T (ix a)).2.2.1) ((tSt T (ix a)).2.2.2.1) ((tSt T (ix a)).2.2.2.2.1) ((tSt T (ix a)).2.2.2.2.2) (hW.2.2.2.2.2.2.2.2.2.2.1 (ix a) hA9)) wm_227 wm_224 wm_225 hF hS rfl (hW.2.2.2.2.2.2.2.2.2.2.1 (ix a) hA9) rfl rfl ((⟨⟨Nat.le_of_ble_eq_true rfl, Nat.le_of_ble_eq_true rfl⟩, Nat.le_of_ble_eq_true rfl, Nat.le_of_ble_eq_true rfl⟩)) rfl hl.1 rfl (Nat.le_of_ble_eq_true rfl) dX8_perform_101 (fun v u3 H locs hp hF hS hz1 hk1 hd1 => ?_)
    obtain ⟨rfl, hw1⟩ := hp
    rw [hw1] at hF
    refine W.eq (g2 := F0 m 104 ls [.long 1]) rfl ?_
    refine fw_lret X hF hS ?_ (Nat.le_of_ble_eq_true rfl) (Nat.le_of_ble_eq_true rfl) dX8_perform_104
    have e9 : spDo sz 1 a b d T = ((0, 1), setSt T (ix a) (false, 0, none, none, 0, 0)) := by simp [spDo]
    exact ⟨sz, hfr, by rw [e9]; first | done | rfl, by rw [e9]; exact hW.st hA9 _⟩
  · refine lv_tableIn (off := 104) (tgt := 105) hx hb dX8_perform_1 (by rw [sw1]; decide) (by rw [sw1]; decide) (by rw [sw1]; rfl) (by decide) ?_
    subst sw1
    refine lv_aload_n hx hb dX8_perform_105 rfl (lv_at hl 0 rfl) ?_
    refine fw_get X gC_ok hF (hW.2.1) rfl 0 (by decide) wm_176 rfl dX8_perform_106 ?_
    refine lv_iload_n hx hb dX8_perform_109 rfl (lv_at hl 2 rfl) ?_
    refine fw_aldq X hF (hW.2.2.1) 2 rfl (wi_in ha (N := 4) (by decide)) (v := some (ad (10 + (ix a)))) rfl dX8_perform_110 ?_
    refine W.eq (g2 := F0 m 111 ls [.ref (ad (10 + (ix a)))]) rfl ?_
    refine lv_iload_n hx hb dX8_perform_111 rfl (lv_at hl 3 rfl) ?_
    refine lv_iload hx hb dX8_perform_112 (lv_at hl 4 rfl) ?_
    refine fw_callV (As := [.int b, .int d]) (rest := []) X bs_all nw_all mf_X5_fit (c_X5_fit l D cs _ _ (ad (10 + (ix a))) ((tSt T (ix a)).1) ((tSt T (ix a)).2.1) ((tSt T (ix a)).2.2.1) ((tSt T (ix a)).2.2.2.1) ((tSt T (ix a)).2.2.2.2.1) ((tSt T (ix a)).2.2.2.2.2) (hW.2.2.2.2.2.2.2.2.2.2.1 (ix a) hA9) b d) wm_228 wm_229 wm_230 hF hS rfl (hW.2.2.2.2.2.2.2.2.2.2.1 (ix a) hA9) rfl rfl ((⟨⟨Nat.le_of_ble_eq_true rfl, Nat.le_of_ble_eq_true rfl⟩, Nat.le_of_ble_eq_true rfl, Nat.le_of_ble_eq_true rfl⟩)) rfl hl.1 rfl (Nat.le_of_ble_eq_true rfl) dX8_perform_114 (fun v u4 H locs hp hF hS hz1 hk1 hd1 => ?_)
    rcases hp with ⟨k1, rfl, hw1⟩ | ⟨k1, k2, rfl, hw1⟩ | ⟨k1, k2, rfl, q9, k3, hw1⟩
    · rw [hw1] at hF
      refine W.eq (g2 := F0 m 117 ls [.long (fl 1)]) rfl ?_
      refine fw_lret X hF hS ?_ (Nat.le_of_ble_eq_true rfl) (Nat.le_of_ble_eq_true rfl) dX8_perform_117
      have e9 : spDo sz 2 a b d T = ((1, 0), T) := by simp [spDo, spFit, k1]
      exact ⟨sz, hfr, by rw [e9]; first | done | rfl, by rw [e9]; exact hW⟩
    · rw [hw1] at hF
      refine W.eq (g2 := F0 m 117 ls [.long d.toInt64]) rfl ?_
      refine fw_lret X hF hS ?_ (Nat.le_of_ble_eq_true rfl) (Nat.le_of_ble_eq_true rfl) dX8_perform_117
      have e9 : spDo sz 2 a b d T = ((0, d), setSt T (ix a) (sdset b (tSt T (ix a)) none)) := by simp [spDo, spFit, k1, k2]
      exact ⟨sz, hfr, by rw [e9]; first | done | rfl, by rw [e9]; exact hW.st hA9 _⟩
    · rw [hw1] at hF
      refine W.eq (g2 := F0 m 117 ls [.long d.toInt64]) rfl ?_
      refine fw_lret X hF hS ?_ (Nat.le_of_ble_eq_true rfl) (Nat.le_of_ble_eq_true rfl) dX8_perform_117
      have e9 : spDo q9 2 a b d T = ((0, d), setSt (setWh T q9 (whN d)) (ix a) (sdset b (tSt T (ix a)) (some q9))) := by simp [spDo, spFit, k1, k2]
      exact ⟨q9, k3, by rw [e9]; first | done | rfl, by rw [e9]; exact (hW.wh (q := q9) (fs := []) (Or.inr k3) (whN d)).st hA9 _⟩
  · refine lv_tableIn (off := 117) (tgt := 118) hx hb dX8_perform_1 (by rw [sw1]; decide) (by rw [sw1]; decide) (by rw [sw1]; rfl) (by decide) ?_
    subst sw1
    refine lv_aload_n hx hb dX8_perform_118 rfl (lv_at hl 0 rfl) ?_
    refine fw_get X gC_ok hF (hW.2.1) rfl 0 (by decide) wm_176 rfl dX8_perform_119 ?_
    refine lv_iload_n hx hb dX8_perform_122 rfl (lv_at hl 2 rfl) ?_
    refine fw_aldq X hF (hW.2.2.1) 2 rfl (wi_in ha (N := 4) (by decide)) (v := some (ad (10 + (ix a)))) rfl dX8_perform_123 ?_
    refine W.eq (g2 := F0 m 124 ls [.ref (ad (10 + (ix a)))]) rfl ?_
    refine lv_iload_n hx hb dX8_perform_124 rfl (lv_at hl 3 rfl) ?_
    refine fw_callV (As := [.int b]) (rest := []) X bs_all nw_all mf_X5_trueWheel (c_X5_trueWheel l D cs _ _ (ad (10 + (ix a))) ((tSt T (ix a)).1) ((tSt T (ix a)).2.1) ((tSt T (ix a)).2.2.1) ((tSt T (ix a)).2.2.2.1) ((tSt T (ix a)).2.2.2.2.1) ((tSt T (ix a)).2.2.2.2.2) (hW.2.2.2.2.2.2.2.2.2.2.1 (ix a) hA9) b (W9 T) (fun q hq => hW.whl (hI.sd hA9 hq))) wm_256 wm_257 wm_258 hF hS rfl (hW.2.2.2.2.2.2.2.2.2.2.1 (ix a) hA9) rfl rfl ((⟨⟨Nat.le_of_ble_eq_true rfl, Nat.le_of_ble_eq_true rfl⟩, Nat.le_of_ble_eq_true rfl, Nat.le_of_ble_eq_true rfl⟩)) rfl hl.1 rfl (Nat.le_of_ble_eq_true rfl) dX8_perform_125 (fun v u5 H locs hp hF hS hz1 hk1 hd1 => ?_)
    rcases hp with ⟨k1, rfl, hw1⟩ | ⟨q9, k1, rfl, hw1⟩
    · rw [hw1] at hF
      refine W.eq (g2 := F0 m 128 ls [.long (fl 1)]) rfl ?_
      refine fw_lret X hF hS ?_ (Nat.le_of_ble_eq_true rfl) (Nat.le_of_ble_eq_true rfl) dX8_perform_128
      have e9 : spDo sz 3 a b d T = ((1, 0), T) := by simp [spDo, spTrue, k1]
      exact ⟨sz, hfr, by rw [e9]; first | done | rfl, by rw [e9]; exact hW⟩
    · rw [hw1] at hF
      refine W.eq (g2 := F0 m 128 ls [.long ((whT ((W9 T) q9)).toInt64)]) rfl ?_
      refine fw_lret X hF hS ?_ (Nat.le_of_ble_eq_true rfl) (Nat.le_of_ble_eq_true rfl) dX8_perform_128
      have e9 : spDo sz 3 a b d T = ((0, whT (W9 T q9)), setWh T q9 ((W9 T q9).1, (W9 T q9).2.1, (W9 T q9).2.2 + 1)) := by simp [spDo, spTrue, k1]
      exact ⟨sz, hfr, by rw [e9]; first | done | rfl, by rw [e9]; exact hW.wh (Or.inl (hW.whl (hI.sd hA9 k1))) _⟩
  · refine lv_tableIn (off := 128) (tgt := 129) hx hb dX8_perform_1 (by rw [sw1]; decide) (by rw [sw1]; decide) (by rw [sw1]; rfl) (by decide) ?_
    subst sw1
    refine lv_aload_n hx hb dX8_perform_129 rfl (lv_at hl 0 rfl) ?_
    refine fw_get X gC_ok hF (hW.2.1) rfl 0 (by decide) wm_176 rfl dX8_perform_130 ?_
    refine lv_iload_n hx hb dX8_perform_133 rfl (lv_at hl 2 rfl) ?_
    refine fw_aldq X hF (hW.2.2.1) 2 rfl (wi_in ha (N := 4) (by decide)) (v := some (ad (10 + (ix a)))) rfl dX8_perform_134 ?_
    refine W.eq (g2 := F0 m 135 ls [.ref (ad (10 + (ix a)))]) rfl ?_
    refine lv_iload_n hx hb dX8_perform_135 rfl (lv_at hl 3 rfl) ?_
    refine fw_callV (As := [.int b]) (rest := []) X bs_all nw_all mf_X5_countSpokes (c_X5_countSpokes l D cs _ _ (ad (10 + (ix a))) ((tSt T (ix a)).1) ((tSt T (ix a)).2.1) ((tSt T (ix a)).2.2.1) ((tSt T (ix a)).2.2.2.1) ((tSt T (ix a)).2.2.2.2.1) ((tSt T (ix a)).2.2.2.2.2) (hW.2.2.2.2.2.2.2.2.2.2.1 (ix a) hA9) b (W9 T) (fun q hq => hW.whl (hI.sd hA9 hq))) wm_268 wm_269 wm_270 hF hS rfl (hW.2.2.2.2.2.2.2.2.2.2.1 (ix a) hA9) rfl rfl ((⟨⟨Nat.le_of_ble_eq_true rfl, Nat.le_of_ble_eq_true rfl⟩, Nat.le_of_ble_eq_true rfl, Nat.le_of_ble_eq_true rfl⟩)) rfl hl.1 rfl (Nat.le_of_ble_eq_true rfl) dX8_perform_136 (fun v u6 H locs hp hF hS hz1 hk1 hd1 => ?_)
    rcases hp with ⟨k1, rfl, hw1⟩ | ⟨q9, k1, rfl, hw1⟩
    · rw [hw1] at hF
      refine W.eq (g2 := F0 m 139 ls [.long (fl 1)]) rfl ?_
      refine fw_lret X hF hS ?_ (Nat.le_of_ble_eq_true rfl) (Nat.le_of_ble_eq_true rfl) dX8_perform_139
      have e9 : spDo sz 4 a b d T = ((1, 0), T) := by simp [spDo, spCount, k1]
      exact ⟨sz, hfr, by rw [e9]; first | done | rfl, by rw [e9]; exact hW⟩
    · rw [hw1] at hF
      refine W.eq (g2 := F0 m 139 ls [.long (((W9 T) q9).1.toInt64)]) rfl ?_
      refine fw_lret X hF hS ?_ (Nat.le_of_ble_eq_true rfl) (Nat.le_of_ble_eq_true rfl) dX8_perform_139
      have e9 : spDo sz 4 a b d T = ((0, (W9 T q9).1), T) := by simp [spDo, spCount, k1]
      exact ⟨sz, hfr, by rw [e9]; first | done | rfl, by rw [e9]; exact hW⟩
  · refine lv_tableIn (off := 139) (tgt := 140) hx hb dX8_perform_1 (by rw [sw1]; decide) (by rw [sw1]; decide) (by rw [sw1]; rfl) (by decide) ?_
    subst sw1
    refine lv_aload_n hx hb dX8_perform_140 rfl (lv_at hl 0 rfl) ?_
    refine fw_get X gC_ok hF (hW.2.1) rfl 0 (by decide) wm_176 rfl dX8_perform_141 ?_
    refine lv_iload_n hx hb dX8_perform_144 rfl (lv_at hl 2 rfl) ?_
    refine fw_aldq X hF (hW.2.2.1) 2 rfl (wi_in ha (N := 4) (by decide)) (v := some (ad (10 + (ix a)))) rfl dX8_perform_145 ?_
    refine W.eq (g2 := F0 m 146 ls [.ref (ad (10 + (ix a)))]) rfl ?_
    refine lv_iload_n hx hb dX8_perform_146 rfl (lv_at hl 3 rfl) ?_
    refine lv_iload hx hb dX8_perform_147 (lv_at hl 4 rfl) ?_
    refine fw_callV (As := [.int b, .int d]) (rest := []) X bs_all nw_all mf_X5_light (c_X5_light l D cs _ _ (ad (10 + (ix a))) ((tSt T (ix a)).1) ((tSt T (ix a)).2.1) ((tSt T (ix a)).2.2.1) ((tSt T (ix a)).2.2.2.1) ((tSt T (ix a)).2.2.2.2.1) ((tSt T (ix a)).2.2.2.2.2) (hW.2.2.2.2.2.2.2.2.2.2.1 (ix a) hA9) b d) wm_272 wm_273 wm_274 hF hS rfl (hW.2.2.2.2.2.2.2.2.2.2.1 (ix a) hA9) rfl rfl ((⟨⟨Nat.le_of_ble_eq_true rfl, Nat.le_of_ble_eq_true rfl⟩, Nat.le_of_ble_eq_true rfl, Nat.le_of_ble_eq_true rfl⟩)) rfl hl.1 rfl (Nat.le_of_ble_eq_true rfl) dX8_perform_149 (fun v u7 H locs hp hF hS hz1 hk1 hd1 => ?_)
    obtain ⟨rfl, hw1⟩ := hp
    rw [hw1] at hF
    refine W.eq (g2 := F0 m 152 ls [.long (oc (spLight ((tSt T (ix a)).1, (tSt T (ix a)).2.1, (tSt T (ix a)).2.2.1, (tSt T (ix a)).2.2.2.1, (tSt T (ix a)).2.2.2.2.1, (tSt T (ix a)).2.2.2.2.2) b d).1)]) rfl ?_
    refine fw_lret X hF hS ?_ (Nat.le_of_ble_eq_true rfl) (Nat.le_of_ble_eq_true rfl) dX8_perform_152
    have e9 : spDo sz 5 a b d T = ((spLight (tSt T (ix a)) b d).1, setSt T (ix a) (spLight (tSt T (ix a)) b d).2) := by simp [spDo]
    exact ⟨sz, hfr, by rw [e9]; first | done | rfl, by rw [e9]; exact hW.st hA9 _⟩
  · refine lv_tableIn (off := 152) (tgt := 153) hx hb dX8_perform_1 (by rw [sw1]; decide) (by rw [sw1]; decide) (by rw [sw1]; rfl) (by decide) ?_
    subst sw1
    refine lv_aload_n hx hb dX8_perform_153 rfl (lv_at hl 0 rfl) ?_
    refine fw_get X gC_ok hF (hW.2.1) rfl 0 (by decide) wm_176 rfl dX8_perform_154 ?_
    refine lv_iload_n hx hb dX8_perform_157 rfl (lv_at hl 2 rfl) ?_
    refine fw_aldq X hF (hW.2.2.1) 2 rfl (wi_in ha (N := 4) (by decide)) (v := some (ad (10 + (ix a)))) rfl dX8_perform_158 ?_
    refine W.eq (g2 := F0 m 159 ls [.ref (ad (10 + (ix a)))]) rfl ?_
    refine lv_iload_n hx hb dX8_perform_159 rfl (lv_at hl 3 rfl) ?_
    refine fw_callV (As := [.int b]) (rest := []) X bs_all nw_all mf_X5_shine (c_X5_shine l D cs _ _ (ad (10 + (ix a))) ((tSt T (ix a)).1) ((tSt T (ix a)).2.1) ((tSt T (ix a)).2.2.1) ((tSt T (ix a)).2.2.2.1) ((tSt T (ix a)).2.2.2.2.1) ((tSt T (ix a)).2.2.2.2.2) (hW.2.2.2.2.2.2.2.2.2.2.1 (ix a) hA9) b) wm_276 wm_277 wm_278 hF hS rfl (hW.2.2.2.2.2.2.2.2.2.2.1 (ix a) hA9) rfl rfl ((⟨⟨Nat.le_of_ble_eq_true rfl, Nat.le_of_ble_eq_true rfl⟩, Nat.le_of_ble_eq_true rfl, Nat.le_of_ble_eq_true rfl⟩)) rfl hl.1 rfl (Nat.le_of_ble_eq_true rfl) dX8_perform_160 (fun v u8 H locs hp hF hS hz1 hk1 hd1 => ?_)
    obtain ⟨rfl, hw1⟩ := hp
    rw [hw1] at hF
    refine W.eq (g2 := F0 m 163 ls [.long (oc (spShine ((tSt T (ix a)).1, (tSt T (ix a)).2.1, (tSt T (ix a)).2.2.1, (tSt T (ix a)).2.2.2.1, (tSt T (ix a)).2.2.2.2.1, (tSt T (ix a)).2.2.2.2.2) b).1)]) rfl ?_
    refine fw_lret X hF hS ?_ (Nat.le_of_ble_eq_true rfl) (Nat.le_of_ble_eq_true rfl) dX8_perform_163
    have e9 : spDo sz 6 a b d T = ((spShine (tSt T (ix a)) b).1, setSt T (ix a) (spShine (tSt T (ix a)) b).2) := by simp [spDo]
    exact ⟨sz, hfr, by rw [e9]; first | done | rfl, by rw [e9]; exact hW.st hA9 _⟩
  · refine lv_tableIn (off := 163) (tgt := 164) hx hb dX8_perform_1 (by rw [sw1]; decide) (by rw [sw1]; decide) (by rw [sw1]; rfl) (by decide) ?_
    subst sw1
    refine lv_aload_n hx hb dX8_perform_164 rfl (lv_at hl 0 rfl) ?_
    refine fw_get X gC_ok hF (hW.2.1) rfl 1 (by decide) wm_177 rfl dX8_perform_165 ?_
    refine lv_iload_n hx hb dX8_perform_168 rfl (lv_at hl 2 rfl) ?_
    refine fw_aldq X hF (hW.2.2.2.1) 3 rfl (wi_in ha (N := 4) (by decide)) (v := some (ad (14 + (ix a)))) rfl dX8_perform_169 ?_
    refine W.eq (g2 := F0 m 170 ls [.ref (ad (14 + (ix a)))]) rfl ?_
    refine lv_iload_n hx hb dX8_perform_170 rfl (lv_at hl 3 rfl) ?_
    refine fw_callV (As := [.int b]) (rest := []) X bs_all nw_all mf_X0_make (c_X0_make l D cs _ _ (ad (14 + (ix a))) (ad (18 + (ix a))) ((tBa T (ix a)).1) ((tBa T (ix a)).2) (hW.2.2.2.2.2.2.2.2.2.2.2.1 (ix a) hA9) (hW.2.2.2.2.2.2.2.2.2.2.2.2.1 (ix a) hA9) b) wm_280 wm_281 wm_282 hF hS rfl (hW.2.2.2.2.2.2.2.2.2.2.2.1 (ix a) hA9) rfl rfl ((⟨⟨Nat.le_of_ble_eq_true rfl, Nat.le_of_ble_eq_true rfl⟩, Nat.le_of_ble_eq_true rfl, Nat.le_of_ble_eq_true rfl⟩)) rfl hl.1 rfl (Nat.le_of_ble_eq_true rfl) dX8_perform_171 (fun v u9 H locs hp hF hS hz1 hk1 hd1 => ?_)
    rcases hp with ⟨k1, rfl, hw1⟩ | ⟨k1, rfl, hw1⟩
    · rw [hw1] at hF
      refine W.eq (g2 := F0 m 174 ls [.long (fl 2)]) rfl ?_
      refine fw_lret X hF hS ?_ (Nat.le_of_ble_eq_true rfl) (Nat.le_of_ble_eq_true rfl) dX8_perform_174
      have m1 : b < 0 := k1.elim id (fun z => absurd z (i_nlt.mpr (ok_7 hok)))
      have e9 : spDo sz 7 a b d T = ((2, 0), T) := by simp [spDo, m1]
      exact ⟨sz, hfr, by rw [e9]; first | done | rfl, by rw [e9]; exact hW⟩
    · rw [hw1] at hF
      refine W.eq (g2 := F0 m 174 ls [.long b.toInt64]) rfl ?_
      refine fw_lret X hF hS ?_ (Nat.le_of_ble_eq_true rfl) (Nat.le_of_ble_eq_true rfl) dX8_perform_174
      have m1 : ¬ b < 0 := fun z => k1 (Or.inl z)
      have e9 : spDo sz 7 a b d T = ((0, b), setBa T (ix a) (b, fun _ => 0)) := by simp [spDo, m1]
      exact ⟨sz, hfr, by rw [e9]; first | done | rfl, by rw [e9]; exact by rw [← uBa T (ix a) ((tBa T (ix a)).1, fun _ => 0)]; have := (hW.baA hA9 (fun _ => 0)).baO hA9 b; rw [gBa, va_up_self] at this; exact this⟩
  · refine lv_tableIn (off := 174) (tgt := 175) hx hb dX8_perform_1 (by rw [sw1]; decide) (by rw [sw1]; decide) (by rw [sw1]; rfl) (by decide) ?_
    subst sw1
    refine lv_aload_n hx hb dX8_perform_175 rfl (lv_at hl 0 rfl) ?_
    refine fw_get X gC_ok hF (hW.2.1) rfl 2 (by decide) wm_178 rfl dX8_perform_176 ?_
    refine lv_iload_n hx hb dX8_perform_179 rfl (lv_at hl 2 rfl) ?_
    refine fw_aldq X hF (hW.2.2.2.2.1) 4 rfl (wi_in ha (N := 4) (by decide)) (v := some (ad (22 + (ix a)))) rfl dX8_perform_180 ?_
    refine W.eq (g2 := F0 m 181 ls [.ref (ad (22 + (ix a)))]) rfl ?_
    refine lv_iload_n hx hb dX8_perform_181 rfl (lv_at hl 3 rfl) ?_
    refine lv_iload hx hb dX8_perform_182 (lv_at hl 4 rfl) ?_
    refine lv_iconst (v := 1) hx hb dX8_perform_184 (by decide) ?_
    refine lv_iand hx hb dX8_perform_185 ?_
    refine lv_if_eq (tgt := 193) hx hb dX8_perform_186 (by decide) (fun c186_10 => ?_) (fun c186_10 => ?_)
    · refine lv_iconst (v := 0) hx hb dX8_perform_193 (by decide) ?_
      refine fw_callV (As := [.int b, .int 0]) (rest := []) X bs_all nw_all mf_X3_make (c_X3_make l D cs _ _ (ad (22 + (ix a))) (ad (26 + (ix a))) ((tRa T (ix a)).1) ((tRa T (ix a)).2.1) ((tRa T (ix a)).2.2) (hW.2.2.2.2.2.2.2.2.2.2.2.2.2.1 (ix a) hA9) (hW.2.2.2.2.2.2.2.2.2.2.2.2.2.2.1 (ix a) hA9) b false) wm_288 wm_289 wm_290 hF hS rfl (hW.2.2.2.2.2.2.2.2.2.2.2.2.2.1 (ix a) hA9) rfl rfl ((⟨⟨Nat.le_of_ble_eq_true rfl, Nat.le_of_ble_eq_true rfl⟩, Nat.le_of_ble_eq_true rfl, Nat.le_of_ble_eq_true rfl⟩)) rfl hl.1 rfl (Nat.le_of_ble_eq_true rfl) dX8_perform_194 (fun v u11 H locs hp hF hS hz1 hk1 hd1 => ?_)
      rcases hp with ⟨k1, rfl, hw1⟩ | ⟨k1, rfl, hw1⟩
      · rw [hw1] at hF
        refine W.eq (g2 := F0 m 197 ls [.long (fl 2)]) rfl ?_
        refine fw_lret X hF hS ?_ (Nat.le_of_ble_eq_true rfl) (Nat.le_of_ble_eq_true rfl) dX8_perform_197
        have m1 : b < 0 := k1.elim id (fun z => absurd z (i_nlt.mpr (ok_8 hok)))
        have e9 : spDo sz 8 a b d T = ((2, 0), T) := by simp [spDo, c186_10, m1]
        exact ⟨sz, hfr, by rw [e9]; first | done | rfl, by rw [e9]; exact hW⟩
      · rw [hw1] at hF
        refine W.eq (g2 := F0 m 197 ls [.long b.toInt64]) rfl ?_
        refine fw_lret X hF hS ?_ (Nat.le_of_ble_eq_true rfl) (Nat.le_of_ble_eq_true rfl) dX8_perform_197
        have m1 : ¬ b < 0 := fun z => k1 (Or.inl z)
        have e9 : spDo sz 8 a b d T = ((0, b), setRa T (ix a) (b, false, fun _ => none)) := by simp [spDo, c186_10, m1]
        exact ⟨sz, hfr, by rw [e9]; first | done | rfl, by rw [e9]; exact by rw [← uRa T (ix a) ((tRa T (ix a)).1, (tRa T (ix a)).2.1, fun _ => none)]; have := (hW.raA hA9 (fun _ => none)).raO hA9 b false; rw [gRa, va_up_self] at this; exact this⟩
    · refine lv_iconst (v := 1) hx hb dX8_perform_189 (by decide) ?_
      refine lv_goto (tgt := 194) hx hb dX8_perform_190 (by decide) ?_
      refine fw_callV (As := [.int b, .int 1]) (rest := []) X bs_all nw_all mf_X3_make (c_X3_make l D cs _ _ (ad (22 + (ix a))) (ad (26 + (ix a))) ((tRa T (ix a)).1) ((tRa T (ix a)).2.1) ((tRa T (ix a)).2.2) (hW.2.2.2.2.2.2.2.2.2.2.2.2.2.1 (ix a) hA9) (hW.2.2.2.2.2.2.2.2.2.2.2.2.2.2.1 (ix a) hA9) b true) wm_288 wm_289 wm_290 hF hS rfl (hW.2.2.2.2.2.2.2.2.2.2.2.2.2.1 (ix a) hA9) rfl rfl ((⟨⟨Nat.le_of_ble_eq_true rfl, Nat.le_of_ble_eq_true rfl⟩, Nat.le_of_ble_eq_true rfl, Nat.le_of_ble_eq_true rfl⟩)) rfl hl.1 rfl (Nat.le_of_ble_eq_true rfl) dX8_perform_194 (fun v u12 H locs hp hF hS hz1 hk1 hd1 => ?_)
      rcases hp with ⟨k1, rfl, hw1⟩ | ⟨k1, rfl, hw1⟩
      · rw [hw1] at hF
        refine W.eq (g2 := F0 m 197 ls [.long (fl 2)]) rfl ?_
        refine fw_lret X hF hS ?_ (Nat.le_of_ble_eq_true rfl) (Nat.le_of_ble_eq_true rfl) dX8_perform_197
        have m1 : b < 0 := k1.elim id (fun z => absurd z (i_nlt.mpr (ok_8 hok)))
        have e9 : spDo sz 8 a b d T = ((2, 0), T) := by simp [spDo, c186_10, m1]
        exact ⟨sz, hfr, by rw [e9]; first | done | rfl, by rw [e9]; exact hW⟩
      · rw [hw1] at hF
        refine W.eq (g2 := F0 m 197 ls [.long b.toInt64]) rfl ?_
        refine fw_lret X hF hS ?_ (Nat.le_of_ble_eq_true rfl) (Nat.le_of_ble_eq_true rfl) dX8_perform_197
        have m1 : ¬ b < 0 := fun z => k1 (Or.inl z)
        have e9 : spDo sz 8 a b d T = ((0, b), setRa T (ix a) (b, true, fun _ => none)) := by simp [spDo, c186_10, m1]
        exact ⟨sz, hfr, by rw [e9]; first | done | rfl, by rw [e9]; exact by rw [← uRa T (ix a) ((tRa T (ix a)).1, (tRa T (ix a)).2.1, fun _ => none)]; have := (hW.raA hA9 (fun _ => none)).raO hA9 b true; rw [gRa, va_up_self] at this; exact this⟩
  · refine lv_tableIn (off := 197) (tgt := 198) hx hb dX8_perform_1 (by rw [sw1]; decide) (by rw [sw1]; decide) (by rw [sw1]; rfl) (by decide) ?_
    subst sw1
    refine lv_aload_n hx hb dX8_perform_198 rfl (lv_at hl 0 rfl) ?_
    refine fw_get X gC_ok hF (hW.2.1) rfl 3 (by decide) wm_179 rfl dX8_perform_199 ?_
    refine lv_iload_n hx hb dX8_perform_202 rfl (lv_at hl 2 rfl) ?_
    refine fw_aldq X hF (hW.2.2.2.2.2.1) 5 rfl (wi_in ha (N := 4) (by decide)) (v := some (ad (30 + (ix a)))) rfl dX8_perform_203 ?_
    refine W.eq (g2 := F0 m 204 ls [.ref (ad (30 + (ix a)))]) rfl ?_
    refine lv_iload_n hx hb dX8_perform_204 rfl (lv_at hl 3 rfl) ?_
    refine lv_iload hx hb dX8_perform_205 (lv_at hl 4 rfl) ?_
    refine fw_callV (As := [.int b, .int d]) (rest := []) X bs_all nw_all mf_X1_make (c_X1_make l D cs _ _ (ad (30 + (ix a))) (ad (34 + (ix a))) ((tGr T (ix a)).1) ((tGr T (ix a)).2.1) ((tGr T (ix a)).2.2) (hW.2.2.2.2.2.2.2.2.2.2.2.2.2.2.2.1 (ix a) hA9) (hW.2.2.2.2.2.2.2.2.2.2.2.2.2.2.2.2.1 (ix a) hA9) b d) wm_293 wm_294 wm_295 hF hS rfl (hW.2.2.2.2.2.2.2.2.2.2.2.2.2.2.2.1 (ix a) hA9) rfl rfl ((⟨⟨Nat.le_of_ble_eq_true rfl, Nat.le_of_ble_eq_true rfl⟩, Nat.le_of_ble_eq_true rfl, Nat.le_of_ble_eq_true rfl⟩)) rfl hl.1 rfl (Nat.le_of_ble_eq_true rfl) dX8_perform_207 (fun v u13 H locs hp hF hS hz1 hk1 hd1 => ?_)
    rcases hp with ⟨k1, rfl, hw1⟩ | ⟨k1, rfl, hw1⟩
    · rw [hw1] at hF
      refine W.eq (g2 := F0 m 210 ls [.long (fl 2)]) rfl ?_
      refine fw_lret X hF hS ?_ (Nat.le_of_ble_eq_true rfl) (Nat.le_of_ble_eq_true rfl) dX8_perform_210
      have m1 : b < 0 ∨ d < 0 := k1.elim Or.inl (fun z => z.elim Or.inr (fun z => z.elim (fun z => absurd z (i_nlt.mpr (ok_9 hok).1)) (fun z => absurd z (i_nlt.mpr (ok_9 hok).2))))
      have e9 : spDo sz 9 a b d T = ((2, 0), T) := by simp [spDo, m1]
      exact ⟨sz, hfr, by rw [e9]; first | done | rfl, by rw [e9]; exact hW⟩
    · rw [hw1] at hF
      refine W.eq (g2 := F0 m 210 ls [.long b.toInt64]) rfl ?_
      refine fw_lret X hF hS ?_ (Nat.le_of_ble_eq_true rfl) (Nat.le_of_ble_eq_true rfl) dX8_perform_210
      have m1 : ¬ (b < 0 ∨ d < 0) := fun z => k1 (z.elim Or.inl (fun z => Or.inr (Or.inl z)))
      have e9 : spDo sz 9 a b d T = ((0, b), setGr T (ix a) (b, d, fun _ => 0)) := by simp [spDo, m1]
      exact ⟨sz, hfr, by rw [e9]; first | done | rfl, by rw [e9]; exact by rw [← uGr T (ix a) ((tGr T (ix a)).1, (tGr T (ix a)).2.1, fun _ => 0)]; have := (hW.grA hA9 (fun _ => 0)).grO hA9 b d; rw [gGr, va_up_self] at this; exact this⟩
  · refine lv_tableIn (off := 210) (tgt := 211) hx hb dX8_perform_1 (by rw [sw1]; decide) (by rw [sw1]; decide) (by rw [sw1]; rfl) (by decide) ?_
    subst sw1
    refine lv_aload_n hx hb dX8_perform_211 rfl (lv_at hl 0 rfl) ?_
    refine lv_iload_n hx hb dX8_perform_212 rfl (lv_at hl 2 rfl) ?_
    refine lv_iload_n hx hb dX8_perform_213 rfl (lv_at hl 3 rfl) ?_
    refine lv_iload hx hb dX8_perform_214 (lv_at hl 4 rfl) ?_
    refine fw_callV (As := [.int a, .int b, .int d]) (rest := []) X bs_all nw_all mf_X8_measure (c_X8_measure l D cs _ _ ad T jf hW a b d ha) wm_299 wm_301 wm_2 hF hS rfl (hW.2.1) rfl rfl ((⟨⟨Nat.le_of_ble_eq_true rfl, Nat.le_of_ble_eq_true rfl⟩, Nat.le_of_ble_eq_true rfl, Nat.le_of_ble_eq_true rfl⟩)) rfl hl.1 rfl (Nat.le_of_ble_eq_true rfl) dX8_perform_216 (fun v u14 H locs hp hF hS hz1 hk1 hd1 => ?_)
    obtain ⟨rfl, hw1⟩ := hp
    rw [hw1] at hF
    refine W.eq (g2 := F0 m 219 ls [.long (oc (spLong a b d T))]) rfl ?_
    refine fw_lret X hF hS ?_ (Nat.le_of_ble_eq_true rfl) (Nat.le_of_ble_eq_true rfl) dX8_perform_219
    have e9 : spDo sz 10 a b d T = (spLong a b d T, T) := by simp [spDo]
    exact ⟨sz, hfr, by rw [e9]; first | done | rfl, by rw [e9]; exact hW⟩
  · refine lv_tableIn (off := 219) (tgt := 220) hx hb dX8_perform_1 (by rw [sw1]; decide) (by rw [sw1]; decide) (by rw [sw1]; rfl) (by decide) ?_
    subst sw1
    refine lv_aload_n hx hb dX8_perform_220 rfl (lv_at hl 0 rfl) ?_
    refine fw_get X gC_ok hF (hW.2.1) rfl 1 (by decide) wm_177 rfl dX8_perform_221 ?_
    refine lv_iload_n hx hb dX8_perform_224 rfl (lv_at hl 2 rfl) ?_
    refine fw_aldq X hF (hW.2.2.2.1) 3 rfl (wi_in ha (N := 4) (by decide)) (v := some (ad (14 + (ix a)))) rfl dX8_perform_225 ?_
    refine W.eq (g2 := F0 m 226 ls [.ref (ad (14 + (ix a)))]) rfl ?_
    refine lv_iload_n hx hb dX8_perform_226 rfl (lv_at hl 3 rfl) ?_
    refine lv_iload hx hb dX8_perform_227 (lv_at hl 4 rfl) ?_
    refine fw_callV (As := [.int b, .int d]) (rest := []) X bs_all nw_all mf_X0_put (c_X0_put l D cs _ _ (ad (14 + (ix a))) (ad (18 + (ix a))) ((tBa T (ix a)).1) ((tBa T (ix a)).2) (hW.2.2.2.2.2.2.2.2.2.2.2.1 (ix a) hA9) (hW.2.2.2.2.2.2.2.2.2.2.2.2.1 (ix a) hA9) b d (hI.2.1 _ hA9).2) wm_312 wm_313 wm_314 hF hS rfl (hW.2.2.2.2.2.2.2.2.2.2.2.1 (ix a) hA9) rfl rfl ((⟨⟨Nat.le_of_ble_eq_true rfl, Nat.le_of_ble_eq_true rfl⟩, Nat.le_of_ble_eq_true rfl, Nat.le_of_ble_eq_true rfl⟩)) rfl hl.1 rfl (Nat.le_of_ble_eq_true rfl) dX8_perform_229 (fun v u15 H locs hp hF hS hz1 hk1 hd1 => ?_)
    rcases hp with ⟨k1, rfl, hw1⟩ | ⟨k1, k2, rfl, hw1⟩ | ⟨k1, k2, rfl, hw1⟩
    · rw [hw1] at hF
      refine W.eq (g2 := F0 m 232 ls [.long (fl 1)]) rfl ?_
      refine fw_lret X hF hS ?_ (Nat.le_of_ble_eq_true rfl) (Nat.le_of_ble_eq_true rfl) dX8_perform_232
      have e9 : spDo sz 11 a b d T = ((1, 0), T) := by simp [spDo, spPut, k1]
      exact ⟨sz, hfr, by rw [e9]; first | done | rfl, by rw [e9]; exact hW⟩
    · rw [hw1] at hF
      refine W.eq (g2 := F0 m 232 ls [.long (fl 3)]) rfl ?_
      refine fw_lret X hF hS ?_ (Nat.le_of_ble_eq_true rfl) (Nat.le_of_ble_eq_true rfl) dX8_perform_232
      have e9 : spDo sz 11 a b d T = ((3, 0), T) := by simp [spDo, spPut, k1, k2]
      exact ⟨sz, hfr, by rw [e9]; first | done | rfl, by rw [e9]; exact hW⟩
    · rw [hw1] at hF
      refine W.eq (g2 := F0 m 232 ls [.long ((((tBa T (ix a)).2) (ix b)).toInt64)]) rfl ?_
      refine fw_lret X hF hS ?_ (Nat.le_of_ble_eq_true rfl) (Nat.le_of_ble_eq_true rfl) dX8_perform_232
      have e9 : spDo sz 11 a b d T = ((0, (tBa T (ix a)).2 (ix b)), setBa T (ix a) ((tBa T (ix a)).1, upd (tBa T (ix a)).2 (ix b) d)) := by simp [spDo, spPut, k1, k2]
      exact ⟨sz, hfr, by rw [e9]; first | done | rfl, by rw [e9]; exact hW.baA hA9 _⟩
  · refine lv_tableIn (off := 232) (tgt := 233) hx hb dX8_perform_1 (by rw [sw1]; decide) (by rw [sw1]; decide) (by rw [sw1]; rfl) (by decide) ?_
    subst sw1
    refine lv_aload_n hx hb dX8_perform_233 rfl (lv_at hl 0 rfl) ?_
    refine fw_get X gC_ok hF (hW.2.1) rfl 3 (by decide) wm_179 rfl dX8_perform_234 ?_
    refine lv_iload_n hx hb dX8_perform_237 rfl (lv_at hl 2 rfl) ?_
    refine fw_aldq X hF (hW.2.2.2.2.2.1) 5 rfl (wi_in ha (N := 4) (by decide)) (v := some (ad (30 + (ix a)))) rfl dX8_perform_238 ?_
    refine W.eq (g2 := F0 m 239 ls [.ref (ad (30 + (ix a)))]) rfl ?_
    refine lv_iload_n hx hb dX8_perform_239 rfl (lv_at hl 3 rfl) ?_
    refine lv_iload hx hb dX8_perform_240 (lv_at hl 4 rfl) ?_
    refine fw_callV (As := [.int b, .int d]) (rest := []) X bs_all nw_all mf_X1_addOne (c_X1_addOne l D cs _ _ (ad (30 + (ix a))) (ad (34 + (ix a))) ((tGr T (ix a)).1) ((tGr T (ix a)).2.1) ((tGr T (ix a)).2.2) (hW.2.2.2.2.2.2.2.2.2.2.2.2.2.2.2.1 (ix a) hA9) (hW.2.2.2.2.2.2.2.2.2.2.2.2.2.2.2.2.1 (ix a) hA9) b d (hI.2.2.2.1 _ hA9).1.2 (hI.2.2.2.1 _ hA9).2.2) wm_317 wm_318 wm_319 hF hS rfl (hW.2.2.2.2.2.2.2.2.2.2.2.2.2.2.2.1 (ix a) hA9) rfl rfl ((⟨⟨Nat.le_of_ble_eq_true rfl, Nat.le_of_ble_eq_true rfl⟩, Nat.le_of_ble_eq_true rfl, Nat.le_of_ble_eq_true rfl⟩)) rfl hl.1 rfl (Nat.le_of_ble_eq_true rfl) dX8_perform_242 (fun v u16 H locs hp hF hS hz1 hk1 hd1 => ?_)
    rcases hp with ⟨k1, rfl, hw1⟩ | ⟨k1, k2, rfl, hw1⟩ | ⟨k1, k2, rfl, hw1⟩
    · rw [hw1] at hF
      refine W.eq (g2 := F0 m 245 ls [.long (fl 1)]) rfl ?_
      refine fw_lret X hF hS ?_ (Nat.le_of_ble_eq_true rfl) (Nat.le_of_ble_eq_true rfl) dX8_perform_245
      have e9 : spDo sz 12 a b d T = ((1, 0), T) := by simp [spDo, spAdd, k1]
      exact ⟨sz, hfr, by rw [e9]; first | done | rfl, by rw [e9]; exact hW⟩
    · rw [hw1] at hF
      refine W.eq (g2 := F0 m 245 ls [.long (fl 3)]) rfl ?_
      refine fw_lret X hF hS ?_ (Nat.le_of_ble_eq_true rfl) (Nat.le_of_ble_eq_true rfl) dX8_perform_245
      have e9 : spDo sz 12 a b d T = ((3, 0), T) := by simp [spDo, spAdd, k1, k2]
      exact ⟨sz, hfr, by rw [e9]; first | done | rfl, by rw [e9]; exact hW⟩
    · rw [hw1] at hF
      refine W.eq (g2 := F0 m 245 ls [.long ((((tGr T (ix a)).2.2) (12 * ix b + ix d) + 1).toInt64)]) rfl ?_
      refine fw_lret X hF hS ?_ (Nat.le_of_ble_eq_true rfl) (Nat.le_of_ble_eq_true rfl) dX8_perform_245
      have e9 : spDo sz 12 a b d T = ((0, (tGr T (ix a)).2.2 (12 * ix b + ix d) + 1), setGr T (ix a) ((tGr T (ix a)).1, (tGr T (ix a)).2.1, upd (tGr T (ix a)).2.2 (12 * ix b + ix d) ((tGr T (ix a)).2.2 (12 * ix b + ix d) + 1))) := by simp [spDo, spAdd, k1, k2]
      exact ⟨sz, hfr, by rw [e9]; first | done | rfl, by rw [e9]; exact hW.grA hA9 _⟩
  · refine lv_tableIn (off := 245) (tgt := 246) hx hb dX8_perform_1 (by rw [sw1]; decide) (by rw [sw1]; decide) (by rw [sw1]; rfl) (by decide) ?_
    subst sw1
    have hd := ok_13 hok
    refine lv_aload_n hx hb dX8_perform_246 rfl (lv_at hl 0 rfl) ?_
    refine fw_get X gC_ok hF (hW.2.1) rfl 2 (by decide) wm_178 rfl dX8_perform_247 ?_
    refine lv_iload_n hx hb dX8_perform_250 rfl (lv_at hl 2 rfl) ?_
    refine fw_aldq X hF (hW.2.2.2.2.1) 4 rfl (wi_in ha (N := 4) (by decide)) (v := some (ad (22 + (ix a)))) rfl dX8_perform_251 ?_
    refine W.eq (g2 := F0 m 252 ls [.ref (ad (22 + (ix a)))]) rfl ?_
    refine lv_iload_n hx hb dX8_perform_252 rfl (lv_at hl 3 rfl) ?_
    refine lv_aload_n hx hb dX8_perform_253 rfl (lv_at hl 0 rfl) ?_
    refine fw_get X gC_ok hF (hW.2.1) rfl 0 (by decide) wm_176 rfl dX8_perform_254 ?_
    refine lv_iload hx hb dX8_perform_257 (lv_at hl 4 rfl) ?_
    refine fw_aldq X hF (hW.2.2.1) 2 rfl (wi_in hd (N := 4) (by decide)) (v := some (ad (10 + (ix d)))) rfl dX8_perform_259 ?_
    refine W.eq (g2 := F0 m 260 ls [.ref (ad (10 + (ix d))), .int b, .ref (ad (22 + (ix a)))]) rfl ?_
    refine fw_callV (As := [.int b, .ref (ad (10 + (ix d)))]) (rest := []) X bs_all nw_all mf_X3_hang (c_X3_hang l D cs _ _ (ad (22 + (ix a))) (ad (26 + (ix a))) ((tRa T (ix a)).1) ((tRa T (ix a)).2.1) ((tRa T (ix a)).2.2) (hW.2.2.2.2.2.2.2.2.2.2.2.2.2.1 (ix a) hA9) (hW.2.2.2.2.2.2.2.2.2.2.2.2.2.2.1 (ix a) hA9) (ad (10 + (ix d))) ((tSt T (ix d)).1) ((tSt T (ix d)).2.1) ((tSt T (ix d)).2.2.1) ((tSt T (ix d)).2.2.2.1) ((tSt T (ix d)).2.2.2.2.1) ((tSt T (ix d)).2.2.2.2.2) (hW.2.2.2.2.2.2.2.2.2.2.1 (ix d) (wi_lt hd (N := 4) (by decide))) (W9 T) (fun q hq => hW.whl ((hI.1 _ (wi_lt hd (N := 4) (by decide))).1 q hq)) b (hI.2.2.1 _ hA9).1.2) wm_325 wm_326 wm_327 hF hS rfl (hW.2.2.2.2.2.2.2.2.2.2.2.2.2.1 (ix a) hA9) rfl rfl ((⟨⟨Nat.le_of_ble_eq_true rfl, Nat.le_of_ble_eq_true rfl⟩, Nat.le_of_ble_eq_true rfl, Nat.le_of_ble_eq_true rfl⟩)) rfl hl.1 rfl (Nat.le_of_ble_eq_true rfl) dX8_perform_260 (fun v u17 H locs hp hF hS hz1 hk1 hd1 => ?_)
    rcases hp with ⟨k1, rfl, hw1⟩ | ⟨k1, k2, rfl, hw1⟩ | ⟨k1, k2, k3, rfl, hw1⟩ | ⟨k1, k2, k3, rfl, hw1⟩
    · rw [hw1] at hF
      refine W.eq (g2 := F0 m 263 ls [.long (fl 1)]) rfl ?_
      refine fw_lret X hF hS ?_ (Nat.le_of_ble_eq_true rfl) (Nat.le_of_ble_eq_true rfl) dX8_perform_263
      have e9 : spDo sz 13 a b d T = ((1, 0), T) := by simp [spDo, spHang, k1]
      exact ⟨sz, hfr, by rw [e9]; first | done | rfl, by rw [e9]; exact hW⟩
    · rw [hw1] at hF
      refine W.eq (g2 := F0 m 263 ls [.long (fl 3)]) rfl ?_
      refine fw_lret X hF hS ?_ (Nat.le_of_ble_eq_true rfl) (Nat.le_of_ble_eq_true rfl) dX8_perform_263
      have e9 : spDo sz 13 a b d T = ((3, 0), T) := by simp [spDo, spHang, k1, k2]
      exact ⟨sz, hfr, by rw [e9]; first | done | rfl, by rw [e9]; exact hW⟩
    · rw [hw1] at hF
      refine W.eq (g2 := F0 m 263 ls [.long (fl 4)]) rfl ?_
      refine fw_lret X hF hS ?_ (Nat.le_of_ble_eq_true rfl) (Nat.le_of_ble_eq_true rfl) dX8_perform_263
      have m3 := (noS (T := T) (r := tRa T (ix a)) (x := tSt T (ix d))).mpr k3
      have e9 : spDo sz 13 a b d T = ((4, 0), T) := by simp [spDo, spHang, k1, k2, m3]
      exact ⟨sz, hfr, by rw [e9]; first | done | rfl, by rw [e9]; exact hW⟩
    · rw [hw1] at hF
      refine W.eq (g2 := F0 m 263 ls [.long 1]) rfl ?_
      refine fw_lret X hF hS ?_ (Nat.le_of_ble_eq_true rfl) (Nat.le_of_ble_eq_true rfl) dX8_perform_263
      have m3 : ¬ noStore T (tRa T (ix a)) (tSt T (ix d)) = true := fun z => k3 (noS.mp z)
      have e9 : spDo sz 13 a b d T = ((0, 1), setRa T (ix a) ((tRa T (ix a)).1, (tRa T (ix a)).2.1, va_up (tRa T (ix a)).2.2 (ix b) (tSt T (ix d)).2.2.1)) := by simp [spDo, spHang, k1, k2, m3]
      exact ⟨sz, hfr, by rw [e9]; first | done | rfl, by rw [e9]; exact hW.raA hA9 _⟩
  · refine lv_tableIn (off := 263) (tgt := 264) hx hb dX8_perform_1 (by rw [sw1]; decide) (by rw [sw1]; decide) (by rw [sw1]; rfl) (by decide) ?_
    subst sw1
    refine lv_aload_n hx hb dX8_perform_264 rfl (lv_at hl 0 rfl) ?_
    refine fw_get X gC_ok hF (hW.2.1) rfl 2 (by decide) wm_178 rfl dX8_perform_265 ?_
    refine lv_iload_n hx hb dX8_perform_268 rfl (lv_at hl 2 rfl) ?_
    refine fw_aldq X hF (hW.2.2.2.2.1) 4 rfl (wi_in ha (N := 4) (by decide)) (v := some (ad (22 + (ix a)))) rfl dX8_perform_269 ?_
    refine W.eq (g2 := F0 m 270 ls [.ref (ad (22 + (ix a)))]) rfl ?_
    refine lv_iload_n hx hb dX8_perform_270 rfl (lv_at hl 3 rfl) ?_
    refine fw_callV (As := [.int b]) (rest := []) X bs_all nw_all mf_X3_balance (c_X3_balance l D cs _ _ (ad (22 + (ix a))) (ad (26 + (ix a))) ((tRa T (ix a)).1) ((tRa T (ix a)).2.1) ((tRa T (ix a)).2.2) (hW.2.2.2.2.2.2.2.2.2.2.2.2.2.1 (ix a) hA9) (hW.2.2.2.2.2.2.2.2.2.2.2.2.2.2.1 (ix a) hA9) b (W9 T) (fun z q hq => hW.whl ((hI.2.2.1 _ hA9).2 _ q (wi_lt (wi_le z (hI.2.2.1 _ hA9).1.2) (by decide)) hq)) (hI.2.2.1 _ hA9).1.2) wm_330 wm_331 wm_332 hF hS rfl (hW.2.2.2.2.2.2.2.2.2.2.2.2.2.1 (ix a) hA9) rfl rfl ((⟨⟨Nat.le_of_ble_eq_true rfl, Nat.le_of_ble_eq_true rfl⟩, Nat.le_of_ble_eq_true rfl, Nat.le_of_ble_eq_true rfl⟩)) rfl hl.1 rfl (Nat.le_of_ble_eq_true rfl) dX8_perform_271 (fun v u18 H locs hp hF hS hz1 hk1 hd1 => ?_)
    rcases hp with ⟨k1, rfl, hw1⟩ | ⟨k1, k2, rfl, hw1⟩ | ⟨k1, k2, k3, rfl, hw1⟩ | ⟨k1, k2, q9, k3, k4, rfl, hw1⟩ | ⟨k1, k2, q9, k3, k4, rfl, hw1⟩
    · rw [hw1] at hF
      refine W.eq (g2 := F0 m 274 ls [.long (fl 1)]) rfl ?_
      refine fw_lret X hF hS ?_ (Nat.le_of_ble_eq_true rfl) (Nat.le_of_ble_eq_true rfl) dX8_perform_274
      have e9 : spDo sz 14 a b d T = ((1, 0), T) := by simp [spDo, spBal, k1]
      exact ⟨sz, hfr, by rw [e9]; first | done | rfl, by rw [e9]; exact hW⟩
    · rw [hw1] at hF
      refine W.eq (g2 := F0 m 274 ls [.long (fl 3)]) rfl ?_
      refine fw_lret X hF hS ?_ (Nat.le_of_ble_eq_true rfl) (Nat.le_of_ble_eq_true rfl) dX8_perform_274
      have e9 : spDo sz 14 a b d T = ((3, 0), T) := by simp [spDo, spBal, k1, k2]
      exact ⟨sz, hfr, by rw [e9]; first | done | rfl, by rw [e9]; exact hW⟩
    · rw [hw1] at hF
      refine W.eq (g2 := F0 m 274 ls [.long (fl 1)]) rfl ?_
      refine fw_lret X hF hS ?_ (Nat.le_of_ble_eq_true rfl) (Nat.le_of_ble_eq_true rfl) dX8_perform_274
      have e9 : spDo sz 14 a b d T = ((1, 0), T) := by simp [spDo, spBal, k1, k2, k3]
      exact ⟨sz, hfr, by rw [e9]; first | done | rfl, by rw [e9]; exact hW⟩
    · rw [hw1] at hF
      refine W.eq (g2 := F0 m 274 ls [.long (fl 5)]) rfl ?_
      refine fw_lret X hF hS ?_ (Nat.le_of_ble_eq_true rfl) (Nat.le_of_ble_eq_true rfl) dX8_perform_274
      have e9 : spDo sz 14 a b d T = ((5, 0), T) := by simp [spDo, spBal, k1, k2, k3, k4]
      exact ⟨sz, hfr, by rw [e9]; first | done | rfl, by rw [e9]; exact hW⟩
    · rw [hw1] at hF
      refine W.eq (g2 := F0 m 274 ls [.long ((1000 + ((W9 T) q9).1).toInt64)]) rfl ?_
      refine fw_lret X hF hS ?_ (Nat.le_of_ble_eq_true rfl) (Nat.le_of_ble_eq_true rfl) dX8_perform_274
      have e9 : spDo sz 14 a b d T = ((0, 1000 + (W9 T q9).1), setWh T q9 ((W9 T q9).1, (W9 T q9).2.1, 0)) := by simp [spDo, spBal, k1, k2, k3, k4]
      exact ⟨sz, hfr, by rw [e9]; first | done | rfl, by rw [e9]; exact hW.wh (Or.inl (hW.whl ((hI.2.2.1 _ hA9).2 _ _ (wi_lt (wi_le k2 (hI.2.2.1 _ hA9).1.2) (by decide)) k3))) _⟩
  · refine lv_tableIn (off := 274) (tgt := 275) hx hb dX8_perform_1 (by rw [sw1]; decide) (by rw [sw1]; decide) (by rw [sw1]; rfl) (by decide) ?_
    subst sw1
    refine lv_aload_n hx hb dX8_perform_275 rfl (lv_at hl 0 rfl) ?_
    refine lv_iload_n hx hb dX8_perform_276 rfl (lv_at hl 2 rfl) ?_
    refine lv_iload_n hx hb dX8_perform_277 rfl (lv_at hl 3 rfl) ?_
    refine fw_callV (As := [.int a, .int b]) (rest := []) X bs_all nw_all mf_X8_excuse (c_X8_excuse l D cs _ _ ad T jf hW a b ha) wm_338 wm_340 wm_3 hF hS rfl (hW.2.1) rfl rfl ((⟨⟨Nat.le_of_ble_eq_true rfl, Nat.le_of_ble_eq_true rfl⟩, Nat.le_of_ble_eq_true rfl, Nat.le_of_ble_eq_true rfl⟩)) rfl hl.1 rfl (Nat.le_of_ble_eq_true rfl) dX8_perform_278 (fun v u19 H locs hp hF hS hz1 hk1 hd1 => ?_)
    obtain ⟨rfl, hw1⟩ := hp
    rw [hw1] at hF
    refine W.eq (g2 := F0 m 281 ls [.long b.toInt64]) rfl ?_
    refine fw_lret X hF hS ?_ (Nat.le_of_ble_eq_true rfl) (Nat.le_of_ble_eq_true rfl) dX8_perform_281
    have e9 : spDo sz 15 a b d T = ((0, b), setEx T (upd (tEx T) (ix a) (excI b))) := by simp [spDo]
    exact ⟨sz, hfr, by rw [e9]; first | done | rfl, by rw [e9]; exact hW.ex _⟩
  · refine lv_tableIn (off := 281) (tgt := 282) hx hb dX8_perform_1 (by rw [sw1]; decide) (by rw [sw1]; decide) (by rw [sw1]; rfl) (by decide) ?_
    subst sw1
    refine lv_iload_n hx hb dX8_perform_282 rfl (lv_at hl 3 rfl) ?_
    refine lv_if_ne (tgt := 290) hx hb dX8_perform_283 (by decide) (fun c283_20 => ?_) (fun c283_20 => ?_)
    · refine lv_aload_n hx hb dX8_perform_290 rfl (lv_at hl 0 rfl) ?_
      refine fw_get X gC_ok hF (hW.2.1) rfl 5 (by decide) wm_181 rfl dX8_perform_291 ?_
      refine lv_iload_n hx hb dX8_perform_294 rfl (lv_at hl 2 rfl) ?_
      refine fw_iald X hF (hW.2.2.2.2.2.2.2.1) 0 rfl (wi_in ha (N := 4) (by decide)) (v := (tEx T) (ix a)) rfl dX8_perform_295 ?_
      refine fw_callS (As := [.int ((tEx T) (ix a))]) (rest := []) X bs_all nw_all mf_X8_failure (c_X8_failure l D cs _ _ ((tEx T) (ix a))) wm_306 wm_233 hF hS rfl ((⟨⟨Nat.le_of_ble_eq_true rfl, Nat.le_of_ble_eq_true rfl⟩, Nat.le_of_ble_eq_true rfl, Nat.le_of_ble_eq_true rfl⟩)) rfl hl.1 rfl (Nat.le_of_ble_eq_true rfl) dX8_perform_296 (fun v u21 H locs hp hF hS hz1 hk1 hd1 => ?_)
      obtain ⟨rfl, hw1⟩ := hp
      rw [hw1] at hF
      refine W.eq (g2 := F0 m 299 ls [.long (fl ((tEx T) (ix a)))]) rfl ?_
      refine fw_lret X hF hS ?_ (Nat.le_of_ble_eq_true rfl) (Nat.le_of_ble_eq_true rfl) dX8_perform_299
      have e9 : spDo sz 16 a b d T = ((tEx T (ix a), 0), T) := by simp [spDo, c283_20]
      have m9 : ¬ tEx T (ix a) = 0 := by rcases hI.2.2.2.2.2 _ hA9 with z | z | z <;> rw [z] <;> decide
      refine ⟨sz, hfr, ?_, by rw [e9]; exact hW⟩
      rw [e9]; simp [oc, m9]
    · refine lv_lconst (v := 0) hx hb dX8_perform_286 (by decide) ?_
      refine lv_goto (tgt := 299) hx hb dX8_perform_287 (by decide) ?_
      refine fw_lret X hF hS ?_ (Nat.le_of_ble_eq_true rfl) (Nat.le_of_ble_eq_true rfl) dX8_perform_299
      have e9 : spDo sz 16 a b d T = ((0, 0), T) := by simp [spDo, c283_20]
      exact ⟨sz, hfr, by rw [e9]; first | done | rfl, by rw [e9]; exact hW⟩
  · refine lv_tableOut (tgt := 300) hx hb dX8_perform_1 sw1 (by decide) ?_
    exact (wi_kl (ok_k hok) sw1).elim
end
section
theorem rsn_ans (x : Int32) : rsn x.toInt64 = 0 := by
  unfold rsn
  rw [if_neg]
  intro h
  have h1 := Int64.lt_iff_toInt_lt.mp h
  rw [Int32.toInt_toInt64] at h1
  have h2 := Int32.le_toInt x
  have h3 : (-2147483648 : Int64).toInt = -2147483648 := rfl
  omega
theorem wi8 {r : Int32} (h : wi r 8 = true) : r = 0 ∨ r = 1 ∨ r = 2 ∨ r = 3 ∨ r = 4 ∨ r = 5 ∨ r = 6 ∨ r = 7 := by
  have h1 := Int32.le_iff_toInt_le.mp (wi_1 h)
  have h2 := Int32.lt_iff_toInt_lt.mp (wi_2 h)
  have h3 : (0 : Int32).toInt = 0 := rfl
  have h4 : (8 : Int32).toInt = 8 := rfl
  rw [gx_i r 0 (a := 0) rfl, gx_i r 1 (a := 1) rfl, gx_i r 2 (a := 2) rfl, gx_i r 3 (a := 3) rfl, gx_i r 4 (a := 4) rfl, gx_i r 5 (a := 5) rfl, gx_i r 6 (a := 6) rfl, gx_i r 7 (a := 7) rfl]
  omega
theorem rsn_oc {r : Int32 × Int32} (h : wi r.1 8 = true) : rsn (oc r) = r.1 := by
  obtain ⟨a, b⟩ := r
  rcases wi8 h with h | h | h | h | h | h | h | h
  · have h : a = 0 := h
    subst h
    exact rsn_ans b
  · have h : a = 1 := h
    subst h
    exact (show rsn (fl 1) = 1 by decide +kernel)
  · have h : a = 2 := h
    subst h
    exact (show rsn (fl 2) = 2 by decide +kernel)
  · have h : a = 3 := h
    subst h
    exact (show rsn (fl 3) = 3 by decide +kernel)
  · have h : a = 4 := h
    subst h
    exact (show rsn (fl 4) = 4 by decide +kernel)
  · have h : a = 5 := h
    subst h
    exact (show rsn (fl 5) = 5 by decide +kernel)
  · have h : a = 6 := h
    subst h
    exact (show rsn (fl 6) = 6 by decide +kernel)
  · have h : a = 7 := h
    subst h
    exact (show rsn (fl 7) = 7 by decide +kernel)
theorem sr_len (n : Int32) : wi (spLen n).1 8 = true := by unfold spLen; split <;> rfl
theorem sr_row (n k i : Int32) : wi (spRow n k i).1 8 = true := by unfold spRow; split; rfl; split <;> rfl
theorem sr_long (a b d : Int32) (T : Sg) : wi (spLong a b d T).1 8 = true := by
  unfold spLong
  split
  · exact sr_len _
  · split
    · exact sr_len _
    · split
      · exact sr_len _
      · exact sr_row _ _ _
theorem sr_fit (q : Nat) (a b d : Int32) (T : Sg) : wi (spFit q a b d T).1.1 8 = true := by unfold spFit; split; rfl; split <;> rfl
theorem sr_true (b : Int32) (x : aS) (T : Sg) : wi (spTrue b x T).1.1 8 = true := by unfold spTrue; split <;> rfl
theorem sr_count (b : Int32) (x : aS) (T : Sg) : wi (spCount b x T).1.1 8 = true := by unfold spCount; split <;> rfl
theorem sr_put (a b d : Int32) (T : Sg) : wi (spPut a b d T).1.1 8 = true := by unfold spPut; split; rfl; split <;> rfl
theorem sr_add (a b d : Int32) (T : Sg) : wi (spAdd a b d T).1.1 8 = true := by unfold spAdd; split; rfl; split <;> rfl
theorem sr_hang (a b d : Int32) (T : Sg) : wi (spHang a b d T).1.1 8 = true := by unfold spHang; split; rfl; split; (split <;> rfl); rfl
theorem sr_bal (a b : Int32) (T : Sg) : wi (spBal a b T).1.1 8 = true := by unfold spBal; split; rfl; split; (split; rfl; split <;> rfl); rfl
theorem sr_light (x : aS) (b d : Int32) : wi (spLight x b d).1.1 8 = true := by unfold spLight; split <;> rfl
theorem sr_shine (x : aS) (b : Int32) : wi (spShine x b).1.1 8 = true := by unfold spShine; split; rfl; split; rfl; split <;> rfl
theorem spDo_r {q : Nat} {k a b d : Int32} {T : Sg} (hI : Inv T) (ha : ix a < 4) : wi (spDo q k a b d T).1.1 8 = true := by
  have hE : wi (tEx T (ix a)) 8 = true := by rcases hI.2.2.2.2.2 _ ha with z | z | z <;> rw [z] <;> decide
  unfold spDo
  by_cases h0 : k = 0
  · rw [if_pos h0]; rfl
  rw [if_neg h0]
  by_cases h1 : k = 1
  · rw [if_pos h1]; rfl
  rw [if_neg h1]
  by_cases h2 : k = 2
  · rw [if_pos h2]; exact sr_fit _ _ _ _ _
  rw [if_neg h2]
  by_cases h3 : k = 3
  · rw [if_pos h3]; exact sr_true _ _ _
  rw [if_neg h3]
  by_cases h4 : k = 4
  · rw [if_pos h4]; exact sr_count _ _ _
  rw [if_neg h4]
  by_cases h5 : k = 5
  · rw [if_pos h5]; exact sr_light _ _ _
  rw [if_neg h5]
  by_cases h6 : k = 6
  · rw [if_pos h6]; exact sr_shine _ _
  rw [if_neg h6]
  by_cases h7 : k = 7
  · rw [if_pos h7]; split <;> rfl
  rw [if_neg h7]
  by_cases h8 : k = 8
  · rw [if_pos h8]; split <;> rfl
  rw [if_neg h8]
  by_cases h9 : k = 9
  · rw [if_pos h9]; split <;> rfl
  rw [if_neg h9]
  by_cases h10 : k = 10
  · rw [if_pos h10]; exact sr_long _ _ _ _
  rw [if_neg h10]
  by_cases h11 : k = 11
  · rw [if_pos h11]; exact sr_put _ _ _ _
  rw [if_neg h11]
  by_cases h12 : k = 12
  · rw [if_pos h12]; exact sr_add _ _ _ _
  rw [if_neg h12]
  by_cases h13 : k = 13
  · rw [if_pos h13]; exact sr_hang _ _ _ _
  rw [if_neg h13]
  by_cases h14 : k = 14
  · rw [if_pos h14]; exact sr_bal _ _ _
  rw [if_neg h14]
  by_cases h15 : k = 15
  · rw [if_pos h15]; rfl
  rw [if_neg h15]
  show wi (if b = 0 then ((0 : Int32), (0 : Int32)) else (tEx T (ix a), 0)).1 8 = true
  split
  · rfl
  · exact hE
def spTold (R : aRe) (k : Int32) : Int32 := if k = 0 then R.1 else if k = 1 then R.2.1 else if k = 2 then R.2.2.1 else if k = 3 then R.2.2.2.1 else if k = 4 then R.2.2.2.2.1 else -2
def spTally (T : Sg) (r : Int32) : Int32 := if wi (r - 1) 7 = true then tTa T (ix r) else -2
theorem wi7t {r : Int32} (h1 : ¬ r < 1) (h2 : ¬ 7 < r) : wi (r - 1) 7 = true ∧ wi r 8 = true := by
  have a1 := Int32.le_iff_toInt_le.mp (i_nlt.mp h1)
  have a2 := Int32.le_iff_toInt_le.mp (i_nlt.mp h2)
  have h3 : (1 : Int32).toInt = 1 := rfl
  have h4 : (7 : Int32).toInt = 7 := rfl
  have h5 : r = 1 ∨ r = 2 ∨ r = 3 ∨ r = 4 ∨ r = 5 ∨ r = 6 ∨ r = 7 := by
    rw [gx_i r 1 (a := 1) rfl, gx_i r 2 (a := 2) rfl, gx_i r 3 (a := 3) rfl, gx_i r 4 (a := 4) rfl, gx_i r 5 (a := 5) rfl, gx_i r 6 (a := 6) rfl, gx_i r 7 (a := 7) rfl]
    omega
  rcases h5 with h | h | h | h | h | h | h <;> (rw [h]; decide)
theorem wi7f {r : Int32} (h : r < 1 ∨ 7 < r) : wi (r - 1) 7 = false := by
  cases hw : wi (r - 1) 7 with
  | false => rfl
  | true =>
    exfalso
    obtain ⟨j, hj, e⟩ := vp_in_of (wi_in hw (N := 7) (by decide)) (by decide)
    have e2 : r = nI (j + 1) := by
      have : r = (r - 1) + 1 := by simp
      rw [this, e, nI_1]
    rw [e2] at h
    rcases h with h | h
    · exact absurd h (i_nlt.mpr (show nI 1 ≤ nI (j + 1) from nI_le (by omega) (by omega)))
    · exact absurd h (i_nlt.mpr (show nI (j + 1) ≤ nI 7 from nI_le (by omega) (by omega)))
def spRack (T : Sg) (a i : Int32) : Int32 := if wi a 4 = true then (match (if wi i (tRa T (ix a)).1 = true then (tRa T (ix a)).2.2 (ix i) else none) with
  | none => -2147483648
  | some q => whL (W9 T q)) else -2147483648
theorem rk_w {T : Sg} (hI : Inv T) {n q : Nat} (hn : n < 4) {i : Int32} (hq : (if wi i (tRa T n).1 = true then (tRa T n).2.2 (ix i) else none) = some q) : (tWh T q).isSome = true := by
  split at hq
  · rename_i z
    exact (hI.2.2.1 n hn).2 _ q (wi_lt (wi_le z (hI.2.2.1 n hn).1.2) (by decide)) hq
  · cases hq
set_option maxHeartbeats 4000000 in
set_option maxRecDepth 100000 in
theorem c_X8_attempt (l : Launch) (D : va_G) (cs : Nat → ClassId) (w : fW) (sz : Nat) (ad : Nat → Nat) (T : Sg) (jf : Nat → Nat → Option Nat) (hW : SW cs ad T jf w) (hI : Inv T) (k a b d : Int32) (hok : okS k a b d = true) : gM l bs_B nw_B D cls10 (tyl cs) yX8_attempt cX8_attempt 8 (some .long) 4 90 1 3 w sz [.ref (ad 0), .int k, .int a, .int b, .int d] (fun v w' => ∃ q, w q = none ∧ v = some (.long (oc (spAt q k a b d T).1)) ∧ SW cs ad (spAt q k a b d T).2 jf w') := by
  refine gM.of (by decide +kernel) (Nat.le_of_ble_eq_true rfl) (fun p e s m below meth c A ls X hsz hnm hF hS hl => ?_)
  have hx := X.1
  have hb := X.2.1
  have hl : lv_has ls 8 [(0, .ref (ad 0)), (1, .int k), (2, .int a), (3, .int b), (4, .int d)] := hl
  refine lv_aload_n hx hb dX8_attempt_0 rfl (lv_at hl 0 rfl) ?_
  refine lv_iload_n hx hb dX8_attempt_1 rfl (lv_at hl 1 rfl) ?_
  refine lv_iload_n hx hb dX8_attempt_2 rfl (lv_at hl 2 rfl) ?_
  refine lv_iload_n hx hb dX8_attempt_3 rfl (lv_at hl 3 rfl) ?_
  refine lv_iload hx hb dX8_attempt_4 (lv_at hl 4 rfl) ?_
  refine fw_callV (As := [.int k, .int a, .int b, .int d]) (rest := []) X bs_all nw_all mf_X8_perform (c_X8_perform l D cs _ _ ad T jf hW hI k a b d hok) wm_215 wm_217 wm_1 hF hS rfl (hW.2.1) rfl rfl ((⟨⟨Nat.le_of_ble_eq_true rfl, Nat.le_of_ble_eq_true rfl⟩, Nat.le_of_ble_eq_true rfl, Nat.le_of_ble_eq_true rfl⟩)) rfl hl.1 rfl (Nat.le_of_ble_eq_true rfl) dX8_attempt_6 (fun v u1 H locs hp hF hS hz1 hk1 hd1 => ?_)
  obtain ⟨q9, hq9, rfl, hW1⟩ := hp
  have hR8 := spDo_r (q := q9) (k := k) (b := b) (d := d) hI (wi_lt (ok_a hok) (N := 4) (by decide))
  generalize hr9 : spDo q9 k a b d T = r9 at hW1 hR8 ⊢
  have hR := rsn_oc hR8
  refine W.eq (g2 := F0 m 9 ls [.long (oc r9.1)]) rfl ?_
  refine lv_lstore (lv' := [(5, .long (oc r9.1)), (0, .ref (ad 0)), (1, .int k), (2, .int a), (3, .int b), (4, .int d)]) hx hb dX8_attempt_9 hl (by decide) rfl (fun ls hl => ?_)
  refine lv_lload hx hb dX8_attempt_11 (lv_at hl 0 rfl) ?_
  refine fw_callS (As := [.long (oc r9.1)]) (rest := []) X bs_all nw_all mf_X8_reasonOf (c_X8_reasonOf l D cs _ _ (oc r9.1)) wm_342 wm_343 hF hS rfl ((⟨⟨Nat.le_of_ble_eq_true rfl, Nat.le_of_ble_eq_true rfl⟩, Nat.le_of_ble_eq_true rfl, Nat.le_of_ble_eq_true rfl⟩)) rfl hl.1 rfl (Nat.le_of_ble_eq_true rfl) dX8_attempt_13 (fun v u2 H locs hp hF hS hz1 hk1 hd1 => ?_)
  obtain ⟨rfl, hw1⟩ := hp
  rw [hw1] at hF
  refine W.eq (g2 := F0 m 16 ls [.int (rsn (oc r9.1))]) rfl ?_
  refine lv_istore (lv' := [(7, .int (rsn (oc r9.1))), (5, .long (oc r9.1)), (0, .ref (ad 0)), (1, .int k), (2, .int a), (3, .int b), (4, .int d)]) hx hb dX8_attempt_16 hl (by decide) rfl (fun ls hl => ?_)
  refine lv_iload hx hb dX8_attempt_18 (lv_at hl 0 rfl) ?_
  refine lv_iconst (v := 1) hx hb dX8_attempt_20 (by decide) ?_
  refine lv_icmp_lt (tgt := 42) hx hb dX8_attempt_21 (by decide) (fun c21_3 => ?_) (fun c21_3 => ?_)
  · refine lv_lload hx hb dX8_attempt_42 (lv_at hl 1 rfl) ?_
    refine fw_lret X hF hS ?_ (Nat.le_of_ble_eq_true rfl) (Nat.le_of_ble_eq_true rfl) dX8_attempt_44
    have z9 : r9.1.1 = 0 := by rw [hR] at c21_3; rcases wi8 hR8 with z | z | z | z | z | z | z | z <;> first | exact z | (exfalso; rw [z] at c21_3; revert c21_3; decide)
    refine ⟨q9, hq9, ?_, ?_⟩
    · simp only [spAt, hr9]
    · simp only [spAt, hr9, z9, if_true]; exact hW1
  · refine lv_iload hx hb dX8_attempt_24 (lv_at hl 0 rfl) ?_
    refine lv_bipush (v := 7) hx hb dX8_attempt_26 (by decide) ?_
    refine lv_icmp_gt (tgt := 42) hx hb dX8_attempt_28 (by decide) (fun c28_4 => ?_) (fun c28_4 => ?_)
    · refine lv_lload hx hb dX8_attempt_42 (lv_at hl 1 rfl) ?_
      refine fw_lret X hF hS ?_ (Nat.le_of_ble_eq_true rfl) (Nat.le_of_ble_eq_true rfl) dX8_attempt_44
      exfalso
      rw [hR] at c28_4
      rcases wi8 hR8 with z | z | z | z | z | z | z | z <;> (rw [z] at c28_4; revert c28_4; decide)
    · refine lv_aload_n hx hb dX8_attempt_31 rfl (lv_at hl 2 rfl) ?_
      refine fw_get X gC_ok hF (hW1.2.1) rfl 6 (by decide) wm_182 rfl dX8_attempt_32 ?_
      refine lv_iload hx hb dX8_attempt_35 (lv_at hl 0 rfl) ?_
      refine lv_dup2_11 hx hb dX8_attempt_37 rfl rfl ?_
      refine fw_iald X hF (hW1.2.2.2.2.2.2.2.2.1) 0 rfl (wi_in (n := 8) (show wi (rsn (oc r9.1)) 8 = true by rw [hR]; exact hR8) (N := 8) (by decide)) (v := (tTa r9.2) (ix (rsn (oc r9.1)))) rfl dX8_attempt_38 ?_
      refine lv_iconst (v := 1) hx hb dX8_attempt_39 (by decide) ?_
      refine lv_iadd hx hb dX8_attempt_40 ?_
      refine fw_iast X hF hS (hW1.2.2.2.2.2.2.2.2.1) 0 rfl (wi_in (n := 8) (show wi (rsn (oc r9.1)) 8 = true by rw [hR]; exact hR8) (N := 8) (by decide)) dX8_attempt_41 (fun H locs hF hS => ?_)
      have hF : fw_P D cls10 A (va_up u1 (ad 7) (some (.inl (cs 0, 8, .inl (upd (tTa r9.2) (ix (rsn (oc r9.1))) (((tTa r9.2) (ix (rsn (oc r9.1)))) + 1)))))) H := hF
      refine lv_lload hx hb dX8_attempt_42 (lv_at hl 1 rfl) ?_
      refine fw_lret X hF hS ?_ (Nat.le_of_ble_eq_true rfl) (Nat.le_of_ble_eq_true rfl) dX8_attempt_44
      have z9 : ¬ r9.1.1 = 0 := fun z => by rw [hR, z] at c21_3; revert c21_3; decide
      rw [hR]
      refine ⟨q9, hq9, ?_, ?_⟩
      · simp only [spAt, hr9]
      · simp only [spAt, hr9, if_neg z9]; exact hW1.ta _
set_option maxHeartbeats 4000000 in
set_option maxRecDepth 100000 in
theorem c_X8_act (l : Launch) (D : va_G) (cs : Nat → ClassId) (w : fW) (sz : Nat) (ad : Nat → Nat) (T : Sg) (jf : Nat → Nat → Option Nat) (hW : SW cs ad T jf w) (hI : Inv T) (k a b d : Int32) : gM l bs_B nw_B D cls10 (tyl cs) yX8_act cX8_act 5 (some .long) 5 117 1 3 w sz [.ref (ad 0), .int k, .int a, .int b, .int d] (fun v w' => (okS k a b d = true ∧ ∃ q, w q = none ∧ v = some (.long (oc (spAt q k a b d T).1)) ∧ SW cs ad (spAt q k a b d T).2 jf w') ∨ (okS k a b d = false ∧ v = some (.long (-9223372036854775808)) ∧ w' = w)) := by
  refine gM.of (by decide +kernel) (Nat.le_of_ble_eq_true rfl) (fun p e s m below meth c A ls X hsz hnm hF hS hl => ?_)
  have hx := X.1
  have hb := X.2.1
  have hl : lv_has ls 5 [(0, .ref (ad 0)), (1, .int k), (2, .int a), (3, .int b), (4, .int d)] := hl
  refine lv_iload_n hx hb dX8_act_0 rfl (lv_at hl 1 rfl) ?_
  refine lv_iload_n hx hb dX8_act_1 rfl (lv_at hl 2 rfl) ?_
  refine lv_iload_n hx hb dX8_act_2 rfl (lv_at hl 3 rfl) ?_
  refine lv_iload hx hb dX8_act_3 (lv_at hl 4 rfl) ?_
  refine fw_callS (As := [.int k, .int a, .int b, .int d]) (rest := []) X bs_all nw_all mf_X8_isStep (c_X8_isStep l D cs _ _ k a b d) wm_205 wm_206 hF hS rfl ((⟨⟨Nat.le_of_ble_eq_true rfl, Nat.le_of_ble_eq_true rfl⟩, Nat.le_of_ble_eq_true rfl, Nat.le_of_ble_eq_true rfl⟩)) rfl hl.1 rfl (Nat.le_of_ble_eq_true rfl) dX8_act_5 (fun v u1 H locs hp hF hS hz1 hk1 hd1 => ?_)
  obtain ⟨rfl, hw1⟩ := hp
  rw [hw1] at hF
  refine W.eq (g2 := F0 m 8 ls [.int (bz (okS k a b d))]) rfl ?_
  refine gx_ifeq (tgt := 23) hx hb dX8_act_8 (by decide) (fun c8_2 => ?_) (fun c8_2 => ?_)
  · refine lv_ldc2 (v := (-9223372036854775808)) hx hb X.2.2.2.1 (X.2.2.2.2.1 _ wm_235) dX8_act_23 ?_
    refine fw_lret X hF hS ?_ (Nat.le_of_ble_eq_true rfl) (Nat.le_of_ble_eq_true rfl) dX8_act_26
    exact Or.inr ⟨c8_2, rfl, rfl⟩
  · refine lv_aload_n hx hb dX8_act_11 rfl (lv_at hl 0 rfl) ?_
    refine lv_iload_n hx hb dX8_act_12 rfl (lv_at hl 1 rfl) ?_
    refine lv_iload_n hx hb dX8_act_13 rfl (lv_at hl 2 rfl) ?_
    refine lv_iload_n hx hb dX8_act_14 rfl (lv_at hl 3 rfl) ?_
    refine lv_iload hx hb dX8_act_15 (lv_at hl 4 rfl) ?_
    refine fw_callV (As := [.int k, .int a, .int b, .int d]) (rest := []) X bs_all nw_all mf_X8_attempt (c_X8_attempt l D cs _ _ ad T jf hW hI k a b d c8_2) wm_211 wm_213 wm_0 hF hS rfl (hW.2.1) rfl rfl ((⟨⟨Nat.le_of_ble_eq_true rfl, Nat.le_of_ble_eq_true rfl⟩, Nat.le_of_ble_eq_true rfl, Nat.le_of_ble_eq_true rfl⟩)) rfl hl.1 rfl (Nat.le_of_ble_eq_true rfl) dX8_act_17 (fun v u3 H locs hp hF hS hz1 hk1 hd1 => ?_)
    obtain ⟨q9, hq9, rfl, hW1⟩ := hp
    refine W.eq (g2 := F0 m 20 ls [.long (oc (spAt q9 k a b d T).1)]) rfl ?_
    refine lv_goto (tgt := 26) hx hb dX8_act_20 (by decide) ?_
    refine fw_lret X hF hS ?_ (Nat.le_of_ble_eq_true rfl) (Nat.le_of_ble_eq_true rfl) dX8_act_26
    exact Or.inl ⟨c8_2, q9, hq9, rfl, hW1⟩
set_option maxHeartbeats 4000000 in
set_option maxRecDepth 100000 in
theorem c_X8_told (l : Launch) (D : va_G) (cs : Nat → ClassId) (w : fW) (sz : Nat) (ad : Nat → Nat) (T : Sg) (jf : Nat → Nat → Option Nat) (hW : SW cs ad T jf w) (k : Int32) : gM l bs_B nw_B D cls10 (tyl cs) yX8_told cX8_told 2 (some .int) 0 0 0 0 w sz [.ref (ad 0), .int k] (fun v w' => v = some (.int (spTold (tRe T) k)) ∧ w' = w) := by
  refine gM.of (by decide +kernel) (Nat.le_of_ble_eq_true rfl) (fun p e s m below meth c A ls X hsz hnm hF hS hl => ?_)
  have hx := X.1
  have hb := X.2.1
  have hl : lv_has ls 2 [(0, .ref (ad 0)), (1, .int k)] := hl
  refine lv_iload_n hx hb dX8_told_0 rfl (lv_at hl 1 rfl) ?_
  rcases gx_sw5 k with sw1 | sw1 | sw1 | sw1 | sw1 | sw1
  · refine lv_tableIn (off := 35) (tgt := 36) hx hb dX8_told_1 (by rw [sw1]; decide) (by rw [sw1]; decide) (by rw [sw1]; rfl) (by decide) ?_
    refine lv_aload_n hx hb dX8_told_36 rfl (lv_at hl 0 rfl) ?_
    refine fw_get X gC_ok hF (hW.2.1) rfl 7 (by decide) wm_183 rfl dX8_told_37 ?_
    refine fw_get X gC_ok hF (hW.2.2.2.2.2.2.2.2.2.1) rfl 0 (by decide) wm_61 rfl dX8_told_40 ?_
    refine fw_iret X hF hS ?_ (Nat.le_of_ble_eq_true rfl) (Nat.le_of_ble_eq_true rfl) dX8_told_43
    exact ⟨by simp [spTold, sw1], rfl⟩
  · refine lv_tableIn (off := 43) (tgt := 44) hx hb dX8_told_1 (by rw [sw1]; decide) (by rw [sw1]; decide) (by rw [sw1]; rfl) (by decide) ?_
    refine lv_aload_n hx hb dX8_told_44 rfl (lv_at hl 0 rfl) ?_
    refine fw_get X gC_ok hF (hW.2.1) rfl 7 (by decide) wm_183 rfl dX8_told_45 ?_
    refine fw_get X gC_ok hF (hW.2.2.2.2.2.2.2.2.2.1) rfl 1 (by decide) wm_63 rfl dX8_told_48 ?_
    refine fw_iret X hF hS ?_ (Nat.le_of_ble_eq_true rfl) (Nat.le_of_ble_eq_true rfl) dX8_told_51
    exact ⟨by simp [spTold, sw1], rfl⟩
  · refine lv_tableIn (off := 51) (tgt := 52) hx hb dX8_told_1 (by rw [sw1]; decide) (by rw [sw1]; decide) (by rw [sw1]; rfl) (by decide) ?_
    refine lv_aload_n hx hb dX8_told_52 rfl (lv_at hl 0 rfl) ?_
    refine fw_get X gC_ok hF (hW.2.1) rfl 7 (by decide) wm_183 rfl dX8_told_53 ?_
    refine fw_get X gC_ok hF (hW.2.2.2.2.2.2.2.2.2.1) rfl 2 (by decide) wm_65 rfl dX8_told_56 ?_
    refine fw_iret X hF hS ?_ (Nat.le_of_ble_eq_true rfl) (Nat.le_of_ble_eq_true rfl) dX8_told_59
    exact ⟨by simp [spTold, sw1], rfl⟩
  · refine lv_tableIn (off := 59) (tgt := 60) hx hb dX8_told_1 (by rw [sw1]; decide) (by rw [sw1]; decide) (by rw [sw1]; rfl) (by decide) ?_
    refine lv_aload_n hx hb dX8_told_60 rfl (lv_at hl 0 rfl) ?_
    refine fw_get X gC_ok hF (hW.2.1) rfl 7 (by decide) wm_183 rfl dX8_told_61 ?_
    refine fw_get X gC_ok hF (hW.2.2.2.2.2.2.2.2.2.1) rfl 3 (by decide) wm_67 rfl dX8_told_64 ?_
    refine fw_iret X hF hS ?_ (Nat.le_of_ble_eq_true rfl) (Nat.le_of_ble_eq_true rfl) dX8_told_67
    exact ⟨by simp [spTold, sw1], rfl⟩
  · refine lv_tableIn (off := 67) (tgt := 68) hx hb dX8_told_1 (by rw [sw1]; decide) (by rw [sw1]; decide) (by rw [sw1]; rfl) (by decide) ?_
    refine lv_aload_n hx hb dX8_told_68 rfl (lv_at hl 0 rfl) ?_
    refine fw_get X gC_ok hF (hW.2.1) rfl 7 (by decide) wm_183 rfl dX8_told_69 ?_
    refine fw_get X gC_ok hF (hW.2.2.2.2.2.2.2.2.2.1) rfl 4 (by decide) wm_69 rfl dX8_told_72 ?_
    refine fw_iret X hF hS ?_ (Nat.le_of_ble_eq_true rfl) (Nat.le_of_ble_eq_true rfl) dX8_told_75
    exact ⟨by simp [spTold, sw1], rfl⟩
  · refine lv_tableOut (tgt := 76) hx hb dX8_told_1 sw1 (by decide) ?_
    have n0 : ¬ k = 0 := fun q => by rw [q] at sw1; revert sw1; decide
    have n1 : ¬ k = 1 := fun q => by rw [q] at sw1; revert sw1; decide
    have n2 : ¬ k = 2 := fun q => by rw [q] at sw1; revert sw1; decide
    have n3 : ¬ k = 3 := fun q => by rw [q] at sw1; revert sw1; decide
    have n4 : ¬ k = 4 := fun q => by rw [q] at sw1; revert sw1; decide
    refine lv_bipush (v := (-2)) hx hb dX8_told_76 (by decide) ?_
    refine fw_iret X hF hS ?_ (Nat.le_of_ble_eq_true rfl) (Nat.le_of_ble_eq_true rfl) dX8_told_78
    exact ⟨by simp [spTold, n0, n1, n2, n3, n4], rfl⟩
set_option maxHeartbeats 4000000 in
set_option maxRecDepth 100000 in
theorem c_X8_sum (l : Launch) (D : va_G) (cs : Nat → ClassId) (w : fW) (sz : Nat) (ad : Nat → Nat) (T : Sg) (jf : Nat → Nat → Option Nat) (hW : SW cs ad T jf w) : gM l bs_B nw_B D cls10 (tyl cs) yX8_sum cX8_sum 1 (some .long) 0 0 0 0 w sz [.ref (ad 0)] (fun v w' => v = some (.long (tRe T).2.2.2.2.2) ∧ w' = w) := by
  refine gM.of (by decide +kernel) (Nat.le_of_ble_eq_true rfl) (fun p e s m below meth c A ls X hsz hnm hF hS hl => ?_)
  have hx := X.1
  have hb := X.2.1
  have hl : lv_has ls 1 [(0, .ref (ad 0))] := hl
  refine lv_aload_n hx hb dX8_sum_0 rfl (lv_at hl 0 rfl) ?_
  refine fw_get X gC_ok hF (hW.2.1) rfl 7 (by decide) wm_183 rfl dX8_sum_1 ?_
  refine fw_get X gC_ok hF (hW.2.2.2.2.2.2.2.2.2.1) rfl 5 (by decide) wm_71 rfl dX8_sum_4 ?_
  refine fw_lret X hF hS ?_ (Nat.le_of_ble_eq_true rfl) (Nat.le_of_ble_eq_true rfl) dX8_sum_7
  exact ⟨rfl, rfl⟩
set_option maxHeartbeats 4000000 in
set_option maxRecDepth 100000 in
theorem c_X8_tally (l : Launch) (D : va_G) (cs : Nat → ClassId) (w : fW) (sz : Nat) (ad : Nat → Nat) (T : Sg) (jf : Nat → Nat → Option Nat) (hW : SW cs ad T jf w) (r : Int32) : gM l bs_B nw_B D cls10 (tyl cs) yX8_tally cX8_tally 2 (some .int) 0 0 0 0 w sz [.ref (ad 0), .int r] (fun v w' => v = some (.int (spTally T r)) ∧ w' = w) := by
  refine gM.of (by decide +kernel) (Nat.le_of_ble_eq_true rfl) (fun p e s m below meth c A ls X hsz hnm hF hS hl => ?_)
  have hx := X.1
  have hb := X.2.1
  have hl : lv_has ls 2 [(0, .ref (ad 0)), (1, .int r)] := hl
  refine lv_iload_n hx hb dX8_tally_0 rfl (lv_at hl 1 rfl) ?_
  refine lv_iconst (v := 1) hx hb dX8_tally_1 (by decide) ?_
  refine lv_icmp_lt (tgt := 20) hx hb dX8_tally_2 (by decide) (fun c2_1 => ?_) (fun c2_1 => ?_)
  · refine lv_bipush (v := (-2)) hx hb dX8_tally_20 (by decide) ?_
    refine fw_iret X hF hS ?_ (Nat.le_of_ble_eq_true rfl) (Nat.le_of_ble_eq_true rfl) dX8_tally_22
    have z : wi (r - 1) 7 = false := wi7f (Or.inl c2_1)
    exact ⟨by simp [spTally, z], rfl⟩
  · refine lv_iload_n hx hb dX8_tally_5 rfl (lv_at hl 1 rfl) ?_
    refine lv_bipush (v := 7) hx hb dX8_tally_6 (by decide) ?_
    refine lv_icmp_gt (tgt := 20) hx hb dX8_tally_8 (by decide) (fun c8_2 => ?_) (fun c8_2 => ?_)
    · refine lv_bipush (v := (-2)) hx hb dX8_tally_20 (by decide) ?_
      refine fw_iret X hF hS ?_ (Nat.le_of_ble_eq_true rfl) (Nat.le_of_ble_eq_true rfl) dX8_tally_22
      have z : wi (r - 1) 7 = false := wi7f (Or.inr c8_2)
      exact ⟨by simp [spTally, z], rfl⟩
    · have hz7 := wi7t c2_1 c8_2
      refine lv_aload_n hx hb dX8_tally_11 rfl (lv_at hl 0 rfl) ?_
      refine fw_get X gC_ok hF (hW.2.1) rfl 6 (by decide) wm_182 rfl dX8_tally_12 ?_
      refine lv_iload_n hx hb dX8_tally_15 rfl (lv_at hl 1 rfl) ?_
      refine fw_iald X hF (hW.2.2.2.2.2.2.2.2.1) 0 rfl (wi_in hz7.2 (N := 8) (by decide)) (v := (tTa T) (ix r)) rfl dX8_tally_16 ?_
      refine lv_goto (tgt := 22) hx hb dX8_tally_17 (by decide) ?_
      refine fw_iret X hF hS ?_ (Nat.le_of_ble_eq_true rfl) (Nat.le_of_ble_eq_true rfl) dX8_tally_22
      exact ⟨by simp [spTally, hz7.1], rfl⟩
set_option maxHeartbeats 4000000 in
set_option maxRecDepth 100000 in
theorem c_X8_basket (l : Launch) (D : va_G) (cs : Nat → ClassId) (w : fW) (sz : Nat) (ad : Nat → Nat) (T : Sg) (jf : Nat → Nat → Option Nat) (hW : SW cs ad T jf w) (hI : Inv T) (a i : Int32) : gM l bs_B nw_B D cls10 (tyl cs) yX8_basket cX8_basket 3 (some .int) 2 42 0 0 w sz [.ref (ad 0), .int a, .int i] (fun v w' => v = some (.int (if wi a 4 = true then (if wi i (tBa T (ix a)).1 = true then (tBa T (ix a)).2 (ix i) else 0) else 0)) ∧ w' = w) := by
  refine gM.of (by decide +kernel) (Nat.le_of_ble_eq_true rfl) (fun p e s m below meth c A ls X hsz hnm hF hS hl => ?_)
  have hx := X.1
  have hb := X.2.1
  have hl : lv_has ls 3 [(0, .ref (ad 0)), (1, .int a), (2, .int i)] := hl
  refine lv_iload_n hx hb dX8_basket_0 rfl (lv_at hl 1 rfl) ?_
  refine lv_iconst (v := 4) hx hb dX8_basket_1 (by decide) ?_
  refine fw_callS (As := [.int a, .int 4]) (rest := []) X bs_all nw_all mf_X8_isWithin (c_X8_isWithin l D cs _ _ a 4) wm_208 wm_209 hF hS rfl ((⟨⟨Nat.le_of_ble_eq_true rfl, Nat.le_of_ble_eq_true rfl⟩, Nat.le_of_ble_eq_true rfl, Nat.le_of_ble_eq_true rfl⟩)) rfl hl.1 rfl (Nat.le_of_ble_eq_true rfl) dX8_basket_2 (fun v u1 H locs hp hF hS hz1 hk1 hd1 => ?_)
  obtain ⟨rfl, hw1⟩ := hp
  rw [hw1] at hF
  refine W.eq (g2 := F0 m 5 ls [.int (bz (wi a 4))]) rfl ?_
  refine gx_ifeq (tgt := 21) hx hb dX8_basket_5 (by decide) (fun c5_2 => ?_) (fun c5_2 => ?_)
  · refine lv_iconst (v := 0) hx hb dX8_basket_21 (by decide) ?_
    refine fw_iret X hF hS ?_ (Nat.le_of_ble_eq_true rfl) (Nat.le_of_ble_eq_true rfl) dX8_basket_22
    exact ⟨by simp [c5_2], rfl⟩
  · have hA9 : ix a < 4 := wi_lt c5_2 (N := 4) (by decide)
    refine lv_aload_n hx hb dX8_basket_8 rfl (lv_at hl 0 rfl) ?_
    refine fw_get X gC_ok hF (hW.2.1) rfl 1 (by decide) wm_177 rfl dX8_basket_9 ?_
    refine lv_iload_n hx hb dX8_basket_12 rfl (lv_at hl 1 rfl) ?_
    refine fw_aldq X hF (hW.2.2.2.1) 3 rfl (wi_in c5_2 (N := 4) (by decide)) (v := some (ad (14 + (ix a)))) rfl dX8_basket_13 ?_
    refine W.eq (g2 := F0 m 14 ls [.ref (ad (14 + (ix a)))]) rfl ?_
    refine lv_iload_n hx hb dX8_basket_14 rfl (lv_at hl 2 rfl) ?_
    refine fw_callV (As := [.int i]) (rest := []) X bs_all nw_all mf_X0_numberAt (c_X0_numberAt l D cs _ _ (ad (14 + (ix a))) (ad (18 + (ix a))) ((tBa T (ix a)).1) ((tBa T (ix a)).2) (hW.2.2.2.2.2.2.2.2.2.2.2.1 (ix a) hA9) (hW.2.2.2.2.2.2.2.2.2.2.2.2.1 (ix a) hA9) i (hI.2.1 _ hA9).2) wm_452 wm_453 wm_454 hF hS rfl (hW.2.2.2.2.2.2.2.2.2.2.2.1 (ix a) hA9) rfl rfl ((⟨⟨Nat.le_of_ble_eq_true rfl, Nat.le_of_ble_eq_true rfl⟩, Nat.le_of_ble_eq_true rfl, Nat.le_of_ble_eq_true rfl⟩)) rfl hl.1 rfl (Nat.le_of_ble_eq_true rfl) dX8_basket_15 (fun v u3 H locs hp hF hS hz1 hk1 hd1 => ?_)
    obtain ⟨rfl, hw1⟩ := hp
    rw [hw1] at hF
    refine W.eq (g2 := F0 m 18 ls [.int (if wi i ((tBa T (ix a)).1) = true then ((tBa T (ix a)).2) (ix i) else 0)]) rfl ?_
    refine lv_goto (tgt := 22) hx hb dX8_basket_18 (by decide) ?_
    refine fw_iret X hF hS ?_ (Nat.le_of_ble_eq_true rfl) (Nat.le_of_ble_eq_true rfl) dX8_basket_22
    exact ⟨by simp [c5_2], rfl⟩
set_option maxHeartbeats 4000000 in
set_option maxRecDepth 100000 in
theorem c_X8_grid (l : Launch) (D : va_G) (cs : Nat → ClassId) (w : fW) (sz : Nat) (ad : Nat → Nat) (T : Sg) (jf : Nat → Nat → Option Nat) (hW : SW cs ad T jf w) (hI : Inv T) (a i j : Int32) : gM l bs_B nw_B D cls10 (tyl cs) yX8_grid cX8_grid 4 (some .int) 3 65 0 0 w sz [.ref (ad 0), .int a, .int i, .int j] (fun v w' => v = some (.int (if wi a 4 = true then (if (wi i (tGr T (ix a)).1 && wi j (tGr T (ix a)).2.1) = true then (tGr T (ix a)).2.2 (12 * ix i + ix j) else 0) else 0)) ∧ w' = w) := by
  refine gM.of (by decide +kernel) (Nat.le_of_ble_eq_true rfl) (fun p e s m below meth c A ls X hsz hnm hF hS hl => ?_)
  have hx := X.1
  have hb := X.2.1
  have hl : lv_has ls 4 [(0, .ref (ad 0)), (1, .int a), (2, .int i), (3, .int j)] := hl
  refine lv_iload_n hx hb dX8_grid_0 rfl (lv_at hl 1 rfl) ?_
  refine lv_iconst (v := 4) hx hb dX8_grid_1 (by decide) ?_
  refine fw_callS (As := [.int a, .int 4]) (rest := []) X bs_all nw_all mf_X8_isWithin (c_X8_isWithin l D cs _ _ a 4) wm_208 wm_209 hF hS rfl ((⟨⟨Nat.le_of_ble_eq_true rfl, Nat.le_of_ble_eq_true rfl⟩, Nat.le_of_ble_eq_true rfl, Nat.le_of_ble_eq_true rfl⟩)) rfl hl.1 rfl (Nat.le_of_ble_eq_true rfl) dX8_grid_2 (fun v u1 H locs hp hF hS hz1 hk1 hd1 => ?_)
  obtain ⟨rfl, hw1⟩ := hp
  rw [hw1] at hF
  refine W.eq (g2 := F0 m 5 ls [.int (bz (wi a 4))]) rfl ?_
  refine gx_ifeq (tgt := 22) hx hb dX8_grid_5 (by decide) (fun c5_2 => ?_) (fun c5_2 => ?_)
  · refine lv_iconst (v := 0) hx hb dX8_grid_22 (by decide) ?_
    refine fw_iret X hF hS ?_ (Nat.le_of_ble_eq_true rfl) (Nat.le_of_ble_eq_true rfl) dX8_grid_23
    exact ⟨by simp [c5_2], rfl⟩
  · have hA9 : ix a < 4 := wi_lt c5_2 (N := 4) (by decide)
    refine lv_aload_n hx hb dX8_grid_8 rfl (lv_at hl 0 rfl) ?_
    refine fw_get X gC_ok hF (hW.2.1) rfl 3 (by decide) wm_179 rfl dX8_grid_9 ?_
    refine lv_iload_n hx hb dX8_grid_12 rfl (lv_at hl 1 rfl) ?_
    refine fw_aldq X hF (hW.2.2.2.2.2.1) 5 rfl (wi_in c5_2 (N := 4) (by decide)) (v := some (ad (30 + (ix a)))) rfl dX8_grid_13 ?_
    refine W.eq (g2 := F0 m 14 ls [.ref (ad (30 + (ix a)))]) rfl ?_
    refine lv_iload_n hx hb dX8_grid_14 rfl (lv_at hl 2 rfl) ?_
    refine lv_iload_n hx hb dX8_grid_15 rfl (lv_at hl 3 rfl) ?_
    refine fw_callV (As := [.int i, .int j]) (rest := []) X bs_all nw_all mf_X1_numberAt (c_X1_numberAt l D cs _ _ (ad (30 + (ix a))) (ad (34 + (ix a))) ((tGr T (ix a)).1) ((tGr T (ix a)).2.1) ((tGr T (ix a)).2.2) (hW.2.2.2.2.2.2.2.2.2.2.2.2.2.2.2.1 (ix a) hA9) (hW.2.2.2.2.2.2.2.2.2.2.2.2.2.2.2.2.1 (ix a) hA9) i j (hI.2.2.2.1 _ hA9).1.2 (hI.2.2.2.1 _ hA9).2.2) wm_469 wm_470 wm_471 hF hS rfl (hW.2.2.2.2.2.2.2.2.2.2.2.2.2.2.2.1 (ix a) hA9) rfl rfl ((⟨⟨Nat.le_of_ble_eq_true rfl, Nat.le_of_ble_eq_true rfl⟩, Nat.le_of_ble_eq_true rfl, Nat.le_of_ble_eq_true rfl⟩)) rfl hl.1 rfl (Nat.le_of_ble_eq_true rfl) dX8_grid_16 (fun v u3 H locs hp hF hS hz1 hk1 hd1 => ?_)
    obtain ⟨rfl, hw1⟩ := hp
    rw [hw1] at hF
    refine W.eq (g2 := F0 m 19 ls [.int (if (wi i ((tGr T (ix a)).1) && wi j ((tGr T (ix a)).2.1)) = true then ((tGr T (ix a)).2.2) (12 * ix i + ix j) else 0)]) rfl ?_
    refine lv_goto (tgt := 23) hx hb dX8_grid_19 (by decide) ?_
    refine fw_iret X hF hS ?_ (Nat.le_of_ble_eq_true rfl) (Nat.le_of_ble_eq_true rfl) dX8_grid_23
    exact ⟨by simp [c5_2], rfl⟩
set_option maxHeartbeats 4000000 in
set_option maxRecDepth 100000 in
theorem c_X8_rack (l : Launch) (D : va_G) (cs : Nat → ClassId) (w : fW) (sz : Nat) (ad : Nat → Nat) (T : Sg) (jf : Nat → Nat → Option Nat) (hW : SW cs ad T jf w) (hI : Inv T) (a i : Int32) : gM l bs_B nw_B D cls10 (tyl cs) yX8_rack cX8_rack 4 (some .int) 2 42 0 0 w sz [.ref (ad 0), .int a, .int i] (fun v w' => v = some (.int (spRack T a i)) ∧ w' = w) := by
  refine gM.of (by decide +kernel) (Nat.le_of_ble_eq_true rfl) (fun p e s m below meth c A ls X hsz hnm hF hS hl => ?_)
  have hx := X.1
  have hb := X.2.1
  have hl : lv_has ls 4 [(0, .ref (ad 0)), (1, .int a), (2, .int i)] := hl
  refine lv_iload_n hx hb dX8_rack_0 rfl (lv_at hl 1 rfl) ?_
  refine lv_iconst (v := 4) hx hb dX8_rack_1 (by decide) ?_
  refine fw_callS (As := [.int a, .int 4]) (rest := []) X bs_all nw_all mf_X8_isWithin (c_X8_isWithin l D cs _ _ a 4) wm_208 wm_209 hF hS rfl ((⟨⟨Nat.le_of_ble_eq_true rfl, Nat.le_of_ble_eq_true rfl⟩, Nat.le_of_ble_eq_true rfl, Nat.le_of_ble_eq_true rfl⟩)) rfl hl.1 rfl (Nat.le_of_ble_eq_true rfl) dX8_rack_2 (fun v u1 H locs hp hF hS hz1 hk1 hd1 => ?_)
  obtain ⟨rfl, hw1⟩ := hp
  rw [hw1] at hF
  refine W.eq (g2 := F0 m 5 ls [.int (bz (wi a 4))]) rfl ?_
  refine gx_ifeq (tgt := 21) hx hb dX8_rack_5 (by decide) (fun c5_2 => ?_) (fun c5_2 => ?_)
  · refine lv_null hx hb dX8_rack_21 ?_
    refine lv_astore_nN (lv' := [(3, .null), (0, .ref (ad 0)), (1, .int a), (2, .int i)]) hx hb dX8_rack_22 rfl hl (by decide) rfl (fun ls hl => ?_)
    refine lv_aload_nN hx hb dX8_rack_23 rfl (lv_at hl 0 rfl) ?_
    refine lv_ifnonnullN hx hb dX8_rack_24 ?_
    refine lv_ldc (v := (-2147483648)) hx hb X.2.2.2.1 (X.2.2.2.2.1 _ wm_434) dX8_rack_27 ?_
    refine lv_goto (tgt := 36) hx hb dX8_rack_29 (by decide) ?_
    refine fw_iret X hF hS ?_ (Nat.le_of_ble_eq_true rfl) (Nat.le_of_ble_eq_true rfl) dX8_rack_36
    refine ⟨?_, rfl⟩
    unfold spRack
    simp [c5_2]
  · have hA9 : ix a < 4 := wi_lt c5_2 (N := 4) (by decide)
    refine lv_aload_n hx hb dX8_rack_8 rfl (lv_at hl 0 rfl) ?_
    refine fw_get X gC_ok hF (hW.2.1) rfl 2 (by decide) wm_178 rfl dX8_rack_9 ?_
    refine lv_iload_n hx hb dX8_rack_12 rfl (lv_at hl 1 rfl) ?_
    refine fw_aldq X hF (hW.2.2.2.2.1) 4 rfl (wi_in c5_2 (N := 4) (by decide)) (v := some (ad (22 + (ix a)))) rfl dX8_rack_13 ?_
    refine W.eq (g2 := F0 m 14 ls [.ref (ad (22 + (ix a)))]) rfl ?_
    refine lv_iload_n hx hb dX8_rack_14 rfl (lv_at hl 2 rfl) ?_
    refine fw_callV (As := [.int i]) (rest := []) X bs_all nw_all mf_X3_wheelAt (c_X3_wheelAt l D cs _ _ (ad (22 + (ix a))) (ad (26 + (ix a))) ((tRa T (ix a)).1) ((tRa T (ix a)).2.1) ((tRa T (ix a)).2.2) (hW.2.2.2.2.2.2.2.2.2.2.2.2.2.1 (ix a) hA9) (hW.2.2.2.2.2.2.2.2.2.2.2.2.2.2.1 (ix a) hA9) i (hI.2.2.1 _ hA9).1.2) wm_460 wm_461 wm_462 hF hS rfl (hW.2.2.2.2.2.2.2.2.2.2.2.2.2.1 (ix a) hA9) rfl rfl ((⟨⟨Nat.le_of_ble_eq_true rfl, Nat.le_of_ble_eq_true rfl⟩, Nat.le_of_ble_eq_true rfl, Nat.le_of_ble_eq_true rfl⟩)) rfl hl.1 rfl (Nat.le_of_ble_eq_true rfl) dX8_rack_15 (fun v u3 H locs hp hF hS hz1 hk1 hd1 => ?_)
    obtain ⟨rfl, hw1⟩ := hp
    rw [hw1] at hF
    refine W.eq (g2 := F0 m 18 ls [va_rf (if wi i ((tRa T (ix a)).1) = true then ((tRa T (ix a)).2.2) (ix i) else none)]) rfl ?_
    refine lv_goto (tgt := 22) hx hb dX8_rack_18 (by decide) ?_
    refine gx_astore_nq (i := 3) (lv' := [(3, va_rf (if wi i ((tRa T (ix a)).1) = true then ((tRa T (ix a)).2.2) (ix i) else none)), (0, .ref (ad 0)), (1, .int a), (2, .int i)]) hx hb dX8_rack_22 rfl hl (by decide) (by simp [gx_cat, Value.category]) (fun ls hl => ?_)
    refine gx_aload_nq hx hb dX8_rack_23 rfl (lv_at hl 0 rfl) ?_
    refine gx_ifnonnull (tgt := 32) hx hb dX8_rack_24 (by decide) (fun hq4 => ?_) (fun q4 hq4 => ?_)
    · have hl : lv_has ls 4 [(3, .null), (0, .ref (ad 0)), (1, .int a), (2, .int i)] := by rw [hq4] at hl; exact hl
      refine lv_ldc (v := (-2147483648)) hx hb X.2.2.2.1 (X.2.2.2.2.1 _ wm_434) dX8_rack_27 ?_
      refine lv_goto (tgt := 36) hx hb dX8_rack_29 (by decide) ?_
      refine fw_iret X hF hS ?_ (Nat.le_of_ble_eq_true rfl) (Nat.le_of_ble_eq_true rfl) dX8_rack_36
      refine ⟨?_, rfl⟩
      unfold spRack
      rw [if_pos c5_2, hq4]
    · have hl : lv_has ls 4 [(3, .ref q4), (0, .ref (ad 0)), (1, .int a), (2, .int i)] := by rw [hq4] at hl; exact hl
      refine lv_aload_n hx hb dX8_rack_32 rfl (lv_at hl 0 rfl) ?_
      refine fw_callV (As := []) (rest := []) X bs_all nw_all mf_X7_label (c_X7_label l D cs _ _ q4 (((W9 T) q4).1) (((W9 T) q4).2.2) (((W9 T) q4).2.1) ((fun q hq => hW.whl (rk_w hI hA9 hq)) q4 hq4)) wm_464 wm_335 wm_336 hF hS rfl ((fun q hq => hW.whl (rk_w hI hA9 hq)) q4 hq4) rfl rfl ((⟨⟨Nat.le_of_ble_eq_true rfl, Nat.le_of_ble_eq_true rfl⟩, Nat.le_of_ble_eq_true rfl, Nat.le_of_ble_eq_true rfl⟩)) rfl hl.1 rfl (Nat.le_of_ble_eq_true rfl) dX8_rack_33 (fun v u5 H locs hp hF hS hz1 hk1 hd1 => ?_)
      obtain ⟨rfl, hw1⟩ := hp
      rw [hw1] at hF
      refine W.eq (g2 := F0 m 36 ls [.int (whL (((W9 T) q4).1, ((W9 T) q4).2.1, ((W9 T) q4).2.2))]) rfl ?_
      refine fw_iret X hF hS ?_ (Nat.le_of_ble_eq_true rfl) (Nat.le_of_ble_eq_true rfl) dX8_rack_36
      refine ⟨?_, rfl⟩
      unfold spRack
      rw [if_pos c5_2, hq4]
end
section
theorem lenI.nat {n : Int32} (h : lenI n) : ∃ N : Nat, N ≤ 12 ∧ ix n = N ∧ ∀ i : Nat, i ≤ 12 → (n ≤ nI i ↔ N ≤ i) := by
  have h1 := Int32.le_iff_toInt_le.mp h.1
  have h2 := Int32.le_iff_toInt_le.mp h.2
  have e1 : (-1 : Int32).toInt = -1 := rfl
  have e2 : (12 : Int32).toInt = 12 := rfl
  refine ⟨n.toInt.toNat, by omega, rfl, fun i hi => ?_⟩
  rw [Int32.le_iff_toInt_le, nI_toInt (by omega)]
  omega
def b2 (a b : Bool) : Int32 := bz a ||| (if b then 2 else 0)
theorem b2_11 (a b : Bool) : b2 a b ||| 1 ||| 2 = b2 (a || true) (b || true) := by cases a <;> cases b <;> rfl
theorem b2_10 (a b : Bool) : b2 a b ||| 1 ||| 0 = b2 (a || true) (b || false) := by cases a <;> cases b <;> rfl
theorem b2_01 (a b : Bool) : b2 a b ||| 0 ||| 2 = b2 (a || false) (b || true) := by cases a <;> cases b <;> rfl
theorem b2_00 (a b : Bool) : b2 a b ||| 0 ||| 0 = b2 (a || false) (b || false) := by cases a <;> cases b <;> rfl
/-- does a wheel hang in the first n racks -/
def hgN (T : Sg) (o : Option Nat) : Nat → Bool
  | 0 => false
  | n + 1 => hgN T o n || hldN o (tRa T n).2.2 (ix (tRa T n).1)
def spStand (T : Sg) (a k : Int32) : Int32 := if wi a 4 = true then (if wi k 8 = true then (if k = 6 then b2 (hgN T (tSt T (ix a)).2.2.1 4) (hgN T (tSt T (ix a)).2.2.2.1 4) else spTell (W9 T) (tSt T (ix a)) k) else -2147483648) else -2147483648
set_option maxHeartbeats 4000000 in
set_option maxRecDepth 100000 in
theorem c_X3_holds (l : Launch) (D : va_G) (cs : Nat → ClassId) (w : fW) (sz : Nat) (h0 h1 : Nat) (n : Int32) (di : Bool) (f : Nat → Option Nat) (h : w h0 = some (.inr (3, [.ref h1, .int n, .int (bz di)]))) (g : w h1 = some (.inl (cs 7, 12, .inr (.inr (.inr (.inr f)))))) (o : Option Nat) (hn : lenI n) : gM l bs_B nw_B D cls10 (tyl cs) yX3_holds cX3_holds 4 (some .boolean) 0 0 0 0 w sz [.ref h0, va_rf o] (fun v w' => v = some (.int (bz (hldN o f (ix n)))) ∧ w' = w) := by
  obtain ⟨N, hN, hNi, hle⟩ := hn.nat
  cases o with
  | none =>
    refine gM.of (by decide +kernel) (Nat.le_of_ble_eq_true rfl) (fun p e s m below meth c A ls X hsz hnm hF hS hl => ?_)
    have hx := X.1
    have hb := X.2.1
    have loop : ∀ (n9 i : Nat), i + n9 = N → ∀ (ls : Array Slot), lv_has ls 4 [(0, .ref h0), (1, .null), (2, .int (bz (hldN none f i))), (3, .int (nI i))] → W p l e ({ frames := 0, cells := 0, slots := 0, locals := 0 } : Room) s m ([.ref h0, .null] : List Value).toArray below meth c s.heap [] 0 0 (MQ below (gQ D cls10 A (fun v w' => v = some (.int (bz (hldN none f (ix n)))) ∧ w' = w)) ([.ref h0, .null] : List Value).toArray s 0 0 A) (F0 m 4 ls []) := by
      intro n9
      induction n9 with
      | zero =>
        intro i hi ls hl
        refine lv_iload_n hx hb dX3_holds_4 rfl (lv_at hl 3 rfl) ?_
        refine lv_aload_n hx hb dX3_holds_5 rfl (lv_at hl 0 rfl) ?_
        refine fw_get X gC_ok hF h rfl 1 (by decide) wm_135 rfl dX3_holds_6 ?_
        refine lv_icmp_ge (tgt := 40) hx hb dX3_holds_9 (by decide) (fun c9_1 => ?_) (fun c9_1 => ?_)
        · refine lv_iload_n hx hb dX3_holds_40 rfl (lv_at hl 2 rfl) ?_
          refine fw_zret X hF hS (gx_nbz _) ?_ (Nat.le_of_ble_eq_true rfl) (Nat.le_of_ble_eq_true rfl) dX3_holds_41
          exact ⟨by rw [hNi, show i = N by omega], rfl⟩
        · exact absurd ((hle i (by omega)).mpr (by omega)) c9_1
      | succ n9 ih =>
        intro i hi ls hl
        refine lv_iload_n hx hb dX3_holds_4 rfl (lv_at hl 3 rfl) ?_
        refine lv_aload_n hx hb dX3_holds_5 rfl (lv_at hl 0 rfl) ?_
        refine fw_get X gC_ok hF h rfl 1 (by decide) wm_135 rfl dX3_holds_6 ?_
        refine lv_icmp_ge (tgt := 40) hx hb dX3_holds_9 (by decide) (fun c9_1 => ?_) (fun c9_1 => ?_)
        · exact absurd ((hle i (by omega)).mp c9_1) (by omega)
        · refine lv_iload_n hx hb dX3_holds_12 rfl (lv_at hl 2 rfl) ?_
          refine lv_aload_nN hx hb dX3_holds_13 rfl (lv_at hl 1 rfl) ?_
          refine lv_ifnullN (tgt := 31) hx hb dX3_holds_14 (by decide) ?_
          refine lv_iconst (v := 0) hx hb dX3_holds_31 (by decide) ?_
          refine lv_ior hx hb dX3_holds_32 ?_
          refine lv_istore_n (lv' := [(2, .int ((bz (hldN none f i)) ||| 0)), (0, .ref h0), (1, .null), (3, .int (nI i))]) hx hb dX3_holds_33 rfl hl (by decide) rfl (fun ls hl => ?_)
          refine lv_iinc (v := nI (i + 1)) (lv' := [(3, .int (nI (i + 1))), (2, .int ((bz (hldN none f i)) ||| 0)), (0, .ref h0), (1, .null)]) hx hb dX3_holds_34 hl (k := 3) rfl (nI_1 i) (by decide) rfl (fun ls hl => ?_)
          refine lv_goto (tgt := 4) hx hb dX3_holds_37 (by decide) ?_
          have e9 : (bz (hldN none f i)) ||| 0 = bz (hldN none f (i + 1)) := by rw [show (0 : Int32) = bz false from rfl, i_ior]; simp [hldN]
          rw [e9] at hl
          exact ih (i + 1) (by omega) ls (lv_sub hl [2, 3, 1, 0] rfl)
    have hl : lv_has ls 4 [(0, .ref h0), (1, .null)] := hl
    refine lv_iconst (v := 0) hx hb dX3_holds_0 (by decide) ?_
    refine lv_istore_n (lv' := [(2, .int 0), (0, .ref h0), (1, .null)]) hx hb dX3_holds_1 rfl hl (by decide) rfl (fun ls hl => ?_)
    refine lv_iconst (v := 0) hx hb dX3_holds_2 (by decide) ?_
    refine lv_istore_n (lv' := [(3, .int 0), (2, .int 0), (0, .ref h0), (1, .null)]) hx hb dX3_holds_3 rfl hl (by decide) rfl (fun ls hl => ?_)
    exact loop N 0 (by omega) ls (lv_sub hl [2, 3, 1, 0] rfl)
  | some x =>
    refine gM.of (by decide +kernel) (Nat.le_of_ble_eq_true rfl) (fun p e s m below meth c A ls X hsz hnm hF hS hl => ?_)
    have hx := X.1
    have hb := X.2.1
    have loop : ∀ (n9 i : Nat), i + n9 = N → ∀ (ls : Array Slot), lv_has ls 4 [(0, .ref h0), (1, .ref x), (2, .int (bz (hldN (some x) f i))), (3, .int (nI i))] → W p l e ({ frames := 0, cells := 0, slots := 0, locals := 0 } : Room) s m ([.ref h0, .ref x] : List Value).toArray below meth c s.heap [] 0 0 (MQ below (gQ D cls10 A (fun v w' => v = some (.int (bz (hldN (some x) f (ix n)))) ∧ w' = w)) ([.ref h0, .ref x] : List Value).toArray s 0 0 A) (F0 m 4 ls []) := by
      intro n9
      induction n9 with
      | zero =>
        intro i hi ls hl
        refine lv_iload_n hx hb dX3_holds_4 rfl (lv_at hl 3 rfl) ?_
        refine lv_aload_n hx hb dX3_holds_5 rfl (lv_at hl 0 rfl) ?_
        refine fw_get X gC_ok hF h rfl 1 (by decide) wm_135 rfl dX3_holds_6 ?_
        refine lv_icmp_ge (tgt := 40) hx hb dX3_holds_9 (by decide) (fun c9_1 => ?_) (fun c9_1 => ?_)
        · refine lv_iload_n hx hb dX3_holds_40 rfl (lv_at hl 2 rfl) ?_
          refine fw_zret X hF hS (gx_nbz _) ?_ (Nat.le_of_ble_eq_true rfl) (Nat.le_of_ble_eq_true rfl) dX3_holds_41
          exact ⟨by rw [hNi, show i = N by omega], rfl⟩
        · exact absurd ((hle i (by omega)).mpr (by omega)) c9_1
      | succ n9 ih =>
        intro i hi ls hl
        refine lv_iload_n hx hb dX3_holds_4 rfl (lv_at hl 3 rfl) ?_
        refine lv_aload_n hx hb dX3_holds_5 rfl (lv_at hl 0 rfl) ?_
        refine fw_get X gC_ok hF h rfl 1 (by decide) wm_135 rfl dX3_holds_6 ?_
        refine lv_icmp_ge (tgt := 40) hx hb dX3_holds_9 (by decide) (fun c9_1 => ?_) (fun c9_1 => ?_)
        · exact absurd ((hle i (by omega)).mp c9_1) (by omega)
        · refine lv_iload_n hx hb dX3_holds_12 rfl (lv_at hl 2 rfl) ?_
          refine lv_aload_n hx hb dX3_holds_13 rfl (lv_at hl 1 rfl) ?_
          refine lv_ifnull hx hb dX3_holds_14 ?_
          refine lv_aload_n hx hb dX3_holds_17 rfl (lv_at hl 0 rfl) ?_
          refine fw_get X gC_ok hF h rfl 0 (by decide) wm_134 rfl dX3_holds_18 ?_
          refine lv_iload_n hx hb dX3_holds_21 rfl (lv_at hl 3 rfl) ?_
          refine fw_aldq X hF g 7 rfl (vp_in_nI (by omega) (by decide)) (v := f i) (by rw [nI_clamp (by omega)]) dX3_holds_22 ?_
          refine lv_aload_n hx hb dX3_holds_23 rfl (lv_at hl 1 rfl) ?_
          refine lv_acmp_ne (rx := (f i)) (ry := (some x)) (tgt := 31) hx hb dX3_holds_24 (by decide) (fun ca2 => ?_) (fun ca2 => ?_)
          · refine lv_iconst (v := 0) hx hb dX3_holds_31 (by decide) ?_
            refine lv_ior hx hb dX3_holds_32 ?_
            refine lv_istore_n (lv' := [(2, .int ((bz (hldN (some x) f i)) ||| 0)), (0, .ref h0), (1, .ref x), (3, .int (nI i))]) hx hb dX3_holds_33 rfl hl (by decide) rfl (fun ls hl => ?_)
            refine lv_iinc (v := nI (i + 1)) (lv' := [(3, .int (nI (i + 1))), (2, .int ((bz (hldN (some x) f i)) ||| 0)), (0, .ref h0), (1, .ref x)]) hx hb dX3_holds_34 hl (k := 3) rfl (nI_1 i) (by decide) rfl (fun ls hl => ?_)
            refine lv_goto (tgt := 4) hx hb dX3_holds_37 (by decide) ?_
            have b9 : (f i == some x) = false := beq_eq_false_iff_ne.mpr ca2
            have e9 : (bz (hldN (some x) f i)) ||| 0 = bz (hldN (some x) f (i + 1)) := by rw [show (0 : Int32) = bz false from rfl, i_ior]; simp [hldN, b9]
            rw [e9] at hl
            exact ih (i + 1) (by omega) ls (lv_sub hl [2, 3, 1, 0] rfl)
          · refine lv_iconst (v := 1) hx hb dX3_holds_27 (by decide) ?_
            refine lv_goto (tgt := 32) hx hb dX3_holds_28 (by decide) ?_
            refine lv_ior hx hb dX3_holds_32 ?_
            refine lv_istore_n (lv' := [(2, .int ((bz (hldN (some x) f i)) ||| 1)), (0, .ref h0), (1, .ref x), (3, .int (nI i))]) hx hb dX3_holds_33 rfl hl (by decide) rfl (fun ls hl => ?_)
            refine lv_iinc (v := nI (i + 1)) (lv' := [(3, .int (nI (i + 1))), (2, .int ((bz (hldN (some x) f i)) ||| 1)), (0, .ref h0), (1, .ref x)]) hx hb dX3_holds_34 hl (k := 3) rfl (nI_1 i) (by decide) rfl (fun ls hl => ?_)
            refine lv_goto (tgt := 4) hx hb dX3_holds_37 (by decide) ?_
            have e9 : (bz (hldN (some x) f i)) ||| 1 = bz (hldN (some x) f (i + 1)) := by rw [show (1 : Int32) = bz true from rfl, i_ior]; simp [hldN, ca2]
            rw [e9] at hl
            exact ih (i + 1) (by omega) ls (lv_sub hl [2, 3, 1, 0] rfl)
    have hl : lv_has ls 4 [(0, .ref h0), (1, .ref x)] := hl
    refine lv_iconst (v := 0) hx hb dX3_holds_0 (by decide) ?_
    refine lv_istore_n (lv' := [(2, .int 0), (0, .ref h0), (1, .ref x)]) hx hb dX3_holds_1 rfl hl (by decide) rfl (fun ls hl => ?_)
    refine lv_iconst (v := 0) hx hb dX3_holds_2 (by decide) ?_
    refine lv_istore_n (lv' := [(3, .int 0), (2, .int 0), (0, .ref h0), (1, .ref x)]) hx hb dX3_holds_3 rfl hl (by decide) rfl (fun ls hl => ?_)
    exact loop N 0 (by omega) ls (lv_sub hl [2, 3, 1, 0] rfl)
set_option maxHeartbeats 4000000 in
set_option maxRecDepth 100000 in
theorem c_X8_hanging (l : Launch) (D : va_G) (cs : Nat → ClassId) (w : fW) (sz : Nat) (ad : Nat → Nat) (T : Sg) (jf : Nat → Nat → Option Nat) (hW : SW cs ad T jf w) (hI : Inv T) (a : Nat) (hA9 : a < 4) : gM l bs_B nw_B D cls10 (tyl cs) yX8_hanging cX8_hanging 4 (some .int) 1 23 0 0 w sz [.ref (ad 0), .ref (ad (10 + a))] (fun v w' => v = some (.int (b2 (hgN T (tSt T a).2.2.1 4) (hgN T (tSt T a).2.2.2.1 4))) ∧ w' = w) := by
  refine gM.of (by decide +kernel) (Nat.le_of_ble_eq_true rfl) (fun p e s m below meth c A ls X hsz hnm hF hS hl => ?_)
  have hx := X.1
  have hb := X.2.1
  have loop : ∀ (n9 i : Nat), i + n9 = 4 → ∀ (H : Heap) (locs : List Loc) (ls : Array Slot), fw_P D cls10 A w H → va_S A s.heap H locs → lv_has ls 4 [(0, .ref (ad 0)), (1, .ref (ad (10 + a))), (2, .int (b2 (hgN T (tSt T a).2.2.1 i) (hgN T (tSt T a).2.2.2.1 i))), (3, .int (nI i))] → W p l e ({ frames := 1, cells := 0, slots := 0, locals := 23 } : Room) s m ([.ref (ad 0), .ref (ad (10 + a))] : List Value).toArray below meth c H locs 0 0 (MQ below (gQ D cls10 A (fun v w' => v = some (.int (b2 (hgN T (tSt T a).2.2.1 4) (hgN T (tSt T a).2.2.2.1 4))) ∧ w' = w)) ([.ref (ad 0), .ref (ad (10 + a))] : List Value).toArray s 0 0 A) (F0 m 4 ls []) := by
    intro n9
    induction n9 with
    | zero =>
      intro i hi H locs ls hF hS hl
      refine lv_iload_n hx hb dX8_hanging_4 rfl (lv_at hl 3 rfl) ?_
      refine lv_iconst (v := 4) hx hb dX8_hanging_5 (by decide) ?_
      refine lv_icmp_ge (tgt := 63) hx hb dX8_hanging_6 (by decide) (fun c6_1 => ?_) (fun c6_1 => ?_)
      · refine lv_iload_n hx hb dX8_hanging_63 rfl (lv_at hl 2 rfl) ?_
        refine fw_iret X hF hS ?_ (Nat.le_of_ble_eq_true rfl) (Nat.le_of_ble_eq_true rfl) dX8_hanging_64
        rw [show i = 4 by omega]
        exact ⟨rfl, rfl⟩
      · exact absurd (show nI 4 ≤ nI i from nI_le (by omega) (by omega)) c6_1
    | succ n9 ih =>
      intro i hi H locs ls hF hS hl
      have hi4 : i < 4 := by omega
      refine lv_iload_n hx hb dX8_hanging_4 rfl (lv_at hl 3 rfl) ?_
      refine lv_iconst (v := 4) hx hb dX8_hanging_5 (by decide) ?_
      refine lv_icmp_ge (tgt := 63) hx hb dX8_hanging_6 (by decide) (fun c6_1 => ?_) (fun c6_1 => ?_)
      · exact absurd (show nI 4 ≤ nI i from c6_1) (nI_ge (by omega) (by decide))
      · refine lv_iload_n hx hb dX8_hanging_9 rfl (lv_at hl 2 rfl) ?_
        refine lv_aload_n hx hb dX8_hanging_10 rfl (lv_at hl 0 rfl) ?_
        refine fw_get X gC_ok hF (hW.2.1) rfl 2 (by decide) wm_178 rfl dX8_hanging_11 ?_
        refine lv_iload_n hx hb dX8_hanging_14 rfl (lv_at hl 3 rfl) ?_
        refine fw_aldq X hF (hW.2.2.2.2.1) 4 rfl (vp_in_nI (by omega) (by decide)) (v := some (ad (22 + i))) (by rw [nI_clamp (by omega)]) dX8_hanging_15 ?_
        refine W.eq (g2 := F0 m 16 ls [.ref (ad (22 + i)), .int (b2 (hgN T (tSt T a).2.2.1 i) (hgN T (tSt T a).2.2.2.1 i))]) rfl ?_
        refine lv_aload_n hx hb dX8_hanging_16 rfl (lv_at hl 1 rfl) ?_
        refine fw_get X gC_ok hF (hW.2.2.2.2.2.2.2.2.2.2.1 a hA9) rfl 2 (by decide) wm_96 rfl dX8_hanging_17 ?_
        refine fw_callV (As := [va_rf ((tSt T a).2.2.1)]) (rest := [.int (b2 (hgN T (tSt T a).2.2.1 i) (hgN T (tSt T a).2.2.2.1 i))]) X bs_all nw_all mf_X3_holds (c_X3_holds l D cs _ _ (ad (22 + i)) (ad (26 + i)) ((tRa T i).1) ((tRa T i).2.1) ((tRa T i).2.2) (hW.2.2.2.2.2.2.2.2.2.2.2.2.2.1 i hi4) (hW.2.2.2.2.2.2.2.2.2.2.2.2.2.2.1 i hi4) ((tSt T a).2.2.1) (hI.2.2.1 i hi4).1) wm_439 wm_440 wm_441 hF hS rfl (hW.2.2.2.2.2.2.2.2.2.2.2.2.2.1 i hi4) rfl rfl ((⟨⟨Nat.le_of_ble_eq_true rfl, Nat.le_of_ble_eq_true rfl⟩, Nat.le_of_ble_eq_true rfl, Nat.le_of_ble_eq_true rfl⟩)) rfl hl.1 rfl (Nat.le_of_ble_eq_true rfl) dX8_hanging_20 (fun v u2 H locs hp hF hS hz1 hk1 hd1 => ?_)
        obtain ⟨rfl, hw1⟩ := hp
        rw [hw1] at hF
        refine W.eq (g2 := F0 m 23 ls [.int (bz (hldN ((tSt T a).2.2.1) ((tRa T i).2.2) (ix ((tRa T i).1)))), .int (b2 (hgN T (tSt T a).2.2.1 i) (hgN T (tSt T a).2.2.2.1 i))]) rfl ?_
        refine gx_ifeq (tgt := 30) hx hb dX8_hanging_23 (by decide) (fun c23_3 => ?_) (fun c23_3 => ?_)
        · refine lv_iconst (v := 0) hx hb dX8_hanging_30 (by decide) ?_
          refine lv_ior hx hb dX8_hanging_31 ?_
          refine lv_istore_n (lv' := [(2, .int ((b2 (hgN T (tSt T a).2.2.1 i) (hgN T (tSt T a).2.2.2.1 i)) ||| 0)), (0, .ref (ad 0)), (1, .ref (ad (10 + a))), (3, .int (nI i))]) hx hb dX8_hanging_32 rfl hl (by decide) rfl (fun ls hl => ?_)
          refine lv_iload_n hx hb dX8_hanging_33 rfl (lv_at hl 0 rfl) ?_
          refine lv_aload_n hx hb dX8_hanging_34 rfl (lv_at hl 1 rfl) ?_
          refine fw_get X gC_ok hF (hW.2.1) rfl 2 (by decide) wm_178 rfl dX8_hanging_35 ?_
          refine lv_iload_n hx hb dX8_hanging_38 rfl (lv_at hl 3 rfl) ?_
          refine fw_aldq X hF (hW.2.2.2.2.1) 4 rfl (vp_in_nI (by omega) (by decide)) (v := some (ad (22 + i))) (by rw [nI_clamp (by omega)]) dX8_hanging_39 ?_
          refine W.eq (g2 := F0 m 40 ls [.ref (ad (22 + i)), .int ((b2 (hgN T (tSt T a).2.2.1 i) (hgN T (tSt T a).2.2.2.1 i)) ||| 0)]) rfl ?_
          refine lv_aload_n hx hb dX8_hanging_40 rfl (lv_at hl 2 rfl) ?_
          refine fw_get X gC_ok hF (hW.2.2.2.2.2.2.2.2.2.2.1 a hA9) rfl 3 (by decide) wm_98 rfl dX8_hanging_41 ?_
          refine fw_callV (As := [va_rf ((tSt T a).2.2.2.1)]) (rest := [.int ((b2 (hgN T (tSt T a).2.2.1 i) (hgN T (tSt T a).2.2.2.1 i)) ||| 0)]) X bs_all nw_all mf_X3_holds (c_X3_holds l D cs _ _ (ad (22 + i)) (ad (26 + i)) ((tRa T i).1) ((tRa T i).2.1) ((tRa T i).2.2) (hW.2.2.2.2.2.2.2.2.2.2.2.2.2.1 i hi4) (hW.2.2.2.2.2.2.2.2.2.2.2.2.2.2.1 i hi4) ((tSt T a).2.2.2.1) (hI.2.2.1 i hi4).1) wm_439 wm_440 wm_441 hF hS rfl (hW.2.2.2.2.2.2.2.2.2.2.2.2.2.1 i hi4) rfl rfl ((⟨⟨Nat.le_of_ble_eq_true rfl, Nat.le_of_ble_eq_true rfl⟩, Nat.le_of_ble_eq_true rfl, Nat.le_of_ble_eq_true rfl⟩)) rfl hl.1 rfl (Nat.le_of_ble_eq_true rfl) dX8_hanging_44 (fun v u4 H locs hp hF hS hz1 hk1 hd1 => ?_)
          obtain ⟨rfl, hw1⟩ := hp
          rw [hw1] at hF
          refine W.eq (g2 := F0 m 47 ls [.int (bz (hldN ((tSt T a).2.2.2.1) ((tRa T i).2.2) (ix ((tRa T i).1)))), .int ((b2 (hgN T (tSt T a).2.2.1 i) (hgN T (tSt T a).2.2.2.1 i)) ||| 0)]) rfl ?_
          refine gx_ifeq (tgt := 54) hx hb dX8_hanging_47 (by decide) (fun c47_5 => ?_) (fun c47_5 => ?_)
          · refine lv_iconst (v := 0) hx hb dX8_hanging_54 (by decide) ?_
            refine lv_ior hx hb dX8_hanging_55 ?_
            refine lv_istore_n (lv' := [(2, .int (((b2 (hgN T (tSt T a).2.2.1 i) (hgN T (tSt T a).2.2.2.1 i)) ||| 0) ||| 0)), (0, .ref (ad 0)), (1, .ref (ad (10 + a))), (3, .int (nI i))]) hx hb dX8_hanging_56 rfl hl (by decide) rfl (fun ls hl => ?_)
            refine lv_iinc (v := nI (i + 1)) (lv' := [(3, .int (nI (i + 1))), (2, .int (((b2 (hgN T (tSt T a).2.2.1 i) (hgN T (tSt T a).2.2.2.1 i)) ||| 0) ||| 0)), (0, .ref (ad 0)), (1, .ref (ad (10 + a)))]) hx hb dX8_hanging_57 hl (k := 3) rfl (nI_1 i) (by decide) rfl (fun ls hl => ?_)
            refine lv_goto (tgt := 4) hx hb dX8_hanging_60 (by decide) ?_
            have e9 : ((b2 (hgN T (tSt T a).2.2.1 i) (hgN T (tSt T a).2.2.2.1 i)) ||| 0) ||| 0 = b2 (hgN T (tSt T a).2.2.1 (i + 1)) (hgN T (tSt T a).2.2.2.1 (i + 1)) := by rw [b2_00]; simp only [hgN, c23_3, c47_5]
            rw [e9] at hl
            exact ih (i + 1) (by omega) H locs ls hF hS (lv_sub hl [2, 3, 1, 0] rfl)
          · refine lv_iconst (v := 2) hx hb dX8_hanging_50 (by decide) ?_
            refine lv_goto (tgt := 55) hx hb dX8_hanging_51 (by decide) ?_
            refine lv_ior hx hb dX8_hanging_55 ?_
            refine lv_istore_n (lv' := [(2, .int (((b2 (hgN T (tSt T a).2.2.1 i) (hgN T (tSt T a).2.2.2.1 i)) ||| 0) ||| 2)), (0, .ref (ad 0)), (1, .ref (ad (10 + a))), (3, .int (nI i))]) hx hb dX8_hanging_56 rfl hl (by decide) rfl (fun ls hl => ?_)
            refine lv_iinc (v := nI (i + 1)) (lv' := [(3, .int (nI (i + 1))), (2, .int (((b2 (hgN T (tSt T a).2.2.1 i) (hgN T (tSt T a).2.2.2.1 i)) ||| 0) ||| 2)), (0, .ref (ad 0)), (1, .ref (ad (10 + a)))]) hx hb dX8_hanging_57 hl (k := 3) rfl (nI_1 i) (by decide) rfl (fun ls hl => ?_)
            refine lv_goto (tgt := 4) hx hb dX8_hanging_60 (by decide) ?_
            have e9 : ((b2 (hgN T (tSt T a).2.2.1 i) (hgN T (tSt T a).2.2.2.1 i)) ||| 0) ||| 2 = b2 (hgN T (tSt T a).2.2.1 (i + 1)) (hgN T (tSt T a).2.2.2.1 (i + 1)) := by rw [b2_01]; simp only [hgN, c23_3, c47_5]
            rw [e9] at hl
            exact ih (i + 1) (by omega) H locs ls hF hS (lv_sub hl [2, 3, 1, 0] rfl)
        · refine lv_iconst (v := 1) hx hb dX8_hanging_26 (by decide) ?_
          refine lv_goto (tgt := 31) hx hb dX8_hanging_27 (by decide) ?_
          refine lv_ior hx hb dX8_hanging_31 ?_
          refine lv_istore_n (lv' := [(2, .int ((b2 (hgN T (tSt T a).2.2.1 i) (hgN T (tSt T a).2.2.2.1 i)) ||| 1)), (0, .ref (ad 0)), (1, .ref (ad (10 + a))), (3, .int (nI i))]) hx hb dX8_hanging_32 rfl hl (by decide) rfl (fun ls hl => ?_)
          refine lv_iload_n hx hb dX8_hanging_33 rfl (lv_at hl 0 rfl) ?_
          refine lv_aload_n hx hb dX8_hanging_34 rfl (lv_at hl 1 rfl) ?_
          refine fw_get X gC_ok hF (hW.2.1) rfl 2 (by decide) wm_178 rfl dX8_hanging_35 ?_
          refine lv_iload_n hx hb dX8_hanging_38 rfl (lv_at hl 3 rfl) ?_
          refine fw_aldq X hF (hW.2.2.2.2.1) 4 rfl (vp_in_nI (by omega) (by decide)) (v := some (ad (22 + i))) (by rw [nI_clamp (by omega)]) dX8_hanging_39 ?_
          refine W.eq (g2 := F0 m 40 ls [.ref (ad (22 + i)), .int ((b2 (hgN T (tSt T a).2.2.1 i) (hgN T (tSt T a).2.2.2.1 i)) ||| 1)]) rfl ?_
          refine lv_aload_n hx hb dX8_hanging_40 rfl (lv_at hl 2 rfl) ?_
          refine fw_get X gC_ok hF (hW.2.2.2.2.2.2.2.2.2.2.1 a hA9) rfl 3 (by decide) wm_98 rfl dX8_hanging_41 ?_
          refine fw_callV (As := [va_rf ((tSt T a).2.2.2.1)]) (rest := [.int ((b2 (hgN T (tSt T a).2.2.1 i) (hgN T (tSt T a).2.2.2.1 i)) ||| 1)]) X bs_all nw_all mf_X3_holds (c_X3_holds l D cs _ _ (ad (22 + i)) (ad (26 + i)) ((tRa T i).1) ((tRa T i).2.1) ((tRa T i).2.2) (hW.2.2.2.2.2.2.2.2.2.2.2.2.2.1 i hi4) (hW.2.2.2.2.2.2.2.2.2.2.2.2.2.2.1 i hi4) ((tSt T a).2.2.2.1) (hI.2.2.1 i hi4).1) wm_439 wm_440 wm_441 hF hS rfl (hW.2.2.2.2.2.2.2.2.2.2.2.2.2.1 i hi4) rfl rfl ((⟨⟨Nat.le_of_ble_eq_true rfl, Nat.le_of_ble_eq_true rfl⟩, Nat.le_of_ble_eq_true rfl, Nat.le_of_ble_eq_true rfl⟩)) rfl hl.1 rfl (Nat.le_of_ble_eq_true rfl) dX8_hanging_44 (fun v u6 H locs hp hF hS hz1 hk1 hd1 => ?_)
          obtain ⟨rfl, hw1⟩ := hp
          rw [hw1] at hF
          refine W.eq (g2 := F0 m 47 ls [.int (bz (hldN ((tSt T a).2.2.2.1) ((tRa T i).2.2) (ix ((tRa T i).1)))), .int ((b2 (hgN T (tSt T a).2.2.1 i) (hgN T (tSt T a).2.2.2.1 i)) ||| 1)]) rfl ?_
          refine gx_ifeq (tgt := 54) hx hb dX8_hanging_47 (by decide) (fun c47_7 => ?_) (fun c47_7 => ?_)
          · refine lv_iconst (v := 0) hx hb dX8_hanging_54 (by decide) ?_
            refine lv_ior hx hb dX8_hanging_55 ?_
            refine lv_istore_n (lv' := [(2, .int (((b2 (hgN T (tSt T a).2.2.1 i) (hgN T (tSt T a).2.2.2.1 i)) ||| 1) ||| 0)), (0, .ref (ad 0)), (1, .ref (ad (10 + a))), (3, .int (nI i))]) hx hb dX8_hanging_56 rfl hl (by decide) rfl (fun ls hl => ?_)
            refine lv_iinc (v := nI (i + 1)) (lv' := [(3, .int (nI (i + 1))), (2, .int (((b2 (hgN T (tSt T a).2.2.1 i) (hgN T (tSt T a).2.2.2.1 i)) ||| 1) ||| 0)), (0, .ref (ad 0)), (1, .ref (ad (10 + a)))]) hx hb dX8_hanging_57 hl (k := 3) rfl (nI_1 i) (by decide) rfl (fun ls hl => ?_)
            refine lv_goto (tgt := 4) hx hb dX8_hanging_60 (by decide) ?_
            have e9 : ((b2 (hgN T (tSt T a).2.2.1 i) (hgN T (tSt T a).2.2.2.1 i)) ||| 1) ||| 0 = b2 (hgN T (tSt T a).2.2.1 (i + 1)) (hgN T (tSt T a).2.2.2.1 (i + 1)) := by rw [b2_10]; simp only [hgN, c23_3, c47_7]
            rw [e9] at hl
            exact ih (i + 1) (by omega) H locs ls hF hS (lv_sub hl [2, 3, 1, 0] rfl)
          · refine lv_iconst (v := 2) hx hb dX8_hanging_50 (by decide) ?_
            refine lv_goto (tgt := 55) hx hb dX8_hanging_51 (by decide) ?_
            refine lv_ior hx hb dX8_hanging_55 ?_
            refine lv_istore_n (lv' := [(2, .int (((b2 (hgN T (tSt T a).2.2.1 i) (hgN T (tSt T a).2.2.2.1 i)) ||| 1) ||| 2)), (0, .ref (ad 0)), (1, .ref (ad (10 + a))), (3, .int (nI i))]) hx hb dX8_hanging_56 rfl hl (by decide) rfl (fun ls hl => ?_)
            refine lv_iinc (v := nI (i + 1)) (lv' := [(3, .int (nI (i + 1))), (2, .int (((b2 (hgN T (tSt T a).2.2.1 i) (hgN T (tSt T a).2.2.2.1 i)) ||| 1) ||| 2)), (0, .ref (ad 0)), (1, .ref (ad (10 + a)))]) hx hb dX8_hanging_57 hl (k := 3) rfl (nI_1 i) (by decide) rfl (fun ls hl => ?_)
            refine lv_goto (tgt := 4) hx hb dX8_hanging_60 (by decide) ?_
            have e9 : ((b2 (hgN T (tSt T a).2.2.1 i) (hgN T (tSt T a).2.2.2.1 i)) ||| 1) ||| 2 = b2 (hgN T (tSt T a).2.2.1 (i + 1)) (hgN T (tSt T a).2.2.2.1 (i + 1)) := by rw [b2_11]; simp only [hgN, c23_3, c47_7]
            rw [e9] at hl
            exact ih (i + 1) (by omega) H locs ls hF hS (lv_sub hl [2, 3, 1, 0] rfl)
  have hl : lv_has ls 4 [(0, .ref (ad 0)), (1, .ref (ad (10 + a)))] := hl
  refine lv_iconst (v := 0) hx hb dX8_hanging_0 (by decide) ?_
  refine lv_istore_n (lv' := [(2, .int 0), (0, .ref (ad 0)), (1, .ref (ad (10 + a)))]) hx hb dX8_hanging_1 rfl hl (by decide) rfl (fun ls hl => ?_)
  refine lv_iconst (v := 0) hx hb dX8_hanging_2 (by decide) ?_
  refine lv_istore_n (lv' := [(3, .int 0), (2, .int 0), (0, .ref (ad 0)), (1, .ref (ad (10 + a)))]) hx hb dX8_hanging_3 rfl hl (by decide) rfl (fun ls hl => ?_)
  refine loop 4 0 (by omega) _ _ ls hF hS ?_
  rw [show b2 (hgN T (tSt T a).2.2.1 0) (hgN T (tSt T a).2.2.2.1 0) = 0 from by simp only [hgN]; decide]
  exact (lv_sub hl [2, 3, 1, 0] rfl)
set_option maxHeartbeats 4000000 in
set_option maxRecDepth 100000 in
theorem c_X8_stand (l : Launch) (D : va_G) (cs : Nat → ClassId) (w : fW) (sz : Nat) (ad : Nat → Nat) (T : Sg) (jf : Nat → Nat → Option Nat) (hW : SW cs ad T jf w) (hI : Inv T) (a k : Int32) : gM l bs_B nw_B D cls10 (tyl cs) yX8_stand cX8_stand 3 (some .int) 2 46 0 0 w sz [.ref (ad 0), .int a, .int k] (fun v w' => v = some (.int (spStand T a k)) ∧ w' = w) := by
  refine gM.of (by decide +kernel) (Nat.le_of_ble_eq_true rfl) (fun p e s m below meth c A ls X hsz hnm hF hS hl => ?_)
  have hx := X.1
  have hb := X.2.1
  have hl : lv_has ls 3 [(0, .ref (ad 0)), (1, .int a), (2, .int k)] := hl
  refine lv_iload_n hx hb dX8_stand_0 rfl (lv_at hl 1 rfl) ?_
  refine lv_iconst (v := 4) hx hb dX8_stand_1 (by decide) ?_
  refine fw_callS (As := [.int a, .int 4]) (rest := []) X bs_all nw_all mf_X8_isWithin (c_X8_isWithin l D cs _ _ a 4) wm_208 wm_209 hF hS rfl ((⟨⟨Nat.le_of_ble_eq_true rfl, Nat.le_of_ble_eq_true rfl⟩, Nat.le_of_ble_eq_true rfl, Nat.le_of_ble_eq_true rfl⟩)) rfl hl.1 rfl (Nat.le_of_ble_eq_true rfl) dX8_stand_2 (fun v u1 H locs hp hF hS hz1 hk1 hd1 => ?_)
  obtain ⟨rfl, hw1⟩ := hp
  rw [hw1] at hF
  refine W.eq (g2 := F0 m 5 ls [.int (bz (wi a 4))]) rfl ?_
  refine gx_ifeq (tgt := 17) hx hb dX8_stand_5 (by decide) (fun c5_2 => ?_) (fun c5_2 => ?_)
  · refine lv_ldc (v := (-2147483648)) hx hb X.2.2.2.1 (X.2.2.2.2.1 _ wm_434) dX8_stand_17 ?_
    refine fw_iret X hF hS ?_ (Nat.le_of_ble_eq_true rfl) (Nat.le_of_ble_eq_true rfl) dX8_stand_19
    exact ⟨by simp [spStand, c5_2], rfl⟩
  · have hA9 : ix a < 4 := wi_lt c5_2 (N := 4) (by decide)
    refine lv_iload_n hx hb dX8_stand_8 rfl (lv_at hl 2 rfl) ?_
    refine lv_bipush (v := 8) hx hb dX8_stand_9 (by decide) ?_
    refine fw_callS (As := [.int k, .int 8]) (rest := []) X bs_all nw_all mf_X8_isWithin (c_X8_isWithin l D cs _ _ k 8) wm_208 wm_209 hF hS rfl ((⟨⟨Nat.le_of_ble_eq_true rfl, Nat.le_of_ble_eq_true rfl⟩, Nat.le_of_ble_eq_true rfl, Nat.le_of_ble_eq_true rfl⟩)) rfl hl.1 rfl (Nat.le_of_ble_eq_true rfl) dX8_stand_11 (fun v u3 H locs hp hF hS hz1 hk1 hd1 => ?_)
    obtain ⟨rfl, hw1⟩ := hp
    rw [hw1] at hF
    refine W.eq (g2 := F0 m 14 ls [.int (bz (wi k 8))]) rfl ?_
    refine gx_ifne (tgt := 20) hx hb dX8_stand_14 (by decide) (fun c14_4 => ?_) (fun c14_4 => ?_)
    · refine lv_iload_n hx hb dX8_stand_20 rfl (lv_at hl 2 rfl) ?_
      refine lv_bipush (v := 6) hx hb dX8_stand_21 (by decide) ?_
      refine lv_icmp_ne (tgt := 39) hx hb dX8_stand_23 (by decide) (fun c23_5 => ?_) (fun c23_5 => ?_)
      · refine lv_aload_n hx hb dX8_stand_39 rfl (lv_at hl 0 rfl) ?_
        refine fw_get X gC_ok hF (hW.2.1) rfl 0 (by decide) wm_176 rfl dX8_stand_40 ?_
        refine lv_iload_n hx hb dX8_stand_43 rfl (lv_at hl 1 rfl) ?_
        refine fw_aldq X hF (hW.2.2.1) 2 rfl (wi_in c5_2 (N := 4) (by decide)) (v := some (ad (10 + (ix a)))) rfl dX8_stand_44 ?_
        refine W.eq (g2 := F0 m 45 ls [.ref (ad (10 + (ix a)))]) rfl ?_
        refine lv_iload_n hx hb dX8_stand_45 rfl (lv_at hl 2 rfl) ?_
        refine fw_callV (As := [.int k]) (rest := []) X bs_all nw_all mf_X5_tell (c_X5_tell l D cs _ _ (ad (10 + (ix a))) ((tSt T (ix a)).1) ((tSt T (ix a)).2.1) ((tSt T (ix a)).2.2.1) ((tSt T (ix a)).2.2.2.1) ((tSt T (ix a)).2.2.2.2.1) ((tSt T (ix a)).2.2.2.2.2) (hW.2.2.2.2.2.2.2.2.2.2.1 (ix a) hA9) k (W9 T) (fun q hq => hW.whl ((hI.1 _ hA9).1 q hq)) (fun q hq => hW.whl ((hI.1 _ hA9).2.1 q hq))) wm_443 wm_444 wm_445 hF hS rfl (hW.2.2.2.2.2.2.2.2.2.2.1 (ix a) hA9) rfl rfl ((⟨⟨Nat.le_of_ble_eq_true rfl, Nat.le_of_ble_eq_true rfl⟩, Nat.le_of_ble_eq_true rfl, Nat.le_of_ble_eq_true rfl⟩)) rfl hl.1 rfl (Nat.le_of_ble_eq_true rfl) dX8_stand_46 (fun v u6 H locs hp hF hS hz1 hk1 hd1 => ?_)
        obtain ⟨rfl, hw1⟩ := hp
        rw [hw1] at hF
        refine W.eq (g2 := F0 m 49 ls [.int (spTell (W9 T) (tSt T (ix a)) k)]) rfl ?_
        refine fw_iret X hF hS ?_ (Nat.le_of_ble_eq_true rfl) (Nat.le_of_ble_eq_true rfl) dX8_stand_49
        refine ⟨?_, rfl⟩
        unfold spStand
        rw [if_pos c5_2, if_pos c14_4]
        first | rw [if_pos c23_5] | rw [if_neg c23_5]
      · refine lv_aload_n hx hb dX8_stand_26 rfl (lv_at hl 0 rfl) ?_
        refine lv_aload_n hx hb dX8_stand_27 rfl (lv_at hl 0 rfl) ?_
        refine fw_get X gC_ok hF (hW.2.1) rfl 0 (by decide) wm_176 rfl dX8_stand_28 ?_
        refine lv_iload_n hx hb dX8_stand_31 rfl (lv_at hl 1 rfl) ?_
        refine fw_aldq X hF (hW.2.2.1) 2 rfl (wi_in c5_2 (N := 4) (by decide)) (v := some (ad (10 + (ix a)))) rfl dX8_stand_32 ?_
        refine W.eq (g2 := F0 m 33 ls [.ref (ad (10 + (ix a))), .ref (ad 0)]) rfl ?_
        refine fw_callV (As := [.ref (ad (10 + (ix a)))]) (rest := []) X bs_all nw_all mf_X8_hanging (c_X8_hanging l D cs _ _ ad T jf hW hI (ix a) hA9) wm_435 wm_437 wm_6 hF hS rfl (hW.2.1) rfl rfl ((⟨⟨Nat.le_of_ble_eq_true rfl, Nat.le_of_ble_eq_true rfl⟩, Nat.le_of_ble_eq_true rfl, Nat.le_of_ble_eq_true rfl⟩)) rfl hl.1 rfl (Nat.le_of_ble_eq_true rfl) dX8_stand_33 (fun v u7 H locs hp hF hS hz1 hk1 hd1 => ?_)
        obtain ⟨rfl, hw1⟩ := hp
        rw [hw1] at hF
        refine W.eq (g2 := F0 m 36 ls [.int (b2 (hgN T (tSt T (ix a)).2.2.1 4) (hgN T (tSt T (ix a)).2.2.2.1 4))]) rfl ?_
        refine lv_goto (tgt := 49) hx hb dX8_stand_36 (by decide) ?_
        refine fw_iret X hF hS ?_ (Nat.le_of_ble_eq_true rfl) (Nat.le_of_ble_eq_true rfl) dX8_stand_49
        refine ⟨?_, rfl⟩
        unfold spStand
        rw [if_pos c5_2, if_pos c14_4]
        first | rw [if_pos c23_5] | rw [if_neg c23_5]
    · refine lv_ldc (v := (-2147483648)) hx hb X.2.2.2.1 (X.2.2.2.2.1 _ wm_434) dX8_stand_17 ?_
      refine fw_iret X hF hS ?_ (Nat.le_of_ble_eq_true rfl) (Nat.le_of_ble_eq_true rfl) dX8_stand_19
      exact ⟨by simp [spStand, c5_2, c14_4], rfl⟩
set_option maxHeartbeats 4000000 in
set_option maxRecDepth 100000 in
theorem c_X8_clear (l : Launch) (D : va_G) (cs : Nat → ClassId) (w : fW) (sz : Nat) (ad : Nat → Nat) (T : Sg) (jf : Nat → Nat → Option Nat) (hW : SW cs ad T jf w) (j : Int32) : gM l bs_B nw_B D cls10 (tyl cs) yX8_clear cX8_clear 2 (some .int) 1 21 0 0 w sz [.ref (ad 0), .int j] (fun v w' => (wi j 4 = true ∧ v = some (.int (tJo T (ix j)).1) ∧ SW cs ad (setJo T (ix j) (0, (tJo T (ix j)).2)) jf w') ∨ (wi j 4 = false ∧ v = some (.int (-2)) ∧ w' = w)) := by
  refine gM.of (by decide +kernel) (Nat.le_of_ble_eq_true rfl) (fun p e s m below meth c A ls X hsz hnm hF hS hl => ?_)
  have hx := X.1
  have hb := X.2.1
  have hl : lv_has ls 2 [(0, .ref (ad 0)), (1, .int j)] := hl
  refine lv_iload_n hx hb dX8_clear_0 rfl (lv_at hl 1 rfl) ?_
  refine lv_iconst (v := 4) hx hb dX8_clear_1 (by decide) ?_
  refine fw_callS (As := [.int j, .int 4]) (rest := []) X bs_all nw_all mf_X8_isWithin (c_X8_isWithin l D cs _ _ j 4) wm_208 wm_209 hF hS rfl ((⟨⟨Nat.le_of_ble_eq_true rfl, Nat.le_of_ble_eq_true rfl⟩, Nat.le_of_ble_eq_true rfl, Nat.le_of_ble_eq_true rfl⟩)) rfl hl.1 rfl (Nat.le_of_ble_eq_true rfl) dX8_clear_2 (fun v u1 H locs hp hF hS hz1 hk1 hd1 => ?_)
  obtain ⟨rfl, hw1⟩ := hp
  rw [hw1] at hF
  refine W.eq (g2 := F0 m 5 ls [.int (bz (wi j 4))]) rfl ?_
  refine gx_ifeq (tgt := 20) hx hb dX8_clear_5 (by decide) (fun c5_2 => ?_) (fun c5_2 => ?_)
  · refine lv_bipush (v := (-2)) hx hb dX8_clear_20 (by decide) ?_
    refine fw_iret X hF hS ?_ (Nat.le_of_ble_eq_true rfl) (Nat.le_of_ble_eq_true rfl) dX8_clear_22
    exact Or.inr ⟨c5_2, rfl, rfl⟩
  · have hA9 : ix j < 4 := wi_lt c5_2 (N := 4) (by decide)
    refine lv_aload_n hx hb dX8_clear_8 rfl (lv_at hl 0 rfl) ?_
    refine fw_get X gC_ok hF (hW.2.1) rfl 4 (by decide) wm_180 rfl dX8_clear_9 ?_
    refine lv_iload_n hx hb dX8_clear_12 rfl (lv_at hl 1 rfl) ?_
    refine fw_aldq X hF (hW.2.2.2.2.2.2.1) 6 rfl (wi_in c5_2 (N := 4) (by decide)) (v := some (ad (38 + (ix j)))) rfl dX8_clear_13 ?_
    refine W.eq (g2 := F0 m 14 ls [.ref (ad (38 + (ix j)))]) rfl ?_
    refine fw_callV (As := []) (rest := []) X bs_all nw_all mf_X2_empty (c_X2_empty l D cs _ _ (ad (38 + (ix j))) (ad (42 + (ix j))) ((tJo T (ix j)).1) (jf (ix j)) (hW.2.2.2.2.2.2.2.2.2.2.2.2.2.2.2.2.2.1 (ix j) hA9) (hW.2.2.2.2.2.2.2.2.2.2.2.2.2.2.2.2.2.2.1 (ix j) hA9)) wm_385 wm_386 wm_387 hF hS rfl (hW.2.2.2.2.2.2.2.2.2.2.2.2.2.2.2.2.2.1 (ix j) hA9) rfl rfl ((⟨⟨Nat.le_of_ble_eq_true rfl, Nat.le_of_ble_eq_true rfl⟩, Nat.le_of_ble_eq_true rfl, Nat.le_of_ble_eq_true rfl⟩)) rfl hl.1 rfl (Nat.le_of_ble_eq_true rfl) dX8_clear_14 (fun v u3 H locs hp hF hS hz1 hk1 hd1 => ?_)
    obtain ⟨rfl, hw1⟩ := hp
    rw [hw1] at hF
    refine W.eq (g2 := F0 m 17 ls [.int ((tJo T (ix j)).1)]) rfl ?_
    refine lv_goto (tgt := 22) hx hb dX8_clear_17 (by decide) ?_
    refine fw_iret X hF hS ?_ (Nat.le_of_ble_eq_true rfl) (Nat.le_of_ble_eq_true rfl) dX8_clear_22
    exact Or.inl ⟨c5_2, rfl, hW.joE hA9⟩
end
section
theorem SW.nw {cs : Nat → ClassId} {ad : Nat → Nat} {T : Sg} {jf : Nat → Nat → Option Nat} {w : fW} (h : SW cs ad T jf w) {q : Nat} (hq : w q = none) (x : va_E) : SW cs ad T jf (va_up w q (some x)) := by
  have hne : ∀ t, t < 46 → t ≠ 9 → ad t ≠ q := fun t h1 h2 => by
    obtain ⟨e, h3, -⟩ := h.fix h1 h2
    exact gx_ne h3 hq
  exact ⟨h.1,
    by rw [va_up_ne _ _ (hne _ (by omega) (by omega))]; exact h.2.1,
    by rw [va_up_ne _ _ (hne _ (by omega) (by omega))]; exact h.2.2.1,
    by rw [va_up_ne _ _ (hne _ (by omega) (by omega))]; exact h.2.2.2.1,
    by rw [va_up_ne _ _ (hne _ (by omega) (by omega))]; exact h.2.2.2.2.1,
    by rw [va_up_ne _ _ (hne _ (by omega) (by omega))]; exact h.2.2.2.2.2.1,
    by rw [va_up_ne _ _ (hne _ (by omega) (by omega))]; exact h.2.2.2.2.2.2.1,
    by rw [va_up_ne _ _ (hne _ (by omega) (by omega))]; exact h.2.2.2.2.2.2.2.1,
    by rw [va_up_ne _ _ (hne _ (by omega) (by omega))]; exact h.2.2.2.2.2.2.2.2.1,
    by rw [va_up_ne _ _ (hne _ (by omega) (by omega))]; exact h.2.2.2.2.2.2.2.2.2.1,
    fun j hj => by rw [va_up_ne _ _ (hne _ (by omega) (by omega))]; exact h.2.2.2.2.2.2.2.2.2.2.1 j hj,
    fun j hj => by rw [va_up_ne _ _ (hne _ (by omega) (by omega))]; exact h.2.2.2.2.2.2.2.2.2.2.2.1 j hj,
    fun j hj => by rw [va_up_ne _ _ (hne _ (by omega) (by omega))]; exact h.2.2.2.2.2.2.2.2.2.2.2.2.1 j hj,
    fun j hj => by rw [va_up_ne _ _ (hne _ (by omega) (by omega))]; exact h.2.2.2.2.2.2.2.2.2.2.2.2.2.1 j hj,
    fun j hj => by rw [va_up_ne _ _ (hne _ (by omega) (by omega))]; exact h.2.2.2.2.2.2.2.2.2.2.2.2.2.2.1 j hj,
    fun j hj => by rw [va_up_ne _ _ (hne _ (by omega) (by omega))]; exact h.2.2.2.2.2.2.2.2.2.2.2.2.2.2.2.1 j hj,
    fun j hj => by rw [va_up_ne _ _ (hne _ (by omega) (by omega))]; exact h.2.2.2.2.2.2.2.2.2.2.2.2.2.2.2.2.1 j hj,
    fun j hj => by rw [va_up_ne _ _ (hne _ (by omega) (by omega))]; exact h.2.2.2.2.2.2.2.2.2.2.2.2.2.2.2.2.2.1 j hj,
    fun j hj => by rw [va_up_ne _ _ (hne _ (by omega) (by omega))]; exact h.2.2.2.2.2.2.2.2.2.2.2.2.2.2.2.2.2.2.1 j hj,
    fun r y hr => by rw [va_up_ne _ _ (gx_ne (h.2.2.2.2.2.2.2.2.2.2.2.2.2.2.2.2.2.2.2.1 r y hr) hq)]; exact h.2.2.2.2.2.2.2.2.2.2.2.2.2.2.2.2.2.2.2.1 r y hr,
    fun j k hj hk => by
      obtain ⟨r, h1, h2⟩ := h.2.2.2.2.2.2.2.2.2.2.2.2.2.2.2.2.2.2.2.2 j k hj hk
      exact ⟨r, h1, by rw [va_up_ne _ _ (gx_ne h2 hq)]; exact h2⟩⟩
theorem SW.joA {cs : Nat → ClassId} {ad : Nat → Nat} {T : Sg} {jf : Nat → Nat → Option Nat} {w : fW} (h : SW cs ad T jf w) {i : Nat} (hi : i < 4) (g : Nat → Option Nat) (hg : ∀ k, k < ix (tJo T i).1 → g k = jf i k) : SW cs ad (T) (va_up jf i g) (va_up w (ad (42 + i)) (some (.inl (cs 8, 16, .inr (.inr (.inr (.inr g))))))) := by
  have hne : ∀ t, t < 46 → t ≠ 42 + i → ad t ≠ ad (42 + i) := fun t h1 h2 => h.1.ne h1 (by omega) h2
  exact ⟨h.1,
    by rw [va_up_ne _ _ (hne _ (by omega) (by omega))]; exact h.2.1,
    by rw [va_up_ne _ _ (hne _ (by omega) (by omega))]; exact h.2.2.1,
    by rw [va_up_ne _ _ (hne _ (by omega) (by omega))]; exact h.2.2.2.1,
    by rw [va_up_ne _ _ (hne _ (by omega) (by omega))]; exact h.2.2.2.2.1,
    by rw [va_up_ne _ _ (hne _ (by omega) (by omega))]; exact h.2.2.2.2.2.1,
    by rw [va_up_ne _ _ (hne _ (by omega) (by omega))]; exact h.2.2.2.2.2.2.1,
    by rw [va_up_ne _ _ (hne _ (by omega) (by omega))]; exact h.2.2.2.2.2.2.2.1,
    by rw [va_up_ne _ _ (hne _ (by omega) (by omega))]; exact h.2.2.2.2.2.2.2.2.1,
    by rw [va_up_ne _ _ (hne _ (by omega) (by omega))]; exact h.2.2.2.2.2.2.2.2.2.1,
    fun j hj => by rw [va_up_ne _ _ (hne _ (by omega) (by omega))]; exact h.2.2.2.2.2.2.2.2.2.2.1 j hj,
    fun j hj => by rw [va_up_ne _ _ (hne _ (by omega) (by omega))]; exact h.2.2.2.2.2.2.2.2.2.2.2.1 j hj,
    fun j hj => by rw [va_up_ne _ _ (hne _ (by omega) (by omega))]; exact h.2.2.2.2.2.2.2.2.2.2.2.2.1 j hj,
    fun j hj => by rw [va_up_ne _ _ (hne _ (by omega) (by omega))]; exact h.2.2.2.2.2.2.2.2.2.2.2.2.2.1 j hj,
    fun j hj => by rw [va_up_ne _ _ (hne _ (by omega) (by omega))]; exact h.2.2.2.2.2.2.2.2.2.2.2.2.2.2.1 j hj,
    fun j hj => by rw [va_up_ne _ _ (hne _ (by omega) (by omega))]; exact h.2.2.2.2.2.2.2.2.2.2.2.2.2.2.2.1 j hj,
    fun j hj => by rw [va_up_ne _ _ (hne _ (by omega) (by omega))]; exact h.2.2.2.2.2.2.2.2.2.2.2.2.2.2.2.2.1 j hj,
    fun j hj => by rw [va_up_ne _ _ (hne _ (by omega) (by omega))]; exact h.2.2.2.2.2.2.2.2.2.2.2.2.2.2.2.2.2.1 j hj,
    fun j hj => by
      by_cases hji : j = i
      · subst hji; rw [va_up_self]; rw [va_up_self]
      · rw [va_up_ne _ _ (hne _ (by omega) (by omega))]; rw [va_up_ne _ _ hji]; exact h.2.2.2.2.2.2.2.2.2.2.2.2.2.2.2.2.2.2.1 j hj,
    fun q x hq => by rw [va_up_ne _ _ (h.ne7 (h.2.2.2.2.2.2.2.2.2.2.2.2.2.2.2.2.2.2.2.1 q x hq) (by omega) (by omega))]; exact h.2.2.2.2.2.2.2.2.2.2.2.2.2.2.2.2.2.2.2.1 q x hq,
    fun j k hj hk => by
      obtain ⟨q, h1, h2⟩ := h.2.2.2.2.2.2.2.2.2.2.2.2.2.2.2.2.2.2.2.2 j k hj hk
      refine ⟨q, ?_, by rw [va_up_ne _ _ (h.ne6 h2 (by omega) (by omega))]; exact h2⟩
      by_cases hji : j = i
      · subst hji; rw [va_up_self, hg k hk]; exact h1
      · rw [va_up_ne _ _ hji]; exact h1⟩
theorem SW.joO {cs : Nat → ClassId} {ad : Nat → Nat} {T : Sg} {jf : Nat → Nat → Option Nat} {w : fW} (h : SW cs ad T jf w) {i : Nat} (hi : i < 4) (n : Int32) (f : Nat → aSp) (hf : ∀ k, k < ix n → ∃ q, jf i k = some q ∧ w q = some (cSp (f k))) : SW cs ad (setJo T i (n, f)) (jf) (va_up w (ad (38 + i)) (some (.inr (2, [.ref (ad (42 + i)), .int n])))) := by
  have hne : ∀ t, t < 46 → t ≠ 38 + i → ad t ≠ ad (38 + i) := fun t h1 h2 => h.1.ne h1 (by omega) h2
  exact ⟨h.1,
    by rw [va_up_ne _ _ (hne _ (by omega) (by omega))]; exact h.2.1,
    by rw [va_up_ne _ _ (hne _ (by omega) (by omega))]; exact h.2.2.1,
    by rw [va_up_ne _ _ (hne _ (by omega) (by omega))]; exact h.2.2.2.1,
    by rw [va_up_ne _ _ (hne _ (by omega) (by omega))]; exact h.2.2.2.2.1,
    by rw [va_up_ne _ _ (hne _ (by omega) (by omega))]; exact h.2.2.2.2.2.1,
    by rw [va_up_ne _ _ (hne _ (by omega) (by omega))]; exact h.2.2.2.2.2.2.1,
    by rw [va_up_ne _ _ (hne _ (by omega) (by omega))]; exact h.2.2.2.2.2.2.2.1,
    by rw [va_up_ne _ _ (hne _ (by omega) (by omega))]; exact h.2.2.2.2.2.2.2.2.1,
    by rw [va_up_ne _ _ (hne _ (by omega) (by omega))]; exact h.2.2.2.2.2.2.2.2.2.1,
    fun j hj => by rw [va_up_ne _ _ (hne _ (by omega) (by omega))]; exact h.2.2.2.2.2.2.2.2.2.2.1 j hj,
    fun j hj => by rw [va_up_ne _ _ (hne _ (by omega) (by omega))]; exact h.2.2.2.2.2.2.2.2.2.2.2.1 j hj,
    fun j hj => by rw [va_up_ne _ _ (hne _ (by omega) (by omega))]; exact h.2.2.2.2.2.2.2.2.2.2.2.2.1 j hj,
    fun j hj => by rw [va_up_ne _ _ (hne _ (by omega) (by omega))]; exact h.2.2.2.2.2.2.2.2.2.2.2.2.2.1 j hj,
    fun j hj => by rw [va_up_ne _ _ (hne _ (by omega) (by omega))]; exact h.2.2.2.2.2.2.2.2.2.2.2.2.2.2.1 j hj,
    fun j hj => by rw [va_up_ne _ _ (hne _ (by omega) (by omega))]; exact h.2.2.2.2.2.2.2.2.2.2.2.2.2.2.2.1 j hj,
    fun j hj => by rw [va_up_ne _ _ (hne _ (by omega) (by omega))]; exact h.2.2.2.2.2.2.2.2.2.2.2.2.2.2.2.2.1 j hj,
    fun j hj => by
      by_cases hji : j = i
      · subst hji; rw [va_up_self]; rw [gJo, va_up_self]
      · rw [va_up_ne _ _ (hne _ (by omega) (by omega))]; rw [gJo, va_up_ne _ _ hji]; exact h.2.2.2.2.2.2.2.2.2.2.2.2.2.2.2.2.2.1 j hj,
    fun j hj => by rw [va_up_ne _ _ (hne _ (by omega) (by omega))]; exact h.2.2.2.2.2.2.2.2.2.2.2.2.2.2.2.2.2.2.1 j hj,
    fun q x hq => by rw [va_up_ne _ _ (h.ne7 (h.2.2.2.2.2.2.2.2.2.2.2.2.2.2.2.2.2.2.2.1 q x hq) (by omega) (by omega))]; exact h.2.2.2.2.2.2.2.2.2.2.2.2.2.2.2.2.2.2.2.1 q x hq,
    fun j k hj hk => by
      by_cases hji : j = i
      · subst hji
        rw [gJo, va_up_self] at hk ⊢
        obtain ⟨q, h1, h2⟩ := hf k hk
        exact ⟨q, h1, by rw [va_up_ne _ _ (h.ne6 h2 (by omega) (by omega))]; exact h2⟩
      · rw [gJo, va_up_ne _ _ hji] at hk ⊢
        obtain ⟨q, h1, h2⟩ := h.2.2.2.2.2.2.2.2.2.2.2.2.2.2.2.2.2.2.2.2 j k hj hk
        exact ⟨q, h1, by rw [va_up_ne _ _ (h.ne6 h2 (by omega) (by omega))]; exact h2⟩⟩
theorem ix_s {n : Int32} (h0 : 0 ≤ n) (h1 : n < 16) : ix (n + 1) = ix n + 1 := by
  obtain ⟨j, hj, e⟩ := vp_in_of (wi_in (wi_t h0 h1) (N := 16) (by decide)) (by decide)
  subst e
  rw [nI_1]
  show (nI (j + 1)).toNatClampNeg = (nI j).toNatClampNeg + 1
  rw [nI_clamp (by omega), nI_clamp (by omega)]
theorem SW.joP {cs : Nat → ClassId} {ad : Nat → Nat} {T : Sg} {jf : Nat → Nat → Option Nat} {w : fW} (h : SW cs ad T jf w) {i : Nat} (hi : i < 4) {t0 : Nat} {x : aSp} (h0 : 0 ≤ (tJo T i).1) (h1 : (tJo T i).1 < 16) (ht : w t0 = some (cSp x)) : SW cs ad (setJo T i ((tJo T i).1 + 1, va_up (tJo T i).2 (ix (tJo T i).1) x)) (va_up jf i (va_up (jf i) (ix (tJo T i).1) (some t0))) (va_up (va_up w (ad (42 + i)) (some (.inl (cs 8, 16, .inr (.inr (.inr (.inr (va_up (jf i) (ix (tJo T i).1) (some t0))))))))) (ad (38 + i)) (some (.inr (2, [.ref (ad (42 + i)), .int ((tJo T i).1 + 1)])))) := by
  refine (h.joA hi (va_up (jf i) (ix (tJo T i).1) (some t0)) (fun k hk => va_up_ne _ _ (by omega))).joO hi _ _ ?_
  intro k hk
  rw [ix_s h0 h1] at hk
  rw [va_up_self]
  by_cases hkn : k = ix (tJo T i).1
  · subst hkn
    refine ⟨t0, va_up_self _ _ _, ?_⟩
    rw [va_up_self, va_up_ne _ _ (h.ne6 ht (by omega) (by omega))]
    exact ht
  · rw [va_up_ne _ _ hkn, va_up_ne _ _ hkn]
    obtain ⟨q, h2, h3⟩ := h.2.2.2.2.2.2.2.2.2.2.2.2.2.2.2.2.2.2.2.2 i k hi (by omega)
    exact ⟨q, h2, by rw [va_up_ne _ _ (h.ne6 h3 (by omega) (by omega))]; exact h3⟩
def spStep (j k a b d sd : Int32) (T : Sg) : Int32 × Sg := if wi j 4 = true ∧ (sd = -1 ∨ wi sd 16 = true) ∧ okS k a b d = true then (if 16 ≤ (tJo T (ix j)).1 then (-3, T) else ((tJo T (ix j)).1, setJo T (ix j) ((tJo T (ix j)).1 + 1, va_up (tJo T (ix j)).2 (ix (tJo T (ix j)).1) (k, a, b, d, sd)))) else (-2, T)
def spGo (q : Nat) (x : aSp) (n : Int32) (T : Sg) : Bool × Sg := if (spAt q x.1 x.2.1 x.2.2.1 x.2.2.2.1 T).1.1 = 0 then (true, setRe (spAt q x.1 x.2.1 x.2.2.1 x.2.2.2.1 T).2 ((tRe (spAt q x.1 x.2.1 x.2.2.1 x.2.2.2.1 T).2).1 + 1, (tRe (spAt q x.1 x.2.1 x.2.2.1 x.2.2.2.1 T).2).2.1, (tRe (spAt q x.1 x.2.1 x.2.2.1 x.2.2.2.1 T).2).2.2.1, (tRe (spAt q x.1 x.2.1 x.2.2.1 x.2.2.2.1 T).2).2.2.2.1, (tRe (spAt q x.1 x.2.1 x.2.2.1 x.2.2.2.1 T).2).2.2.2.2.1, (tRe (spAt q x.1 x.2.1 x.2.2.1 x.2.2.2.1 T).2).2.2.2.2.2 + (spAt q x.1 x.2.1 x.2.2.1 x.2.2.2.1 T).1.2.toInt64)) else (false, setRe (spAt q x.1 x.2.1 x.2.2.1 x.2.2.2.1 T).2 ((tRe (spAt q x.1 x.2.1 x.2.2.1 x.2.2.2.1 T).2).1, (tRe (spAt q x.1 x.2.1 x.2.2.1 x.2.2.2.1 T).2).2.1 + 1, (spAt q x.1 x.2.1 x.2.2.1 x.2.2.2.1 T).1.1, n, (tRe (spAt q x.1 x.2.1 x.2.2.1 x.2.2.2.1 T).2).2.2.2.2.1, (tRe (spAt q x.1 x.2.1 x.2.2.1 x.2.2.2.1 T).2).2.2.2.2.2))
def stI1 (T : Sg) : Sg := setRe T ((tRe T).1, (tRe T).2.1, (tRe T).2.2.1, (tRe T).2.2.2.1, (tRe T).2.2.2.2.1 + 1, (tRe T).2.2.2.2.2)
def spIn (q : Nat) (j : Nat) (x : aSp) (T : Sg) : Bool × Sg := if wi x.2.2.2.2 (tJo T j).1 = true then spGo q ((tJo T j).2 (ix x.2.2.2.2)) x.2.2.2.2 (stI1 T) else (false, T)
theorem up_none {w : fW} {a q : Nat} {e : va_E} (h : va_up w a (some e) q = none) : w q = none := by
  by_cases hq : q = a
  · rw [hq, va_up_self] at h; cases h
  · rw [va_up_ne _ _ hq] at h; exact h

set_option maxHeartbeats 4000000 in
set_option maxRecDepth 100000 in
theorem c_X8_step (l : Launch) (D : va_G) (cs : Nat → ClassId) (w : fW) (sz : Nat) (ad : Nat → Nat) (T : Sg) (jf : Nat → Nat → Option Nat) (hW : SW cs ad T jf w) (hI : Inv T) (j k a b d sd : Int32) : gM l bs_B nw_B D cls10 (tyl cs) yX8_step cX8_step 8 (some .int) 2 45 1 5 w sz [.ref (ad 0), .int j, .int k, .int a, .int b, .int d, .int sd] (fun v w' => ∃ jf', v = some (.int (spStep j k a b d sd T).1) ∧ SW cs ad (spStep j k a b d sd T).2 jf' w') := by
  refine gM.of (by decide +kernel) (Nat.le_of_ble_eq_true rfl) (fun p e s m below meth c A ls X hsz hnm hF hS hl => ?_)
  have hx := X.1
  have hb := X.2.1
  have hl : lv_has ls 8 [(0, .ref (ad 0)), (1, .int j), (2, .int k), (3, .int a), (4, .int b), (5, .int d), (6, .int sd)] := hl
  refine lv_iload hx hb dX8_step_0 (lv_at hl 6 rfl) ?_
  refine lv_iconst (v := (-1)) hx hb dX8_step_2 (by decide) ?_
  refine lv_icmp_eq (tgt := 16) hx hb dX8_step_3 (by decide) (fun c3_1 => ?_) (fun c3_1 => ?_)
  · refine lv_iconst (v := 1) hx hb dX8_step_16 (by decide) ?_
    refine lv_goto (tgt := 21) hx hb dX8_step_17 (by decide) ?_
    refine lv_istore (lv' := [(7, .int 1), (0, .ref (ad 0)), (1, .int j), (2, .int k), (3, .int a), (4, .int b), (5, .int d), (6, .int sd)]) hx hb dX8_step_21 hl (by decide) rfl (fun ls hl => ?_)
    refine lv_iload_n hx hb dX8_step_23 rfl (lv_at hl 2 rfl) ?_
    refine lv_iconst (v := 4) hx hb dX8_step_24 (by decide) ?_
    refine fw_callS (As := [.int j, .int 4]) (rest := []) X bs_all nw_all mf_X8_isWithin (c_X8_isWithin l D cs _ _ j 4) wm_208 wm_209 hF hS rfl ((⟨⟨Nat.le_of_ble_eq_true rfl, Nat.le_of_ble_eq_true rfl⟩, Nat.le_of_ble_eq_true rfl, Nat.le_of_ble_eq_true rfl⟩)) rfl hl.1 rfl (Nat.le_of_ble_eq_true rfl) dX8_step_25 (fun v u2 H locs hp hF hS hz1 hk1 hd1 => ?_)
    obtain ⟨rfl, hw1⟩ := hp
    rw [hw1] at hF
    refine W.eq (g2 := F0 m 28 ls [.int (bz (wi j 4))]) rfl ?_
    refine gx_ifeq (tgt := 48) hx hb dX8_step_28 (by decide) (fun c28_3 => ?_) (fun c28_3 => ?_)
    · refine lv_bipush (v := (-2)) hx hb dX8_step_48 (by decide) ?_
      refine fw_iret X hF hS ?_ (Nat.le_of_ble_eq_true rfl) (Nat.le_of_ble_eq_true rfl) dX8_step_50
      have e9 : spStep j k a b d sd T = (-2, T) := if_neg (fun z => by simp_all)
      exact ⟨jf, by rw [e9], by rw [e9]; exact hW⟩
    · have hA9 : ix j < 4 := wi_lt c28_3 (N := 4) (by decide)
      refine lv_iload hx hb dX8_step_31 (lv_at hl 0 rfl) ?_
      refine lv_if_eq (tgt := 48) hx hb dX8_step_33 (by decide) (fun h => absurd h (by decide)) (fun _ => ?_)
      refine lv_iload_n hx hb dX8_step_36 rfl (lv_at hl 3 rfl) ?_
      refine lv_iload_n hx hb dX8_step_37 rfl (lv_at hl 4 rfl) ?_
      refine lv_iload hx hb dX8_step_38 (lv_at hl 5 rfl) ?_
      refine lv_iload hx hb dX8_step_40 (lv_at hl 6 rfl) ?_
      refine fw_callS (As := [.int k, .int a, .int b, .int d]) (rest := []) X bs_all nw_all mf_X8_isStep (c_X8_isStep l D cs _ _ k a b d) wm_205 wm_206 hF hS rfl ((⟨⟨Nat.le_of_ble_eq_true rfl, Nat.le_of_ble_eq_true rfl⟩, Nat.le_of_ble_eq_true rfl, Nat.le_of_ble_eq_true rfl⟩)) rfl hl.1 rfl (Nat.le_of_ble_eq_true rfl) dX8_step_42 (fun v u5 H locs hp hF hS hz1 hk1 hd1 => ?_)
      obtain ⟨rfl, hw1⟩ := hp
      rw [hw1] at hF
      refine W.eq (g2 := F0 m 45 ls [.int (bz (okS k a b d))]) rfl ?_
      refine gx_ifne (tgt := 51) hx hb dX8_step_45 (by decide) (fun c45_6 => ?_) (fun c45_6 => ?_)
      · refine lv_aload_n hx hb dX8_step_51 rfl (lv_at hl 1 rfl) ?_
        refine fw_get X gC_ok hF (hW.2.1) rfl 4 (by decide) wm_180 rfl dX8_step_52 ?_
        refine lv_iload_n hx hb dX8_step_55 rfl (lv_at hl 2 rfl) ?_
        refine fw_aldq X hF (hW.2.2.2.2.2.2.1) 6 rfl (wi_in c28_3 (N := 4) (by decide)) (v := some (ad (38 + (ix j)))) rfl dX8_step_56 ?_
        refine W.eq (g2 := F0 m 57 ls [.ref (ad (38 + (ix j)))]) rfl ?_
        refine fw_new (ci := 6) (fs := [.int 0, .int 0, .int 0, .int 0, .int 0]) X gC_ok hF hS rfl tyX6 tyX6_ok (by decide +kernel) wm_350 wm_351 wm_35 (Nat.le_of_ble_eq_true rfl) (Nat.le_of_ble_eq_true rfl) dX8_step_57 (fun q7 H nq7 zq7 zzq7 hF hS => ?_)
        refine lv_dup hx hb dX8_step_60 rfl ?_
        refine lv_iload_n hx hb dX8_step_61 rfl (lv_at hl 3 rfl) ?_
        refine lv_iload_n hx hb dX8_step_62 rfl (lv_at hl 4 rfl) ?_
        refine lv_iload hx hb dX8_step_63 (lv_at hl 5 rfl) ?_
        refine lv_iload hx hb dX8_step_65 (lv_at hl 6 rfl) ?_
        refine lv_iload hx hb dX8_step_67 (lv_at hl 7 rfl) ?_
        refine fw_callI (As := [.int k, .int a, .int b, .int d, .int sd]) (rest := [.ref q7, .ref (ad (38 + (ix j)))]) X bs_all nw_all mf_X6_init (c_X6_init l D cs _ _ q7 k a b d sd (va_up_self _ _ _)) wm_352 wm_353 rfl hF hS rfl ((⟨⟨Nat.le_of_ble_eq_true rfl, Nat.le_of_ble_eq_true rfl⟩, Nat.le_of_ble_eq_true rfl, Nat.le_of_ble_eq_true rfl⟩)) rfl hl.1 rfl (Nat.le_of_ble_eq_true rfl) dX8_step_69 (fun v u8 H locs hp hF hS hz1 hk1 hd1 => ?_)
        obtain ⟨rfl, hw1⟩ := hp
        rw [hw1] at hF
        refine W.eq (g2 := F0 m 72 ls [.ref q7, .ref (ad (38 + (ix j)))]) rfl ?_
        refine fw_callV (As := [.ref q7]) (rest := []) X bs_all nw_all mf_X2_append (c_X2_append l D cs _ _ (ad (38 + (ix j))) (ad (42 + (ix j))) ((tJo T (ix j)).1) (jf (ix j)) ((va_up_ne _ _ (gx_ne (hW.2.2.2.2.2.2.2.2.2.2.2.2.2.2.2.2.2.1 (ix j) hA9) nq7)).trans ((va_up_ne _ _ (gx_ne (hW.2.2.2.2.2.2.2.2.2.2.2.2.2.2.2.2.2.1 (ix j) hA9) nq7)).trans (hW.2.2.2.2.2.2.2.2.2.2.2.2.2.2.2.2.2.1 (ix j) hA9))) ((va_up_ne _ _ (gx_ne (hW.2.2.2.2.2.2.2.2.2.2.2.2.2.2.2.2.2.2.1 (ix j) hA9) nq7)).trans ((va_up_ne _ _ (gx_ne (hW.2.2.2.2.2.2.2.2.2.2.2.2.2.2.2.2.2.2.1 (ix j) hA9) nq7)).trans (hW.2.2.2.2.2.2.2.2.2.2.2.2.2.2.2.2.2.2.1 (ix j) hA9))) q7 k a b d sd (va_up_self _ _ _) (hI.2.2.2.2.1 _ hA9).1) wm_377 wm_378 wm_379 hF hS rfl ((va_up_ne _ _ (gx_ne (hW.2.2.2.2.2.2.2.2.2.2.2.2.2.2.2.2.2.1 (ix j) hA9) nq7)).trans ((va_up_ne _ _ (gx_ne (hW.2.2.2.2.2.2.2.2.2.2.2.2.2.2.2.2.2.1 (ix j) hA9) nq7)).trans (hW.2.2.2.2.2.2.2.2.2.2.2.2.2.2.2.2.2.1 (ix j) hA9))) rfl rfl ((⟨⟨Nat.le_of_ble_eq_true rfl, Nat.le_of_ble_eq_true rfl⟩, Nat.le_of_ble_eq_true rfl, Nat.le_of_ble_eq_true rfl⟩)) rfl hl.1 rfl (Nat.le_of_ble_eq_true rfl) dX8_step_72 (fun v u9 H locs hp hF hS hz1 hk1 hd1 => ?_)
        rcases hp with ⟨k1, rfl, hw1⟩ | ⟨k1, rfl, hw1⟩
        · rw [hw1] at hF
          refine W.eq (g2 := F0 m 75 ls [.int (-3)]) rfl ?_
          refine fw_iret X hF hS ?_ (Nat.le_of_ble_eq_true rfl) (Nat.le_of_ble_eq_true rfl) dX8_step_75
          have g9 : wi j 4 = true ∧ (sd = -1 ∨ wi sd 16 = true) ∧ okS k a b d = true := by simp_all
          have hW2 := hW.nw nq7 (.inr (6, [.int k, .int a, .int b, .int d, .int sd]))
          rw [← bx_uu] at hW2
          have e9 : spStep j k a b d sd T = (-3, T) := by unfold spStep; rw [if_pos g9, if_pos k1]
          exact ⟨jf, by rw [e9], by rw [e9]; exact hW2⟩
        · rw [hw1] at hF
          refine W.eq (g2 := F0 m 75 ls [.int ((tJo T (ix j)).1)]) rfl ?_
          refine fw_iret X hF hS ?_ (Nat.le_of_ble_eq_true rfl) (Nat.le_of_ble_eq_true rfl) dX8_step_75
          have g9 : wi j 4 = true ∧ (sd = -1 ∨ wi sd 16 = true) ∧ okS k a b d = true := by simp_all
          have hW2 := hW.nw nq7 (.inr (6, [.int k, .int a, .int b, .int d, .int sd]))
          rw [← bx_uu] at hW2
          have e9 : spStep j k a b d sd T = ((tJo T (ix j)).1, setJo T (ix j) ((tJo T (ix j)).1 + 1, va_up (tJo T (ix j)).2 (ix (tJo T (ix j)).1) (k, a, b, d, sd))) := by unfold spStep; rw [if_pos g9, if_neg (i_nle.mpr k1)]
          exact ⟨_, by rw [e9], by rw [e9]; exact hW2.joP hA9 (hI.2.2.2.2.1 _ hA9).1 k1 (va_up_self _ _ _)⟩
      · refine lv_bipush (v := (-2)) hx hb dX8_step_48 (by decide) ?_
        refine fw_iret X hF hS ?_ (Nat.le_of_ble_eq_true rfl) (Nat.le_of_ble_eq_true rfl) dX8_step_50
        have e9 : spStep j k a b d sd T = (-2, T) := if_neg (fun z => by simp_all)
        exact ⟨jf, by rw [e9], by rw [e9]; exact hW⟩
  · refine lv_iload hx hb dX8_step_6 (lv_at hl 6 rfl) ?_
    refine lv_bipush (v := 16) hx hb dX8_step_8 (by decide) ?_
    refine fw_callS (As := [.int sd, .int 16]) (rest := []) X bs_all nw_all mf_X8_isWithin (c_X8_isWithin l D cs _ _ sd 16) wm_208 wm_209 hF hS rfl ((⟨⟨Nat.le_of_ble_eq_true rfl, Nat.le_of_ble_eq_true rfl⟩, Nat.le_of_ble_eq_true rfl, Nat.le_of_ble_eq_true rfl⟩)) rfl hl.1 rfl (Nat.le_of_ble_eq_true rfl) dX8_step_10 (fun v u10 H locs hp hF hS hz1 hk1 hd1 => ?_)
    obtain ⟨rfl, hw1⟩ := hp
    rw [hw1] at hF
    refine W.eq (g2 := F0 m 13 ls [.int (bz (wi sd 16))]) rfl ?_
    refine gx_ifeq (tgt := 20) hx hb dX8_step_13 (by decide) (fun c13_11 => ?_) (fun c13_11 => ?_)
    · refine lv_iconst (v := 0) hx hb dX8_step_20 (by decide) ?_
      refine lv_istore (lv' := [(7, .int 0), (0, .ref (ad 0)), (1, .int j), (2, .int k), (3, .int a), (4, .int b), (5, .int d), (6, .int sd)]) hx hb dX8_step_21 hl (by decide) rfl (fun ls hl => ?_)
      refine lv_iload_n hx hb dX8_step_23 rfl (lv_at hl 2 rfl) ?_
      refine lv_iconst (v := 4) hx hb dX8_step_24 (by decide) ?_
      refine fw_callS (As := [.int j, .int 4]) (rest := []) X bs_all nw_all mf_X8_isWithin (c_X8_isWithin l D cs _ _ j 4) wm_208 wm_209 hF hS rfl ((⟨⟨Nat.le_of_ble_eq_true rfl, Nat.le_of_ble_eq_true rfl⟩, Nat.le_of_ble_eq_true rfl, Nat.le_of_ble_eq_true rfl⟩)) rfl hl.1 rfl (Nat.le_of_ble_eq_true rfl) dX8_step_25 (fun v u12 H locs hp hF hS hz1 hk1 hd1 => ?_)
      obtain ⟨rfl, hw1⟩ := hp
      rw [hw1] at hF
      refine W.eq (g2 := F0 m 28 ls [.int (bz (wi j 4))]) rfl ?_
      refine gx_ifeq (tgt := 48) hx hb dX8_step_28 (by decide) (fun c28_13 => ?_) (fun c28_13 => ?_)
      · refine lv_bipush (v := (-2)) hx hb dX8_step_48 (by decide) ?_
        refine fw_iret X hF hS ?_ (Nat.le_of_ble_eq_true rfl) (Nat.le_of_ble_eq_true rfl) dX8_step_50
        have e9 : spStep j k a b d sd T = (-2, T) := if_neg (fun z => by simp_all)
        exact ⟨jf, by rw [e9], by rw [e9]; exact hW⟩
      · have hA9 : ix j < 4 := wi_lt c28_13 (N := 4) (by decide)
        refine lv_iload hx hb dX8_step_31 (lv_at hl 0 rfl) ?_
        refine lv_if_eq (tgt := 48) hx hb dX8_step_33 (by decide) (fun _ => ?_) (fun h => absurd rfl h)
        refine lv_bipush (v := (-2)) hx hb dX8_step_48 (by decide) ?_
        refine fw_iret X hF hS ?_ (Nat.le_of_ble_eq_true rfl) (Nat.le_of_ble_eq_true rfl) dX8_step_50
        have e9 : spStep j k a b d sd T = (-2, T) := if_neg (fun z => by simp_all)
        exact ⟨jf, by rw [e9], by rw [e9]; exact hW⟩
    · refine lv_iconst (v := 1) hx hb dX8_step_16 (by decide) ?_
      refine lv_goto (tgt := 21) hx hb dX8_step_17 (by decide) ?_
      refine lv_istore (lv' := [(7, .int 1), (0, .ref (ad 0)), (1, .int j), (2, .int k), (3, .int a), (4, .int b), (5, .int d), (6, .int sd)]) hx hb dX8_step_21 hl (by decide) rfl (fun ls hl => ?_)
      refine lv_iload_n hx hb dX8_step_23 rfl (lv_at hl 2 rfl) ?_
      refine lv_iconst (v := 4) hx hb dX8_step_24 (by decide) ?_
      refine fw_callS (As := [.int j, .int 4]) (rest := []) X bs_all nw_all mf_X8_isWithin (c_X8_isWithin l D cs _ _ j 4) wm_208 wm_209 hF hS rfl ((⟨⟨Nat.le_of_ble_eq_true rfl, Nat.le_of_ble_eq_true rfl⟩, Nat.le_of_ble_eq_true rfl, Nat.le_of_ble_eq_true rfl⟩)) rfl hl.1 rfl (Nat.le_of_ble_eq_true rfl) dX8_step_25 (fun v u15 H locs hp hF hS hz1 hk1 hd1 => ?_)
      obtain ⟨rfl, hw1⟩ := hp
      rw [hw1] at hF
      refine W.eq (g2 := F0 m 28 ls [.int (bz (wi j 4))]) rfl ?_
      refine gx_ifeq (tgt := 48) hx hb dX8_step_28 (by decide) (fun c28_16 => ?_) (fun c28_16 => ?_)
      · refine lv_bipush (v := (-2)) hx hb dX8_step_48 (by decide) ?_
        refine fw_iret X hF hS ?_ (Nat.le_of_ble_eq_true rfl) (Nat.le_of_ble_eq_true rfl) dX8_step_50
        have e9 : spStep j k a b d sd T = (-2, T) := if_neg (fun z => by simp_all)
        exact ⟨jf, by rw [e9], by rw [e9]; exact hW⟩
      · have hA9 : ix j < 4 := wi_lt c28_16 (N := 4) (by decide)
        refine lv_iload hx hb dX8_step_31 (lv_at hl 0 rfl) ?_
        refine lv_if_eq (tgt := 48) hx hb dX8_step_33 (by decide) (fun h => absurd h (by decide)) (fun _ => ?_)
        refine lv_iload_n hx hb dX8_step_36 rfl (lv_at hl 3 rfl) ?_
        refine lv_iload_n hx hb dX8_step_37 rfl (lv_at hl 4 rfl) ?_
        refine lv_iload hx hb dX8_step_38 (lv_at hl 5 rfl) ?_
        refine lv_iload hx hb dX8_step_40 (lv_at hl 6 rfl) ?_
        refine fw_callS (As := [.int k, .int a, .int b, .int d]) (rest := []) X bs_all nw_all mf_X8_isStep (c_X8_isStep l D cs _ _ k a b d) wm_205 wm_206 hF hS rfl ((⟨⟨Nat.le_of_ble_eq_true rfl, Nat.le_of_ble_eq_true rfl⟩, Nat.le_of_ble_eq_true rfl, Nat.le_of_ble_eq_true rfl⟩)) rfl hl.1 rfl (Nat.le_of_ble_eq_true rfl) dX8_step_42 (fun v u18 H locs hp hF hS hz1 hk1 hd1 => ?_)
        obtain ⟨rfl, hw1⟩ := hp
        rw [hw1] at hF
        refine W.eq (g2 := F0 m 45 ls [.int (bz (okS k a b d))]) rfl ?_
        refine gx_ifne (tgt := 51) hx hb dX8_step_45 (by decide) (fun c45_19 => ?_) (fun c45_19 => ?_)
        · refine lv_aload_n hx hb dX8_step_51 rfl (lv_at hl 1 rfl) ?_
          refine fw_get X gC_ok hF (hW.2.1) rfl 4 (by decide) wm_180 rfl dX8_step_52 ?_
          refine lv_iload_n hx hb dX8_step_55 rfl (lv_at hl 2 rfl) ?_
          refine fw_aldq X hF (hW.2.2.2.2.2.2.1) 6 rfl (wi_in c28_16 (N := 4) (by decide)) (v := some (ad (38 + (ix j)))) rfl dX8_step_56 ?_
          refine W.eq (g2 := F0 m 57 ls [.ref (ad (38 + (ix j)))]) rfl ?_
          refine fw_new (ci := 6) (fs := [.int 0, .int 0, .int 0, .int 0, .int 0]) X gC_ok hF hS rfl tyX6 tyX6_ok (by decide +kernel) wm_350 wm_351 wm_35 (Nat.le_of_ble_eq_true rfl) (Nat.le_of_ble_eq_true rfl) dX8_step_57 (fun q20 H nq20 zq20 zzq20 hF hS => ?_)
          refine lv_dup hx hb dX8_step_60 rfl ?_
          refine lv_iload_n hx hb dX8_step_61 rfl (lv_at hl 3 rfl) ?_
          refine lv_iload_n hx hb dX8_step_62 rfl (lv_at hl 4 rfl) ?_
          refine lv_iload hx hb dX8_step_63 (lv_at hl 5 rfl) ?_
          refine lv_iload hx hb dX8_step_65 (lv_at hl 6 rfl) ?_
          refine lv_iload hx hb dX8_step_67 (lv_at hl 7 rfl) ?_
          refine fw_callI (As := [.int k, .int a, .int b, .int d, .int sd]) (rest := [.ref q20, .ref (ad (38 + (ix j)))]) X bs_all nw_all mf_X6_init (c_X6_init l D cs _ _ q20 k a b d sd (va_up_self _ _ _)) wm_352 wm_353 rfl hF hS rfl ((⟨⟨Nat.le_of_ble_eq_true rfl, Nat.le_of_ble_eq_true rfl⟩, Nat.le_of_ble_eq_true rfl, Nat.le_of_ble_eq_true rfl⟩)) rfl hl.1 rfl (Nat.le_of_ble_eq_true rfl) dX8_step_69 (fun v u21 H locs hp hF hS hz1 hk1 hd1 => ?_)
          obtain ⟨rfl, hw1⟩ := hp
          rw [hw1] at hF
          refine W.eq (g2 := F0 m 72 ls [.ref q20, .ref (ad (38 + (ix j)))]) rfl ?_
          refine fw_callV (As := [.ref q20]) (rest := []) X bs_all nw_all mf_X2_append (c_X2_append l D cs _ _ (ad (38 + (ix j))) (ad (42 + (ix j))) ((tJo T (ix j)).1) (jf (ix j)) ((va_up_ne _ _ (gx_ne (hW.2.2.2.2.2.2.2.2.2.2.2.2.2.2.2.2.2.1 (ix j) hA9) nq20)).trans ((va_up_ne _ _ (gx_ne (hW.2.2.2.2.2.2.2.2.2.2.2.2.2.2.2.2.2.1 (ix j) hA9) nq20)).trans (hW.2.2.2.2.2.2.2.2.2.2.2.2.2.2.2.2.2.1 (ix j) hA9))) ((va_up_ne _ _ (gx_ne (hW.2.2.2.2.2.2.2.2.2.2.2.2.2.2.2.2.2.2.1 (ix j) hA9) nq20)).trans ((va_up_ne _ _ (gx_ne (hW.2.2.2.2.2.2.2.2.2.2.2.2.2.2.2.2.2.2.1 (ix j) hA9) nq20)).trans (hW.2.2.2.2.2.2.2.2.2.2.2.2.2.2.2.2.2.2.1 (ix j) hA9))) q20 k a b d sd (va_up_self _ _ _) (hI.2.2.2.2.1 _ hA9).1) wm_377 wm_378 wm_379 hF hS rfl ((va_up_ne _ _ (gx_ne (hW.2.2.2.2.2.2.2.2.2.2.2.2.2.2.2.2.2.1 (ix j) hA9) nq20)).trans ((va_up_ne _ _ (gx_ne (hW.2.2.2.2.2.2.2.2.2.2.2.2.2.2.2.2.2.1 (ix j) hA9) nq20)).trans (hW.2.2.2.2.2.2.2.2.2.2.2.2.2.2.2.2.2.1 (ix j) hA9))) rfl rfl ((⟨⟨Nat.le_of_ble_eq_true rfl, Nat.le_of_ble_eq_true rfl⟩, Nat.le_of_ble_eq_true rfl, Nat.le_of_ble_eq_true rfl⟩)) rfl hl.1 rfl (Nat.le_of_ble_eq_true rfl) dX8_step_72 (fun v u22 H locs hp hF hS hz1 hk1 hd1 => ?_)
          rcases hp with ⟨k1, rfl, hw1⟩ | ⟨k1, rfl, hw1⟩
          · rw [hw1] at hF
            refine W.eq (g2 := F0 m 75 ls [.int (-3)]) rfl ?_
            refine fw_iret X hF hS ?_ (Nat.le_of_ble_eq_true rfl) (Nat.le_of_ble_eq_true rfl) dX8_step_75
            have g9 : wi j 4 = true ∧ (sd = -1 ∨ wi sd 16 = true) ∧ okS k a b d = true := by simp_all
            have hW2 := hW.nw nq20 (.inr (6, [.int k, .int a, .int b, .int d, .int sd]))
            rw [← bx_uu] at hW2
            have e9 : spStep j k a b d sd T = (-3, T) := by unfold spStep; rw [if_pos g9, if_pos k1]
            exact ⟨jf, by rw [e9], by rw [e9]; exact hW2⟩
          · rw [hw1] at hF
            refine W.eq (g2 := F0 m 75 ls [.int ((tJo T (ix j)).1)]) rfl ?_
            refine fw_iret X hF hS ?_ (Nat.le_of_ble_eq_true rfl) (Nat.le_of_ble_eq_true rfl) dX8_step_75
            have g9 : wi j 4 = true ∧ (sd = -1 ∨ wi sd 16 = true) ∧ okS k a b d = true := by simp_all
            have hW2 := hW.nw nq20 (.inr (6, [.int k, .int a, .int b, .int d, .int sd]))
            rw [← bx_uu] at hW2
            have e9 : spStep j k a b d sd T = ((tJo T (ix j)).1, setJo T (ix j) ((tJo T (ix j)).1 + 1, va_up (tJo T (ix j)).2 (ix (tJo T (ix j)).1) (k, a, b, d, sd))) := by unfold spStep; rw [if_pos g9, if_neg (i_nle.mpr k1)]
            exact ⟨_, by rw [e9], by rw [e9]; exact hW2.joP hA9 (hI.2.2.2.2.1 _ hA9).1 k1 (va_up_self _ _ _)⟩
        · refine lv_bipush (v := (-2)) hx hb dX8_step_48 (by decide) ?_
          refine fw_iret X hF hS ?_ (Nat.le_of_ble_eq_true rfl) (Nat.le_of_ble_eq_true rfl) dX8_step_50
          have e9 : spStep j k a b d sd T = (-2, T) := if_neg (fun z => by simp_all)
          exact ⟨jf, by rw [e9], by rw [e9]; exact hW⟩
end
section
theorem spGo_eq {q : Nat} {x : aSp} {n : Int32} {T : Sg} {r : (Int32 × Int32) × Sg} (h : spAt q x.1 x.2.1 x.2.2.1 x.2.2.2.1 T = r) : spGo q x n T = if r.1.1 = 0 then (true, setRe r.2 ((tRe r.2).1 + 1, (tRe r.2).2.1, (tRe r.2).2.2.1, (tRe r.2).2.2.2.1, (tRe r.2).2.2.2.2.1, (tRe r.2).2.2.2.2.2 + r.1.2.toInt64)) else (false, setRe r.2 ((tRe r.2).1, (tRe r.2).2.1 + 1, r.1.1, n, (tRe r.2).2.2.2.2.1, (tRe r.2).2.2.2.2.2)) := by subst h; rfl
theorem ix_lt {i n : Int32} (h : wi i n = true) : ix i < ix n := by
  have h1 := ix_int (wi_1 h)
  have h2 := Int32.lt_iff_toInt_lt.mp (wi_2 h)
  have h3 := Int32.le_iff_toInt_le.mp (wi_1 h)
  have h4 : (0 : Int32).toInt = 0 := rfl
  have h5 : (ix n : Int) = n.toInt := by show (n.toInt.toNat : Int) = n.toInt; omega
  omega
set_option maxHeartbeats 4000000 in
set_option maxRecDepth 100000 in
theorem c_X8_isDone (l : Launch) (D : va_G) (cs : Nat → ClassId) (w : fW) (sz : Nat) (ad : Nat → Nat) (T : Sg) (jf : Nat → Nat → Option Nat) (hW : SW cs ad T jf w) (hI : Inv T) (j : Nat) (hj : j < 4) (n : Int32) (hwn : wi n (tJo T j).1 = true) : gM l bs_B nw_B D cls10 (tyl cs) yX8_isDone cX8_isDone 7 (some .boolean) 5 117 1 3 w sz [.ref (ad 0), .ref (ad (38 + j)), .int n] (fun v w' => ∃ q, w q = none ∧ v = some (.int (bz (spGo q ((tJo T j).2 (ix n)) n T).1)) ∧ SW cs ad (spGo q ((tJo T j).2 (ix n)) n T).2 jf w') := by
  refine gM.of (by decide +kernel) (Nat.le_of_ble_eq_true rfl) (fun p e s m below meth c A ls X hsz hnm hF hS hl => ?_)
  have hx := X.1
  have hb := X.2.1
  have hl : lv_has ls 7 [(0, .ref (ad 0)), (1, .ref (ad (38 + j))), (2, .int n)] := hl
  have hlt : ix n < ix (tJo T j).1 := ix_lt hwn
  obtain ⟨q5, hq5, hc5⟩ := hW.2.2.2.2.2.2.2.2.2.2.2.2.2.2.2.2.2.2.2.2 j (ix n) hj hlt
  have hok := ((hI.2.2.2.2.1 j hj).2.2 (ix n) hlt).1
  refine lv_aload_n hx hb dX8_isDone_0 rfl (lv_at hl 1 rfl) ?_
  refine lv_iload_n hx hb dX8_isDone_1 rfl (lv_at hl 2 rfl) ?_
  refine fw_callV (As := [.int n]) (rest := []) X bs_all nw_all mf_X2_stepAt (c_X2_stepAt l D cs _ _ (ad (38 + j)) (ad (42 + j)) ((tJo T j).1) (jf j) (hW.2.2.2.2.2.2.2.2.2.2.2.2.2.2.2.2.2.1 j hj) (hW.2.2.2.2.2.2.2.2.2.2.2.2.2.2.2.2.2.2.1 j hj) n (hI.2.2.2.2.1 j hj).2.1) wm_401 wm_402 wm_403 hF hS rfl (hW.2.2.2.2.2.2.2.2.2.2.2.2.2.2.2.2.2.1 j hj) rfl rfl ((⟨⟨Nat.le_of_ble_eq_true rfl, Nat.le_of_ble_eq_true rfl⟩, Nat.le_of_ble_eq_true rfl, Nat.le_of_ble_eq_true rfl⟩)) rfl hl.1 rfl (Nat.le_of_ble_eq_true rfl) dX8_isDone_2 (fun v u1 H locs hp hF hS hz1 hk1 hd1 => ?_)
  obtain ⟨rfl, hw1⟩ := hp
  rw [hw1] at hF
  refine W.eq (g2 := F0 m 5 ls [va_rf (if wi n ((tJo T j).1) = true then (jf j) (ix n) else none)]) rfl ?_
  refine gx_astore_nq (i := 3) (lv' := [(3, va_rf (if wi n ((tJo T j).1) = true then (jf j) (ix n) else none)), (0, .ref (ad 0)), (1, .ref (ad (38 + j))), (2, .int n)]) hx hb dX8_isDone_5 rfl hl (by decide) (by simp [gx_cat, Value.category]) (fun ls hl => ?_)
  refine gx_aload_nq hx hb dX8_isDone_6 rfl (lv_at hl 0 rfl) ?_
  refine gx_ifnonnull (tgt := 12) hx hb dX8_isDone_7 (by decide) (fun hq2 => ?_) (fun q2 hq2 => ?_)
  · have hl : lv_has ls 7 [(3, .null), (0, .ref (ad 0)), (1, .ref (ad (38 + j))), (2, .int n)] := by rw [hq2] at hl; exact hl
    exfalso
    rw [if_pos hwn, hq5] at hq2
    cases hq2
  · have hl : lv_has ls 7 [(3, .ref q2), (0, .ref (ad 0)), (1, .ref (ad (38 + j))), (2, .int n)] := by rw [hq2] at hl; exact hl
    rw [if_pos hwn, hq5] at hq2
    have e5 := Option.some.inj hq2
    subst e5
    refine lv_aload_n hx hb dX8_isDone_12 rfl (lv_at hl 1 rfl) ?_
    refine lv_aload_n hx hb dX8_isDone_13 rfl (lv_at hl 0 rfl) ?_
    refine fw_get X gC_ok hF hc5 rfl 0 (by decide) wm_357 rfl dX8_isDone_14 ?_
    refine lv_aload_n hx hb dX8_isDone_17 rfl (lv_at hl 0 rfl) ?_
    refine fw_get X gC_ok hF hc5 rfl 1 (by decide) wm_359 rfl dX8_isDone_18 ?_
    refine lv_aload_n hx hb dX8_isDone_21 rfl (lv_at hl 0 rfl) ?_
    refine fw_get X gC_ok hF hc5 rfl 2 (by decide) wm_361 rfl dX8_isDone_22 ?_
    refine lv_aload_n hx hb dX8_isDone_25 rfl (lv_at hl 0 rfl) ?_
    refine fw_get X gC_ok hF hc5 rfl 3 (by decide) wm_363 rfl dX8_isDone_26 ?_
    refine fw_callV (As := [.int (((tJo T j).2 (ix n)).1), .int (((tJo T j).2 (ix n)).2.1), .int (((tJo T j).2 (ix n)).2.2.1), .int (((tJo T j).2 (ix n)).2.2.2.1)]) (rest := []) X bs_all nw_all mf_X8_attempt (c_X8_attempt l D cs _ _ ad T jf hW hI (((tJo T j).2 (ix n)).1) (((tJo T j).2 (ix n)).2.1) (((tJo T j).2 (ix n)).2.2.1) (((tJo T j).2 (ix n)).2.2.2.1) hok) wm_211 wm_213 wm_0 hF hS rfl (hW.2.1) rfl rfl ((⟨⟨Nat.le_of_ble_eq_true rfl, Nat.le_of_ble_eq_true rfl⟩, Nat.le_of_ble_eq_true rfl, Nat.le_of_ble_eq_true rfl⟩)) rfl hl.1 rfl (Nat.le_of_ble_eq_true rfl) dX8_isDone_29 (fun v u3 H locs hp hF hS hz1 hk1 hd1 => ?_)
    obtain ⟨q9, hq9, rfl, hW1⟩ := hp
    have hR8 : wi (spAt q9 (((tJo T j).2 (ix n)).1) (((tJo T j).2 (ix n)).2.1) (((tJo T j).2 (ix n)).2.2.1) (((tJo T j).2 (ix n)).2.2.2.1) T).1.1 8 = true := spDo_r hI (wi_lt (ok_a hok) (N := 4) (by decide))
    have hR := rsn_oc hR8
    generalize hr9 : spAt q9 (((tJo T j).2 (ix n)).1) (((tJo T j).2 (ix n)).2.1) (((tJo T j).2 (ix n)).2.2.1) (((tJo T j).2 (ix n)).2.2.2.1) T = r9 at hW1 hR8 hR ⊢
    have g9 := spGo_eq (n := n) (x := ((tJo T j).2 (ix n))) hr9
    refine W.eq (g2 := F0 m 32 ls [.long (oc r9.1)]) rfl ?_
    refine lv_lstore (lv' := [(4, .long (oc r9.1)), (3, .ref q5), (0, .ref (ad 0)), (1, .ref (ad (38 + j))), (2, .int n)]) hx hb dX8_isDone_32 hl (by decide) rfl (fun ls hl => ?_)
    refine lv_lload hx hb dX8_isDone_34 (lv_at hl 0 rfl) ?_
    refine fw_callS (As := [.long (oc r9.1)]) (rest := []) X bs_all nw_all mf_X8_reasonOf (c_X8_reasonOf l D cs _ _ (oc r9.1)) wm_342 wm_343 hF hS rfl ((⟨⟨Nat.le_of_ble_eq_true rfl, Nat.le_of_ble_eq_true rfl⟩, Nat.le_of_ble_eq_true rfl, Nat.le_of_ble_eq_true rfl⟩)) rfl hl.1 rfl (Nat.le_of_ble_eq_true rfl) dX8_isDone_36 (fun v u4 H locs hp hF hS hz1 hk1 hd1 => ?_)
    obtain ⟨rfl, hw1⟩ := hp
    rw [hw1] at hF
    refine W.eq (g2 := F0 m 39 ls [.int (rsn (oc r9.1))]) rfl ?_
    refine lv_istore (lv' := [(6, .int (rsn (oc r9.1))), (4, .long (oc r9.1)), (3, .ref q5), (0, .ref (ad 0)), (1, .ref (ad (38 + j))), (2, .int n)]) hx hb dX8_isDone_39 hl (by decide) rfl (fun ls hl => ?_)
    refine lv_iload hx hb dX8_isDone_41 (lv_at hl 0 rfl) ?_
    refine lv_if_eq (tgt := 58) hx hb dX8_isDone_43 (by decide) (fun c43_5 => ?_) (fun c43_5 => ?_)
    · refine lv_aload_n hx hb dX8_isDone_58 rfl (lv_at hl 3 rfl) ?_
      refine fw_get X gC_ok hF (hW1.2.1) rfl 7 (by decide) wm_183 rfl dX8_isDone_59 ?_
      refine lv_lload hx hb dX8_isDone_62 (lv_at hl 1 rfl) ?_
      refine fw_callV (As := [.long (oc r9.1)]) (rest := []) X bs_all nw_all mf_X4_addAnswer (c_X4_addAnswer l D cs _ _ (ad 8) ((tRe r9.2).1) ((tRe r9.2).2.1) ((tRe r9.2).2.2.1) ((tRe r9.2).2.2.2.1) ((tRe r9.2).2.2.2.2.1) ((tRe r9.2).2.2.2.2.2) (hW1.2.2.2.2.2.2.2.2.2.1) (oc r9.1)) wm_410 wm_411 wm_412 hF hS rfl (hW1.2.2.2.2.2.2.2.2.2.1) rfl rfl ((⟨⟨Nat.le_of_ble_eq_true rfl, Nat.le_of_ble_eq_true rfl⟩, Nat.le_of_ble_eq_true rfl, Nat.le_of_ble_eq_true rfl⟩)) rfl hl.1 rfl (Nat.le_of_ble_eq_true rfl) dX8_isDone_64 (fun v u6 H locs hp hF hS hz1 hk1 hd1 => ?_)
      obtain ⟨rfl, hw1⟩ := hp
      rw [hw1] at hF
      refine W.eq (g2 := F0 m 67 ls []) rfl ?_
      refine lv_iconst (v := 1) hx hb dX8_isDone_67 (by decide) ?_
      refine fw_zret X hF hS rfl ?_ (Nat.le_of_ble_eq_true rfl) (Nat.le_of_ble_eq_true rfl) dX8_isDone_68
      rw [hR] at c43_5
      rw [if_pos c43_5] at g9
      rw [show oc r9.1 = r9.1.2.toInt64 from if_pos c43_5]
      exact ⟨q9, hq9, by rw [g9]; rfl, by rw [g9]; exact hW1.re _⟩
    · refine lv_aload_n hx hb dX8_isDone_46 rfl (lv_at hl 3 rfl) ?_
      refine fw_get X gC_ok hF (hW1.2.1) rfl 7 (by decide) wm_183 rfl dX8_isDone_47 ?_
      refine lv_iload hx hb dX8_isDone_50 (lv_at hl 0 rfl) ?_
      refine lv_iload_n hx hb dX8_isDone_52 rfl (lv_at hl 5 rfl) ?_
      refine fw_callV (As := [.int (rsn (oc r9.1)), .int n]) (rest := []) X bs_all nw_all mf_X4_addFailure (c_X4_addFailure l D cs _ _ (ad 8) ((tRe r9.2).1) ((tRe r9.2).2.1) ((tRe r9.2).2.2.1) ((tRe r9.2).2.2.2.1) ((tRe r9.2).2.2.2.2.1) ((tRe r9.2).2.2.2.2.2) (hW1.2.2.2.2.2.2.2.2.2.1) (rsn (oc r9.1)) n) wm_406 wm_407 wm_408 hF hS rfl (hW1.2.2.2.2.2.2.2.2.2.1) rfl rfl ((⟨⟨Nat.le_of_ble_eq_true rfl, Nat.le_of_ble_eq_true rfl⟩, Nat.le_of_ble_eq_true rfl, Nat.le_of_ble_eq_true rfl⟩)) rfl hl.1 rfl (Nat.le_of_ble_eq_true rfl) dX8_isDone_53 (fun v u7 H locs hp hF hS hz1 hk1 hd1 => ?_)
      obtain ⟨rfl, hw1⟩ := hp
      rw [hw1] at hF
      refine W.eq (g2 := F0 m 56 ls []) rfl ?_
      refine lv_iconst (v := 0) hx hb dX8_isDone_56 (by decide) ?_
      refine fw_zret X hF hS rfl ?_ (Nat.le_of_ble_eq_true rfl) (Nat.le_of_ble_eq_true rfl) dX8_isDone_57
      rw [hR] at c43_5
      rw [hR]
      rw [if_neg c43_5] at g9
      exact ⟨q9, hq9, by rw [g9]; rfl, by rw [g9]; exact hW1.re _⟩
set_option maxHeartbeats 4000000 in
set_option maxRecDepth 100000 in
theorem c_X8_isDoneInStead (l : Launch) (D : va_G) (cs : Nat → ClassId) (w : fW) (sz : Nat) (ad : Nat → Nat) (T : Sg) (jf : Nat → Nat → Option Nat) (hW : SW cs ad T jf w) (hI : Inv T) (j : Nat) (hj : j < 4) (n : Int32) (hwn : wi n (tJo T j).1 = true) : gM l bs_B nw_B D cls10 (tyl cs) yX8_isDoneInStead cX8_isDoneInStead 4 (some .boolean) 6 143 1 3 w sz [.ref (ad 0), .ref (ad (38 + j)), .int n] (fun v w' => ∃ q, w q = none ∧ v = some (.int (bz (spIn q j ((tJo T j).2 (ix n)) T).1)) ∧ SW cs ad (spIn q j ((tJo T j).2 (ix n)) T).2 jf w') := by
  refine gM.of (by decide +kernel) (Nat.le_of_ble_eq_true rfl) (fun p e s m below meth c A ls X hsz hnm hF hS hl => ?_)
  have hx := X.1
  have hb := X.2.1
  have hl : lv_has ls 4 [(0, .ref (ad 0)), (1, .ref (ad (38 + j))), (2, .int n)] := hl
  have hlt : ix n < ix (tJo T j).1 := ix_lt hwn
  obtain ⟨q5, hq5, hc5⟩ := hW.2.2.2.2.2.2.2.2.2.2.2.2.2.2.2.2.2.2.2.2 j (ix n) hj hlt
  have hfr : w sz = none := hF.fresh (by omega)
  refine lv_aload_n hx hb dX8_isDoneInStead_0 rfl (lv_at hl 1 rfl) ?_
  refine lv_iload_n hx hb dX8_isDoneInStead_1 rfl (lv_at hl 2 rfl) ?_
  refine fw_callV (As := [.int n]) (rest := []) X bs_all nw_all mf_X2_stepAt (c_X2_stepAt l D cs _ _ (ad (38 + j)) (ad (42 + j)) ((tJo T j).1) (jf j) (hW.2.2.2.2.2.2.2.2.2.2.2.2.2.2.2.2.2.1 j hj) (hW.2.2.2.2.2.2.2.2.2.2.2.2.2.2.2.2.2.2.1 j hj) n (hI.2.2.2.2.1 j hj).2.1) wm_401 wm_402 wm_403 hF hS rfl (hW.2.2.2.2.2.2.2.2.2.2.2.2.2.2.2.2.2.1 j hj) rfl rfl ((⟨⟨Nat.le_of_ble_eq_true rfl, Nat.le_of_ble_eq_true rfl⟩, Nat.le_of_ble_eq_true rfl, Nat.le_of_ble_eq_true rfl⟩)) rfl hl.1 rfl (Nat.le_of_ble_eq_true rfl) dX8_isDoneInStead_2 (fun v u1 H locs hp hF hS hz1 hk1 hd1 => ?_)
  obtain ⟨rfl, hw1⟩ := hp
  rw [hw1] at hF
  refine W.eq (g2 := F0 m 5 ls [va_rf (if wi n ((tJo T j).1) = true then (jf j) (ix n) else none)]) rfl ?_
  refine gx_astore_nq (i := 3) (lv' := [(3, va_rf (if wi n ((tJo T j).1) = true then (jf j) (ix n) else none)), (0, .ref (ad 0)), (1, .ref (ad (38 + j))), (2, .int n)]) hx hb dX8_isDoneInStead_5 rfl hl (by decide) (by simp [gx_cat, Value.category]) (fun ls hl => ?_)
  refine gx_aload_nq hx hb dX8_isDoneInStead_6 rfl (lv_at hl 0 rfl) ?_
  refine gx_ifnull (tgt := 21) hx hb dX8_isDoneInStead_7 (by decide) (fun hq2 => ?_) (fun q2 hq2 => ?_)
  · have hl : lv_has ls 4 [(3, .null), (0, .ref (ad 0)), (1, .ref (ad (38 + j))), (2, .int n)] := by rw [hq2] at hl; exact hl
    exfalso
    rw [if_pos hwn, hq5] at hq2
    cases hq2
  · have hl : lv_has ls 4 [(3, .ref q2), (0, .ref (ad 0)), (1, .ref (ad (38 + j))), (2, .int n)] := by rw [hq2] at hl; exact hl
    rw [if_pos hwn, hq5] at hq2
    have e5 := Option.some.inj hq2
    subst e5
    refine lv_aload_n hx hb dX8_isDoneInStead_10 rfl (lv_at hl 2 rfl) ?_
    refine lv_aload_n hx hb dX8_isDoneInStead_11 rfl (lv_at hl 0 rfl) ?_
    refine fw_get X gC_ok hF hc5 rfl 4 (by decide) wm_365 rfl dX8_isDoneInStead_12 ?_
    refine fw_callV (As := [.int (((tJo T j).2 (ix n)).2.2.2.2)]) (rest := []) X bs_all nw_all mf_X2_stepAt (c_X2_stepAt l D cs _ _ (ad (38 + j)) (ad (42 + j)) ((tJo T j).1) (jf j) (hW.2.2.2.2.2.2.2.2.2.2.2.2.2.2.2.2.2.1 j hj) (hW.2.2.2.2.2.2.2.2.2.2.2.2.2.2.2.2.2.2.1 j hj) (((tJo T j).2 (ix n)).2.2.2.2) (hI.2.2.2.2.1 j hj).2.1) wm_401 wm_402 wm_403 hF hS rfl (hW.2.2.2.2.2.2.2.2.2.2.2.2.2.2.2.2.2.1 j hj) rfl rfl ((⟨⟨Nat.le_of_ble_eq_true rfl, Nat.le_of_ble_eq_true rfl⟩, Nat.le_of_ble_eq_true rfl, Nat.le_of_ble_eq_true rfl⟩)) rfl hl.1 rfl (Nat.le_of_ble_eq_true rfl) dX8_isDoneInStead_15 (fun v u3 H locs hp hF hS hz1 hk1 hd1 => ?_)
    obtain ⟨rfl, hw1⟩ := hp
    rw [hw1] at hF
    refine W.eq (g2 := F0 m 18 ls [va_rf (if wi (((tJo T j).2 (ix n)).2.2.2.2) ((tJo T j).1) = true then (jf j) (ix (((tJo T j).2 (ix n)).2.2.2.2)) else none)]) rfl ?_
    refine gx_ifnonnull (tgt := 23) hx hb dX8_isDoneInStead_18 (by decide) (fun hq4 => ?_) (fun q4 hq4 => ?_)
    · have z9 : wi ((tJo T j).2 (ix n)).2.2.2.2 (tJo T j).1 = false := by
        cases zz : wi ((tJo T j).2 (ix n)).2.2.2.2 (tJo T j).1 with
        | false => rfl
        | true =>
          exfalso
          obtain ⟨q6, hq6, -⟩ := hW.2.2.2.2.2.2.2.2.2.2.2.2.2.2.2.2.2.2.2.2 j (ix ((tJo T j).2 (ix n)).2.2.2.2) hj (ix_lt zz)
          rw [if_pos zz, hq6] at hq4
          cases hq4
      refine lv_iconst (v := 0) hx hb dX8_isDoneInStead_21 (by decide) ?_
      refine fw_zret X hF hS rfl ?_ (Nat.le_of_ble_eq_true rfl) (Nat.le_of_ble_eq_true rfl) dX8_isDoneInStead_22
      have e9 : spIn sz j ((tJo T j).2 (ix n)) T = (false, T) := by unfold spIn; rw [z9]; rfl
      exact ⟨sz, hfr, by rw [e9]; rfl, by rw [e9]; exact hW⟩
    · have z9 : wi ((tJo T j).2 (ix n)).2.2.2.2 (tJo T j).1 = true := by
        cases zz : wi ((tJo T j).2 (ix n)).2.2.2.2 (tJo T j).1 with
        | true => rfl
        | false => rw [zz] at hq4; cases hq4
      refine lv_aload_n hx hb dX8_isDoneInStead_23 rfl (lv_at hl 1 rfl) ?_
      refine fw_get X gC_ok hF (hW.2.1) rfl 7 (by decide) wm_183 rfl dX8_isDoneInStead_24 ?_
      refine lv_dup hx hb dX8_isDoneInStead_27 rfl ?_
      refine fw_get X gC_ok hF (hW.2.2.2.2.2.2.2.2.2.1) rfl 4 (by decide) wm_69 rfl dX8_isDoneInStead_28 ?_
      refine lv_iconst (v := 1) hx hb dX8_isDoneInStead_31 (by decide) ?_
      refine lv_iadd hx hb dX8_isDoneInStead_32 ?_
      refine fw_put X gC_ok hF hS (hW.2.2.2.2.2.2.2.2.2.1) rfl 4 (by decide) wm_69 rfl (tf := .int) (by decide +kernel) rfl rfl (Nat.le_of_ble_eq_true rfl) dX8_isDoneInStead_33 (fun H locs hF hS => ?_)
      have hF : fw_P D cls10 A (va_up w (ad 8) (some (.inr (4, [.int ((tRe T).1), .int ((tRe T).2.1), .int ((tRe T).2.2.1), .int ((tRe T).2.2.2.1), .int (((tRe T).2.2.2.2.1) + 1), .long ((tRe T).2.2.2.2.2)])))) H := hF
      refine lv_aload_n hx hb dX8_isDoneInStead_36 rfl (lv_at hl 1 rfl) ?_
      refine lv_aload_n hx hb dX8_isDoneInStead_37 rfl (lv_at hl 2 rfl) ?_
      refine lv_aload_n hx hb dX8_isDoneInStead_38 rfl (lv_at hl 0 rfl) ?_
      refine fw_get X gC_ok hF ((va_up_ne _ _ (hW.ne6 hc5 (by omega) (by omega))).trans hc5) rfl 4 (by decide) wm_365 rfl dX8_isDoneInStead_39 ?_
      have hW3 : SW cs ad (stI1 T) jf (va_up w (ad 8) (some (.inr (4, [.int ((tRe T).1), .int ((tRe T).2.1), .int ((tRe T).2.2.1), .int ((tRe T).2.2.2.1), .int (((tRe T).2.2.2.2.1) + 1), .long ((tRe T).2.2.2.2.2)])))) := hW.re _
      refine fw_callV (As := [.ref (ad (38 + j)), .int (((tJo T j).2 (ix n)).2.2.2.2)]) (rest := []) X bs_all nw_all mf_X8_isDone (c_X8_isDone l D cs _ _ ad (stI1 T) jf hW3 (show Inv (stI1 T) from hI) j hj (((tJo T j).2 (ix n)).2.2.2.2) z9) wm_397 wm_399 wm_4 hF hS rfl (hW3.2.1) rfl rfl ((⟨⟨Nat.le_of_ble_eq_true rfl, Nat.le_of_ble_eq_true rfl⟩, Nat.le_of_ble_eq_true rfl, Nat.le_of_ble_eq_true rfl⟩)) rfl hl.1 rfl (Nat.le_of_ble_eq_true rfl) dX8_isDoneInStead_42 (fun v u5 H locs hp hF hS hz1 hk1 hd1 => ?_)
      obtain ⟨q9, hq9, rfl, hW1⟩ := hp
      refine W.eq (g2 := F0 m 45 ls [.int (bz (spGo q9 ((tJo (stI1 T) j).2 (ix (((tJo T j).2 (ix n)).2.2.2.2))) (((tJo T j).2 (ix n)).2.2.2.2) (stI1 T)).1)]) rfl ?_
      refine fw_zret X hF hS (gx_nbz _) ?_ (Nat.le_of_ble_eq_true rfl) (Nat.le_of_ble_eq_true rfl) dX8_isDoneInStead_45
      have e9 : spIn q9 j ((tJo T j).2 (ix n)) T = spGo q9 ((tJo T j).2 (ix ((tJo T j).2 (ix n)).2.2.2.2)) ((tJo T j).2 (ix n)).2.2.2.2 (stI1 T) := by unfold spIn; rw [if_pos z9]
      exact ⟨q9, up_none hq9, by rw [e9]; rfl, by rw [e9]; exact hW1⟩
end
section
theorem lenI.of {b : Int32} (h1 : ¬ b < 0) (h2 : b ≤ 12) : lenI b := by
  refine ⟨?_, h2⟩
  have a1 := Int32.le_iff_toInt_le.mp (i_nlt.mp h1)
  have e1 : (0 : Int32).toInt = 0 := rfl
  have e2 : (-1 : Int32).toInt = -1 := rfl
  exact Int32.le_iff_toInt_le.mpr (by omega)
theorem stI.wh {T : Sg} {x : aS} {q : Nat} {y : aWh} (h : stI T x) : stI (setWh T q y) x := by
  have m : ∀ r, (tWh T r).isSome = true → (tWh (setWh T q y) r).isSome = true := by
    intro r hr
    rw [gWh]
    by_cases e : r = q
    · subst e; rw [va_up_self]; rfl
    · rw [va_up_ne _ _ e]; exact hr
  exact ⟨fun r hr => m r (h.1 r hr), fun r hr => m r (h.2.1 r hr), h.2.2.1, h.2.2.2.1, h.2.2.2.2⟩
theorem Inv.wh {T : Sg} (h : Inv T) (q : Nat) (y : aWh) : Inv (setWh T q y) := by
  have m : ∀ r, (tWh T r).isSome = true → (tWh (setWh T q y) r).isSome = true := by
    intro r hr
    rw [gWh]
    by_cases e : r = q
    · subst e; rw [va_up_self]; rfl
    · rw [va_up_ne _ _ e]; exact hr
  exact ⟨fun i hi => (h.1 i hi).wh, h.2.1, fun i hi => ⟨(h.2.2.1 i hi).1, fun j r hj hr => m r ((h.2.2.1 i hi).2 j r hj hr)⟩, h.2.2.2.1, h.2.2.2.2.1, h.2.2.2.2.2⟩
theorem Inv.st {T : Sg} (h : Inv T) {i : Nat} {x : aS} (hx : stI T x) : Inv (setSt T i x) := by
  refine ⟨fun j hj => ?_, h.2.1, h.2.2.1, h.2.2.2.1, h.2.2.2.2.1, h.2.2.2.2.2⟩
  rw [gSt]
  by_cases e : j = i
  · subst e; rw [va_up_self]; exact hx
  · rw [va_up_ne _ _ e]; exact h.1 j hj
theorem Inv.ba {T : Sg} (h : Inv T) {i : Nat} {x : aBa} (hx : lenI x.1) : Inv (setBa T i x) := by
  refine ⟨h.1, fun j hj => ?_, h.2.2.1, h.2.2.2.1, h.2.2.2.2.1, h.2.2.2.2.2⟩
  rw [gBa]
  by_cases e : j = i
  · subst e; rw [va_up_self]; exact hx
  · rw [va_up_ne _ _ e]; exact h.2.1 j hj
theorem Inv.ra {T : Sg} (h : Inv T) {i : Nat} {x : aRa} (hx : lenI x.1) (hp : ∀ j q, j < 12 → x.2.2 j = some q → (tWh T q).isSome = true) : Inv (setRa T i x) := by
  refine ⟨h.1, h.2.1, fun j hj => ?_, h.2.2.2.1, h.2.2.2.2.1, h.2.2.2.2.2⟩
  rw [gRa]
  by_cases e : j = i
  · subst e; rw [va_up_self]; exact ⟨hx, hp⟩
  · rw [va_up_ne _ _ e]; exact h.2.2.1 j hj
theorem Inv.gr {T : Sg} (h : Inv T) {i : Nat} {x : aGr} (hx : lenI x.1) (h0 : 0 ≤ x.2.1) (h1 : x.2.1 ≤ 12) : Inv (setGr T i x) := by
  refine ⟨h.1, h.2.1, h.2.2.1, fun j hj => ?_, h.2.2.2.2.1, h.2.2.2.2.2⟩
  rw [gGr]
  by_cases e : j = i
  · subst e; rw [va_up_self]; exact ⟨hx, h0, h1⟩
  · rw [va_up_ne _ _ e]; exact h.2.2.2.1 j hj
theorem Inv.ex {T : Sg} (h : Inv T) {i : Nat} {x : Int32} (hx : exI x) : Inv (setEx T (upd (tEx T) i x)) := by
  refine ⟨h.1, h.2.1, h.2.2.1, h.2.2.2.1, h.2.2.2.2.1, fun j hj => ?_⟩
  show exI (upd (tEx T) i x j)
  unfold upd
  split
  · exact hx
  · exact h.2.2.2.2.2 j hj
theorem Inv.jo {T : Sg} (h : Inv T) {i : Nat} {x : aJo} (h0 : 0 ≤ x.1) (h1 : x.1 ≤ 16) (hp : ∀ k, k < ix x.1 → spI (x.2 k)) : Inv (setJo T i x) := by
  refine ⟨h.1, h.2.1, h.2.2.1, h.2.2.2.1, fun j hj => ?_, h.2.2.2.2.2⟩
  rw [gJo]
  by_cases e : j = i
  · subst e; rw [va_up_self]; exact ⟨h0, h1, hp⟩
  · rw [va_up_ne _ _ e]; exact h.2.2.2.2.1 j hj
theorem stI.sd {T : Sg} {x : aS} (h : stI T x) (hb : ¬ x.1 = false) {b : Int32} {o : Option Nat} (ho : ∀ q, o = some q → (tWh T q).isSome = true) : stI T (sdset b x o) := by
  unfold sdset
  split
  · exact ⟨ho, h.2.1, fun z => absurd z hb, h.2.2.2.1, h.2.2.2.2⟩
  · exact ⟨h.1, ho, fun z => absurd z hb, h.2.2.2.1, h.2.2.2.2⟩
theorem lmp_c (b : Int32) : lmp b = 0 ∨ lmp b = 1 ∨ lmp b = 2 := by unfold lmp; split; exact Or.inl rfl; split; exact Or.inr (Or.inl rfl); exact Or.inr (Or.inr rfl)
theorem stI.li {T : Sg} {x : aS} (h : stI T x) (b k : Int32) : stI T (spLight x b k).2 := by
  unfold spLight
  by_cases hb : x.1 = false
  · rw [if_pos hb]; exact h
  · rw [if_neg hb]
    exact ⟨h.1, h.2.1, fun z => absurd z hb, lmp_c b, fun z => if_neg z⟩
theorem stI.sh {T : Sg} {x : aS} (h : stI T x) (b : Int32) : stI T (spShine x b).2 := by
  unfold spShine
  by_cases h0 : x.2.2.2.2.1 = 0
  · rw [if_pos h0]; exact h
  rw [if_neg h0]
  by_cases h1 : x.2.2.2.2.1 = 1
  · rw [if_pos h1]; exact h
  rw [if_neg h1]
  by_cases h2 : 0 < x.2.2.2.2.2
  · rw [if_pos h2]
    refine ⟨h.1, h.2.1, fun z => ?_, h.2.2.2.1, fun z => ?_⟩
    · have := h.2.2.1 z
      rw [this] at h0
      exact absurd rfl h0
    · rcases h.2.2.2.1 with y | y | y
      · exact absurd y h0
      · exact absurd y h1
      · exact absurd y z
  · rw [if_neg h2]; exact h
theorem exI.of (b : Int32) : exI (excI b) := by unfold excI; split; exact Or.inl rfl; split; exact Or.inr (Or.inl rfl); exact Or.inr (Or.inr rfl)
theorem spDo_c {P : (Int32 × Int32) × Sg → Prop} (q : Nat) (k a b d : Int32) (T : Sg) (c0 : k = 0 → P (((0, b), setSt T (ix a) (true, b, none, none, 0, 0)))) (c1 : k = 1 → P (((0, 1), setSt T (ix a) (false, 0, none, none, 0, 0)))) (c2 : k = 2 → P (spFit q a b d T)) (c3 : k = 3 → P (spTrue b (tSt T (ix a)) T)) (c4 : k = 4 → P (spCount b (tSt T (ix a)) T)) (c5 : k = 5 → P (((spLight (tSt T (ix a)) b d).1, setSt T (ix a) (spLight (tSt T (ix a)) b d).2))) (c6 : k = 6 → P (((spShine (tSt T (ix a)) b).1, setSt T (ix a) (spShine (tSt T (ix a)) b).2))) (c7 : k = 7 → P ((if b < 0 then ((2, 0), T) else ((0, b), setBa T (ix a) (b, fun _ => 0))))) (c8 : k = 8 → P ((if b < 0 then ((2, 0), T) else ((0, b), setRa T (ix a) (b, !decide (d &&& 1 = 0), fun _ => none))))) (c9 : k = 9 → P ((if b < 0 ∨ d < 0 then ((2, 0), T) else ((0, b), setGr T (ix a) (b, d, fun _ => 0))))) (c10 : k = 10 → P ((spLong a b d T, T))) (c11 : k = 11 → P (spPut a b d T)) (c12 : k = 12 → P (spAdd a b d T)) (c13 : k = 13 → P (spHang a b d T)) (c14 : k = 14 → P (spBal a b T)) (c15 : k = 15 → P (((0, b), setEx T (upd (tEx T) (ix a) (excI b))))) (c16 : ¬ k = 0 → ¬ k = 1 → ¬ k = 2 → ¬ k = 3 → ¬ k = 4 → ¬ k = 5 → ¬ k = 6 → ¬ k = 7 → ¬ k = 8 → ¬ k = 9 → ¬ k = 10 → ¬ k = 11 → ¬ k = 12 → ¬ k = 13 → ¬ k = 14 → ¬ k = 15 → P ((if b = 0 then (0, 0) else (tEx T (ix a), 0), T))) : P (spDo q k a b d T) := by
  unfold spDo
  by_cases h0 : k = 0
  · rw [if_pos h0]; exact c0 h0
  rw [if_neg h0]
  by_cases h1 : k = 1
  · rw [if_pos h1]; exact c1 h1
  rw [if_neg h1]
  by_cases h2 : k = 2
  · rw [if_pos h2]; exact c2 h2
  rw [if_neg h2]
  by_cases h3 : k = 3
  · rw [if_pos h3]; exact c3 h3
  rw [if_neg h3]
  by_cases h4 : k = 4
  · rw [if_pos h4]; exact c4 h4
  rw [if_neg h4]
  by_cases h5 : k = 5
  · rw [if_pos h5]; exact c5 h5
  rw [if_neg h5]
  by_cases h6 : k = 6
  · rw [if_pos h6]; exact c6 h6
  rw [if_neg h6]
  by_cases h7 : k = 7
  · rw [if_pos h7]; exact c7 h7
  rw [if_neg h7]
  by_cases h8 : k = 8
  · rw [if_pos h8]; exact c8 h8
  rw [if_neg h8]
  by_cases h9 : k = 9
  · rw [if_pos h9]; exact c9 h9
  rw [if_neg h9]
  by_cases h10 : k = 10
  · rw [if_pos h10]; exact c10 h10
  rw [if_neg h10]
  by_cases h11 : k = 11
  · rw [if_pos h11]; exact c11 h11
  rw [if_neg h11]
  by_cases h12 : k = 12
  · rw [if_pos h12]; exact c12 h12
  rw [if_neg h12]
  by_cases h13 : k = 13
  · rw [if_pos h13]; exact c13 h13
  rw [if_neg h13]
  by_cases h14 : k = 14
  · rw [if_pos h14]; exact c14 h14
  rw [if_neg h14]
  by_cases h15 : k = 15
  · rw [if_pos h15]; exact c15 h15
  rw [if_neg h15]
  exact c16 h0 h1 h2 h3 h4 h5 h6 h7 h8 h9 h10 h11 h12 h13 h14 h15
theorem do_jo (q : Nat) (k a b d : Int32) (T : Sg) : tJo (spDo q k a b d T).2 = tJo T := by
  refine spDo_c (P := fun r => tJo r.2 = tJo T) q k a b d T ?_ ?_ ?_ ?_ ?_ ?_ ?_ ?_ ?_ ?_ ?_ ?_ ?_ ?_ ?_ ?_ ?_
  · intro h0
    rfl
  · intro h1
    rfl
  · intro h2
    unfold spFit
    split
    · rfl
    · split <;> rfl
  · intro h3
    unfold spTrue
    split <;> rfl
  · intro h4
    unfold spCount
    split <;> rfl
  · intro h5
    rfl
  · intro h6
    rfl
  · intro h7
    split <;> rfl
  · intro h8
    split <;> rfl
  · intro h9
    split <;> rfl
  · intro h10
    rfl
  · intro h11
    unfold spPut
    split
    · rfl
    · split <;> rfl
  · intro h12
    unfold spAdd
    split
    · rfl
    · split <;> rfl
  · intro h13
    unfold spHang
    split
    · rfl
    · split
      · split <;> rfl
      · rfl
  · intro h14
    unfold spBal
    split
    · rfl
    · split
      · split
        · rfl
        · split <;> rfl
      · rfl
  · intro h15
    rfl
  · intro _ _ _ _ _ _ _ _ _ _ _ _ _ _ _ _
    rfl
theorem do_re (q : Nat) (k a b d : Int32) (T : Sg) : tRe (spDo q k a b d T).2 = tRe T := by
  refine spDo_c (P := fun r => tRe r.2 = tRe T) q k a b d T ?_ ?_ ?_ ?_ ?_ ?_ ?_ ?_ ?_ ?_ ?_ ?_ ?_ ?_ ?_ ?_ ?_
  · intro h0
    rfl
  · intro h1
    rfl
  · intro h2
    unfold spFit
    split
    · rfl
    · split <;> rfl
  · intro h3
    unfold spTrue
    split <;> rfl
  · intro h4
    unfold spCount
    split <;> rfl
  · intro h5
    rfl
  · intro h6
    rfl
  · intro h7
    split <;> rfl
  · intro h8
    split <;> rfl
  · intro h9
    split <;> rfl
  · intro h10
    rfl
  · intro h11
    unfold spPut
    split
    · rfl
    · split <;> rfl
  · intro h12
    unfold spAdd
    split
    · rfl
    · split <;> rfl
  · intro h13
    unfold spHang
    split
    · rfl
    · split
      · split <;> rfl
      · rfl
  · intro h14
    unfold spBal
    split
    · rfl
    · split
      · split
        · rfl
        · split <;> rfl
      · rfl
  · intro h15
    rfl
  · intro _ _ _ _ _ _ _ _ _ _ _ _ _ _ _ _
    rfl
theorem do_ta (q : Nat) (k a b d : Int32) (T : Sg) : tTa (spDo q k a b d T).2 = tTa T := by
  refine spDo_c (P := fun r => tTa r.2 = tTa T) q k a b d T ?_ ?_ ?_ ?_ ?_ ?_ ?_ ?_ ?_ ?_ ?_ ?_ ?_ ?_ ?_ ?_ ?_
  · intro h0
    rfl
  · intro h1
    rfl
  · intro h2
    unfold spFit
    split
    · rfl
    · split <;> rfl
  · intro h3
    unfold spTrue
    split <;> rfl
  · intro h4
    unfold spCount
    split <;> rfl
  · intro h5
    rfl
  · intro h6
    rfl
  · intro h7
    split <;> rfl
  · intro h8
    split <;> rfl
  · intro h9
    split <;> rfl
  · intro h10
    rfl
  · intro h11
    unfold spPut
    split
    · rfl
    · split <;> rfl
  · intro h12
    unfold spAdd
    split
    · rfl
    · split <;> rfl
  · intro h13
    unfold spHang
    split
    · rfl
    · split
      · split <;> rfl
      · rfl
  · intro h14
    unfold spBal
    split
    · rfl
    · split
      · split
        · rfl
        · split <;> rfl
      · rfl
  · intro h15
    rfl
  · intro _ _ _ _ _ _ _ _ _ _ _ _ _ _ _ _
    rfl
theorem Inv.dos {q : Nat} {k a b d : Int32} {T : Sg} (hI : Inv T) (hok : okS k a b d = true) : Inv (spDo q k a b d T).2 := by
  have hA : ix a < 4 := wi_lt (ok_a hok) (N := 4) (by decide)
  refine spDo_c (P := fun r => Inv r.2) q k a b d T ?_ ?_ ?_ ?_ ?_ ?_ ?_ ?_ ?_ ?_ ?_ ?_ ?_ ?_ ?_ ?_ ?_
  · intro h0
    exact hI.st ⟨(fun r h => by cases h), (fun r h => by cases h), (fun h => by cases h), Or.inl rfl, fun _ => rfl⟩
  · intro h1
    exact hI.st ⟨(fun r h => by cases h), (fun r h => by cases h), fun _ => rfl, Or.inl rfl, fun _ => rfl⟩
  · intro h2
    unfold spFit
    by_cases z0 : (tSt T (ix a)).1 = false
    · rw [if_pos z0]; exact hI
    rw [if_neg z0]
    by_cases z1 : d = 0
    · rw [if_pos z1]; exact hI.st ((hI.1 _ hA).sd z0 (fun r h => by cases h))
    rw [if_neg z1]
    refine (hI.wh q (whN d)).st (stI.sd ((hI.1 _ hA).wh) z0 (fun r h => ?_))
    cases h
    rw [gWh, va_up_self]
    rfl
  · intro h3
    unfold spTrue
    split
    · exact hI
    · exact hI.wh _ _
  · intro h4
    unfold spCount
    split <;> exact hI
  · intro h5
    exact hI.st ((hI.1 _ hA).li _ _)
  · intro h6
    exact hI.st ((hI.1 _ hA).sh _)
  · intro h7
    subst h7
    by_cases z0 : b < 0
    · rw [if_pos z0]; exact hI
    rw [if_neg z0]
    exact hI.ba (lenI.of z0 (ok_7 hok))
  · intro h8
    subst h8
    by_cases z0 : b < 0
    · rw [if_pos z0]; exact hI
    rw [if_neg z0]
    exact hI.ra (lenI.of z0 (ok_8 hok)) (fun j r _ h => by cases h)
  · intro h9
    subst h9
    by_cases z0 : b < 0 ∨ d < 0
    · rw [if_pos z0]; exact hI
    rw [if_neg z0]
    exact hI.gr (lenI.of (fun z => z0 (Or.inl z)) (ok_9 hok).1) (i_nlt.mp (fun z => z0 (Or.inr z))) (ok_9 hok).2
  · intro h10
    exact hI
  · intro h11
    unfold spPut
    by_cases z0 : (tBa T (ix a)).1 = -1
    · rw [if_pos z0]; exact hI
    rw [if_neg z0]
    by_cases z1 : wi b (tBa T (ix a)).1 = true
    · rw [if_pos z1]; exact hI.ba (hI.2.1 _ hA)
    · rw [if_neg z1]; exact hI
  · intro h12
    unfold spAdd
    by_cases z0 : (tGr T (ix a)).1 = -1
    · rw [if_pos z0]; exact hI
    rw [if_neg z0]
    by_cases z1 : (wi b (tGr T (ix a)).1 && wi d (tGr T (ix a)).2.1) = true
    · rw [if_pos z1]; exact hI.gr (hI.2.2.2.1 _ hA).1 (hI.2.2.2.1 _ hA).2.1 (hI.2.2.2.1 _ hA).2.2
    · rw [if_neg z1]; exact hI
  · intro h13
    subst h13
    unfold spHang
    by_cases z0 : (tRa T (ix a)).1 = -1 ∨ (tSt T (ix d)).1 = false
    · rw [if_pos z0]; exact hI
    rw [if_neg z0]
    by_cases z1 : wi b (tRa T (ix a)).1 = true
    · rw [if_pos z1]
      by_cases z2 : noStore T (tRa T (ix a)) (tSt T (ix d)) = true
      · rw [if_pos z2]; exact hI
      rw [if_neg z2]
      refine hI.ra (hI.2.2.1 _ hA).1 (fun j r hj h => ?_)
      by_cases e : j = ix b
      · subst e
        rw [show (((tRa T (ix a)).1, (tRa T (ix a)).2.1, va_up (tRa T (ix a)).2.2 (ix b) (tSt T (ix d)).2.2.1) : aRa).2.2 (ix b) = (tSt T (ix d)).2.2.1 from va_up_self _ _ _] at h
        exact (hI.1 _ (wi_lt (ok_13 hok) (N := 4) (by decide))).1 r h
      · rw [show (((tRa T (ix a)).1, (tRa T (ix a)).2.1, va_up (tRa T (ix a)).2.2 (ix b) (tSt T (ix d)).2.2.1) : aRa).2.2 j = (tRa T (ix a)).2.2 j from va_up_ne _ _ e] at h
        exact (hI.2.2.1 _ hA).2 j r hj h
    · rw [if_neg z1]; exact hI
  · intro h14
    unfold spBal
    split
    · exact hI
    · split
      · split
        · exact hI
        · split
          · exact hI.wh _ _
          · exact hI
      · exact hI
  · intro h15
    exact hI.ex (exI.of b)
  · intro _ _ _ _ _ _ _ _ _ _ _ _ _ _ _ _
    exact hI
theorem at_jo (q : Nat) (k a b d : Int32) (T : Sg) : tJo (spAt q k a b d T).2 = tJo T := by
  unfold spAt
  show tJo (if (spDo q k a b d T).1.1 = 0 then (spDo q k a b d T).2 else _) = tJo T
  split
  · exact do_jo q k a b d T
  · exact do_jo q k a b d T
theorem at_re (q : Nat) (k a b d : Int32) (T : Sg) : tRe (spAt q k a b d T).2 = tRe T := by
  unfold spAt
  show tRe (if (spDo q k a b d T).1.1 = 0 then (spDo q k a b d T).2 else _) = tRe T
  split
  · exact do_re q k a b d T
  · exact do_re q k a b d T
theorem Inv.ats {q : Nat} {k a b d : Int32} {T : Sg} (hI : Inv T) (hok : okS k a b d = true) : Inv (spAt q k a b d T).2 := by
  unfold spAt
  show Inv (if (spDo q k a b d T).1.1 = 0 then (spDo q k a b d T).2 else _)
  split
  · exact hI.dos hok
  · exact hI.dos hok
theorem Inv.re {T : Sg} (hI : Inv T) (x : aRe) : Inv (setRe T x) := hI
theorem go_jo (q : Nat) (x : aSp) (n : Int32) (T : Sg) : tJo (spGo q x n T).2 = tJo T := by
  rw [spGo_eq rfl]
  split
  · exact at_jo _ _ _ _ _ _
  · exact at_jo _ _ _ _ _ _
theorem Inv.gos {q : Nat} {x : aSp} {n : Int32} {T : Sg} (hI : Inv T) (hx : spI x) : Inv (spGo q x n T).2 := by
  rw [spGo_eq rfl]
  split
  · exact (hI.ats hx.1).re _
  · exact (hI.ats hx.1).re _
theorem in_jo (q j : Nat) (x : aSp) (T : Sg) : tJo (spIn q j x T).2 = tJo T := by
  unfold spIn
  split
  · exact go_jo _ _ _ _
  · rfl
theorem Inv.ins {q j : Nat} {x : aSp} {T : Sg} (hj : j < 4) (hI : Inv T) : Inv (spIn q j x T).2 := by
  unfold spIn
  split
  · rename_i z
    exact Inv.gos (T := stI1 T) hI ((hI.2.2.2.2.1 j hj).2.2 _ (ix_lt z))
  · exact hI
/-- a run, from its i-th step on, n steps more -/
def RunR (j : Nat) (way : Int32) : Nat → Nat → Sg → Sg → Prop
  | 0, _, T, T' => T' = T
  | n + 1, i, T, T' => ∃ q, tWh T q = none ∧ (if (spGo q ((tJo T j).2 i) (nI i) T).1 = true then RunR j way n (i + 1) (spGo q ((tJo T j).2 i) (nI i) T).2 T' else ∃ q2, tWh (spGo q ((tJo T j).2 i) (nI i) T).2 q2 = none ∧ (if (spIn q2 j ((tJo T j).2 i) (spGo q ((tJo T j).2 i) (nI i) T).2).1 = true ∨ way = 1 then RunR j way n (i + 1) (spIn q2 j ((tJo T j).2 i) (spGo q ((tJo T j).2 i) (nI i) T).2).2 T' else T' = (spIn q2 j ((tJo T j).2 i) (spGo q ((tJo T j).2 i) (nI i) T).2).2))
def T0r (T : Sg) : Sg := setRe T (0, 0, 0, -1, 0, 0)
end
section
theorem ix_le {n : Int32} (h0 : 0 ≤ n) (h1 : n ≤ 16) : ix n ≤ 16 := by
  have a1 := ix_int h0
  have a2 := Int32.le_iff_toInt_le.mp h1
  have e1 : (16 : Int32).toInt = 16 := rfl
  omega
theorem cnt_le {n : Int32} {i : Nat} (h0 : 0 ≤ n) (h1 : n ≤ 16) (hi : i ≤ 17) : n ≤ nI i ↔ ix n ≤ i := by
  have a1 := ix_int h0
  rw [Int32.le_iff_toInt_le, nI_toInt (by omega)]
  omega
theorem cnt_wi {n : Int32} {i : Nat} (h0 : 0 ≤ n) (h1 : n ≤ 16) (hi : i < ix n) : wi (nI i) n = true := by
  have h2 := ix_le h0 h1
  refine wi_t2 (nI_pos (by omega)) (fun z => ?_)
  have := (cnt_le h0 h1 (by omega)).mp z
  omega
set_option maxHeartbeats 4000000 in
set_option maxRecDepth 100000 in
theorem c_X8_run (l : Launch) (D : va_G) (cs : Nat → ClassId) (w : fW) (sz : Nat) (ad : Nat → Nat) (T : Sg) (jf : Nat → Nat → Option Nat) (hW : SW cs ad T jf w) (hI : Inv T) (j way : Int32) : gM l bs_B nw_B D cls10 (tyl cs) yX8_run cX8_run 6 (some .int) 7 166 32 96 w sz [.ref (ad 0), .int j, .int way] (fun v w' => (¬ (wi j 4 = true ∧ wi way 2 = true) ∧ v = some (.int (-2)) ∧ w' = w) ∨ ((wi j 4 = true ∧ wi way 2 = true) ∧ ∃ T', RunR (ix j) way (ix (tJo T (ix j)).1) 0 (T0r T) T' ∧ v = some (.int (tRe T').1) ∧ SW cs ad T' jf w')) := by
  refine gM.of (by decide +kernel) (Nat.le_of_ble_eq_true rfl) (fun p e s m below meth c A ls X hsz hnm hF hS hl => ?_)
  have hx := X.1
  have hb := X.2.1
  have loop : wi j 4 = true ∧ wi way 2 = true → ∀ (n9 i : Nat), i + n9 = (ix (tJo T (ix j)).1) → ∀ (U : Sg) (w9 : fW) (H : Heap) (locs : List Loc) (ls : Array Slot), Inv U → tJo U = tJo T → SW cs ad U jf w9 → (∀ T', RunR (ix j) way n9 i U T' → RunR (ix j) way (ix (tJo T (ix j)).1) 0 (T0r T) T') → fw_P D cls10 A w9 H → va_S A s.heap H locs → lv_has ls 6 [(0, .ref (ad 0)), (1, .int j), (2, .int way), (3, .ref (ad (38 + (ix j)))), (4, .int 1), (5, .int (nI i))] → W p l e ({ frames := 7, cells := 32, slots := 96, locals := 166 } : Room) s m ([.ref (ad 0), .int j, .int way] : List Value).toArray below meth c H locs (2 * i) (6 * i) (MQ below (gQ D cls10 A (fun v w' => (¬ (wi j 4 = true ∧ wi way 2 = true) ∧ v = some (.int (-2)) ∧ w' = w) ∨ ((wi j 4 = true ∧ wi way 2 = true) ∧ ∃ T', RunR (ix j) way (ix (tJo T (ix j)).1) 0 (T0r T) T' ∧ v = some (.int (tRe T').1) ∧ SW cs ad T' jf w'))) ([.ref (ad 0), .int j, .int way] : List Value).toArray s 32 96 A) (F0 m 39 ls []) := by
    intro hjw n9
    have hA9 : ix j < 4 := wi_lt hjw.1 (N := 4) (by decide)
    have hcn := (hI.2.2.2.2.1 _ hA9).1
    have hc16 := (hI.2.2.2.2.1 _ hA9).2.1
    have hN16 : (ix (tJo T (ix j)).1) ≤ 16 := ix_le hcn hc16
    induction n9 with
    | zero =>
      intro i hi U w9 H locs ls hIU hJU hW9 hK hF hS hl
      have hJj : tJo U (ix j) = tJo T (ix j) := by rw [hJU]
      have hcnU : 0 ≤ (tJo U (ix j)).1 := by rw [hJj]; exact hcn
      have hc16U : (tJo U (ix j)).1 ≤ 16 := by rw [hJj]; exact hc16
      have hixU : ix (tJo U (ix j)).1 = (ix (tJo T (ix j)).1) := by rw [hJj]
      refine lv_iload hx hb dX8_run_39 (lv_at hl 5 rfl) ?_
      refine lv_aload_n hx hb dX8_run_41 rfl (lv_at hl 3 rfl) ?_
      refine fw_get X gC_ok hF (hW9.2.2.2.2.2.2.2.2.2.2.2.2.2.2.2.2.2.1 (ix j) hA9) rfl 1 (by decide) wm_170 rfl dX8_run_42 ?_
      refine lv_icmp_ge (tgt := 91) hx hb dX8_run_45 (by decide) (fun c45_1 => ?_) (fun c45_1 => ?_)
      · refine lv_aload_n hx hb dX8_run_91 rfl (lv_at hl 0 rfl) ?_
        refine fw_get X gC_ok hF (hW9.2.1) rfl 7 (by decide) wm_183 rfl dX8_run_92 ?_
        refine fw_get X gC_ok hF (hW9.2.2.2.2.2.2.2.2.2.1) rfl 0 (by decide) wm_61 rfl dX8_run_95 ?_
        refine fw_iret X hF hS ?_ (by omega) (by omega) dX8_run_98
        exact Or.inr ⟨hjw, U, hK _ rfl, rfl, hW9⟩
      · exact absurd ((cnt_le (i := i) hcnU hc16U (by omega)).mpr (by omega)) c45_1
    | succ n9 ih =>
      intro i hi U w9 H locs ls hIU hJU hW9 hK hF hS hl
      have hJj : tJo U (ix j) = tJo T (ix j) := by rw [hJU]
      have hcnU : 0 ≤ (tJo U (ix j)).1 := by rw [hJj]; exact hcn
      have hc16U : (tJo U (ix j)).1 ≤ 16 := by rw [hJj]; exact hc16
      have hixU : ix (tJo U (ix j)).1 = (ix (tJo T (ix j)).1) := by rw [hJj]
      refine lv_iload hx hb dX8_run_39 (lv_at hl 5 rfl) ?_
      refine lv_aload_n hx hb dX8_run_41 rfl (lv_at hl 3 rfl) ?_
      refine fw_get X gC_ok hF (hW9.2.2.2.2.2.2.2.2.2.2.2.2.2.2.2.2.2.1 (ix j) hA9) rfl 1 (by decide) wm_170 rfl dX8_run_42 ?_
      refine lv_icmp_ge (tgt := 91) hx hb dX8_run_45 (by decide) (fun c45_1 => ?_) (fun c45_1 => ?_)
      · exact absurd ((cnt_le (i := i) hcnU hc16U (by omega)).mp c45_1) (by omega)
      · refine lv_iload hx hb dX8_run_48 (lv_at hl 4 rfl) ?_
        refine lv_if_eq (tgt := 91) hx hb dX8_run_50 (by decide) (fun h => absurd h (by decide)) (fun _ => ?_)
        refine lv_aload_n hx hb dX8_run_53 rfl (lv_at hl 0 rfl) ?_
        refine lv_aload_n hx hb dX8_run_54 rfl (lv_at hl 3 rfl) ?_
        refine lv_iload hx hb dX8_run_55 (lv_at hl 5 rfl) ?_
        have hwn : wi (nI i) (tJo U (ix j)).1 = true := cnt_wi hcnU hc16U (by omega)
        have hixi : ix (nI i) = i := nI_clamp (by omega)
        refine fw_callV (As := [.ref (ad (38 + (ix j))), .int (nI i)]) (rest := []) X bs_all nw_all mf_X8_isDone (c_X8_isDone l D cs _ _ ad U jf hW9 hIU (ix j) hA9 (nI i) hwn) wm_397 wm_399 wm_4 hF hS rfl (hW9.2.1) rfl rfl ((⟨⟨Nat.le_of_ble_eq_true rfl, Nat.le_of_ble_eq_true rfl⟩, (by show 2 * i + 1 ≤ 32; omega), (by show 6 * i + 3 ≤ 96; omega)⟩)) rfl hl.1 rfl (Nat.le_of_ble_eq_true rfl) dX8_run_57 (fun v u3 H locs hp hF hS hz1 hk1 hd1 => ?_)
        obtain ⟨q9, hq9, rfl, hW1⟩ := hp
        rw [hixi] at hW1 ⊢
        have hf9 := hW9.fr hq9
        have hI1 := hIU.gos (q := q9) (n := nI i) ((hIU.2.2.2.2.1 _ hA9).2.2 i (by omega))
        have hJ1 := go_jo q9 ((tJo U (ix j)).2 i) (nI i) U
        have hKr : ∀ T', (if (spGo q9 ((tJo U (ix j)).2 i) (nI i) U).1 = true then RunR (ix j) way n9 (i + 1) (spGo q9 ((tJo U (ix j)).2 i) (nI i) U).2 T' else ∃ q2, tWh (spGo q9 ((tJo U (ix j)).2 i) (nI i) U).2 q2 = none ∧ (if (spIn q2 (ix j) ((tJo U (ix j)).2 i) (spGo q9 ((tJo U (ix j)).2 i) (nI i) U).2).1 = true ∨ way = 1 then RunR (ix j) way n9 (i + 1) (spIn q2 (ix j) ((tJo U (ix j)).2 i) (spGo q9 ((tJo U (ix j)).2 i) (nI i) U).2).2 T' else T' = (spIn q2 (ix j) ((tJo U (ix j)).2 i) (spGo q9 ((tJo U (ix j)).2 i) (nI i) U).2).2)) → RunR (ix j) way (ix (tJo T (ix j)).1) 0 (T0r T) T' := fun T' z => hK T' ⟨q9, hf9, z⟩
        generalize hg1 : spGo q9 ((tJo U (ix j)).2 i) (nI i) U = g1 at hW1 hI1 hJ1 hKr ⊢
        refine W.eq (g2 := F0 m 60 ls [.int (bz g1.1)]) rfl ?_
        refine gx_ifne (tgt := 78) hx hb dX8_run_60 (by decide) (fun c60_4 => ?_) (fun c60_4 => ?_)
        · refine lv_iconst (v := 1) hx hb dX8_run_78 (by decide) ?_
          refine lv_goto (tgt := 83) hx hb dX8_run_79 (by decide) ?_
          refine lv_istore (lv' := [(4, .int 1), (0, .ref (ad 0)), (1, .int j), (2, .int way), (3, .ref (ad (38 + (ix j)))), (5, .int (nI i))]) hx hb dX8_run_83 hl (by decide) rfl (fun ls hl => ?_)
          refine lv_iinc (v := nI (i + 1)) (lv' := [(5, .int (nI (i + 1))), (4, .int 1), (0, .ref (ad 0)), (1, .int j), (2, .int way), (3, .ref (ad (38 + (ix j))))]) hx hb dX8_run_85 hl (k := 5) rfl (nI_1 i) (by decide) rfl (fun ls hl => ?_)
          refine lv_goto (tgt := 39) hx hb dX8_run_88 (by decide) ?_
          refine W.widen (k := 2 * (i + 1)) (n := 6 * (i + 1)) (by omega) (by omega) ?_
          exact ih (i + 1) (by omega) g1.2 _ H locs ls hI1 (hJ1.trans hJU) hW1 (fun T' z => hKr T' (by rw [if_pos c60_4]; exact z)) hF hS (lv_sub hl [2, 3, 4, 5, 1, 0] rfl)
        · refine lv_aload_n hx hb dX8_run_63 rfl (lv_at hl 0 rfl) ?_
          refine lv_aload_n hx hb dX8_run_64 rfl (lv_at hl 3 rfl) ?_
          refine lv_iload hx hb dX8_run_65 (lv_at hl 5 rfl) ?_
          have hJ1j : tJo g1.2 (ix j) = tJo U (ix j) := by rw [hJ1]
          have hwn1 : wi (nI i) (tJo g1.2 (ix j)).1 = true := by rw [hJ1j]; exact hwn
          refine fw_callV (As := [.ref (ad (38 + (ix j))), .int (nI i)]) (rest := []) X bs_all nw_all mf_X8_isDoneInStead (c_X8_isDoneInStead l D cs _ _ ad g1.2 jf hW1 hI1 (ix j) hA9 (nI i) hwn1) wm_414 wm_416 wm_5 hF hS rfl (hW1.2.1) rfl rfl ((⟨⟨Nat.le_of_ble_eq_true rfl, Nat.le_of_ble_eq_true rfl⟩, (by show 2 * i + 1 + 1 ≤ 32; omega), (by show 6 * i + 3 + 3 ≤ 96; omega)⟩)) rfl hl.1 rfl (Nat.le_of_ble_eq_true rfl) dX8_run_67 (fun v u5 H locs hp hF hS hz1 hk1 hd1 => ?_)
          obtain ⟨q8, hq8, rfl, hW2⟩ := hp
          rw [hixi, hJ1j] at hW2 ⊢
          have hf8 := hW1.fr hq8
          have hI2 := hI1.ins (q := q8) (x := (tJo U (ix j)).2 i) hA9
          have hJ2 := in_jo q8 (ix j) ((tJo U (ix j)).2 i) g1.2
          have hKs : ∀ T', (if (spIn q8 (ix j) ((tJo U (ix j)).2 i) g1.2).1 = true ∨ way = 1 then RunR (ix j) way n9 (i + 1) (spIn q8 (ix j) ((tJo U (ix j)).2 i) g1.2).2 T' else T' = (spIn q8 (ix j) ((tJo U (ix j)).2 i) g1.2).2) → RunR (ix j) way (ix (tJo T (ix j)).1) 0 (T0r T) T' := fun T' z => hKr T' (by rw [if_neg (by rw [c60_4]; decide)]; exact ⟨q8, hf8, z⟩)
          generalize hg2 : spIn q8 (ix j) ((tJo U (ix j)).2 i) g1.2 = g2 at hW2 hI2 hJ2 hKs ⊢
          refine W.eq (g2 := F0 m 70 ls [.int (bz g2.1)]) rfl ?_
          refine gx_ifne (tgt := 78) hx hb dX8_run_70 (by decide) (fun c70_6 => ?_) (fun c70_6 => ?_)
          · refine lv_iconst (v := 1) hx hb dX8_run_78 (by decide) ?_
            refine lv_goto (tgt := 83) hx hb dX8_run_79 (by decide) ?_
            refine lv_istore (lv' := [(4, .int 1), (0, .ref (ad 0)), (1, .int j), (2, .int way), (3, .ref (ad (38 + (ix j)))), (5, .int (nI i))]) hx hb dX8_run_83 hl (by decide) rfl (fun ls hl => ?_)
            refine lv_iinc (v := nI (i + 1)) (lv' := [(5, .int (nI (i + 1))), (4, .int 1), (0, .ref (ad 0)), (1, .int j), (2, .int way), (3, .ref (ad (38 + (ix j))))]) hx hb dX8_run_85 hl (k := 5) rfl (nI_1 i) (by decide) rfl (fun ls hl => ?_)
            refine lv_goto (tgt := 39) hx hb dX8_run_88 (by decide) ?_
            refine W.widen (k := 2 * (i + 1)) (n := 6 * (i + 1)) (by omega) (by omega) ?_
            exact ih (i + 1) (by omega) g2.2 _ H locs ls hI2 (hJ2.trans (hJ1.trans hJU)) hW2 (fun T' z => hKs T' (by rw [if_pos (Or.inl c70_6)]; exact z)) hF hS (lv_sub hl [2, 3, 4, 5, 1, 0] rfl)
          · refine lv_iload_n hx hb dX8_run_73 rfl (lv_at hl 2 rfl) ?_
            refine lv_iconst (v := 1) hx hb dX8_run_74 (by decide) ?_
            refine lv_icmp_ne (tgt := 82) hx hb dX8_run_75 (by decide) (fun c75_7 => ?_) (fun c75_7 => ?_)
            · refine lv_iconst (v := 0) hx hb dX8_run_82 (by decide) ?_
              refine lv_istore (lv' := [(4, .int 0), (0, .ref (ad 0)), (1, .int j), (2, .int way), (3, .ref (ad (38 + (ix j)))), (5, .int (nI i))]) hx hb dX8_run_83 hl (by decide) rfl (fun ls hl => ?_)
              refine lv_iinc (v := nI (i + 1)) (lv' := [(5, .int (nI (i + 1))), (4, .int 0), (0, .ref (ad 0)), (1, .int j), (2, .int way), (3, .ref (ad (38 + (ix j))))]) hx hb dX8_run_85 hl (k := 5) rfl (nI_1 i) (by decide) rfl (fun ls hl => ?_)
              refine lv_goto (tgt := 39) hx hb dX8_run_88 (by decide) ?_
              refine lv_iload hx hb dX8_run_39 (lv_at hl 0 rfl) ?_
              refine lv_aload_n hx hb dX8_run_41 rfl (lv_at hl 5 rfl) ?_
              refine fw_get X gC_ok hF (hW2.2.2.2.2.2.2.2.2.2.2.2.2.2.2.2.2.2.1 (ix j) hA9) rfl 1 (by decide) wm_170 rfl dX8_run_42 ?_
              refine lv_icmp_ge (tgt := 91) hx hb dX8_run_45 (by decide) (fun c45_8 => ?_) (fun c45_8 => ?_)
              · refine lv_aload_n hx hb dX8_run_91 rfl (lv_at hl 2 rfl) ?_
                refine fw_get X gC_ok hF (hW2.2.1) rfl 7 (by decide) wm_183 rfl dX8_run_92 ?_
                refine fw_get X gC_ok hF (hW2.2.2.2.2.2.2.2.2.2.1) rfl 0 (by decide) wm_61 rfl dX8_run_95 ?_
                refine fw_iret X hF hS ?_ (by omega) (by omega) dX8_run_98
                exact Or.inr ⟨hjw, g2.2, hKs _ (by rw [if_neg (fun z => z.elim (fun z => by rw [c70_6] at z; cases z) c75_7)]), rfl, hW2⟩
              · refine lv_iload hx hb dX8_run_48 (lv_at hl 1 rfl) ?_
                refine lv_if_eq (tgt := 91) hx hb dX8_run_50 (by decide) (fun _ => ?_) (fun h => absurd rfl h)
                refine lv_aload_n hx hb dX8_run_91 rfl (lv_at hl 2 rfl) ?_
                refine fw_get X gC_ok hF (hW2.2.1) rfl 7 (by decide) wm_183 rfl dX8_run_92 ?_
                refine fw_get X gC_ok hF (hW2.2.2.2.2.2.2.2.2.2.1) rfl 0 (by decide) wm_61 rfl dX8_run_95 ?_
                refine fw_iret X hF hS ?_ (by omega) (by omega) dX8_run_98
                exact Or.inr ⟨hjw, g2.2, hKs _ (by rw [if_neg (fun z => z.elim (fun z => by rw [c70_6] at z; cases z) c75_7)]), rfl, hW2⟩
            · refine lv_iconst (v := 1) hx hb dX8_run_78 (by decide) ?_
              refine lv_goto (tgt := 83) hx hb dX8_run_79 (by decide) ?_
              refine lv_istore (lv' := [(4, .int 1), (0, .ref (ad 0)), (1, .int j), (2, .int way), (3, .ref (ad (38 + (ix j)))), (5, .int (nI i))]) hx hb dX8_run_83 hl (by decide) rfl (fun ls hl => ?_)
              refine lv_iinc (v := nI (i + 1)) (lv' := [(5, .int (nI (i + 1))), (4, .int 1), (0, .ref (ad 0)), (1, .int j), (2, .int way), (3, .ref (ad (38 + (ix j))))]) hx hb dX8_run_85 hl (k := 5) rfl (nI_1 i) (by decide) rfl (fun ls hl => ?_)
              refine lv_goto (tgt := 39) hx hb dX8_run_88 (by decide) ?_
              refine W.widen (k := 2 * (i + 1)) (n := 6 * (i + 1)) (by omega) (by omega) ?_
              exact ih (i + 1) (by omega) g2.2 _ H locs ls hI2 (hJ2.trans (hJ1.trans hJU)) hW2 (fun T' z => hKs T' (by rw [if_pos (Or.inr c75_7)]; exact z)) hF hS (lv_sub hl [2, 3, 4, 5, 1, 0] rfl)
  have hl : lv_has ls 6 [(0, .ref (ad 0)), (1, .int j), (2, .int way)] := hl
  refine lv_iload_n hx hb dX8_run_0 rfl (lv_at hl 1 rfl) ?_
  refine lv_iconst (v := 4) hx hb dX8_run_1 (by decide) ?_
  refine fw_callS (As := [.int j, .int 4]) (rest := []) X bs_all nw_all mf_X8_isWithin (c_X8_isWithin l D cs _ _ j 4) wm_208 wm_209 hF hS rfl ((⟨⟨Nat.le_of_ble_eq_true rfl, Nat.le_of_ble_eq_true rfl⟩, Nat.le_of_ble_eq_true rfl, Nat.le_of_ble_eq_true rfl⟩)) rfl hl.1 rfl (Nat.le_of_ble_eq_true rfl) dX8_run_2 (fun v u1 H locs hp hF hS hz1 hk1 hd1 => ?_)
  obtain ⟨rfl, hw1⟩ := hp
  rw [hw1] at hF
  refine W.eq (g2 := F0 m 5 ls [.int (bz (wi j 4))]) rfl ?_
  refine gx_ifeq (tgt := 16) hx hb dX8_run_5 (by decide) (fun c5_2 => ?_) (fun c5_2 => ?_)
  · refine lv_bipush (v := (-2)) hx hb dX8_run_16 (by decide) ?_
    refine fw_iret X hF hS ?_ (Nat.le_of_ble_eq_true rfl) (Nat.le_of_ble_eq_true rfl) dX8_run_18
    exact Or.inl ⟨(fun z => by rw [c5_2] at z; cases z.1), rfl, rfl⟩
  · have hA9 : ix j < 4 := wi_lt c5_2 (N := 4) (by decide)
    refine lv_iload_n hx hb dX8_run_8 rfl (lv_at hl 2 rfl) ?_
    refine lv_iconst (v := 2) hx hb dX8_run_9 (by decide) ?_
    refine fw_callS (As := [.int way, .int 2]) (rest := []) X bs_all nw_all mf_X8_isWithin (c_X8_isWithin l D cs _ _ way 2) wm_208 wm_209 hF hS rfl ((⟨⟨Nat.le_of_ble_eq_true rfl, Nat.le_of_ble_eq_true rfl⟩, Nat.le_of_ble_eq_true rfl, Nat.le_of_ble_eq_true rfl⟩)) rfl hl.1 rfl (Nat.le_of_ble_eq_true rfl) dX8_run_10 (fun v u3 H locs hp hF hS hz1 hk1 hd1 => ?_)
    obtain ⟨rfl, hw1⟩ := hp
    rw [hw1] at hF
    refine W.eq (g2 := F0 m 13 ls [.int (bz (wi way 2))]) rfl ?_
    refine gx_ifne (tgt := 19) hx hb dX8_run_13 (by decide) (fun c13_4 => ?_) (fun c13_4 => ?_)
    · refine lv_aload_n hx hb dX8_run_19 rfl (lv_at hl 0 rfl) ?_
      refine fw_get X gC_ok hF (hW.2.1) rfl 7 (by decide) wm_183 rfl dX8_run_20 ?_
      refine fw_callV (As := []) (rest := []) X bs_all nw_all mf_X4_restart (c_X4_restart l D cs _ _ (ad 8) ((tRe T).1) ((tRe T).2.1) ((tRe T).2.2.1) ((tRe T).2.2.2.1) ((tRe T).2.2.2.2.1) ((tRe T).2.2.2.2.2) (hW.2.2.2.2.2.2.2.2.2.1)) wm_393 wm_394 wm_395 hF hS rfl (hW.2.2.2.2.2.2.2.2.2.1) rfl rfl ((⟨⟨Nat.le_of_ble_eq_true rfl, Nat.le_of_ble_eq_true rfl⟩, Nat.le_of_ble_eq_true rfl, Nat.le_of_ble_eq_true rfl⟩)) rfl hl.1 rfl (Nat.le_of_ble_eq_true rfl) dX8_run_23 (fun v u5 H locs hp hF hS hz1 hk1 hd1 => ?_)
      obtain ⟨rfl, hw1⟩ := hp
      rw [hw1] at hF
      refine W.eq (g2 := F0 m 26 ls []) rfl ?_
      refine lv_aload_n hx hb dX8_run_26 rfl (lv_at hl 0 rfl) ?_
      refine fw_get X gC_ok hF ((va_up_ne _ _ (hW.1.ne (by omega) (by omega) (by omega))).trans (hW.2.1)) rfl 4 (by decide) wm_180 rfl dX8_run_27 ?_
      refine lv_iload_n hx hb dX8_run_30 rfl (lv_at hl 1 rfl) ?_
      refine fw_aldq X hF ((va_up_ne _ _ (hW.1.ne (by omega) (by omega) (by omega))).trans (hW.2.2.2.2.2.2.1)) 6 rfl (wi_in c5_2 (N := 4) (by decide)) (v := some (ad (38 + (ix j)))) rfl dX8_run_31 ?_
      refine W.eq (g2 := F0 m 32 ls [.ref (ad (38 + (ix j)))]) rfl ?_
      refine lv_astore_n (lv' := [(3, .ref (ad (38 + (ix j)))), (0, .ref (ad 0)), (1, .int j), (2, .int way)]) hx hb dX8_run_32 rfl hl (by decide) rfl (fun ls hl => ?_)
      refine lv_iconst (v := 1) hx hb dX8_run_33 (by decide) ?_
      refine lv_istore (lv' := [(4, .int 1), (3, .ref (ad (38 + (ix j)))), (0, .ref (ad 0)), (1, .int j), (2, .int way)]) hx hb dX8_run_34 hl (by decide) rfl (fun ls hl => ?_)
      refine lv_iconst (v := 0) hx hb dX8_run_36 (by decide) ?_
      refine lv_istore (lv' := [(5, .int 0), (4, .int 1), (3, .ref (ad (38 + (ix j)))), (0, .ref (ad 0)), (1, .int j), (2, .int way)]) hx hb dX8_run_37 hl (by decide) rfl (fun ls hl => ?_)
      refine loop ⟨c5_2, c13_4⟩ (ix (tJo T (ix j)).1) 0 (by omega) (T0r T) _ H locs ls hI rfl (hW.re _) (fun T' z => z) hF hS (lv_sub hl [3, 4, 5, 2, 1, 0] rfl)
    · refine lv_bipush (v := (-2)) hx hb dX8_run_16 (by decide) ?_
      refine fw_iret X hF hS ?_ (Nat.le_of_ble_eq_true rfl) (Nat.le_of_ble_eq_true rfl) dX8_run_18
      exact Or.inl ⟨(fun z => by rw [c13_4] at z; cases z.2), rfl, rfl⟩
end
