section
-- ===== PART A: goes FIRST, ahead of the names: the tables' words, and 'selects' of the private methods out of them =====
/-- a private method of a class that the tables say can be made, by its rows of tables_1 -/
def lw_okq (q : MethodName × Nat) : Prop := (q.1.cls ≠ "java/lang/invoke/MethodHandle" ∧ q.1.cls ≠ "java/lang/invoke/VarHandle") ∧ Cond.instantiable q.1.cls q.2 ∈ tables_1 ∧ Cond.privateMethod q.1 ∈ tables_1 ∧ Cond.instanceMethod q.1 ∈ tables_1
theorem lw_p0 : lw_okq (⟨"StoreBufferCores", "isCore", "(I)Z"⟩, 2) := ⟨⟨by decide +kernel, by decide +kernel⟩, List.mem_of_getElem? (i := 7) (by decide +kernel), List.mem_of_getElem? (i := 108) (by decide +kernel), List.mem_of_getElem? (i := 109) (by decide +kernel)⟩
theorem lw_p1 : lw_okq (⟨"StoreBufferCores$Core", "setInstruction", "(IIIII)V"⟩, 8) := ⟨⟨by decide +kernel, by decide +kernel⟩, List.mem_of_getElem? (i := 38) (by decide +kernel), List.mem_of_getElem? (i := 118) (by decide +kernel), List.mem_of_getElem? (i := 119) (by decide +kernel)⟩
theorem lw_p2 : lw_okq (⟨"StoreBufferCores$Core", "doInstruction", "(LStoreBufferCores$SharedMemory;)I"⟩, 8) := ⟨⟨by decide +kernel, by decide +kernel⟩, List.mem_of_getElem? (i := 38) (by decide +kernel), List.mem_of_getElem? (i := 130) (by decide +kernel), List.mem_of_getElem? (i := 131) (by decide +kernel)⟩
theorem lw_p3 : lw_okq (⟨"StoreBufferCores$Core", "mustWait", "(I)Z"⟩, 8) := ⟨⟨by decide +kernel, by decide +kernel⟩, List.mem_of_getElem? (i := 38) (by decide +kernel), List.mem_of_getElem? (i := 134) (by decide +kernel), List.mem_of_getElem? (i := 135) (by decide +kernel)⟩
theorem lw_p4 : lw_okq (⟨"StoreBufferCores$Buffer", "isFull", "()Z"⟩, 4) := ⟨⟨by decide +kernel, by decide +kernel⟩, List.mem_of_getElem? (i := 44) (by decide +kernel), List.mem_of_getElem? (i := 138) (by decide +kernel), List.mem_of_getElem? (i := 139) (by decide +kernel)⟩
theorem lw_p5 : lw_okq (⟨"StoreBufferCores$Core", "nextPlace", "()I"⟩, 8) := ⟨⟨by decide +kernel, by decide +kernel⟩, List.mem_of_getElem? (i := 38) (by decide +kernel), List.mem_of_getElem? (i := 142) (by decide +kernel), List.mem_of_getElem? (i := 143) (by decide +kernel)⟩
theorem lw_p6 : lw_okq (⟨"StoreBufferCores$Core", "perform", "(LStoreBufferCores$SharedMemory;)V"⟩, 8) := ⟨⟨by decide +kernel, by decide +kernel⟩, List.mem_of_getElem? (i := 38) (by decide +kernel), List.mem_of_getElem? (i := 146) (by decide +kernel), List.mem_of_getElem? (i := 147) (by decide +kernel)⟩
theorem lw_p7 : lw_okq (⟨"StoreBufferCores$Buffer", "newestValue", "(II)I"⟩, 4) := ⟨⟨by decide +kernel, by decide +kernel⟩, List.mem_of_getElem? (i := 44) (by decide +kernel), List.mem_of_getElem? (i := 150) (by decide +kernel), List.mem_of_getElem? (i := 151) (by decide +kernel)⟩
theorem lw_p8 : lw_okq (⟨"StoreBufferCores$Buffer", "append", "(III)V"⟩, 4) := ⟨⟨by decide +kernel, by decide +kernel⟩, List.mem_of_getElem? (i := 44) (by decide +kernel), List.mem_of_getElem? (i := 154) (by decide +kernel), List.mem_of_getElem? (i := 155) (by decide +kernel)⟩
theorem lw_p9 : lw_okq (⟨"StoreBufferCores$Core", "swap", "(IILStoreBufferCores$SharedMemory;)V"⟩, 8) := ⟨⟨by decide +kernel, by decide +kernel⟩, List.mem_of_getElem? (i := 38) (by decide +kernel), List.mem_of_getElem? (i := 159) (by decide +kernel), List.mem_of_getElem? (i := 160) (by decide +kernel)⟩
theorem lw_p10 : lw_okq (⟨"StoreBufferCores$SharedMemory", "write", "(II)V"⟩, 3) := ⟨⟨by decide +kernel, by decide +kernel⟩, List.mem_of_getElem? (i := 15) (by decide +kernel), List.mem_of_getElem? (i := 163) (by decide +kernel), List.mem_of_getElem? (i := 164) (by decide +kernel)⟩
theorem lw_p11 : lw_okq (⟨"StoreBufferCores", "isEntry", "(II)Z"⟩, 2) := ⟨⟨by decide +kernel, by decide +kernel⟩, List.mem_of_getElem? (i := 7) (by decide +kernel), List.mem_of_getElem? (i := 175) (by decide +kernel), List.mem_of_getElem? (i := 176) (by decide +kernel)⟩
theorem lw_p12 : lw_okq (⟨"StoreBufferCores$Buffer", "mayLeave", "(I)Z"⟩, 4) := ⟨⟨by decide +kernel, by decide +kernel⟩, List.mem_of_getElem? (i := 44) (by decide +kernel), List.mem_of_getElem? (i := 179) (by decide +kernel), List.mem_of_getElem? (i := 180) (by decide +kernel)⟩
theorem lw_p13 : lw_okq (⟨"StoreBufferCores$Buffer", "letsPass", "(II)Z"⟩, 4) := ⟨⟨by decide +kernel, by decide +kernel⟩, List.mem_of_getElem? (i := 44) (by decide +kernel), List.mem_of_getElem? (i := 183) (by decide +kernel), List.mem_of_getElem? (i := 184) (by decide +kernel)⟩
theorem lw_p14 : lw_okq (⟨"StoreBufferCores$Buffer", "lineOf", "(I)I"⟩, 4) := ⟨⟨by decide +kernel, by decide +kernel⟩, List.mem_of_getElem? (i := 44) (by decide +kernel), List.mem_of_getElem? (i := 187) (by decide +kernel), List.mem_of_getElem? (i := 188) (by decide +kernel)⟩
theorem lw_p15 : lw_okq (⟨"StoreBufferCores$Buffer", "letOut", "(ILStoreBufferCores$SharedMemory;)V"⟩, 4) := ⟨⟨by decide +kernel, by decide +kernel⟩, List.mem_of_getElem? (i := 44) (by decide +kernel), List.mem_of_getElem? (i := 191) (by decide +kernel), List.mem_of_getElem? (i := 192) (by decide +kernel)⟩
def lw_privs_1 : List (MethodName × Nat) := [(⟨"StoreBufferCores", "isCore", "(I)Z"⟩, 2), (⟨"StoreBufferCores$Core", "setInstruction", "(IIIII)V"⟩, 8), (⟨"StoreBufferCores$Core", "doInstruction", "(LStoreBufferCores$SharedMemory;)I"⟩, 8), (⟨"StoreBufferCores$Core", "mustWait", "(I)Z"⟩, 8), (⟨"StoreBufferCores$Buffer", "isFull", "()Z"⟩, 4), (⟨"StoreBufferCores$Core", "nextPlace", "()I"⟩, 8), (⟨"StoreBufferCores$Core", "perform", "(LStoreBufferCores$SharedMemory;)V"⟩, 8), (⟨"StoreBufferCores$Buffer", "newestValue", "(II)I"⟩, 4), (⟨"StoreBufferCores$Buffer", "append", "(III)V"⟩, 4), (⟨"StoreBufferCores$Core", "swap", "(IILStoreBufferCores$SharedMemory;)V"⟩, 8), (⟨"StoreBufferCores$SharedMemory", "write", "(II)V"⟩, 3), (⟨"StoreBufferCores", "isEntry", "(II)Z"⟩, 2), (⟨"StoreBufferCores$Buffer", "mayLeave", "(I)Z"⟩, 4), (⟨"StoreBufferCores$Buffer", "letsPass", "(II)Z"⟩, 4), (⟨"StoreBufferCores$Buffer", "lineOf", "(I)I"⟩, 4), (⟨"StoreBufferCores$Buffer", "letOut", "(ILStoreBufferCores$SharedMemory;)V"⟩, 4)]
theorem lw_r1 : ∀ q ∈ lw_privs_1, lw_okq q := List.forall_mem_cons.mpr ⟨lw_p0, List.forall_mem_cons.mpr ⟨lw_p1, List.forall_mem_cons.mpr ⟨lw_p2, List.forall_mem_cons.mpr ⟨lw_p3, List.forall_mem_cons.mpr ⟨lw_p4, List.forall_mem_cons.mpr ⟨lw_p5, List.forall_mem_cons.mpr ⟨lw_p6, List.forall_mem_cons.mpr ⟨lw_p7, List.forall_mem_cons.mpr ⟨lw_p8, List.forall_mem_cons.mpr ⟨lw_p9, List.forall_mem_cons.mpr ⟨lw_p10, List.forall_mem_cons.mpr ⟨lw_p11, List.forall_mem_cons.mpr ⟨lw_p12, List.forall_mem_cons.mpr ⟨lw_p13, List.forall_mem_cons.mpr ⟨lw_p14, List.forall_mem_cons.mpr ⟨lw_p15, fun _ h => absurd h List.not_mem_nil⟩⟩⟩⟩⟩⟩⟩⟩⟩⟩⟩⟩⟩⟩⟩⟩
theorem lw_p16 : lw_okq (⟨"StoreBufferCores$SharedMemory", "writeBack", "(I)V"⟩, 3) := ⟨⟨by decide +kernel, by decide +kernel⟩, List.mem_of_getElem? (i := 15) (by decide +kernel), List.mem_of_getElem? (i := 196) (by decide +kernel), List.mem_of_getElem? (i := 197) (by decide +kernel)⟩
theorem lw_p17 : lw_okq (⟨"StoreBufferCores$Buffer", "remove", "(I)V"⟩, 4) := ⟨⟨by decide +kernel, by decide +kernel⟩, List.mem_of_getElem? (i := 44) (by decide +kernel), List.mem_of_getElem? (i := 200) (by decide +kernel), List.mem_of_getElem? (i := 201) (by decide +kernel)⟩
theorem lw_p18 : lw_okq (⟨"StoreBufferCores$SharedMemory", "fallBackToStorage", "()V"⟩, 3) := ⟨⟨by decide +kernel, by decide +kernel⟩, List.mem_of_getElem? (i := 15) (by decide +kernel), List.mem_of_getElem? (i := 220) (by decide +kernel), List.mem_of_getElem? (i := 221) (by decide +kernel)⟩
theorem lw_p19 : lw_okq (⟨"StoreBufferCores$Core", "beginAgain", "()V"⟩, 8) := ⟨⟨by decide +kernel, by decide +kernel⟩, List.mem_of_getElem? (i := 38) (by decide +kernel), List.mem_of_getElem? (i := 224) (by decide +kernel), List.mem_of_getElem? (i := 225) (by decide +kernel)⟩
theorem lw_p20 : lw_okq (⟨"StoreBufferCoresModel", "isCore", "(I)Z"⟩, 18) := ⟨⟨by decide +kernel, by decide +kernel⟩, List.mem_of_getElem? (i := 271) (by decide +kernel), List.mem_of_getElem? (i := 336) (by decide +kernel), List.mem_of_getElem? (i := 337) (by decide +kernel)⟩
theorem lw_p21 : lw_okq (⟨"StoreBufferCoresModel", "writeBack", "(I)V"⟩, 18) := ⟨⟨by decide +kernel, by decide +kernel⟩, List.mem_of_getElem? (i := 271) (by decide +kernel), List.mem_of_getElem? (i := 348) (by decide +kernel), List.mem_of_getElem? (i := 349) (by decide +kernel)⟩
theorem lw_p22 : lw_okq (⟨"StoreBufferCoresModel", "passes", "(II)Z"⟩, 18) := ⟨⟨by decide +kernel, by decide +kernel⟩, List.mem_of_getElem? (i := 271) (by decide +kernel), List.mem_of_getElem? (i := 364) (by decide +kernel), List.mem_of_getElem? (i := 365) (by decide +kernel)⟩
theorem lw_p23 : lw_okq (⟨"StoreBufferCoresModel", "lineOf", "(I)I"⟩, 18) := ⟨⟨by decide +kernel, by decide +kernel⟩, List.mem_of_getElem? (i := 271) (by decide +kernel), List.mem_of_getElem? (i := 368) (by decide +kernel), List.mem_of_getElem? (i := 369) (by decide +kernel)⟩
theorem lw_p24 : lw_okq (⟨"StoreBufferCoresModel", "store", "(II)V"⟩, 18) := ⟨⟨by decide +kernel, by decide +kernel⟩, List.mem_of_getElem? (i := 271) (by decide +kernel), List.mem_of_getElem? (i := 372) (by decide +kernel), List.mem_of_getElem? (i := 373) (by decide +kernel)⟩
theorem lw_p25 : lw_okq (⟨"StoreBufferCoresModel", "append", "(IIII)I"⟩, 18) := ⟨⟨by decide +kernel, by decide +kernel⟩, List.mem_of_getElem? (i := 271) (by decide +kernel), List.mem_of_getElem? (i := 389) (by decide +kernel), List.mem_of_getElem? (i := 390) (by decide +kernel)⟩
theorem lw_p26 : lw_okq (⟨"StoreBufferCoresModel", "swap", "(III)V"⟩, 18) := ⟨⟨by decide +kernel, by decide +kernel⟩, List.mem_of_getElem? (i := 271) (by decide +kernel), List.mem_of_getElem? (i := 393) (by decide +kernel), List.mem_of_getElem? (i := 394) (by decide +kernel)⟩
def lw_privs_2 : List (MethodName × Nat) := [(⟨"StoreBufferCores$SharedMemory", "writeBack", "(I)V"⟩, 3), (⟨"StoreBufferCores$Buffer", "remove", "(I)V"⟩, 4), (⟨"StoreBufferCores$SharedMemory", "fallBackToStorage", "()V"⟩, 3), (⟨"StoreBufferCores$Core", "beginAgain", "()V"⟩, 8), (⟨"StoreBufferCoresModel", "isCore", "(I)Z"⟩, 18), (⟨"StoreBufferCoresModel", "writeBack", "(I)V"⟩, 18), (⟨"StoreBufferCoresModel", "passes", "(II)Z"⟩, 18), (⟨"StoreBufferCoresModel", "lineOf", "(I)I"⟩, 18), (⟨"StoreBufferCoresModel", "store", "(II)V"⟩, 18), (⟨"StoreBufferCoresModel", "append", "(IIII)I"⟩, 18), (⟨"StoreBufferCoresModel", "swap", "(III)V"⟩, 18)]
theorem lw_r2 : ∀ q ∈ lw_privs_2, lw_okq q := List.forall_mem_cons.mpr ⟨lw_p16, List.forall_mem_cons.mpr ⟨lw_p17, List.forall_mem_cons.mpr ⟨lw_p18, List.forall_mem_cons.mpr ⟨lw_p19, List.forall_mem_cons.mpr ⟨lw_p20, List.forall_mem_cons.mpr ⟨lw_p21, List.forall_mem_cons.mpr ⟨lw_p22, List.forall_mem_cons.mpr ⟨lw_p23, List.forall_mem_cons.mpr ⟨lw_p24, List.forall_mem_cons.mpr ⟨lw_p25, List.forall_mem_cons.mpr ⟨lw_p26, fun _ h => absurd h List.not_mem_nil⟩⟩⟩⟩⟩⟩⟩⟩⟩⟩⟩
def lw_privs : List (MethodName × Nat) := lw_privs_1 ++ (lw_privs_2)
def lw_tbl : List Cond := k2_sels lw_privs ++ tables_1
theorem lw_privs_ok : ∀ q ∈ lw_privs, lw_okq q := by
  show ∀ q ∈ lw_privs_1 ++ (lw_privs_2), lw_okq q
  exact List.forall_mem_append.mpr ⟨lw_r1, lw_r2⟩
def RX0 : String := "StoreBufferCores$Buffer"
def RX1 : String := "StoreBufferCores$Core"
def RX2 : String := "StoreBufferCores$SharedMemory"
def RX3 : String := "StoreBufferCores"
def RX4 : String := "StoreBufferCoresModel"
def RL : String := "StoreBufferCoresLaw"
def TX0 : u_T := fun k => match k with
  | 0 => ("StoreBufferCores$Buffer", "kinds", "[I", true)
  | 1 => ("StoreBufferCores$Buffer", "targets", "[I", true)
  | 2 => ("StoreBufferCores$Buffer", "values", "[I", true)
  | _ => ("StoreBufferCores$Buffer", "count", "I", false)
def tyX0 : Nat → FieldType := fun k => match k with
  | 0 => .array .int
  | 1 => .array .int
  | 2 => .array .int
  | _ => .int
theorem nmX0 : ∀ a, a < 4 → ∀ b, b < 4 → a ≠ b → (TX0 a).2.1 ≠ (TX0 b).2.1 := by decide +kernel
theorem tyX0_ok : ∀ k, k < 4 → parseFieldDescriptor (TX0 k).2.2.1 = some (tyX0 k) := by decide +kernel
def yX0_init : MethodName := ⟨RX0, "<init>", "(I)V"⟩
abbrev cX0_init : ByteArray := prog_2_method_1_code
def yX0_isFull : MethodName := ⟨RX0, "isFull", "()Z"⟩
abbrev cX0_isFull : ByteArray := prog_2_method_2_code
def yX0_append : MethodName := ⟨RX0, "append", "(III)V"⟩
abbrev cX0_append : ByteArray := prog_2_method_3_code
def yX0_newestValue : MethodName := ⟨RX0, "newestValue", "(II)I"⟩
abbrev cX0_newestValue : ByteArray := prog_2_method_4_code
def yX0_mayLeave : MethodName := ⟨RX0, "mayLeave", "(I)Z"⟩
abbrev cX0_mayLeave : ByteArray := prog_2_method_5_code
def yX0_letsPass : MethodName := ⟨RX0, "letsPass", "(II)Z"⟩
abbrev cX0_letsPass : ByteArray := prog_2_method_6_code
def yX0_lineOf : MethodName := ⟨RX0, "lineOf", "(I)I"⟩
abbrev cX0_lineOf : ByteArray := prog_2_method_7_code
def yX0_letOut : MethodName := ⟨RX0, "letOut", "(ILStoreBufferCores$SharedMemory;)V"⟩
abbrev cX0_letOut : ByteArray := prog_2_method_8_code
def yX0_remove : MethodName := ⟨RX0, "remove", "(I)V"⟩
abbrev cX0_remove : ByteArray := prog_2_method_9_code
def TX1 : u_T := fun k => match k with
  | 0 => ("StoreBufferCores$Core", "registers", "[I", true)
  | 1 => ("StoreBufferCores$Core", "codes", "[I", true)
  | 2 => ("StoreBufferCores$Core", "xs", "[I", true)
  | 3 => ("StoreBufferCores$Core", "ys", "[I", true)
  | 4 => ("StoreBufferCores$Core", "numbers", "[I", true)
  | 5 => ("StoreBufferCores$Core", "buffer", "LStoreBufferCores$Buffer;", true)
  | 6 => ("StoreBufferCores$Core", "pc", "I", false)
  | _ => ("StoreBufferCores$Core", "recoveryEntry", "I", false)
def tyX1 : Nat → FieldType := fun k => match k with
  | 0 => .array .int
  | 1 => .array .int
  | 2 => .array .int
  | 3 => .array .int
  | 4 => .array .int
  | 5 => .object "StoreBufferCores$Buffer"
  | 6 => .int
  | _ => .int
theorem nmX1 : ∀ a, a < 8 → ∀ b, b < 8 → a ≠ b → (TX1 a).2.1 ≠ (TX1 b).2.1 := by decide +kernel
theorem tyX1_ok : ∀ k, k < 8 → parseFieldDescriptor (TX1 k).2.2.1 = some (tyX1 k) := by decide +kernel
def yX1_init : MethodName := ⟨RX1, "<init>", "(I)V"⟩
abbrev cX1_init : ByteArray := prog_3_method_1_code
def yX1_setInstruction : MethodName := ⟨RX1, "setInstruction", "(IIIII)V"⟩
abbrev cX1_setInstruction : ByteArray := prog_3_method_2_code
def yX1_doInstruction : MethodName := ⟨RX1, "doInstruction", "(LStoreBufferCores$SharedMemory;)I"⟩
abbrev cX1_doInstruction : ByteArray := prog_3_method_3_code
def yX1_mustWait : MethodName := ⟨RX1, "mustWait", "(I)Z"⟩
abbrev cX1_mustWait : ByteArray := prog_3_method_4_code
def yX1_nextPlace : MethodName := ⟨RX1, "nextPlace", "()I"⟩
abbrev cX1_nextPlace : ByteArray := prog_3_method_5_code
def yX1_perform : MethodName := ⟨RX1, "perform", "(LStoreBufferCores$SharedMemory;)V"⟩
abbrev cX1_perform : ByteArray := prog_3_method_6_code
def yX1_swap : MethodName := ⟨RX1, "swap", "(IILStoreBufferCores$SharedMemory;)V"⟩
abbrev cX1_swap : ByteArray := prog_3_method_7_code
def yX1_beginAgain : MethodName := ⟨RX1, "beginAgain", "()V"⟩
abbrev cX1_beginAgain : ByteArray := prog_3_method_8_code
def TX2 : u_T := fun k => match k with
  | 0 => ("StoreBufferCores$SharedMemory", "words", "[I", true)
  | 1 => ("StoreBufferCores$SharedMemory", "stored", "[I", true)
  | _ => ("StoreBufferCores$SharedMemory", "unwritten", "[Z", true)
def tyX2 : Nat → FieldType := fun k => match k with
  | 0 => .array .int
  | 1 => .array .int
  | _ => .array .boolean
theorem nmX2 : ∀ a, a < 3 → ∀ b, b < 3 → a ≠ b → (TX2 a).2.1 ≠ (TX2 b).2.1 := by decide +kernel
theorem tyX2_ok : ∀ k, k < 3 → parseFieldDescriptor (TX2 k).2.2.1 = some (tyX2 k) := by decide +kernel
def yX2_init : MethodName := ⟨RX2, "<init>", "()V"⟩
abbrev cX2_init : ByteArray := prog_4_method_1_code
def yX2_write : MethodName := ⟨RX2, "write", "(II)V"⟩
abbrev cX2_write : ByteArray := prog_4_method_2_code
def yX2_writeBack : MethodName := ⟨RX2, "writeBack", "(I)V"⟩
abbrev cX2_writeBack : ByteArray := prog_4_method_3_code
def yX2_fallBackToStorage : MethodName := ⟨RX2, "fallBackToStorage", "()V"⟩
abbrev cX2_fallBackToStorage : ByteArray := prog_4_method_4_code
def TX3 : u_T := fun k => match k with
  | 0 => ("StoreBufferCores", "shared", "LStoreBufferCores$SharedMemory;", true)
  | _ => ("StoreBufferCores", "row", "[LStoreBufferCores$Core;", true)
def tyX3 : Nat → FieldType := fun k => match k with
  | 0 => .object "StoreBufferCores$SharedMemory"
  | _ => .array (.object "StoreBufferCores$Core")
theorem nmX3 : ∀ a, a < 2 → ∀ b, b < 2 → a ≠ b → (TX3 a).2.1 ≠ (TX3 b).2.1 := by decide +kernel
theorem tyX3_ok : ∀ k, k < 2 → parseFieldDescriptor (TX3 k).2.2.1 = some (tyX3 k) := by decide +kernel
def yX3_init : MethodName := ⟨RX3, "<init>", "(II)V"⟩
abbrev cX3_init : ByteArray := prog_1_method_1_code
def yX3_put : MethodName := ⟨RX3, "put", "(IIIIII)Z"⟩
abbrev cX3_put : ByteArray := prog_1_method_2_code
def yX3_recovery : MethodName := ⟨RX3, "recovery", "(II)Z"⟩
abbrev cX3_recovery : ByteArray := prog_1_method_3_code
def yX3_step : MethodName := ⟨RX3, "step", "(I)I"⟩
abbrev cX3_step : ByteArray := prog_1_method_4_code
def yX3_run : MethodName := ⟨RX3, "run", "(II)I"⟩
abbrev cX3_run : ByteArray := prog_1_method_5_code
def yX3_drain : MethodName := ⟨RX3, "drain", "(II)Z"⟩
abbrev cX3_drain : ByteArray := prog_1_method_6_code
def yX3_settle : MethodName := ⟨RX3, "settle", "(I)I"⟩
abbrev cX3_settle : ByteArray := prog_1_method_7_code
def yX3_evict : MethodName := ⟨RX3, "evict", "(I)Z"⟩
abbrev cX3_evict : ByteArray := prog_1_method_8_code
def yX3_crash : MethodName := ⟨RX3, "crash", "()V"⟩
abbrev cX3_crash : ByteArray := prog_1_method_9_code
def yX3_register : MethodName := ⟨RX3, "register", "(II)I"⟩
abbrev cX3_register : ByteArray := prog_1_method_10_code
def yX3_place : MethodName := ⟨RX3, "place", "(I)I"⟩
abbrev cX3_place : ByteArray := prog_1_method_11_code
def yX3_pending : MethodName := ⟨RX3, "pending", "(I)I"⟩
abbrev cX3_pending : ByteArray := prog_1_method_12_code
def yX3_entry : MethodName := ⟨RX3, "entry", "(III)I"⟩
abbrev cX3_entry : ByteArray := prog_1_method_13_code
def yX3_sees : MethodName := ⟨RX3, "sees", "(II)I"⟩
abbrev cX3_sees : ByteArray := prog_1_method_14_code
def yX3_memory : MethodName := ⟨RX3, "memory", "(I)I"⟩
abbrev cX3_memory : ByteArray := prog_1_method_15_code
def yX3_storage : MethodName := ⟨RX3, "storage", "(I)I"⟩
abbrev cX3_storage : ByteArray := prog_1_method_16_code
def yX3_dirty : MethodName := ⟨RX3, "dirty", "(I)Z"⟩
abbrev cX3_dirty : ByteArray := prog_1_method_17_code
def yX3_cores : MethodName := ⟨RX3, "cores", "()I"⟩
abbrev cX3_cores : ByteArray := prog_1_method_18_code
def yX3_isCore : MethodName := ⟨RX3, "isCore", "(I)Z"⟩
abbrev cX3_isCore : ByteArray := prog_1_method_19_code
def yX3_isEntry : MethodName := ⟨RX3, "isEntry", "(II)Z"⟩
abbrev cX3_isEntry : ByteArray := prog_1_method_20_code
def yX3_isPlace : MethodName := ⟨RX3, "isPlace", "(I)Z"⟩
abbrev cX3_isPlace : ByteArray := prog_1_method_21_code
def yX3_isRegister : MethodName := ⟨RX3, "isRegister", "(I)Z"⟩
abbrev cX3_isRegister : ByteArray := prog_1_method_22_code
def yX3_isWord : MethodName := ⟨RX3, "isWord", "(I)Z"⟩
abbrev cX3_isWord : ByteArray := prog_1_method_23_code
def yX3_isLine : MethodName := ⟨RX3, "isLine", "(I)Z"⟩
abbrev cX3_isLine : ByteArray := prog_1_method_24_code
def TX4 : u_T := fun k => match k with
  | 0 => ("StoreBufferCoresModel", "cores", "I", true)
  | 1 => ("StoreBufferCoresModel", "room", "I", true)
  | 2 => ("StoreBufferCoresModel", "codes", "[I", true)
  | 3 => ("StoreBufferCoresModel", "firsts", "[I", true)
  | 4 => ("StoreBufferCoresModel", "seconds", "[I", true)
  | 5 => ("StoreBufferCoresModel", "numbers", "[I", true)
  | 6 => ("StoreBufferCoresModel", "registers", "[I", true)
  | 7 => ("StoreBufferCoresModel", "place", "[I", true)
  | 8 => ("StoreBufferCoresModel", "recovery", "[I", true)
  | 9 => ("StoreBufferCoresModel", "held", "[I", true)
  | 10 => ("StoreBufferCoresModel", "kind", "[I", true)
  | 11 => ("StoreBufferCoresModel", "target", "[I", true)
  | 12 => ("StoreBufferCoresModel", "value", "[I", true)
  | 13 => ("StoreBufferCoresModel", "memory", "[I", true)
  | 14 => ("StoreBufferCoresModel", "storage", "[I", true)
  | 15 => ("StoreBufferCoresModel", "time", "I", false)
  | 16 => ("StoreBufferCoresModel", "putAt", "[I", true)
  | _ => ("StoreBufferCoresModel", "backAt", "[I", true)
def tyX4 : Nat → FieldType := fun k => match k with
  | 0 => .int
  | 1 => .int
  | 2 => .array .int
  | 3 => .array .int
  | 4 => .array .int
  | 5 => .array .int
  | 6 => .array .int
  | 7 => .array .int
  | 8 => .array .int
  | 9 => .array .int
  | 10 => .array .int
  | 11 => .array .int
  | 12 => .array .int
  | 13 => .array .int
  | 14 => .array .int
  | 15 => .int
  | 16 => .array .int
  | _ => .array .int
theorem nmX4 : ∀ a, a < 18 → ∀ b, b < 18 → a ≠ b → (TX4 a).2.1 ≠ (TX4 b).2.1 := by decide +kernel
theorem tyX4_ok : ∀ k, k < 18 → parseFieldDescriptor (TX4 k).2.2.1 = some (tyX4 k) := by decide +kernel
def yX4_init : MethodName := ⟨RX4, "<init>", "(II)V"⟩
abbrev cX4_init : ByteArray := prog_6_method_1_code
def yX4_isCore : MethodName := ⟨RX4, "isCore", "(I)Z"⟩
abbrev cX4_isCore : ByteArray := prog_6_method_2_code
def yX4_put : MethodName := ⟨RX4, "put", "(IIIIII)Z"⟩
abbrev cX4_put : ByteArray := prog_6_method_3_code
def yX4_recovery : MethodName := ⟨RX4, "recovery", "(II)Z"⟩
abbrev cX4_recovery : ByteArray := prog_6_method_4_code
def yX4_store : MethodName := ⟨RX4, "store", "(II)V"⟩
abbrev cX4_store : ByteArray := prog_6_method_5_code
def yX4_writeBack : MethodName := ⟨RX4, "writeBack", "(I)V"⟩
abbrev cX4_writeBack : ByteArray := prog_6_method_6_code
def yX4_evict : MethodName := ⟨RX4, "evict", "(I)Z"⟩
abbrev cX4_evict : ByteArray := prog_6_method_7_code
def yX4_dirty : MethodName := ⟨RX4, "dirty", "(I)Z"⟩
abbrev cX4_dirty : ByteArray := prog_6_method_8_code
def yX4_crash : MethodName := ⟨RX4, "crash", "()V"⟩
abbrev cX4_crash : ByteArray := prog_6_method_9_code
def yX4_lineOf : MethodName := ⟨RX4, "lineOf", "(I)I"⟩
abbrev cX4_lineOf : ByteArray := prog_6_method_10_code
def yX4_passes : MethodName := ⟨RX4, "passes", "(II)Z"⟩
abbrev cX4_passes : ByteArray := prog_6_method_11_code
def yX4_drain : MethodName := ⟨RX4, "drain", "(II)Z"⟩
abbrev cX4_drain : ByteArray := prog_6_method_12_code
def yX4_settle : MethodName := ⟨RX4, "settle", "(I)I"⟩
abbrev cX4_settle : ByteArray := prog_6_method_13_code
def yX4_append : MethodName := ⟨RX4, "append", "(IIII)I"⟩
abbrev cX4_append : ByteArray := prog_6_method_14_code
def yX4_sees : MethodName := ⟨RX4, "sees", "(II)I"⟩
abbrev cX4_sees : ByteArray := prog_6_method_15_code
def yX4_step : MethodName := ⟨RX4, "step", "(I)I"⟩
abbrev cX4_step : ByteArray := prog_6_method_16_code
def yX4_swap : MethodName := ⟨RX4, "swap", "(III)V"⟩
abbrev cX4_swap : ByteArray := prog_6_method_17_code
def yX4_run : MethodName := ⟨RX4, "run", "(II)I"⟩
abbrev cX4_run : ByteArray := prog_6_method_18_code
def yX4_register : MethodName := ⟨RX4, "register", "(II)I"⟩
abbrev cX4_register : ByteArray := prog_6_method_19_code
def yX4_place : MethodName := ⟨RX4, "place", "(I)I"⟩
abbrev cX4_place : ByteArray := prog_6_method_20_code
def yX4_pending : MethodName := ⟨RX4, "pending", "(I)I"⟩
abbrev cX4_pending : ByteArray := prog_6_method_21_code
def yX4_entry : MethodName := ⟨RX4, "entry", "(III)I"⟩
abbrev cX4_entry : ByteArray := prog_6_method_22_code
def yX4_memory : MethodName := ⟨RX4, "memory", "(I)I"⟩
abbrev cX4_memory : ByteArray := prog_6_method_23_code
def yX4_storage : MethodName := ⟨RX4, "storage", "(I)I"⟩
abbrev cX4_storage : ByteArray := prog_6_method_24_code
def yX4_cores : MethodName := ⟨RX4, "cores", "()I"⟩
abbrev cX4_cores : ByteArray := prog_6_method_25_code
def yL_cell : MethodName := ⟨RL, "cell", "([II)I"⟩
abbrev cL_cell : ByteArray := method_2_code
def yL_law : MethodName := ⟨RL, "law", "([I)Z"⟩
abbrev cL_law : ByteArray := code
abbrev vwCl : List vw_C := [(RX0, TX0, 4), (RX1, TX1, 8), (RX2, TX2, 3), (RX3, TX3, 2), (RX4, TX4, 18)]
def bg : List Cond := lw_tbl.filter goodWord
theorem bg_good {w : Cond} (h : w ∈ bg) : (w.onTables && w.keeps) = true ∨ ∃ ty, w = .arrayClass ty := good_of_word (List.mem_filter.mp h).2
theorem bg_in1 {w : Cond} (h : w ∈ tables_1_1) (hg : goodWord w = true) : w ∈ bg := List.mem_filter.mpr ⟨List.mem_append_right _ (List.mem_append_left _ h), hg⟩
theorem bg_in2 {w : Cond} (h : w ∈ tables_1_2) (hg : goodWord w = true) : w ∈ bg := List.mem_filter.mpr ⟨List.mem_append_right _ (List.mem_append_right _ h), hg⟩
theorem bg_sel {y : MethodName} {n : Nat} (h : (y, n) ∈ lw_privs) : Cond.selects y.cls y y ∈ bg := List.mem_filter.mpr ⟨List.mem_append_left _ (List.mem_map.mpr ⟨(y, n), h, rfl⟩), rfl⟩
theorem bg_gi {Ts : List Cond} {c1 : Cond} (hT : ∀ w ∈ bg, w ∈ Ts) (h1 : c1 ∈ bg) : GoodIn Ts (c1 :: bg) := by
  intro w hw
  rcases List.mem_cons.mp hw with e | h
  · rw [e]; exact ⟨hT _ h1, bg_good h1⟩
  · exact ⟨hT _ h, bg_good h⟩
theorem bg_gV {Ts : List Cond} {c1 : Cond} {own C : String} {idx : Nat} {y : MethodName} (hT : ∀ w ∈ bg, w ∈ Ts) (h1 : Cond.methodLink own idx y ∈ bg) (h2 : Cond.instanceMethod y ∈ bg) (h3 : Cond.selects C y y ∈ bg) (h4 : Cond.initialized C ∈ bg) (hc : c1 ∈ bg) : GoodIn Ts (wsV own idx C y (c1 :: bg)) := by
  intro w hw
  unfold wsV at hw
  rcases List.mem_append.mp hw with h | h
  · simp only [List.mem_cons, List.not_mem_nil, or_false] at h
    rcases h with rfl | rfl | rfl | rfl
    · exact ⟨hT _ h1, bg_good h1⟩
    · exact ⟨hT _ h2, bg_good h2⟩
    · exact ⟨hT _ h3, bg_good h3⟩
    · exact ⟨hT _ h4, bg_good h4⟩
  · exact bg_gi hT hc w h
theorem bg_gS {Ts : List Cond} {c1 : Cond} {own : String} {idx : Nat} {y : MethodName} (hT : ∀ w ∈ bg, w ∈ Ts) (h1 : Cond.methodLink own idx y ∈ bg) (h2 : Cond.static y ∈ bg) (h4 : Cond.initialized y.cls ∈ bg) (hc : c1 ∈ bg) : GoodIn Ts (va_wsS own idx y (c1 :: bg)) := by
  intro w hw
  unfold va_wsS at hw
  rcases List.mem_append.mp hw with h | h
  · simp only [List.mem_cons, List.not_mem_nil, or_false] at h
    rcases h with rfl | rfl | rfl
    · exact ⟨hT _ h1, bg_good h1⟩
    · exact ⟨hT _ h2, bg_good h2⟩
    · exact ⟨hT _ h4, bg_good h4⟩
  · exact bg_gi hT hc w h
def wsX0_init : List Cond := .code yX0_init cX0_init 2 none :: bg
def wsX0_isFull : List Cond := .code yX0_isFull cX0_isFull 1 (some .boolean) :: bg
def wsX0_append : List Cond := .code yX0_append cX0_append 4 none :: bg
def wsX0_newestValue : List Cond := .code yX0_newestValue cX0_newestValue 4 (some .int) :: bg
def wsX0_mayLeave : List Cond := .code yX0_mayLeave cX0_mayLeave 3 (some .boolean) :: bg
def wsX0_letsPass : List Cond := .code yX0_letsPass cX0_letsPass 5 (some .boolean) :: bg
def wsX0_lineOf : List Cond := .code yX0_lineOf cX0_lineOf 2 (some .int) :: bg
def wsX0_letOut : List Cond := .code yX0_letOut cX0_letOut 3 none :: bg
def wsX0_remove : List Cond := .code yX0_remove cX0_remove 3 none :: bg
def wsX1_init : List Cond := .code yX1_init cX1_init 2 none :: bg
def wsX1_setInstruction : List Cond := .code yX1_setInstruction cX1_setInstruction 6 none :: bg
def wsX1_doInstruction : List Cond := .code yX1_doInstruction cX1_doInstruction 3 (some .int) :: bg
def wsX1_mustWait : List Cond := .code yX1_mustWait cX1_mustWait 2 (some .boolean) :: bg
def wsX1_nextPlace : List Cond := .code yX1_nextPlace cX1_nextPlace 2 (some .int) :: bg
def wsX1_perform : List Cond := .code yX1_perform cX1_perform 6 none :: bg
def wsX1_swap : List Cond := .code yX1_swap cX1_swap 4 none :: bg
def wsX1_beginAgain : List Cond := .code yX1_beginAgain cX1_beginAgain 2 none :: bg
def wsX2_init : List Cond := .code yX2_init cX2_init 1 none :: bg
def wsX2_write : List Cond := .code yX2_write cX2_write 3 none :: bg
def wsX2_writeBack : List Cond := .code yX2_writeBack cX2_writeBack 4 none :: bg
def wsX2_fallBackToStorage : List Cond := .code yX2_fallBackToStorage cX2_fallBackToStorage 2 none :: bg
def wsX3_init : List Cond := .code yX3_init cX3_init 6 none :: bg
def wsX3_put : List Cond := .code yX3_put cX3_put 7 (some .boolean) :: bg
def wsX3_recovery : List Cond := .code yX3_recovery cX3_recovery 3 (some .boolean) :: bg
def wsX3_step : List Cond := .code yX3_step cX3_step 2 (some .int) :: bg
def wsX3_run : List Cond := .code yX3_run cX3_run 4 (some .int) :: bg
def wsX3_drain : List Cond := .code yX3_drain cX3_drain 3 (some .boolean) :: bg
def wsX3_settle : List Cond := .code yX3_settle cX3_settle 5 (some .int) :: bg
def wsX3_evict : List Cond := .code yX3_evict cX3_evict 2 (some .boolean) :: bg
def wsX3_crash : List Cond := .code yX3_crash cX3_crash 2 none :: bg
def wsX3_register : List Cond := .code yX3_register cX3_register 3 (some .int) :: bg
def wsX3_place : List Cond := .code yX3_place cX3_place 2 (some .int) :: bg
def wsX3_pending : List Cond := .code yX3_pending cX3_pending 2 (some .int) :: bg
def wsX3_entry : List Cond := .code yX3_entry cX3_entry 5 (some .int) :: bg
def wsX3_sees : List Cond := .code yX3_sees cX3_sees 3 (some .int) :: bg
def wsX3_memory : List Cond := .code yX3_memory cX3_memory 2 (some .int) :: bg
def wsX3_storage : List Cond := .code yX3_storage cX3_storage 2 (some .int) :: bg
def wsX3_dirty : List Cond := .code yX3_dirty cX3_dirty 2 (some .boolean) :: bg
def wsX3_cores : List Cond := .code yX3_cores cX3_cores 1 (some .int) :: bg
def wsX3_isCore : List Cond := .code yX3_isCore cX3_isCore 2 (some .boolean) :: bg
def wsX3_isEntry : List Cond := .code yX3_isEntry cX3_isEntry 3 (some .boolean) :: bg
def wsX3_isPlace : List Cond := .code yX3_isPlace cX3_isPlace 1 (some .boolean) :: bg
def wsX3_isRegister : List Cond := .code yX3_isRegister cX3_isRegister 1 (some .boolean) :: bg
def wsX3_isWord : List Cond := .code yX3_isWord cX3_isWord 1 (some .boolean) :: bg
def wsX3_isLine : List Cond := .code yX3_isLine cX3_isLine 1 (some .boolean) :: bg
def wsX4_init : List Cond := .code yX4_init cX4_init 3 none :: bg
def wsX4_isCore : List Cond := .code yX4_isCore cX4_isCore 2 (some .boolean) :: bg
def wsX4_put : List Cond := .code yX4_put cX4_put 8 (some .boolean) :: bg
def wsX4_recovery : List Cond := .code yX4_recovery cX4_recovery 3 (some .boolean) :: bg
def wsX4_store : List Cond := .code yX4_store cX4_store 3 none :: bg
def wsX4_writeBack : List Cond := .code yX4_writeBack cX4_writeBack 3 none :: bg
def wsX4_evict : List Cond := .code yX4_evict cX4_evict 2 (some .boolean) :: bg
def wsX4_dirty : List Cond := .code yX4_dirty cX4_dirty 4 (some .boolean) :: bg
def wsX4_crash : List Cond := .code yX4_crash cX4_crash 2 none :: bg
def wsX4_lineOf : List Cond := .code yX4_lineOf cX4_lineOf 2 (some .int) :: bg
def wsX4_passes : List Cond := .code yX4_passes cX4_passes 5 (some .boolean) :: bg
def wsX4_drain : List Cond := .code yX4_drain cX4_drain 5 (some .boolean) :: bg
def wsX4_settle : List Cond := .code yX4_settle cX4_settle 3 (some .int) :: bg
def wsX4_append : List Cond := .code yX4_append cX4_append 6 (some .int) :: bg
def wsX4_sees : List Cond := .code yX4_sees cX4_sees 5 (some .int) :: bg
def wsX4_step : List Cond := .code yX4_step cX4_step 7 (some .int) :: bg
def wsX4_swap : List Cond := .code yX4_swap cX4_swap 4 none :: bg
def wsX4_run : List Cond := .code yX4_run cX4_run 4 (some .int) :: bg
def wsX4_register : List Cond := .code yX4_register cX4_register 3 (some .int) :: bg
def wsX4_place : List Cond := .code yX4_place cX4_place 2 (some .int) :: bg
def wsX4_pending : List Cond := .code yX4_pending cX4_pending 2 (some .int) :: bg
def wsX4_entry : List Cond := .code yX4_entry cX4_entry 5 (some .int) :: bg
def wsX4_memory : List Cond := .code yX4_memory cX4_memory 2 (some .int) :: bg
def wsX4_storage : List Cond := .code yX4_storage cX4_storage 2 (some .int) :: bg
def wsX4_cores : List Cond := .code yX4_cores cX4_cores 1 (some .int) :: bg
def wsL_cell : List Cond := .code yL_cell cL_cell 2 (some .int) :: bg
end
section
set_option maxRecDepth 20000 in
theorem bw_1_0 : Cond.initialized RL ∈ bg := bg_in1 (List.mem_of_getElem? (i := 0) (by decide +kernel)) (by rfl)
set_option maxRecDepth 20000 in
theorem bw_1_1 : Cond.initialized RX3 ∈ bg := bg_in1 (List.mem_of_getElem? (i := 1) (by decide +kernel)) (by rfl)
set_option maxRecDepth 20000 in
theorem bw_1_2 : Cond.initialized RX2 ∈ bg := bg_in1 (List.mem_of_getElem? (i := 2) (by decide +kernel)) (by rfl)
set_option maxRecDepth 20000 in
theorem bw_1_3 : Cond.initialized RX1 ∈ bg := bg_in1 (List.mem_of_getElem? (i := 3) (by decide +kernel)) (by rfl)
set_option maxRecDepth 20000 in
theorem bw_1_4 : Cond.initialized RX0 ∈ bg := bg_in1 (List.mem_of_getElem? (i := 4) (by decide +kernel)) (by rfl)
set_option maxRecDepth 20000 in
theorem bw_1_5 : Cond.initialized RX4 ∈ bg := bg_in1 (List.mem_of_getElem? (i := 5) (by decide +kernel)) (by rfl)
set_option maxRecDepth 20000 in
theorem bw_1_6 : Cond.classLink RL 7 RX3 ∈ bg := bg_in1 (List.mem_of_getElem? (i := 6) (by decide +kernel)) (by rfl)
set_option maxRecDepth 20000 in
theorem bw_1_7 : Cond.instantiable RX3 2 ∈ bg := bg_in1 (List.mem_of_getElem? (i := 7) (by decide +kernel)) (by rfl)
set_option maxRecDepth 20000 in
theorem bw_1_8 : Cond.methodLink RL 15 yX3_init ∈ bg := bg_in1 (List.mem_of_getElem? (i := 8) (by decide +kernel)) (by rfl)
set_option maxRecDepth 20000 in
theorem bw_1_9 : Cond.instanceMethod yX3_init ∈ bg := bg_in1 (List.mem_of_getElem? (i := 9) (by decide +kernel)) (by rfl)
set_option maxRecDepth 20000 in
theorem bw_1_10 : Cond.code yX3_init cX3_init 6 none ∈ bg := bg_in1 (List.mem_of_getElem? (i := 10) (rfl)) (by rfl)
set_option maxRecDepth 20000 in
theorem bw_1_11 : Cond.methodLink RX3 3 objectInit ∈ bg := bg_in1 (List.mem_of_getElem? (i := 11) (by decide +kernel)) (by rfl)
set_option maxRecDepth 20000 in
theorem bw_1_12 : Cond.instanceMethod objectInit ∈ bg := bg_in1 (List.mem_of_getElem? (i := 12) (by decide +kernel)) (by rfl)
set_option maxRecDepth 20000 in
theorem bw_1_13 : Cond.code objectInit ⟨#[0xb1]⟩ 1 none ∈ bg := bg_in1 (List.mem_of_getElem? (i := 13) (rfl)) (by rfl)
set_option maxRecDepth 20000 in
theorem bw_1_14 : Cond.classLink RX3 9 RX2 ∈ bg := bg_in1 (List.mem_of_getElem? (i := 14) (by decide +kernel)) (by rfl)
set_option maxRecDepth 20000 in
theorem bw_1_15 : Cond.instantiable RX2 3 ∈ bg := bg_in1 (List.mem_of_getElem? (i := 15) (by decide +kernel)) (by rfl)
set_option maxRecDepth 20000 in
theorem bw_1_17 : Cond.instanceMethod yX2_init ∈ bg := bg_in1 (List.mem_of_getElem? (i := 17) (by decide +kernel)) (by rfl)
set_option maxRecDepth 20000 in
theorem bw_1_18 : Cond.code yX2_init cX2_init 1 none ∈ bg := bg_in1 (List.mem_of_getElem? (i := 18) (rfl)) (by rfl)
set_option maxRecDepth 20000 in
theorem bw_1_19 : Cond.methodLink RX2 3 objectInit ∈ bg := bg_in1 (List.mem_of_getElem? (i := 19) (by decide +kernel)) (by rfl)
set_option maxRecDepth 20000 in
theorem bw_1_20 : Cond.fieldLink RX2 9 "StoreBufferCores$SharedMemory" "words" "[I" ∈ bg := bg_in1 (List.mem_of_getElem? (i := 20) (by decide +kernel)) (by rfl)
set_option maxRecDepth 20000 in
theorem bw_1_23 : Cond.fieldLink RX2 15 "StoreBufferCores$SharedMemory" "stored" "[I" ∈ bg := bg_in1 (List.mem_of_getElem? (i := 23) (by decide +kernel)) (by rfl)
set_option maxRecDepth 20000 in
theorem bw_1_25 : Cond.fieldLink RX2 18 "StoreBufferCores$SharedMemory" "unwritten" "[Z" ∈ bg := bg_in1 (List.mem_of_getElem? (i := 25) (by decide +kernel)) (by rfl)
set_option maxRecDepth 20000 in
theorem bw_1_27 : Cond.laysFinal "StoreBufferCores$SharedMemory" "StoreBufferCores$SharedMemory" "words" "[I" ∈ bg := bg_in1 (List.mem_of_getElem? (i := 27) (by decide +kernel)) (by rfl)
set_option maxRecDepth 20000 in
theorem bw_1_29 : Cond.laysFinal "StoreBufferCores$SharedMemory" "StoreBufferCores$SharedMemory" "stored" "[I" ∈ bg := bg_in1 (List.mem_of_getElem? (i := 29) (by decide +kernel)) (by rfl)
set_option maxRecDepth 20000 in
theorem bw_1_31 : Cond.laysFinal "StoreBufferCores$SharedMemory" "StoreBufferCores$SharedMemory" "unwritten" "[Z" ∈ bg := bg_in1 (List.mem_of_getElem? (i := 31) (by decide +kernel)) (by rfl)
set_option maxRecDepth 20000 in
theorem bw_1_34 : Cond.arrayClass .int ∈ bg := bg_in1 (List.mem_of_getElem? (i := 34) (by decide +kernel)) (by rfl)
set_option maxRecDepth 20000 in
theorem bw_1_35 : Cond.arrayClass .boolean ∈ bg := bg_in1 (List.mem_of_getElem? (i := 35) (by decide +kernel)) (by rfl)
set_option maxRecDepth 20000 in
theorem bw_1_36 : Cond.classLink RX3 16 RX1 ∈ bg := bg_in1 (List.mem_of_getElem? (i := 36) (by decide +kernel)) (by rfl)
set_option maxRecDepth 20000 in
theorem bw_1_38 : Cond.instantiable RX1 8 ∈ bg := bg_in1 (List.mem_of_getElem? (i := 38) (by decide +kernel)) (by rfl)
set_option maxRecDepth 20000 in
theorem bw_1_40 : Cond.instanceMethod yX1_init ∈ bg := bg_in1 (List.mem_of_getElem? (i := 40) (by decide +kernel)) (by rfl)
set_option maxRecDepth 20000 in
theorem bw_1_41 : Cond.code yX1_init cX1_init 2 none ∈ bg := bg_in1 (List.mem_of_getElem? (i := 41) (rfl)) (by rfl)
set_option maxRecDepth 20000 in
theorem bw_1_42 : Cond.methodLink RX1 3 objectInit ∈ bg := bg_in1 (List.mem_of_getElem? (i := 42) (by decide +kernel)) (by rfl)
set_option maxRecDepth 20000 in
theorem bw_1_43 : Cond.classLink RX1 27 RX0 ∈ bg := bg_in1 (List.mem_of_getElem? (i := 43) (by decide +kernel)) (by rfl)
set_option maxRecDepth 20000 in
theorem bw_1_44 : Cond.instantiable RX0 4 ∈ bg := bg_in1 (List.mem_of_getElem? (i := 44) (by decide +kernel)) (by rfl)
set_option maxRecDepth 20000 in
theorem bw_1_46 : Cond.instanceMethod yX0_init ∈ bg := bg_in1 (List.mem_of_getElem? (i := 46) (by decide +kernel)) (by rfl)
set_option maxRecDepth 20000 in
theorem bw_1_47 : Cond.code yX0_init cX0_init 2 none ∈ bg := bg_in1 (List.mem_of_getElem? (i := 47) (rfl)) (by rfl)
set_option maxRecDepth 20000 in
theorem bw_1_48 : Cond.methodLink RX0 3 objectInit ∈ bg := bg_in1 (List.mem_of_getElem? (i := 48) (by decide +kernel)) (by rfl)
set_option maxRecDepth 20000 in
theorem bw_1_49 : Cond.fieldLink RX0 9 "StoreBufferCores$Buffer" "kinds" "[I" ∈ bg := bg_in1 (List.mem_of_getElem? (i := 49) (by decide +kernel)) (by rfl)
set_option maxRecDepth 20000 in
theorem bw_1_51 : Cond.fieldLink RX0 15 "StoreBufferCores$Buffer" "targets" "[I" ∈ bg := bg_in1 (List.mem_of_getElem? (i := 51) (by decide +kernel)) (by rfl)
set_option maxRecDepth 20000 in
theorem bw_1_53 : Cond.fieldLink RX0 18 "StoreBufferCores$Buffer" "values" "[I" ∈ bg := bg_in1 (List.mem_of_getElem? (i := 53) (by decide +kernel)) (by rfl)
set_option maxRecDepth 20000 in
theorem bw_1_55 : Cond.fieldLink RX0 21 "StoreBufferCores$Buffer" "count" "I" ∈ bg := bg_in1 (List.mem_of_getElem? (i := 55) (by decide +kernel)) (by rfl)
set_option maxRecDepth 20000 in
theorem bw_1_58 : Cond.laysFinal "StoreBufferCores$Buffer" "StoreBufferCores$Buffer" "kinds" "[I" ∈ bg := bg_in1 (List.mem_of_getElem? (i := 58) (by decide +kernel)) (by rfl)
set_option maxRecDepth 20000 in
theorem bw_1_60 : Cond.laysFinal "StoreBufferCores$Buffer" "StoreBufferCores$Buffer" "targets" "[I" ∈ bg := bg_in1 (List.mem_of_getElem? (i := 60) (by decide +kernel)) (by rfl)
set_option maxRecDepth 20000 in
theorem bw_1_62 : Cond.laysFinal "StoreBufferCores$Buffer" "StoreBufferCores$Buffer" "values" "[I" ∈ bg := bg_in1 (List.mem_of_getElem? (i := 62) (by decide +kernel)) (by rfl)
set_option maxRecDepth 20000 in
theorem bw_1_64 : Cond.lays "StoreBufferCores$Buffer" "StoreBufferCores$Buffer" "count" "I" ∈ bg := bg_in1 (List.mem_of_getElem? (i := 64) (by decide +kernel)) (by rfl)
set_option maxRecDepth 20000 in
theorem bw_1_67 : Cond.fieldLink RX1 9 "StoreBufferCores$Core" "registers" "[I" ∈ bg := bg_in1 (List.mem_of_getElem? (i := 67) (by decide +kernel)) (by rfl)
set_option maxRecDepth 20000 in
theorem bw_1_69 : Cond.fieldLink RX1 15 "StoreBufferCores$Core" "codes" "[I" ∈ bg := bg_in1 (List.mem_of_getElem? (i := 69) (by decide +kernel)) (by rfl)
set_option maxRecDepth 20000 in
theorem bw_1_70 : Cond.fieldLink RX1 18 "StoreBufferCores$Core" "xs" "[I" ∈ bg := bg_in1 (List.mem_of_getElem? (i := 70) (by decide +kernel)) (by rfl)
set_option maxRecDepth 20000 in
theorem bw_1_71 : Cond.fieldLink RX1 21 "StoreBufferCores$Core" "ys" "[I" ∈ bg := bg_in1 (List.mem_of_getElem? (i := 71) (by decide +kernel)) (by rfl)
set_option maxRecDepth 20000 in
theorem bw_1_72 : Cond.fieldLink RX1 24 "StoreBufferCores$Core" "numbers" "[I" ∈ bg := bg_in1 (List.mem_of_getElem? (i := 72) (by decide +kernel)) (by rfl)
set_option maxRecDepth 20000 in
theorem bw_1_73 : Cond.fieldLink RX1 32 "StoreBufferCores$Core" "buffer" "LStoreBufferCores$Buffer;" ∈ bg := bg_in1 (List.mem_of_getElem? (i := 73) (by decide +kernel)) (by rfl)
set_option maxRecDepth 20000 in
theorem bw_1_75 : Cond.fieldLink RX1 36 "StoreBufferCores$Core" "pc" "I" ∈ bg := bg_in1 (List.mem_of_getElem? (i := 75) (by decide +kernel)) (by rfl)
set_option maxRecDepth 20000 in
theorem bw_1_78 : Cond.fieldLink RX1 80 "StoreBufferCores$Core" "recoveryEntry" "I" ∈ bg := bg_in1 (List.mem_of_getElem? (i := 78) (by decide +kernel)) (by rfl)
set_option maxRecDepth 20000 in
theorem bw_1_79 : Cond.laysFinal "StoreBufferCores$Core" "StoreBufferCores$Core" "registers" "[I" ∈ bg := bg_in1 (List.mem_of_getElem? (i := 79) (by decide +kernel)) (by rfl)
set_option maxRecDepth 20000 in
theorem bw_1_81 : Cond.laysFinal "StoreBufferCores$Core" "StoreBufferCores$Core" "codes" "[I" ∈ bg := bg_in1 (List.mem_of_getElem? (i := 81) (by decide +kernel)) (by rfl)
set_option maxRecDepth 20000 in
theorem bw_1_83 : Cond.laysFinal "StoreBufferCores$Core" "StoreBufferCores$Core" "xs" "[I" ∈ bg := bg_in1 (List.mem_of_getElem? (i := 83) (by decide +kernel)) (by rfl)
set_option maxRecDepth 20000 in
theorem bw_1_85 : Cond.laysFinal "StoreBufferCores$Core" "StoreBufferCores$Core" "ys" "[I" ∈ bg := bg_in1 (List.mem_of_getElem? (i := 85) (by decide +kernel)) (by rfl)
set_option maxRecDepth 20000 in
theorem bw_1_87 : Cond.laysFinal "StoreBufferCores$Core" "StoreBufferCores$Core" "numbers" "[I" ∈ bg := bg_in1 (List.mem_of_getElem? (i := 87) (by decide +kernel)) (by rfl)
set_option maxRecDepth 20000 in
theorem bw_1_89 : Cond.laysFinal "StoreBufferCores$Core" "StoreBufferCores$Core" "buffer" "LStoreBufferCores$Buffer;" ∈ bg := bg_in1 (List.mem_of_getElem? (i := 89) (by decide +kernel)) (by rfl)
set_option maxRecDepth 20000 in
theorem bw_1_91 : Cond.lays "StoreBufferCores$Core" "StoreBufferCores$Core" "pc" "I" ∈ bg := bg_in1 (List.mem_of_getElem? (i := 91) (by decide +kernel)) (by rfl)
set_option maxRecDepth 20000 in
theorem bw_1_93 : Cond.lays "StoreBufferCores$Core" "StoreBufferCores$Core" "recoveryEntry" "I" ∈ bg := bg_in1 (List.mem_of_getElem? (i := 93) (by decide +kernel)) (by rfl)
set_option maxRecDepth 20000 in
theorem bw_1_96 : Cond.fieldLink RX3 12 "StoreBufferCores" "shared" "LStoreBufferCores$SharedMemory;" ∈ bg := bg_in1 (List.mem_of_getElem? (i := 96) (by decide +kernel)) (by rfl)
set_option maxRecDepth 20000 in
theorem bw_1_97 : Cond.fieldLink RX3 18 "StoreBufferCores" "row" "[LStoreBufferCores$Core;" ∈ bg := bg_in1 (List.mem_of_getElem? (i := 97) (by decide +kernel)) (by rfl)
set_option maxRecDepth 20000 in
theorem bw_1_98 : Cond.laysFinal "StoreBufferCores" "StoreBufferCores" "shared" "LStoreBufferCores$SharedMemory;" ∈ bg := bg_in1 (List.mem_of_getElem? (i := 98) (by decide +kernel)) (by rfl)
set_option maxRecDepth 20000 in
theorem bw_1_100 : Cond.laysFinal "StoreBufferCores" "StoreBufferCores" "row" "[LStoreBufferCores$Core;" ∈ bg := bg_in1 (List.mem_of_getElem? (i := 100) (by decide +kernel)) (by rfl)
set_option maxRecDepth 20000 in
theorem bw_1_103 : Cond.methodLink RL 21 yX3_put ∈ bg := bg_in1 (List.mem_of_getElem? (i := 103) (by decide +kernel)) (by rfl)
set_option maxRecDepth 20000 in
theorem bw_1_104 : Cond.instanceMethod yX3_put ∈ bg := bg_in1 (List.mem_of_getElem? (i := 104) (by decide +kernel)) (by rfl)
set_option maxRecDepth 20000 in
theorem bw_1_105 : Cond.selects RX3 yX3_put yX3_put ∈ bg := bg_in1 (List.mem_of_getElem? (i := 105) (by decide +kernel)) (by rfl)
set_option maxRecDepth 20000 in
theorem bw_1_106 : Cond.code yX3_put cX3_put 7 (some .boolean) ∈ bg := bg_in1 (List.mem_of_getElem? (i := 106) (rfl)) (by rfl)
set_option maxRecDepth 20000 in
theorem bw_1_107 : Cond.methodLink RX3 25 yX3_isCore ∈ bg := bg_in1 (List.mem_of_getElem? (i := 107) (by decide +kernel)) (by rfl)
set_option maxRecDepth 20000 in
theorem bw_1_109 : Cond.instanceMethod yX3_isCore ∈ bg := bg_in1 (List.mem_of_getElem? (i := 109) (by decide +kernel)) (by rfl)
set_option maxRecDepth 20000 in
theorem bw_1_110 : Cond.code yX3_isCore cX3_isCore 2 (some .boolean) ∈ bg := bg_in1 (List.mem_of_getElem? (i := 110) (rfl)) (by rfl)
set_option maxRecDepth 20000 in
theorem bw_1_111 : Cond.methodLink RX3 29 yX3_isPlace ∈ bg := bg_in1 (List.mem_of_getElem? (i := 111) (by decide +kernel)) (by rfl)
set_option maxRecDepth 20000 in
theorem bw_1_112 : Cond.static yX3_isPlace ∈ bg := bg_in1 (List.mem_of_getElem? (i := 112) (by decide +kernel)) (by rfl)
set_option maxRecDepth 20000 in
theorem bw_1_113 : Cond.code yX3_isPlace cX3_isPlace 1 (some .boolean) ∈ bg := bg_in1 (List.mem_of_getElem? (i := 113) (rfl)) (by rfl)
set_option maxRecDepth 20000 in
theorem bw_1_114 : Cond.methodLink RX3 32 yX3_isRegister ∈ bg := bg_in1 (List.mem_of_getElem? (i := 114) (by decide +kernel)) (by rfl)
set_option maxRecDepth 20000 in
theorem bw_1_115 : Cond.static yX3_isRegister ∈ bg := bg_in1 (List.mem_of_getElem? (i := 115) (by decide +kernel)) (by rfl)
set_option maxRecDepth 20000 in
theorem bw_1_116 : Cond.code yX3_isRegister cX3_isRegister 1 (some .boolean) ∈ bg := bg_in1 (List.mem_of_getElem? (i := 116) (rfl)) (by rfl)
set_option maxRecDepth 20000 in
theorem bw_1_119 : Cond.instanceMethod yX1_setInstruction ∈ bg := bg_in1 (List.mem_of_getElem? (i := 119) (by decide +kernel)) (by rfl)
set_option maxRecDepth 20000 in
theorem bw_1_120 : Cond.code yX1_setInstruction cX1_setInstruction 6 none ∈ bg := bg_in1 (List.mem_of_getElem? (i := 120) (rfl)) (by rfl)
set_option maxRecDepth 20000 in
theorem bw_1_121 : Cond.methodLink RL 26 yX3_recovery ∈ bg := bg_in1 (List.mem_of_getElem? (i := 121) (by decide +kernel)) (by rfl)
set_option maxRecDepth 20000 in
theorem bw_1_122 : Cond.instanceMethod yX3_recovery ∈ bg := bg_in1 (List.mem_of_getElem? (i := 122) (by decide +kernel)) (by rfl)
set_option maxRecDepth 20000 in
theorem bw_1_123 : Cond.selects RX3 yX3_recovery yX3_recovery ∈ bg := bg_in1 (List.mem_of_getElem? (i := 123) (by decide +kernel)) (by rfl)
set_option maxRecDepth 20000 in
theorem bw_1_124 : Cond.code yX3_recovery cX3_recovery 3 (some .boolean) ∈ bg := bg_in1 (List.mem_of_getElem? (i := 124) (rfl)) (by rfl)
set_option maxRecDepth 20000 in
theorem bw_1_125 : Cond.methodLink RL 31 yX3_step ∈ bg := bg_in1 (List.mem_of_getElem? (i := 125) (by decide +kernel)) (by rfl)
set_option maxRecDepth 20000 in
theorem bw_1_126 : Cond.instanceMethod yX3_step ∈ bg := bg_in1 (List.mem_of_getElem? (i := 126) (by decide +kernel)) (by rfl)
set_option maxRecDepth 20000 in
theorem bw_1_127 : Cond.selects RX3 yX3_step yX3_step ∈ bg := bg_in1 (List.mem_of_getElem? (i := 127) (by decide +kernel)) (by rfl)
set_option maxRecDepth 20000 in
theorem bw_1_128 : Cond.code yX3_step cX3_step 2 (some .int) ∈ bg := bg_in1 (List.mem_of_getElem? (i := 128) (rfl)) (by rfl)
set_option maxRecDepth 20000 in
theorem bw_1_131 : Cond.instanceMethod yX1_doInstruction ∈ bg := bg_in1 (List.mem_of_getElem? (i := 131) (by decide +kernel)) (by rfl)
set_option maxRecDepth 20000 in
theorem bw_1_132 : Cond.code yX1_doInstruction cX1_doInstruction 3 (some .int) ∈ bg := bg_in1 (List.mem_of_getElem? (i := 132) (rfl)) (by rfl)
set_option maxRecDepth 20000 in
theorem bw_1_133 : Cond.methodLink RX1 40 yX1_mustWait ∈ bg := bg_in1 (List.mem_of_getElem? (i := 133) (by decide +kernel)) (by rfl)
set_option maxRecDepth 20000 in
theorem bw_1_135 : Cond.instanceMethod yX1_mustWait ∈ bg := bg_in1 (List.mem_of_getElem? (i := 135) (by decide +kernel)) (by rfl)
set_option maxRecDepth 20000 in
theorem bw_1_136 : Cond.code yX1_mustWait cX1_mustWait 2 (some .boolean) ∈ bg := bg_in1 (List.mem_of_getElem? (i := 136) (rfl)) (by rfl)
set_option maxRecDepth 20000 in
theorem bw_1_139 : Cond.instanceMethod yX0_isFull ∈ bg := bg_in1 (List.mem_of_getElem? (i := 139) (by decide +kernel)) (by rfl)
set_option maxRecDepth 20000 in
theorem bw_1_140 : Cond.code yX0_isFull cX0_isFull 1 (some .boolean) ∈ bg := bg_in1 (List.mem_of_getElem? (i := 140) (rfl)) (by rfl)
set_option maxRecDepth 20000 in
theorem bw_1_141 : Cond.methodLink RX1 44 yX1_nextPlace ∈ bg := bg_in1 (List.mem_of_getElem? (i := 141) (by decide +kernel)) (by rfl)
set_option maxRecDepth 20000 in
theorem bw_1_143 : Cond.instanceMethod yX1_nextPlace ∈ bg := bg_in1 (List.mem_of_getElem? (i := 143) (by decide +kernel)) (by rfl)
set_option maxRecDepth 20000 in
theorem bw_1_144 : Cond.code yX1_nextPlace cX1_nextPlace 2 (some .int) ∈ bg := bg_in1 (List.mem_of_getElem? (i := 144) (rfl)) (by rfl)
set_option maxRecDepth 20000 in
theorem bw_1_145 : Cond.methodLink RX1 48 yX1_perform ∈ bg := bg_in1 (List.mem_of_getElem? (i := 145) (by decide +kernel)) (by rfl)
set_option maxRecDepth 20000 in
theorem bw_1_147 : Cond.instanceMethod yX1_perform ∈ bg := bg_in1 (List.mem_of_getElem? (i := 147) (by decide +kernel)) (by rfl)
set_option maxRecDepth 20000 in
theorem bw_1_148 : Cond.code yX1_perform cX1_perform 6 none ∈ bg := bg_in1 (List.mem_of_getElem? (i := 148) (rfl)) (by rfl)
set_option maxRecDepth 20000 in
theorem bw_1_151 : Cond.instanceMethod yX0_newestValue ∈ bg := bg_in1 (List.mem_of_getElem? (i := 151) (by decide +kernel)) (by rfl)
set_option maxRecDepth 20000 in
theorem bw_1_152 : Cond.code yX0_newestValue cX0_newestValue 4 (some .int) ∈ bg := bg_in1 (List.mem_of_getElem? (i := 152) (rfl)) (by rfl)
set_option maxRecDepth 20000 in
theorem bw_1_155 : Cond.instanceMethod yX0_append ∈ bg := bg_in1 (List.mem_of_getElem? (i := 155) (by decide +kernel)) (by rfl)
set_option maxRecDepth 20000 in
theorem bw_1_156 : Cond.code yX0_append cX0_append 4 none ∈ bg := bg_in1 (List.mem_of_getElem? (i := 156) (rfl)) (by rfl)
set_option maxRecDepth 20000 in
theorem bw_1_157 : Cond.methodLink RX0 25 yX0_isFull ∈ bg := bg_in1 (List.mem_of_getElem? (i := 157) (by decide +kernel)) (by rfl)
set_option maxRecDepth 20000 in
theorem bw_1_158 : Cond.methodLink RX1 72 yX1_swap ∈ bg := bg_in1 (List.mem_of_getElem? (i := 158) (by decide +kernel)) (by rfl)
set_option maxRecDepth 20000 in
theorem bw_1_160 : Cond.instanceMethod yX1_swap ∈ bg := bg_in1 (List.mem_of_getElem? (i := 160) (by decide +kernel)) (by rfl)
set_option maxRecDepth 20000 in
theorem bw_1_161 : Cond.code yX1_swap cX1_swap 4 none ∈ bg := bg_in1 (List.mem_of_getElem? (i := 161) (rfl)) (by rfl)
set_option maxRecDepth 20000 in
theorem bw_1_164 : Cond.instanceMethod yX2_write ∈ bg := bg_in1 (List.mem_of_getElem? (i := 164) (by decide +kernel)) (by rfl)
set_option maxRecDepth 20000 in
theorem bw_1_165 : Cond.code yX2_write cX2_write 3 none ∈ bg := bg_in1 (List.mem_of_getElem? (i := 165) (rfl)) (by rfl)
set_option maxRecDepth 20000 in
theorem bw_1_166 : Cond.methodLink RL 36 yX3_run ∈ bg := bg_in1 (List.mem_of_getElem? (i := 166) (by decide +kernel)) (by rfl)
set_option maxRecDepth 20000 in
theorem bw_1_167 : Cond.instanceMethod yX3_run ∈ bg := bg_in1 (List.mem_of_getElem? (i := 167) (by decide +kernel)) (by rfl)
set_option maxRecDepth 20000 in
theorem bw_1_168 : Cond.selects RX3 yX3_run yX3_run ∈ bg := bg_in1 (List.mem_of_getElem? (i := 168) (by decide +kernel)) (by rfl)
set_option maxRecDepth 20000 in
theorem bw_1_169 : Cond.code yX3_run cX3_run 4 (some .int) ∈ bg := bg_in1 (List.mem_of_getElem? (i := 169) (rfl)) (by rfl)
set_option maxRecDepth 20000 in
theorem bw_1_170 : Cond.methodLink RL 41 yX3_drain ∈ bg := bg_in1 (List.mem_of_getElem? (i := 170) (by decide +kernel)) (by rfl)
set_option maxRecDepth 20000 in
theorem bw_1_171 : Cond.instanceMethod yX3_drain ∈ bg := bg_in1 (List.mem_of_getElem? (i := 171) (by decide +kernel)) (by rfl)
set_option maxRecDepth 20000 in
theorem bw_1_172 : Cond.selects RX3 yX3_drain yX3_drain ∈ bg := bg_in1 (List.mem_of_getElem? (i := 172) (by decide +kernel)) (by rfl)
set_option maxRecDepth 20000 in
theorem bw_1_173 : Cond.code yX3_drain cX3_drain 3 (some .boolean) ∈ bg := bg_in1 (List.mem_of_getElem? (i := 173) (rfl)) (by rfl)
set_option maxRecDepth 20000 in
theorem bw_1_174 : Cond.methodLink RX3 47 yX3_isEntry ∈ bg := bg_in1 (List.mem_of_getElem? (i := 174) (by decide +kernel)) (by rfl)
set_option maxRecDepth 20000 in
theorem bw_1_176 : Cond.instanceMethod yX3_isEntry ∈ bg := bg_in1 (List.mem_of_getElem? (i := 176) (by decide +kernel)) (by rfl)
set_option maxRecDepth 20000 in
theorem bw_1_177 : Cond.code yX3_isEntry cX3_isEntry 3 (some .boolean) ∈ bg := bg_in1 (List.mem_of_getElem? (i := 177) (rfl)) (by rfl)
set_option maxRecDepth 20000 in
theorem bw_1_180 : Cond.instanceMethod yX0_mayLeave ∈ bg := bg_in1 (List.mem_of_getElem? (i := 180) (by decide +kernel)) (by rfl)
set_option maxRecDepth 20000 in
theorem bw_1_181 : Cond.code yX0_mayLeave cX0_mayLeave 3 (some .boolean) ∈ bg := bg_in1 (List.mem_of_getElem? (i := 181) (rfl)) (by rfl)
set_option maxRecDepth 20000 in
theorem bw_1_182 : Cond.methodLink RX0 29 yX0_letsPass ∈ bg := bg_in1 (List.mem_of_getElem? (i := 182) (by decide +kernel)) (by rfl)
set_option maxRecDepth 20000 in
theorem bw_1_184 : Cond.instanceMethod yX0_letsPass ∈ bg := bg_in1 (List.mem_of_getElem? (i := 184) (by decide +kernel)) (by rfl)
set_option maxRecDepth 20000 in
theorem bw_1_185 : Cond.code yX0_letsPass cX0_letsPass 5 (some .boolean) ∈ bg := bg_in1 (List.mem_of_getElem? (i := 185) (rfl)) (by rfl)
set_option maxRecDepth 20000 in
theorem bw_1_186 : Cond.methodLink RX0 33 yX0_lineOf ∈ bg := bg_in1 (List.mem_of_getElem? (i := 186) (by decide +kernel)) (by rfl)
set_option maxRecDepth 20000 in
theorem bw_1_188 : Cond.instanceMethod yX0_lineOf ∈ bg := bg_in1 (List.mem_of_getElem? (i := 188) (by decide +kernel)) (by rfl)
set_option maxRecDepth 20000 in
theorem bw_1_189 : Cond.code yX0_lineOf cX0_lineOf 2 (some .int) ∈ bg := bg_in1 (List.mem_of_getElem? (i := 189) (rfl)) (by rfl)
set_option maxRecDepth 20000 in
theorem bw_1_192 : Cond.instanceMethod yX0_letOut ∈ bg := bg_in1 (List.mem_of_getElem? (i := 192) (by decide +kernel)) (by rfl)
set_option maxRecDepth 20000 in
theorem bw_1_193 : Cond.code yX0_letOut cX0_letOut 3 none ∈ bg := bg_in1 (List.mem_of_getElem? (i := 193) (rfl)) (by rfl)
set_option maxRecDepth 20000 in
theorem bw_1_197 : Cond.instanceMethod yX2_writeBack ∈ bg := bg_in1 (List.mem_of_getElem? (i := 197) (by decide +kernel)) (by rfl)
set_option maxRecDepth 20000 in
theorem bw_1_198 : Cond.code yX2_writeBack cX2_writeBack 4 none ∈ bg := bg_in1 (List.mem_of_getElem? (i := 198) (rfl)) (by rfl)
set_option maxRecDepth 20000 in
theorem bw_1_199 : Cond.methodLink RX0 47 yX0_remove ∈ bg := bg_in1 (List.mem_of_getElem? (i := 199) (by decide +kernel)) (by rfl)
set_option maxRecDepth 20000 in
theorem bw_1_201 : Cond.instanceMethod yX0_remove ∈ bg := bg_in1 (List.mem_of_getElem? (i := 201) (by decide +kernel)) (by rfl)
set_option maxRecDepth 20000 in
theorem bw_1_202 : Cond.code yX0_remove cX0_remove 3 none ∈ bg := bg_in1 (List.mem_of_getElem? (i := 202) (rfl)) (by rfl)
set_option maxRecDepth 20000 in
theorem bw_1_203 : Cond.methodLink RL 45 yX3_settle ∈ bg := bg_in1 (List.mem_of_getElem? (i := 203) (by decide +kernel)) (by rfl)
set_option maxRecDepth 20000 in
theorem bw_1_204 : Cond.instanceMethod yX3_settle ∈ bg := bg_in1 (List.mem_of_getElem? (i := 204) (by decide +kernel)) (by rfl)
set_option maxRecDepth 20000 in
theorem bw_1_205 : Cond.selects RX3 yX3_settle yX3_settle ∈ bg := bg_in1 (List.mem_of_getElem? (i := 205) (by decide +kernel)) (by rfl)
set_option maxRecDepth 20000 in
theorem bw_1_206 : Cond.code yX3_settle cX3_settle 5 (some .int) ∈ bg := bg_in1 (List.mem_of_getElem? (i := 206) (rfl)) (by rfl)
set_option maxRecDepth 20000 in
theorem bw_1_207 : Cond.methodLink RL 49 yX3_evict ∈ bg := bg_in1 (List.mem_of_getElem? (i := 207) (by decide +kernel)) (by rfl)
set_option maxRecDepth 20000 in
theorem bw_1_208 : Cond.instanceMethod yX3_evict ∈ bg := bg_in1 (List.mem_of_getElem? (i := 208) (by decide +kernel)) (by rfl)
set_option maxRecDepth 20000 in
theorem bw_1_209 : Cond.selects RX3 yX3_evict yX3_evict ∈ bg := bg_in1 (List.mem_of_getElem? (i := 209) (by decide +kernel)) (by rfl)
set_option maxRecDepth 20000 in
theorem bw_1_210 : Cond.code yX3_evict cX3_evict 2 (some .boolean) ∈ bg := bg_in1 (List.mem_of_getElem? (i := 210) (rfl)) (by rfl)
set_option maxRecDepth 20000 in
theorem bw_1_211 : Cond.methodLink RX3 67 yX3_isLine ∈ bg := bg_in1 (List.mem_of_getElem? (i := 211) (by decide +kernel)) (by rfl)
set_option maxRecDepth 20000 in
theorem bw_1_212 : Cond.static yX3_isLine ∈ bg := bg_in1 (List.mem_of_getElem? (i := 212) (by decide +kernel)) (by rfl)
set_option maxRecDepth 20000 in
theorem bw_1_213 : Cond.code yX3_isLine cX3_isLine 1 (some .boolean) ∈ bg := bg_in1 (List.mem_of_getElem? (i := 213) (rfl)) (by rfl)
set_option maxRecDepth 20000 in
theorem bw_1_215 : Cond.methodLink RL 54 yX3_crash ∈ bg := bg_in1 (List.mem_of_getElem? (i := 215) (by decide +kernel)) (by rfl)
set_option maxRecDepth 20000 in
theorem bw_1_216 : Cond.instanceMethod yX3_crash ∈ bg := bg_in1 (List.mem_of_getElem? (i := 216) (by decide +kernel)) (by rfl)
set_option maxRecDepth 20000 in
theorem bw_1_217 : Cond.selects RX3 yX3_crash yX3_crash ∈ bg := bg_in1 (List.mem_of_getElem? (i := 217) (by decide +kernel)) (by rfl)
set_option maxRecDepth 20000 in
theorem bw_1_218 : Cond.code yX3_crash cX3_crash 2 none ∈ bg := bg_in1 (List.mem_of_getElem? (i := 218) (rfl)) (by rfl)
set_option maxRecDepth 20000 in
theorem bw_1_221 : Cond.instanceMethod yX2_fallBackToStorage ∈ bg := bg_in1 (List.mem_of_getElem? (i := 221) (by decide +kernel)) (by rfl)
set_option maxRecDepth 20000 in
theorem bw_1_222 : Cond.code yX2_fallBackToStorage cX2_fallBackToStorage 2 none ∈ bg := bg_in1 (List.mem_of_getElem? (i := 222) (rfl)) (by rfl)
set_option maxRecDepth 20000 in
theorem bw_1_225 : Cond.instanceMethod yX1_beginAgain ∈ bg := bg_in1 (List.mem_of_getElem? (i := 225) (by decide +kernel)) (by rfl)
set_option maxRecDepth 20000 in
theorem bw_1_226 : Cond.code yX1_beginAgain cX1_beginAgain 2 none ∈ bg := bg_in1 (List.mem_of_getElem? (i := 226) (rfl)) (by rfl)
set_option maxRecDepth 20000 in
theorem bw_1_227 : Cond.methodLink RL 58 yX3_register ∈ bg := bg_in1 (List.mem_of_getElem? (i := 227) (by decide +kernel)) (by rfl)
set_option maxRecDepth 20000 in
theorem bw_1_228 : Cond.instanceMethod yX3_register ∈ bg := bg_in1 (List.mem_of_getElem? (i := 228) (by decide +kernel)) (by rfl)
set_option maxRecDepth 20000 in
theorem bw_1_229 : Cond.selects RX3 yX3_register yX3_register ∈ bg := bg_in1 (List.mem_of_getElem? (i := 229) (by decide +kernel)) (by rfl)
set_option maxRecDepth 20000 in
theorem bw_1_230 : Cond.code yX3_register cX3_register 3 (some .int) ∈ bg := bg_in1 (List.mem_of_getElem? (i := 230) (rfl)) (by rfl)
set_option maxRecDepth 20000 in
theorem bw_1_231 : Cond.methodLink RL 62 yX3_place ∈ bg := bg_in1 (List.mem_of_getElem? (i := 231) (by decide +kernel)) (by rfl)
set_option maxRecDepth 20000 in
theorem bw_1_232 : Cond.instanceMethod yX3_place ∈ bg := bg_in1 (List.mem_of_getElem? (i := 232) (by decide +kernel)) (by rfl)
set_option maxRecDepth 20000 in
theorem bw_1_233 : Cond.selects RX3 yX3_place yX3_place ∈ bg := bg_in1 (List.mem_of_getElem? (i := 233) (by decide +kernel)) (by rfl)
set_option maxRecDepth 20000 in
theorem bw_1_234 : Cond.code yX3_place cX3_place 2 (some .int) ∈ bg := bg_in1 (List.mem_of_getElem? (i := 234) (rfl)) (by rfl)
set_option maxRecDepth 20000 in
theorem bw_1_235 : Cond.methodLink RL 66 yX3_pending ∈ bg := bg_in1 (List.mem_of_getElem? (i := 235) (by decide +kernel)) (by rfl)
set_option maxRecDepth 20000 in
theorem bw_1_236 : Cond.instanceMethod yX3_pending ∈ bg := bg_in1 (List.mem_of_getElem? (i := 236) (by decide +kernel)) (by rfl)
set_option maxRecDepth 20000 in
theorem bw_1_237 : Cond.selects RX3 yX3_pending yX3_pending ∈ bg := bg_in1 (List.mem_of_getElem? (i := 237) (by decide +kernel)) (by rfl)
set_option maxRecDepth 20000 in
theorem bw_1_238 : Cond.code yX3_pending cX3_pending 2 (some .int) ∈ bg := bg_in1 (List.mem_of_getElem? (i := 238) (rfl)) (by rfl)
set_option maxRecDepth 20000 in
theorem bw_1_239 : Cond.methodLink RL 70 yX3_entry ∈ bg := bg_in1 (List.mem_of_getElem? (i := 239) (by decide +kernel)) (by rfl)
set_option maxRecDepth 20000 in
theorem bw_2_0 : Cond.instanceMethod yX3_entry ∈ bg := bg_in2 (List.mem_of_getElem? (i := 0) (by decide +kernel)) (by rfl)
set_option maxRecDepth 20000 in
theorem bw_2_1 : Cond.selects RX3 yX3_entry yX3_entry ∈ bg := bg_in2 (List.mem_of_getElem? (i := 1) (by decide +kernel)) (by rfl)
set_option maxRecDepth 20000 in
theorem bw_2_2 : Cond.code yX3_entry cX3_entry 5 (some .int) ∈ bg := bg_in2 (List.mem_of_getElem? (i := 2) (rfl)) (by rfl)
set_option maxRecDepth 20000 in
theorem bw_2_3 : Cond.methodLink RL 75 yX3_sees ∈ bg := bg_in2 (List.mem_of_getElem? (i := 3) (by decide +kernel)) (by rfl)
set_option maxRecDepth 20000 in
theorem bw_2_4 : Cond.instanceMethod yX3_sees ∈ bg := bg_in2 (List.mem_of_getElem? (i := 4) (by decide +kernel)) (by rfl)
set_option maxRecDepth 20000 in
theorem bw_2_5 : Cond.selects RX3 yX3_sees yX3_sees ∈ bg := bg_in2 (List.mem_of_getElem? (i := 5) (by decide +kernel)) (by rfl)
set_option maxRecDepth 20000 in
theorem bw_2_6 : Cond.code yX3_sees cX3_sees 3 (some .int) ∈ bg := bg_in2 (List.mem_of_getElem? (i := 6) (rfl)) (by rfl)
set_option maxRecDepth 20000 in
theorem bw_2_7 : Cond.methodLink RX3 95 yX3_isWord ∈ bg := bg_in2 (List.mem_of_getElem? (i := 7) (by decide +kernel)) (by rfl)
set_option maxRecDepth 20000 in
theorem bw_2_8 : Cond.static yX3_isWord ∈ bg := bg_in2 (List.mem_of_getElem? (i := 8) (by decide +kernel)) (by rfl)
set_option maxRecDepth 20000 in
theorem bw_2_9 : Cond.code yX3_isWord cX3_isWord 1 (some .boolean) ∈ bg := bg_in2 (List.mem_of_getElem? (i := 9) (rfl)) (by rfl)
set_option maxRecDepth 20000 in
theorem bw_2_11 : Cond.methodLink RL 79 yX3_memory ∈ bg := bg_in2 (List.mem_of_getElem? (i := 11) (by decide +kernel)) (by rfl)
set_option maxRecDepth 20000 in
theorem bw_2_12 : Cond.instanceMethod yX3_memory ∈ bg := bg_in2 (List.mem_of_getElem? (i := 12) (by decide +kernel)) (by rfl)
set_option maxRecDepth 20000 in
theorem bw_2_13 : Cond.selects RX3 yX3_memory yX3_memory ∈ bg := bg_in2 (List.mem_of_getElem? (i := 13) (by decide +kernel)) (by rfl)
set_option maxRecDepth 20000 in
theorem bw_2_14 : Cond.code yX3_memory cX3_memory 2 (some .int) ∈ bg := bg_in2 (List.mem_of_getElem? (i := 14) (rfl)) (by rfl)
set_option maxRecDepth 20000 in
theorem bw_2_15 : Cond.methodLink RL 83 yX3_storage ∈ bg := bg_in2 (List.mem_of_getElem? (i := 15) (by decide +kernel)) (by rfl)
set_option maxRecDepth 20000 in
theorem bw_2_16 : Cond.instanceMethod yX3_storage ∈ bg := bg_in2 (List.mem_of_getElem? (i := 16) (by decide +kernel)) (by rfl)
set_option maxRecDepth 20000 in
theorem bw_2_17 : Cond.selects RX3 yX3_storage yX3_storage ∈ bg := bg_in2 (List.mem_of_getElem? (i := 17) (by decide +kernel)) (by rfl)
set_option maxRecDepth 20000 in
theorem bw_2_18 : Cond.code yX3_storage cX3_storage 2 (some .int) ∈ bg := bg_in2 (List.mem_of_getElem? (i := 18) (rfl)) (by rfl)
set_option maxRecDepth 20000 in
theorem bw_2_19 : Cond.methodLink RL 87 yX3_dirty ∈ bg := bg_in2 (List.mem_of_getElem? (i := 19) (by decide +kernel)) (by rfl)
set_option maxRecDepth 20000 in
theorem bw_2_20 : Cond.instanceMethod yX3_dirty ∈ bg := bg_in2 (List.mem_of_getElem? (i := 20) (by decide +kernel)) (by rfl)
set_option maxRecDepth 20000 in
theorem bw_2_21 : Cond.selects RX3 yX3_dirty yX3_dirty ∈ bg := bg_in2 (List.mem_of_getElem? (i := 21) (by decide +kernel)) (by rfl)
set_option maxRecDepth 20000 in
theorem bw_2_22 : Cond.code yX3_dirty cX3_dirty 2 (some .boolean) ∈ bg := bg_in2 (List.mem_of_getElem? (i := 22) (rfl)) (by rfl)
set_option maxRecDepth 20000 in
theorem bw_2_23 : Cond.methodLink RL 91 yX3_cores ∈ bg := bg_in2 (List.mem_of_getElem? (i := 23) (by decide +kernel)) (by rfl)
set_option maxRecDepth 20000 in
theorem bw_2_24 : Cond.instanceMethod yX3_cores ∈ bg := bg_in2 (List.mem_of_getElem? (i := 24) (by decide +kernel)) (by rfl)
set_option maxRecDepth 20000 in
theorem bw_2_25 : Cond.selects RX3 yX3_cores yX3_cores ∈ bg := bg_in2 (List.mem_of_getElem? (i := 25) (by decide +kernel)) (by rfl)
set_option maxRecDepth 20000 in
theorem bw_2_26 : Cond.code yX3_cores cX3_cores 1 (some .int) ∈ bg := bg_in2 (List.mem_of_getElem? (i := 26) (rfl)) (by rfl)
set_option maxRecDepth 20000 in
theorem bw_2_27 : Cond.methodLink RL 9 yL_cell ∈ bg := bg_in2 (List.mem_of_getElem? (i := 27) (by decide +kernel)) (by rfl)
set_option maxRecDepth 20000 in
theorem bw_2_28 : Cond.static yL_cell ∈ bg := bg_in2 (List.mem_of_getElem? (i := 28) (by decide +kernel)) (by rfl)
set_option maxRecDepth 20000 in
theorem bw_2_29 : Cond.code yL_cell cL_cell 2 (some .int) ∈ bg := bg_in2 (List.mem_of_getElem? (i := 29) (rfl)) (by rfl)
set_option maxRecDepth 20000 in
theorem bw_2_30 : Cond.classLink RL 18 RX4 ∈ bg := bg_in2 (List.mem_of_getElem? (i := 30) (by decide +kernel)) (by rfl)
set_option maxRecDepth 20000 in
theorem bw_2_31 : Cond.instantiable RX4 18 ∈ bg := bg_in2 (List.mem_of_getElem? (i := 31) (by decide +kernel)) (by rfl)
set_option maxRecDepth 20000 in
theorem bw_2_32 : Cond.methodLink RL 20 yX4_init ∈ bg := bg_in2 (List.mem_of_getElem? (i := 32) (by decide +kernel)) (by rfl)
set_option maxRecDepth 20000 in
theorem bw_2_33 : Cond.instanceMethod yX4_init ∈ bg := bg_in2 (List.mem_of_getElem? (i := 33) (by decide +kernel)) (by rfl)
set_option maxRecDepth 20000 in
theorem bw_2_34 : Cond.code yX4_init cX4_init 3 none ∈ bg := bg_in2 (List.mem_of_getElem? (i := 34) (rfl)) (by rfl)
set_option maxRecDepth 20000 in
theorem bw_2_35 : Cond.methodLink RX4 1 objectInit ∈ bg := bg_in2 (List.mem_of_getElem? (i := 35) (by decide +kernel)) (by rfl)
set_option maxRecDepth 20000 in
theorem bw_2_36 : Cond.fieldLink RX4 55 "StoreBufferCoresModel" "cores" "I" ∈ bg := bg_in2 (List.mem_of_getElem? (i := 36) (by decide +kernel)) (by rfl)
set_option maxRecDepth 20000 in
theorem bw_2_37 : Cond.fieldLink RX4 59 "StoreBufferCoresModel" "room" "I" ∈ bg := bg_in2 (List.mem_of_getElem? (i := 37) (by decide +kernel)) (by rfl)
set_option maxRecDepth 20000 in
theorem bw_2_38 : Cond.fieldLink RX4 7 "StoreBufferCoresModel" "codes" "[I" ∈ bg := bg_in2 (List.mem_of_getElem? (i := 38) (by decide +kernel)) (by rfl)
set_option maxRecDepth 20000 in
theorem bw_2_39 : Cond.fieldLink RX4 13 "StoreBufferCoresModel" "firsts" "[I" ∈ bg := bg_in2 (List.mem_of_getElem? (i := 39) (by decide +kernel)) (by rfl)
set_option maxRecDepth 20000 in
theorem bw_2_40 : Cond.fieldLink RX4 16 "StoreBufferCoresModel" "seconds" "[I" ∈ bg := bg_in2 (List.mem_of_getElem? (i := 40) (by decide +kernel)) (by rfl)
set_option maxRecDepth 20000 in
theorem bw_2_41 : Cond.fieldLink RX4 19 "StoreBufferCoresModel" "numbers" "[I" ∈ bg := bg_in2 (List.mem_of_getElem? (i := 41) (by decide +kernel)) (by rfl)
set_option maxRecDepth 20000 in
theorem bw_2_42 : Cond.fieldLink RX4 22 "StoreBufferCoresModel" "registers" "[I" ∈ bg := bg_in2 (List.mem_of_getElem? (i := 42) (by decide +kernel)) (by rfl)
set_option maxRecDepth 20000 in
theorem bw_2_43 : Cond.fieldLink RX4 25 "StoreBufferCoresModel" "place" "[I" ∈ bg := bg_in2 (List.mem_of_getElem? (i := 43) (by decide +kernel)) (by rfl)
set_option maxRecDepth 20000 in
theorem bw_2_44 : Cond.fieldLink RX4 28 "StoreBufferCoresModel" "recovery" "[I" ∈ bg := bg_in2 (List.mem_of_getElem? (i := 44) (by decide +kernel)) (by rfl)
set_option maxRecDepth 20000 in
theorem bw_2_45 : Cond.fieldLink RX4 31 "StoreBufferCoresModel" "held" "[I" ∈ bg := bg_in2 (List.mem_of_getElem? (i := 45) (by decide +kernel)) (by rfl)
set_option maxRecDepth 20000 in
theorem bw_2_46 : Cond.fieldLink RX4 34 "StoreBufferCoresModel" "kind" "[I" ∈ bg := bg_in2 (List.mem_of_getElem? (i := 46) (by decide +kernel)) (by rfl)
set_option maxRecDepth 20000 in
theorem bw_2_47 : Cond.fieldLink RX4 37 "StoreBufferCoresModel" "target" "[I" ∈ bg := bg_in2 (List.mem_of_getElem? (i := 47) (by decide +kernel)) (by rfl)
set_option maxRecDepth 20000 in
theorem bw_2_48 : Cond.fieldLink RX4 40 "StoreBufferCoresModel" "value" "[I" ∈ bg := bg_in2 (List.mem_of_getElem? (i := 48) (by decide +kernel)) (by rfl)
set_option maxRecDepth 20000 in
theorem bw_2_49 : Cond.fieldLink RX4 43 "StoreBufferCoresModel" "memory" "[I" ∈ bg := bg_in2 (List.mem_of_getElem? (i := 49) (by decide +kernel)) (by rfl)
set_option maxRecDepth 20000 in
theorem bw_2_50 : Cond.fieldLink RX4 46 "StoreBufferCoresModel" "storage" "[I" ∈ bg := bg_in2 (List.mem_of_getElem? (i := 50) (by decide +kernel)) (by rfl)
set_option maxRecDepth 20000 in
theorem bw_2_51 : Cond.fieldLink RX4 66 "StoreBufferCoresModel" "time" "I" ∈ bg := bg_in2 (List.mem_of_getElem? (i := 51) (by decide +kernel)) (by rfl)
set_option maxRecDepth 20000 in
theorem bw_2_52 : Cond.fieldLink RX4 49 "StoreBufferCoresModel" "putAt" "[I" ∈ bg := bg_in2 (List.mem_of_getElem? (i := 52) (by decide +kernel)) (by rfl)
set_option maxRecDepth 20000 in
theorem bw_2_53 : Cond.fieldLink RX4 52 "StoreBufferCoresModel" "backAt" "[I" ∈ bg := bg_in2 (List.mem_of_getElem? (i := 53) (by decide +kernel)) (by rfl)
set_option maxRecDepth 20000 in
theorem bw_2_54 : Cond.laysFinal "StoreBufferCoresModel" "StoreBufferCoresModel" "cores" "I" ∈ bg := bg_in2 (List.mem_of_getElem? (i := 54) (by decide +kernel)) (by rfl)
set_option maxRecDepth 20000 in
theorem bw_2_56 : Cond.laysFinal "StoreBufferCoresModel" "StoreBufferCoresModel" "room" "I" ∈ bg := bg_in2 (List.mem_of_getElem? (i := 56) (by decide +kernel)) (by rfl)
set_option maxRecDepth 20000 in
theorem bw_2_58 : Cond.laysFinal "StoreBufferCoresModel" "StoreBufferCoresModel" "codes" "[I" ∈ bg := bg_in2 (List.mem_of_getElem? (i := 58) (by decide +kernel)) (by rfl)
set_option maxRecDepth 20000 in
theorem bw_2_60 : Cond.laysFinal "StoreBufferCoresModel" "StoreBufferCoresModel" "firsts" "[I" ∈ bg := bg_in2 (List.mem_of_getElem? (i := 60) (by decide +kernel)) (by rfl)
set_option maxRecDepth 20000 in
theorem bw_2_62 : Cond.laysFinal "StoreBufferCoresModel" "StoreBufferCoresModel" "seconds" "[I" ∈ bg := bg_in2 (List.mem_of_getElem? (i := 62) (by decide +kernel)) (by rfl)
set_option maxRecDepth 20000 in
theorem bw_2_64 : Cond.laysFinal "StoreBufferCoresModel" "StoreBufferCoresModel" "numbers" "[I" ∈ bg := bg_in2 (List.mem_of_getElem? (i := 64) (by decide +kernel)) (by rfl)
set_option maxRecDepth 20000 in
theorem bw_2_66 : Cond.laysFinal "StoreBufferCoresModel" "StoreBufferCoresModel" "registers" "[I" ∈ bg := bg_in2 (List.mem_of_getElem? (i := 66) (by decide +kernel)) (by rfl)
set_option maxRecDepth 20000 in
theorem bw_2_68 : Cond.laysFinal "StoreBufferCoresModel" "StoreBufferCoresModel" "place" "[I" ∈ bg := bg_in2 (List.mem_of_getElem? (i := 68) (by decide +kernel)) (by rfl)
set_option maxRecDepth 20000 in
theorem bw_2_70 : Cond.laysFinal "StoreBufferCoresModel" "StoreBufferCoresModel" "recovery" "[I" ∈ bg := bg_in2 (List.mem_of_getElem? (i := 70) (by decide +kernel)) (by rfl)
set_option maxRecDepth 20000 in
theorem bw_2_72 : Cond.laysFinal "StoreBufferCoresModel" "StoreBufferCoresModel" "held" "[I" ∈ bg := bg_in2 (List.mem_of_getElem? (i := 72) (by decide +kernel)) (by rfl)
set_option maxRecDepth 20000 in
theorem bw_2_74 : Cond.laysFinal "StoreBufferCoresModel" "StoreBufferCoresModel" "kind" "[I" ∈ bg := bg_in2 (List.mem_of_getElem? (i := 74) (by decide +kernel)) (by rfl)
set_option maxRecDepth 20000 in
theorem bw_2_76 : Cond.laysFinal "StoreBufferCoresModel" "StoreBufferCoresModel" "target" "[I" ∈ bg := bg_in2 (List.mem_of_getElem? (i := 76) (by decide +kernel)) (by rfl)
set_option maxRecDepth 20000 in
theorem bw_2_78 : Cond.laysFinal "StoreBufferCoresModel" "StoreBufferCoresModel" "value" "[I" ∈ bg := bg_in2 (List.mem_of_getElem? (i := 78) (by decide +kernel)) (by rfl)
set_option maxRecDepth 20000 in
theorem bw_2_80 : Cond.laysFinal "StoreBufferCoresModel" "StoreBufferCoresModel" "memory" "[I" ∈ bg := bg_in2 (List.mem_of_getElem? (i := 80) (by decide +kernel)) (by rfl)
set_option maxRecDepth 20000 in
theorem bw_2_82 : Cond.laysFinal "StoreBufferCoresModel" "StoreBufferCoresModel" "storage" "[I" ∈ bg := bg_in2 (List.mem_of_getElem? (i := 82) (by decide +kernel)) (by rfl)
set_option maxRecDepth 20000 in
theorem bw_2_84 : Cond.lays "StoreBufferCoresModel" "StoreBufferCoresModel" "time" "I" ∈ bg := bg_in2 (List.mem_of_getElem? (i := 84) (by decide +kernel)) (by rfl)
set_option maxRecDepth 20000 in
theorem bw_2_86 : Cond.laysFinal "StoreBufferCoresModel" "StoreBufferCoresModel" "putAt" "[I" ∈ bg := bg_in2 (List.mem_of_getElem? (i := 86) (by decide +kernel)) (by rfl)
set_option maxRecDepth 20000 in
theorem bw_2_88 : Cond.laysFinal "StoreBufferCoresModel" "StoreBufferCoresModel" "backAt" "[I" ∈ bg := bg_in2 (List.mem_of_getElem? (i := 88) (by decide +kernel)) (by rfl)
set_option maxRecDepth 20000 in
theorem bw_2_91 : Cond.methodLink RL 25 yX4_put ∈ bg := bg_in2 (List.mem_of_getElem? (i := 91) (by decide +kernel)) (by rfl)
set_option maxRecDepth 20000 in
theorem bw_2_92 : Cond.instanceMethod yX4_put ∈ bg := bg_in2 (List.mem_of_getElem? (i := 92) (by decide +kernel)) (by rfl)
set_option maxRecDepth 20000 in
theorem bw_2_93 : Cond.selects RX4 yX4_put yX4_put ∈ bg := bg_in2 (List.mem_of_getElem? (i := 93) (by decide +kernel)) (by rfl)
set_option maxRecDepth 20000 in
theorem bw_2_94 : Cond.code yX4_put cX4_put 8 (some .boolean) ∈ bg := bg_in2 (List.mem_of_getElem? (i := 94) (rfl)) (by rfl)
set_option maxRecDepth 20000 in
theorem bw_2_95 : Cond.methodLink RX4 62 yX4_isCore ∈ bg := bg_in2 (List.mem_of_getElem? (i := 95) (by decide +kernel)) (by rfl)
set_option maxRecDepth 20000 in
theorem bw_2_97 : Cond.instanceMethod yX4_isCore ∈ bg := bg_in2 (List.mem_of_getElem? (i := 97) (by decide +kernel)) (by rfl)
set_option maxRecDepth 20000 in
theorem bw_2_98 : Cond.code yX4_isCore cX4_isCore 2 (some .boolean) ∈ bg := bg_in2 (List.mem_of_getElem? (i := 98) (rfl)) (by rfl)
set_option maxRecDepth 20000 in
theorem bw_2_99 : Cond.methodLink RL 30 yX4_recovery ∈ bg := bg_in2 (List.mem_of_getElem? (i := 99) (by decide +kernel)) (by rfl)
set_option maxRecDepth 20000 in
theorem bw_2_100 : Cond.instanceMethod yX4_recovery ∈ bg := bg_in2 (List.mem_of_getElem? (i := 100) (by decide +kernel)) (by rfl)
set_option maxRecDepth 20000 in
theorem bw_2_101 : Cond.selects RX4 yX4_recovery yX4_recovery ∈ bg := bg_in2 (List.mem_of_getElem? (i := 101) (by decide +kernel)) (by rfl)
set_option maxRecDepth 20000 in
theorem bw_2_102 : Cond.code yX4_recovery cX4_recovery 3 (some .boolean) ∈ bg := bg_in2 (List.mem_of_getElem? (i := 102) (rfl)) (by rfl)
set_option maxRecDepth 20000 in
theorem bw_2_103 : Cond.methodLink RL 53 yX4_evict ∈ bg := bg_in2 (List.mem_of_getElem? (i := 103) (by decide +kernel)) (by rfl)
set_option maxRecDepth 20000 in
theorem bw_2_104 : Cond.instanceMethod yX4_evict ∈ bg := bg_in2 (List.mem_of_getElem? (i := 104) (by decide +kernel)) (by rfl)
set_option maxRecDepth 20000 in
theorem bw_2_105 : Cond.selects RX4 yX4_evict yX4_evict ∈ bg := bg_in2 (List.mem_of_getElem? (i := 105) (by decide +kernel)) (by rfl)
set_option maxRecDepth 20000 in
theorem bw_2_106 : Cond.code yX4_evict cX4_evict 2 (some .boolean) ∈ bg := bg_in2 (List.mem_of_getElem? (i := 106) (rfl)) (by rfl)
set_option maxRecDepth 20000 in
theorem bw_2_107 : Cond.methodLink RX4 69 yX4_writeBack ∈ bg := bg_in2 (List.mem_of_getElem? (i := 107) (by decide +kernel)) (by rfl)
set_option maxRecDepth 20000 in
theorem bw_2_109 : Cond.instanceMethod yX4_writeBack ∈ bg := bg_in2 (List.mem_of_getElem? (i := 109) (by decide +kernel)) (by rfl)
set_option maxRecDepth 20000 in
theorem bw_2_110 : Cond.code yX4_writeBack cX4_writeBack 3 none ∈ bg := bg_in2 (List.mem_of_getElem? (i := 110) (rfl)) (by rfl)
set_option maxRecDepth 20000 in
theorem bw_2_111 : Cond.methodLink RL 90 yX4_dirty ∈ bg := bg_in2 (List.mem_of_getElem? (i := 111) (by decide +kernel)) (by rfl)
set_option maxRecDepth 20000 in
theorem bw_2_112 : Cond.instanceMethod yX4_dirty ∈ bg := bg_in2 (List.mem_of_getElem? (i := 112) (by decide +kernel)) (by rfl)
set_option maxRecDepth 20000 in
theorem bw_2_113 : Cond.selects RX4 yX4_dirty yX4_dirty ∈ bg := bg_in2 (List.mem_of_getElem? (i := 113) (by decide +kernel)) (by rfl)
set_option maxRecDepth 20000 in
theorem bw_2_114 : Cond.code yX4_dirty cX4_dirty 4 (some .boolean) ∈ bg := bg_in2 (List.mem_of_getElem? (i := 114) (rfl)) (by rfl)
set_option maxRecDepth 20000 in
theorem bw_2_115 : Cond.methodLink RL 57 yX4_crash ∈ bg := bg_in2 (List.mem_of_getElem? (i := 115) (by decide +kernel)) (by rfl)
set_option maxRecDepth 20000 in
theorem bw_2_116 : Cond.instanceMethod yX4_crash ∈ bg := bg_in2 (List.mem_of_getElem? (i := 116) (by decide +kernel)) (by rfl)
set_option maxRecDepth 20000 in
theorem bw_2_117 : Cond.selects RX4 yX4_crash yX4_crash ∈ bg := bg_in2 (List.mem_of_getElem? (i := 117) (by decide +kernel)) (by rfl)
set_option maxRecDepth 20000 in
theorem bw_2_118 : Cond.code yX4_crash cX4_crash 2 none ∈ bg := bg_in2 (List.mem_of_getElem? (i := 118) (rfl)) (by rfl)
set_option maxRecDepth 20000 in
theorem bw_2_119 : Cond.methodLink RL 44 yX4_drain ∈ bg := bg_in2 (List.mem_of_getElem? (i := 119) (by decide +kernel)) (by rfl)
set_option maxRecDepth 20000 in
theorem bw_2_120 : Cond.instanceMethod yX4_drain ∈ bg := bg_in2 (List.mem_of_getElem? (i := 120) (by decide +kernel)) (by rfl)
set_option maxRecDepth 20000 in
theorem bw_2_121 : Cond.selects RX4 yX4_drain yX4_drain ∈ bg := bg_in2 (List.mem_of_getElem? (i := 121) (by decide +kernel)) (by rfl)
set_option maxRecDepth 20000 in
theorem bw_2_122 : Cond.code yX4_drain cX4_drain 5 (some .boolean) ∈ bg := bg_in2 (List.mem_of_getElem? (i := 122) (rfl)) (by rfl)
set_option maxRecDepth 20000 in
theorem bw_2_123 : Cond.methodLink RX4 77 yX4_passes ∈ bg := bg_in2 (List.mem_of_getElem? (i := 123) (by decide +kernel)) (by rfl)
set_option maxRecDepth 20000 in
theorem bw_2_125 : Cond.instanceMethod yX4_passes ∈ bg := bg_in2 (List.mem_of_getElem? (i := 125) (by decide +kernel)) (by rfl)
set_option maxRecDepth 20000 in
theorem bw_2_126 : Cond.code yX4_passes cX4_passes 5 (some .boolean) ∈ bg := bg_in2 (List.mem_of_getElem? (i := 126) (rfl)) (by rfl)
set_option maxRecDepth 20000 in
theorem bw_2_127 : Cond.methodLink RX4 73 yX4_lineOf ∈ bg := bg_in2 (List.mem_of_getElem? (i := 127) (by decide +kernel)) (by rfl)
set_option maxRecDepth 20000 in
theorem bw_2_129 : Cond.instanceMethod yX4_lineOf ∈ bg := bg_in2 (List.mem_of_getElem? (i := 129) (by decide +kernel)) (by rfl)
set_option maxRecDepth 20000 in
theorem bw_2_130 : Cond.code yX4_lineOf cX4_lineOf 2 (some .int) ∈ bg := bg_in2 (List.mem_of_getElem? (i := 130) (rfl)) (by rfl)
set_option maxRecDepth 20000 in
theorem bw_2_131 : Cond.methodLink RX4 81 yX4_store ∈ bg := bg_in2 (List.mem_of_getElem? (i := 131) (by decide +kernel)) (by rfl)
set_option maxRecDepth 20000 in
theorem bw_2_133 : Cond.instanceMethod yX4_store ∈ bg := bg_in2 (List.mem_of_getElem? (i := 133) (by decide +kernel)) (by rfl)
set_option maxRecDepth 20000 in
theorem bw_2_134 : Cond.code yX4_store cX4_store 3 none ∈ bg := bg_in2 (List.mem_of_getElem? (i := 134) (rfl)) (by rfl)
set_option maxRecDepth 20000 in
theorem bw_2_135 : Cond.methodLink RL 48 yX4_settle ∈ bg := bg_in2 (List.mem_of_getElem? (i := 135) (by decide +kernel)) (by rfl)
set_option maxRecDepth 20000 in
theorem bw_2_136 : Cond.instanceMethod yX4_settle ∈ bg := bg_in2 (List.mem_of_getElem? (i := 136) (by decide +kernel)) (by rfl)
set_option maxRecDepth 20000 in
theorem bw_2_137 : Cond.selects RX4 yX4_settle yX4_settle ∈ bg := bg_in2 (List.mem_of_getElem? (i := 137) (by decide +kernel)) (by rfl)
set_option maxRecDepth 20000 in
theorem bw_2_138 : Cond.code yX4_settle cX4_settle 3 (some .int) ∈ bg := bg_in2 (List.mem_of_getElem? (i := 138) (rfl)) (by rfl)
set_option maxRecDepth 20000 in
theorem bw_2_139 : Cond.methodLink RX4 85 yX4_drain ∈ bg := bg_in2 (List.mem_of_getElem? (i := 139) (by decide +kernel)) (by rfl)
set_option maxRecDepth 20000 in
theorem bw_2_140 : Cond.methodLink RL 78 yX4_sees ∈ bg := bg_in2 (List.mem_of_getElem? (i := 140) (by decide +kernel)) (by rfl)
set_option maxRecDepth 20000 in
theorem bw_2_141 : Cond.instanceMethod yX4_sees ∈ bg := bg_in2 (List.mem_of_getElem? (i := 141) (by decide +kernel)) (by rfl)
set_option maxRecDepth 20000 in
theorem bw_2_142 : Cond.selects RX4 yX4_sees yX4_sees ∈ bg := bg_in2 (List.mem_of_getElem? (i := 142) (by decide +kernel)) (by rfl)
set_option maxRecDepth 20000 in
theorem bw_2_143 : Cond.code yX4_sees cX4_sees 5 (some .int) ∈ bg := bg_in2 (List.mem_of_getElem? (i := 143) (rfl)) (by rfl)
set_option maxRecDepth 20000 in
theorem bw_2_144 : Cond.methodLink RL 35 yX4_step ∈ bg := bg_in2 (List.mem_of_getElem? (i := 144) (by decide +kernel)) (by rfl)
set_option maxRecDepth 20000 in
theorem bw_2_145 : Cond.instanceMethod yX4_step ∈ bg := bg_in2 (List.mem_of_getElem? (i := 145) (by decide +kernel)) (by rfl)
set_option maxRecDepth 20000 in
theorem bw_2_146 : Cond.selects RX4 yX4_step yX4_step ∈ bg := bg_in2 (List.mem_of_getElem? (i := 146) (by decide +kernel)) (by rfl)
set_option maxRecDepth 20000 in
theorem bw_2_147 : Cond.code yX4_step cX4_step 7 (some .int) ∈ bg := bg_in2 (List.mem_of_getElem? (i := 147) (rfl)) (by rfl)
set_option maxRecDepth 20000 in
theorem bw_2_148 : Cond.methodLink RX4 88 yX4_append ∈ bg := bg_in2 (List.mem_of_getElem? (i := 148) (by decide +kernel)) (by rfl)
set_option maxRecDepth 20000 in
theorem bw_2_150 : Cond.instanceMethod yX4_append ∈ bg := bg_in2 (List.mem_of_getElem? (i := 150) (by decide +kernel)) (by rfl)
set_option maxRecDepth 20000 in
theorem bw_2_151 : Cond.code yX4_append cX4_append 6 (some .int) ∈ bg := bg_in2 (List.mem_of_getElem? (i := 151) (rfl)) (by rfl)
set_option maxRecDepth 20000 in
theorem bw_2_152 : Cond.methodLink RX4 92 yX4_swap ∈ bg := bg_in2 (List.mem_of_getElem? (i := 152) (by decide +kernel)) (by rfl)
set_option maxRecDepth 20000 in
theorem bw_2_154 : Cond.instanceMethod yX4_swap ∈ bg := bg_in2 (List.mem_of_getElem? (i := 154) (by decide +kernel)) (by rfl)
set_option maxRecDepth 20000 in
theorem bw_2_155 : Cond.code yX4_swap cX4_swap 4 none ∈ bg := bg_in2 (List.mem_of_getElem? (i := 155) (rfl)) (by rfl)
set_option maxRecDepth 20000 in
theorem bw_2_156 : Cond.methodLink RX4 96 yX4_sees ∈ bg := bg_in2 (List.mem_of_getElem? (i := 156) (by decide +kernel)) (by rfl)
set_option maxRecDepth 20000 in
theorem bw_2_157 : Cond.methodLink RL 40 yX4_run ∈ bg := bg_in2 (List.mem_of_getElem? (i := 157) (by decide +kernel)) (by rfl)
set_option maxRecDepth 20000 in
theorem bw_2_158 : Cond.instanceMethod yX4_run ∈ bg := bg_in2 (List.mem_of_getElem? (i := 158) (by decide +kernel)) (by rfl)
set_option maxRecDepth 20000 in
theorem bw_2_159 : Cond.selects RX4 yX4_run yX4_run ∈ bg := bg_in2 (List.mem_of_getElem? (i := 159) (by decide +kernel)) (by rfl)
set_option maxRecDepth 20000 in
theorem bw_2_160 : Cond.code yX4_run cX4_run 4 (some .int) ∈ bg := bg_in2 (List.mem_of_getElem? (i := 160) (rfl)) (by rfl)
set_option maxRecDepth 20000 in
theorem bw_2_161 : Cond.methodLink RX4 100 yX4_step ∈ bg := bg_in2 (List.mem_of_getElem? (i := 161) (by decide +kernel)) (by rfl)
set_option maxRecDepth 20000 in
theorem bw_2_162 : Cond.methodLink RL 61 yX4_register ∈ bg := bg_in2 (List.mem_of_getElem? (i := 162) (by decide +kernel)) (by rfl)
set_option maxRecDepth 20000 in
theorem bw_2_163 : Cond.instanceMethod yX4_register ∈ bg := bg_in2 (List.mem_of_getElem? (i := 163) (by decide +kernel)) (by rfl)
set_option maxRecDepth 20000 in
theorem bw_2_164 : Cond.selects RX4 yX4_register yX4_register ∈ bg := bg_in2 (List.mem_of_getElem? (i := 164) (by decide +kernel)) (by rfl)
set_option maxRecDepth 20000 in
theorem bw_2_165 : Cond.code yX4_register cX4_register 3 (some .int) ∈ bg := bg_in2 (List.mem_of_getElem? (i := 165) (rfl)) (by rfl)
set_option maxRecDepth 20000 in
theorem bw_2_166 : Cond.methodLink RL 65 yX4_place ∈ bg := bg_in2 (List.mem_of_getElem? (i := 166) (by decide +kernel)) (by rfl)
set_option maxRecDepth 20000 in
theorem bw_2_167 : Cond.instanceMethod yX4_place ∈ bg := bg_in2 (List.mem_of_getElem? (i := 167) (by decide +kernel)) (by rfl)
set_option maxRecDepth 20000 in
theorem bw_2_168 : Cond.selects RX4 yX4_place yX4_place ∈ bg := bg_in2 (List.mem_of_getElem? (i := 168) (by decide +kernel)) (by rfl)
set_option maxRecDepth 20000 in
theorem bw_2_169 : Cond.code yX4_place cX4_place 2 (some .int) ∈ bg := bg_in2 (List.mem_of_getElem? (i := 169) (rfl)) (by rfl)
set_option maxRecDepth 20000 in
theorem bw_2_170 : Cond.methodLink RL 69 yX4_pending ∈ bg := bg_in2 (List.mem_of_getElem? (i := 170) (by decide +kernel)) (by rfl)
set_option maxRecDepth 20000 in
theorem bw_2_171 : Cond.instanceMethod yX4_pending ∈ bg := bg_in2 (List.mem_of_getElem? (i := 171) (by decide +kernel)) (by rfl)
set_option maxRecDepth 20000 in
theorem bw_2_172 : Cond.selects RX4 yX4_pending yX4_pending ∈ bg := bg_in2 (List.mem_of_getElem? (i := 172) (by decide +kernel)) (by rfl)
set_option maxRecDepth 20000 in
theorem bw_2_173 : Cond.code yX4_pending cX4_pending 2 (some .int) ∈ bg := bg_in2 (List.mem_of_getElem? (i := 173) (rfl)) (by rfl)
set_option maxRecDepth 20000 in
theorem bw_2_174 : Cond.methodLink RL 74 yX4_entry ∈ bg := bg_in2 (List.mem_of_getElem? (i := 174) (by decide +kernel)) (by rfl)
set_option maxRecDepth 20000 in
theorem bw_2_175 : Cond.instanceMethod yX4_entry ∈ bg := bg_in2 (List.mem_of_getElem? (i := 175) (by decide +kernel)) (by rfl)
set_option maxRecDepth 20000 in
theorem bw_2_176 : Cond.selects RX4 yX4_entry yX4_entry ∈ bg := bg_in2 (List.mem_of_getElem? (i := 176) (by decide +kernel)) (by rfl)
set_option maxRecDepth 20000 in
theorem bw_2_177 : Cond.code yX4_entry cX4_entry 5 (some .int) ∈ bg := bg_in2 (List.mem_of_getElem? (i := 177) (rfl)) (by rfl)
set_option maxRecDepth 20000 in
theorem bw_2_178 : Cond.methodLink RL 82 yX4_memory ∈ bg := bg_in2 (List.mem_of_getElem? (i := 178) (by decide +kernel)) (by rfl)
set_option maxRecDepth 20000 in
theorem bw_2_179 : Cond.instanceMethod yX4_memory ∈ bg := bg_in2 (List.mem_of_getElem? (i := 179) (by decide +kernel)) (by rfl)
set_option maxRecDepth 20000 in
theorem bw_2_180 : Cond.selects RX4 yX4_memory yX4_memory ∈ bg := bg_in2 (List.mem_of_getElem? (i := 180) (by decide +kernel)) (by rfl)
set_option maxRecDepth 20000 in
theorem bw_2_181 : Cond.code yX4_memory cX4_memory 2 (some .int) ∈ bg := bg_in2 (List.mem_of_getElem? (i := 181) (rfl)) (by rfl)
set_option maxRecDepth 20000 in
theorem bw_2_182 : Cond.methodLink RL 86 yX4_storage ∈ bg := bg_in2 (List.mem_of_getElem? (i := 182) (by decide +kernel)) (by rfl)
set_option maxRecDepth 20000 in
theorem bw_2_183 : Cond.instanceMethod yX4_storage ∈ bg := bg_in2 (List.mem_of_getElem? (i := 183) (by decide +kernel)) (by rfl)
set_option maxRecDepth 20000 in
theorem bw_2_184 : Cond.selects RX4 yX4_storage yX4_storage ∈ bg := bg_in2 (List.mem_of_getElem? (i := 184) (by decide +kernel)) (by rfl)
set_option maxRecDepth 20000 in
theorem bw_2_185 : Cond.code yX4_storage cX4_storage 2 (some .int) ∈ bg := bg_in2 (List.mem_of_getElem? (i := 185) (rfl)) (by rfl)
set_option maxRecDepth 20000 in
theorem bw_2_186 : Cond.methodLink RL 95 yX4_cores ∈ bg := bg_in2 (List.mem_of_getElem? (i := 186) (by decide +kernel)) (by rfl)
set_option maxRecDepth 20000 in
theorem bw_2_187 : Cond.instanceMethod yX4_cores ∈ bg := bg_in2 (List.mem_of_getElem? (i := 187) (by decide +kernel)) (by rfl)
set_option maxRecDepth 20000 in
theorem bw_2_188 : Cond.selects RX4 yX4_cores yX4_cores ∈ bg := bg_in2 (List.mem_of_getElem? (i := 188) (by decide +kernel)) (by rfl)
set_option maxRecDepth 20000 in
theorem bw_2_189 : Cond.code yX4_cores cX4_cores 1 (some .int) ∈ bg := bg_in2 (List.mem_of_getElem? (i := 189) (rfl)) (by rfl)
set_option maxRecDepth 20000 in
theorem bw_s_0 : Cond.selects RX3 yX3_isCore yX3_isCore ∈ bg := bg_sel (y := yX3_isCore) (n := 2) (List.mem_of_getElem? (i := 0) (by decide +kernel))
set_option maxRecDepth 20000 in
theorem bw_s_1 : Cond.selects RX1 yX1_setInstruction yX1_setInstruction ∈ bg := bg_sel (y := yX1_setInstruction) (n := 8) (List.mem_of_getElem? (i := 1) (by decide +kernel))
set_option maxRecDepth 20000 in
theorem bw_s_2 : Cond.selects RX1 yX1_doInstruction yX1_doInstruction ∈ bg := bg_sel (y := yX1_doInstruction) (n := 8) (List.mem_of_getElem? (i := 2) (by decide +kernel))
set_option maxRecDepth 20000 in
theorem bw_s_3 : Cond.selects RX1 yX1_mustWait yX1_mustWait ∈ bg := bg_sel (y := yX1_mustWait) (n := 8) (List.mem_of_getElem? (i := 3) (by decide +kernel))
set_option maxRecDepth 20000 in
theorem bw_s_4 : Cond.selects RX0 yX0_isFull yX0_isFull ∈ bg := bg_sel (y := yX0_isFull) (n := 4) (List.mem_of_getElem? (i := 4) (by decide +kernel))
set_option maxRecDepth 20000 in
theorem bw_s_5 : Cond.selects RX1 yX1_nextPlace yX1_nextPlace ∈ bg := bg_sel (y := yX1_nextPlace) (n := 8) (List.mem_of_getElem? (i := 5) (by decide +kernel))
set_option maxRecDepth 20000 in
theorem bw_s_6 : Cond.selects RX1 yX1_perform yX1_perform ∈ bg := bg_sel (y := yX1_perform) (n := 8) (List.mem_of_getElem? (i := 6) (by decide +kernel))
set_option maxRecDepth 20000 in
theorem bw_s_7 : Cond.selects RX0 yX0_newestValue yX0_newestValue ∈ bg := bg_sel (y := yX0_newestValue) (n := 4) (List.mem_of_getElem? (i := 7) (by decide +kernel))
set_option maxRecDepth 20000 in
theorem bw_s_8 : Cond.selects RX0 yX0_append yX0_append ∈ bg := bg_sel (y := yX0_append) (n := 4) (List.mem_of_getElem? (i := 8) (by decide +kernel))
set_option maxRecDepth 20000 in
theorem bw_s_9 : Cond.selects RX1 yX1_swap yX1_swap ∈ bg := bg_sel (y := yX1_swap) (n := 8) (List.mem_of_getElem? (i := 9) (by decide +kernel))
set_option maxRecDepth 20000 in
theorem bw_s_10 : Cond.selects RX2 yX2_write yX2_write ∈ bg := bg_sel (y := yX2_write) (n := 3) (List.mem_of_getElem? (i := 10) (by decide +kernel))
set_option maxRecDepth 20000 in
theorem bw_s_11 : Cond.selects RX3 yX3_isEntry yX3_isEntry ∈ bg := bg_sel (y := yX3_isEntry) (n := 2) (List.mem_of_getElem? (i := 11) (by decide +kernel))
set_option maxRecDepth 20000 in
theorem bw_s_12 : Cond.selects RX0 yX0_mayLeave yX0_mayLeave ∈ bg := bg_sel (y := yX0_mayLeave) (n := 4) (List.mem_of_getElem? (i := 12) (by decide +kernel))
set_option maxRecDepth 20000 in
theorem bw_s_13 : Cond.selects RX0 yX0_letsPass yX0_letsPass ∈ bg := bg_sel (y := yX0_letsPass) (n := 4) (List.mem_of_getElem? (i := 13) (by decide +kernel))
set_option maxRecDepth 20000 in
theorem bw_s_14 : Cond.selects RX0 yX0_lineOf yX0_lineOf ∈ bg := bg_sel (y := yX0_lineOf) (n := 4) (List.mem_of_getElem? (i := 14) (by decide +kernel))
set_option maxRecDepth 20000 in
theorem bw_s_15 : Cond.selects RX0 yX0_letOut yX0_letOut ∈ bg := bg_sel (y := yX0_letOut) (n := 4) (List.mem_of_getElem? (i := 15) (by decide +kernel))
set_option maxRecDepth 20000 in
theorem bw_s_16 : Cond.selects RX2 yX2_writeBack yX2_writeBack ∈ bg := bg_sel (y := yX2_writeBack) (n := 3) (List.mem_of_getElem? (i := 16) (by decide +kernel))
set_option maxRecDepth 20000 in
theorem bw_s_17 : Cond.selects RX0 yX0_remove yX0_remove ∈ bg := bg_sel (y := yX0_remove) (n := 4) (List.mem_of_getElem? (i := 17) (by decide +kernel))
set_option maxRecDepth 20000 in
theorem bw_s_18 : Cond.selects RX2 yX2_fallBackToStorage yX2_fallBackToStorage ∈ bg := bg_sel (y := yX2_fallBackToStorage) (n := 3) (List.mem_of_getElem? (i := 18) (by decide +kernel))
set_option maxRecDepth 20000 in
theorem bw_s_19 : Cond.selects RX1 yX1_beginAgain yX1_beginAgain ∈ bg := bg_sel (y := yX1_beginAgain) (n := 8) (List.mem_of_getElem? (i := 19) (by decide +kernel))
set_option maxRecDepth 20000 in
theorem bw_s_20 : Cond.selects RX4 yX4_isCore yX4_isCore ∈ bg := bg_sel (y := yX4_isCore) (n := 18) (List.mem_of_getElem? (i := 20) (by decide +kernel))
set_option maxRecDepth 20000 in
theorem bw_s_21 : Cond.selects RX4 yX4_writeBack yX4_writeBack ∈ bg := bg_sel (y := yX4_writeBack) (n := 18) (List.mem_of_getElem? (i := 21) (by decide +kernel))
set_option maxRecDepth 20000 in
theorem bw_s_22 : Cond.selects RX4 yX4_passes yX4_passes ∈ bg := bg_sel (y := yX4_passes) (n := 18) (List.mem_of_getElem? (i := 22) (by decide +kernel))
set_option maxRecDepth 20000 in
theorem bw_s_23 : Cond.selects RX4 yX4_lineOf yX4_lineOf ∈ bg := bg_sel (y := yX4_lineOf) (n := 18) (List.mem_of_getElem? (i := 23) (by decide +kernel))
set_option maxRecDepth 20000 in
theorem bw_s_24 : Cond.selects RX4 yX4_store yX4_store ∈ bg := bg_sel (y := yX4_store) (n := 18) (List.mem_of_getElem? (i := 24) (by decide +kernel))
set_option maxRecDepth 20000 in
theorem bw_s_25 : Cond.selects RX4 yX4_append yX4_append ∈ bg := bg_sel (y := yX4_append) (n := 18) (List.mem_of_getElem? (i := 25) (by decide +kernel))
set_option maxRecDepth 20000 in
theorem bw_s_26 : Cond.selects RX4 yX4_swap yX4_swap ∈ bg := bg_sel (y := yX4_swap) (n := 18) (List.mem_of_getElem? (i := 26) (by decide +kernel))
theorem inX0 : ∀ w ∈ u_ws RX0 TX0 4, w ∈ bg := by
  have e : u_ws RX0 TX0 4 = [Cond.laysFinal "StoreBufferCores$Buffer" "StoreBufferCores$Buffer" "kinds" "[I", Cond.laysFinal "StoreBufferCores$Buffer" "StoreBufferCores$Buffer" "targets" "[I", Cond.laysFinal "StoreBufferCores$Buffer" "StoreBufferCores$Buffer" "values" "[I", Cond.lays "StoreBufferCores$Buffer" "StoreBufferCores$Buffer" "count" "I"] := by decide +kernel
  rw [e]
  intro w h
  simp only [List.mem_cons, List.not_mem_nil, or_false] at h
  rcases h with rfl | rfl | rfl | rfl
  · exact bw_1_58
  · exact bw_1_60
  · exact bw_1_62
  · exact bw_1_64
theorem inX1 : ∀ w ∈ u_ws RX1 TX1 8, w ∈ bg := by
  have e : u_ws RX1 TX1 8 = [Cond.laysFinal "StoreBufferCores$Core" "StoreBufferCores$Core" "registers" "[I", Cond.laysFinal "StoreBufferCores$Core" "StoreBufferCores$Core" "codes" "[I", Cond.laysFinal "StoreBufferCores$Core" "StoreBufferCores$Core" "xs" "[I", Cond.laysFinal "StoreBufferCores$Core" "StoreBufferCores$Core" "ys" "[I", Cond.laysFinal "StoreBufferCores$Core" "StoreBufferCores$Core" "numbers" "[I", Cond.laysFinal "StoreBufferCores$Core" "StoreBufferCores$Core" "buffer" "LStoreBufferCores$Buffer;", Cond.lays "StoreBufferCores$Core" "StoreBufferCores$Core" "pc" "I", Cond.lays "StoreBufferCores$Core" "StoreBufferCores$Core" "recoveryEntry" "I"] := by decide +kernel
  rw [e]
  intro w h
  simp only [List.mem_cons, List.not_mem_nil, or_false] at h
  rcases h with rfl | rfl | rfl | rfl | rfl | rfl | rfl | rfl
  · exact bw_1_79
  · exact bw_1_81
  · exact bw_1_83
  · exact bw_1_85
  · exact bw_1_87
  · exact bw_1_89
  · exact bw_1_91
  · exact bw_1_93
theorem inX2 : ∀ w ∈ u_ws RX2 TX2 3, w ∈ bg := by
  have e : u_ws RX2 TX2 3 = [Cond.laysFinal "StoreBufferCores$SharedMemory" "StoreBufferCores$SharedMemory" "words" "[I", Cond.laysFinal "StoreBufferCores$SharedMemory" "StoreBufferCores$SharedMemory" "stored" "[I", Cond.laysFinal "StoreBufferCores$SharedMemory" "StoreBufferCores$SharedMemory" "unwritten" "[Z"] := by decide +kernel
  rw [e]
  intro w h
  simp only [List.mem_cons, List.not_mem_nil, or_false] at h
  rcases h with rfl | rfl | rfl
  · exact bw_1_27
  · exact bw_1_29
  · exact bw_1_31
theorem inX3 : ∀ w ∈ u_ws RX3 TX3 2, w ∈ bg := by
  have e : u_ws RX3 TX3 2 = [Cond.laysFinal "StoreBufferCores" "StoreBufferCores" "shared" "LStoreBufferCores$SharedMemory;", Cond.laysFinal "StoreBufferCores" "StoreBufferCores" "row" "[LStoreBufferCores$Core;"] := by decide +kernel
  rw [e]
  intro w h
  simp only [List.mem_cons, List.not_mem_nil, or_false] at h
  rcases h with rfl | rfl
  · exact bw_1_98
  · exact bw_1_100
theorem inX4 : ∀ w ∈ u_ws RX4 TX4 18, w ∈ bg := by
  have e : u_ws RX4 TX4 18 = [Cond.laysFinal "StoreBufferCoresModel" "StoreBufferCoresModel" "cores" "I", Cond.laysFinal "StoreBufferCoresModel" "StoreBufferCoresModel" "room" "I", Cond.laysFinal "StoreBufferCoresModel" "StoreBufferCoresModel" "codes" "[I", Cond.laysFinal "StoreBufferCoresModel" "StoreBufferCoresModel" "firsts" "[I", Cond.laysFinal "StoreBufferCoresModel" "StoreBufferCoresModel" "seconds" "[I", Cond.laysFinal "StoreBufferCoresModel" "StoreBufferCoresModel" "numbers" "[I", Cond.laysFinal "StoreBufferCoresModel" "StoreBufferCoresModel" "registers" "[I", Cond.laysFinal "StoreBufferCoresModel" "StoreBufferCoresModel" "place" "[I", Cond.laysFinal "StoreBufferCoresModel" "StoreBufferCoresModel" "recovery" "[I", Cond.laysFinal "StoreBufferCoresModel" "StoreBufferCoresModel" "held" "[I", Cond.laysFinal "StoreBufferCoresModel" "StoreBufferCoresModel" "kind" "[I", Cond.laysFinal "StoreBufferCoresModel" "StoreBufferCoresModel" "target" "[I", Cond.laysFinal "StoreBufferCoresModel" "StoreBufferCoresModel" "value" "[I", Cond.laysFinal "StoreBufferCoresModel" "StoreBufferCoresModel" "memory" "[I", Cond.laysFinal "StoreBufferCoresModel" "StoreBufferCoresModel" "storage" "[I", Cond.lays "StoreBufferCoresModel" "StoreBufferCoresModel" "time" "I", Cond.laysFinal "StoreBufferCoresModel" "StoreBufferCoresModel" "putAt" "[I", Cond.laysFinal "StoreBufferCoresModel" "StoreBufferCoresModel" "backAt" "[I"] := by decide +kernel
  rw [e]
  intro w h
  simp only [List.mem_cons, List.not_mem_nil, or_false] at h
  rcases h with rfl | rfl | rfl | rfl | rfl | rfl | rfl | rfl | rfl | rfl | rfl | rfl | rfl | rfl | rfl | rfl | rfl | rfl
  · exact bw_2_54
  · exact bw_2_56
  · exact bw_2_58
  · exact bw_2_60
  · exact bw_2_62
  · exact bw_2_64
  · exact bw_2_66
  · exact bw_2_68
  · exact bw_2_70
  · exact bw_2_72
  · exact bw_2_74
  · exact bw_2_76
  · exact bw_2_78
  · exact bw_2_80
  · exact bw_2_82
  · exact bw_2_84
  · exact bw_2_86
  · exact bw_2_88
end
section
theorem dL_cell_0 : decode cL_cell 0 = .ok (.iload_n 1, 1) := by decide +kernel
theorem dL_cell_1 : decode cL_cell 1 = .ok (.aload_n 0, 1) := by decide +kernel
theorem dL_cell_2 : decode cL_cell 2 = .ok (.arraylength, 1) := by decide +kernel
theorem dL_cell_3 : decode cL_cell 3 = .ok (.if_icmp .ge 9, 3) := by decide +kernel
theorem dL_cell_6 : decode cL_cell 6 = .ok (.aload_n 0, 1) := by decide +kernel
theorem dL_cell_7 : decode cL_cell 7 = .ok (.iload_n 1, 1) := by decide +kernel
theorem dL_cell_8 : decode cL_cell 8 = .ok (.iaload, 1) := by decide +kernel
theorem dL_cell_9 : decode cL_cell 9 = .ok (.goto 4, 3) := by decide +kernel
theorem dL_cell_12 : decode cL_cell 12 = .ok (.iconst 0, 1) := by decide +kernel
theorem dL_cell_13 : decode cL_cell 13 = .ok (.ireturn, 1) := by decide +kernel
theorem dL_law_0 : decode cL_law 0 = .ok (.new 7, 3) := by decide +kernel
theorem dL_law_3 : decode cL_law 3 = .ok (.dup, 1) := by decide +kernel
theorem dL_law_4 : decode cL_law 4 = .ok (.aload_n 0, 1) := by decide +kernel
theorem dL_law_5 : decode cL_law 5 = .ok (.iconst 0, 1) := by decide +kernel
theorem dL_law_6 : decode cL_law 6 = .ok (.invokestatic 9, 3) := by decide +kernel
theorem dL_law_9 : decode cL_law 9 = .ok (.aload_n 0, 1) := by decide +kernel
theorem dL_law_10 : decode cL_law 10 = .ok (.iconst 1, 1) := by decide +kernel
theorem dL_law_11 : decode cL_law 11 = .ok (.invokestatic 9, 3) := by decide +kernel
theorem dL_law_14 : decode cL_law 14 = .ok (.invokespecial 15, 3) := by decide +kernel
theorem dL_law_17 : decode cL_law 17 = .ok (.astore_n 1, 1) := by decide +kernel
theorem dL_law_18 : decode cL_law 18 = .ok (.new 18, 3) := by decide +kernel
theorem dL_law_21 : decode cL_law 21 = .ok (.dup, 1) := by decide +kernel
theorem dL_law_22 : decode cL_law 22 = .ok (.aload_n 0, 1) := by decide +kernel
theorem dL_law_23 : decode cL_law 23 = .ok (.iconst 0, 1) := by decide +kernel
theorem dL_law_24 : decode cL_law 24 = .ok (.invokestatic 9, 3) := by decide +kernel
theorem dL_law_27 : decode cL_law 27 = .ok (.aload_n 0, 1) := by decide +kernel
theorem dL_law_28 : decode cL_law 28 = .ok (.iconst 1, 1) := by decide +kernel
theorem dL_law_29 : decode cL_law 29 = .ok (.invokestatic 9, 3) := by decide +kernel
theorem dL_law_32 : decode cL_law 32 = .ok (.invokespecial 20, 3) := by decide +kernel
theorem dL_law_35 : decode cL_law 35 = .ok (.astore_n 2, 1) := by decide +kernel
theorem dL_law_36 : decode cL_law 36 = .ok (.iconst 2, 1) := by decide +kernel
theorem dL_law_37 : decode cL_law 37 = .ok (.istore_n 3, 1) := by decide +kernel
theorem dL_law_38 : decode cL_law 38 = .ok (.iload_n 3, 1) := by decide +kernel
theorem dL_law_39 : decode cL_law 39 = .ok (.aload_n 0, 1) := by decide +kernel
theorem dL_law_40 : decode cL_law 40 = .ok (.arraylength, 1) := by decide +kernel
theorem dL_law_41 : decode cL_law 41 = .ok (.bipush 7, 2) := by decide +kernel
theorem dL_law_43 : decode cL_law 43 = .ok (.isub, 1) := by decide +kernel
theorem dL_law_44 : decode cL_law 44 = .ok (.if_icmp .gt 589, 3) := by decide +kernel
theorem dL_law_47 : decode cL_law 47 = .ok (.aload_n 0, 1) := by decide +kernel
theorem dL_law_48 : decode cL_law 48 = .ok (.iload_n 3, 1) := by decide +kernel
theorem dL_law_49 : decode cL_law 49 = .ok (.iaload, 1) := by decide +kernel
theorem dL_law_50 : decode cL_law 50 = .ok (.bipush 31, 2) := by decide +kernel
theorem dL_law_52 : decode cL_law 52 = .ok (.iand, 1) := by decide +kernel
theorem dL_law_53 : decode cL_law 53 = .ok (.tableswitch 574 0 16 #[83, 158, 191, 214, 247, 280, 303, 326, 337, 370, 393, 416, 459, 492, 515, 538, 561], 83) := by decide +kernel
theorem dL_law_136 : decode cL_law 136 = .ok (.aload_n 1, 1) := by decide +kernel
theorem dL_law_137 : decode cL_law 137 = .ok (.aload_n 0, 1) := by decide +kernel
theorem dL_law_138 : decode cL_law 138 = .ok (.iload_n 3, 1) := by decide +kernel
theorem dL_law_139 : decode cL_law 139 = .ok (.iconst 1, 1) := by decide +kernel
theorem dL_law_140 : decode cL_law 140 = .ok (.iadd, 1) := by decide +kernel
theorem dL_law_141 : decode cL_law 141 = .ok (.iaload, 1) := by decide +kernel
theorem dL_law_142 : decode cL_law 142 = .ok (.aload_n 0, 1) := by decide +kernel
theorem dL_law_143 : decode cL_law 143 = .ok (.iload_n 3, 1) := by decide +kernel
theorem dL_law_144 : decode cL_law 144 = .ok (.iconst 2, 1) := by decide +kernel
theorem dL_law_145 : decode cL_law 145 = .ok (.iadd, 1) := by decide +kernel
theorem dL_law_146 : decode cL_law 146 = .ok (.iaload, 1) := by decide +kernel
theorem dL_law_147 : decode cL_law 147 = .ok (.aload_n 0, 1) := by decide +kernel
theorem dL_law_148 : decode cL_law 148 = .ok (.iload_n 3, 1) := by decide +kernel
theorem dL_law_149 : decode cL_law 149 = .ok (.iconst 3, 1) := by decide +kernel
theorem dL_law_150 : decode cL_law 150 = .ok (.iadd, 1) := by decide +kernel
theorem dL_law_151 : decode cL_law 151 = .ok (.iaload, 1) := by decide +kernel
theorem dL_law_152 : decode cL_law 152 = .ok (.aload_n 0, 1) := by decide +kernel
theorem dL_law_153 : decode cL_law 153 = .ok (.iload_n 3, 1) := by decide +kernel
theorem dL_law_154 : decode cL_law 154 = .ok (.iconst 4, 1) := by decide +kernel
theorem dL_law_155 : decode cL_law 155 = .ok (.iadd, 1) := by decide +kernel
theorem dL_law_156 : decode cL_law 156 = .ok (.iaload, 1) := by decide +kernel
theorem dL_law_157 : decode cL_law 157 = .ok (.aload_n 0, 1) := by decide +kernel
theorem dL_law_158 : decode cL_law 158 = .ok (.iload_n 3, 1) := by decide +kernel
theorem dL_law_159 : decode cL_law 159 = .ok (.iconst 5, 1) := by decide +kernel
theorem dL_law_160 : decode cL_law 160 = .ok (.iadd, 1) := by decide +kernel
theorem dL_law_161 : decode cL_law 161 = .ok (.iaload, 1) := by decide +kernel
theorem dL_law_162 : decode cL_law 162 = .ok (.aload_n 0, 1) := by decide +kernel
theorem dL_law_163 : decode cL_law 163 = .ok (.iload_n 3, 1) := by decide +kernel
theorem dL_law_164 : decode cL_law 164 = .ok (.bipush 6, 2) := by decide +kernel
theorem dL_law_166 : decode cL_law 166 = .ok (.iadd, 1) := by decide +kernel
theorem dL_law_167 : decode cL_law 167 = .ok (.iaload, 1) := by decide +kernel
theorem dL_law_168 : decode cL_law 168 = .ok (.invokevirtual 21, 3) := by decide +kernel
theorem dL_law_171 : decode cL_law 171 = .ok (.aload_n 2, 1) := by decide +kernel
theorem dL_law_172 : decode cL_law 172 = .ok (.aload_n 0, 1) := by decide +kernel
theorem dL_law_173 : decode cL_law 173 = .ok (.iload_n 3, 1) := by decide +kernel
theorem dL_law_174 : decode cL_law 174 = .ok (.iconst 1, 1) := by decide +kernel
theorem dL_law_175 : decode cL_law 175 = .ok (.iadd, 1) := by decide +kernel
theorem dL_law_176 : decode cL_law 176 = .ok (.iaload, 1) := by decide +kernel
theorem dL_law_177 : decode cL_law 177 = .ok (.aload_n 0, 1) := by decide +kernel
theorem dL_law_178 : decode cL_law 178 = .ok (.iload_n 3, 1) := by decide +kernel
theorem dL_law_179 : decode cL_law 179 = .ok (.iconst 2, 1) := by decide +kernel
theorem dL_law_180 : decode cL_law 180 = .ok (.iadd, 1) := by decide +kernel
theorem dL_law_181 : decode cL_law 181 = .ok (.iaload, 1) := by decide +kernel
theorem dL_law_182 : decode cL_law 182 = .ok (.aload_n 0, 1) := by decide +kernel
theorem dL_law_183 : decode cL_law 183 = .ok (.iload_n 3, 1) := by decide +kernel
theorem dL_law_184 : decode cL_law 184 = .ok (.iconst 3, 1) := by decide +kernel
theorem dL_law_185 : decode cL_law 185 = .ok (.iadd, 1) := by decide +kernel
theorem dL_law_186 : decode cL_law 186 = .ok (.iaload, 1) := by decide +kernel
theorem dL_law_187 : decode cL_law 187 = .ok (.aload_n 0, 1) := by decide +kernel
theorem dL_law_188 : decode cL_law 188 = .ok (.iload_n 3, 1) := by decide +kernel
theorem dL_law_189 : decode cL_law 189 = .ok (.iconst 4, 1) := by decide +kernel
theorem dL_law_190 : decode cL_law 190 = .ok (.iadd, 1) := by decide +kernel
theorem dL_law_191 : decode cL_law 191 = .ok (.iaload, 1) := by decide +kernel
theorem dL_law_192 : decode cL_law 192 = .ok (.aload_n 0, 1) := by decide +kernel
theorem dL_law_193 : decode cL_law 193 = .ok (.iload_n 3, 1) := by decide +kernel
theorem dL_law_194 : decode cL_law 194 = .ok (.iconst 5, 1) := by decide +kernel
theorem dL_law_195 : decode cL_law 195 = .ok (.iadd, 1) := by decide +kernel
theorem dL_law_196 : decode cL_law 196 = .ok (.iaload, 1) := by decide +kernel
theorem dL_law_197 : decode cL_law 197 = .ok (.aload_n 0, 1) := by decide +kernel
theorem dL_law_198 : decode cL_law 198 = .ok (.iload_n 3, 1) := by decide +kernel
theorem dL_law_199 : decode cL_law 199 = .ok (.bipush 6, 2) := by decide +kernel
theorem dL_law_201 : decode cL_law 201 = .ok (.iadd, 1) := by decide +kernel
theorem dL_law_202 : decode cL_law 202 = .ok (.iaload, 1) := by decide +kernel
theorem dL_law_203 : decode cL_law 203 = .ok (.invokevirtual 25, 3) := by decide +kernel
theorem dL_law_206 : decode cL_law 206 = .ok (.if_icmp .eq 421, 3) := by decide +kernel
theorem dL_law_209 : decode cL_law 209 = .ok (.iconst 0, 1) := by decide +kernel
theorem dL_law_210 : decode cL_law 210 = .ok (.ireturn, 1) := by decide +kernel
theorem dL_law_211 : decode cL_law 211 = .ok (.aload_n 1, 1) := by decide +kernel
theorem dL_law_212 : decode cL_law 212 = .ok (.aload_n 0, 1) := by decide +kernel
theorem dL_law_213 : decode cL_law 213 = .ok (.iload_n 3, 1) := by decide +kernel
theorem dL_law_214 : decode cL_law 214 = .ok (.iconst 1, 1) := by decide +kernel
theorem dL_law_215 : decode cL_law 215 = .ok (.iadd, 1) := by decide +kernel
theorem dL_law_216 : decode cL_law 216 = .ok (.iaload, 1) := by decide +kernel
theorem dL_law_217 : decode cL_law 217 = .ok (.aload_n 0, 1) := by decide +kernel
theorem dL_law_218 : decode cL_law 218 = .ok (.iload_n 3, 1) := by decide +kernel
theorem dL_law_219 : decode cL_law 219 = .ok (.iconst 2, 1) := by decide +kernel
theorem dL_law_220 : decode cL_law 220 = .ok (.iadd, 1) := by decide +kernel
theorem dL_law_221 : decode cL_law 221 = .ok (.iaload, 1) := by decide +kernel
theorem dL_law_222 : decode cL_law 222 = .ok (.invokevirtual 26, 3) := by decide +kernel
theorem dL_law_225 : decode cL_law 225 = .ok (.aload_n 2, 1) := by decide +kernel
theorem dL_law_226 : decode cL_law 226 = .ok (.aload_n 0, 1) := by decide +kernel
theorem dL_law_227 : decode cL_law 227 = .ok (.iload_n 3, 1) := by decide +kernel
theorem dL_law_228 : decode cL_law 228 = .ok (.iconst 1, 1) := by decide +kernel
theorem dL_law_229 : decode cL_law 229 = .ok (.iadd, 1) := by decide +kernel
theorem dL_law_230 : decode cL_law 230 = .ok (.iaload, 1) := by decide +kernel
theorem dL_law_231 : decode cL_law 231 = .ok (.aload_n 0, 1) := by decide +kernel
theorem dL_law_232 : decode cL_law 232 = .ok (.iload_n 3, 1) := by decide +kernel
theorem dL_law_233 : decode cL_law 233 = .ok (.iconst 2, 1) := by decide +kernel
theorem dL_law_234 : decode cL_law 234 = .ok (.iadd, 1) := by decide +kernel
theorem dL_law_235 : decode cL_law 235 = .ok (.iaload, 1) := by decide +kernel
theorem dL_law_236 : decode cL_law 236 = .ok (.invokevirtual 30, 3) := by decide +kernel
theorem dL_law_239 : decode cL_law 239 = .ok (.if_icmp .eq 388, 3) := by decide +kernel
theorem dL_law_242 : decode cL_law 242 = .ok (.iconst 0, 1) := by decide +kernel
theorem dL_law_243 : decode cL_law 243 = .ok (.ireturn, 1) := by decide +kernel
theorem dL_law_244 : decode cL_law 244 = .ok (.aload_n 1, 1) := by decide +kernel
theorem dL_law_245 : decode cL_law 245 = .ok (.aload_n 0, 1) := by decide +kernel
theorem dL_law_246 : decode cL_law 246 = .ok (.iload_n 3, 1) := by decide +kernel
theorem dL_law_247 : decode cL_law 247 = .ok (.iconst 1, 1) := by decide +kernel
theorem dL_law_248 : decode cL_law 248 = .ok (.iadd, 1) := by decide +kernel
theorem dL_law_249 : decode cL_law 249 = .ok (.iaload, 1) := by decide +kernel
theorem dL_law_250 : decode cL_law 250 = .ok (.invokevirtual 31, 3) := by decide +kernel
theorem dL_law_253 : decode cL_law 253 = .ok (.aload_n 2, 1) := by decide +kernel
theorem dL_law_254 : decode cL_law 254 = .ok (.aload_n 0, 1) := by decide +kernel
theorem dL_law_255 : decode cL_law 255 = .ok (.iload_n 3, 1) := by decide +kernel
theorem dL_law_256 : decode cL_law 256 = .ok (.iconst 1, 1) := by decide +kernel
theorem dL_law_257 : decode cL_law 257 = .ok (.iadd, 1) := by decide +kernel
theorem dL_law_258 : decode cL_law 258 = .ok (.iaload, 1) := by decide +kernel
theorem dL_law_259 : decode cL_law 259 = .ok (.invokevirtual 35, 3) := by decide +kernel
theorem dL_law_262 : decode cL_law 262 = .ok (.if_icmp .eq 365, 3) := by decide +kernel
theorem dL_law_265 : decode cL_law 265 = .ok (.iconst 0, 1) := by decide +kernel
theorem dL_law_266 : decode cL_law 266 = .ok (.ireturn, 1) := by decide +kernel
theorem dL_law_267 : decode cL_law 267 = .ok (.aload_n 1, 1) := by decide +kernel
theorem dL_law_268 : decode cL_law 268 = .ok (.aload_n 0, 1) := by decide +kernel
theorem dL_law_269 : decode cL_law 269 = .ok (.iload_n 3, 1) := by decide +kernel
theorem dL_law_270 : decode cL_law 270 = .ok (.iconst 1, 1) := by decide +kernel
theorem dL_law_271 : decode cL_law 271 = .ok (.iadd, 1) := by decide +kernel
theorem dL_law_272 : decode cL_law 272 = .ok (.iaload, 1) := by decide +kernel
theorem dL_law_273 : decode cL_law 273 = .ok (.aload_n 0, 1) := by decide +kernel
theorem dL_law_274 : decode cL_law 274 = .ok (.iload_n 3, 1) := by decide +kernel
theorem dL_law_275 : decode cL_law 275 = .ok (.iconst 2, 1) := by decide +kernel
theorem dL_law_276 : decode cL_law 276 = .ok (.iadd, 1) := by decide +kernel
theorem dL_law_277 : decode cL_law 277 = .ok (.iaload, 1) := by decide +kernel
theorem dL_law_278 : decode cL_law 278 = .ok (.invokevirtual 36, 3) := by decide +kernel
theorem dL_law_281 : decode cL_law 281 = .ok (.aload_n 2, 1) := by decide +kernel
theorem dL_law_282 : decode cL_law 282 = .ok (.aload_n 0, 1) := by decide +kernel
theorem dL_law_283 : decode cL_law 283 = .ok (.iload_n 3, 1) := by decide +kernel
theorem dL_law_284 : decode cL_law 284 = .ok (.iconst 1, 1) := by decide +kernel
theorem dL_law_285 : decode cL_law 285 = .ok (.iadd, 1) := by decide +kernel
theorem dL_law_286 : decode cL_law 286 = .ok (.iaload, 1) := by decide +kernel
theorem dL_law_287 : decode cL_law 287 = .ok (.aload_n 0, 1) := by decide +kernel
theorem dL_law_288 : decode cL_law 288 = .ok (.iload_n 3, 1) := by decide +kernel
theorem dL_law_289 : decode cL_law 289 = .ok (.iconst 2, 1) := by decide +kernel
theorem dL_law_290 : decode cL_law 290 = .ok (.iadd, 1) := by decide +kernel
theorem dL_law_291 : decode cL_law 291 = .ok (.iaload, 1) := by decide +kernel
theorem dL_law_292 : decode cL_law 292 = .ok (.invokevirtual 40, 3) := by decide +kernel
theorem dL_law_295 : decode cL_law 295 = .ok (.if_icmp .eq 332, 3) := by decide +kernel
theorem dL_law_298 : decode cL_law 298 = .ok (.iconst 0, 1) := by decide +kernel
theorem dL_law_299 : decode cL_law 299 = .ok (.ireturn, 1) := by decide +kernel
theorem dL_law_300 : decode cL_law 300 = .ok (.aload_n 1, 1) := by decide +kernel
theorem dL_law_301 : decode cL_law 301 = .ok (.aload_n 0, 1) := by decide +kernel
theorem dL_law_302 : decode cL_law 302 = .ok (.iload_n 3, 1) := by decide +kernel
theorem dL_law_303 : decode cL_law 303 = .ok (.iconst 1, 1) := by decide +kernel
theorem dL_law_304 : decode cL_law 304 = .ok (.iadd, 1) := by decide +kernel
theorem dL_law_305 : decode cL_law 305 = .ok (.iaload, 1) := by decide +kernel
theorem dL_law_306 : decode cL_law 306 = .ok (.aload_n 0, 1) := by decide +kernel
theorem dL_law_307 : decode cL_law 307 = .ok (.iload_n 3, 1) := by decide +kernel
theorem dL_law_308 : decode cL_law 308 = .ok (.iconst 2, 1) := by decide +kernel
theorem dL_law_309 : decode cL_law 309 = .ok (.iadd, 1) := by decide +kernel
theorem dL_law_310 : decode cL_law 310 = .ok (.iaload, 1) := by decide +kernel
theorem dL_law_311 : decode cL_law 311 = .ok (.invokevirtual 41, 3) := by decide +kernel
theorem dL_law_314 : decode cL_law 314 = .ok (.aload_n 2, 1) := by decide +kernel
theorem dL_law_315 : decode cL_law 315 = .ok (.aload_n 0, 1) := by decide +kernel
theorem dL_law_316 : decode cL_law 316 = .ok (.iload_n 3, 1) := by decide +kernel
theorem dL_law_317 : decode cL_law 317 = .ok (.iconst 1, 1) := by decide +kernel
theorem dL_law_318 : decode cL_law 318 = .ok (.iadd, 1) := by decide +kernel
theorem dL_law_319 : decode cL_law 319 = .ok (.iaload, 1) := by decide +kernel
theorem dL_law_320 : decode cL_law 320 = .ok (.aload_n 0, 1) := by decide +kernel
theorem dL_law_321 : decode cL_law 321 = .ok (.iload_n 3, 1) := by decide +kernel
theorem dL_law_322 : decode cL_law 322 = .ok (.iconst 2, 1) := by decide +kernel
theorem dL_law_323 : decode cL_law 323 = .ok (.iadd, 1) := by decide +kernel
theorem dL_law_324 : decode cL_law 324 = .ok (.iaload, 1) := by decide +kernel
theorem dL_law_325 : decode cL_law 325 = .ok (.invokevirtual 44, 3) := by decide +kernel
theorem dL_law_328 : decode cL_law 328 = .ok (.if_icmp .eq 299, 3) := by decide +kernel
theorem dL_law_331 : decode cL_law 331 = .ok (.iconst 0, 1) := by decide +kernel
theorem dL_law_332 : decode cL_law 332 = .ok (.ireturn, 1) := by decide +kernel
theorem dL_law_333 : decode cL_law 333 = .ok (.aload_n 1, 1) := by decide +kernel
theorem dL_law_334 : decode cL_law 334 = .ok (.aload_n 0, 1) := by decide +kernel
theorem dL_law_335 : decode cL_law 335 = .ok (.iload_n 3, 1) := by decide +kernel
theorem dL_law_336 : decode cL_law 336 = .ok (.iconst 1, 1) := by decide +kernel
theorem dL_law_337 : decode cL_law 337 = .ok (.iadd, 1) := by decide +kernel
theorem dL_law_338 : decode cL_law 338 = .ok (.iaload, 1) := by decide +kernel
theorem dL_law_339 : decode cL_law 339 = .ok (.invokevirtual 45, 3) := by decide +kernel
theorem dL_law_342 : decode cL_law 342 = .ok (.aload_n 2, 1) := by decide +kernel
theorem dL_law_343 : decode cL_law 343 = .ok (.aload_n 0, 1) := by decide +kernel
theorem dL_law_344 : decode cL_law 344 = .ok (.iload_n 3, 1) := by decide +kernel
theorem dL_law_345 : decode cL_law 345 = .ok (.iconst 1, 1) := by decide +kernel
theorem dL_law_346 : decode cL_law 346 = .ok (.iadd, 1) := by decide +kernel
theorem dL_law_347 : decode cL_law 347 = .ok (.iaload, 1) := by decide +kernel
theorem dL_law_348 : decode cL_law 348 = .ok (.invokevirtual 48, 3) := by decide +kernel
theorem dL_law_351 : decode cL_law 351 = .ok (.if_icmp .eq 276, 3) := by decide +kernel
theorem dL_law_354 : decode cL_law 354 = .ok (.iconst 0, 1) := by decide +kernel
theorem dL_law_355 : decode cL_law 355 = .ok (.ireturn, 1) := by decide +kernel
theorem dL_law_356 : decode cL_law 356 = .ok (.aload_n 1, 1) := by decide +kernel
theorem dL_law_357 : decode cL_law 357 = .ok (.aload_n 0, 1) := by decide +kernel
theorem dL_law_358 : decode cL_law 358 = .ok (.iload_n 3, 1) := by decide +kernel
theorem dL_law_359 : decode cL_law 359 = .ok (.iconst 1, 1) := by decide +kernel
theorem dL_law_360 : decode cL_law 360 = .ok (.iadd, 1) := by decide +kernel
theorem dL_law_361 : decode cL_law 361 = .ok (.iaload, 1) := by decide +kernel
theorem dL_law_362 : decode cL_law 362 = .ok (.invokevirtual 49, 3) := by decide +kernel
theorem dL_law_365 : decode cL_law 365 = .ok (.aload_n 2, 1) := by decide +kernel
theorem dL_law_366 : decode cL_law 366 = .ok (.aload_n 0, 1) := by decide +kernel
theorem dL_law_367 : decode cL_law 367 = .ok (.iload_n 3, 1) := by decide +kernel
theorem dL_law_368 : decode cL_law 368 = .ok (.iconst 1, 1) := by decide +kernel
theorem dL_law_369 : decode cL_law 369 = .ok (.iadd, 1) := by decide +kernel
theorem dL_law_370 : decode cL_law 370 = .ok (.iaload, 1) := by decide +kernel
theorem dL_law_371 : decode cL_law 371 = .ok (.invokevirtual 53, 3) := by decide +kernel
theorem dL_law_374 : decode cL_law 374 = .ok (.if_icmp .eq 253, 3) := by decide +kernel
theorem dL_law_377 : decode cL_law 377 = .ok (.iconst 0, 1) := by decide +kernel
theorem dL_law_378 : decode cL_law 378 = .ok (.ireturn, 1) := by decide +kernel
theorem dL_law_379 : decode cL_law 379 = .ok (.aload_n 1, 1) := by decide +kernel
theorem dL_law_380 : decode cL_law 380 = .ok (.invokevirtual 54, 3) := by decide +kernel
theorem dL_law_383 : decode cL_law 383 = .ok (.aload_n 2, 1) := by decide +kernel
theorem dL_law_384 : decode cL_law 384 = .ok (.invokevirtual 57, 3) := by decide +kernel
theorem dL_law_387 : decode cL_law 387 = .ok (.goto 240, 3) := by decide +kernel
theorem dL_law_390 : decode cL_law 390 = .ok (.aload_n 1, 1) := by decide +kernel
theorem dL_law_391 : decode cL_law 391 = .ok (.aload_n 0, 1) := by decide +kernel
theorem dL_law_392 : decode cL_law 392 = .ok (.iload_n 3, 1) := by decide +kernel
theorem dL_law_393 : decode cL_law 393 = .ok (.iconst 1, 1) := by decide +kernel
theorem dL_law_394 : decode cL_law 394 = .ok (.iadd, 1) := by decide +kernel
theorem dL_law_395 : decode cL_law 395 = .ok (.iaload, 1) := by decide +kernel
theorem dL_law_396 : decode cL_law 396 = .ok (.aload_n 0, 1) := by decide +kernel
theorem dL_law_397 : decode cL_law 397 = .ok (.iload_n 3, 1) := by decide +kernel
theorem dL_law_398 : decode cL_law 398 = .ok (.iconst 2, 1) := by decide +kernel
theorem dL_law_399 : decode cL_law 399 = .ok (.iadd, 1) := by decide +kernel
theorem dL_law_400 : decode cL_law 400 = .ok (.iaload, 1) := by decide +kernel
theorem dL_law_401 : decode cL_law 401 = .ok (.invokevirtual 58, 3) := by decide +kernel
theorem dL_law_404 : decode cL_law 404 = .ok (.aload_n 2, 1) := by decide +kernel
theorem dL_law_405 : decode cL_law 405 = .ok (.aload_n 0, 1) := by decide +kernel
theorem dL_law_406 : decode cL_law 406 = .ok (.iload_n 3, 1) := by decide +kernel
theorem dL_law_407 : decode cL_law 407 = .ok (.iconst 1, 1) := by decide +kernel
theorem dL_law_408 : decode cL_law 408 = .ok (.iadd, 1) := by decide +kernel
theorem dL_law_409 : decode cL_law 409 = .ok (.iaload, 1) := by decide +kernel
theorem dL_law_410 : decode cL_law 410 = .ok (.aload_n 0, 1) := by decide +kernel
theorem dL_law_411 : decode cL_law 411 = .ok (.iload_n 3, 1) := by decide +kernel
theorem dL_law_412 : decode cL_law 412 = .ok (.iconst 2, 1) := by decide +kernel
theorem dL_law_413 : decode cL_law 413 = .ok (.iadd, 1) := by decide +kernel
theorem dL_law_414 : decode cL_law 414 = .ok (.iaload, 1) := by decide +kernel
theorem dL_law_415 : decode cL_law 415 = .ok (.invokevirtual 61, 3) := by decide +kernel
theorem dL_law_418 : decode cL_law 418 = .ok (.if_icmp .eq 209, 3) := by decide +kernel
theorem dL_law_421 : decode cL_law 421 = .ok (.iconst 0, 1) := by decide +kernel
theorem dL_law_422 : decode cL_law 422 = .ok (.ireturn, 1) := by decide +kernel
theorem dL_law_423 : decode cL_law 423 = .ok (.aload_n 1, 1) := by decide +kernel
theorem dL_law_424 : decode cL_law 424 = .ok (.aload_n 0, 1) := by decide +kernel
theorem dL_law_425 : decode cL_law 425 = .ok (.iload_n 3, 1) := by decide +kernel
theorem dL_law_426 : decode cL_law 426 = .ok (.iconst 1, 1) := by decide +kernel
theorem dL_law_427 : decode cL_law 427 = .ok (.iadd, 1) := by decide +kernel
theorem dL_law_428 : decode cL_law 428 = .ok (.iaload, 1) := by decide +kernel
theorem dL_law_429 : decode cL_law 429 = .ok (.invokevirtual 62, 3) := by decide +kernel
theorem dL_law_432 : decode cL_law 432 = .ok (.aload_n 2, 1) := by decide +kernel
theorem dL_law_433 : decode cL_law 433 = .ok (.aload_n 0, 1) := by decide +kernel
theorem dL_law_434 : decode cL_law 434 = .ok (.iload_n 3, 1) := by decide +kernel
theorem dL_law_435 : decode cL_law 435 = .ok (.iconst 1, 1) := by decide +kernel
theorem dL_law_436 : decode cL_law 436 = .ok (.iadd, 1) := by decide +kernel
theorem dL_law_437 : decode cL_law 437 = .ok (.iaload, 1) := by decide +kernel
theorem dL_law_438 : decode cL_law 438 = .ok (.invokevirtual 65, 3) := by decide +kernel
theorem dL_law_441 : decode cL_law 441 = .ok (.if_icmp .eq 186, 3) := by decide +kernel
theorem dL_law_444 : decode cL_law 444 = .ok (.iconst 0, 1) := by decide +kernel
theorem dL_law_445 : decode cL_law 445 = .ok (.ireturn, 1) := by decide +kernel
theorem dL_law_446 : decode cL_law 446 = .ok (.aload_n 1, 1) := by decide +kernel
theorem dL_law_447 : decode cL_law 447 = .ok (.aload_n 0, 1) := by decide +kernel
theorem dL_law_448 : decode cL_law 448 = .ok (.iload_n 3, 1) := by decide +kernel
theorem dL_law_449 : decode cL_law 449 = .ok (.iconst 1, 1) := by decide +kernel
theorem dL_law_450 : decode cL_law 450 = .ok (.iadd, 1) := by decide +kernel
theorem dL_law_451 : decode cL_law 451 = .ok (.iaload, 1) := by decide +kernel
theorem dL_law_452 : decode cL_law 452 = .ok (.invokevirtual 66, 3) := by decide +kernel
theorem dL_law_455 : decode cL_law 455 = .ok (.aload_n 2, 1) := by decide +kernel
theorem dL_law_456 : decode cL_law 456 = .ok (.aload_n 0, 1) := by decide +kernel
theorem dL_law_457 : decode cL_law 457 = .ok (.iload_n 3, 1) := by decide +kernel
theorem dL_law_458 : decode cL_law 458 = .ok (.iconst 1, 1) := by decide +kernel
theorem dL_law_459 : decode cL_law 459 = .ok (.iadd, 1) := by decide +kernel
theorem dL_law_460 : decode cL_law 460 = .ok (.iaload, 1) := by decide +kernel
theorem dL_law_461 : decode cL_law 461 = .ok (.invokevirtual 69, 3) := by decide +kernel
theorem dL_law_464 : decode cL_law 464 = .ok (.if_icmp .eq 163, 3) := by decide +kernel
theorem dL_law_467 : decode cL_law 467 = .ok (.iconst 0, 1) := by decide +kernel
theorem dL_law_468 : decode cL_law 468 = .ok (.ireturn, 1) := by decide +kernel
theorem dL_law_469 : decode cL_law 469 = .ok (.aload_n 1, 1) := by decide +kernel
theorem dL_law_470 : decode cL_law 470 = .ok (.aload_n 0, 1) := by decide +kernel
theorem dL_law_471 : decode cL_law 471 = .ok (.iload_n 3, 1) := by decide +kernel
theorem dL_law_472 : decode cL_law 472 = .ok (.iconst 1, 1) := by decide +kernel
theorem dL_law_473 : decode cL_law 473 = .ok (.iadd, 1) := by decide +kernel
theorem dL_law_474 : decode cL_law 474 = .ok (.iaload, 1) := by decide +kernel
theorem dL_law_475 : decode cL_law 475 = .ok (.aload_n 0, 1) := by decide +kernel
theorem dL_law_476 : decode cL_law 476 = .ok (.iload_n 3, 1) := by decide +kernel
theorem dL_law_477 : decode cL_law 477 = .ok (.iconst 2, 1) := by decide +kernel
theorem dL_law_478 : decode cL_law 478 = .ok (.iadd, 1) := by decide +kernel
theorem dL_law_479 : decode cL_law 479 = .ok (.iaload, 1) := by decide +kernel
theorem dL_law_480 : decode cL_law 480 = .ok (.aload_n 0, 1) := by decide +kernel
theorem dL_law_481 : decode cL_law 481 = .ok (.iload_n 3, 1) := by decide +kernel
theorem dL_law_482 : decode cL_law 482 = .ok (.iconst 3, 1) := by decide +kernel
theorem dL_law_483 : decode cL_law 483 = .ok (.iadd, 1) := by decide +kernel
theorem dL_law_484 : decode cL_law 484 = .ok (.iaload, 1) := by decide +kernel
theorem dL_law_485 : decode cL_law 485 = .ok (.invokevirtual 70, 3) := by decide +kernel
theorem dL_law_488 : decode cL_law 488 = .ok (.aload_n 2, 1) := by decide +kernel
theorem dL_law_489 : decode cL_law 489 = .ok (.aload_n 0, 1) := by decide +kernel
theorem dL_law_490 : decode cL_law 490 = .ok (.iload_n 3, 1) := by decide +kernel
theorem dL_law_491 : decode cL_law 491 = .ok (.iconst 1, 1) := by decide +kernel
theorem dL_law_492 : decode cL_law 492 = .ok (.iadd, 1) := by decide +kernel
theorem dL_law_493 : decode cL_law 493 = .ok (.iaload, 1) := by decide +kernel
theorem dL_law_494 : decode cL_law 494 = .ok (.aload_n 0, 1) := by decide +kernel
theorem dL_law_495 : decode cL_law 495 = .ok (.iload_n 3, 1) := by decide +kernel
theorem dL_law_496 : decode cL_law 496 = .ok (.iconst 2, 1) := by decide +kernel
theorem dL_law_497 : decode cL_law 497 = .ok (.iadd, 1) := by decide +kernel
theorem dL_law_498 : decode cL_law 498 = .ok (.iaload, 1) := by decide +kernel
theorem dL_law_499 : decode cL_law 499 = .ok (.aload_n 0, 1) := by decide +kernel
theorem dL_law_500 : decode cL_law 500 = .ok (.iload_n 3, 1) := by decide +kernel
theorem dL_law_501 : decode cL_law 501 = .ok (.iconst 3, 1) := by decide +kernel
theorem dL_law_502 : decode cL_law 502 = .ok (.iadd, 1) := by decide +kernel
theorem dL_law_503 : decode cL_law 503 = .ok (.iaload, 1) := by decide +kernel
theorem dL_law_504 : decode cL_law 504 = .ok (.invokevirtual 74, 3) := by decide +kernel
theorem dL_law_507 : decode cL_law 507 = .ok (.if_icmp .eq 120, 3) := by decide +kernel
theorem dL_law_510 : decode cL_law 510 = .ok (.iconst 0, 1) := by decide +kernel
theorem dL_law_511 : decode cL_law 511 = .ok (.ireturn, 1) := by decide +kernel
theorem dL_law_512 : decode cL_law 512 = .ok (.aload_n 1, 1) := by decide +kernel
theorem dL_law_513 : decode cL_law 513 = .ok (.aload_n 0, 1) := by decide +kernel
theorem dL_law_514 : decode cL_law 514 = .ok (.iload_n 3, 1) := by decide +kernel
theorem dL_law_515 : decode cL_law 515 = .ok (.iconst 1, 1) := by decide +kernel
theorem dL_law_516 : decode cL_law 516 = .ok (.iadd, 1) := by decide +kernel
theorem dL_law_517 : decode cL_law 517 = .ok (.iaload, 1) := by decide +kernel
theorem dL_law_518 : decode cL_law 518 = .ok (.aload_n 0, 1) := by decide +kernel
theorem dL_law_519 : decode cL_law 519 = .ok (.iload_n 3, 1) := by decide +kernel
theorem dL_law_520 : decode cL_law 520 = .ok (.iconst 2, 1) := by decide +kernel
theorem dL_law_521 : decode cL_law 521 = .ok (.iadd, 1) := by decide +kernel
theorem dL_law_522 : decode cL_law 522 = .ok (.iaload, 1) := by decide +kernel
theorem dL_law_523 : decode cL_law 523 = .ok (.invokevirtual 75, 3) := by decide +kernel
theorem dL_law_526 : decode cL_law 526 = .ok (.aload_n 2, 1) := by decide +kernel
theorem dL_law_527 : decode cL_law 527 = .ok (.aload_n 0, 1) := by decide +kernel
theorem dL_law_528 : decode cL_law 528 = .ok (.iload_n 3, 1) := by decide +kernel
theorem dL_law_529 : decode cL_law 529 = .ok (.iconst 1, 1) := by decide +kernel
theorem dL_law_530 : decode cL_law 530 = .ok (.iadd, 1) := by decide +kernel
theorem dL_law_531 : decode cL_law 531 = .ok (.iaload, 1) := by decide +kernel
theorem dL_law_532 : decode cL_law 532 = .ok (.aload_n 0, 1) := by decide +kernel
theorem dL_law_533 : decode cL_law 533 = .ok (.iload_n 3, 1) := by decide +kernel
theorem dL_law_534 : decode cL_law 534 = .ok (.iconst 2, 1) := by decide +kernel
theorem dL_law_535 : decode cL_law 535 = .ok (.iadd, 1) := by decide +kernel
theorem dL_law_536 : decode cL_law 536 = .ok (.iaload, 1) := by decide +kernel
theorem dL_law_537 : decode cL_law 537 = .ok (.invokevirtual 78, 3) := by decide +kernel
theorem dL_law_540 : decode cL_law 540 = .ok (.if_icmp .eq 87, 3) := by decide +kernel
theorem dL_law_543 : decode cL_law 543 = .ok (.iconst 0, 1) := by decide +kernel
theorem dL_law_544 : decode cL_law 544 = .ok (.ireturn, 1) := by decide +kernel
theorem dL_law_545 : decode cL_law 545 = .ok (.aload_n 1, 1) := by decide +kernel
theorem dL_law_546 : decode cL_law 546 = .ok (.aload_n 0, 1) := by decide +kernel
theorem dL_law_547 : decode cL_law 547 = .ok (.iload_n 3, 1) := by decide +kernel
theorem dL_law_548 : decode cL_law 548 = .ok (.iconst 1, 1) := by decide +kernel
theorem dL_law_549 : decode cL_law 549 = .ok (.iadd, 1) := by decide +kernel
theorem dL_law_550 : decode cL_law 550 = .ok (.iaload, 1) := by decide +kernel
theorem dL_law_551 : decode cL_law 551 = .ok (.invokevirtual 79, 3) := by decide +kernel
theorem dL_law_554 : decode cL_law 554 = .ok (.aload_n 2, 1) := by decide +kernel
theorem dL_law_555 : decode cL_law 555 = .ok (.aload_n 0, 1) := by decide +kernel
theorem dL_law_556 : decode cL_law 556 = .ok (.iload_n 3, 1) := by decide +kernel
theorem dL_law_557 : decode cL_law 557 = .ok (.iconst 1, 1) := by decide +kernel
theorem dL_law_558 : decode cL_law 558 = .ok (.iadd, 1) := by decide +kernel
theorem dL_law_559 : decode cL_law 559 = .ok (.iaload, 1) := by decide +kernel
theorem dL_law_560 : decode cL_law 560 = .ok (.invokevirtual 82, 3) := by decide +kernel
theorem dL_law_563 : decode cL_law 563 = .ok (.if_icmp .eq 64, 3) := by decide +kernel
theorem dL_law_566 : decode cL_law 566 = .ok (.iconst 0, 1) := by decide +kernel
theorem dL_law_567 : decode cL_law 567 = .ok (.ireturn, 1) := by decide +kernel
theorem dL_law_568 : decode cL_law 568 = .ok (.aload_n 1, 1) := by decide +kernel
theorem dL_law_569 : decode cL_law 569 = .ok (.aload_n 0, 1) := by decide +kernel
theorem dL_law_570 : decode cL_law 570 = .ok (.iload_n 3, 1) := by decide +kernel
theorem dL_law_571 : decode cL_law 571 = .ok (.iconst 1, 1) := by decide +kernel
theorem dL_law_572 : decode cL_law 572 = .ok (.iadd, 1) := by decide +kernel
theorem dL_law_573 : decode cL_law 573 = .ok (.iaload, 1) := by decide +kernel
theorem dL_law_574 : decode cL_law 574 = .ok (.invokevirtual 83, 3) := by decide +kernel
theorem dL_law_577 : decode cL_law 577 = .ok (.aload_n 2, 1) := by decide +kernel
theorem dL_law_578 : decode cL_law 578 = .ok (.aload_n 0, 1) := by decide +kernel
theorem dL_law_579 : decode cL_law 579 = .ok (.iload_n 3, 1) := by decide +kernel
theorem dL_law_580 : decode cL_law 580 = .ok (.iconst 1, 1) := by decide +kernel
theorem dL_law_581 : decode cL_law 581 = .ok (.iadd, 1) := by decide +kernel
theorem dL_law_582 : decode cL_law 582 = .ok (.iaload, 1) := by decide +kernel
theorem dL_law_583 : decode cL_law 583 = .ok (.invokevirtual 86, 3) := by decide +kernel
theorem dL_law_586 : decode cL_law 586 = .ok (.if_icmp .eq 41, 3) := by decide +kernel
theorem dL_law_589 : decode cL_law 589 = .ok (.iconst 0, 1) := by decide +kernel
theorem dL_law_590 : decode cL_law 590 = .ok (.ireturn, 1) := by decide +kernel
theorem dL_law_591 : decode cL_law 591 = .ok (.aload_n 1, 1) := by decide +kernel
theorem dL_law_592 : decode cL_law 592 = .ok (.aload_n 0, 1) := by decide +kernel
theorem dL_law_593 : decode cL_law 593 = .ok (.iload_n 3, 1) := by decide +kernel
theorem dL_law_594 : decode cL_law 594 = .ok (.iconst 1, 1) := by decide +kernel
theorem dL_law_595 : decode cL_law 595 = .ok (.iadd, 1) := by decide +kernel
theorem dL_law_596 : decode cL_law 596 = .ok (.iaload, 1) := by decide +kernel
theorem dL_law_597 : decode cL_law 597 = .ok (.invokevirtual 87, 3) := by decide +kernel
theorem dL_law_600 : decode cL_law 600 = .ok (.aload_n 2, 1) := by decide +kernel
theorem dL_law_601 : decode cL_law 601 = .ok (.aload_n 0, 1) := by decide +kernel
theorem dL_law_602 : decode cL_law 602 = .ok (.iload_n 3, 1) := by decide +kernel
theorem dL_law_603 : decode cL_law 603 = .ok (.iconst 1, 1) := by decide +kernel
theorem dL_law_604 : decode cL_law 604 = .ok (.iadd, 1) := by decide +kernel
theorem dL_law_605 : decode cL_law 605 = .ok (.iaload, 1) := by decide +kernel
theorem dL_law_606 : decode cL_law 606 = .ok (.invokevirtual 90, 3) := by decide +kernel
theorem dL_law_609 : decode cL_law 609 = .ok (.if_icmp .eq 18, 3) := by decide +kernel
theorem dL_law_612 : decode cL_law 612 = .ok (.iconst 0, 1) := by decide +kernel
theorem dL_law_613 : decode cL_law 613 = .ok (.ireturn, 1) := by decide +kernel
theorem dL_law_614 : decode cL_law 614 = .ok (.aload_n 1, 1) := by decide +kernel
theorem dL_law_615 : decode cL_law 615 = .ok (.invokevirtual 91, 3) := by decide +kernel
theorem dL_law_618 : decode cL_law 618 = .ok (.aload_n 2, 1) := by decide +kernel
theorem dL_law_619 : decode cL_law 619 = .ok (.invokevirtual 95, 3) := by decide +kernel
theorem dL_law_622 : decode cL_law 622 = .ok (.if_icmp .eq 5, 3) := by decide +kernel
theorem dL_law_625 : decode cL_law 625 = .ok (.iconst 0, 1) := by decide +kernel
theorem dL_law_626 : decode cL_law 626 = .ok (.ireturn, 1) := by decide +kernel
theorem dL_law_627 : decode cL_law 627 = .ok (.iinc 3 7, 3) := by decide +kernel
theorem dL_law_630 : decode cL_law 630 = .ok (.goto (-592), 3) := by decide +kernel
theorem dL_law_633 : decode cL_law 633 = .ok (.iconst 1, 1) := by decide +kernel
theorem dL_law_634 : decode cL_law 634 = .ok (.ireturn, 1) := by decide +kernel
end
section
theorem dX0_init_0 : decode cX0_init 0 = .ok (.aload_n 0, 1) := by decide +kernel
theorem dX0_init_1 : decode cX0_init 1 = .ok (.invokespecial 3, 3) := by decide +kernel
theorem dX0_init_4 : decode cX0_init 4 = .ok (.aload_n 0, 1) := by decide +kernel
theorem dX0_init_5 : decode cX0_init 5 = .ok (.iload_n 1, 1) := by decide +kernel
theorem dX0_init_6 : decode cX0_init 6 = .ok (.newarray .int, 2) := by decide +kernel
theorem dX0_init_8 : decode cX0_init 8 = .ok (.putfield 9, 3) := by decide +kernel
theorem dX0_init_11 : decode cX0_init 11 = .ok (.aload_n 0, 1) := by decide +kernel
theorem dX0_init_12 : decode cX0_init 12 = .ok (.iload_n 1, 1) := by decide +kernel
theorem dX0_init_13 : decode cX0_init 13 = .ok (.newarray .int, 2) := by decide +kernel
theorem dX0_init_15 : decode cX0_init 15 = .ok (.putfield 15, 3) := by decide +kernel
theorem dX0_init_18 : decode cX0_init 18 = .ok (.aload_n 0, 1) := by decide +kernel
theorem dX0_init_19 : decode cX0_init 19 = .ok (.iload_n 1, 1) := by decide +kernel
theorem dX0_init_20 : decode cX0_init 20 = .ok (.newarray .int, 2) := by decide +kernel
theorem dX0_init_22 : decode cX0_init 22 = .ok (.putfield 18, 3) := by decide +kernel
theorem dX0_init_25 : decode cX0_init 25 = .ok (.return_, 1) := by decide +kernel
theorem dX0_isFull_0 : decode cX0_isFull 0 = .ok (.aload_n 0, 1) := by decide +kernel
theorem dX0_isFull_1 : decode cX0_isFull 1 = .ok (.getfield 21, 3) := by decide +kernel
theorem dX0_isFull_4 : decode cX0_isFull 4 = .ok (.aload_n 0, 1) := by decide +kernel
theorem dX0_isFull_5 : decode cX0_isFull 5 = .ok (.getfield 9, 3) := by decide +kernel
theorem dX0_isFull_8 : decode cX0_isFull 8 = .ok (.arraylength, 1) := by decide +kernel
theorem dX0_isFull_9 : decode cX0_isFull 9 = .ok (.if_icmp .lt 7, 3) := by decide +kernel
theorem dX0_isFull_12 : decode cX0_isFull 12 = .ok (.iconst 1, 1) := by decide +kernel
theorem dX0_isFull_13 : decode cX0_isFull 13 = .ok (.goto 4, 3) := by decide +kernel
theorem dX0_isFull_16 : decode cX0_isFull 16 = .ok (.iconst 0, 1) := by decide +kernel
theorem dX0_isFull_17 : decode cX0_isFull 17 = .ok (.ireturn, 1) := by decide +kernel
theorem dX0_append_0 : decode cX0_append 0 = .ok (.aload_n 0, 1) := by decide +kernel
theorem dX0_append_1 : decode cX0_append 1 = .ok (.invokevirtual 25, 3) := by decide +kernel
theorem dX0_append_4 : decode cX0_append 4 = .ok (.ifCond .eq 4, 3) := by decide +kernel
theorem dX0_append_7 : decode cX0_append 7 = .ok (.return_, 1) := by decide +kernel
theorem dX0_append_8 : decode cX0_append 8 = .ok (.aload_n 0, 1) := by decide +kernel
theorem dX0_append_9 : decode cX0_append 9 = .ok (.getfield 9, 3) := by decide +kernel
theorem dX0_append_12 : decode cX0_append 12 = .ok (.aload_n 0, 1) := by decide +kernel
theorem dX0_append_13 : decode cX0_append 13 = .ok (.getfield 21, 3) := by decide +kernel
theorem dX0_append_16 : decode cX0_append 16 = .ok (.iload_n 1, 1) := by decide +kernel
theorem dX0_append_17 : decode cX0_append 17 = .ok (.iastore, 1) := by decide +kernel
theorem dX0_append_18 : decode cX0_append 18 = .ok (.aload_n 0, 1) := by decide +kernel
theorem dX0_append_19 : decode cX0_append 19 = .ok (.getfield 15, 3) := by decide +kernel
theorem dX0_append_22 : decode cX0_append 22 = .ok (.aload_n 0, 1) := by decide +kernel
theorem dX0_append_23 : decode cX0_append 23 = .ok (.getfield 21, 3) := by decide +kernel
theorem dX0_append_26 : decode cX0_append 26 = .ok (.iload_n 2, 1) := by decide +kernel
theorem dX0_append_27 : decode cX0_append 27 = .ok (.iastore, 1) := by decide +kernel
theorem dX0_append_28 : decode cX0_append 28 = .ok (.aload_n 0, 1) := by decide +kernel
theorem dX0_append_29 : decode cX0_append 29 = .ok (.getfield 18, 3) := by decide +kernel
theorem dX0_append_32 : decode cX0_append 32 = .ok (.aload_n 0, 1) := by decide +kernel
theorem dX0_append_33 : decode cX0_append 33 = .ok (.getfield 21, 3) := by decide +kernel
theorem dX0_append_36 : decode cX0_append 36 = .ok (.iload_n 3, 1) := by decide +kernel
theorem dX0_append_37 : decode cX0_append 37 = .ok (.iastore, 1) := by decide +kernel
theorem dX0_append_38 : decode cX0_append 38 = .ok (.aload_n 0, 1) := by decide +kernel
theorem dX0_append_39 : decode cX0_append 39 = .ok (.dup, 1) := by decide +kernel
theorem dX0_append_40 : decode cX0_append 40 = .ok (.getfield 21, 3) := by decide +kernel
theorem dX0_append_43 : decode cX0_append 43 = .ok (.iconst 1, 1) := by decide +kernel
theorem dX0_append_44 : decode cX0_append 44 = .ok (.iadd, 1) := by decide +kernel
theorem dX0_append_45 : decode cX0_append 45 = .ok (.putfield 21, 3) := by decide +kernel
theorem dX0_append_48 : decode cX0_append 48 = .ok (.return_, 1) := by decide +kernel
theorem dX0_newestValue_0 : decode cX0_newestValue 0 = .ok (.aload_n 0, 1) := by decide +kernel
theorem dX0_newestValue_1 : decode cX0_newestValue 1 = .ok (.getfield 21, 3) := by decide +kernel
theorem dX0_newestValue_4 : decode cX0_newestValue 4 = .ok (.iconst 1, 1) := by decide +kernel
theorem dX0_newestValue_5 : decode cX0_newestValue 5 = .ok (.isub, 1) := by decide +kernel
theorem dX0_newestValue_6 : decode cX0_newestValue 6 = .ok (.istore_n 3, 1) := by decide +kernel
theorem dX0_newestValue_7 : decode cX0_newestValue 7 = .ok (.iload_n 3, 1) := by decide +kernel
theorem dX0_newestValue_8 : decode cX0_newestValue 8 = .ok (.ifCond .lt 35, 3) := by decide +kernel
theorem dX0_newestValue_11 : decode cX0_newestValue 11 = .ok (.aload_n 0, 1) := by decide +kernel
theorem dX0_newestValue_12 : decode cX0_newestValue 12 = .ok (.getfield 9, 3) := by decide +kernel
theorem dX0_newestValue_15 : decode cX0_newestValue 15 = .ok (.iload_n 3, 1) := by decide +kernel
theorem dX0_newestValue_16 : decode cX0_newestValue 16 = .ok (.iaload, 1) := by decide +kernel
theorem dX0_newestValue_17 : decode cX0_newestValue 17 = .ok (.ifCond .ne 20, 3) := by decide +kernel
theorem dX0_newestValue_20 : decode cX0_newestValue 20 = .ok (.aload_n 0, 1) := by decide +kernel
theorem dX0_newestValue_21 : decode cX0_newestValue 21 = .ok (.getfield 15, 3) := by decide +kernel
theorem dX0_newestValue_24 : decode cX0_newestValue 24 = .ok (.iload_n 3, 1) := by decide +kernel
theorem dX0_newestValue_25 : decode cX0_newestValue 25 = .ok (.iaload, 1) := by decide +kernel
theorem dX0_newestValue_26 : decode cX0_newestValue 26 = .ok (.iload_n 1, 1) := by decide +kernel
theorem dX0_newestValue_27 : decode cX0_newestValue 27 = .ok (.if_icmp .ne 10, 3) := by decide +kernel
theorem dX0_newestValue_30 : decode cX0_newestValue 30 = .ok (.aload_n 0, 1) := by decide +kernel
theorem dX0_newestValue_31 : decode cX0_newestValue 31 = .ok (.getfield 18, 3) := by decide +kernel
theorem dX0_newestValue_34 : decode cX0_newestValue 34 = .ok (.iload_n 3, 1) := by decide +kernel
theorem dX0_newestValue_35 : decode cX0_newestValue 35 = .ok (.iaload, 1) := by decide +kernel
theorem dX0_newestValue_36 : decode cX0_newestValue 36 = .ok (.ireturn, 1) := by decide +kernel
theorem dX0_newestValue_37 : decode cX0_newestValue 37 = .ok (.iinc 3 (-1), 3) := by decide +kernel
theorem dX0_newestValue_40 : decode cX0_newestValue 40 = .ok (.goto (-33), 3) := by decide +kernel
theorem dX0_newestValue_43 : decode cX0_newestValue 43 = .ok (.iload_n 2, 1) := by decide +kernel
theorem dX0_newestValue_44 : decode cX0_newestValue 44 = .ok (.ireturn, 1) := by decide +kernel
theorem dX0_mayLeave_0 : decode cX0_mayLeave 0 = .ok (.iconst 0, 1) := by decide +kernel
theorem dX0_mayLeave_1 : decode cX0_mayLeave 1 = .ok (.istore_n 2, 1) := by decide +kernel
theorem dX0_mayLeave_2 : decode cX0_mayLeave 2 = .ok (.iload_n 2, 1) := by decide +kernel
theorem dX0_mayLeave_3 : decode cX0_mayLeave 3 = .ok (.iload_n 1, 1) := by decide +kernel
theorem dX0_mayLeave_4 : decode cX0_mayLeave 4 = .ok (.if_icmp .ge 20, 3) := by decide +kernel
theorem dX0_mayLeave_7 : decode cX0_mayLeave 7 = .ok (.aload_n 0, 1) := by decide +kernel
theorem dX0_mayLeave_8 : decode cX0_mayLeave 8 = .ok (.iload_n 2, 1) := by decide +kernel
theorem dX0_mayLeave_9 : decode cX0_mayLeave 9 = .ok (.iload_n 1, 1) := by decide +kernel
theorem dX0_mayLeave_10 : decode cX0_mayLeave 10 = .ok (.invokevirtual 29, 3) := by decide +kernel
theorem dX0_mayLeave_13 : decode cX0_mayLeave 13 = .ok (.ifCond .ne 5, 3) := by decide +kernel
theorem dX0_mayLeave_16 : decode cX0_mayLeave 16 = .ok (.iconst 0, 1) := by decide +kernel
theorem dX0_mayLeave_17 : decode cX0_mayLeave 17 = .ok (.ireturn, 1) := by decide +kernel
theorem dX0_mayLeave_18 : decode cX0_mayLeave 18 = .ok (.iinc 2 1, 3) := by decide +kernel
theorem dX0_mayLeave_21 : decode cX0_mayLeave 21 = .ok (.goto (-19), 3) := by decide +kernel
theorem dX0_mayLeave_24 : decode cX0_mayLeave 24 = .ok (.iconst 1, 1) := by decide +kernel
theorem dX0_mayLeave_25 : decode cX0_mayLeave 25 = .ok (.ireturn, 1) := by decide +kernel
theorem dX0_letsPass_0 : decode cX0_letsPass 0 = .ok (.aload_n 0, 1) := by decide +kernel
theorem dX0_letsPass_1 : decode cX0_letsPass 1 = .ok (.getfield 9, 3) := by decide +kernel
theorem dX0_letsPass_4 : decode cX0_letsPass 4 = .ok (.iload_n 1, 1) := by decide +kernel
theorem dX0_letsPass_5 : decode cX0_letsPass 5 = .ok (.iaload, 1) := by decide +kernel
theorem dX0_letsPass_6 : decode cX0_letsPass 6 = .ok (.istore_n 3, 1) := by decide +kernel
theorem dX0_letsPass_7 : decode cX0_letsPass 7 = .ok (.aload_n 0, 1) := by decide +kernel
theorem dX0_letsPass_8 : decode cX0_letsPass 8 = .ok (.getfield 9, 3) := by decide +kernel
theorem dX0_letsPass_11 : decode cX0_letsPass 11 = .ok (.iload_n 2, 1) := by decide +kernel
theorem dX0_letsPass_12 : decode cX0_letsPass 12 = .ok (.iaload, 1) := by decide +kernel
theorem dX0_letsPass_13 : decode cX0_letsPass 13 = .ok (.istore 4, 2) := by decide +kernel
theorem dX0_letsPass_15 : decode cX0_letsPass 15 = .ok (.iload_n 3, 1) := by decide +kernel
theorem dX0_letsPass_16 : decode cX0_letsPass 16 = .ok (.iconst 3, 1) := by decide +kernel
theorem dX0_letsPass_17 : decode cX0_letsPass 17 = .ok (.if_icmp .eq 9, 3) := by decide +kernel
theorem dX0_letsPass_20 : decode cX0_letsPass 20 = .ok (.iload 4, 2) := by decide +kernel
theorem dX0_letsPass_22 : decode cX0_letsPass 22 = .ok (.iconst 3, 1) := by decide +kernel
theorem dX0_letsPass_23 : decode cX0_letsPass 23 = .ok (.if_icmp .ne 5, 3) := by decide +kernel
theorem dX0_letsPass_26 : decode cX0_letsPass 26 = .ok (.iconst 0, 1) := by decide +kernel
theorem dX0_letsPass_27 : decode cX0_letsPass 27 = .ok (.ireturn, 1) := by decide +kernel
theorem dX0_letsPass_28 : decode cX0_letsPass 28 = .ok (.iload_n 3, 1) := by decide +kernel
theorem dX0_letsPass_29 : decode cX0_letsPass 29 = .ok (.iconst 2, 1) := by decide +kernel
theorem dX0_letsPass_30 : decode cX0_letsPass 30 = .ok (.if_icmp .ne 11, 3) := by decide +kernel
theorem dX0_letsPass_33 : decode cX0_letsPass 33 = .ok (.iload 4, 2) := by decide +kernel
theorem dX0_letsPass_35 : decode cX0_letsPass 35 = .ok (.iconst 1, 1) := by decide +kernel
theorem dX0_letsPass_36 : decode cX0_letsPass 36 = .ok (.if_icmp .eq 5, 3) := by decide +kernel
theorem dX0_letsPass_39 : decode cX0_letsPass 39 = .ok (.iconst 1, 1) := by decide +kernel
theorem dX0_letsPass_40 : decode cX0_letsPass 40 = .ok (.ireturn, 1) := by decide +kernel
theorem dX0_letsPass_41 : decode cX0_letsPass 41 = .ok (.iload_n 3, 1) := by decide +kernel
theorem dX0_letsPass_42 : decode cX0_letsPass 42 = .ok (.iconst 2, 1) := by decide +kernel
theorem dX0_letsPass_43 : decode cX0_letsPass 43 = .ok (.if_icmp .eq 9, 3) := by decide +kernel
theorem dX0_letsPass_46 : decode cX0_letsPass 46 = .ok (.iload 4, 2) := by decide +kernel
theorem dX0_letsPass_48 : decode cX0_letsPass 48 = .ok (.iconst 2, 1) := by decide +kernel
theorem dX0_letsPass_49 : decode cX0_letsPass 49 = .ok (.if_icmp .ne 20, 3) := by decide +kernel
theorem dX0_letsPass_52 : decode cX0_letsPass 52 = .ok (.aload_n 0, 1) := by decide +kernel
theorem dX0_letsPass_53 : decode cX0_letsPass 53 = .ok (.iload_n 1, 1) := by decide +kernel
theorem dX0_letsPass_54 : decode cX0_letsPass 54 = .ok (.invokevirtual 33, 3) := by decide +kernel
theorem dX0_letsPass_57 : decode cX0_letsPass 57 = .ok (.aload_n 0, 1) := by decide +kernel
theorem dX0_letsPass_58 : decode cX0_letsPass 58 = .ok (.iload_n 2, 1) := by decide +kernel
theorem dX0_letsPass_59 : decode cX0_letsPass 59 = .ok (.invokevirtual 33, 3) := by decide +kernel
theorem dX0_letsPass_62 : decode cX0_letsPass 62 = .ok (.if_icmp .eq 7, 3) := by decide +kernel
theorem dX0_letsPass_65 : decode cX0_letsPass 65 = .ok (.iconst 1, 1) := by decide +kernel
theorem dX0_letsPass_66 : decode cX0_letsPass 66 = .ok (.goto 4, 3) := by decide +kernel
theorem dX0_letsPass_69 : decode cX0_letsPass 69 = .ok (.iconst 0, 1) := by decide +kernel
theorem dX0_letsPass_70 : decode cX0_letsPass 70 = .ok (.ireturn, 1) := by decide +kernel
theorem dX0_lineOf_0 : decode cX0_lineOf 0 = .ok (.aload_n 0, 1) := by decide +kernel
theorem dX0_lineOf_1 : decode cX0_lineOf 1 = .ok (.getfield 9, 3) := by decide +kernel
theorem dX0_lineOf_4 : decode cX0_lineOf 4 = .ok (.iload_n 1, 1) := by decide +kernel
theorem dX0_lineOf_5 : decode cX0_lineOf 5 = .ok (.iaload, 1) := by decide +kernel
theorem dX0_lineOf_6 : decode cX0_lineOf 6 = .ok (.ifCond .ne 14, 3) := by decide +kernel
theorem dX0_lineOf_9 : decode cX0_lineOf 9 = .ok (.aload_n 0, 1) := by decide +kernel
theorem dX0_lineOf_10 : decode cX0_lineOf 10 = .ok (.getfield 15, 3) := by decide +kernel
theorem dX0_lineOf_13 : decode cX0_lineOf 13 = .ok (.iload_n 1, 1) := by decide +kernel
theorem dX0_lineOf_14 : decode cX0_lineOf 14 = .ok (.iaload, 1) := by decide +kernel
theorem dX0_lineOf_15 : decode cX0_lineOf 15 = .ok (.iconst 4, 1) := by decide +kernel
theorem dX0_lineOf_16 : decode cX0_lineOf 16 = .ok (.idiv, 1) := by decide +kernel
theorem dX0_lineOf_17 : decode cX0_lineOf 17 = .ok (.goto 9, 3) := by decide +kernel
theorem dX0_lineOf_20 : decode cX0_lineOf 20 = .ok (.aload_n 0, 1) := by decide +kernel
theorem dX0_lineOf_21 : decode cX0_lineOf 21 = .ok (.getfield 15, 3) := by decide +kernel
theorem dX0_lineOf_24 : decode cX0_lineOf 24 = .ok (.iload_n 1, 1) := by decide +kernel
theorem dX0_lineOf_25 : decode cX0_lineOf 25 = .ok (.iaload, 1) := by decide +kernel
theorem dX0_lineOf_26 : decode cX0_lineOf 26 = .ok (.ireturn, 1) := by decide +kernel
theorem dX0_letOut_0 : decode cX0_letOut 0 = .ok (.aload_n 0, 1) := by decide +kernel
theorem dX0_letOut_1 : decode cX0_letOut 1 = .ok (.getfield 9, 3) := by decide +kernel
theorem dX0_letOut_4 : decode cX0_letOut 4 = .ok (.iload_n 1, 1) := by decide +kernel
theorem dX0_letOut_5 : decode cX0_letOut 5 = .ok (.iaload, 1) := by decide +kernel
theorem dX0_letOut_6 : decode cX0_letOut 6 = .ok (.ifCond .ne 22, 3) := by decide +kernel
theorem dX0_letOut_9 : decode cX0_letOut 9 = .ok (.aload_n 2, 1) := by decide +kernel
theorem dX0_letOut_10 : decode cX0_letOut 10 = .ok (.aload_n 0, 1) := by decide +kernel
theorem dX0_letOut_11 : decode cX0_letOut 11 = .ok (.getfield 15, 3) := by decide +kernel
theorem dX0_letOut_14 : decode cX0_letOut 14 = .ok (.iload_n 1, 1) := by decide +kernel
theorem dX0_letOut_15 : decode cX0_letOut 15 = .ok (.iaload, 1) := by decide +kernel
theorem dX0_letOut_16 : decode cX0_letOut 16 = .ok (.aload_n 0, 1) := by decide +kernel
theorem dX0_letOut_17 : decode cX0_letOut 17 = .ok (.getfield 18, 3) := by decide +kernel
theorem dX0_letOut_20 : decode cX0_letOut 20 = .ok (.iload_n 1, 1) := by decide +kernel
theorem dX0_letOut_21 : decode cX0_letOut 21 = .ok (.iaload, 1) := by decide +kernel
theorem dX0_letOut_22 : decode cX0_letOut 22 = .ok (.invokevirtual 37, 3) := by decide +kernel
theorem dX0_letOut_25 : decode cX0_letOut 25 = .ok (.goto 23, 3) := by decide +kernel
theorem dX0_letOut_28 : decode cX0_letOut 28 = .ok (.aload_n 0, 1) := by decide +kernel
theorem dX0_letOut_29 : decode cX0_letOut 29 = .ok (.getfield 9, 3) := by decide +kernel
theorem dX0_letOut_32 : decode cX0_letOut 32 = .ok (.iload_n 1, 1) := by decide +kernel
theorem dX0_letOut_33 : decode cX0_letOut 33 = .ok (.iaload, 1) := by decide +kernel
theorem dX0_letOut_34 : decode cX0_letOut 34 = .ok (.iconst 3, 1) := by decide +kernel
theorem dX0_letOut_35 : decode cX0_letOut 35 = .ok (.if_icmp .eq 13, 3) := by decide +kernel
theorem dX0_letOut_38 : decode cX0_letOut 38 = .ok (.aload_n 2, 1) := by decide +kernel
theorem dX0_letOut_39 : decode cX0_letOut 39 = .ok (.aload_n 0, 1) := by decide +kernel
theorem dX0_letOut_40 : decode cX0_letOut 40 = .ok (.getfield 15, 3) := by decide +kernel
theorem dX0_letOut_43 : decode cX0_letOut 43 = .ok (.iload_n 1, 1) := by decide +kernel
theorem dX0_letOut_44 : decode cX0_letOut 44 = .ok (.iaload, 1) := by decide +kernel
theorem dX0_letOut_45 : decode cX0_letOut 45 = .ok (.invokevirtual 43, 3) := by decide +kernel
theorem dX0_letOut_48 : decode cX0_letOut 48 = .ok (.aload_n 0, 1) := by decide +kernel
theorem dX0_letOut_49 : decode cX0_letOut 49 = .ok (.iload_n 1, 1) := by decide +kernel
theorem dX0_letOut_50 : decode cX0_letOut 50 = .ok (.invokevirtual 47, 3) := by decide +kernel
theorem dX0_letOut_53 : decode cX0_letOut 53 = .ok (.return_, 1) := by decide +kernel
theorem dX0_remove_0 : decode cX0_remove 0 = .ok (.aload_n 0, 1) := by decide +kernel
theorem dX0_remove_1 : decode cX0_remove 1 = .ok (.dup, 1) := by decide +kernel
theorem dX0_remove_2 : decode cX0_remove 2 = .ok (.getfield 21, 3) := by decide +kernel
theorem dX0_remove_5 : decode cX0_remove 5 = .ok (.iconst 1, 1) := by decide +kernel
theorem dX0_remove_6 : decode cX0_remove 6 = .ok (.isub, 1) := by decide +kernel
theorem dX0_remove_7 : decode cX0_remove 7 = .ok (.putfield 21, 3) := by decide +kernel
theorem dX0_remove_10 : decode cX0_remove 10 = .ok (.iload_n 1, 1) := by decide +kernel
theorem dX0_remove_11 : decode cX0_remove 11 = .ok (.istore_n 2, 1) := by decide +kernel
theorem dX0_remove_12 : decode cX0_remove 12 = .ok (.iload_n 2, 1) := by decide +kernel
theorem dX0_remove_13 : decode cX0_remove 13 = .ok (.aload_n 0, 1) := by decide +kernel
theorem dX0_remove_14 : decode cX0_remove 14 = .ok (.getfield 21, 3) := by decide +kernel
theorem dX0_remove_17 : decode cX0_remove 17 = .ok (.if_icmp .ge 51, 3) := by decide +kernel
theorem dX0_remove_20 : decode cX0_remove 20 = .ok (.aload_n 0, 1) := by decide +kernel
theorem dX0_remove_21 : decode cX0_remove 21 = .ok (.getfield 9, 3) := by decide +kernel
theorem dX0_remove_24 : decode cX0_remove 24 = .ok (.iload_n 2, 1) := by decide +kernel
theorem dX0_remove_25 : decode cX0_remove 25 = .ok (.aload_n 0, 1) := by decide +kernel
theorem dX0_remove_26 : decode cX0_remove 26 = .ok (.getfield 9, 3) := by decide +kernel
theorem dX0_remove_29 : decode cX0_remove 29 = .ok (.iload_n 2, 1) := by decide +kernel
theorem dX0_remove_30 : decode cX0_remove 30 = .ok (.iconst 1, 1) := by decide +kernel
theorem dX0_remove_31 : decode cX0_remove 31 = .ok (.iadd, 1) := by decide +kernel
theorem dX0_remove_32 : decode cX0_remove 32 = .ok (.iaload, 1) := by decide +kernel
theorem dX0_remove_33 : decode cX0_remove 33 = .ok (.iastore, 1) := by decide +kernel
theorem dX0_remove_34 : decode cX0_remove 34 = .ok (.aload_n 0, 1) := by decide +kernel
theorem dX0_remove_35 : decode cX0_remove 35 = .ok (.getfield 15, 3) := by decide +kernel
theorem dX0_remove_38 : decode cX0_remove 38 = .ok (.iload_n 2, 1) := by decide +kernel
theorem dX0_remove_39 : decode cX0_remove 39 = .ok (.aload_n 0, 1) := by decide +kernel
theorem dX0_remove_40 : decode cX0_remove 40 = .ok (.getfield 15, 3) := by decide +kernel
theorem dX0_remove_43 : decode cX0_remove 43 = .ok (.iload_n 2, 1) := by decide +kernel
theorem dX0_remove_44 : decode cX0_remove 44 = .ok (.iconst 1, 1) := by decide +kernel
theorem dX0_remove_45 : decode cX0_remove 45 = .ok (.iadd, 1) := by decide +kernel
theorem dX0_remove_46 : decode cX0_remove 46 = .ok (.iaload, 1) := by decide +kernel
theorem dX0_remove_47 : decode cX0_remove 47 = .ok (.iastore, 1) := by decide +kernel
theorem dX0_remove_48 : decode cX0_remove 48 = .ok (.aload_n 0, 1) := by decide +kernel
theorem dX0_remove_49 : decode cX0_remove 49 = .ok (.getfield 18, 3) := by decide +kernel
theorem dX0_remove_52 : decode cX0_remove 52 = .ok (.iload_n 2, 1) := by decide +kernel
theorem dX0_remove_53 : decode cX0_remove 53 = .ok (.aload_n 0, 1) := by decide +kernel
theorem dX0_remove_54 : decode cX0_remove 54 = .ok (.getfield 18, 3) := by decide +kernel
theorem dX0_remove_57 : decode cX0_remove 57 = .ok (.iload_n 2, 1) := by decide +kernel
theorem dX0_remove_58 : decode cX0_remove 58 = .ok (.iconst 1, 1) := by decide +kernel
theorem dX0_remove_59 : decode cX0_remove 59 = .ok (.iadd, 1) := by decide +kernel
theorem dX0_remove_60 : decode cX0_remove 60 = .ok (.iaload, 1) := by decide +kernel
theorem dX0_remove_61 : decode cX0_remove 61 = .ok (.iastore, 1) := by decide +kernel
theorem dX0_remove_62 : decode cX0_remove 62 = .ok (.iinc 2 1, 3) := by decide +kernel
theorem dX0_remove_65 : decode cX0_remove 65 = .ok (.goto (-53), 3) := by decide +kernel
theorem dX0_remove_68 : decode cX0_remove 68 = .ok (.return_, 1) := by decide +kernel
end
section
theorem dX1_init_0 : decode cX1_init 0 = .ok (.aload_n 0, 1) := by decide +kernel
theorem dX1_init_1 : decode cX1_init 1 = .ok (.invokespecial 3, 3) := by decide +kernel
theorem dX1_init_4 : decode cX1_init 4 = .ok (.aload_n 0, 1) := by decide +kernel
theorem dX1_init_5 : decode cX1_init 5 = .ok (.iconst 4, 1) := by decide +kernel
theorem dX1_init_6 : decode cX1_init 6 = .ok (.newarray .int, 2) := by decide +kernel
theorem dX1_init_8 : decode cX1_init 8 = .ok (.putfield 9, 3) := by decide +kernel
theorem dX1_init_11 : decode cX1_init 11 = .ok (.aload_n 0, 1) := by decide +kernel
theorem dX1_init_12 : decode cX1_init 12 = .ok (.bipush 24, 2) := by decide +kernel
theorem dX1_init_14 : decode cX1_init 14 = .ok (.newarray .int, 2) := by decide +kernel
theorem dX1_init_16 : decode cX1_init 16 = .ok (.putfield 15, 3) := by decide +kernel
theorem dX1_init_19 : decode cX1_init 19 = .ok (.aload_n 0, 1) := by decide +kernel
theorem dX1_init_20 : decode cX1_init 20 = .ok (.bipush 24, 2) := by decide +kernel
theorem dX1_init_22 : decode cX1_init 22 = .ok (.newarray .int, 2) := by decide +kernel
theorem dX1_init_24 : decode cX1_init 24 = .ok (.putfield 18, 3) := by decide +kernel
theorem dX1_init_27 : decode cX1_init 27 = .ok (.aload_n 0, 1) := by decide +kernel
theorem dX1_init_28 : decode cX1_init 28 = .ok (.bipush 24, 2) := by decide +kernel
theorem dX1_init_30 : decode cX1_init 30 = .ok (.newarray .int, 2) := by decide +kernel
theorem dX1_init_32 : decode cX1_init 32 = .ok (.putfield 21, 3) := by decide +kernel
theorem dX1_init_35 : decode cX1_init 35 = .ok (.aload_n 0, 1) := by decide +kernel
theorem dX1_init_36 : decode cX1_init 36 = .ok (.bipush 24, 2) := by decide +kernel
theorem dX1_init_38 : decode cX1_init 38 = .ok (.newarray .int, 2) := by decide +kernel
theorem dX1_init_40 : decode cX1_init 40 = .ok (.putfield 24, 3) := by decide +kernel
theorem dX1_init_43 : decode cX1_init 43 = .ok (.aload_n 0, 1) := by decide +kernel
theorem dX1_init_44 : decode cX1_init 44 = .ok (.new 27, 3) := by decide +kernel
theorem dX1_init_47 : decode cX1_init 47 = .ok (.dup, 1) := by decide +kernel
theorem dX1_init_48 : decode cX1_init 48 = .ok (.iload_n 1, 1) := by decide +kernel
theorem dX1_init_49 : decode cX1_init 49 = .ok (.invokespecial 29, 3) := by decide +kernel
theorem dX1_init_52 : decode cX1_init 52 = .ok (.putfield 32, 3) := by decide +kernel
theorem dX1_init_55 : decode cX1_init 55 = .ok (.return_, 1) := by decide +kernel
theorem dX1_setInstruction_0 : decode cX1_setInstruction 0 = .ok (.aload_n 0, 1) := by decide +kernel
theorem dX1_setInstruction_1 : decode cX1_setInstruction 1 = .ok (.getfield 15, 3) := by decide +kernel
theorem dX1_setInstruction_4 : decode cX1_setInstruction 4 = .ok (.iload_n 1, 1) := by decide +kernel
theorem dX1_setInstruction_5 : decode cX1_setInstruction 5 = .ok (.iload_n 2, 1) := by decide +kernel
theorem dX1_setInstruction_6 : decode cX1_setInstruction 6 = .ok (.iastore, 1) := by decide +kernel
theorem dX1_setInstruction_7 : decode cX1_setInstruction 7 = .ok (.aload_n 0, 1) := by decide +kernel
theorem dX1_setInstruction_8 : decode cX1_setInstruction 8 = .ok (.getfield 18, 3) := by decide +kernel
theorem dX1_setInstruction_11 : decode cX1_setInstruction 11 = .ok (.iload_n 1, 1) := by decide +kernel
theorem dX1_setInstruction_12 : decode cX1_setInstruction 12 = .ok (.iload_n 3, 1) := by decide +kernel
theorem dX1_setInstruction_13 : decode cX1_setInstruction 13 = .ok (.iastore, 1) := by decide +kernel
theorem dX1_setInstruction_14 : decode cX1_setInstruction 14 = .ok (.aload_n 0, 1) := by decide +kernel
theorem dX1_setInstruction_15 : decode cX1_setInstruction 15 = .ok (.getfield 21, 3) := by decide +kernel
theorem dX1_setInstruction_18 : decode cX1_setInstruction 18 = .ok (.iload_n 1, 1) := by decide +kernel
theorem dX1_setInstruction_19 : decode cX1_setInstruction 19 = .ok (.iload 4, 2) := by decide +kernel
theorem dX1_setInstruction_21 : decode cX1_setInstruction 21 = .ok (.iastore, 1) := by decide +kernel
theorem dX1_setInstruction_22 : decode cX1_setInstruction 22 = .ok (.aload_n 0, 1) := by decide +kernel
theorem dX1_setInstruction_23 : decode cX1_setInstruction 23 = .ok (.getfield 24, 3) := by decide +kernel
theorem dX1_setInstruction_26 : decode cX1_setInstruction 26 = .ok (.iload_n 1, 1) := by decide +kernel
theorem dX1_setInstruction_27 : decode cX1_setInstruction 27 = .ok (.iload 5, 2) := by decide +kernel
theorem dX1_setInstruction_29 : decode cX1_setInstruction 29 = .ok (.iastore, 1) := by decide +kernel
theorem dX1_setInstruction_30 : decode cX1_setInstruction 30 = .ok (.return_, 1) := by decide +kernel
theorem dX1_doInstruction_0 : decode cX1_doInstruction 0 = .ok (.aload_n 0, 1) := by decide +kernel
theorem dX1_doInstruction_1 : decode cX1_doInstruction 1 = .ok (.getfield 36, 3) := by decide +kernel
theorem dX1_doInstruction_4 : decode cX1_doInstruction 4 = .ok (.bipush 24, 2) := by decide +kernel
theorem dX1_doInstruction_6 : decode cX1_doInstruction 6 = .ok (.if_icmp .ge 15, 3) := by decide +kernel
theorem dX1_doInstruction_9 : decode cX1_doInstruction 9 = .ok (.aload_n 0, 1) := by decide +kernel
theorem dX1_doInstruction_10 : decode cX1_doInstruction 10 = .ok (.getfield 15, 3) := by decide +kernel
theorem dX1_doInstruction_13 : decode cX1_doInstruction 13 = .ok (.aload_n 0, 1) := by decide +kernel
theorem dX1_doInstruction_14 : decode cX1_doInstruction 14 = .ok (.getfield 36, 3) := by decide +kernel
theorem dX1_doInstruction_17 : decode cX1_doInstruction 17 = .ok (.iaload, 1) := by decide +kernel
theorem dX1_doInstruction_18 : decode cX1_doInstruction 18 = .ok (.ifCond .ne 5, 3) := by decide +kernel
theorem dX1_doInstruction_21 : decode cX1_doInstruction 21 = .ok (.iconst 2, 1) := by decide +kernel
theorem dX1_doInstruction_22 : decode cX1_doInstruction 22 = .ok (.ireturn, 1) := by decide +kernel
theorem dX1_doInstruction_23 : decode cX1_doInstruction 23 = .ok (.aload_n 0, 1) := by decide +kernel
theorem dX1_doInstruction_24 : decode cX1_doInstruction 24 = .ok (.aload_n 0, 1) := by decide +kernel
theorem dX1_doInstruction_25 : decode cX1_doInstruction 25 = .ok (.getfield 15, 3) := by decide +kernel
theorem dX1_doInstruction_28 : decode cX1_doInstruction 28 = .ok (.aload_n 0, 1) := by decide +kernel
theorem dX1_doInstruction_29 : decode cX1_doInstruction 29 = .ok (.getfield 36, 3) := by decide +kernel
theorem dX1_doInstruction_32 : decode cX1_doInstruction 32 = .ok (.iaload, 1) := by decide +kernel
theorem dX1_doInstruction_33 : decode cX1_doInstruction 33 = .ok (.invokevirtual 40, 3) := by decide +kernel
theorem dX1_doInstruction_36 : decode cX1_doInstruction 36 = .ok (.ifCond .eq 5, 3) := by decide +kernel
theorem dX1_doInstruction_39 : decode cX1_doInstruction 39 = .ok (.iconst 1, 1) := by decide +kernel
theorem dX1_doInstruction_40 : decode cX1_doInstruction 40 = .ok (.ireturn, 1) := by decide +kernel
theorem dX1_doInstruction_41 : decode cX1_doInstruction 41 = .ok (.aload_n 0, 1) := by decide +kernel
theorem dX1_doInstruction_42 : decode cX1_doInstruction 42 = .ok (.invokevirtual 44, 3) := by decide +kernel
theorem dX1_doInstruction_45 : decode cX1_doInstruction 45 = .ok (.istore_n 2, 1) := by decide +kernel
theorem dX1_doInstruction_46 : decode cX1_doInstruction 46 = .ok (.aload_n 0, 1) := by decide +kernel
theorem dX1_doInstruction_47 : decode cX1_doInstruction 47 = .ok (.aload_n 1, 1) := by decide +kernel
theorem dX1_doInstruction_48 : decode cX1_doInstruction 48 = .ok (.invokevirtual 48, 3) := by decide +kernel
theorem dX1_doInstruction_51 : decode cX1_doInstruction 51 = .ok (.aload_n 0, 1) := by decide +kernel
theorem dX1_doInstruction_52 : decode cX1_doInstruction 52 = .ok (.iload_n 2, 1) := by decide +kernel
theorem dX1_doInstruction_53 : decode cX1_doInstruction 53 = .ok (.putfield 36, 3) := by decide +kernel
theorem dX1_doInstruction_56 : decode cX1_doInstruction 56 = .ok (.iconst 0, 1) := by decide +kernel
theorem dX1_doInstruction_57 : decode cX1_doInstruction 57 = .ok (.ireturn, 1) := by decide +kernel
theorem dX1_mustWait_0 : decode cX1_mustWait 0 = .ok (.iload_n 1, 1) := by decide +kernel
theorem dX1_mustWait_1 : decode cX1_mustWait 1 = .ok (.tableswitch 67 3 9 #[43, 67, 51, 51, 43, 43, 43], 43) := by decide +kernel
theorem dX1_mustWait_44 : decode cX1_mustWait 44 = .ok (.aload_n 0, 1) := by decide +kernel
theorem dX1_mustWait_45 : decode cX1_mustWait 45 = .ok (.getfield 32, 3) := by decide +kernel
theorem dX1_mustWait_48 : decode cX1_mustWait 48 = .ok (.invokevirtual 52, 3) := by decide +kernel
theorem dX1_mustWait_51 : decode cX1_mustWait 51 = .ok (.ireturn, 1) := by decide +kernel
theorem dX1_mustWait_52 : decode cX1_mustWait 52 = .ok (.aload_n 0, 1) := by decide +kernel
theorem dX1_mustWait_53 : decode cX1_mustWait 53 = .ok (.getfield 32, 3) := by decide +kernel
theorem dX1_mustWait_56 : decode cX1_mustWait 56 = .ok (.getfield 56, 3) := by decide +kernel
theorem dX1_mustWait_59 : decode cX1_mustWait 59 = .ok (.ifCond .le 7, 3) := by decide +kernel
theorem dX1_mustWait_62 : decode cX1_mustWait 62 = .ok (.iconst 1, 1) := by decide +kernel
theorem dX1_mustWait_63 : decode cX1_mustWait 63 = .ok (.goto 4, 3) := by decide +kernel
theorem dX1_mustWait_66 : decode cX1_mustWait 66 = .ok (.iconst 0, 1) := by decide +kernel
theorem dX1_mustWait_67 : decode cX1_mustWait 67 = .ok (.ireturn, 1) := by decide +kernel
theorem dX1_mustWait_68 : decode cX1_mustWait 68 = .ok (.iconst 0, 1) := by decide +kernel
theorem dX1_mustWait_69 : decode cX1_mustWait 69 = .ok (.ireturn, 1) := by decide +kernel
theorem dX1_nextPlace_0 : decode cX1_nextPlace 0 = .ok (.aload_n 0, 1) := by decide +kernel
theorem dX1_nextPlace_1 : decode cX1_nextPlace 1 = .ok (.getfield 15, 3) := by decide +kernel
theorem dX1_nextPlace_4 : decode cX1_nextPlace 4 = .ok (.aload_n 0, 1) := by decide +kernel
theorem dX1_nextPlace_5 : decode cX1_nextPlace 5 = .ok (.getfield 36, 3) := by decide +kernel
theorem dX1_nextPlace_8 : decode cX1_nextPlace 8 = .ok (.iaload, 1) := by decide +kernel
theorem dX1_nextPlace_9 : decode cX1_nextPlace 9 = .ok (.bipush 10, 2) := by decide +kernel
theorem dX1_nextPlace_11 : decode cX1_nextPlace 11 = .ok (.if_icmp .ne 24, 3) := by decide +kernel
theorem dX1_nextPlace_14 : decode cX1_nextPlace 14 = .ok (.aload_n 0, 1) := by decide +kernel
theorem dX1_nextPlace_15 : decode cX1_nextPlace 15 = .ok (.getfield 9, 3) := by decide +kernel
theorem dX1_nextPlace_18 : decode cX1_nextPlace 18 = .ok (.aload_n 0, 1) := by decide +kernel
theorem dX1_nextPlace_19 : decode cX1_nextPlace 19 = .ok (.getfield 18, 3) := by decide +kernel
theorem dX1_nextPlace_22 : decode cX1_nextPlace 22 = .ok (.aload_n 0, 1) := by decide +kernel
theorem dX1_nextPlace_23 : decode cX1_nextPlace 23 = .ok (.getfield 36, 3) := by decide +kernel
theorem dX1_nextPlace_26 : decode cX1_nextPlace 26 = .ok (.iaload, 1) := by decide +kernel
theorem dX1_nextPlace_27 : decode cX1_nextPlace 27 = .ok (.iaload, 1) := by decide +kernel
theorem dX1_nextPlace_28 : decode cX1_nextPlace 28 = .ok (.ifCond .eq 7, 3) := by decide +kernel
theorem dX1_nextPlace_31 : decode cX1_nextPlace 31 = .ok (.iconst 1, 1) := by decide +kernel
theorem dX1_nextPlace_32 : decode cX1_nextPlace 32 = .ok (.goto 4, 3) := by decide +kernel
theorem dX1_nextPlace_35 : decode cX1_nextPlace 35 = .ok (.iconst 0, 1) := by decide +kernel
theorem dX1_nextPlace_36 : decode cX1_nextPlace 36 = .ok (.istore_n 1, 1) := by decide +kernel
theorem dX1_nextPlace_37 : decode cX1_nextPlace 37 = .ok (.iload_n 1, 1) := by decide +kernel
theorem dX1_nextPlace_38 : decode cX1_nextPlace 38 = .ok (.ifCond .eq 15, 3) := by decide +kernel
theorem dX1_nextPlace_41 : decode cX1_nextPlace 41 = .ok (.aload_n 0, 1) := by decide +kernel
theorem dX1_nextPlace_42 : decode cX1_nextPlace 42 = .ok (.getfield 24, 3) := by decide +kernel
theorem dX1_nextPlace_45 : decode cX1_nextPlace 45 = .ok (.aload_n 0, 1) := by decide +kernel
theorem dX1_nextPlace_46 : decode cX1_nextPlace 46 = .ok (.getfield 36, 3) := by decide +kernel
theorem dX1_nextPlace_49 : decode cX1_nextPlace 49 = .ok (.iaload, 1) := by decide +kernel
theorem dX1_nextPlace_50 : decode cX1_nextPlace 50 = .ok (.goto 9, 3) := by decide +kernel
theorem dX1_nextPlace_53 : decode cX1_nextPlace 53 = .ok (.aload_n 0, 1) := by decide +kernel
theorem dX1_nextPlace_54 : decode cX1_nextPlace 54 = .ok (.getfield 36, 3) := by decide +kernel
theorem dX1_nextPlace_57 : decode cX1_nextPlace 57 = .ok (.iconst 1, 1) := by decide +kernel
theorem dX1_nextPlace_58 : decode cX1_nextPlace 58 = .ok (.iadd, 1) := by decide +kernel
theorem dX1_nextPlace_59 : decode cX1_nextPlace 59 = .ok (.ireturn, 1) := by decide +kernel
theorem dX1_perform_0 : decode cX1_perform 0 = .ok (.aload_n 0, 1) := by decide +kernel
theorem dX1_perform_1 : decode cX1_perform 1 = .ok (.getfield 18, 3) := by decide +kernel
theorem dX1_perform_4 : decode cX1_perform 4 = .ok (.aload_n 0, 1) := by decide +kernel
theorem dX1_perform_5 : decode cX1_perform 5 = .ok (.getfield 36, 3) := by decide +kernel
theorem dX1_perform_8 : decode cX1_perform 8 = .ok (.iaload, 1) := by decide +kernel
theorem dX1_perform_9 : decode cX1_perform 9 = .ok (.istore_n 2, 1) := by decide +kernel
theorem dX1_perform_10 : decode cX1_perform 10 = .ok (.aload_n 0, 1) := by decide +kernel
theorem dX1_perform_11 : decode cX1_perform 11 = .ok (.getfield 21, 3) := by decide +kernel
theorem dX1_perform_14 : decode cX1_perform 14 = .ok (.aload_n 0, 1) := by decide +kernel
theorem dX1_perform_15 : decode cX1_perform 15 = .ok (.getfield 36, 3) := by decide +kernel
theorem dX1_perform_18 : decode cX1_perform 18 = .ok (.iaload, 1) := by decide +kernel
theorem dX1_perform_19 : decode cX1_perform 19 = .ok (.istore_n 3, 1) := by decide +kernel
theorem dX1_perform_20 : decode cX1_perform 20 = .ok (.aload_n 0, 1) := by decide +kernel
theorem dX1_perform_21 : decode cX1_perform 21 = .ok (.getfield 24, 3) := by decide +kernel
theorem dX1_perform_24 : decode cX1_perform 24 = .ok (.aload_n 0, 1) := by decide +kernel
theorem dX1_perform_25 : decode cX1_perform 25 = .ok (.getfield 36, 3) := by decide +kernel
theorem dX1_perform_28 : decode cX1_perform 28 = .ok (.iaload, 1) := by decide +kernel
theorem dX1_perform_29 : decode cX1_perform 29 = .ok (.istore 4, 2) := by decide +kernel
theorem dX1_perform_31 : decode cX1_perform 31 = .ok (.aload_n 0, 1) := by decide +kernel
theorem dX1_perform_32 : decode cX1_perform 32 = .ok (.getfield 9, 3) := by decide +kernel
theorem dX1_perform_35 : decode cX1_perform 35 = .ok (.iload_n 3, 1) := by decide +kernel
theorem dX1_perform_36 : decode cX1_perform 36 = .ok (.iaload, 1) := by decide +kernel
theorem dX1_perform_37 : decode cX1_perform 37 = .ok (.iload 4, 2) := by decide +kernel
theorem dX1_perform_39 : decode cX1_perform 39 = .ok (.iadd, 1) := by decide +kernel
theorem dX1_perform_40 : decode cX1_perform 40 = .ok (.bipush 31, 2) := by decide +kernel
theorem dX1_perform_42 : decode cX1_perform 42 = .ok (.iand, 1) := by decide +kernel
theorem dX1_perform_43 : decode cX1_perform 43 = .ok (.istore 5, 2) := by decide +kernel
theorem dX1_perform_45 : decode cX1_perform 45 = .ok (.aload_n 0, 1) := by decide +kernel
theorem dX1_perform_46 : decode cX1_perform 46 = .ok (.getfield 15, 3) := by decide +kernel
theorem dX1_perform_49 : decode cX1_perform 49 = .ok (.aload_n 0, 1) := by decide +kernel
theorem dX1_perform_50 : decode cX1_perform 50 = .ok (.getfield 36, 3) := by decide +kernel
theorem dX1_perform_53 : decode cX1_perform 53 = .ok (.iaload, 1) := by decide +kernel
theorem dX1_perform_54 : decode cX1_perform 54 = .ok (.tableswitch 183 1 9 #[50, 61, 86, 105, 127, 183, 138, 151, 167], 50) := by decide +kernel
theorem dX1_perform_104 : decode cX1_perform 104 = .ok (.aload_n 0, 1) := by decide +kernel
theorem dX1_perform_105 : decode cX1_perform 105 = .ok (.getfield 9, 3) := by decide +kernel
theorem dX1_perform_108 : decode cX1_perform 108 = .ok (.iload_n 2, 1) := by decide +kernel
theorem dX1_perform_109 : decode cX1_perform 109 = .ok (.iload 4, 2) := by decide +kernel
theorem dX1_perform_111 : decode cX1_perform 111 = .ok (.iastore, 1) := by decide +kernel
theorem dX1_perform_112 : decode cX1_perform 112 = .ok (.goto 125, 3) := by decide +kernel
theorem dX1_perform_115 : decode cX1_perform 115 = .ok (.aload_n 0, 1) := by decide +kernel
theorem dX1_perform_116 : decode cX1_perform 116 = .ok (.getfield 9, 3) := by decide +kernel
theorem dX1_perform_119 : decode cX1_perform 119 = .ok (.iload_n 2, 1) := by decide +kernel
theorem dX1_perform_120 : decode cX1_perform 120 = .ok (.aload_n 0, 1) := by decide +kernel
theorem dX1_perform_121 : decode cX1_perform 121 = .ok (.getfield 32, 3) := by decide +kernel
theorem dX1_perform_124 : decode cX1_perform 124 = .ok (.iload 5, 2) := by decide +kernel
theorem dX1_perform_126 : decode cX1_perform 126 = .ok (.aload_n 1, 1) := by decide +kernel
theorem dX1_perform_127 : decode cX1_perform 127 = .ok (.getfield 59, 3) := by decide +kernel
theorem dX1_perform_130 : decode cX1_perform 130 = .ok (.iload 5, 2) := by decide +kernel
theorem dX1_perform_132 : decode cX1_perform 132 = .ok (.iaload, 1) := by decide +kernel
theorem dX1_perform_133 : decode cX1_perform 133 = .ok (.invokevirtual 64, 3) := by decide +kernel
theorem dX1_perform_136 : decode cX1_perform 136 = .ok (.iastore, 1) := by decide +kernel
theorem dX1_perform_137 : decode cX1_perform 137 = .ok (.goto 100, 3) := by decide +kernel
theorem dX1_perform_140 : decode cX1_perform 140 = .ok (.aload_n 0, 1) := by decide +kernel
theorem dX1_perform_141 : decode cX1_perform 141 = .ok (.getfield 32, 3) := by decide +kernel
theorem dX1_perform_144 : decode cX1_perform 144 = .ok (.iconst 0, 1) := by decide +kernel
theorem dX1_perform_145 : decode cX1_perform 145 = .ok (.iload 5, 2) := by decide +kernel
theorem dX1_perform_147 : decode cX1_perform 147 = .ok (.aload_n 0, 1) := by decide +kernel
theorem dX1_perform_148 : decode cX1_perform 148 = .ok (.getfield 9, 3) := by decide +kernel
theorem dX1_perform_151 : decode cX1_perform 151 = .ok (.iload_n 2, 1) := by decide +kernel
theorem dX1_perform_152 : decode cX1_perform 152 = .ok (.iaload, 1) := by decide +kernel
theorem dX1_perform_153 : decode cX1_perform 153 = .ok (.invokevirtual 68, 3) := by decide +kernel
theorem dX1_perform_156 : decode cX1_perform 156 = .ok (.goto 81, 3) := by decide +kernel
theorem dX1_perform_159 : decode cX1_perform 159 = .ok (.aload_n 0, 1) := by decide +kernel
theorem dX1_perform_160 : decode cX1_perform 160 = .ok (.getfield 9, 3) := by decide +kernel
theorem dX1_perform_163 : decode cX1_perform 163 = .ok (.iload_n 2, 1) := by decide +kernel
theorem dX1_perform_164 : decode cX1_perform 164 = .ok (.aload_n 0, 1) := by decide +kernel
theorem dX1_perform_165 : decode cX1_perform 165 = .ok (.getfield 9, 3) := by decide +kernel
theorem dX1_perform_168 : decode cX1_perform 168 = .ok (.iload_n 2, 1) := by decide +kernel
theorem dX1_perform_169 : decode cX1_perform 169 = .ok (.iaload, 1) := by decide +kernel
theorem dX1_perform_170 : decode cX1_perform 170 = .ok (.aload_n 0, 1) := by decide +kernel
theorem dX1_perform_171 : decode cX1_perform 171 = .ok (.getfield 9, 3) := by decide +kernel
theorem dX1_perform_174 : decode cX1_perform 174 = .ok (.iload_n 3, 1) := by decide +kernel
theorem dX1_perform_175 : decode cX1_perform 175 = .ok (.iaload, 1) := by decide +kernel
theorem dX1_perform_176 : decode cX1_perform 176 = .ok (.iadd, 1) := by decide +kernel
theorem dX1_perform_177 : decode cX1_perform 177 = .ok (.iastore, 1) := by decide +kernel
theorem dX1_perform_178 : decode cX1_perform 178 = .ok (.goto 59, 3) := by decide +kernel
theorem dX1_perform_181 : decode cX1_perform 181 = .ok (.aload_n 0, 1) := by decide +kernel
theorem dX1_perform_182 : decode cX1_perform 182 = .ok (.iload 5, 2) := by decide +kernel
theorem dX1_perform_184 : decode cX1_perform 184 = .ok (.iload_n 2, 1) := by decide +kernel
theorem dX1_perform_185 : decode cX1_perform 185 = .ok (.aload_n 1, 1) := by decide +kernel
theorem dX1_perform_186 : decode cX1_perform 186 = .ok (.invokevirtual 72, 3) := by decide +kernel
theorem dX1_perform_189 : decode cX1_perform 189 = .ok (.goto 48, 3) := by decide +kernel
theorem dX1_perform_192 : decode cX1_perform 192 = .ok (.aload_n 0, 1) := by decide +kernel
theorem dX1_perform_193 : decode cX1_perform 193 = .ok (.getfield 32, 3) := by decide +kernel
theorem dX1_perform_196 : decode cX1_perform 196 = .ok (.iconst 3, 1) := by decide +kernel
theorem dX1_perform_197 : decode cX1_perform 197 = .ok (.iconst 0, 1) := by decide +kernel
theorem dX1_perform_198 : decode cX1_perform 198 = .ok (.iconst 0, 1) := by decide +kernel
theorem dX1_perform_199 : decode cX1_perform 199 = .ok (.invokevirtual 68, 3) := by decide +kernel
theorem dX1_perform_202 : decode cX1_perform 202 = .ok (.goto 35, 3) := by decide +kernel
theorem dX1_perform_205 : decode cX1_perform 205 = .ok (.aload_n 0, 1) := by decide +kernel
theorem dX1_perform_206 : decode cX1_perform 206 = .ok (.getfield 32, 3) := by decide +kernel
theorem dX1_perform_209 : decode cX1_perform 209 = .ok (.iconst 1, 1) := by decide +kernel
theorem dX1_perform_210 : decode cX1_perform 210 = .ok (.iload 5, 2) := by decide +kernel
theorem dX1_perform_212 : decode cX1_perform 212 = .ok (.iconst 4, 1) := by decide +kernel
theorem dX1_perform_213 : decode cX1_perform 213 = .ok (.idiv, 1) := by decide +kernel
theorem dX1_perform_214 : decode cX1_perform 214 = .ok (.iconst 0, 1) := by decide +kernel
theorem dX1_perform_215 : decode cX1_perform 215 = .ok (.invokevirtual 68, 3) := by decide +kernel
theorem dX1_perform_218 : decode cX1_perform 218 = .ok (.goto 19, 3) := by decide +kernel
theorem dX1_perform_221 : decode cX1_perform 221 = .ok (.aload_n 0, 1) := by decide +kernel
theorem dX1_perform_222 : decode cX1_perform 222 = .ok (.getfield 32, 3) := by decide +kernel
theorem dX1_perform_225 : decode cX1_perform 225 = .ok (.iconst 2, 1) := by decide +kernel
theorem dX1_perform_226 : decode cX1_perform 226 = .ok (.iload 5, 2) := by decide +kernel
theorem dX1_perform_228 : decode cX1_perform 228 = .ok (.iconst 4, 1) := by decide +kernel
theorem dX1_perform_229 : decode cX1_perform 229 = .ok (.idiv, 1) := by decide +kernel
theorem dX1_perform_230 : decode cX1_perform 230 = .ok (.iconst 0, 1) := by decide +kernel
theorem dX1_perform_231 : decode cX1_perform 231 = .ok (.invokevirtual 68, 3) := by decide +kernel
theorem dX1_perform_234 : decode cX1_perform 234 = .ok (.goto 3, 3) := by decide +kernel
theorem dX1_perform_237 : decode cX1_perform 237 = .ok (.return_, 1) := by decide +kernel
theorem dX1_swap_0 : decode cX1_swap 0 = .ok (.aload_n 3, 1) := by decide +kernel
theorem dX1_swap_1 : decode cX1_swap 1 = .ok (.getfield 59, 3) := by decide +kernel
theorem dX1_swap_4 : decode cX1_swap 4 = .ok (.iload_n 1, 1) := by decide +kernel
theorem dX1_swap_5 : decode cX1_swap 5 = .ok (.iaload, 1) := by decide +kernel
theorem dX1_swap_6 : decode cX1_swap 6 = .ok (.aload_n 0, 1) := by decide +kernel
theorem dX1_swap_7 : decode cX1_swap 7 = .ok (.getfield 9, 3) := by decide +kernel
theorem dX1_swap_10 : decode cX1_swap 10 = .ok (.iconst 0, 1) := by decide +kernel
theorem dX1_swap_11 : decode cX1_swap 11 = .ok (.iaload, 1) := by decide +kernel
theorem dX1_swap_12 : decode cX1_swap 12 = .ok (.if_icmp .ne 17, 3) := by decide +kernel
theorem dX1_swap_15 : decode cX1_swap 15 = .ok (.aload_n 3, 1) := by decide +kernel
theorem dX1_swap_16 : decode cX1_swap 16 = .ok (.iload_n 1, 1) := by decide +kernel
theorem dX1_swap_17 : decode cX1_swap 17 = .ok (.aload_n 0, 1) := by decide +kernel
theorem dX1_swap_18 : decode cX1_swap 18 = .ok (.getfield 9, 3) := by decide +kernel
theorem dX1_swap_21 : decode cX1_swap 21 = .ok (.iload_n 2, 1) := by decide +kernel
theorem dX1_swap_22 : decode cX1_swap 22 = .ok (.iaload, 1) := by decide +kernel
theorem dX1_swap_23 : decode cX1_swap 23 = .ok (.invokevirtual 76, 3) := by decide +kernel
theorem dX1_swap_26 : decode cX1_swap 26 = .ok (.goto 15, 3) := by decide +kernel
theorem dX1_swap_29 : decode cX1_swap 29 = .ok (.aload_n 0, 1) := by decide +kernel
theorem dX1_swap_30 : decode cX1_swap 30 = .ok (.getfield 9, 3) := by decide +kernel
theorem dX1_swap_33 : decode cX1_swap 33 = .ok (.iconst 0, 1) := by decide +kernel
theorem dX1_swap_34 : decode cX1_swap 34 = .ok (.aload_n 3, 1) := by decide +kernel
theorem dX1_swap_35 : decode cX1_swap 35 = .ok (.getfield 59, 3) := by decide +kernel
theorem dX1_swap_38 : decode cX1_swap 38 = .ok (.iload_n 1, 1) := by decide +kernel
theorem dX1_swap_39 : decode cX1_swap 39 = .ok (.iaload, 1) := by decide +kernel
theorem dX1_swap_40 : decode cX1_swap 40 = .ok (.iastore, 1) := by decide +kernel
theorem dX1_swap_41 : decode cX1_swap 41 = .ok (.return_, 1) := by decide +kernel
theorem dX1_beginAgain_0 : decode cX1_beginAgain 0 = .ok (.aload_n 0, 1) := by decide +kernel
theorem dX1_beginAgain_1 : decode cX1_beginAgain 1 = .ok (.getfield 32, 3) := by decide +kernel
theorem dX1_beginAgain_4 : decode cX1_beginAgain 4 = .ok (.iconst 0, 1) := by decide +kernel
theorem dX1_beginAgain_5 : decode cX1_beginAgain 5 = .ok (.putfield 56, 3) := by decide +kernel
theorem dX1_beginAgain_8 : decode cX1_beginAgain 8 = .ok (.iconst 0, 1) := by decide +kernel
theorem dX1_beginAgain_9 : decode cX1_beginAgain 9 = .ok (.istore_n 1, 1) := by decide +kernel
theorem dX1_beginAgain_10 : decode cX1_beginAgain 10 = .ok (.iload_n 1, 1) := by decide +kernel
theorem dX1_beginAgain_11 : decode cX1_beginAgain 11 = .ok (.iconst 4, 1) := by decide +kernel
theorem dX1_beginAgain_12 : decode cX1_beginAgain 12 = .ok (.if_icmp .ge 16, 3) := by decide +kernel
theorem dX1_beginAgain_15 : decode cX1_beginAgain 15 = .ok (.aload_n 0, 1) := by decide +kernel
theorem dX1_beginAgain_16 : decode cX1_beginAgain 16 = .ok (.getfield 9, 3) := by decide +kernel
theorem dX1_beginAgain_19 : decode cX1_beginAgain 19 = .ok (.iload_n 1, 1) := by decide +kernel
theorem dX1_beginAgain_20 : decode cX1_beginAgain 20 = .ok (.iconst 0, 1) := by decide +kernel
theorem dX1_beginAgain_21 : decode cX1_beginAgain 21 = .ok (.iastore, 1) := by decide +kernel
theorem dX1_beginAgain_22 : decode cX1_beginAgain 22 = .ok (.iinc 1 1, 3) := by decide +kernel
theorem dX1_beginAgain_25 : decode cX1_beginAgain 25 = .ok (.goto (-15), 3) := by decide +kernel
theorem dX1_beginAgain_28 : decode cX1_beginAgain 28 = .ok (.aload_n 0, 1) := by decide +kernel
theorem dX1_beginAgain_29 : decode cX1_beginAgain 29 = .ok (.aload_n 0, 1) := by decide +kernel
theorem dX1_beginAgain_30 : decode cX1_beginAgain 30 = .ok (.getfield 80, 3) := by decide +kernel
theorem dX1_beginAgain_33 : decode cX1_beginAgain 33 = .ok (.putfield 36, 3) := by decide +kernel
theorem dX1_beginAgain_36 : decode cX1_beginAgain 36 = .ok (.return_, 1) := by decide +kernel
end
section
theorem dX2_init_0 : decode cX2_init 0 = .ok (.aload_n 0, 1) := by decide +kernel
theorem dX2_init_1 : decode cX2_init 1 = .ok (.invokespecial 3, 3) := by decide +kernel
theorem dX2_init_4 : decode cX2_init 4 = .ok (.aload_n 0, 1) := by decide +kernel
theorem dX2_init_5 : decode cX2_init 5 = .ok (.bipush 32, 2) := by decide +kernel
theorem dX2_init_7 : decode cX2_init 7 = .ok (.newarray .int, 2) := by decide +kernel
theorem dX2_init_9 : decode cX2_init 9 = .ok (.putfield 9, 3) := by decide +kernel
theorem dX2_init_12 : decode cX2_init 12 = .ok (.aload_n 0, 1) := by decide +kernel
theorem dX2_init_13 : decode cX2_init 13 = .ok (.bipush 32, 2) := by decide +kernel
theorem dX2_init_15 : decode cX2_init 15 = .ok (.newarray .int, 2) := by decide +kernel
theorem dX2_init_17 : decode cX2_init 17 = .ok (.putfield 15, 3) := by decide +kernel
theorem dX2_init_20 : decode cX2_init 20 = .ok (.aload_n 0, 1) := by decide +kernel
theorem dX2_init_21 : decode cX2_init 21 = .ok (.bipush 8, 2) := by decide +kernel
theorem dX2_init_23 : decode cX2_init 23 = .ok (.newarray .boolean, 2) := by decide +kernel
theorem dX2_init_25 : decode cX2_init 25 = .ok (.putfield 18, 3) := by decide +kernel
theorem dX2_init_28 : decode cX2_init 28 = .ok (.return_, 1) := by decide +kernel
theorem dX2_write_0 : decode cX2_write 0 = .ok (.aload_n 0, 1) := by decide +kernel
theorem dX2_write_1 : decode cX2_write 1 = .ok (.getfield 9, 3) := by decide +kernel
theorem dX2_write_4 : decode cX2_write 4 = .ok (.iload_n 1, 1) := by decide +kernel
theorem dX2_write_5 : decode cX2_write 5 = .ok (.iload_n 2, 1) := by decide +kernel
theorem dX2_write_6 : decode cX2_write 6 = .ok (.iastore, 1) := by decide +kernel
theorem dX2_write_7 : decode cX2_write 7 = .ok (.aload_n 0, 1) := by decide +kernel
theorem dX2_write_8 : decode cX2_write 8 = .ok (.getfield 18, 3) := by decide +kernel
theorem dX2_write_11 : decode cX2_write 11 = .ok (.iload_n 1, 1) := by decide +kernel
theorem dX2_write_12 : decode cX2_write 12 = .ok (.iconst 4, 1) := by decide +kernel
theorem dX2_write_13 : decode cX2_write 13 = .ok (.idiv, 1) := by decide +kernel
theorem dX2_write_14 : decode cX2_write 14 = .ok (.iconst 1, 1) := by decide +kernel
theorem dX2_write_15 : decode cX2_write 15 = .ok (.bastore, 1) := by decide +kernel
theorem dX2_write_16 : decode cX2_write 16 = .ok (.return_, 1) := by decide +kernel
theorem dX2_writeBack_0 : decode cX2_writeBack 0 = .ok (.iload_n 1, 1) := by decide +kernel
theorem dX2_writeBack_1 : decode cX2_writeBack 1 = .ok (.iconst 4, 1) := by decide +kernel
theorem dX2_writeBack_2 : decode cX2_writeBack 2 = .ok (.imul, 1) := by decide +kernel
theorem dX2_writeBack_3 : decode cX2_writeBack 3 = .ok (.istore_n 2, 1) := by decide +kernel
theorem dX2_writeBack_4 : decode cX2_writeBack 4 = .ok (.iload_n 2, 1) := by decide +kernel
theorem dX2_writeBack_5 : decode cX2_writeBack 5 = .ok (.istore_n 3, 1) := by decide +kernel
theorem dX2_writeBack_6 : decode cX2_writeBack 6 = .ok (.iload_n 3, 1) := by decide +kernel
theorem dX2_writeBack_7 : decode cX2_writeBack 7 = .ok (.iload_n 2, 1) := by decide +kernel
theorem dX2_writeBack_8 : decode cX2_writeBack 8 = .ok (.iconst 4, 1) := by decide +kernel
theorem dX2_writeBack_9 : decode cX2_writeBack 9 = .ok (.iadd, 1) := by decide +kernel
theorem dX2_writeBack_10 : decode cX2_writeBack 10 = .ok (.if_icmp .ge 21, 3) := by decide +kernel
theorem dX2_writeBack_13 : decode cX2_writeBack 13 = .ok (.aload_n 0, 1) := by decide +kernel
theorem dX2_writeBack_14 : decode cX2_writeBack 14 = .ok (.getfield 15, 3) := by decide +kernel
theorem dX2_writeBack_17 : decode cX2_writeBack 17 = .ok (.iload_n 3, 1) := by decide +kernel
theorem dX2_writeBack_18 : decode cX2_writeBack 18 = .ok (.aload_n 0, 1) := by decide +kernel
theorem dX2_writeBack_19 : decode cX2_writeBack 19 = .ok (.getfield 9, 3) := by decide +kernel
theorem dX2_writeBack_22 : decode cX2_writeBack 22 = .ok (.iload_n 3, 1) := by decide +kernel
theorem dX2_writeBack_23 : decode cX2_writeBack 23 = .ok (.iaload, 1) := by decide +kernel
theorem dX2_writeBack_24 : decode cX2_writeBack 24 = .ok (.iastore, 1) := by decide +kernel
theorem dX2_writeBack_25 : decode cX2_writeBack 25 = .ok (.iinc 3 1, 3) := by decide +kernel
theorem dX2_writeBack_28 : decode cX2_writeBack 28 = .ok (.goto (-22), 3) := by decide +kernel
theorem dX2_writeBack_31 : decode cX2_writeBack 31 = .ok (.aload_n 0, 1) := by decide +kernel
theorem dX2_writeBack_32 : decode cX2_writeBack 32 = .ok (.getfield 18, 3) := by decide +kernel
theorem dX2_writeBack_35 : decode cX2_writeBack 35 = .ok (.iload_n 1, 1) := by decide +kernel
theorem dX2_writeBack_36 : decode cX2_writeBack 36 = .ok (.iconst 0, 1) := by decide +kernel
theorem dX2_writeBack_37 : decode cX2_writeBack 37 = .ok (.bastore, 1) := by decide +kernel
theorem dX2_writeBack_38 : decode cX2_writeBack 38 = .ok (.return_, 1) := by decide +kernel
theorem dX2_fallBackToStorage_0 : decode cX2_fallBackToStorage 0 = .ok (.iconst 0, 1) := by decide +kernel
theorem dX2_fallBackToStorage_1 : decode cX2_fallBackToStorage 1 = .ok (.istore_n 1, 1) := by decide +kernel
theorem dX2_fallBackToStorage_2 : decode cX2_fallBackToStorage 2 = .ok (.iload_n 1, 1) := by decide +kernel
theorem dX2_fallBackToStorage_3 : decode cX2_fallBackToStorage 3 = .ok (.bipush 32, 2) := by decide +kernel
theorem dX2_fallBackToStorage_5 : decode cX2_fallBackToStorage 5 = .ok (.if_icmp .ge 21, 3) := by decide +kernel
theorem dX2_fallBackToStorage_8 : decode cX2_fallBackToStorage 8 = .ok (.aload_n 0, 1) := by decide +kernel
theorem dX2_fallBackToStorage_9 : decode cX2_fallBackToStorage 9 = .ok (.getfield 9, 3) := by decide +kernel
theorem dX2_fallBackToStorage_12 : decode cX2_fallBackToStorage 12 = .ok (.iload_n 1, 1) := by decide +kernel
theorem dX2_fallBackToStorage_13 : decode cX2_fallBackToStorage 13 = .ok (.aload_n 0, 1) := by decide +kernel
theorem dX2_fallBackToStorage_14 : decode cX2_fallBackToStorage 14 = .ok (.getfield 15, 3) := by decide +kernel
theorem dX2_fallBackToStorage_17 : decode cX2_fallBackToStorage 17 = .ok (.iload_n 1, 1) := by decide +kernel
theorem dX2_fallBackToStorage_18 : decode cX2_fallBackToStorage 18 = .ok (.iaload, 1) := by decide +kernel
theorem dX2_fallBackToStorage_19 : decode cX2_fallBackToStorage 19 = .ok (.iastore, 1) := by decide +kernel
theorem dX2_fallBackToStorage_20 : decode cX2_fallBackToStorage 20 = .ok (.iinc 1 1, 3) := by decide +kernel
theorem dX2_fallBackToStorage_23 : decode cX2_fallBackToStorage 23 = .ok (.goto (-21), 3) := by decide +kernel
theorem dX2_fallBackToStorage_26 : decode cX2_fallBackToStorage 26 = .ok (.iconst 0, 1) := by decide +kernel
theorem dX2_fallBackToStorage_27 : decode cX2_fallBackToStorage 27 = .ok (.istore_n 1, 1) := by decide +kernel
theorem dX2_fallBackToStorage_28 : decode cX2_fallBackToStorage 28 = .ok (.iload_n 1, 1) := by decide +kernel
theorem dX2_fallBackToStorage_29 : decode cX2_fallBackToStorage 29 = .ok (.bipush 8, 2) := by decide +kernel
theorem dX2_fallBackToStorage_31 : decode cX2_fallBackToStorage 31 = .ok (.if_icmp .ge 16, 3) := by decide +kernel
theorem dX2_fallBackToStorage_34 : decode cX2_fallBackToStorage 34 = .ok (.aload_n 0, 1) := by decide +kernel
theorem dX2_fallBackToStorage_35 : decode cX2_fallBackToStorage 35 = .ok (.getfield 18, 3) := by decide +kernel
theorem dX2_fallBackToStorage_38 : decode cX2_fallBackToStorage 38 = .ok (.iload_n 1, 1) := by decide +kernel
theorem dX2_fallBackToStorage_39 : decode cX2_fallBackToStorage 39 = .ok (.iconst 0, 1) := by decide +kernel
theorem dX2_fallBackToStorage_40 : decode cX2_fallBackToStorage 40 = .ok (.bastore, 1) := by decide +kernel
theorem dX2_fallBackToStorage_41 : decode cX2_fallBackToStorage 41 = .ok (.iinc 1 1, 3) := by decide +kernel
theorem dX2_fallBackToStorage_44 : decode cX2_fallBackToStorage 44 = .ok (.goto (-16), 3) := by decide +kernel
theorem dX2_fallBackToStorage_47 : decode cX2_fallBackToStorage 47 = .ok (.return_, 1) := by decide +kernel
end
section
theorem dX3_init_0 : decode cX3_init 0 = .ok (.aload_n 0, 1) := by decide +kernel
theorem dX3_init_1 : decode cX3_init 1 = .ok (.invokespecial 3, 3) := by decide +kernel
theorem dX3_init_4 : decode cX3_init 4 = .ok (.iload_n 1, 1) := by decide +kernel
theorem dX3_init_5 : decode cX3_init 5 = .ok (.iconst 2, 1) := by decide +kernel
theorem dX3_init_6 : decode cX3_init 6 = .ok (.if_icmp .lt 12, 3) := by decide +kernel
theorem dX3_init_9 : decode cX3_init 9 = .ok (.iload_n 1, 1) := by decide +kernel
theorem dX3_init_10 : decode cX3_init 10 = .ok (.iconst 4, 1) := by decide +kernel
theorem dX3_init_11 : decode cX3_init 11 = .ok (.if_icmp .gt 7, 3) := by decide +kernel
theorem dX3_init_14 : decode cX3_init 14 = .ok (.iload_n 1, 1) := by decide +kernel
theorem dX3_init_15 : decode cX3_init 15 = .ok (.goto 4, 3) := by decide +kernel
theorem dX3_init_18 : decode cX3_init 18 = .ok (.iconst 2, 1) := by decide +kernel
theorem dX3_init_19 : decode cX3_init 19 = .ok (.istore_n 3, 1) := by decide +kernel
theorem dX3_init_20 : decode cX3_init 20 = .ok (.iload_n 2, 1) := by decide +kernel
theorem dX3_init_21 : decode cX3_init 21 = .ok (.iconst 1, 1) := by decide +kernel
theorem dX3_init_22 : decode cX3_init 22 = .ok (.if_icmp .lt 13, 3) := by decide +kernel
theorem dX3_init_25 : decode cX3_init 25 = .ok (.iload_n 2, 1) := by decide +kernel
theorem dX3_init_26 : decode cX3_init 26 = .ok (.bipush 8, 2) := by decide +kernel
theorem dX3_init_28 : decode cX3_init 28 = .ok (.if_icmp .gt 7, 3) := by decide +kernel
theorem dX3_init_31 : decode cX3_init 31 = .ok (.iload_n 2, 1) := by decide +kernel
theorem dX3_init_32 : decode cX3_init 32 = .ok (.goto 4, 3) := by decide +kernel
theorem dX3_init_35 : decode cX3_init 35 = .ok (.iconst 4, 1) := by decide +kernel
theorem dX3_init_36 : decode cX3_init 36 = .ok (.istore 4, 2) := by decide +kernel
theorem dX3_init_38 : decode cX3_init 38 = .ok (.aload_n 0, 1) := by decide +kernel
theorem dX3_init_39 : decode cX3_init 39 = .ok (.new 9, 3) := by decide +kernel
theorem dX3_init_42 : decode cX3_init 42 = .ok (.dup, 1) := by decide +kernel
theorem dX3_init_43 : decode cX3_init 43 = .ok (.invokespecial 11, 3) := by decide +kernel
theorem dX3_init_46 : decode cX3_init 46 = .ok (.putfield 12, 3) := by decide +kernel
theorem dX3_init_49 : decode cX3_init 49 = .ok (.aload_n 0, 1) := by decide +kernel
theorem dX3_init_50 : decode cX3_init 50 = .ok (.iload_n 3, 1) := by decide +kernel
theorem dX3_init_51 : decode cX3_init 51 = .ok (.anewarray 16, 3) := by decide +kernel
theorem dX3_init_54 : decode cX3_init 54 = .ok (.putfield 18, 3) := by decide +kernel
theorem dX3_init_57 : decode cX3_init 57 = .ok (.iconst 0, 1) := by decide +kernel
theorem dX3_init_58 : decode cX3_init 58 = .ok (.istore 5, 2) := by decide +kernel
theorem dX3_init_60 : decode cX3_init 60 = .ok (.iload 5, 2) := by decide +kernel
theorem dX3_init_62 : decode cX3_init 62 = .ok (.iload_n 3, 1) := by decide +kernel
theorem dX3_init_63 : decode cX3_init 63 = .ok (.if_icmp .ge 25, 3) := by decide +kernel
theorem dX3_init_66 : decode cX3_init 66 = .ok (.aload_n 0, 1) := by decide +kernel
theorem dX3_init_67 : decode cX3_init 67 = .ok (.getfield 18, 3) := by decide +kernel
theorem dX3_init_70 : decode cX3_init 70 = .ok (.iload 5, 2) := by decide +kernel
theorem dX3_init_72 : decode cX3_init 72 = .ok (.new 16, 3) := by decide +kernel
theorem dX3_init_75 : decode cX3_init 75 = .ok (.dup, 1) := by decide +kernel
theorem dX3_init_76 : decode cX3_init 76 = .ok (.iload 4, 2) := by decide +kernel
theorem dX3_init_78 : decode cX3_init 78 = .ok (.invokespecial 22, 3) := by decide +kernel
theorem dX3_init_81 : decode cX3_init 81 = .ok (.aastore, 1) := by decide +kernel
theorem dX3_init_82 : decode cX3_init 82 = .ok (.iinc 5 1, 3) := by decide +kernel
theorem dX3_init_85 : decode cX3_init 85 = .ok (.goto (-25), 3) := by decide +kernel
theorem dX3_init_88 : decode cX3_init 88 = .ok (.return_, 1) := by decide +kernel
theorem dX3_put_0 : decode cX3_put 0 = .ok (.aload_n 0, 1) := by decide +kernel
theorem dX3_put_1 : decode cX3_put 1 = .ok (.iload_n 1, 1) := by decide +kernel
theorem dX3_put_2 : decode cX3_put 2 = .ok (.invokevirtual 25, 3) := by decide +kernel
theorem dX3_put_5 : decode cX3_put 5 = .ok (.ifCond .eq 20, 3) := by decide +kernel
theorem dX3_put_8 : decode cX3_put 8 = .ok (.iload_n 2, 1) := by decide +kernel
theorem dX3_put_9 : decode cX3_put 9 = .ok (.invokestatic 29, 3) := by decide +kernel
theorem dX3_put_12 : decode cX3_put 12 = .ok (.ifCond .eq 13, 3) := by decide +kernel
theorem dX3_put_15 : decode cX3_put 15 = .ok (.iload_n 3, 1) := by decide +kernel
theorem dX3_put_16 : decode cX3_put 16 = .ok (.ifCond .lt 9, 3) := by decide +kernel
theorem dX3_put_19 : decode cX3_put 19 = .ok (.iload_n 3, 1) := by decide +kernel
theorem dX3_put_20 : decode cX3_put 20 = .ok (.bipush 10, 2) := by decide +kernel
theorem dX3_put_22 : decode cX3_put 22 = .ok (.if_icmp .le 5, 3) := by decide +kernel
theorem dX3_put_25 : decode cX3_put 25 = .ok (.iconst 0, 1) := by decide +kernel
theorem dX3_put_26 : decode cX3_put 26 = .ok (.ireturn, 1) := by decide +kernel
theorem dX3_put_27 : decode cX3_put 27 = .ok (.iload 4, 2) := by decide +kernel
theorem dX3_put_29 : decode cX3_put 29 = .ok (.invokestatic 32, 3) := by decide +kernel
theorem dX3_put_32 : decode cX3_put 32 = .ok (.ifCond .eq 25, 3) := by decide +kernel
theorem dX3_put_35 : decode cX3_put 35 = .ok (.iload 5, 2) := by decide +kernel
theorem dX3_put_37 : decode cX3_put 37 = .ok (.invokestatic 32, 3) := by decide +kernel
theorem dX3_put_40 : decode cX3_put 40 = .ok (.ifCond .eq 17, 3) := by decide +kernel
theorem dX3_put_43 : decode cX3_put 43 = .ok (.iload_n 3, 1) := by decide +kernel
theorem dX3_put_44 : decode cX3_put 44 = .ok (.bipush 10, 2) := by decide +kernel
theorem dX3_put_46 : decode cX3_put 46 = .ok (.if_icmp .ne 13, 3) := by decide +kernel
theorem dX3_put_49 : decode cX3_put 49 = .ok (.iload 6, 2) := by decide +kernel
theorem dX3_put_51 : decode cX3_put 51 = .ok (.invokestatic 29, 3) := by decide +kernel
theorem dX3_put_54 : decode cX3_put 54 = .ok (.ifCond .ne 5, 3) := by decide +kernel
theorem dX3_put_57 : decode cX3_put 57 = .ok (.iconst 0, 1) := by decide +kernel
theorem dX3_put_58 : decode cX3_put 58 = .ok (.ireturn, 1) := by decide +kernel
theorem dX3_put_59 : decode cX3_put 59 = .ok (.aload_n 0, 1) := by decide +kernel
theorem dX3_put_60 : decode cX3_put 60 = .ok (.getfield 18, 3) := by decide +kernel
theorem dX3_put_63 : decode cX3_put 63 = .ok (.iload_n 1, 1) := by decide +kernel
theorem dX3_put_64 : decode cX3_put 64 = .ok (.aaload, 1) := by decide +kernel
theorem dX3_put_65 : decode cX3_put 65 = .ok (.iload_n 2, 1) := by decide +kernel
theorem dX3_put_66 : decode cX3_put 66 = .ok (.iload_n 3, 1) := by decide +kernel
theorem dX3_put_67 : decode cX3_put 67 = .ok (.iload 4, 2) := by decide +kernel
theorem dX3_put_69 : decode cX3_put 69 = .ok (.iload 5, 2) := by decide +kernel
theorem dX3_put_71 : decode cX3_put 71 = .ok (.iload 6, 2) := by decide +kernel
theorem dX3_put_73 : decode cX3_put 73 = .ok (.invokevirtual 35, 3) := by decide +kernel
theorem dX3_put_76 : decode cX3_put 76 = .ok (.iconst 1, 1) := by decide +kernel
theorem dX3_put_77 : decode cX3_put 77 = .ok (.ireturn, 1) := by decide +kernel
theorem dX3_recovery_0 : decode cX3_recovery 0 = .ok (.aload_n 0, 1) := by decide +kernel
theorem dX3_recovery_1 : decode cX3_recovery 1 = .ok (.iload_n 1, 1) := by decide +kernel
theorem dX3_recovery_2 : decode cX3_recovery 2 = .ok (.invokevirtual 25, 3) := by decide +kernel
theorem dX3_recovery_5 : decode cX3_recovery 5 = .ok (.ifCond .eq 10, 3) := by decide +kernel
theorem dX3_recovery_8 : decode cX3_recovery 8 = .ok (.iload_n 2, 1) := by decide +kernel
theorem dX3_recovery_9 : decode cX3_recovery 9 = .ok (.invokestatic 29, 3) := by decide +kernel
theorem dX3_recovery_12 : decode cX3_recovery 12 = .ok (.ifCond .ne 5, 3) := by decide +kernel
theorem dX3_recovery_15 : decode cX3_recovery 15 = .ok (.iconst 0, 1) := by decide +kernel
theorem dX3_recovery_16 : decode cX3_recovery 16 = .ok (.ireturn, 1) := by decide +kernel
theorem dX3_recovery_17 : decode cX3_recovery 17 = .ok (.aload_n 0, 1) := by decide +kernel
theorem dX3_recovery_18 : decode cX3_recovery 18 = .ok (.getfield 18, 3) := by decide +kernel
theorem dX3_recovery_21 : decode cX3_recovery 21 = .ok (.iload_n 1, 1) := by decide +kernel
theorem dX3_recovery_22 : decode cX3_recovery 22 = .ok (.aaload, 1) := by decide +kernel
theorem dX3_recovery_23 : decode cX3_recovery 23 = .ok (.iload_n 2, 1) := by decide +kernel
theorem dX3_recovery_24 : decode cX3_recovery 24 = .ok (.putfield 39, 3) := by decide +kernel
theorem dX3_recovery_27 : decode cX3_recovery 27 = .ok (.iconst 1, 1) := by decide +kernel
theorem dX3_recovery_28 : decode cX3_recovery 28 = .ok (.ireturn, 1) := by decide +kernel
theorem dX3_step_0 : decode cX3_step 0 = .ok (.aload_n 0, 1) := by decide +kernel
theorem dX3_step_1 : decode cX3_step 1 = .ok (.iload_n 1, 1) := by decide +kernel
theorem dX3_step_2 : decode cX3_step 2 = .ok (.invokevirtual 25, 3) := by decide +kernel
theorem dX3_step_5 : decode cX3_step 5 = .ok (.ifCond .eq 19, 3) := by decide +kernel
theorem dX3_step_8 : decode cX3_step 8 = .ok (.aload_n 0, 1) := by decide +kernel
theorem dX3_step_9 : decode cX3_step 9 = .ok (.getfield 18, 3) := by decide +kernel
theorem dX3_step_12 : decode cX3_step 12 = .ok (.iload_n 1, 1) := by decide +kernel
theorem dX3_step_13 : decode cX3_step 13 = .ok (.aaload, 1) := by decide +kernel
theorem dX3_step_14 : decode cX3_step 14 = .ok (.aload_n 0, 1) := by decide +kernel
theorem dX3_step_15 : decode cX3_step 15 = .ok (.getfield 12, 3) := by decide +kernel
theorem dX3_step_18 : decode cX3_step 18 = .ok (.invokevirtual 43, 3) := by decide +kernel
theorem dX3_step_21 : decode cX3_step 21 = .ok (.goto 4, 3) := by decide +kernel
theorem dX3_step_24 : decode cX3_step 24 = .ok (.iconst (-1), 1) := by decide +kernel
theorem dX3_step_25 : decode cX3_step 25 = .ok (.ireturn, 1) := by decide +kernel
theorem dX3_run_0 : decode cX3_run 0 = .ok (.aload_n 0, 1) := by decide +kernel
theorem dX3_run_1 : decode cX3_run 1 = .ok (.iload_n 1, 1) := by decide +kernel
theorem dX3_run_2 : decode cX3_run 2 = .ok (.invokevirtual 25, 3) := by decide +kernel
theorem dX3_run_5 : decode cX3_run 5 = .ok (.ifCond .eq 13, 3) := by decide +kernel
theorem dX3_run_8 : decode cX3_run 8 = .ok (.iload_n 2, 1) := by decide +kernel
theorem dX3_run_9 : decode cX3_run 9 = .ok (.ifCond .lt 9, 3) := by decide +kernel
theorem dX3_run_12 : decode cX3_run 12 = .ok (.iload_n 2, 1) := by decide +kernel
theorem dX3_run_13 : decode cX3_run 13 = .ok (.bipush 20, 2) := by decide +kernel
theorem dX3_run_15 : decode cX3_run 15 = .ok (.if_icmp .le 5, 3) := by decide +kernel
theorem dX3_run_18 : decode cX3_run 18 = .ok (.iconst (-1), 1) := by decide +kernel
theorem dX3_run_19 : decode cX3_run 19 = .ok (.ireturn, 1) := by decide +kernel
theorem dX3_run_20 : decode cX3_run 20 = .ok (.iconst 0, 1) := by decide +kernel
theorem dX3_run_21 : decode cX3_run 21 = .ok (.istore_n 3, 1) := by decide +kernel
theorem dX3_run_22 : decode cX3_run 22 = .ok (.iload_n 3, 1) := by decide +kernel
theorem dX3_run_23 : decode cX3_run 23 = .ok (.iload_n 2, 1) := by decide +kernel
theorem dX3_run_24 : decode cX3_run 24 = .ok (.if_icmp .ge 27, 3) := by decide +kernel
theorem dX3_run_27 : decode cX3_run 27 = .ok (.aload_n 0, 1) := by decide +kernel
theorem dX3_run_28 : decode cX3_run 28 = .ok (.getfield 18, 3) := by decide +kernel
theorem dX3_run_31 : decode cX3_run 31 = .ok (.iload_n 1, 1) := by decide +kernel
theorem dX3_run_32 : decode cX3_run 32 = .ok (.aaload, 1) := by decide +kernel
theorem dX3_run_33 : decode cX3_run 33 = .ok (.aload_n 0, 1) := by decide +kernel
theorem dX3_run_34 : decode cX3_run 34 = .ok (.getfield 12, 3) := by decide +kernel
theorem dX3_run_37 : decode cX3_run 37 = .ok (.invokevirtual 43, 3) := by decide +kernel
theorem dX3_run_40 : decode cX3_run 40 = .ok (.ifCond .eq 5, 3) := by decide +kernel
theorem dX3_run_43 : decode cX3_run 43 = .ok (.iload_n 3, 1) := by decide +kernel
theorem dX3_run_44 : decode cX3_run 44 = .ok (.ireturn, 1) := by decide +kernel
theorem dX3_run_45 : decode cX3_run 45 = .ok (.iinc 3 1, 3) := by decide +kernel
theorem dX3_run_48 : decode cX3_run 48 = .ok (.goto (-26), 3) := by decide +kernel
theorem dX3_run_51 : decode cX3_run 51 = .ok (.iload_n 2, 1) := by decide +kernel
theorem dX3_run_52 : decode cX3_run 52 = .ok (.ireturn, 1) := by decide +kernel
theorem dX3_drain_0 : decode cX3_drain 0 = .ok (.aload_n 0, 1) := by decide +kernel
theorem dX3_drain_1 : decode cX3_drain 1 = .ok (.iload_n 1, 1) := by decide +kernel
theorem dX3_drain_2 : decode cX3_drain 2 = .ok (.iload_n 2, 1) := by decide +kernel
theorem dX3_drain_3 : decode cX3_drain 3 = .ok (.invokevirtual 47, 3) := by decide +kernel
theorem dX3_drain_6 : decode cX3_drain 6 = .ok (.ifCond .eq 19, 3) := by decide +kernel
theorem dX3_drain_9 : decode cX3_drain 9 = .ok (.aload_n 0, 1) := by decide +kernel
theorem dX3_drain_10 : decode cX3_drain 10 = .ok (.getfield 18, 3) := by decide +kernel
theorem dX3_drain_13 : decode cX3_drain 13 = .ok (.iload_n 1, 1) := by decide +kernel
theorem dX3_drain_14 : decode cX3_drain 14 = .ok (.aaload, 1) := by decide +kernel
theorem dX3_drain_15 : decode cX3_drain 15 = .ok (.getfield 51, 3) := by decide +kernel
theorem dX3_drain_18 : decode cX3_drain 18 = .ok (.iload_n 2, 1) := by decide +kernel
theorem dX3_drain_19 : decode cX3_drain 19 = .ok (.invokevirtual 55, 3) := by decide +kernel
theorem dX3_drain_22 : decode cX3_drain 22 = .ok (.ifCond .ne 5, 3) := by decide +kernel
theorem dX3_drain_25 : decode cX3_drain 25 = .ok (.iconst 0, 1) := by decide +kernel
theorem dX3_drain_26 : decode cX3_drain 26 = .ok (.ireturn, 1) := by decide +kernel
theorem dX3_drain_27 : decode cX3_drain 27 = .ok (.aload_n 0, 1) := by decide +kernel
theorem dX3_drain_28 : decode cX3_drain 28 = .ok (.getfield 18, 3) := by decide +kernel
theorem dX3_drain_31 : decode cX3_drain 31 = .ok (.iload_n 1, 1) := by decide +kernel
theorem dX3_drain_32 : decode cX3_drain 32 = .ok (.aaload, 1) := by decide +kernel
theorem dX3_drain_33 : decode cX3_drain 33 = .ok (.getfield 51, 3) := by decide +kernel
theorem dX3_drain_36 : decode cX3_drain 36 = .ok (.iload_n 2, 1) := by decide +kernel
theorem dX3_drain_37 : decode cX3_drain 37 = .ok (.aload_n 0, 1) := by decide +kernel
theorem dX3_drain_38 : decode cX3_drain 38 = .ok (.getfield 12, 3) := by decide +kernel
theorem dX3_drain_41 : decode cX3_drain 41 = .ok (.invokevirtual 60, 3) := by decide +kernel
theorem dX3_drain_44 : decode cX3_drain 44 = .ok (.iconst 1, 1) := by decide +kernel
theorem dX3_drain_45 : decode cX3_drain 45 = .ok (.ireturn, 1) := by decide +kernel
theorem dX3_settle_0 : decode cX3_settle 0 = .ok (.aload_n 0, 1) := by decide +kernel
theorem dX3_settle_1 : decode cX3_settle 1 = .ok (.iload_n 1, 1) := by decide +kernel
theorem dX3_settle_2 : decode cX3_settle 2 = .ok (.invokevirtual 25, 3) := by decide +kernel
theorem dX3_settle_5 : decode cX3_settle 5 = .ok (.ifCond .ne 5, 3) := by decide +kernel
theorem dX3_settle_8 : decode cX3_settle 8 = .ok (.iconst (-1), 1) := by decide +kernel
theorem dX3_settle_9 : decode cX3_settle 9 = .ok (.ireturn, 1) := by decide +kernel
theorem dX3_settle_10 : decode cX3_settle 10 = .ok (.aload_n 0, 1) := by decide +kernel
theorem dX3_settle_11 : decode cX3_settle 11 = .ok (.getfield 18, 3) := by decide +kernel
theorem dX3_settle_14 : decode cX3_settle 14 = .ok (.iload_n 1, 1) := by decide +kernel
theorem dX3_settle_15 : decode cX3_settle 15 = .ok (.aaload, 1) := by decide +kernel
theorem dX3_settle_16 : decode cX3_settle 16 = .ok (.getfield 51, 3) := by decide +kernel
theorem dX3_settle_19 : decode cX3_settle 19 = .ok (.astore_n 2, 1) := by decide +kernel
theorem dX3_settle_20 : decode cX3_settle 20 = .ok (.aload_n 2, 1) := by decide +kernel
theorem dX3_settle_21 : decode cX3_settle 21 = .ok (.getfield 64, 3) := by decide +kernel
theorem dX3_settle_24 : decode cX3_settle 24 = .ok (.istore_n 3, 1) := by decide +kernel
theorem dX3_settle_25 : decode cX3_settle 25 = .ok (.iconst 0, 1) := by decide +kernel
theorem dX3_settle_26 : decode cX3_settle 26 = .ok (.istore 4, 2) := by decide +kernel
theorem dX3_settle_28 : decode cX3_settle 28 = .ok (.iload 4, 2) := by decide +kernel
theorem dX3_settle_30 : decode cX3_settle 30 = .ok (.iload_n 3, 1) := by decide +kernel
theorem dX3_settle_31 : decode cX3_settle 31 = .ok (.if_icmp .ge 18, 3) := by decide +kernel
theorem dX3_settle_34 : decode cX3_settle 34 = .ok (.aload_n 2, 1) := by decide +kernel
theorem dX3_settle_35 : decode cX3_settle 35 = .ok (.iconst 0, 1) := by decide +kernel
theorem dX3_settle_36 : decode cX3_settle 36 = .ok (.aload_n 0, 1) := by decide +kernel
theorem dX3_settle_37 : decode cX3_settle 37 = .ok (.getfield 12, 3) := by decide +kernel
theorem dX3_settle_40 : decode cX3_settle 40 = .ok (.invokevirtual 60, 3) := by decide +kernel
theorem dX3_settle_43 : decode cX3_settle 43 = .ok (.iinc 4 1, 3) := by decide +kernel
theorem dX3_settle_46 : decode cX3_settle 46 = .ok (.goto (-18), 3) := by decide +kernel
theorem dX3_settle_49 : decode cX3_settle 49 = .ok (.iload_n 3, 1) := by decide +kernel
theorem dX3_settle_50 : decode cX3_settle 50 = .ok (.ireturn, 1) := by decide +kernel
theorem dX3_evict_0 : decode cX3_evict 0 = .ok (.iload_n 1, 1) := by decide +kernel
theorem dX3_evict_1 : decode cX3_evict 1 = .ok (.invokestatic 67, 3) := by decide +kernel
theorem dX3_evict_4 : decode cX3_evict 4 = .ok (.ifCond .ne 5, 3) := by decide +kernel
theorem dX3_evict_7 : decode cX3_evict 7 = .ok (.iconst 0, 1) := by decide +kernel
theorem dX3_evict_8 : decode cX3_evict 8 = .ok (.ireturn, 1) := by decide +kernel
theorem dX3_evict_9 : decode cX3_evict 9 = .ok (.aload_n 0, 1) := by decide +kernel
theorem dX3_evict_10 : decode cX3_evict 10 = .ok (.getfield 12, 3) := by decide +kernel
theorem dX3_evict_13 : decode cX3_evict 13 = .ok (.iload_n 1, 1) := by decide +kernel
theorem dX3_evict_14 : decode cX3_evict 14 = .ok (.invokevirtual 70, 3) := by decide +kernel
theorem dX3_evict_17 : decode cX3_evict 17 = .ok (.iconst 1, 1) := by decide +kernel
theorem dX3_evict_18 : decode cX3_evict 18 = .ok (.ireturn, 1) := by decide +kernel
theorem dX3_crash_0 : decode cX3_crash 0 = .ok (.aload_n 0, 1) := by decide +kernel
theorem dX3_crash_1 : decode cX3_crash 1 = .ok (.getfield 12, 3) := by decide +kernel
theorem dX3_crash_4 : decode cX3_crash 4 = .ok (.invokevirtual 73, 3) := by decide +kernel
theorem dX3_crash_7 : decode cX3_crash 7 = .ok (.iconst 0, 1) := by decide +kernel
theorem dX3_crash_8 : decode cX3_crash 8 = .ok (.istore_n 1, 1) := by decide +kernel
theorem dX3_crash_9 : decode cX3_crash 9 = .ok (.iload_n 1, 1) := by decide +kernel
theorem dX3_crash_10 : decode cX3_crash 10 = .ok (.aload_n 0, 1) := by decide +kernel
theorem dX3_crash_11 : decode cX3_crash 11 = .ok (.getfield 18, 3) := by decide +kernel
theorem dX3_crash_14 : decode cX3_crash 14 = .ok (.arraylength, 1) := by decide +kernel
theorem dX3_crash_15 : decode cX3_crash 15 = .ok (.if_icmp .ge 18, 3) := by decide +kernel
theorem dX3_crash_18 : decode cX3_crash 18 = .ok (.aload_n 0, 1) := by decide +kernel
theorem dX3_crash_19 : decode cX3_crash 19 = .ok (.getfield 18, 3) := by decide +kernel
theorem dX3_crash_22 : decode cX3_crash 22 = .ok (.iload_n 1, 1) := by decide +kernel
theorem dX3_crash_23 : decode cX3_crash 23 = .ok (.aaload, 1) := by decide +kernel
theorem dX3_crash_24 : decode cX3_crash 24 = .ok (.invokevirtual 76, 3) := by decide +kernel
theorem dX3_crash_27 : decode cX3_crash 27 = .ok (.iinc 1 1, 3) := by decide +kernel
theorem dX3_crash_30 : decode cX3_crash 30 = .ok (.goto (-21), 3) := by decide +kernel
theorem dX3_crash_33 : decode cX3_crash 33 = .ok (.return_, 1) := by decide +kernel
theorem dX3_register_0 : decode cX3_register 0 = .ok (.aload_n 0, 1) := by decide +kernel
theorem dX3_register_1 : decode cX3_register 1 = .ok (.iload_n 1, 1) := by decide +kernel
theorem dX3_register_2 : decode cX3_register 2 = .ok (.invokevirtual 25, 3) := by decide +kernel
theorem dX3_register_5 : decode cX3_register 5 = .ok (.ifCond .eq 24, 3) := by decide +kernel
theorem dX3_register_8 : decode cX3_register 8 = .ok (.iload_n 2, 1) := by decide +kernel
theorem dX3_register_9 : decode cX3_register 9 = .ok (.invokestatic 32, 3) := by decide +kernel
theorem dX3_register_12 : decode cX3_register 12 = .ok (.ifCond .eq 17, 3) := by decide +kernel
theorem dX3_register_15 : decode cX3_register 15 = .ok (.aload_n 0, 1) := by decide +kernel
theorem dX3_register_16 : decode cX3_register 16 = .ok (.getfield 18, 3) := by decide +kernel
theorem dX3_register_19 : decode cX3_register 19 = .ok (.iload_n 1, 1) := by decide +kernel
theorem dX3_register_20 : decode cX3_register 20 = .ok (.aaload, 1) := by decide +kernel
theorem dX3_register_21 : decode cX3_register 21 = .ok (.getfield 79, 3) := by decide +kernel
theorem dX3_register_24 : decode cX3_register 24 = .ok (.iload_n 2, 1) := by decide +kernel
theorem dX3_register_25 : decode cX3_register 25 = .ok (.iaload, 1) := by decide +kernel
theorem dX3_register_26 : decode cX3_register 26 = .ok (.goto 4, 3) := by decide +kernel
theorem dX3_register_29 : decode cX3_register 29 = .ok (.iconst 0, 1) := by decide +kernel
theorem dX3_register_30 : decode cX3_register 30 = .ok (.ireturn, 1) := by decide +kernel
theorem dX3_place_0 : decode cX3_place 0 = .ok (.aload_n 0, 1) := by decide +kernel
theorem dX3_place_1 : decode cX3_place 1 = .ok (.iload_n 1, 1) := by decide +kernel
theorem dX3_place_2 : decode cX3_place 2 = .ok (.invokevirtual 25, 3) := by decide +kernel
theorem dX3_place_5 : decode cX3_place 5 = .ok (.ifCond .eq 15, 3) := by decide +kernel
theorem dX3_place_8 : decode cX3_place 8 = .ok (.aload_n 0, 1) := by decide +kernel
theorem dX3_place_9 : decode cX3_place 9 = .ok (.getfield 18, 3) := by decide +kernel
theorem dX3_place_12 : decode cX3_place 12 = .ok (.iload_n 1, 1) := by decide +kernel
theorem dX3_place_13 : decode cX3_place 13 = .ok (.aaload, 1) := by decide +kernel
theorem dX3_place_14 : decode cX3_place 14 = .ok (.getfield 83, 3) := by decide +kernel
theorem dX3_place_17 : decode cX3_place 17 = .ok (.goto 4, 3) := by decide +kernel
theorem dX3_place_20 : decode cX3_place 20 = .ok (.iconst (-1), 1) := by decide +kernel
theorem dX3_place_21 : decode cX3_place 21 = .ok (.ireturn, 1) := by decide +kernel
theorem dX3_pending_0 : decode cX3_pending 0 = .ok (.aload_n 0, 1) := by decide +kernel
theorem dX3_pending_1 : decode cX3_pending 1 = .ok (.iload_n 1, 1) := by decide +kernel
theorem dX3_pending_2 : decode cX3_pending 2 = .ok (.invokevirtual 25, 3) := by decide +kernel
theorem dX3_pending_5 : decode cX3_pending 5 = .ok (.ifCond .eq 18, 3) := by decide +kernel
theorem dX3_pending_8 : decode cX3_pending 8 = .ok (.aload_n 0, 1) := by decide +kernel
theorem dX3_pending_9 : decode cX3_pending 9 = .ok (.getfield 18, 3) := by decide +kernel
theorem dX3_pending_12 : decode cX3_pending 12 = .ok (.iload_n 1, 1) := by decide +kernel
theorem dX3_pending_13 : decode cX3_pending 13 = .ok (.aaload, 1) := by decide +kernel
theorem dX3_pending_14 : decode cX3_pending 14 = .ok (.getfield 51, 3) := by decide +kernel
theorem dX3_pending_17 : decode cX3_pending 17 = .ok (.getfield 64, 3) := by decide +kernel
theorem dX3_pending_20 : decode cX3_pending 20 = .ok (.goto 4, 3) := by decide +kernel
theorem dX3_pending_23 : decode cX3_pending 23 = .ok (.iconst (-1), 1) := by decide +kernel
theorem dX3_pending_24 : decode cX3_pending 24 = .ok (.ireturn, 1) := by decide +kernel
theorem dX3_entry_0 : decode cX3_entry 0 = .ok (.aload_n 0, 1) := by decide +kernel
theorem dX3_entry_1 : decode cX3_entry 1 = .ok (.iload_n 1, 1) := by decide +kernel
theorem dX3_entry_2 : decode cX3_entry 2 = .ok (.iload_n 2, 1) := by decide +kernel
theorem dX3_entry_3 : decode cX3_entry 3 = .ok (.invokevirtual 47, 3) := by decide +kernel
theorem dX3_entry_6 : decode cX3_entry 6 = .ok (.ifCond .ne 5, 3) := by decide +kernel
theorem dX3_entry_9 : decode cX3_entry 9 = .ok (.iconst (-1), 1) := by decide +kernel
theorem dX3_entry_10 : decode cX3_entry 10 = .ok (.ireturn, 1) := by decide +kernel
theorem dX3_entry_11 : decode cX3_entry 11 = .ok (.aload_n 0, 1) := by decide +kernel
theorem dX3_entry_12 : decode cX3_entry 12 = .ok (.getfield 18, 3) := by decide +kernel
theorem dX3_entry_15 : decode cX3_entry 15 = .ok (.iload_n 1, 1) := by decide +kernel
theorem dX3_entry_16 : decode cX3_entry 16 = .ok (.aaload, 1) := by decide +kernel
theorem dX3_entry_17 : decode cX3_entry 17 = .ok (.getfield 51, 3) := by decide +kernel
theorem dX3_entry_20 : decode cX3_entry 20 = .ok (.astore 4, 2) := by decide +kernel
theorem dX3_entry_22 : decode cX3_entry 22 = .ok (.iload_n 3, 1) := by decide +kernel
theorem dX3_entry_23 : decode cX3_entry 23 = .ok (.tableswitch 49 0 2 #[25, 33, 41], 25) := by decide +kernel
theorem dX3_entry_48 : decode cX3_entry 48 = .ok (.aload 4, 2) := by decide +kernel
theorem dX3_entry_50 : decode cX3_entry 50 = .ok (.getfield 86, 3) := by decide +kernel
theorem dX3_entry_53 : decode cX3_entry 53 = .ok (.iload_n 2, 1) := by decide +kernel
theorem dX3_entry_54 : decode cX3_entry 54 = .ok (.iaload, 1) := by decide +kernel
theorem dX3_entry_55 : decode cX3_entry 55 = .ok (.ireturn, 1) := by decide +kernel
theorem dX3_entry_56 : decode cX3_entry 56 = .ok (.aload 4, 2) := by decide +kernel
theorem dX3_entry_58 : decode cX3_entry 58 = .ok (.getfield 89, 3) := by decide +kernel
theorem dX3_entry_61 : decode cX3_entry 61 = .ok (.iload_n 2, 1) := by decide +kernel
theorem dX3_entry_62 : decode cX3_entry 62 = .ok (.iaload, 1) := by decide +kernel
theorem dX3_entry_63 : decode cX3_entry 63 = .ok (.ireturn, 1) := by decide +kernel
theorem dX3_entry_64 : decode cX3_entry 64 = .ok (.aload 4, 2) := by decide +kernel
theorem dX3_entry_66 : decode cX3_entry 66 = .ok (.getfield 92, 3) := by decide +kernel
theorem dX3_entry_69 : decode cX3_entry 69 = .ok (.iload_n 2, 1) := by decide +kernel
theorem dX3_entry_70 : decode cX3_entry 70 = .ok (.iaload, 1) := by decide +kernel
theorem dX3_entry_71 : decode cX3_entry 71 = .ok (.ireturn, 1) := by decide +kernel
theorem dX3_entry_72 : decode cX3_entry 72 = .ok (.iconst (-1), 1) := by decide +kernel
theorem dX3_entry_73 : decode cX3_entry 73 = .ok (.ireturn, 1) := by decide +kernel
theorem dX3_sees_0 : decode cX3_sees 0 = .ok (.aload_n 0, 1) := by decide +kernel
theorem dX3_sees_1 : decode cX3_sees 1 = .ok (.iload_n 1, 1) := by decide +kernel
theorem dX3_sees_2 : decode cX3_sees 2 = .ok (.invokevirtual 25, 3) := by decide +kernel
theorem dX3_sees_5 : decode cX3_sees 5 = .ok (.ifCond .eq 35, 3) := by decide +kernel
theorem dX3_sees_8 : decode cX3_sees 8 = .ok (.iload_n 2, 1) := by decide +kernel
theorem dX3_sees_9 : decode cX3_sees 9 = .ok (.invokestatic 95, 3) := by decide +kernel
theorem dX3_sees_12 : decode cX3_sees 12 = .ok (.ifCond .eq 28, 3) := by decide +kernel
theorem dX3_sees_15 : decode cX3_sees 15 = .ok (.aload_n 0, 1) := by decide +kernel
theorem dX3_sees_16 : decode cX3_sees 16 = .ok (.getfield 18, 3) := by decide +kernel
theorem dX3_sees_19 : decode cX3_sees 19 = .ok (.iload_n 1, 1) := by decide +kernel
theorem dX3_sees_20 : decode cX3_sees 20 = .ok (.aaload, 1) := by decide +kernel
theorem dX3_sees_21 : decode cX3_sees 21 = .ok (.getfield 51, 3) := by decide +kernel
theorem dX3_sees_24 : decode cX3_sees 24 = .ok (.iload_n 2, 1) := by decide +kernel
theorem dX3_sees_25 : decode cX3_sees 25 = .ok (.aload_n 0, 1) := by decide +kernel
theorem dX3_sees_26 : decode cX3_sees 26 = .ok (.getfield 12, 3) := by decide +kernel
theorem dX3_sees_29 : decode cX3_sees 29 = .ok (.getfield 98, 3) := by decide +kernel
theorem dX3_sees_32 : decode cX3_sees 32 = .ok (.iload_n 2, 1) := by decide +kernel
theorem dX3_sees_33 : decode cX3_sees 33 = .ok (.iaload, 1) := by decide +kernel
theorem dX3_sees_34 : decode cX3_sees 34 = .ok (.invokevirtual 101, 3) := by decide +kernel
theorem dX3_sees_37 : decode cX3_sees 37 = .ok (.goto 4, 3) := by decide +kernel
theorem dX3_sees_40 : decode cX3_sees 40 = .ok (.iconst 0, 1) := by decide +kernel
theorem dX3_sees_41 : decode cX3_sees 41 = .ok (.ireturn, 1) := by decide +kernel
theorem dX3_memory_0 : decode cX3_memory 0 = .ok (.iload_n 1, 1) := by decide +kernel
theorem dX3_memory_1 : decode cX3_memory 1 = .ok (.invokestatic 95, 3) := by decide +kernel
theorem dX3_memory_4 : decode cX3_memory 4 = .ok (.ifCond .eq 15, 3) := by decide +kernel
theorem dX3_memory_7 : decode cX3_memory 7 = .ok (.aload_n 0, 1) := by decide +kernel
theorem dX3_memory_8 : decode cX3_memory 8 = .ok (.getfield 12, 3) := by decide +kernel
theorem dX3_memory_11 : decode cX3_memory 11 = .ok (.getfield 98, 3) := by decide +kernel
theorem dX3_memory_14 : decode cX3_memory 14 = .ok (.iload_n 1, 1) := by decide +kernel
theorem dX3_memory_15 : decode cX3_memory 15 = .ok (.iaload, 1) := by decide +kernel
theorem dX3_memory_16 : decode cX3_memory 16 = .ok (.goto 4, 3) := by decide +kernel
theorem dX3_memory_19 : decode cX3_memory 19 = .ok (.iconst 0, 1) := by decide +kernel
theorem dX3_memory_20 : decode cX3_memory 20 = .ok (.ireturn, 1) := by decide +kernel
theorem dX3_storage_0 : decode cX3_storage 0 = .ok (.iload_n 1, 1) := by decide +kernel
theorem dX3_storage_1 : decode cX3_storage 1 = .ok (.invokestatic 95, 3) := by decide +kernel
theorem dX3_storage_4 : decode cX3_storage 4 = .ok (.ifCond .eq 15, 3) := by decide +kernel
theorem dX3_storage_7 : decode cX3_storage 7 = .ok (.aload_n 0, 1) := by decide +kernel
theorem dX3_storage_8 : decode cX3_storage 8 = .ok (.getfield 12, 3) := by decide +kernel
theorem dX3_storage_11 : decode cX3_storage 11 = .ok (.getfield 105, 3) := by decide +kernel
theorem dX3_storage_14 : decode cX3_storage 14 = .ok (.iload_n 1, 1) := by decide +kernel
theorem dX3_storage_15 : decode cX3_storage 15 = .ok (.iaload, 1) := by decide +kernel
theorem dX3_storage_16 : decode cX3_storage 16 = .ok (.goto 4, 3) := by decide +kernel
theorem dX3_storage_19 : decode cX3_storage 19 = .ok (.iconst 0, 1) := by decide +kernel
theorem dX3_storage_20 : decode cX3_storage 20 = .ok (.ireturn, 1) := by decide +kernel
theorem dX3_dirty_0 : decode cX3_dirty 0 = .ok (.iload_n 1, 1) := by decide +kernel
theorem dX3_dirty_1 : decode cX3_dirty 1 = .ok (.invokestatic 67, 3) := by decide +kernel
theorem dX3_dirty_4 : decode cX3_dirty 4 = .ok (.ifCond .eq 19, 3) := by decide +kernel
theorem dX3_dirty_7 : decode cX3_dirty 7 = .ok (.aload_n 0, 1) := by decide +kernel
theorem dX3_dirty_8 : decode cX3_dirty 8 = .ok (.getfield 12, 3) := by decide +kernel
theorem dX3_dirty_11 : decode cX3_dirty 11 = .ok (.getfield 108, 3) := by decide +kernel
theorem dX3_dirty_14 : decode cX3_dirty 14 = .ok (.iload_n 1, 1) := by decide +kernel
theorem dX3_dirty_15 : decode cX3_dirty 15 = .ok (.baload, 1) := by decide +kernel
theorem dX3_dirty_16 : decode cX3_dirty 16 = .ok (.ifCond .eq 7, 3) := by decide +kernel
theorem dX3_dirty_19 : decode cX3_dirty 19 = .ok (.iconst 1, 1) := by decide +kernel
theorem dX3_dirty_20 : decode cX3_dirty 20 = .ok (.goto 4, 3) := by decide +kernel
theorem dX3_dirty_23 : decode cX3_dirty 23 = .ok (.iconst 0, 1) := by decide +kernel
theorem dX3_dirty_24 : decode cX3_dirty 24 = .ok (.ireturn, 1) := by decide +kernel
theorem dX3_cores_0 : decode cX3_cores 0 = .ok (.aload_n 0, 1) := by decide +kernel
theorem dX3_cores_1 : decode cX3_cores 1 = .ok (.getfield 18, 3) := by decide +kernel
theorem dX3_cores_4 : decode cX3_cores 4 = .ok (.arraylength, 1) := by decide +kernel
theorem dX3_cores_5 : decode cX3_cores 5 = .ok (.ireturn, 1) := by decide +kernel
theorem dX3_isCore_0 : decode cX3_isCore 0 = .ok (.iload_n 1, 1) := by decide +kernel
theorem dX3_isCore_1 : decode cX3_isCore 1 = .ok (.ifCond .lt 16, 3) := by decide +kernel
theorem dX3_isCore_4 : decode cX3_isCore 4 = .ok (.iload_n 1, 1) := by decide +kernel
theorem dX3_isCore_5 : decode cX3_isCore 5 = .ok (.aload_n 0, 1) := by decide +kernel
theorem dX3_isCore_6 : decode cX3_isCore 6 = .ok (.getfield 18, 3) := by decide +kernel
theorem dX3_isCore_9 : decode cX3_isCore 9 = .ok (.arraylength, 1) := by decide +kernel
theorem dX3_isCore_10 : decode cX3_isCore 10 = .ok (.if_icmp .ge 7, 3) := by decide +kernel
theorem dX3_isCore_13 : decode cX3_isCore 13 = .ok (.iconst 1, 1) := by decide +kernel
theorem dX3_isCore_14 : decode cX3_isCore 14 = .ok (.goto 4, 3) := by decide +kernel
theorem dX3_isCore_17 : decode cX3_isCore 17 = .ok (.iconst 0, 1) := by decide +kernel
theorem dX3_isCore_18 : decode cX3_isCore 18 = .ok (.ireturn, 1) := by decide +kernel
theorem dX3_isEntry_0 : decode cX3_isEntry 0 = .ok (.aload_n 0, 1) := by decide +kernel
theorem dX3_isEntry_1 : decode cX3_isEntry 1 = .ok (.iload_n 1, 1) := by decide +kernel
theorem dX3_isEntry_2 : decode cX3_isEntry 2 = .ok (.invokevirtual 25, 3) := by decide +kernel
theorem dX3_isEntry_5 : decode cX3_isEntry 5 = .ok (.ifCond .eq 27, 3) := by decide +kernel
theorem dX3_isEntry_8 : decode cX3_isEntry 8 = .ok (.iload_n 2, 1) := by decide +kernel
theorem dX3_isEntry_9 : decode cX3_isEntry 9 = .ok (.ifCond .lt 23, 3) := by decide +kernel
theorem dX3_isEntry_12 : decode cX3_isEntry 12 = .ok (.iload_n 2, 1) := by decide +kernel
theorem dX3_isEntry_13 : decode cX3_isEntry 13 = .ok (.aload_n 0, 1) := by decide +kernel
theorem dX3_isEntry_14 : decode cX3_isEntry 14 = .ok (.getfield 18, 3) := by decide +kernel
theorem dX3_isEntry_17 : decode cX3_isEntry 17 = .ok (.iload_n 1, 1) := by decide +kernel
theorem dX3_isEntry_18 : decode cX3_isEntry 18 = .ok (.aaload, 1) := by decide +kernel
theorem dX3_isEntry_19 : decode cX3_isEntry 19 = .ok (.getfield 51, 3) := by decide +kernel
theorem dX3_isEntry_22 : decode cX3_isEntry 22 = .ok (.getfield 64, 3) := by decide +kernel
theorem dX3_isEntry_25 : decode cX3_isEntry 25 = .ok (.if_icmp .ge 7, 3) := by decide +kernel
theorem dX3_isEntry_28 : decode cX3_isEntry 28 = .ok (.iconst 1, 1) := by decide +kernel
theorem dX3_isEntry_29 : decode cX3_isEntry 29 = .ok (.goto 4, 3) := by decide +kernel
theorem dX3_isEntry_32 : decode cX3_isEntry 32 = .ok (.iconst 0, 1) := by decide +kernel
theorem dX3_isEntry_33 : decode cX3_isEntry 33 = .ok (.ireturn, 1) := by decide +kernel
theorem dX3_isPlace_0 : decode cX3_isPlace 0 = .ok (.iload_n 0, 1) := by decide +kernel
theorem dX3_isPlace_1 : decode cX3_isPlace 1 = .ok (.ifCond .lt 13, 3) := by decide +kernel
theorem dX3_isPlace_4 : decode cX3_isPlace 4 = .ok (.iload_n 0, 1) := by decide +kernel
theorem dX3_isPlace_5 : decode cX3_isPlace 5 = .ok (.bipush 24, 2) := by decide +kernel
theorem dX3_isPlace_7 : decode cX3_isPlace 7 = .ok (.if_icmp .ge 7, 3) := by decide +kernel
theorem dX3_isPlace_10 : decode cX3_isPlace 10 = .ok (.iconst 1, 1) := by decide +kernel
theorem dX3_isPlace_11 : decode cX3_isPlace 11 = .ok (.goto 4, 3) := by decide +kernel
theorem dX3_isPlace_14 : decode cX3_isPlace 14 = .ok (.iconst 0, 1) := by decide +kernel
theorem dX3_isPlace_15 : decode cX3_isPlace 15 = .ok (.ireturn, 1) := by decide +kernel
theorem dX3_isRegister_0 : decode cX3_isRegister 0 = .ok (.iload_n 0, 1) := by decide +kernel
theorem dX3_isRegister_1 : decode cX3_isRegister 1 = .ok (.ifCond .lt 12, 3) := by decide +kernel
theorem dX3_isRegister_4 : decode cX3_isRegister 4 = .ok (.iload_n 0, 1) := by decide +kernel
theorem dX3_isRegister_5 : decode cX3_isRegister 5 = .ok (.iconst 4, 1) := by decide +kernel
theorem dX3_isRegister_6 : decode cX3_isRegister 6 = .ok (.if_icmp .ge 7, 3) := by decide +kernel
theorem dX3_isRegister_9 : decode cX3_isRegister 9 = .ok (.iconst 1, 1) := by decide +kernel
theorem dX3_isRegister_10 : decode cX3_isRegister 10 = .ok (.goto 4, 3) := by decide +kernel
theorem dX3_isRegister_13 : decode cX3_isRegister 13 = .ok (.iconst 0, 1) := by decide +kernel
theorem dX3_isRegister_14 : decode cX3_isRegister 14 = .ok (.ireturn, 1) := by decide +kernel
theorem dX3_isWord_0 : decode cX3_isWord 0 = .ok (.iload_n 0, 1) := by decide +kernel
theorem dX3_isWord_1 : decode cX3_isWord 1 = .ok (.ifCond .lt 13, 3) := by decide +kernel
theorem dX3_isWord_4 : decode cX3_isWord 4 = .ok (.iload_n 0, 1) := by decide +kernel
theorem dX3_isWord_5 : decode cX3_isWord 5 = .ok (.bipush 32, 2) := by decide +kernel
theorem dX3_isWord_7 : decode cX3_isWord 7 = .ok (.if_icmp .ge 7, 3) := by decide +kernel
theorem dX3_isWord_10 : decode cX3_isWord 10 = .ok (.iconst 1, 1) := by decide +kernel
theorem dX3_isWord_11 : decode cX3_isWord 11 = .ok (.goto 4, 3) := by decide +kernel
theorem dX3_isWord_14 : decode cX3_isWord 14 = .ok (.iconst 0, 1) := by decide +kernel
theorem dX3_isWord_15 : decode cX3_isWord 15 = .ok (.ireturn, 1) := by decide +kernel
theorem dX3_isLine_0 : decode cX3_isLine 0 = .ok (.iload_n 0, 1) := by decide +kernel
theorem dX3_isLine_1 : decode cX3_isLine 1 = .ok (.ifCond .lt 13, 3) := by decide +kernel
theorem dX3_isLine_4 : decode cX3_isLine 4 = .ok (.iload_n 0, 1) := by decide +kernel
theorem dX3_isLine_5 : decode cX3_isLine 5 = .ok (.bipush 8, 2) := by decide +kernel
theorem dX3_isLine_7 : decode cX3_isLine 7 = .ok (.if_icmp .ge 7, 3) := by decide +kernel
theorem dX3_isLine_10 : decode cX3_isLine 10 = .ok (.iconst 1, 1) := by decide +kernel
theorem dX3_isLine_11 : decode cX3_isLine 11 = .ok (.goto 4, 3) := by decide +kernel
theorem dX3_isLine_14 : decode cX3_isLine 14 = .ok (.iconst 0, 1) := by decide +kernel
theorem dX3_isLine_15 : decode cX3_isLine 15 = .ok (.ireturn, 1) := by decide +kernel
end
section
theorem dX4_append_64 : decode cX4_append 64 = .ok (.getfield 25, 3) := by decide +kernel
theorem dX4_append_67 : decode cX4_append 67 = .ok (.iload_n 1, 1) := by decide +kernel
theorem dX4_append_68 : decode cX4_append 68 = .ok (.dup2, 1) := by decide +kernel
theorem dX4_append_69 : decode cX4_append 69 = .ok (.iaload, 1) := by decide +kernel
theorem dX4_append_70 : decode cX4_append 70 = .ok (.iconst 1, 1) := by decide +kernel
theorem dX4_append_71 : decode cX4_append 71 = .ok (.iadd, 1) := by decide +kernel
theorem dX4_append_72 : decode cX4_append 72 = .ok (.iastore, 1) := by decide +kernel
theorem dX4_append_73 : decode cX4_append 73 = .ok (.iconst 0, 1) := by decide +kernel
theorem dX4_append_74 : decode cX4_append 74 = .ok (.ireturn, 1) := by decide +kernel
theorem dX4_sees_0 : decode cX4_sees 0 = .ok (.aload_n 0, 1) := by decide +kernel
theorem dX4_sees_1 : decode cX4_sees 1 = .ok (.iload_n 1, 1) := by decide +kernel
theorem dX4_sees_2 : decode cX4_sees 2 = .ok (.invokevirtual 62, 3) := by decide +kernel
theorem dX4_sees_5 : decode cX4_sees 5 = .ok (.ifCond .eq 13, 3) := by decide +kernel
theorem dX4_sees_8 : decode cX4_sees 8 = .ok (.iload_n 2, 1) := by decide +kernel
theorem dX4_sees_9 : decode cX4_sees 9 = .ok (.ifCond .lt 9, 3) := by decide +kernel
theorem dX4_sees_12 : decode cX4_sees 12 = .ok (.iload_n 2, 1) := by decide +kernel
theorem dX4_sees_13 : decode cX4_sees 13 = .ok (.bipush 31, 2) := by decide +kernel
theorem dX4_sees_15 : decode cX4_sees 15 = .ok (.if_icmp .le 5, 3) := by decide +kernel
theorem dX4_sees_18 : decode cX4_sees 18 = .ok (.iconst 0, 1) := by decide +kernel
theorem dX4_sees_19 : decode cX4_sees 19 = .ok (.ireturn, 1) := by decide +kernel
theorem dX4_sees_20 : decode cX4_sees 20 = .ok (.aload_n 0, 1) := by decide +kernel
theorem dX4_sees_21 : decode cX4_sees 21 = .ok (.getfield 43, 3) := by decide +kernel
theorem dX4_sees_24 : decode cX4_sees 24 = .ok (.iload_n 2, 1) := by decide +kernel
theorem dX4_sees_25 : decode cX4_sees 25 = .ok (.iaload, 1) := by decide +kernel
theorem dX4_sees_26 : decode cX4_sees 26 = .ok (.istore_n 3, 1) := by decide +kernel
theorem dX4_sees_27 : decode cX4_sees 27 = .ok (.bipush 8, 2) := by decide +kernel
theorem dX4_sees_29 : decode cX4_sees 29 = .ok (.iload_n 1, 1) := by decide +kernel
theorem dX4_sees_30 : decode cX4_sees 30 = .ok (.imul, 1) := by decide +kernel
theorem dX4_sees_31 : decode cX4_sees 31 = .ok (.istore 4, 2) := by decide +kernel
theorem dX4_sees_33 : decode cX4_sees 33 = .ok (.iload 4, 2) := by decide +kernel
theorem dX4_sees_35 : decode cX4_sees 35 = .ok (.bipush 8, 2) := by decide +kernel
theorem dX4_sees_37 : decode cX4_sees 37 = .ok (.iload_n 1, 1) := by decide +kernel
theorem dX4_sees_38 : decode cX4_sees 38 = .ok (.imul, 1) := by decide +kernel
theorem dX4_sees_39 : decode cX4_sees 39 = .ok (.aload_n 0, 1) := by decide +kernel
theorem dX4_sees_40 : decode cX4_sees 40 = .ok (.getfield 31, 3) := by decide +kernel
theorem dX4_sees_43 : decode cX4_sees 43 = .ok (.iload_n 1, 1) := by decide +kernel
theorem dX4_sees_44 : decode cX4_sees 44 = .ok (.iaload, 1) := by decide +kernel
theorem dX4_sees_45 : decode cX4_sees 45 = .ok (.iadd, 1) := by decide +kernel
theorem dX4_sees_46 : decode cX4_sees 46 = .ok (.if_icmp .ge 42, 3) := by decide +kernel
theorem dX4_sees_49 : decode cX4_sees 49 = .ok (.aload_n 0, 1) := by decide +kernel
theorem dX4_sees_50 : decode cX4_sees 50 = .ok (.getfield 34, 3) := by decide +kernel
theorem dX4_sees_53 : decode cX4_sees 53 = .ok (.iload 4, 2) := by decide +kernel
theorem dX4_sees_55 : decode cX4_sees 55 = .ok (.iaload, 1) := by decide +kernel
theorem dX4_sees_56 : decode cX4_sees 56 = .ok (.ifCond .ne 24, 3) := by decide +kernel
theorem dX4_sees_59 : decode cX4_sees 59 = .ok (.aload_n 0, 1) := by decide +kernel
theorem dX4_sees_60 : decode cX4_sees 60 = .ok (.getfield 37, 3) := by decide +kernel
theorem dX4_sees_63 : decode cX4_sees 63 = .ok (.iload 4, 2) := by decide +kernel
theorem dX4_sees_65 : decode cX4_sees 65 = .ok (.iaload, 1) := by decide +kernel
theorem dX4_sees_66 : decode cX4_sees 66 = .ok (.iload_n 2, 1) := by decide +kernel
theorem dX4_sees_67 : decode cX4_sees 67 = .ok (.if_icmp .ne 13, 3) := by decide +kernel
theorem dX4_sees_70 : decode cX4_sees 70 = .ok (.aload_n 0, 1) := by decide +kernel
theorem dX4_sees_71 : decode cX4_sees 71 = .ok (.getfield 40, 3) := by decide +kernel
theorem dX4_sees_74 : decode cX4_sees 74 = .ok (.iload 4, 2) := by decide +kernel
theorem dX4_sees_76 : decode cX4_sees 76 = .ok (.iaload, 1) := by decide +kernel
theorem dX4_sees_77 : decode cX4_sees 77 = .ok (.goto 4, 3) := by decide +kernel
theorem dX4_sees_80 : decode cX4_sees 80 = .ok (.iload_n 3, 1) := by decide +kernel
theorem dX4_sees_81 : decode cX4_sees 81 = .ok (.istore_n 3, 1) := by decide +kernel
theorem dX4_sees_82 : decode cX4_sees 82 = .ok (.iinc 4 1, 3) := by decide +kernel
theorem dX4_sees_85 : decode cX4_sees 85 = .ok (.goto (-52), 3) := by decide +kernel
theorem dX4_sees_88 : decode cX4_sees 88 = .ok (.iload_n 3, 1) := by decide +kernel
theorem dX4_sees_89 : decode cX4_sees 89 = .ok (.ireturn, 1) := by decide +kernel
theorem dX4_step_0 : decode cX4_step 0 = .ok (.aload_n 0, 1) := by decide +kernel
theorem dX4_step_1 : decode cX4_step 1 = .ok (.iload_n 1, 1) := by decide +kernel
theorem dX4_step_2 : decode cX4_step 2 = .ok (.invokevirtual 62, 3) := by decide +kernel
theorem dX4_step_5 : decode cX4_step 5 = .ok (.ifCond .ne 5, 3) := by decide +kernel
theorem dX4_step_8 : decode cX4_step 8 = .ok (.iconst (-1), 1) := by decide +kernel
theorem dX4_step_9 : decode cX4_step 9 = .ok (.ireturn, 1) := by decide +kernel
theorem dX4_step_10 : decode cX4_step 10 = .ok (.bipush 24, 2) := by decide +kernel
theorem dX4_step_12 : decode cX4_step 12 = .ok (.iload_n 1, 1) := by decide +kernel
theorem dX4_step_13 : decode cX4_step 13 = .ok (.imul, 1) := by decide +kernel
theorem dX4_step_14 : decode cX4_step 14 = .ok (.aload_n 0, 1) := by decide +kernel
theorem dX4_step_15 : decode cX4_step 15 = .ok (.getfield 25, 3) := by decide +kernel
theorem dX4_step_18 : decode cX4_step 18 = .ok (.iload_n 1, 1) := by decide +kernel
theorem dX4_step_19 : decode cX4_step 19 = .ok (.iaload, 1) := by decide +kernel
theorem dX4_step_20 : decode cX4_step 20 = .ok (.iadd, 1) := by decide +kernel
theorem dX4_step_21 : decode cX4_step 21 = .ok (.istore_n 2, 1) := by decide +kernel
theorem dX4_step_22 : decode cX4_step 22 = .ok (.aload_n 0, 1) := by decide +kernel
theorem dX4_step_23 : decode cX4_step 23 = .ok (.getfield 25, 3) := by decide +kernel
theorem dX4_step_26 : decode cX4_step 26 = .ok (.iload_n 1, 1) := by decide +kernel
theorem dX4_step_27 : decode cX4_step 27 = .ok (.iaload, 1) := by decide +kernel
theorem dX4_step_28 : decode cX4_step 28 = .ok (.bipush 24, 2) := by decide +kernel
theorem dX4_step_30 : decode cX4_step 30 = .ok (.if_icmp .eq 12, 3) := by decide +kernel
theorem dX4_step_33 : decode cX4_step 33 = .ok (.aload_n 0, 1) := by decide +kernel
theorem dX4_step_34 : decode cX4_step 34 = .ok (.getfield 7, 3) := by decide +kernel
theorem dX4_step_37 : decode cX4_step 37 = .ok (.iload_n 2, 1) := by decide +kernel
theorem dX4_step_38 : decode cX4_step 38 = .ok (.iaload, 1) := by decide +kernel
theorem dX4_step_39 : decode cX4_step 39 = .ok (.ifCond .ne 5, 3) := by decide +kernel
theorem dX4_step_42 : decode cX4_step 42 = .ok (.iconst 2, 1) := by decide +kernel
theorem dX4_step_43 : decode cX4_step 43 = .ok (.ireturn, 1) := by decide +kernel
theorem dX4_step_44 : decode cX4_step 44 = .ok (.iconst 4, 1) := by decide +kernel
theorem dX4_step_45 : decode cX4_step 45 = .ok (.iload_n 1, 1) := by decide +kernel
theorem dX4_step_46 : decode cX4_step 46 = .ok (.imul, 1) := by decide +kernel
theorem dX4_step_47 : decode cX4_step 47 = .ok (.aload_n 0, 1) := by decide +kernel
theorem dX4_step_48 : decode cX4_step 48 = .ok (.getfield 13, 3) := by decide +kernel
theorem dX4_step_51 : decode cX4_step 51 = .ok (.iload_n 2, 1) := by decide +kernel
theorem dX4_step_52 : decode cX4_step 52 = .ok (.iaload, 1) := by decide +kernel
theorem dX4_step_53 : decode cX4_step 53 = .ok (.iadd, 1) := by decide +kernel
theorem dX4_step_54 : decode cX4_step 54 = .ok (.istore_n 3, 1) := by decide +kernel
theorem dX4_step_55 : decode cX4_step 55 = .ok (.aload_n 0, 1) := by decide +kernel
theorem dX4_step_56 : decode cX4_step 56 = .ok (.getfield 22, 3) := by decide +kernel
theorem dX4_step_59 : decode cX4_step 59 = .ok (.iconst 4, 1) := by decide +kernel
theorem dX4_step_60 : decode cX4_step 60 = .ok (.iload_n 1, 1) := by decide +kernel
theorem dX4_step_61 : decode cX4_step 61 = .ok (.imul, 1) := by decide +kernel
theorem dX4_step_62 : decode cX4_step 62 = .ok (.aload_n 0, 1) := by decide +kernel
theorem dX4_step_63 : decode cX4_step 63 = .ok (.getfield 16, 3) := by decide +kernel
theorem dX4_step_66 : decode cX4_step 66 = .ok (.iload_n 2, 1) := by decide +kernel
theorem dX4_step_67 : decode cX4_step 67 = .ok (.iaload, 1) := by decide +kernel
theorem dX4_step_68 : decode cX4_step 68 = .ok (.iadd, 1) := by decide +kernel
theorem dX4_step_69 : decode cX4_step 69 = .ok (.iaload, 1) := by decide +kernel
theorem dX4_step_70 : decode cX4_step 70 = .ok (.istore 4, 2) := by decide +kernel
theorem dX4_step_72 : decode cX4_step 72 = .ok (.aload_n 0, 1) := by decide +kernel
theorem dX4_step_73 : decode cX4_step 73 = .ok (.getfield 19, 3) := by decide +kernel
theorem dX4_step_76 : decode cX4_step 76 = .ok (.iload_n 2, 1) := by decide +kernel
theorem dX4_step_77 : decode cX4_step 77 = .ok (.iaload, 1) := by decide +kernel
theorem dX4_step_78 : decode cX4_step 78 = .ok (.istore 5, 2) := by decide +kernel
theorem dX4_step_80 : decode cX4_step 80 = .ok (.iload 4, 2) := by decide +kernel
theorem dX4_step_82 : decode cX4_step 82 = .ok (.iload 5, 2) := by decide +kernel
theorem dX4_step_84 : decode cX4_step 84 = .ok (.iadd, 1) := by decide +kernel
theorem dX4_step_85 : decode cX4_step 85 = .ok (.bipush 31, 2) := by decide +kernel
theorem dX4_step_87 : decode cX4_step 87 = .ok (.iand, 1) := by decide +kernel
theorem dX4_step_88 : decode cX4_step 88 = .ok (.istore 6, 2) := by decide +kernel
theorem dX4_step_90 : decode cX4_step 90 = .ok (.aload_n 0, 1) := by decide +kernel
theorem dX4_step_91 : decode cX4_step 91 = .ok (.getfield 7, 3) := by decide +kernel
theorem dX4_step_94 : decode cX4_step 94 = .ok (.iload_n 2, 1) := by decide +kernel
theorem dX4_step_95 : decode cX4_step 95 = .ok (.iaload, 1) := by decide +kernel
theorem dX4_step_96 : decode cX4_step 96 = .ok (.tableswitch 103 3 9 #[44, 103, 92, 92, 59, 68, 80], 44) := by decide +kernel
theorem dX4_step_140 : decode cX4_step 140 = .ok (.aload_n 0, 1) := by decide +kernel
theorem dX4_step_141 : decode cX4_step 141 = .ok (.iload_n 1, 1) := by decide +kernel
theorem dX4_step_142 : decode cX4_step 142 = .ok (.iconst 0, 1) := by decide +kernel
theorem dX4_step_143 : decode cX4_step 143 = .ok (.iload 6, 2) := by decide +kernel
theorem dX4_step_145 : decode cX4_step 145 = .ok (.aload_n 0, 1) := by decide +kernel
theorem dX4_step_146 : decode cX4_step 146 = .ok (.getfield 22, 3) := by decide +kernel
theorem dX4_step_149 : decode cX4_step 149 = .ok (.iload_n 3, 1) := by decide +kernel
theorem dX4_step_150 : decode cX4_step 150 = .ok (.iaload, 1) := by decide +kernel
theorem dX4_step_151 : decode cX4_step 151 = .ok (.invokevirtual 88, 3) := by decide +kernel
theorem dX4_step_154 : decode cX4_step 154 = .ok (.ireturn, 1) := by decide +kernel
theorem dX4_step_155 : decode cX4_step 155 = .ok (.aload_n 0, 1) := by decide +kernel
theorem dX4_step_156 : decode cX4_step 156 = .ok (.iload_n 1, 1) := by decide +kernel
theorem dX4_step_157 : decode cX4_step 157 = .ok (.iconst 3, 1) := by decide +kernel
theorem dX4_step_158 : decode cX4_step 158 = .ok (.iconst 0, 1) := by decide +kernel
theorem dX4_step_159 : decode cX4_step 159 = .ok (.iconst 0, 1) := by decide +kernel
theorem dX4_step_160 : decode cX4_step 160 = .ok (.invokevirtual 88, 3) := by decide +kernel
theorem dX4_step_163 : decode cX4_step 163 = .ok (.ireturn, 1) := by decide +kernel
theorem dX4_step_164 : decode cX4_step 164 = .ok (.aload_n 0, 1) := by decide +kernel
theorem dX4_step_165 : decode cX4_step 165 = .ok (.iload_n 1, 1) := by decide +kernel
theorem dX4_step_166 : decode cX4_step 166 = .ok (.iconst 1, 1) := by decide +kernel
theorem dX4_step_167 : decode cX4_step 167 = .ok (.iload 6, 2) := by decide +kernel
theorem dX4_step_169 : decode cX4_step 169 = .ok (.iconst 4, 1) := by decide +kernel
theorem dX4_step_170 : decode cX4_step 170 = .ok (.idiv, 1) := by decide +kernel
theorem dX4_step_171 : decode cX4_step 171 = .ok (.iconst 0, 1) := by decide +kernel
theorem dX4_step_172 : decode cX4_step 172 = .ok (.invokevirtual 88, 3) := by decide +kernel
theorem dX4_step_175 : decode cX4_step 175 = .ok (.ireturn, 1) := by decide +kernel
theorem dX4_step_176 : decode cX4_step 176 = .ok (.aload_n 0, 1) := by decide +kernel
theorem dX4_step_177 : decode cX4_step 177 = .ok (.iload_n 1, 1) := by decide +kernel
theorem dX4_step_178 : decode cX4_step 178 = .ok (.iconst 2, 1) := by decide +kernel
theorem dX4_step_179 : decode cX4_step 179 = .ok (.iload 6, 2) := by decide +kernel
theorem dX4_step_181 : decode cX4_step 181 = .ok (.iconst 4, 1) := by decide +kernel
theorem dX4_step_182 : decode cX4_step 182 = .ok (.idiv, 1) := by decide +kernel
theorem dX4_step_183 : decode cX4_step 183 = .ok (.iconst 0, 1) := by decide +kernel
theorem dX4_step_184 : decode cX4_step 184 = .ok (.invokevirtual 88, 3) := by decide +kernel
theorem dX4_step_187 : decode cX4_step 187 = .ok (.ireturn, 1) := by decide +kernel
theorem dX4_step_188 : decode cX4_step 188 = .ok (.aload_n 0, 1) := by decide +kernel
theorem dX4_step_189 : decode cX4_step 189 = .ok (.getfield 31, 3) := by decide +kernel
theorem dX4_step_192 : decode cX4_step 192 = .ok (.iload_n 1, 1) := by decide +kernel
theorem dX4_step_193 : decode cX4_step 193 = .ok (.iaload, 1) := by decide +kernel
theorem dX4_step_194 : decode cX4_step 194 = .ok (.ifCond .le 5, 3) := by decide +kernel
theorem dX4_step_197 : decode cX4_step 197 = .ok (.iconst 1, 1) := by decide +kernel
theorem dX4_step_198 : decode cX4_step 198 = .ok (.ireturn, 1) := by decide +kernel
theorem dX4_step_199 : decode cX4_step 199 = .ok (.aload_n 0, 1) := by decide +kernel
theorem dX4_step_200 : decode cX4_step 200 = .ok (.getfield 25, 3) := by decide +kernel
theorem dX4_step_203 : decode cX4_step 203 = .ok (.iload_n 1, 1) := by decide +kernel
theorem dX4_step_204 : decode cX4_step 204 = .ok (.dup2, 1) := by decide +kernel
theorem dX4_step_205 : decode cX4_step 205 = .ok (.iaload, 1) := by decide +kernel
theorem dX4_step_206 : decode cX4_step 206 = .ok (.iconst 1, 1) := by decide +kernel
theorem dX4_step_207 : decode cX4_step 207 = .ok (.iadd, 1) := by decide +kernel
theorem dX4_step_208 : decode cX4_step 208 = .ok (.iastore, 1) := by decide +kernel
theorem dX4_step_209 : decode cX4_step 209 = .ok (.aload_n 0, 1) := by decide +kernel
theorem dX4_step_210 : decode cX4_step 210 = .ok (.getfield 7, 3) := by decide +kernel
theorem dX4_step_213 : decode cX4_step 213 = .ok (.iload_n 2, 1) := by decide +kernel
theorem dX4_step_214 : decode cX4_step 214 = .ok (.iaload, 1) := by decide +kernel
theorem dX4_step_215 : decode cX4_step 215 = .ok (.bipush 10, 2) := by decide +kernel
theorem dX4_step_217 : decode cX4_step 217 = .ok (.if_icmp .ne 32, 3) := by decide +kernel
theorem dX4_step_220 : decode cX4_step 220 = .ok (.aload_n 0, 1) := by decide +kernel
theorem dX4_step_221 : decode cX4_step 221 = .ok (.getfield 25, 3) := by decide +kernel
theorem dX4_step_224 : decode cX4_step 224 = .ok (.iload_n 1, 1) := by decide +kernel
theorem dX4_step_225 : decode cX4_step 225 = .ok (.aload_n 0, 1) := by decide +kernel
theorem dX4_step_226 : decode cX4_step 226 = .ok (.getfield 22, 3) := by decide +kernel
theorem dX4_step_229 : decode cX4_step 229 = .ok (.iload_n 3, 1) := by decide +kernel
theorem dX4_step_230 : decode cX4_step 230 = .ok (.iaload, 1) := by decide +kernel
theorem dX4_step_231 : decode cX4_step 231 = .ok (.ifCond .eq 8, 3) := by decide +kernel
theorem dX4_step_234 : decode cX4_step 234 = .ok (.iload 5, 2) := by decide +kernel
theorem dX4_step_236 : decode cX4_step 236 = .ok (.goto 9, 3) := by decide +kernel
theorem dX4_step_239 : decode cX4_step 239 = .ok (.aload_n 0, 1) := by decide +kernel
theorem dX4_step_240 : decode cX4_step 240 = .ok (.getfield 25, 3) := by decide +kernel
theorem dX4_step_243 : decode cX4_step 243 = .ok (.iload_n 1, 1) := by decide +kernel
theorem dX4_step_244 : decode cX4_step 244 = .ok (.iaload, 1) := by decide +kernel
theorem dX4_step_245 : decode cX4_step 245 = .ok (.iastore, 1) := by decide +kernel
theorem dX4_step_246 : decode cX4_step 246 = .ok (.goto 90, 3) := by decide +kernel
theorem dX4_step_249 : decode cX4_step 249 = .ok (.aload_n 0, 1) := by decide +kernel
theorem dX4_step_250 : decode cX4_step 250 = .ok (.getfield 7, 3) := by decide +kernel
theorem dX4_step_253 : decode cX4_step 253 = .ok (.iload_n 2, 1) := by decide +kernel
theorem dX4_step_254 : decode cX4_step 254 = .ok (.iaload, 1) := by decide +kernel
theorem dX4_step_255 : decode cX4_step 255 = .ok (.iconst 5, 1) := by decide +kernel
theorem dX4_step_256 : decode cX4_step 256 = .ok (.if_icmp .ne 19, 3) := by decide +kernel
theorem dX4_step_259 : decode cX4_step 259 = .ok (.aload_n 0, 1) := by decide +kernel
theorem dX4_step_260 : decode cX4_step 260 = .ok (.iload_n 1, 1) := by decide +kernel
theorem dX4_step_261 : decode cX4_step 261 = .ok (.iload 6, 2) := by decide +kernel
theorem dX4_step_263 : decode cX4_step 263 = .ok (.aload_n 0, 1) := by decide +kernel
theorem dX4_step_264 : decode cX4_step 264 = .ok (.getfield 22, 3) := by decide +kernel
theorem dX4_step_267 : decode cX4_step 267 = .ok (.iload_n 3, 1) := by decide +kernel
theorem dX4_step_268 : decode cX4_step 268 = .ok (.iaload, 1) := by decide +kernel
theorem dX4_step_269 : decode cX4_step 269 = .ok (.invokevirtual 92, 3) := by decide +kernel
theorem dX4_step_272 : decode cX4_step 272 = .ok (.goto 64, 3) := by decide +kernel
theorem dX4_step_275 : decode cX4_step 275 = .ok (.aload_n 0, 1) := by decide +kernel
theorem dX4_step_276 : decode cX4_step 276 = .ok (.getfield 7, 3) := by decide +kernel
theorem dX4_step_279 : decode cX4_step 279 = .ok (.iload_n 2, 1) := by decide +kernel
theorem dX4_step_280 : decode cX4_step 280 = .ok (.iaload, 1) := by decide +kernel
theorem dX4_step_281 : decode cX4_step 281 = .ok (.bipush 6, 2) := by decide +kernel
theorem dX4_step_283 : decode cX4_step 283 = .ok (.if_icmp .eq 53, 3) := by decide +kernel
theorem dX4_step_286 : decode cX4_step 286 = .ok (.aload_n 0, 1) := by decide +kernel
theorem dX4_step_287 : decode cX4_step 287 = .ok (.getfield 22, 3) := by decide +kernel
theorem dX4_step_290 : decode cX4_step 290 = .ok (.iload_n 3, 1) := by decide +kernel
theorem dX4_step_291 : decode cX4_step 291 = .ok (.aload_n 0, 1) := by decide +kernel
theorem dX4_step_292 : decode cX4_step 292 = .ok (.getfield 7, 3) := by decide +kernel
theorem dX4_step_295 : decode cX4_step 295 = .ok (.iload_n 2, 1) := by decide +kernel
theorem dX4_step_296 : decode cX4_step 296 = .ok (.iaload, 1) := by decide +kernel
theorem dX4_step_297 : decode cX4_step 297 = .ok (.iconst 1, 1) := by decide +kernel
theorem dX4_step_298 : decode cX4_step 298 = .ok (.if_icmp .ne 8, 3) := by decide +kernel
theorem dX4_step_301 : decode cX4_step 301 = .ok (.iload 5, 2) := by decide +kernel
theorem dX4_step_303 : decode cX4_step 303 = .ok (.goto 32, 3) := by decide +kernel
theorem dX4_step_306 : decode cX4_step 306 = .ok (.aload_n 0, 1) := by decide +kernel
theorem dX4_step_307 : decode cX4_step 307 = .ok (.getfield 7, 3) := by decide +kernel
theorem dX4_step_310 : decode cX4_step 310 = .ok (.iload_n 2, 1) := by decide +kernel
theorem dX4_step_311 : decode cX4_step 311 = .ok (.iaload, 1) := by decide +kernel
theorem dX4_step_312 : decode cX4_step 312 = .ok (.iconst 2, 1) := by decide +kernel
theorem dX4_step_313 : decode cX4_step 313 = .ok (.if_icmp .ne 13, 3) := by decide +kernel
theorem dX4_step_316 : decode cX4_step 316 = .ok (.aload_n 0, 1) := by decide +kernel
theorem dX4_step_317 : decode cX4_step 317 = .ok (.iload_n 1, 1) := by decide +kernel
theorem dX4_step_318 : decode cX4_step 318 = .ok (.iload 6, 2) := by decide +kernel
theorem dX4_step_320 : decode cX4_step 320 = .ok (.invokevirtual 96, 3) := by decide +kernel
theorem dX4_step_323 : decode cX4_step 323 = .ok (.goto 12, 3) := by decide +kernel
theorem dX4_step_326 : decode cX4_step 326 = .ok (.aload_n 0, 1) := by decide +kernel
theorem dX4_step_327 : decode cX4_step 327 = .ok (.getfield 22, 3) := by decide +kernel
theorem dX4_step_330 : decode cX4_step 330 = .ok (.iload_n 3, 1) := by decide +kernel
theorem dX4_step_331 : decode cX4_step 331 = .ok (.iaload, 1) := by decide +kernel
theorem dX4_step_332 : decode cX4_step 332 = .ok (.iload 4, 2) := by decide +kernel
theorem dX4_step_334 : decode cX4_step 334 = .ok (.iadd, 1) := by decide +kernel
theorem dX4_step_335 : decode cX4_step 335 = .ok (.iastore, 1) := by decide +kernel
theorem dX4_step_336 : decode cX4_step 336 = .ok (.iconst 0, 1) := by decide +kernel
theorem dX4_step_337 : decode cX4_step 337 = .ok (.ireturn, 1) := by decide +kernel
theorem dX4_swap_0 : decode cX4_swap 0 = .ok (.aload_n 0, 1) := by decide +kernel
theorem dX4_swap_1 : decode cX4_swap 1 = .ok (.getfield 43, 3) := by decide +kernel
theorem dX4_swap_4 : decode cX4_swap 4 = .ok (.iload_n 2, 1) := by decide +kernel
theorem dX4_swap_5 : decode cX4_swap 5 = .ok (.iaload, 1) := by decide +kernel
theorem dX4_swap_6 : decode cX4_swap 6 = .ok (.aload_n 0, 1) := by decide +kernel
theorem dX4_swap_7 : decode cX4_swap 7 = .ok (.getfield 22, 3) := by decide +kernel
theorem dX4_swap_10 : decode cX4_swap 10 = .ok (.iconst 4, 1) := by decide +kernel
theorem dX4_swap_11 : decode cX4_swap 11 = .ok (.iload_n 1, 1) := by decide +kernel
theorem dX4_swap_12 : decode cX4_swap 12 = .ok (.imul, 1) := by decide +kernel
theorem dX4_swap_13 : decode cX4_swap 13 = .ok (.iaload, 1) := by decide +kernel
theorem dX4_swap_14 : decode cX4_swap 14 = .ok (.if_icmp .ne 12, 3) := by decide +kernel
theorem dX4_swap_17 : decode cX4_swap 17 = .ok (.aload_n 0, 1) := by decide +kernel
theorem dX4_swap_18 : decode cX4_swap 18 = .ok (.iload_n 2, 1) := by decide +kernel
theorem dX4_swap_19 : decode cX4_swap 19 = .ok (.iload_n 3, 1) := by decide +kernel
theorem dX4_swap_20 : decode cX4_swap 20 = .ok (.invokevirtual 81, 3) := by decide +kernel
theorem dX4_swap_23 : decode cX4_swap 23 = .ok (.goto 17, 3) := by decide +kernel
theorem dX4_swap_26 : decode cX4_swap 26 = .ok (.aload_n 0, 1) := by decide +kernel
theorem dX4_swap_27 : decode cX4_swap 27 = .ok (.getfield 22, 3) := by decide +kernel
theorem dX4_swap_30 : decode cX4_swap 30 = .ok (.iconst 4, 1) := by decide +kernel
theorem dX4_swap_31 : decode cX4_swap 31 = .ok (.iload_n 1, 1) := by decide +kernel
theorem dX4_swap_32 : decode cX4_swap 32 = .ok (.imul, 1) := by decide +kernel
theorem dX4_swap_33 : decode cX4_swap 33 = .ok (.aload_n 0, 1) := by decide +kernel
theorem dX4_swap_34 : decode cX4_swap 34 = .ok (.getfield 43, 3) := by decide +kernel
theorem dX4_swap_37 : decode cX4_swap 37 = .ok (.iload_n 2, 1) := by decide +kernel
theorem dX4_swap_38 : decode cX4_swap 38 = .ok (.iaload, 1) := by decide +kernel
theorem dX4_swap_39 : decode cX4_swap 39 = .ok (.iastore, 1) := by decide +kernel
theorem dX4_swap_40 : decode cX4_swap 40 = .ok (.return_, 1) := by decide +kernel
theorem dX4_run_0 : decode cX4_run 0 = .ok (.aload_n 0, 1) := by decide +kernel
theorem dX4_run_1 : decode cX4_run 1 = .ok (.iload_n 1, 1) := by decide +kernel
theorem dX4_run_2 : decode cX4_run 2 = .ok (.invokevirtual 62, 3) := by decide +kernel
theorem dX4_run_5 : decode cX4_run 5 = .ok (.ifCond .eq 13, 3) := by decide +kernel
theorem dX4_run_8 : decode cX4_run 8 = .ok (.iload_n 2, 1) := by decide +kernel
theorem dX4_run_9 : decode cX4_run 9 = .ok (.ifCond .lt 9, 3) := by decide +kernel
theorem dX4_run_12 : decode cX4_run 12 = .ok (.iload_n 2, 1) := by decide +kernel
theorem dX4_run_13 : decode cX4_run 13 = .ok (.bipush 20, 2) := by decide +kernel
theorem dX4_run_15 : decode cX4_run 15 = .ok (.if_icmp .le 5, 3) := by decide +kernel
theorem dX4_run_18 : decode cX4_run 18 = .ok (.iconst (-1), 1) := by decide +kernel
theorem dX4_run_19 : decode cX4_run 19 = .ok (.ireturn, 1) := by decide +kernel
theorem dX4_run_20 : decode cX4_run 20 = .ok (.iconst 0, 1) := by decide +kernel
theorem dX4_run_21 : decode cX4_run 21 = .ok (.istore_n 3, 1) := by decide +kernel
theorem dX4_run_22 : decode cX4_run 22 = .ok (.iload_n 3, 1) := by decide +kernel
theorem dX4_run_23 : decode cX4_run 23 = .ok (.iload_n 2, 1) := by decide +kernel
theorem dX4_run_24 : decode cX4_run 24 = .ok (.if_icmp .ge 17, 3) := by decide +kernel
theorem dX4_run_27 : decode cX4_run 27 = .ok (.aload_n 0, 1) := by decide +kernel
theorem dX4_run_28 : decode cX4_run 28 = .ok (.iload_n 1, 1) := by decide +kernel
theorem dX4_run_29 : decode cX4_run 29 = .ok (.invokevirtual 100, 3) := by decide +kernel
theorem dX4_run_32 : decode cX4_run 32 = .ok (.ifCond .ne 9, 3) := by decide +kernel
theorem dX4_run_35 : decode cX4_run 35 = .ok (.iinc 3 1, 3) := by decide +kernel
theorem dX4_run_38 : decode cX4_run 38 = .ok (.goto (-16), 3) := by decide +kernel
theorem dX4_run_41 : decode cX4_run 41 = .ok (.iload_n 3, 1) := by decide +kernel
theorem dX4_run_42 : decode cX4_run 42 = .ok (.ireturn, 1) := by decide +kernel
theorem dX4_register_0 : decode cX4_register 0 = .ok (.aload_n 0, 1) := by decide +kernel
theorem dX4_register_1 : decode cX4_register 1 = .ok (.iload_n 1, 1) := by decide +kernel
theorem dX4_register_2 : decode cX4_register 2 = .ok (.invokevirtual 62, 3) := by decide +kernel
theorem dX4_register_5 : decode cX4_register 5 = .ok (.ifCond .eq 25, 3) := by decide +kernel
theorem dX4_register_8 : decode cX4_register 8 = .ok (.iload_n 2, 1) := by decide +kernel
theorem dX4_register_9 : decode cX4_register 9 = .ok (.ifCond .lt 21, 3) := by decide +kernel
theorem dX4_register_12 : decode cX4_register 12 = .ok (.iload_n 2, 1) := by decide +kernel
theorem dX4_register_13 : decode cX4_register 13 = .ok (.iconst 3, 1) := by decide +kernel
theorem dX4_register_14 : decode cX4_register 14 = .ok (.if_icmp .gt 16, 3) := by decide +kernel
theorem dX4_register_17 : decode cX4_register 17 = .ok (.aload_n 0, 1) := by decide +kernel
theorem dX4_register_18 : decode cX4_register 18 = .ok (.getfield 22, 3) := by decide +kernel
theorem dX4_register_21 : decode cX4_register 21 = .ok (.iconst 4, 1) := by decide +kernel
theorem dX4_register_22 : decode cX4_register 22 = .ok (.iload_n 1, 1) := by decide +kernel
theorem dX4_register_23 : decode cX4_register 23 = .ok (.imul, 1) := by decide +kernel
theorem dX4_register_24 : decode cX4_register 24 = .ok (.iload_n 2, 1) := by decide +kernel
theorem dX4_register_25 : decode cX4_register 25 = .ok (.iadd, 1) := by decide +kernel
theorem dX4_register_26 : decode cX4_register 26 = .ok (.iaload, 1) := by decide +kernel
theorem dX4_register_27 : decode cX4_register 27 = .ok (.goto 4, 3) := by decide +kernel
theorem dX4_register_30 : decode cX4_register 30 = .ok (.iconst 0, 1) := by decide +kernel
theorem dX4_register_31 : decode cX4_register 31 = .ok (.ireturn, 1) := by decide +kernel
theorem dX4_place_0 : decode cX4_place 0 = .ok (.aload_n 0, 1) := by decide +kernel
theorem dX4_place_1 : decode cX4_place 1 = .ok (.iload_n 1, 1) := by decide +kernel
theorem dX4_place_2 : decode cX4_place 2 = .ok (.invokevirtual 62, 3) := by decide +kernel
theorem dX4_place_5 : decode cX4_place 5 = .ok (.ifCond .eq 12, 3) := by decide +kernel
theorem dX4_place_8 : decode cX4_place 8 = .ok (.aload_n 0, 1) := by decide +kernel
theorem dX4_place_9 : decode cX4_place 9 = .ok (.getfield 25, 3) := by decide +kernel
theorem dX4_place_12 : decode cX4_place 12 = .ok (.iload_n 1, 1) := by decide +kernel
theorem dX4_place_13 : decode cX4_place 13 = .ok (.iaload, 1) := by decide +kernel
theorem dX4_place_14 : decode cX4_place 14 = .ok (.goto 4, 3) := by decide +kernel
theorem dX4_place_17 : decode cX4_place 17 = .ok (.iconst (-1), 1) := by decide +kernel
theorem dX4_place_18 : decode cX4_place 18 = .ok (.ireturn, 1) := by decide +kernel
theorem dX4_pending_0 : decode cX4_pending 0 = .ok (.aload_n 0, 1) := by decide +kernel
theorem dX4_pending_1 : decode cX4_pending 1 = .ok (.iload_n 1, 1) := by decide +kernel
theorem dX4_pending_2 : decode cX4_pending 2 = .ok (.invokevirtual 62, 3) := by decide +kernel
theorem dX4_pending_5 : decode cX4_pending 5 = .ok (.ifCond .eq 12, 3) := by decide +kernel
theorem dX4_pending_8 : decode cX4_pending 8 = .ok (.aload_n 0, 1) := by decide +kernel
theorem dX4_pending_9 : decode cX4_pending 9 = .ok (.getfield 31, 3) := by decide +kernel
theorem dX4_pending_12 : decode cX4_pending 12 = .ok (.iload_n 1, 1) := by decide +kernel
theorem dX4_pending_13 : decode cX4_pending 13 = .ok (.iaload, 1) := by decide +kernel
theorem dX4_pending_14 : decode cX4_pending 14 = .ok (.goto 4, 3) := by decide +kernel
theorem dX4_pending_17 : decode cX4_pending 17 = .ok (.iconst (-1), 1) := by decide +kernel
theorem dX4_pending_18 : decode cX4_pending 18 = .ok (.ireturn, 1) := by decide +kernel
theorem dX4_entry_0 : decode cX4_entry 0 = .ok (.aload_n 0, 1) := by decide +kernel
theorem dX4_entry_1 : decode cX4_entry 1 = .ok (.iload_n 1, 1) := by decide +kernel
theorem dX4_entry_2 : decode cX4_entry 2 = .ok (.invokevirtual 62, 3) := by decide +kernel
theorem dX4_entry_5 : decode cX4_entry 5 = .ok (.ifCond .eq 26, 3) := by decide +kernel
theorem dX4_entry_8 : decode cX4_entry 8 = .ok (.iload_n 2, 1) := by decide +kernel
theorem dX4_entry_9 : decode cX4_entry 9 = .ok (.ifCond .lt 22, 3) := by decide +kernel
theorem dX4_entry_12 : decode cX4_entry 12 = .ok (.iload_n 2, 1) := by decide +kernel
theorem dX4_entry_13 : decode cX4_entry 13 = .ok (.aload_n 0, 1) := by decide +kernel
theorem dX4_entry_14 : decode cX4_entry 14 = .ok (.getfield 31, 3) := by decide +kernel
theorem dX4_entry_17 : decode cX4_entry 17 = .ok (.iload_n 1, 1) := by decide +kernel
theorem dX4_entry_18 : decode cX4_entry 18 = .ok (.iaload, 1) := by decide +kernel
theorem dX4_entry_19 : decode cX4_entry 19 = .ok (.if_icmp .ge 12, 3) := by decide +kernel
theorem dX4_entry_22 : decode cX4_entry 22 = .ok (.iload_n 3, 1) := by decide +kernel
theorem dX4_entry_23 : decode cX4_entry 23 = .ok (.ifCond .lt 8, 3) := by decide +kernel
theorem dX4_entry_26 : decode cX4_entry 26 = .ok (.iload_n 3, 1) := by decide +kernel
theorem dX4_entry_27 : decode cX4_entry 27 = .ok (.iconst 2, 1) := by decide +kernel
theorem dX4_entry_28 : decode cX4_entry 28 = .ok (.if_icmp .le 5, 3) := by decide +kernel
theorem dX4_entry_31 : decode cX4_entry 31 = .ok (.iconst (-1), 1) := by decide +kernel
theorem dX4_entry_32 : decode cX4_entry 32 = .ok (.ireturn, 1) := by decide +kernel
theorem dX4_entry_33 : decode cX4_entry 33 = .ok (.bipush 8, 2) := by decide +kernel
theorem dX4_entry_35 : decode cX4_entry 35 = .ok (.iload_n 1, 1) := by decide +kernel
theorem dX4_entry_36 : decode cX4_entry 36 = .ok (.imul, 1) := by decide +kernel
theorem dX4_entry_37 : decode cX4_entry 37 = .ok (.iload_n 2, 1) := by decide +kernel
theorem dX4_entry_38 : decode cX4_entry 38 = .ok (.iadd, 1) := by decide +kernel
theorem dX4_entry_39 : decode cX4_entry 39 = .ok (.istore 4, 2) := by decide +kernel
theorem dX4_entry_41 : decode cX4_entry 41 = .ok (.iload_n 3, 1) := by decide +kernel
theorem dX4_entry_42 : decode cX4_entry 42 = .ok (.ifCond .ne 13, 3) := by decide +kernel
theorem dX4_entry_45 : decode cX4_entry 45 = .ok (.aload_n 0, 1) := by decide +kernel
theorem dX4_entry_46 : decode cX4_entry 46 = .ok (.getfield 34, 3) := by decide +kernel
theorem dX4_entry_49 : decode cX4_entry 49 = .ok (.iload 4, 2) := by decide +kernel
theorem dX4_entry_51 : decode cX4_entry 51 = .ok (.iaload, 1) := by decide +kernel
theorem dX4_entry_52 : decode cX4_entry 52 = .ok (.goto 25, 3) := by decide +kernel
theorem dX4_entry_55 : decode cX4_entry 55 = .ok (.iload_n 3, 1) := by decide +kernel
theorem dX4_entry_56 : decode cX4_entry 56 = .ok (.iconst 1, 1) := by decide +kernel
theorem dX4_entry_57 : decode cX4_entry 57 = .ok (.if_icmp .ne 13, 3) := by decide +kernel
theorem dX4_entry_60 : decode cX4_entry 60 = .ok (.aload_n 0, 1) := by decide +kernel
theorem dX4_entry_61 : decode cX4_entry 61 = .ok (.getfield 37, 3) := by decide +kernel
theorem dX4_entry_64 : decode cX4_entry 64 = .ok (.iload 4, 2) := by decide +kernel
theorem dX4_entry_66 : decode cX4_entry 66 = .ok (.iaload, 1) := by decide +kernel
theorem dX4_entry_67 : decode cX4_entry 67 = .ok (.goto 10, 3) := by decide +kernel
theorem dX4_entry_70 : decode cX4_entry 70 = .ok (.aload_n 0, 1) := by decide +kernel
theorem dX4_entry_71 : decode cX4_entry 71 = .ok (.getfield 40, 3) := by decide +kernel
theorem dX4_entry_74 : decode cX4_entry 74 = .ok (.iload 4, 2) := by decide +kernel
theorem dX4_entry_76 : decode cX4_entry 76 = .ok (.iaload, 1) := by decide +kernel
theorem dX4_entry_77 : decode cX4_entry 77 = .ok (.ireturn, 1) := by decide +kernel
theorem dX4_memory_0 : decode cX4_memory 0 = .ok (.iload_n 1, 1) := by decide +kernel
theorem dX4_memory_1 : decode cX4_memory 1 = .ok (.ifCond .lt 9, 3) := by decide +kernel
theorem dX4_memory_4 : decode cX4_memory 4 = .ok (.iload_n 1, 1) := by decide +kernel
theorem dX4_memory_5 : decode cX4_memory 5 = .ok (.bipush 31, 2) := by decide +kernel
theorem dX4_memory_7 : decode cX4_memory 7 = .ok (.if_icmp .le 7, 3) := by decide +kernel
theorem dX4_memory_10 : decode cX4_memory 10 = .ok (.iconst 0, 1) := by decide +kernel
theorem dX4_memory_11 : decode cX4_memory 11 = .ok (.goto 9, 3) := by decide +kernel
theorem dX4_memory_14 : decode cX4_memory 14 = .ok (.aload_n 0, 1) := by decide +kernel
theorem dX4_memory_15 : decode cX4_memory 15 = .ok (.getfield 43, 3) := by decide +kernel
theorem dX4_memory_18 : decode cX4_memory 18 = .ok (.iload_n 1, 1) := by decide +kernel
theorem dX4_memory_19 : decode cX4_memory 19 = .ok (.iaload, 1) := by decide +kernel
theorem dX4_memory_20 : decode cX4_memory 20 = .ok (.ireturn, 1) := by decide +kernel
theorem dX4_storage_0 : decode cX4_storage 0 = .ok (.iload_n 1, 1) := by decide +kernel
theorem dX4_storage_1 : decode cX4_storage 1 = .ok (.ifCond .lt 9, 3) := by decide +kernel
theorem dX4_storage_4 : decode cX4_storage 4 = .ok (.iload_n 1, 1) := by decide +kernel
theorem dX4_storage_5 : decode cX4_storage 5 = .ok (.bipush 31, 2) := by decide +kernel
theorem dX4_storage_7 : decode cX4_storage 7 = .ok (.if_icmp .le 7, 3) := by decide +kernel
theorem dX4_storage_10 : decode cX4_storage 10 = .ok (.iconst 0, 1) := by decide +kernel
theorem dX4_storage_11 : decode cX4_storage 11 = .ok (.goto 9, 3) := by decide +kernel
theorem dX4_storage_14 : decode cX4_storage 14 = .ok (.aload_n 0, 1) := by decide +kernel
theorem dX4_storage_15 : decode cX4_storage 15 = .ok (.getfield 46, 3) := by decide +kernel
theorem dX4_storage_18 : decode cX4_storage 18 = .ok (.iload_n 1, 1) := by decide +kernel
theorem dX4_storage_19 : decode cX4_storage 19 = .ok (.iaload, 1) := by decide +kernel
theorem dX4_storage_20 : decode cX4_storage 20 = .ok (.ireturn, 1) := by decide +kernel
theorem dX4_cores_0 : decode cX4_cores 0 = .ok (.aload_n 0, 1) := by decide +kernel
theorem dX4_cores_1 : decode cX4_cores 1 = .ok (.getfield 55, 3) := by decide +kernel
theorem dX4_cores_4 : decode cX4_cores 4 = .ok (.ireturn, 1) := by decide +kernel
end
section
theorem dX4_init_0 : decode cX4_init 0 = .ok (.aload_n 0, 1) := by decide +kernel
theorem dX4_init_1 : decode cX4_init 1 = .ok (.invokespecial 1, 3) := by decide +kernel
theorem dX4_init_4 : decode cX4_init 4 = .ok (.aload_n 0, 1) := by decide +kernel
theorem dX4_init_5 : decode cX4_init 5 = .ok (.bipush 96, 2) := by decide +kernel
theorem dX4_init_7 : decode cX4_init 7 = .ok (.newarray .int, 2) := by decide +kernel
theorem dX4_init_9 : decode cX4_init 9 = .ok (.putfield 7, 3) := by decide +kernel
theorem dX4_init_12 : decode cX4_init 12 = .ok (.aload_n 0, 1) := by decide +kernel
theorem dX4_init_13 : decode cX4_init 13 = .ok (.bipush 96, 2) := by decide +kernel
theorem dX4_init_15 : decode cX4_init 15 = .ok (.newarray .int, 2) := by decide +kernel
theorem dX4_init_17 : decode cX4_init 17 = .ok (.putfield 13, 3) := by decide +kernel
theorem dX4_init_20 : decode cX4_init 20 = .ok (.aload_n 0, 1) := by decide +kernel
theorem dX4_init_21 : decode cX4_init 21 = .ok (.bipush 96, 2) := by decide +kernel
theorem dX4_init_23 : decode cX4_init 23 = .ok (.newarray .int, 2) := by decide +kernel
theorem dX4_init_25 : decode cX4_init 25 = .ok (.putfield 16, 3) := by decide +kernel
theorem dX4_init_28 : decode cX4_init 28 = .ok (.aload_n 0, 1) := by decide +kernel
theorem dX4_init_29 : decode cX4_init 29 = .ok (.bipush 96, 2) := by decide +kernel
theorem dX4_init_31 : decode cX4_init 31 = .ok (.newarray .int, 2) := by decide +kernel
theorem dX4_init_33 : decode cX4_init 33 = .ok (.putfield 19, 3) := by decide +kernel
theorem dX4_init_36 : decode cX4_init 36 = .ok (.aload_n 0, 1) := by decide +kernel
theorem dX4_init_37 : decode cX4_init 37 = .ok (.bipush 16, 2) := by decide +kernel
theorem dX4_init_39 : decode cX4_init 39 = .ok (.newarray .int, 2) := by decide +kernel
theorem dX4_init_41 : decode cX4_init 41 = .ok (.putfield 22, 3) := by decide +kernel
theorem dX4_init_44 : decode cX4_init 44 = .ok (.aload_n 0, 1) := by decide +kernel
theorem dX4_init_45 : decode cX4_init 45 = .ok (.iconst 4, 1) := by decide +kernel
theorem dX4_init_46 : decode cX4_init 46 = .ok (.newarray .int, 2) := by decide +kernel
theorem dX4_init_48 : decode cX4_init 48 = .ok (.putfield 25, 3) := by decide +kernel
theorem dX4_init_51 : decode cX4_init 51 = .ok (.aload_n 0, 1) := by decide +kernel
theorem dX4_init_52 : decode cX4_init 52 = .ok (.iconst 4, 1) := by decide +kernel
theorem dX4_init_53 : decode cX4_init 53 = .ok (.newarray .int, 2) := by decide +kernel
theorem dX4_init_55 : decode cX4_init 55 = .ok (.putfield 28, 3) := by decide +kernel
theorem dX4_init_58 : decode cX4_init 58 = .ok (.aload_n 0, 1) := by decide +kernel
theorem dX4_init_59 : decode cX4_init 59 = .ok (.iconst 4, 1) := by decide +kernel
theorem dX4_init_60 : decode cX4_init 60 = .ok (.newarray .int, 2) := by decide +kernel
theorem dX4_init_62 : decode cX4_init 62 = .ok (.putfield 31, 3) := by decide +kernel
theorem dX4_init_65 : decode cX4_init 65 = .ok (.aload_n 0, 1) := by decide +kernel
theorem dX4_init_66 : decode cX4_init 66 = .ok (.bipush 32, 2) := by decide +kernel
theorem dX4_init_68 : decode cX4_init 68 = .ok (.newarray .int, 2) := by decide +kernel
theorem dX4_init_70 : decode cX4_init 70 = .ok (.putfield 34, 3) := by decide +kernel
theorem dX4_init_73 : decode cX4_init 73 = .ok (.aload_n 0, 1) := by decide +kernel
theorem dX4_init_74 : decode cX4_init 74 = .ok (.bipush 32, 2) := by decide +kernel
theorem dX4_init_76 : decode cX4_init 76 = .ok (.newarray .int, 2) := by decide +kernel
theorem dX4_init_78 : decode cX4_init 78 = .ok (.putfield 37, 3) := by decide +kernel
theorem dX4_init_81 : decode cX4_init 81 = .ok (.aload_n 0, 1) := by decide +kernel
theorem dX4_init_82 : decode cX4_init 82 = .ok (.bipush 32, 2) := by decide +kernel
theorem dX4_init_84 : decode cX4_init 84 = .ok (.newarray .int, 2) := by decide +kernel
theorem dX4_init_86 : decode cX4_init 86 = .ok (.putfield 40, 3) := by decide +kernel
theorem dX4_init_89 : decode cX4_init 89 = .ok (.aload_n 0, 1) := by decide +kernel
theorem dX4_init_90 : decode cX4_init 90 = .ok (.bipush 32, 2) := by decide +kernel
theorem dX4_init_92 : decode cX4_init 92 = .ok (.newarray .int, 2) := by decide +kernel
theorem dX4_init_94 : decode cX4_init 94 = .ok (.putfield 43, 3) := by decide +kernel
theorem dX4_init_97 : decode cX4_init 97 = .ok (.aload_n 0, 1) := by decide +kernel
theorem dX4_init_98 : decode cX4_init 98 = .ok (.bipush 32, 2) := by decide +kernel
theorem dX4_init_100 : decode cX4_init 100 = .ok (.newarray .int, 2) := by decide +kernel
theorem dX4_init_102 : decode cX4_init 102 = .ok (.putfield 46, 3) := by decide +kernel
theorem dX4_init_105 : decode cX4_init 105 = .ok (.aload_n 0, 1) := by decide +kernel
theorem dX4_init_106 : decode cX4_init 106 = .ok (.bipush 32, 2) := by decide +kernel
theorem dX4_init_108 : decode cX4_init 108 = .ok (.newarray .int, 2) := by decide +kernel
theorem dX4_init_110 : decode cX4_init 110 = .ok (.putfield 49, 3) := by decide +kernel
theorem dX4_init_113 : decode cX4_init 113 = .ok (.aload_n 0, 1) := by decide +kernel
theorem dX4_init_114 : decode cX4_init 114 = .ok (.bipush 8, 2) := by decide +kernel
theorem dX4_init_116 : decode cX4_init 116 = .ok (.newarray .int, 2) := by decide +kernel
theorem dX4_init_118 : decode cX4_init 118 = .ok (.putfield 52, 3) := by decide +kernel
theorem dX4_init_121 : decode cX4_init 121 = .ok (.aload_n 0, 1) := by decide +kernel
theorem dX4_init_122 : decode cX4_init 122 = .ok (.iload_n 1, 1) := by decide +kernel
theorem dX4_init_123 : decode cX4_init 123 = .ok (.iconst 2, 1) := by decide +kernel
theorem dX4_init_124 : decode cX4_init 124 = .ok (.if_icmp .lt 12, 3) := by decide +kernel
theorem dX4_init_127 : decode cX4_init 127 = .ok (.iload_n 1, 1) := by decide +kernel
theorem dX4_init_128 : decode cX4_init 128 = .ok (.iconst 4, 1) := by decide +kernel
theorem dX4_init_129 : decode cX4_init 129 = .ok (.if_icmp .gt 7, 3) := by decide +kernel
theorem dX4_init_132 : decode cX4_init 132 = .ok (.iload_n 1, 1) := by decide +kernel
theorem dX4_init_133 : decode cX4_init 133 = .ok (.goto 4, 3) := by decide +kernel
theorem dX4_init_136 : decode cX4_init 136 = .ok (.iconst 2, 1) := by decide +kernel
theorem dX4_init_137 : decode cX4_init 137 = .ok (.putfield 55, 3) := by decide +kernel
theorem dX4_init_140 : decode cX4_init 140 = .ok (.aload_n 0, 1) := by decide +kernel
theorem dX4_init_141 : decode cX4_init 141 = .ok (.iload_n 2, 1) := by decide +kernel
theorem dX4_init_142 : decode cX4_init 142 = .ok (.iconst 1, 1) := by decide +kernel
theorem dX4_init_143 : decode cX4_init 143 = .ok (.if_icmp .lt 13, 3) := by decide +kernel
theorem dX4_init_146 : decode cX4_init 146 = .ok (.iload_n 2, 1) := by decide +kernel
theorem dX4_init_147 : decode cX4_init 147 = .ok (.bipush 8, 2) := by decide +kernel
theorem dX4_init_149 : decode cX4_init 149 = .ok (.if_icmp .gt 7, 3) := by decide +kernel
theorem dX4_init_152 : decode cX4_init 152 = .ok (.iload_n 2, 1) := by decide +kernel
theorem dX4_init_153 : decode cX4_init 153 = .ok (.goto 4, 3) := by decide +kernel
theorem dX4_init_156 : decode cX4_init 156 = .ok (.iconst 4, 1) := by decide +kernel
theorem dX4_init_157 : decode cX4_init 157 = .ok (.putfield 59, 3) := by decide +kernel
theorem dX4_init_160 : decode cX4_init 160 = .ok (.return_, 1) := by decide +kernel
theorem dX4_isCore_0 : decode cX4_isCore 0 = .ok (.iload_n 1, 1) := by decide +kernel
theorem dX4_isCore_1 : decode cX4_isCore 1 = .ok (.ifCond .lt 15, 3) := by decide +kernel
theorem dX4_isCore_4 : decode cX4_isCore 4 = .ok (.iload_n 1, 1) := by decide +kernel
theorem dX4_isCore_5 : decode cX4_isCore 5 = .ok (.aload_n 0, 1) := by decide +kernel
theorem dX4_isCore_6 : decode cX4_isCore 6 = .ok (.getfield 55, 3) := by decide +kernel
theorem dX4_isCore_9 : decode cX4_isCore 9 = .ok (.if_icmp .ge 7, 3) := by decide +kernel
theorem dX4_isCore_12 : decode cX4_isCore 12 = .ok (.iconst 1, 1) := by decide +kernel
theorem dX4_isCore_13 : decode cX4_isCore 13 = .ok (.goto 4, 3) := by decide +kernel
theorem dX4_isCore_16 : decode cX4_isCore 16 = .ok (.iconst 0, 1) := by decide +kernel
theorem dX4_isCore_17 : decode cX4_isCore 17 = .ok (.ireturn, 1) := by decide +kernel
theorem dX4_put_0 : decode cX4_put 0 = .ok (.aload_n 0, 1) := by decide +kernel
theorem dX4_put_1 : decode cX4_put 1 = .ok (.iload_n 1, 1) := by decide +kernel
theorem dX4_put_2 : decode cX4_put 2 = .ok (.invokevirtual 62, 3) := by decide +kernel
theorem dX4_put_5 : decode cX4_put 5 = .ok (.ifCond .eq 27, 3) := by decide +kernel
theorem dX4_put_8 : decode cX4_put 8 = .ok (.iload_n 2, 1) := by decide +kernel
theorem dX4_put_9 : decode cX4_put 9 = .ok (.ifCond .lt 23, 3) := by decide +kernel
theorem dX4_put_12 : decode cX4_put 12 = .ok (.iload_n 2, 1) := by decide +kernel
theorem dX4_put_13 : decode cX4_put 13 = .ok (.bipush 23, 2) := by decide +kernel
theorem dX4_put_15 : decode cX4_put 15 = .ok (.if_icmp .gt 17, 3) := by decide +kernel
theorem dX4_put_18 : decode cX4_put 18 = .ok (.iload_n 3, 1) := by decide +kernel
theorem dX4_put_19 : decode cX4_put 19 = .ok (.ifCond .lt 13, 3) := by decide +kernel
theorem dX4_put_22 : decode cX4_put 22 = .ok (.iload_n 3, 1) := by decide +kernel
theorem dX4_put_23 : decode cX4_put 23 = .ok (.bipush 10, 2) := by decide +kernel
theorem dX4_put_25 : decode cX4_put 25 = .ok (.if_icmp .gt 7, 3) := by decide +kernel
theorem dX4_put_28 : decode cX4_put 28 = .ok (.iconst 1, 1) := by decide +kernel
theorem dX4_put_29 : decode cX4_put 29 = .ok (.goto 4, 3) := by decide +kernel
theorem dX4_put_32 : decode cX4_put 32 = .ok (.iconst 0, 1) := by decide +kernel
theorem dX4_put_33 : decode cX4_put 33 = .ok (.istore 7, 2) := by decide +kernel
theorem dX4_put_35 : decode cX4_put 35 = .ok (.iload 7, 2) := by decide +kernel
theorem dX4_put_37 : decode cX4_put 37 = .ok (.ifCond .eq 43, 3) := by decide +kernel
theorem dX4_put_40 : decode cX4_put 40 = .ok (.iload 4, 2) := by decide +kernel
theorem dX4_put_42 : decode cX4_put 42 = .ok (.ifCond .lt 38, 3) := by decide +kernel
theorem dX4_put_45 : decode cX4_put 45 = .ok (.iload 4, 2) := by decide +kernel
theorem dX4_put_47 : decode cX4_put 47 = .ok (.iconst 3, 1) := by decide +kernel
theorem dX4_put_48 : decode cX4_put 48 = .ok (.if_icmp .gt 32, 3) := by decide +kernel
theorem dX4_put_51 : decode cX4_put 51 = .ok (.iload 5, 2) := by decide +kernel
theorem dX4_put_53 : decode cX4_put 53 = .ok (.ifCond .lt 27, 3) := by decide +kernel
theorem dX4_put_56 : decode cX4_put 56 = .ok (.iload 5, 2) := by decide +kernel
theorem dX4_put_58 : decode cX4_put 58 = .ok (.iconst 3, 1) := by decide +kernel
theorem dX4_put_59 : decode cX4_put 59 = .ok (.if_icmp .gt 21, 3) := by decide +kernel
theorem dX4_put_62 : decode cX4_put 62 = .ok (.iload_n 3, 1) := by decide +kernel
theorem dX4_put_63 : decode cX4_put 63 = .ok (.bipush 10, 2) := by decide +kernel
theorem dX4_put_65 : decode cX4_put 65 = .ok (.if_icmp .ne 17, 3) := by decide +kernel
theorem dX4_put_68 : decode cX4_put 68 = .ok (.iload 6, 2) := by decide +kernel
theorem dX4_put_70 : decode cX4_put 70 = .ok (.ifCond .lt 10, 3) := by decide +kernel
theorem dX4_put_73 : decode cX4_put 73 = .ok (.iload 6, 2) := by decide +kernel
theorem dX4_put_75 : decode cX4_put 75 = .ok (.bipush 23, 2) := by decide +kernel
theorem dX4_put_77 : decode cX4_put 77 = .ok (.if_icmp .le 5, 3) := by decide +kernel
theorem dX4_put_80 : decode cX4_put 80 = .ok (.iconst 0, 1) := by decide +kernel
theorem dX4_put_81 : decode cX4_put 81 = .ok (.ireturn, 1) := by decide +kernel
theorem dX4_put_82 : decode cX4_put 82 = .ok (.aload_n 0, 1) := by decide +kernel
theorem dX4_put_83 : decode cX4_put 83 = .ok (.getfield 7, 3) := by decide +kernel
theorem dX4_put_86 : decode cX4_put 86 = .ok (.bipush 24, 2) := by decide +kernel
theorem dX4_put_88 : decode cX4_put 88 = .ok (.iload_n 1, 1) := by decide +kernel
theorem dX4_put_89 : decode cX4_put 89 = .ok (.imul, 1) := by decide +kernel
theorem dX4_put_90 : decode cX4_put 90 = .ok (.iload_n 2, 1) := by decide +kernel
theorem dX4_put_91 : decode cX4_put 91 = .ok (.iadd, 1) := by decide +kernel
theorem dX4_put_92 : decode cX4_put 92 = .ok (.iload_n 3, 1) := by decide +kernel
theorem dX4_put_93 : decode cX4_put 93 = .ok (.iastore, 1) := by decide +kernel
theorem dX4_put_94 : decode cX4_put 94 = .ok (.aload_n 0, 1) := by decide +kernel
theorem dX4_put_95 : decode cX4_put 95 = .ok (.getfield 13, 3) := by decide +kernel
theorem dX4_put_98 : decode cX4_put 98 = .ok (.bipush 24, 2) := by decide +kernel
theorem dX4_put_100 : decode cX4_put 100 = .ok (.iload_n 1, 1) := by decide +kernel
theorem dX4_put_101 : decode cX4_put 101 = .ok (.imul, 1) := by decide +kernel
theorem dX4_put_102 : decode cX4_put 102 = .ok (.iload_n 2, 1) := by decide +kernel
theorem dX4_put_103 : decode cX4_put 103 = .ok (.iadd, 1) := by decide +kernel
theorem dX4_put_104 : decode cX4_put 104 = .ok (.iload 4, 2) := by decide +kernel
theorem dX4_put_106 : decode cX4_put 106 = .ok (.iastore, 1) := by decide +kernel
theorem dX4_put_107 : decode cX4_put 107 = .ok (.aload_n 0, 1) := by decide +kernel
theorem dX4_put_108 : decode cX4_put 108 = .ok (.getfield 16, 3) := by decide +kernel
theorem dX4_put_111 : decode cX4_put 111 = .ok (.bipush 24, 2) := by decide +kernel
theorem dX4_put_113 : decode cX4_put 113 = .ok (.iload_n 1, 1) := by decide +kernel
theorem dX4_put_114 : decode cX4_put 114 = .ok (.imul, 1) := by decide +kernel
theorem dX4_put_115 : decode cX4_put 115 = .ok (.iload_n 2, 1) := by decide +kernel
theorem dX4_put_116 : decode cX4_put 116 = .ok (.iadd, 1) := by decide +kernel
theorem dX4_put_117 : decode cX4_put 117 = .ok (.iload 5, 2) := by decide +kernel
theorem dX4_put_119 : decode cX4_put 119 = .ok (.iastore, 1) := by decide +kernel
theorem dX4_put_120 : decode cX4_put 120 = .ok (.aload_n 0, 1) := by decide +kernel
theorem dX4_put_121 : decode cX4_put 121 = .ok (.getfield 19, 3) := by decide +kernel
theorem dX4_put_124 : decode cX4_put 124 = .ok (.bipush 24, 2) := by decide +kernel
theorem dX4_put_126 : decode cX4_put 126 = .ok (.iload_n 1, 1) := by decide +kernel
theorem dX4_put_127 : decode cX4_put 127 = .ok (.imul, 1) := by decide +kernel
theorem dX4_put_128 : decode cX4_put 128 = .ok (.iload_n 2, 1) := by decide +kernel
theorem dX4_put_129 : decode cX4_put 129 = .ok (.iadd, 1) := by decide +kernel
theorem dX4_put_130 : decode cX4_put 130 = .ok (.iload 6, 2) := by decide +kernel
theorem dX4_put_132 : decode cX4_put 132 = .ok (.iastore, 1) := by decide +kernel
theorem dX4_put_133 : decode cX4_put 133 = .ok (.iconst 1, 1) := by decide +kernel
theorem dX4_put_134 : decode cX4_put 134 = .ok (.ireturn, 1) := by decide +kernel
theorem dX4_recovery_0 : decode cX4_recovery 0 = .ok (.aload_n 0, 1) := by decide +kernel
theorem dX4_recovery_1 : decode cX4_recovery 1 = .ok (.iload_n 1, 1) := by decide +kernel
theorem dX4_recovery_2 : decode cX4_recovery 2 = .ok (.invokevirtual 62, 3) := by decide +kernel
theorem dX4_recovery_5 : decode cX4_recovery 5 = .ok (.ifCond .eq 13, 3) := by decide +kernel
theorem dX4_recovery_8 : decode cX4_recovery 8 = .ok (.iload_n 2, 1) := by decide +kernel
theorem dX4_recovery_9 : decode cX4_recovery 9 = .ok (.ifCond .lt 9, 3) := by decide +kernel
theorem dX4_recovery_12 : decode cX4_recovery 12 = .ok (.iload_n 2, 1) := by decide +kernel
theorem dX4_recovery_13 : decode cX4_recovery 13 = .ok (.bipush 23, 2) := by decide +kernel
theorem dX4_recovery_15 : decode cX4_recovery 15 = .ok (.if_icmp .le 5, 3) := by decide +kernel
theorem dX4_recovery_18 : decode cX4_recovery 18 = .ok (.iconst 0, 1) := by decide +kernel
theorem dX4_recovery_19 : decode cX4_recovery 19 = .ok (.ireturn, 1) := by decide +kernel
theorem dX4_recovery_20 : decode cX4_recovery 20 = .ok (.aload_n 0, 1) := by decide +kernel
theorem dX4_recovery_21 : decode cX4_recovery 21 = .ok (.getfield 28, 3) := by decide +kernel
theorem dX4_recovery_24 : decode cX4_recovery 24 = .ok (.iload_n 1, 1) := by decide +kernel
theorem dX4_recovery_25 : decode cX4_recovery 25 = .ok (.iload_n 2, 1) := by decide +kernel
theorem dX4_recovery_26 : decode cX4_recovery 26 = .ok (.iastore, 1) := by decide +kernel
theorem dX4_recovery_27 : decode cX4_recovery 27 = .ok (.iconst 1, 1) := by decide +kernel
theorem dX4_recovery_28 : decode cX4_recovery 28 = .ok (.ireturn, 1) := by decide +kernel
theorem dX4_store_0 : decode cX4_store 0 = .ok (.aload_n 0, 1) := by decide +kernel
theorem dX4_store_1 : decode cX4_store 1 = .ok (.getfield 43, 3) := by decide +kernel
theorem dX4_store_4 : decode cX4_store 4 = .ok (.iload_n 1, 1) := by decide +kernel
theorem dX4_store_5 : decode cX4_store 5 = .ok (.iload_n 2, 1) := by decide +kernel
theorem dX4_store_6 : decode cX4_store 6 = .ok (.iastore, 1) := by decide +kernel
theorem dX4_store_7 : decode cX4_store 7 = .ok (.aload_n 0, 1) := by decide +kernel
theorem dX4_store_8 : decode cX4_store 8 = .ok (.dup, 1) := by decide +kernel
theorem dX4_store_9 : decode cX4_store 9 = .ok (.getfield 66, 3) := by decide +kernel
theorem dX4_store_12 : decode cX4_store 12 = .ok (.iconst 1, 1) := by decide +kernel
theorem dX4_store_13 : decode cX4_store 13 = .ok (.iadd, 1) := by decide +kernel
theorem dX4_store_14 : decode cX4_store 14 = .ok (.putfield 66, 3) := by decide +kernel
theorem dX4_store_17 : decode cX4_store 17 = .ok (.aload_n 0, 1) := by decide +kernel
theorem dX4_store_18 : decode cX4_store 18 = .ok (.getfield 49, 3) := by decide +kernel
theorem dX4_store_21 : decode cX4_store 21 = .ok (.iload_n 1, 1) := by decide +kernel
theorem dX4_store_22 : decode cX4_store 22 = .ok (.aload_n 0, 1) := by decide +kernel
theorem dX4_store_23 : decode cX4_store 23 = .ok (.getfield 66, 3) := by decide +kernel
theorem dX4_store_26 : decode cX4_store 26 = .ok (.iastore, 1) := by decide +kernel
theorem dX4_store_27 : decode cX4_store 27 = .ok (.return_, 1) := by decide +kernel
theorem dX4_writeBack_0 : decode cX4_writeBack 0 = .ok (.iconst 4, 1) := by decide +kernel
theorem dX4_writeBack_1 : decode cX4_writeBack 1 = .ok (.iload_n 1, 1) := by decide +kernel
theorem dX4_writeBack_2 : decode cX4_writeBack 2 = .ok (.imul, 1) := by decide +kernel
theorem dX4_writeBack_3 : decode cX4_writeBack 3 = .ok (.istore_n 2, 1) := by decide +kernel
theorem dX4_writeBack_4 : decode cX4_writeBack 4 = .ok (.iload_n 2, 1) := by decide +kernel
theorem dX4_writeBack_5 : decode cX4_writeBack 5 = .ok (.iconst 4, 1) := by decide +kernel
theorem dX4_writeBack_6 : decode cX4_writeBack 6 = .ok (.iload_n 1, 1) := by decide +kernel
theorem dX4_writeBack_7 : decode cX4_writeBack 7 = .ok (.imul, 1) := by decide +kernel
theorem dX4_writeBack_8 : decode cX4_writeBack 8 = .ok (.iconst 4, 1) := by decide +kernel
theorem dX4_writeBack_9 : decode cX4_writeBack 9 = .ok (.iadd, 1) := by decide +kernel
theorem dX4_writeBack_10 : decode cX4_writeBack 10 = .ok (.if_icmp .ge 21, 3) := by decide +kernel
theorem dX4_writeBack_13 : decode cX4_writeBack 13 = .ok (.aload_n 0, 1) := by decide +kernel
theorem dX4_writeBack_14 : decode cX4_writeBack 14 = .ok (.getfield 46, 3) := by decide +kernel
theorem dX4_writeBack_17 : decode cX4_writeBack 17 = .ok (.iload_n 2, 1) := by decide +kernel
theorem dX4_writeBack_18 : decode cX4_writeBack 18 = .ok (.aload_n 0, 1) := by decide +kernel
theorem dX4_writeBack_19 : decode cX4_writeBack 19 = .ok (.getfield 43, 3) := by decide +kernel
theorem dX4_writeBack_22 : decode cX4_writeBack 22 = .ok (.iload_n 2, 1) := by decide +kernel
theorem dX4_writeBack_23 : decode cX4_writeBack 23 = .ok (.iaload, 1) := by decide +kernel
theorem dX4_writeBack_24 : decode cX4_writeBack 24 = .ok (.iastore, 1) := by decide +kernel
theorem dX4_writeBack_25 : decode cX4_writeBack 25 = .ok (.iinc 2 1, 3) := by decide +kernel
theorem dX4_writeBack_28 : decode cX4_writeBack 28 = .ok (.goto (-24), 3) := by decide +kernel
theorem dX4_writeBack_31 : decode cX4_writeBack 31 = .ok (.aload_n 0, 1) := by decide +kernel
theorem dX4_writeBack_32 : decode cX4_writeBack 32 = .ok (.dup, 1) := by decide +kernel
theorem dX4_writeBack_33 : decode cX4_writeBack 33 = .ok (.getfield 66, 3) := by decide +kernel
theorem dX4_writeBack_36 : decode cX4_writeBack 36 = .ok (.iconst 1, 1) := by decide +kernel
theorem dX4_writeBack_37 : decode cX4_writeBack 37 = .ok (.iadd, 1) := by decide +kernel
theorem dX4_writeBack_38 : decode cX4_writeBack 38 = .ok (.putfield 66, 3) := by decide +kernel
theorem dX4_writeBack_41 : decode cX4_writeBack 41 = .ok (.aload_n 0, 1) := by decide +kernel
theorem dX4_writeBack_42 : decode cX4_writeBack 42 = .ok (.getfield 52, 3) := by decide +kernel
theorem dX4_writeBack_45 : decode cX4_writeBack 45 = .ok (.iload_n 1, 1) := by decide +kernel
theorem dX4_writeBack_46 : decode cX4_writeBack 46 = .ok (.aload_n 0, 1) := by decide +kernel
theorem dX4_writeBack_47 : decode cX4_writeBack 47 = .ok (.getfield 66, 3) := by decide +kernel
theorem dX4_writeBack_50 : decode cX4_writeBack 50 = .ok (.iastore, 1) := by decide +kernel
theorem dX4_writeBack_51 : decode cX4_writeBack 51 = .ok (.return_, 1) := by decide +kernel
theorem dX4_evict_0 : decode cX4_evict 0 = .ok (.iload_n 1, 1) := by decide +kernel
theorem dX4_evict_1 : decode cX4_evict 1 = .ok (.ifCond .lt 9, 3) := by decide +kernel
theorem dX4_evict_4 : decode cX4_evict 4 = .ok (.iload_n 1, 1) := by decide +kernel
theorem dX4_evict_5 : decode cX4_evict 5 = .ok (.bipush 7, 2) := by decide +kernel
theorem dX4_evict_7 : decode cX4_evict 7 = .ok (.if_icmp .le 5, 3) := by decide +kernel
theorem dX4_evict_10 : decode cX4_evict 10 = .ok (.iconst 0, 1) := by decide +kernel
theorem dX4_evict_11 : decode cX4_evict 11 = .ok (.ireturn, 1) := by decide +kernel
theorem dX4_evict_12 : decode cX4_evict 12 = .ok (.aload_n 0, 1) := by decide +kernel
theorem dX4_evict_13 : decode cX4_evict 13 = .ok (.iload_n 1, 1) := by decide +kernel
theorem dX4_evict_14 : decode cX4_evict 14 = .ok (.invokevirtual 69, 3) := by decide +kernel
theorem dX4_evict_17 : decode cX4_evict 17 = .ok (.iconst 1, 1) := by decide +kernel
theorem dX4_evict_18 : decode cX4_evict 18 = .ok (.ireturn, 1) := by decide +kernel
theorem dX4_dirty_0 : decode cX4_dirty 0 = .ok (.iload_n 1, 1) := by decide +kernel
theorem dX4_dirty_1 : decode cX4_dirty 1 = .ok (.ifCond .lt 9, 3) := by decide +kernel
theorem dX4_dirty_4 : decode cX4_dirty 4 = .ok (.iload_n 1, 1) := by decide +kernel
theorem dX4_dirty_5 : decode cX4_dirty 5 = .ok (.bipush 7, 2) := by decide +kernel
theorem dX4_dirty_7 : decode cX4_dirty 7 = .ok (.if_icmp .le 5, 3) := by decide +kernel
theorem dX4_dirty_10 : decode cX4_dirty 10 = .ok (.iconst 0, 1) := by decide +kernel
theorem dX4_dirty_11 : decode cX4_dirty 11 = .ok (.ireturn, 1) := by decide +kernel
theorem dX4_dirty_12 : decode cX4_dirty 12 = .ok (.iconst 0, 1) := by decide +kernel
theorem dX4_dirty_13 : decode cX4_dirty 13 = .ok (.istore_n 2, 1) := by decide +kernel
theorem dX4_dirty_14 : decode cX4_dirty 14 = .ok (.iconst 4, 1) := by decide +kernel
theorem dX4_dirty_15 : decode cX4_dirty 15 = .ok (.iload_n 1, 1) := by decide +kernel
theorem dX4_dirty_16 : decode cX4_dirty 16 = .ok (.imul, 1) := by decide +kernel
theorem dX4_dirty_17 : decode cX4_dirty 17 = .ok (.istore_n 3, 1) := by decide +kernel
theorem dX4_dirty_18 : decode cX4_dirty 18 = .ok (.iload_n 3, 1) := by decide +kernel
theorem dX4_dirty_19 : decode cX4_dirty 19 = .ok (.iconst 4, 1) := by decide +kernel
theorem dX4_dirty_20 : decode cX4_dirty 20 = .ok (.iload_n 1, 1) := by decide +kernel
theorem dX4_dirty_21 : decode cX4_dirty 21 = .ok (.imul, 1) := by decide +kernel
theorem dX4_dirty_22 : decode cX4_dirty 22 = .ok (.iconst 4, 1) := by decide +kernel
theorem dX4_dirty_23 : decode cX4_dirty 23 = .ok (.iadd, 1) := by decide +kernel
theorem dX4_dirty_24 : decode cX4_dirty 24 = .ok (.if_icmp .ge 34, 3) := by decide +kernel
theorem dX4_dirty_27 : decode cX4_dirty 27 = .ok (.iload_n 2, 1) := by decide +kernel
theorem dX4_dirty_28 : decode cX4_dirty 28 = .ok (.ifCond .ne 18, 3) := by decide +kernel
theorem dX4_dirty_31 : decode cX4_dirty 31 = .ok (.aload_n 0, 1) := by decide +kernel
theorem dX4_dirty_32 : decode cX4_dirty 32 = .ok (.getfield 49, 3) := by decide +kernel
theorem dX4_dirty_35 : decode cX4_dirty 35 = .ok (.iload_n 3, 1) := by decide +kernel
theorem dX4_dirty_36 : decode cX4_dirty 36 = .ok (.iaload, 1) := by decide +kernel
theorem dX4_dirty_37 : decode cX4_dirty 37 = .ok (.aload_n 0, 1) := by decide +kernel
theorem dX4_dirty_38 : decode cX4_dirty 38 = .ok (.getfield 52, 3) := by decide +kernel
theorem dX4_dirty_41 : decode cX4_dirty 41 = .ok (.iload_n 1, 1) := by decide +kernel
theorem dX4_dirty_42 : decode cX4_dirty 42 = .ok (.iaload, 1) := by decide +kernel
theorem dX4_dirty_43 : decode cX4_dirty 43 = .ok (.if_icmp .le 7, 3) := by decide +kernel
theorem dX4_dirty_46 : decode cX4_dirty 46 = .ok (.iconst 1, 1) := by decide +kernel
theorem dX4_dirty_47 : decode cX4_dirty 47 = .ok (.goto 4, 3) := by decide +kernel
theorem dX4_dirty_50 : decode cX4_dirty 50 = .ok (.iconst 0, 1) := by decide +kernel
theorem dX4_dirty_51 : decode cX4_dirty 51 = .ok (.istore_n 2, 1) := by decide +kernel
theorem dX4_dirty_52 : decode cX4_dirty 52 = .ok (.iinc 3 1, 3) := by decide +kernel
theorem dX4_dirty_55 : decode cX4_dirty 55 = .ok (.goto (-37), 3) := by decide +kernel
theorem dX4_dirty_58 : decode cX4_dirty 58 = .ok (.iload_n 2, 1) := by decide +kernel
theorem dX4_dirty_59 : decode cX4_dirty 59 = .ok (.ireturn, 1) := by decide +kernel
theorem dX4_crash_0 : decode cX4_crash 0 = .ok (.aload_n 0, 1) := by decide +kernel
theorem dX4_crash_1 : decode cX4_crash 1 = .ok (.dup, 1) := by decide +kernel
theorem dX4_crash_2 : decode cX4_crash 2 = .ok (.getfield 66, 3) := by decide +kernel
theorem dX4_crash_5 : decode cX4_crash 5 = .ok (.iconst 1, 1) := by decide +kernel
theorem dX4_crash_6 : decode cX4_crash 6 = .ok (.iadd, 1) := by decide +kernel
theorem dX4_crash_7 : decode cX4_crash 7 = .ok (.putfield 66, 3) := by decide +kernel
theorem dX4_crash_10 : decode cX4_crash 10 = .ok (.iconst 0, 1) := by decide +kernel
theorem dX4_crash_11 : decode cX4_crash 11 = .ok (.istore_n 1, 1) := by decide +kernel
theorem dX4_crash_12 : decode cX4_crash 12 = .ok (.iload_n 1, 1) := by decide +kernel
theorem dX4_crash_13 : decode cX4_crash 13 = .ok (.bipush 32, 2) := by decide +kernel
theorem dX4_crash_15 : decode cX4_crash 15 = .ok (.if_icmp .ge 21, 3) := by decide +kernel
theorem dX4_crash_18 : decode cX4_crash 18 = .ok (.aload_n 0, 1) := by decide +kernel
theorem dX4_crash_19 : decode cX4_crash 19 = .ok (.getfield 43, 3) := by decide +kernel
theorem dX4_crash_22 : decode cX4_crash 22 = .ok (.iload_n 1, 1) := by decide +kernel
theorem dX4_crash_23 : decode cX4_crash 23 = .ok (.aload_n 0, 1) := by decide +kernel
theorem dX4_crash_24 : decode cX4_crash 24 = .ok (.getfield 46, 3) := by decide +kernel
theorem dX4_crash_27 : decode cX4_crash 27 = .ok (.iload_n 1, 1) := by decide +kernel
theorem dX4_crash_28 : decode cX4_crash 28 = .ok (.iaload, 1) := by decide +kernel
theorem dX4_crash_29 : decode cX4_crash 29 = .ok (.iastore, 1) := by decide +kernel
theorem dX4_crash_30 : decode cX4_crash 30 = .ok (.iinc 1 1, 3) := by decide +kernel
theorem dX4_crash_33 : decode cX4_crash 33 = .ok (.goto (-21), 3) := by decide +kernel
theorem dX4_crash_36 : decode cX4_crash 36 = .ok (.iconst 0, 1) := by decide +kernel
theorem dX4_crash_37 : decode cX4_crash 37 = .ok (.istore_n 1, 1) := by decide +kernel
theorem dX4_crash_38 : decode cX4_crash 38 = .ok (.iload_n 1, 1) := by decide +kernel
theorem dX4_crash_39 : decode cX4_crash 39 = .ok (.bipush 8, 2) := by decide +kernel
theorem dX4_crash_41 : decode cX4_crash 41 = .ok (.if_icmp .ge 19, 3) := by decide +kernel
theorem dX4_crash_44 : decode cX4_crash 44 = .ok (.aload_n 0, 1) := by decide +kernel
theorem dX4_crash_45 : decode cX4_crash 45 = .ok (.getfield 52, 3) := by decide +kernel
theorem dX4_crash_48 : decode cX4_crash 48 = .ok (.iload_n 1, 1) := by decide +kernel
theorem dX4_crash_49 : decode cX4_crash 49 = .ok (.aload_n 0, 1) := by decide +kernel
theorem dX4_crash_50 : decode cX4_crash 50 = .ok (.getfield 66, 3) := by decide +kernel
theorem dX4_crash_53 : decode cX4_crash 53 = .ok (.iastore, 1) := by decide +kernel
theorem dX4_crash_54 : decode cX4_crash 54 = .ok (.iinc 1 1, 3) := by decide +kernel
theorem dX4_crash_57 : decode cX4_crash 57 = .ok (.goto (-19), 3) := by decide +kernel
theorem dX4_crash_60 : decode cX4_crash 60 = .ok (.iconst 0, 1) := by decide +kernel
theorem dX4_crash_61 : decode cX4_crash 61 = .ok (.istore_n 1, 1) := by decide +kernel
theorem dX4_crash_62 : decode cX4_crash 62 = .ok (.iload_n 1, 1) := by decide +kernel
theorem dX4_crash_63 : decode cX4_crash 63 = .ok (.bipush 16, 2) := by decide +kernel
theorem dX4_crash_65 : decode cX4_crash 65 = .ok (.if_icmp .ge 16, 3) := by decide +kernel
theorem dX4_crash_68 : decode cX4_crash 68 = .ok (.aload_n 0, 1) := by decide +kernel
theorem dX4_crash_69 : decode cX4_crash 69 = .ok (.getfield 22, 3) := by decide +kernel
theorem dX4_crash_72 : decode cX4_crash 72 = .ok (.iload_n 1, 1) := by decide +kernel
theorem dX4_crash_73 : decode cX4_crash 73 = .ok (.iconst 0, 1) := by decide +kernel
theorem dX4_crash_74 : decode cX4_crash 74 = .ok (.iastore, 1) := by decide +kernel
theorem dX4_crash_75 : decode cX4_crash 75 = .ok (.iinc 1 1, 3) := by decide +kernel
theorem dX4_crash_78 : decode cX4_crash 78 = .ok (.goto (-16), 3) := by decide +kernel
theorem dX4_crash_81 : decode cX4_crash 81 = .ok (.iconst 0, 1) := by decide +kernel
theorem dX4_crash_82 : decode cX4_crash 82 = .ok (.istore_n 1, 1) := by decide +kernel
theorem dX4_crash_83 : decode cX4_crash 83 = .ok (.iload_n 1, 1) := by decide +kernel
theorem dX4_crash_84 : decode cX4_crash 84 = .ok (.iconst 4, 1) := by decide +kernel
theorem dX4_crash_85 : decode cX4_crash 85 = .ok (.if_icmp .ge 28, 3) := by decide +kernel
theorem dX4_crash_88 : decode cX4_crash 88 = .ok (.aload_n 0, 1) := by decide +kernel
theorem dX4_crash_89 : decode cX4_crash 89 = .ok (.getfield 31, 3) := by decide +kernel
theorem dX4_crash_92 : decode cX4_crash 92 = .ok (.iload_n 1, 1) := by decide +kernel
theorem dX4_crash_93 : decode cX4_crash 93 = .ok (.iconst 0, 1) := by decide +kernel
theorem dX4_crash_94 : decode cX4_crash 94 = .ok (.iastore, 1) := by decide +kernel
theorem dX4_crash_95 : decode cX4_crash 95 = .ok (.aload_n 0, 1) := by decide +kernel
theorem dX4_crash_96 : decode cX4_crash 96 = .ok (.getfield 25, 3) := by decide +kernel
theorem dX4_crash_99 : decode cX4_crash 99 = .ok (.iload_n 1, 1) := by decide +kernel
theorem dX4_crash_100 : decode cX4_crash 100 = .ok (.aload_n 0, 1) := by decide +kernel
theorem dX4_crash_101 : decode cX4_crash 101 = .ok (.getfield 28, 3) := by decide +kernel
theorem dX4_crash_104 : decode cX4_crash 104 = .ok (.iload_n 1, 1) := by decide +kernel
theorem dX4_crash_105 : decode cX4_crash 105 = .ok (.iaload, 1) := by decide +kernel
theorem dX4_crash_106 : decode cX4_crash 106 = .ok (.iastore, 1) := by decide +kernel
theorem dX4_crash_107 : decode cX4_crash 107 = .ok (.iinc 1 1, 3) := by decide +kernel
theorem dX4_crash_110 : decode cX4_crash 110 = .ok (.goto (-27), 3) := by decide +kernel
theorem dX4_crash_113 : decode cX4_crash 113 = .ok (.return_, 1) := by decide +kernel
theorem dX4_lineOf_0 : decode cX4_lineOf 0 = .ok (.aload_n 0, 1) := by decide +kernel
theorem dX4_lineOf_1 : decode cX4_lineOf 1 = .ok (.getfield 34, 3) := by decide +kernel
theorem dX4_lineOf_4 : decode cX4_lineOf 4 = .ok (.iload_n 1, 1) := by decide +kernel
theorem dX4_lineOf_5 : decode cX4_lineOf 5 = .ok (.iaload, 1) := by decide +kernel
theorem dX4_lineOf_6 : decode cX4_lineOf 6 = .ok (.ifCond .ne 14, 3) := by decide +kernel
theorem dX4_lineOf_9 : decode cX4_lineOf 9 = .ok (.aload_n 0, 1) := by decide +kernel
theorem dX4_lineOf_10 : decode cX4_lineOf 10 = .ok (.getfield 37, 3) := by decide +kernel
theorem dX4_lineOf_13 : decode cX4_lineOf 13 = .ok (.iload_n 1, 1) := by decide +kernel
theorem dX4_lineOf_14 : decode cX4_lineOf 14 = .ok (.iaload, 1) := by decide +kernel
theorem dX4_lineOf_15 : decode cX4_lineOf 15 = .ok (.iconst 4, 1) := by decide +kernel
theorem dX4_lineOf_16 : decode cX4_lineOf 16 = .ok (.idiv, 1) := by decide +kernel
theorem dX4_lineOf_17 : decode cX4_lineOf 17 = .ok (.goto 9, 3) := by decide +kernel
theorem dX4_lineOf_20 : decode cX4_lineOf 20 = .ok (.aload_n 0, 1) := by decide +kernel
theorem dX4_lineOf_21 : decode cX4_lineOf 21 = .ok (.getfield 37, 3) := by decide +kernel
theorem dX4_lineOf_24 : decode cX4_lineOf 24 = .ok (.iload_n 1, 1) := by decide +kernel
theorem dX4_lineOf_25 : decode cX4_lineOf 25 = .ok (.iaload, 1) := by decide +kernel
theorem dX4_lineOf_26 : decode cX4_lineOf 26 = .ok (.ireturn, 1) := by decide +kernel
theorem dX4_passes_0 : decode cX4_passes 0 = .ok (.aload_n 0, 1) := by decide +kernel
theorem dX4_passes_1 : decode cX4_passes 1 = .ok (.getfield 34, 3) := by decide +kernel
theorem dX4_passes_4 : decode cX4_passes 4 = .ok (.iload_n 1, 1) := by decide +kernel
theorem dX4_passes_5 : decode cX4_passes 5 = .ok (.iaload, 1) := by decide +kernel
theorem dX4_passes_6 : decode cX4_passes 6 = .ok (.istore_n 3, 1) := by decide +kernel
theorem dX4_passes_7 : decode cX4_passes 7 = .ok (.aload_n 0, 1) := by decide +kernel
theorem dX4_passes_8 : decode cX4_passes 8 = .ok (.getfield 34, 3) := by decide +kernel
theorem dX4_passes_11 : decode cX4_passes 11 = .ok (.iload_n 2, 1) := by decide +kernel
theorem dX4_passes_12 : decode cX4_passes 12 = .ok (.iaload, 1) := by decide +kernel
theorem dX4_passes_13 : decode cX4_passes 13 = .ok (.istore 4, 2) := by decide +kernel
theorem dX4_passes_15 : decode cX4_passes 15 = .ok (.iload_n 3, 1) := by decide +kernel
theorem dX4_passes_16 : decode cX4_passes 16 = .ok (.iconst 3, 1) := by decide +kernel
theorem dX4_passes_17 : decode cX4_passes 17 = .ok (.if_icmp .eq 9, 3) := by decide +kernel
theorem dX4_passes_20 : decode cX4_passes 20 = .ok (.iload 4, 2) := by decide +kernel
theorem dX4_passes_22 : decode cX4_passes 22 = .ok (.iconst 3, 1) := by decide +kernel
theorem dX4_passes_23 : decode cX4_passes 23 = .ok (.if_icmp .ne 5, 3) := by decide +kernel
theorem dX4_passes_26 : decode cX4_passes 26 = .ok (.iconst 0, 1) := by decide +kernel
theorem dX4_passes_27 : decode cX4_passes 27 = .ok (.ireturn, 1) := by decide +kernel
theorem dX4_passes_28 : decode cX4_passes 28 = .ok (.iload_n 3, 1) := by decide +kernel
theorem dX4_passes_29 : decode cX4_passes 29 = .ok (.iconst 2, 1) := by decide +kernel
theorem dX4_passes_30 : decode cX4_passes 30 = .ok (.if_icmp .ne 16, 3) := by decide +kernel
theorem dX4_passes_33 : decode cX4_passes 33 = .ok (.iload 4, 2) := by decide +kernel
theorem dX4_passes_35 : decode cX4_passes 35 = .ok (.ifCond .eq 9, 3) := by decide +kernel
theorem dX4_passes_38 : decode cX4_passes 38 = .ok (.iload 4, 2) := by decide +kernel
theorem dX4_passes_40 : decode cX4_passes 40 = .ok (.iconst 2, 1) := by decide +kernel
theorem dX4_passes_41 : decode cX4_passes 41 = .ok (.if_icmp .ne 5, 3) := by decide +kernel
theorem dX4_passes_44 : decode cX4_passes 44 = .ok (.iconst 1, 1) := by decide +kernel
theorem dX4_passes_45 : decode cX4_passes 45 = .ok (.ireturn, 1) := by decide +kernel
theorem dX4_passes_46 : decode cX4_passes 46 = .ok (.iload_n 3, 1) := by decide +kernel
theorem dX4_passes_47 : decode cX4_passes 47 = .ok (.iconst 2, 1) := by decide +kernel
theorem dX4_passes_48 : decode cX4_passes 48 = .ok (.if_icmp .eq 9, 3) := by decide +kernel
theorem dX4_passes_51 : decode cX4_passes 51 = .ok (.iload 4, 2) := by decide +kernel
theorem dX4_passes_53 : decode cX4_passes 53 = .ok (.iconst 2, 1) := by decide +kernel
theorem dX4_passes_54 : decode cX4_passes 54 = .ok (.if_icmp .ne 20, 3) := by decide +kernel
theorem dX4_passes_57 : decode cX4_passes 57 = .ok (.aload_n 0, 1) := by decide +kernel
theorem dX4_passes_58 : decode cX4_passes 58 = .ok (.iload_n 1, 1) := by decide +kernel
theorem dX4_passes_59 : decode cX4_passes 59 = .ok (.invokevirtual 73, 3) := by decide +kernel
theorem dX4_passes_62 : decode cX4_passes 62 = .ok (.aload_n 0, 1) := by decide +kernel
theorem dX4_passes_63 : decode cX4_passes 63 = .ok (.iload_n 2, 1) := by decide +kernel
theorem dX4_passes_64 : decode cX4_passes 64 = .ok (.invokevirtual 73, 3) := by decide +kernel
theorem dX4_passes_67 : decode cX4_passes 67 = .ok (.if_icmp .eq 7, 3) := by decide +kernel
theorem dX4_passes_70 : decode cX4_passes 70 = .ok (.iconst 1, 1) := by decide +kernel
theorem dX4_passes_71 : decode cX4_passes 71 = .ok (.goto 4, 3) := by decide +kernel
theorem dX4_passes_74 : decode cX4_passes 74 = .ok (.iconst 0, 1) := by decide +kernel
theorem dX4_passes_75 : decode cX4_passes 75 = .ok (.ireturn, 1) := by decide +kernel
theorem dX4_drain_0 : decode cX4_drain 0 = .ok (.aload_n 0, 1) := by decide +kernel
theorem dX4_drain_1 : decode cX4_drain 1 = .ok (.iload_n 1, 1) := by decide +kernel
theorem dX4_drain_2 : decode cX4_drain 2 = .ok (.invokevirtual 62, 3) := by decide +kernel
theorem dX4_drain_5 : decode cX4_drain 5 = .ok (.ifCond .eq 17, 3) := by decide +kernel
theorem dX4_drain_8 : decode cX4_drain 8 = .ok (.iload_n 2, 1) := by decide +kernel
theorem dX4_drain_9 : decode cX4_drain 9 = .ok (.ifCond .lt 13, 3) := by decide +kernel
theorem dX4_drain_12 : decode cX4_drain 12 = .ok (.iload_n 2, 1) := by decide +kernel
theorem dX4_drain_13 : decode cX4_drain 13 = .ok (.aload_n 0, 1) := by decide +kernel
theorem dX4_drain_14 : decode cX4_drain 14 = .ok (.getfield 31, 3) := by decide +kernel
theorem dX4_drain_17 : decode cX4_drain 17 = .ok (.iload_n 1, 1) := by decide +kernel
theorem dX4_drain_18 : decode cX4_drain 18 = .ok (.iaload, 1) := by decide +kernel
theorem dX4_drain_19 : decode cX4_drain 19 = .ok (.if_icmp .lt 5, 3) := by decide +kernel
theorem dX4_drain_22 : decode cX4_drain 22 = .ok (.iconst 0, 1) := by decide +kernel
theorem dX4_drain_23 : decode cX4_drain 23 = .ok (.ireturn, 1) := by decide +kernel
theorem dX4_drain_24 : decode cX4_drain 24 = .ok (.bipush 8, 2) := by decide +kernel
theorem dX4_drain_26 : decode cX4_drain 26 = .ok (.iload_n 1, 1) := by decide +kernel
theorem dX4_drain_27 : decode cX4_drain 27 = .ok (.imul, 1) := by decide +kernel
theorem dX4_drain_28 : decode cX4_drain 28 = .ok (.iload_n 2, 1) := by decide +kernel
theorem dX4_drain_29 : decode cX4_drain 29 = .ok (.iadd, 1) := by decide +kernel
theorem dX4_drain_30 : decode cX4_drain 30 = .ok (.istore_n 3, 1) := by decide +kernel
theorem dX4_drain_31 : decode cX4_drain 31 = .ok (.bipush 8, 2) := by decide +kernel
theorem dX4_drain_33 : decode cX4_drain 33 = .ok (.iload_n 1, 1) := by decide +kernel
theorem dX4_drain_34 : decode cX4_drain 34 = .ok (.imul, 1) := by decide +kernel
theorem dX4_drain_35 : decode cX4_drain 35 = .ok (.istore 4, 2) := by decide +kernel
theorem dX4_drain_37 : decode cX4_drain 37 = .ok (.iload 4, 2) := by decide +kernel
theorem dX4_drain_39 : decode cX4_drain 39 = .ok (.iload_n 3, 1) := by decide +kernel
theorem dX4_drain_40 : decode cX4_drain 40 = .ok (.if_icmp .ge 21, 3) := by decide +kernel
theorem dX4_drain_43 : decode cX4_drain 43 = .ok (.aload_n 0, 1) := by decide +kernel
theorem dX4_drain_44 : decode cX4_drain 44 = .ok (.iload 4, 2) := by decide +kernel
theorem dX4_drain_46 : decode cX4_drain 46 = .ok (.iload_n 3, 1) := by decide +kernel
theorem dX4_drain_47 : decode cX4_drain 47 = .ok (.invokevirtual 77, 3) := by decide +kernel
theorem dX4_drain_50 : decode cX4_drain 50 = .ok (.ifCond .ne 5, 3) := by decide +kernel
theorem dX4_drain_53 : decode cX4_drain 53 = .ok (.iconst 0, 1) := by decide +kernel
theorem dX4_drain_54 : decode cX4_drain 54 = .ok (.ireturn, 1) := by decide +kernel
theorem dX4_drain_55 : decode cX4_drain 55 = .ok (.iinc 4 1, 3) := by decide +kernel
theorem dX4_drain_58 : decode cX4_drain 58 = .ok (.goto (-21), 3) := by decide +kernel
theorem dX4_drain_61 : decode cX4_drain 61 = .ok (.aload_n 0, 1) := by decide +kernel
theorem dX4_drain_62 : decode cX4_drain 62 = .ok (.getfield 34, 3) := by decide +kernel
theorem dX4_drain_65 : decode cX4_drain 65 = .ok (.iload_n 3, 1) := by decide +kernel
theorem dX4_drain_66 : decode cX4_drain 66 = .ok (.iaload, 1) := by decide +kernel
theorem dX4_drain_67 : decode cX4_drain 67 = .ok (.ifCond .ne 22, 3) := by decide +kernel
theorem dX4_drain_70 : decode cX4_drain 70 = .ok (.aload_n 0, 1) := by decide +kernel
theorem dX4_drain_71 : decode cX4_drain 71 = .ok (.aload_n 0, 1) := by decide +kernel
theorem dX4_drain_72 : decode cX4_drain 72 = .ok (.getfield 37, 3) := by decide +kernel
theorem dX4_drain_75 : decode cX4_drain 75 = .ok (.iload_n 3, 1) := by decide +kernel
theorem dX4_drain_76 : decode cX4_drain 76 = .ok (.iaload, 1) := by decide +kernel
theorem dX4_drain_77 : decode cX4_drain 77 = .ok (.aload_n 0, 1) := by decide +kernel
theorem dX4_drain_78 : decode cX4_drain 78 = .ok (.getfield 40, 3) := by decide +kernel
theorem dX4_drain_81 : decode cX4_drain 81 = .ok (.iload_n 3, 1) := by decide +kernel
theorem dX4_drain_82 : decode cX4_drain 82 = .ok (.iaload, 1) := by decide +kernel
theorem dX4_drain_83 : decode cX4_drain 83 = .ok (.invokevirtual 81, 3) := by decide +kernel
theorem dX4_drain_86 : decode cX4_drain 86 = .ok (.goto 23, 3) := by decide +kernel
theorem dX4_drain_89 : decode cX4_drain 89 = .ok (.aload_n 0, 1) := by decide +kernel
theorem dX4_drain_90 : decode cX4_drain 90 = .ok (.getfield 34, 3) := by decide +kernel
theorem dX4_drain_93 : decode cX4_drain 93 = .ok (.iload_n 3, 1) := by decide +kernel
theorem dX4_drain_94 : decode cX4_drain 94 = .ok (.iaload, 1) := by decide +kernel
theorem dX4_drain_95 : decode cX4_drain 95 = .ok (.iconst 3, 1) := by decide +kernel
theorem dX4_drain_96 : decode cX4_drain 96 = .ok (.if_icmp .eq 13, 3) := by decide +kernel
theorem dX4_drain_99 : decode cX4_drain 99 = .ok (.aload_n 0, 1) := by decide +kernel
theorem dX4_drain_100 : decode cX4_drain 100 = .ok (.aload_n 0, 1) := by decide +kernel
theorem dX4_drain_101 : decode cX4_drain 101 = .ok (.getfield 37, 3) := by decide +kernel
theorem dX4_drain_104 : decode cX4_drain 104 = .ok (.iload_n 3, 1) := by decide +kernel
theorem dX4_drain_105 : decode cX4_drain 105 = .ok (.iaload, 1) := by decide +kernel
theorem dX4_drain_106 : decode cX4_drain 106 = .ok (.invokevirtual 69, 3) := by decide +kernel
theorem dX4_drain_109 : decode cX4_drain 109 = .ok (.aload_n 0, 1) := by decide +kernel
theorem dX4_drain_110 : decode cX4_drain 110 = .ok (.getfield 31, 3) := by decide +kernel
theorem dX4_drain_113 : decode cX4_drain 113 = .ok (.iload_n 1, 1) := by decide +kernel
theorem dX4_drain_114 : decode cX4_drain 114 = .ok (.dup2, 1) := by decide +kernel
theorem dX4_drain_115 : decode cX4_drain 115 = .ok (.iaload, 1) := by decide +kernel
theorem dX4_drain_116 : decode cX4_drain 116 = .ok (.iconst 1, 1) := by decide +kernel
theorem dX4_drain_117 : decode cX4_drain 117 = .ok (.isub, 1) := by decide +kernel
theorem dX4_drain_118 : decode cX4_drain 118 = .ok (.iastore, 1) := by decide +kernel
theorem dX4_drain_119 : decode cX4_drain 119 = .ok (.iload_n 3, 1) := by decide +kernel
theorem dX4_drain_120 : decode cX4_drain 120 = .ok (.istore 4, 2) := by decide +kernel
theorem dX4_drain_122 : decode cX4_drain 122 = .ok (.iload 4, 2) := by decide +kernel
theorem dX4_drain_124 : decode cX4_drain 124 = .ok (.bipush 8, 2) := by decide +kernel
theorem dX4_drain_126 : decode cX4_drain 126 = .ok (.iload_n 1, 1) := by decide +kernel
theorem dX4_drain_127 : decode cX4_drain 127 = .ok (.imul, 1) := by decide +kernel
theorem dX4_drain_128 : decode cX4_drain 128 = .ok (.aload_n 0, 1) := by decide +kernel
theorem dX4_drain_129 : decode cX4_drain 129 = .ok (.getfield 31, 3) := by decide +kernel
theorem dX4_drain_132 : decode cX4_drain 132 = .ok (.iload_n 1, 1) := by decide +kernel
theorem dX4_drain_133 : decode cX4_drain 133 = .ok (.iaload, 1) := by decide +kernel
theorem dX4_drain_134 : decode cX4_drain 134 = .ok (.iadd, 1) := by decide +kernel
theorem dX4_drain_135 : decode cX4_drain 135 = .ok (.if_icmp .ge 57, 3) := by decide +kernel
theorem dX4_drain_138 : decode cX4_drain 138 = .ok (.aload_n 0, 1) := by decide +kernel
theorem dX4_drain_139 : decode cX4_drain 139 = .ok (.getfield 34, 3) := by decide +kernel
theorem dX4_drain_142 : decode cX4_drain 142 = .ok (.iload 4, 2) := by decide +kernel
theorem dX4_drain_144 : decode cX4_drain 144 = .ok (.aload_n 0, 1) := by decide +kernel
theorem dX4_drain_145 : decode cX4_drain 145 = .ok (.getfield 34, 3) := by decide +kernel
theorem dX4_drain_148 : decode cX4_drain 148 = .ok (.iload 4, 2) := by decide +kernel
theorem dX4_drain_150 : decode cX4_drain 150 = .ok (.iconst 1, 1) := by decide +kernel
theorem dX4_drain_151 : decode cX4_drain 151 = .ok (.iadd, 1) := by decide +kernel
theorem dX4_drain_152 : decode cX4_drain 152 = .ok (.iaload, 1) := by decide +kernel
theorem dX4_drain_153 : decode cX4_drain 153 = .ok (.iastore, 1) := by decide +kernel
theorem dX4_drain_154 : decode cX4_drain 154 = .ok (.aload_n 0, 1) := by decide +kernel
theorem dX4_drain_155 : decode cX4_drain 155 = .ok (.getfield 37, 3) := by decide +kernel
theorem dX4_drain_158 : decode cX4_drain 158 = .ok (.iload 4, 2) := by decide +kernel
theorem dX4_drain_160 : decode cX4_drain 160 = .ok (.aload_n 0, 1) := by decide +kernel
theorem dX4_drain_161 : decode cX4_drain 161 = .ok (.getfield 37, 3) := by decide +kernel
theorem dX4_drain_164 : decode cX4_drain 164 = .ok (.iload 4, 2) := by decide +kernel
theorem dX4_drain_166 : decode cX4_drain 166 = .ok (.iconst 1, 1) := by decide +kernel
theorem dX4_drain_167 : decode cX4_drain 167 = .ok (.iadd, 1) := by decide +kernel
theorem dX4_drain_168 : decode cX4_drain 168 = .ok (.iaload, 1) := by decide +kernel
theorem dX4_drain_169 : decode cX4_drain 169 = .ok (.iastore, 1) := by decide +kernel
theorem dX4_drain_170 : decode cX4_drain 170 = .ok (.aload_n 0, 1) := by decide +kernel
theorem dX4_drain_171 : decode cX4_drain 171 = .ok (.getfield 40, 3) := by decide +kernel
theorem dX4_drain_174 : decode cX4_drain 174 = .ok (.iload 4, 2) := by decide +kernel
theorem dX4_drain_176 : decode cX4_drain 176 = .ok (.aload_n 0, 1) := by decide +kernel
theorem dX4_drain_177 : decode cX4_drain 177 = .ok (.getfield 40, 3) := by decide +kernel
theorem dX4_drain_180 : decode cX4_drain 180 = .ok (.iload 4, 2) := by decide +kernel
theorem dX4_drain_182 : decode cX4_drain 182 = .ok (.iconst 1, 1) := by decide +kernel
theorem dX4_drain_183 : decode cX4_drain 183 = .ok (.iadd, 1) := by decide +kernel
theorem dX4_drain_184 : decode cX4_drain 184 = .ok (.iaload, 1) := by decide +kernel
theorem dX4_drain_185 : decode cX4_drain 185 = .ok (.iastore, 1) := by decide +kernel
theorem dX4_drain_186 : decode cX4_drain 186 = .ok (.iinc 4 1, 3) := by decide +kernel
theorem dX4_drain_189 : decode cX4_drain 189 = .ok (.goto (-67), 3) := by decide +kernel
theorem dX4_drain_192 : decode cX4_drain 192 = .ok (.iconst 1, 1) := by decide +kernel
theorem dX4_drain_193 : decode cX4_drain 193 = .ok (.ireturn, 1) := by decide +kernel
theorem dX4_settle_0 : decode cX4_settle 0 = .ok (.aload_n 0, 1) := by decide +kernel
theorem dX4_settle_1 : decode cX4_settle 1 = .ok (.iload_n 1, 1) := by decide +kernel
theorem dX4_settle_2 : decode cX4_settle 2 = .ok (.invokevirtual 62, 3) := by decide +kernel
theorem dX4_settle_5 : decode cX4_settle 5 = .ok (.ifCond .ne 5, 3) := by decide +kernel
theorem dX4_settle_8 : decode cX4_settle 8 = .ok (.iconst (-1), 1) := by decide +kernel
theorem dX4_settle_9 : decode cX4_settle 9 = .ok (.ireturn, 1) := by decide +kernel
theorem dX4_settle_10 : decode cX4_settle 10 = .ok (.iconst 0, 1) := by decide +kernel
theorem dX4_settle_11 : decode cX4_settle 11 = .ok (.istore_n 2, 1) := by decide +kernel
theorem dX4_settle_12 : decode cX4_settle 12 = .ok (.aload_n 0, 1) := by decide +kernel
theorem dX4_settle_13 : decode cX4_settle 13 = .ok (.iload_n 1, 1) := by decide +kernel
theorem dX4_settle_14 : decode cX4_settle 14 = .ok (.iconst 0, 1) := by decide +kernel
theorem dX4_settle_15 : decode cX4_settle 15 = .ok (.invokevirtual 85, 3) := by decide +kernel
theorem dX4_settle_18 : decode cX4_settle 18 = .ok (.ifCond .eq 9, 3) := by decide +kernel
theorem dX4_settle_21 : decode cX4_settle 21 = .ok (.iinc 2 1, 3) := by decide +kernel
theorem dX4_settle_24 : decode cX4_settle 24 = .ok (.goto (-12), 3) := by decide +kernel
theorem dX4_settle_27 : decode cX4_settle 27 = .ok (.iload_n 2, 1) := by decide +kernel
theorem dX4_settle_28 : decode cX4_settle 28 = .ok (.ireturn, 1) := by decide +kernel
theorem dX4_append_0 : decode cX4_append 0 = .ok (.aload_n 0, 1) := by decide +kernel
theorem dX4_append_1 : decode cX4_append 1 = .ok (.getfield 31, 3) := by decide +kernel
theorem dX4_append_4 : decode cX4_append 4 = .ok (.iload_n 1, 1) := by decide +kernel
theorem dX4_append_5 : decode cX4_append 5 = .ok (.iaload, 1) := by decide +kernel
theorem dX4_append_6 : decode cX4_append 6 = .ok (.aload_n 0, 1) := by decide +kernel
theorem dX4_append_7 : decode cX4_append 7 = .ok (.getfield 59, 3) := by decide +kernel
theorem dX4_append_10 : decode cX4_append 10 = .ok (.if_icmp .ne 5, 3) := by decide +kernel
theorem dX4_append_13 : decode cX4_append 13 = .ok (.iconst 1, 1) := by decide +kernel
theorem dX4_append_14 : decode cX4_append 14 = .ok (.ireturn, 1) := by decide +kernel
theorem dX4_append_15 : decode cX4_append 15 = .ok (.bipush 8, 2) := by decide +kernel
theorem dX4_append_17 : decode cX4_append 17 = .ok (.iload_n 1, 1) := by decide +kernel
theorem dX4_append_18 : decode cX4_append 18 = .ok (.imul, 1) := by decide +kernel
theorem dX4_append_19 : decode cX4_append 19 = .ok (.aload_n 0, 1) := by decide +kernel
theorem dX4_append_20 : decode cX4_append 20 = .ok (.getfield 31, 3) := by decide +kernel
theorem dX4_append_23 : decode cX4_append 23 = .ok (.iload_n 1, 1) := by decide +kernel
theorem dX4_append_24 : decode cX4_append 24 = .ok (.iaload, 1) := by decide +kernel
theorem dX4_append_25 : decode cX4_append 25 = .ok (.iadd, 1) := by decide +kernel
theorem dX4_append_26 : decode cX4_append 26 = .ok (.istore 5, 2) := by decide +kernel
theorem dX4_append_28 : decode cX4_append 28 = .ok (.aload_n 0, 1) := by decide +kernel
theorem dX4_append_29 : decode cX4_append 29 = .ok (.getfield 34, 3) := by decide +kernel
theorem dX4_append_32 : decode cX4_append 32 = .ok (.iload 5, 2) := by decide +kernel
theorem dX4_append_34 : decode cX4_append 34 = .ok (.iload_n 2, 1) := by decide +kernel
theorem dX4_append_35 : decode cX4_append 35 = .ok (.iastore, 1) := by decide +kernel
theorem dX4_append_36 : decode cX4_append 36 = .ok (.aload_n 0, 1) := by decide +kernel
theorem dX4_append_37 : decode cX4_append 37 = .ok (.getfield 37, 3) := by decide +kernel
theorem dX4_append_40 : decode cX4_append 40 = .ok (.iload 5, 2) := by decide +kernel
theorem dX4_append_42 : decode cX4_append 42 = .ok (.iload_n 3, 1) := by decide +kernel
theorem dX4_append_43 : decode cX4_append 43 = .ok (.iastore, 1) := by decide +kernel
theorem dX4_append_44 : decode cX4_append 44 = .ok (.aload_n 0, 1) := by decide +kernel
theorem dX4_append_45 : decode cX4_append 45 = .ok (.getfield 40, 3) := by decide +kernel
theorem dX4_append_48 : decode cX4_append 48 = .ok (.iload 5, 2) := by decide +kernel
theorem dX4_append_50 : decode cX4_append 50 = .ok (.iload 4, 2) := by decide +kernel
theorem dX4_append_52 : decode cX4_append 52 = .ok (.iastore, 1) := by decide +kernel
theorem dX4_append_53 : decode cX4_append 53 = .ok (.aload_n 0, 1) := by decide +kernel
theorem dX4_append_54 : decode cX4_append 54 = .ok (.getfield 31, 3) := by decide +kernel
theorem dX4_append_57 : decode cX4_append 57 = .ok (.iload_n 1, 1) := by decide +kernel
theorem dX4_append_58 : decode cX4_append 58 = .ok (.dup2, 1) := by decide +kernel
theorem dX4_append_59 : decode cX4_append 59 = .ok (.iaload, 1) := by decide +kernel
theorem dX4_append_60 : decode cX4_append 60 = .ok (.iconst 1, 1) := by decide +kernel
theorem dX4_append_61 : decode cX4_append 61 = .ok (.iadd, 1) := by decide +kernel
theorem dX4_append_62 : decode cX4_append 62 = .ok (.iastore, 1) := by decide +kernel
theorem dX4_append_63 : decode cX4_append 63 = .ok (.aload_n 0, 1) := by decide +kernel
end
section
def ne_W : List Cond := [.methodLinkNest RX0 43 yX2_writeBack "StoreBufferCores", .methodLinkNest RX0 37 yX2_write "StoreBufferCores", .methodLinkNest RX1 52 yX0_isFull "StoreBufferCores", .fieldLinkNest RX1 56 "StoreBufferCores$Buffer" "count" "I" "StoreBufferCores", .fieldLinkNest RX1 59 "StoreBufferCores$SharedMemory" "words" "[I" "StoreBufferCores", .methodLinkNest RX1 76 yX2_write "StoreBufferCores", .methodLinkNest RX1 64 yX0_newestValue "StoreBufferCores", .methodLinkNest RX1 68 yX0_append "StoreBufferCores", .fieldLinkNest RX3 51 "StoreBufferCores$Core" "buffer" "LStoreBufferCores$Buffer;" "StoreBufferCores", .fieldLinkNest RX3 64 "StoreBufferCores$Buffer" "count" "I" "StoreBufferCores", .methodLinkNest RX3 35 yX1_setInstruction "StoreBufferCores", .fieldLinkNest RX3 39 "StoreBufferCores$Core" "recoveryEntry" "I" "StoreBufferCores", .methodLinkNest RX3 43 yX1_doInstruction "StoreBufferCores", .methodLinkNest RX3 55 yX0_mayLeave "StoreBufferCores", .methodLinkNest RX3 60 yX0_letOut "StoreBufferCores", .methodLinkNest RX3 70 yX2_writeBack "StoreBufferCores", .fieldLinkNest RX3 79 "StoreBufferCores$Core" "registers" "[I" "StoreBufferCores", .fieldLinkNest RX3 83 "StoreBufferCores$Core" "pc" "I" "StoreBufferCores", .fieldLinkNest RX3 86 "StoreBufferCores$Buffer" "kinds" "[I" "StoreBufferCores", .fieldLinkNest RX3 89 "StoreBufferCores$Buffer" "targets" "[I" "StoreBufferCores", .fieldLinkNest RX3 92 "StoreBufferCores$Buffer" "values" "[I" "StoreBufferCores", .fieldLinkNest RX3 98 "StoreBufferCores$SharedMemory" "words" "[I" "StoreBufferCores", .methodLinkNest RX3 101 yX0_newestValue "StoreBufferCores", .fieldLinkNest RX3 105 "StoreBufferCores$SharedMemory" "stored" "[I" "StoreBufferCores", .fieldLinkNest RX3 108 "StoreBufferCores$SharedMemory" "unwritten" "[Z" "StoreBufferCores", .methodLinkNest RX3 73 yX2_fallBackToStorage "StoreBufferCores", .methodLinkNest RX3 76 yX1_beginAgain "StoreBufferCores"]
theorem ne_0 : Cond.methodLinkNest RX0 43 yX2_writeBack "StoreBufferCores" ∈ ne_W := List.mem_of_getElem? (i := 0) rfl
theorem ne_1 : Cond.methodLinkNest RX0 37 yX2_write "StoreBufferCores" ∈ ne_W := List.mem_of_getElem? (i := 1) rfl
theorem ne_2 : Cond.methodLinkNest RX1 52 yX0_isFull "StoreBufferCores" ∈ ne_W := List.mem_of_getElem? (i := 2) rfl
theorem ne_3 : Cond.fieldLinkNest RX1 56 "StoreBufferCores$Buffer" "count" "I" "StoreBufferCores" ∈ ne_W := List.mem_of_getElem? (i := 3) rfl
theorem ne_4 : Cond.fieldLinkNest RX1 59 "StoreBufferCores$SharedMemory" "words" "[I" "StoreBufferCores" ∈ ne_W := List.mem_of_getElem? (i := 4) rfl
theorem ne_5 : Cond.methodLinkNest RX1 76 yX2_write "StoreBufferCores" ∈ ne_W := List.mem_of_getElem? (i := 5) rfl
theorem ne_6 : Cond.methodLinkNest RX1 64 yX0_newestValue "StoreBufferCores" ∈ ne_W := List.mem_of_getElem? (i := 6) rfl
theorem ne_7 : Cond.methodLinkNest RX1 68 yX0_append "StoreBufferCores" ∈ ne_W := List.mem_of_getElem? (i := 7) rfl
theorem ne_8 : Cond.fieldLinkNest RX3 51 "StoreBufferCores$Core" "buffer" "LStoreBufferCores$Buffer;" "StoreBufferCores" ∈ ne_W := List.mem_of_getElem? (i := 8) rfl
theorem ne_9 : Cond.fieldLinkNest RX3 64 "StoreBufferCores$Buffer" "count" "I" "StoreBufferCores" ∈ ne_W := List.mem_of_getElem? (i := 9) rfl
theorem ne_10 : Cond.methodLinkNest RX3 35 yX1_setInstruction "StoreBufferCores" ∈ ne_W := List.mem_of_getElem? (i := 10) rfl
theorem ne_11 : Cond.fieldLinkNest RX3 39 "StoreBufferCores$Core" "recoveryEntry" "I" "StoreBufferCores" ∈ ne_W := List.mem_of_getElem? (i := 11) rfl
theorem ne_12 : Cond.methodLinkNest RX3 43 yX1_doInstruction "StoreBufferCores" ∈ ne_W := List.mem_of_getElem? (i := 12) rfl
theorem ne_13 : Cond.methodLinkNest RX3 55 yX0_mayLeave "StoreBufferCores" ∈ ne_W := List.mem_of_getElem? (i := 13) rfl
theorem ne_14 : Cond.methodLinkNest RX3 60 yX0_letOut "StoreBufferCores" ∈ ne_W := List.mem_of_getElem? (i := 14) rfl
theorem ne_15 : Cond.methodLinkNest RX3 70 yX2_writeBack "StoreBufferCores" ∈ ne_W := List.mem_of_getElem? (i := 15) rfl
theorem ne_16 : Cond.fieldLinkNest RX3 79 "StoreBufferCores$Core" "registers" "[I" "StoreBufferCores" ∈ ne_W := List.mem_of_getElem? (i := 16) rfl
theorem ne_17 : Cond.fieldLinkNest RX3 83 "StoreBufferCores$Core" "pc" "I" "StoreBufferCores" ∈ ne_W := List.mem_of_getElem? (i := 17) rfl
theorem ne_18 : Cond.fieldLinkNest RX3 86 "StoreBufferCores$Buffer" "kinds" "[I" "StoreBufferCores" ∈ ne_W := List.mem_of_getElem? (i := 18) rfl
theorem ne_19 : Cond.fieldLinkNest RX3 89 "StoreBufferCores$Buffer" "targets" "[I" "StoreBufferCores" ∈ ne_W := List.mem_of_getElem? (i := 19) rfl
theorem ne_20 : Cond.fieldLinkNest RX3 92 "StoreBufferCores$Buffer" "values" "[I" "StoreBufferCores" ∈ ne_W := List.mem_of_getElem? (i := 20) rfl
theorem ne_21 : Cond.fieldLinkNest RX3 98 "StoreBufferCores$SharedMemory" "words" "[I" "StoreBufferCores" ∈ ne_W := List.mem_of_getElem? (i := 21) rfl
theorem ne_22 : Cond.methodLinkNest RX3 101 yX0_newestValue "StoreBufferCores" ∈ ne_W := List.mem_of_getElem? (i := 22) rfl
theorem ne_23 : Cond.fieldLinkNest RX3 105 "StoreBufferCores$SharedMemory" "stored" "[I" "StoreBufferCores" ∈ ne_W := List.mem_of_getElem? (i := 23) rfl
theorem ne_24 : Cond.fieldLinkNest RX3 108 "StoreBufferCores$SharedMemory" "unwritten" "[Z" "StoreBufferCores" ∈ ne_W := List.mem_of_getElem? (i := 24) rfl
theorem ne_25 : Cond.methodLinkNest RX3 73 yX2_fallBackToStorage "StoreBufferCores" ∈ ne_W := List.mem_of_getElem? (i := 25) rfl
theorem ne_26 : Cond.methodLinkNest RX3 76 yX1_beginAgain "StoreBufferCores" ∈ ne_W := List.mem_of_getElem? (i := 26) rfl
/-! own words: contracts with one answer and one world behind; nest words travel with the start -/
def ne_ok : Cond → Bool
  | .fieldLinkNest .. => true
  | .methodLinkNest .. => true
  | _ => false
def ne_E (U : State) : Prop := ∀ w ∈ ne_W, va_Nw w U
theorem ne_W_ok : ∀ w ∈ ne_W, ne_ok w = true := by decide +kernel
theorem ne_W_tab : ∀ w ∈ ne_W, w.onTables = true := by decide +kernel
theorem ne_E.warm {s U : State} (hW : s.WarmedH U.vm) (h : ne_E s) : ne_E U := by
  intro w hw
  have h1 := ne_W_ok w hw
  have h2 := h w hw
  cases w <;> first | exact va_Nw.warmF hW h2 | exact va_Nw.warmM hW h2 | (exfalso; revert h1; simp [ne_ok]; done)
theorem ne_E.same {u U : State} (e : u.vm = U.vm) (h : ne_E u) : ne_E U := fun w hw => va_Nw.same (ne_W_tab w hw) e (h w hw)
abbrev me_TY : Type := List (ClassId × FieldType)
def me_Pre (D : va_G) (tys : me_TY) (w : va_W) (sz : Nat) : State → Prop := fun U => U.heap.size = sz ∧ va_P D vwCl w U.heap ∧ va_K D vwCl tys U ∧ va_D (fun _ => True) w ∧ ne_E U
def me_At (D : va_G) (tys : me_TY) (A : Nat → Prop) (w : va_W) (t : State) : Prop := va_P D vwCl w t.heap ∧ va_K D vwCl tys t ∧ va_D A w
def me_QI (D : va_G) (tys : me_TY) (r : Int32) (w1 : va_W) (A : Nat → Prop) : Array Value → State → Outcome → State → Prop := va_Qi (fun (a : Int32) (u : va_W) => a = r ∧ u = w1) (me_At D tys A) A
def me_QV (D : va_G) (tys : me_TY) (w1 : va_W) (A : Nat → Prop) : Array Value → State → Outcome → State → Prop := va_Qv (fun (u : va_W) => u = w1) (me_At D tys A) A
def me_I (l : Launch) (y : MethodName) (ws : List Cond) (rm : Room) (D : va_G) (tys : me_TY) (av : List Value) (w : va_W) (r : Int32) (w1 : va_W) : Prop := ∀ sz : Nat, Met l y ws rm (va_Pc av (me_Pre D tys w sz)) (me_QI D tys r w1 (va_A w sz)) 0 0 (va_A w sz)
def me_V (l : Launch) (y : MethodName) (ws : List Cond) (rm : Room) (D : va_G) (tys : me_TY) (av : List Value) (w : va_W) (w1 : va_W) : Prop := ∀ sz : Nat, Met l y ws rm (va_Pc av (me_Pre D tys w sz)) (me_QV D tys w1 (va_A w sz)) 0 0 (va_A w sz)
theorem me_blind {D : va_G} {tys : me_TY} {av : List Value} {w : va_W} {sz : Nat} : FrameBlind (va_Pc av (me_Pre D tys w sz)) := by
  intro a U g mk q
  obtain ⟨q0, q1, qP, qK, qD, qN⟩ := q
  exact ⟨q0, q1, qP, va_K.moved (u := U) (U := U.calling g mk a) (Vm.Alike.refl U.vm) qK, qD, ne_E.same (u := U) (U := U.calling g mk a) rfl qN⟩
theorem me_subP {D : va_G} {cl : List vw_C} {ws ws' : va_W} {H : Heap} (h : va_P D cl ws H) (is : List Nat) (hs : is.map (fun i => ws[i]?) = ws'.map some) : va_P D cl ws' H := by
  intro k q hk
  have h1 : (is.map (fun i => ws[i]?))[k]? = some (some q) := by rw [hs, List.getElem?_map, hk]; rfl
  rw [List.getElem?_map] at h1
  cases hi : is[k]? with
  | none => rw [hi] at h1; cases h1
  | some i => rw [hi] at h1; exact h i q (Option.some.inj h1)
theorem me_ent {l : Launch} {y : MethodName} {ws ws' : List Cond} {rm : Room} {D : va_G} {tys : me_TY} {av : List Value} {w : va_W} {sz : Nat} {Qf : (Nat → Prop) → Array Value → State → Outcome → State → Prop} {mc ms : Nat} {cc : ByteArray} {maxL : Nat} {ret : Option FieldType}
    (hy : plainName y.cls = true) (hw : ws = Cond.code y cc maxL ret :: ws') (hlen : (lg_sl av).length ≤ maxL)
    (body : ∀ (p : Program) (e : Env) (s : State) (m : MethodId) (below : List Frame) (meth : Method) (c : Code) (A : Nat → Prop) (ls : Array Slot), p.tables.exec = Jvm.exec → c.code = cc → meth.sig.returnType = ret → c.maxLocals = maxL → (∀ x ∈ ws, x.before av.toArray s = true) → s.vm.findClass y.cls = some m.cls → meth.locks = false → meth.name = y.name → va_P D vwCl w s.heap → va_K D vwCl tys s → va_D A w → ne_E s → (∀ q, s.heap.size ≤ q → A q) → va_S A s.heap s.heap [] → lv_has ls maxL (lv_args 0 av) →
      W p l e rm s m av.toArray below meth c s.heap [] 0 0 (MQ below (Qf A) av.toArray s mc ms A) (F0 m 0 ls [])) :
    Met l y ws rm (va_Pc av (me_Pre D tys w sz)) (Qf (va_A w sz)) mc ms (va_A w sz) := by
  refine Met.ofW (cc := cc) (maxL := maxL) (ret := ret) hy hw ?_
  intro p e s m args below meth c s₁ B hml hv
  obtain ⟨rfl, hsz, hP, hK, hD0, hN⟩ := hv
  subst hsz
  have hts := atoms_spec (ws := ws) B.pre
  have hl := lv_entry av (n := maxL) hlen
  rw [lg_entry_eq]
  exact body p e s m below meth c _ _ B.exec B.bytes B.returns hml hts (findClass_of_methodNamed B.named) B.notSynchronized (name_of_methodNamed B.named B.method).1 hP hK hD0.self hN (fun q h => Or.inr h) va_S.rf hl
section RT
variable {p : Program} {l : Launch} {e : Env} {R : Room} {s : State} {m : MethodId} {args : Array Value} {below : List Frame} {meth : Method} {c : Code} {H : Heap} {locs : List Loc} {cells slots : Nat} {Q : State → Prop}
variable {D : va_G} {tys : me_TY} {A : Nat → Prop} {cc : ByteArray} {pc : Nat} {ls : Array Slot} {rest st0 : List Value} {ws : va_W} {a : Nat} {H0 : Heap}
theorem me_retI {r v : Int32} {w1 : va_W} (hx : p.tables.exec = Jvm.exec) (hb : c.code = cc) (hr : meth.sig.returnType = some .int) (hlk : meth.locks = false) (hK : va_K D vwCl tys s) (hS : va_S A s.heap H locs) (hd : decode cc pc = .ok (.ireturn, 1)) (hv : v = r) (hP : va_P D vwCl w1 H) (hD : va_D A w1) : W p l e R s m args below meth c H locs cells slots (MQ below (me_QI D tys r w1 A) args s cells slots A) (F0 m pc ls [.int v]) :=
  W.iret (v := v) hx hb hr (fun t ht hW => ⟨⟨v, w1, rfl, ⟨hv, rfl⟩, by rw [ht]; exact hP, va_K.moved hW.alike hK, hD⟩, hS.F ht⟩) hS.2.2 hd hlk
theorem me_retZ {r v : Int32} {w1 : va_W} (hx : p.tables.exec = Jvm.exec) (hb : c.code = cc) (hr : meth.sig.returnType = some .boolean) (hlk : meth.locks = false) (hK : va_K D vwCl tys s) (hS : va_S A s.heap H locs) (hd : decode cc pc = .ok (.ireturn, 1)) (hn : narrow .boolean (.int v) = .int v) (hv : v = r) (hP : va_P D vwCl w1 H) (hD : va_D A w1) : W p l e R s m args below meth c H locs cells slots (MQ below (me_QI D tys r w1 A) args s cells slots A) (F0 m pc ls [.int v]) :=
  W.zret (v := v) (ty := .boolean) hx hb hr hn (fun t ht hW => ⟨⟨v, w1, rfl, ⟨hv, rfl⟩, by rw [ht]; exact hP, va_K.moved hW.alike hK, hD⟩, hS.F ht⟩) hS.2.2 hd hlk
theorem me_retV {w1 : va_W} (hx : p.tables.exec = Jvm.exec) (hb : c.code = cc) (hr : meth.sig.returnType = none) (hlk : meth.locks = false) (hK : va_K D vwCl tys s) (hS : va_S A s.heap H locs) (hd : decode cc pc = .ok (.return_, 1)) (hP : va_P D vwCl w1 H) (hD : va_D A w1) : W p l e R s m args below meth c H locs cells slots (MQ below (me_QV D tys w1 A) args s cells slots A) (F0 m pc ls []) :=
  W.vret hx hb hr (fun t ht hW => ⟨⟨w1, rfl, rfl, by rw [ht]; exact hP, va_K.moved hW.alike hK, hD⟩, hS.F ht⟩) hS.2.2 hd hlk
theorem me_preV {C : String} {b : Addr} {As : List Value} {wc : va_W} (hP : va_P D vwCl ws H) (hD : va_D A ws) (hK : va_K D vwCl tys s) (hN : ne_E s) (isC : List Nat) (hC : isC.map (fun i => ws[i]?) = wc.map some) (hnC : va_nd isC = true) (hrec : ∃ cellB : Cell, H[b]? = some cellB ∧ cellB.vm.isStatics = false ∧ s.vm.findClass C = some cellB.cls) : PreV s H C b (va_Pc (.ref b :: As) (me_Pre D tys wc H.size)) As :=
  ⟨me_blind, hrec, fun U hU hW => ⟨rfl, by rw [hU], by rw [hU]; exact me_subP hP isC hC, va_K.moved hW.alike hK, (hD.sub isC hnC hC).weaken (fun _ _ _ _ => trivial), ne_E.warm hW hN⟩⟩
theorem me_preS {As : List Value} {wc : va_W} (hP : va_P D vwCl ws H) (hD : va_D A ws) (hK : va_K D vwCl tys s) (hN : ne_E s) (isC : List Nat) (hC : isC.map (fun i => ws[i]?) = wc.map some) (hnC : va_nd isC = true) : PreS s H (va_Pc As (me_Pre D tys wc H.size)) As :=
  ⟨me_blind, fun U hU hW => ⟨rfl, by rw [hU], by rw [hU]; exact me_subP hP isC hC, va_K.moved hW.alike hK, (hD.sub isC hnC hC).weaken (fun _ _ _ _ => trivial), ne_E.warm hW hN⟩⟩
theorem me_goI {r : Int32} {w1 wc wr : va_W} {av : Array Value} (hr : va_Run p l e R s m args below meth c H locs cells slots 0 0 (F0 m pc ls st0) rest (me_QI D tys r w1 (va_A wc H.size) av) (va_A wc H.size)) (hP : va_P D vwCl ws H) (hD : va_D A ws) (hS : va_S A H0 H locs) (hA : ∀ q, H0.size ≤ q → A q) (isC isR : List Nat) (hC : isC.map (fun i => ws[i]?) = wc.map some) (hR : isR.map (fun i => ws[i]?) = wr.map some) (hn : va_nd isR = true) (hdis : ∀ i ∈ isR, i ∉ isC)
    (kk : ∀ (H1 : Heap) (locs1 : List Loc), va_P D vwCl (wr ++ w1) H1 → va_D A (wr ++ w1) → va_S A H0 H1 locs1 → W p l e R s m args below meth c H1 locs1 cells slots Q (F0 m (pc + 3) ls (.int r :: rest))) : W p l e R s m args below meth c H locs cells slots Q (F0 m pc ls st0) := by
  have hFc := va_free (wc := wc) hD hS hA isC hC
  refine va_calli (S := va_W) (post := fun (a : Int32) (u : va_W) => a = r ∧ u = w1) (B := me_At D tys (va_A wc H.size)) hr hS (fun q _ h => hFc q h) hFc (fun r' u t H1 locs1 ht hvm hp hB hz hk hS1 => ?_)
  obtain ⟨e1, e2⟩ := hp
  subst e1 e2
  obtain ⟨hP1, hK1, hD1⟩ := hB
  rw [ht] at hP1
  obtain ⟨hP2, hD2⟩ := va_join (wr := wr) hP hD isC isR hC hR hn hdis hk hFc hP1 hD1
  exact kk H1 locs1 hP2 hD2 hS1
theorem me_goV {w1 wc wr : va_W} {av : Array Value} {mc ms : Nat} (hr : va_Run p l e R s m args below meth c H locs cells slots mc ms (F0 m pc ls st0) rest (me_QV D tys w1 (va_A wc H.size) av) (va_A wc H.size)) (hP : va_P D vwCl ws H) (hD : va_D A ws) (hS : va_S A H0 H locs) (hA : ∀ q, H0.size ≤ q → A q) (isC isR : List Nat) (hC : isC.map (fun i => ws[i]?) = wc.map some) (hR : isR.map (fun i => ws[i]?) = wr.map some) (hn : va_nd isR = true) (hdis : ∀ i ∈ isR, i ∉ isC)
    (kk : ∀ (H1 : Heap) (locs1 : List Loc), va_P D vwCl (wr ++ w1) H1 → va_D A (wr ++ w1) → va_S A H0 H1 locs1 → W p l e R s m args below meth c H1 locs1 (cells + mc) (slots + ms) Q (F0 m (pc + 3) ls rest)) : W p l e R s m args below meth c H locs cells slots Q (F0 m pc ls st0) := by
  have hFc := va_free (wc := wc) hD hS hA isC hC
  refine va_callv (S := va_W) (post := fun (u : va_W) => u = w1) (B := me_At D tys (va_A wc H.size)) hr hS (fun q _ h => hFc q h) hFc (fun u t H1 locs1 ht hvm hp hB hz hk hS1 => ?_)
  subst hp
  obtain ⟨hP1, hK1, hD1⟩ := hB
  rw [ht] at hP1
  obtain ⟨hP2, hD2⟩ := va_join (wr := wr) hP hD isC isR hC hR hn hdis hk hFc hP1 hD1
  exact kk H1 locs1 hP2 hD2 hS1
theorem me_t {x y : Int32} (h : x = y) (k : W p l e R s m args below meth c H locs cells slots Q (F0 m pc ls (.int y :: rest))) : W p l e R s m args below meth c H locs cells slots Q (F0 m pc ls (.int x :: rest)) := by
  rw [h]; exact k
theorem me_ild (hx : p.tables.exec = Jvm.exec) (hb : c.code = cc) (hK : va_K D vwCl tys s) (hP : va_P D vwCl ws H) (q0 t0 : Nat) {cA : ClassId} {n : Nat} {f : Nat → Int32} (ha : ws[q0]? = some (a, .inl (cA, n, .inl f))) (ht : tys[t0]? = some (cA, .int)) (j : Nat) {i : Int32} (hi : i = nI j) (hj : j < n) (hn : n < 2 ^ 31) (hdg : decode cc pc = .ok (.iaload, 1))
    (kk : W p l e R s m args below meth c H locs cells slots Q (F0 m (pc + 1) ls (.int (f j) :: rest))) : W p l e R s m args below meth c H locs cells slots Q (F0 m pc ls (.int i :: .ref a :: rest)) := by
  subst hi
  refine va_iald hx hb hK hP q0 t0 ha ht (vp_in_nI hj hn) hdg ?_
  rw [nI_clamp (Nat.lt_trans hj hn)]
  exact kk
theorem me_zld (hx : p.tables.exec = Jvm.exec) (hb : c.code = cc) (hK : va_K D vwCl tys s) (hP : va_P D vwCl ws H) (q0 t0 : Nat) {cA : ClassId} {n : Nat} {f : Nat → Int32} (ha : ws[q0]? = some (a, .inl (cA, n, .inl f))) (ht : tys[t0]? = some (cA, .boolean)) (j : Nat) {i : Int32} (hi : i = nI j) (hj : j < n) (hn : n < 2 ^ 31) (hdg : decode cc pc = .ok (.baload, 1))
    (kk : W p l e R s m args below meth c H locs cells slots Q (F0 m (pc + 1) ls (.int (f j) :: rest))) : W p l e R s m args below meth c H locs cells slots Q (F0 m pc ls (.int i :: .ref a :: rest)) := by
  subst hi
  refine va_zald hx hb hK hP q0 t0 ha ht (vp_in_nI hj hn) hdg ?_
  rw [nI_clamp (Nat.lt_trans hj hn)]
  exact kk
theorem me_ist (hx : p.tables.exec = Jvm.exec) (hb : c.code = cc) (hK : va_K D vwCl tys s) (hP : va_P D vwCl ws H) (hD : va_D A ws) (hS : va_S A H0 H locs) (q0 t0 : Nat) {cA : ClassId} {n : Nat} {f : Nat → Int32} (ha : ws[q0]? = some (a, .inl (cA, n, .inl f))) (ht : tys[t0]? = some (cA, .int)) (j : Nat) {i x : Int32} (hi : i = nI j) (hj : j < n) (hn : n < 2 ^ 31) (hdg : decode cc pc = .ok (.iastore, 1))
    (kk : ∀ (H1 : Heap) (locs1 : List Loc), va_P D vwCl (ws.set q0 (a, .inl (cA, n, .inl (upd f j x)))) H1 → va_D A (ws.set q0 (a, .inl (cA, n, .inl (upd f j x)))) → va_S A H0 H1 locs1 → W p l e R s m args below meth c H1 locs1 cells slots Q (F0 m (pc + 1) ls rest)) : W p l e R s m args below meth c H locs cells slots Q (F0 m pc ls (.int x :: .int i :: .ref a :: rest)) := by
  subst hi
  refine va_iast hx hb hK hP hD hS q0 t0 ha ht (vp_in_nI hj hn) hdg ?_
  rw [nI_clamp (Nat.lt_trans hj hn)]
  exact kk
theorem me_zst (hx : p.tables.exec = Jvm.exec) (hb : c.code = cc) (hK : va_K D vwCl tys s) (hP : va_P D vwCl ws H) (hD : va_D A ws) (hS : va_S A H0 H locs) (q0 t0 : Nat) {cA : ClassId} {n : Nat} {f : Nat → Int32} (ha : ws[q0]? = some (a, .inl (cA, n, .inl f))) (ht : tys[t0]? = some (cA, .boolean)) (j : Nat) {i x : Int32} (hi : i = nI j) (hj : j < n) (hn : n < 2 ^ 31) (hnar : vp_nar .boolean x = x) (hdg : decode cc pc = .ok (.bastore, 1))
    (kk : ∀ (H1 : Heap) (locs1 : List Loc), va_P D vwCl (ws.set q0 (a, .inl (cA, n, .inl (upd f j x)))) H1 → va_D A (ws.set q0 (a, .inl (cA, n, .inl (upd f j x)))) → va_S A H0 H1 locs1 → W p l e R s m args below meth c H1 locs1 cells slots Q (F0 m (pc + 1) ls rest)) : W p l e R s m args below meth c H locs cells slots Q (F0 m pc ls (.int x :: .int i :: .ref a :: rest)) := by
  subst hi
  refine va_zast hx hb hK hP hD hS q0 t0 ha ht (vp_in_nI hj hn) hdg ?_
  rw [nI_clamp (Nat.lt_trans hj hn), hnar]
  exact kk
theorem me_qld (hx : p.tables.exec = Jvm.exec) (hb : c.code = cc) (hK : va_K D vwCl tys s) (hP : va_P D vwCl ws H) (q0 t0 : Nat) {cA : ClassId} {C : String} {n : Nat} {f : Nat → Option Nat} (ha : ws[q0]? = some (a, .inl (cA, n, .inr (.inr (.inr (.inr f)))))) (ht : tys[t0]? = some (cA, .object C)) (j b : Nat) {i : Int32} (hi : i = nI j) (hj : j < n) (hn : n < 2 ^ 31) (hf : f j = some b) (hdg : decode cc pc = .ok (.aaload, 1))
    (kk : W p l e R s m args below meth c H locs cells slots Q (F0 m (pc + 1) ls (.ref b :: rest))) : W p l e R s m args below meth c H locs cells slots Q (F0 m pc ls (.int i :: .ref a :: rest)) := by
  subst hi
  refine va_aldq hx hb hK hP q0 t0 ha ht (vp_in_nI hj hn) hdg ?_
  rw [nI_clamp (Nat.lt_trans hj hn), hf]
  exact kk
end RT
/-! numbers -/
theorem me_oi1 : Int32.ofInt 1 = 1 := by decide
theorem me_oim1 : Int32.ofInt (-1) = -1 := by decide
theorem me_inc (j : Nat) : nI j + Int32.ofInt 1 = nI (j + 1) := by rw [me_oi1]; exact nI_1 j
theorem me_dec (j : Nat) : nI (j + 1) + Int32.ofInt (-1) = nI j := by rw [me_oim1]; exact pk_m1 j
noncomputable def me_sw {α : Type} (p : Prop) (a b : α) : α := @ite α p (Classical.propDecidable p) a b
theorem me_swt {α : Type} {p : Prop} {a b : α} (h : p) : me_sw p a b = a := by unfold me_sw; exact if_pos h
theorem me_swf {α : Type} {p : Prop} {a b : α} (h : ¬ p) : me_sw p a b = b := by unfold me_sw; exact if_neg h
noncomputable def me_b (p : Prop) : Int32 := me_sw p 1 0
theorem me_bt {p : Prop} (h : p) : me_b p = 1 := me_swt h
theorem me_bf {p : Prop} (h : ¬ p) : me_b p = 0 := me_swf h
theorem me_b0 {p : Prop} (h : me_b p = 0) : ¬ p := fun q => absurd ((me_bt q).symm.trans h) (by decide)
theorem me_b1 {p : Prop} (h : ¬ me_b p = 0) : p := Classical.byContradiction fun q => h (me_bf q)
theorem me_bc {p : Prop} : me_b p = 0 ∨ me_b p = 1 := (Classical.em p).elim (fun h => Or.inr (me_bt h)) (fun h => Or.inl (me_bf h))
theorem me_bn (p : Prop) : narrow .boolean (.int (me_b p)) = .int (me_b p) := by
  rcases (me_bc (p := p)) with h | h <;> rw [h] <;> rfl
theorem me_nz0 : narrow .boolean (.int 0) = .int 0 := rfl
theorem me_nz1 : narrow .boolean (.int 1) = .int 1 := rfl
theorem me_vz0 : vp_nar .boolean 0 = 0 := rfl
theorem me_vz1 : vp_nar .boolean 1 = 1 := rfl
def me_in (x : Int32) (n : Nat) : Prop := ∃ j : Nat, j < n ∧ x = nI j
theorem me_in1 {x : Int32} {n : Nat} (h : x < 0) (hn : n < 2 ^ 31) : ¬ me_in x n := by
  rintro ⟨j, hj, rfl⟩
  exact nI_pos (Nat.lt_trans hj hn) h
theorem me_in2 {x : Int32} {n : Nat} (h : nI n ≤ x) (hn : n < 2 ^ 31) : ¬ me_in x n := by
  rintro ⟨j, hj, rfl⟩
  exact nI_ge hj hn h
theorem me_in3 {x : Int32} {n : Nat} (h : nI n < x) (hn : n + 1 < 2 ^ 31) : ¬ me_in x (n + 1) := by
  rintro ⟨j, hj, rfl⟩
  have := (nI_ltI (by omega) (by omega)).mp h
  omega
theorem me_ino {x : Int32} {n : Nat} (h0 : ¬ x < 0) (h : ¬ nI n ≤ x) (hn : n < 2 ^ 31) : me_in x n := by
  rcases pk_ix x hn with h1 | h1 | h1
  · exact absurd h1 h0
  · exact absurd h1 h
  · exact h1
theorem me_ino3 {x : Int32} {n : Nat} (h0 : ¬ x < 0) (h : ¬ nI n < x) (hn : n + 1 < 2 ^ 31) : me_in x (n + 1) := by
  rcases pk_ix x hn with h1 | h1 | h1
  · exact absurd h1 h0
  · exfalso
    apply h
    rw [Int32.lt_iff_toInt_lt]
    rw [Int32.le_iff_toInt_le] at h1
    rw [nI_toInt hn] at h1
    rw [nI_toInt (by omega)]
    omega
  · exact h1
theorem me_inI {j n : Nat} (h : j < n) : me_in (nI j) n := ⟨j, h, rfl⟩
theorem me_inlt {j n : Nat} (h : me_in (nI j) n) (hj : j < 2 ^ 31) (hn : n < 2 ^ 31) : j < n := by
  obtain ⟨k, hk, e⟩ := h
  have := (nI_eq hj (Nat.lt_trans hk hn)).mp e
  omega
theorem me_lt {a b : Nat} (ha : a < 2 ^ 31) (hb : b < 2 ^ 31) (h : nI a < nI b) : a < b := (nI_ltI ha hb).mp h
theorem me_nlt {a b : Nat} (ha : a < 2 ^ 31) (hb : b < 2 ^ 31) (h : ¬ nI a < nI b) : b ≤ a := Nat.le_of_not_lt fun q => h ((nI_ltI ha hb).mpr q)
theorem me_le {a b : Nat} (ha : a < 2 ^ 31) (hb : b < 2 ^ 31) (h : nI a ≤ nI b) : a ≤ b := (nI_leI ha hb).mp h
theorem me_nle {a b : Nat} (ha : a < 2 ^ 31) (hb : b < 2 ^ 31) (h : ¬ nI a ≤ nI b) : b < a := Nat.lt_of_not_le fun q => h ((nI_leI ha hb).mpr q)
theorem me_eq {a b : Nat} (ha : a < 2 ^ 31) (hb : b < 2 ^ 31) (h : nI a = nI b) : a = b := (nI_eq ha hb).mp h
theorem me_ne {a b : Nat} (ha : a < 2 ^ 31) (hb : b < 2 ^ 31) (h : ¬ nI a = nI b) : ¬ a = b := fun q => h (by rw [q])
theorem me_decm (d : Nat) : (nI (d + 1) - 1) + Int32.ofInt (-1) = nI d - 1 := by rw [nI_pred, me_oim1, Int32.sub_eq_add_neg]
theorem me_nltle {x y : Int32} (h : x ≤ y) : ¬ y < x := by
  rw [Int32.lt_iff_toInt_lt]
  rw [Int32.le_iff_toInt_le] at h
  omega
theorem me_nlelt {x y : Int32} (h : ¬ x ≤ y) : y < x := by
  rw [Int32.lt_iff_toInt_lt]
  rw [Int32.le_iff_toInt_le] at h
  omega
theorem me_ino4 {x : Int32} {n : Nat} (h0 : ¬ x < 0) (h : x ≤ nI n) (hn : n + 1 < 2 ^ 31) : me_in x (n + 1) := me_ino3 h0 (me_nltle h) hn
theorem me_in4 {x : Int32} {n : Nat} (h : ¬ x ≤ nI n) (hn : n + 1 < 2 ^ 31) : ¬ me_in x (n + 1) := me_in3 (me_nlelt h) hn
theorem me_ino5 {x : Int32} {n : Nat} (h0 : ¬ x < 0) (h : x < nI n) (hn : n < 2 ^ 31) : me_in x n := me_ino h0 (fun q => me_nltle q h) hn
theorem me_in5 {x : Int32} {n : Nat} (h : ¬ x < nI n) (hn : n < 2 ^ 31) : ¬ me_in x n := me_in2 (Classical.byContradiction fun q => h (me_nlelt q)) hn
end
section
/-! the state: st_T of a core (0 codes, 1 xs, 2 ys, 3 numbers, 4 registers, 5 place, 6 recovery entry, 7 count, 8 kinds, 9 targets, 10 values), st_T of the memory (0 words, 1 stored, 2 dirty) -/
abbrev st_T : Type := Nat → Nat → Int32
def st_ks (K : st_T) (f i : Nat) (v : Int32) : st_T := fun g => if g = f then upd (K g) i v else K g
theorem st_kss {K : st_T} {f i : Nat} {v : Int32} : st_ks K f i v f = upd (K f) i v := if_pos rfl
theorem st_ksn {K : st_T} {f i g : Nat} {v : Int32} (h : g ≠ f) : st_ks K f i v g = K g := if_neg h
def st_shl (f : Nat → Int32) (k e : Nat) : Nat → Int32 := fun j => if k ≤ j ∧ j < e then f (j + 1) else f j
def st_cp (f g : Nat → Int32) (lo hi : Nat) : Nat → Int32 := fun j => if lo ≤ j ∧ j < hi then f j else g j
def st_ze (g : Nat → Int32) (hi : Nat) : Nat → Int32 := fun j => if j < hi then 0 else g j
def st_h (K : st_T) : Nat := (K 7 0).toNatClampNeg
def st_p (K : st_T) : Nat := (K 5 0).toNatClampNeg
def st_x (K : st_T) : Nat := (K 1 (st_p K)).toNatClampNeg
def st_y (K : st_T) : Nat := (K 2 (st_p K)).toNatClampNeg
def st_rm (K : st_T) (k : Nat) : st_T := fun g => match g with
  | 7 => upd (K 7) 0 (nI (st_h K - 1))
  | 8 => st_shl (K 8) k (st_h K - 1)
  | 9 => st_shl (K 9) k (st_h K - 1)
  | 10 => st_shl (K 10) k (st_h K - 1)
  | g => K g
def st_ap (K : st_T) (k t v : Int32) : st_T := fun g => match g with
  | 7 => upd (K 7) 0 (nI (st_h K + 1))
  | 8 => upd (K 8) (st_h K) k
  | 9 => upd (K 9) (st_h K) t
  | 10 => upd (K 10) (st_h K) v
  | g => K g
def st_wr (M : st_T) (a : Nat) (v : Int32) : st_T := fun g => match g with
  | 0 => upd (M 0) a v
  | 2 => upd (M 2) (a / 4) 1
  | g => M g
def st_wb (M : st_T) (l : Nat) : st_T := fun g => match g with
  | 1 => st_cp (M 0) (M 1) (4 * l) (4 * l + 4)
  | 2 => upd (M 2) l 0
  | g => M g
noncomputable def st_out (M K : st_T) (k : Nat) : st_T := me_sw (K 8 k = 0) (st_wr M (K 9 k).toNatClampNeg (K 10 k)) (me_sw (K 8 k = 3) M (st_wb M (K 9 k).toNatClampNeg))
noncomputable def st_ln (K : st_T) (k : Nat) : Int32 := me_sw (K 8 k = 0) (K 9 k / 4) (K 9 k)
def st_pa (K : st_T) (o k : Nat) : Prop := ¬ (K 8 o = 3 ∨ K 8 k = 3) ∧ ((K 8 o = 2 ∧ ¬ K 8 k = 1) ∨ ((K 8 o = 2 ∨ K 8 k = 2) ∧ ¬ st_ln K o = st_ln K k))
def st_ml (K : st_T) (k : Nat) : Prop := ∀ o : Nat, o < k → st_pa K o k
noncomputable def st_nv (K : st_T) (w o : Int32) : Nat → Int32
  | 0 => o
  | k + 1 => me_sw (K 8 k = 0 ∧ K 9 k = w) (K 10 k) (st_nv K w o k)
def st_ad (K : st_T) : Int32 := (K 4 (st_y K) + K 3 (st_p K)) &&& 31
def st_a (K : st_T) : Nat := (st_ad K).toNatClampNeg
def st_z (K : st_T) : Int32 := K 0 (st_p K)
def st_wq (room : Nat) (K : st_T) (z : Int32) : Prop := ((z = 3 ∨ z = 7 ∨ z = 8 ∨ z = 9) ∧ room ≤ st_h K) ∨ ((z = 5 ∨ z = 6) ∧ 0 < st_h K)
def st_wt (room : Nat) (K : st_T) : Prop := st_wq room K (st_z K)
def st_ha (K : st_T) : Prop := 24 ≤ st_p K ∨ st_z K = 0
noncomputable def st_nx (K : st_T) : Int32 := me_sw (st_z K = 10 ∧ ¬ K 4 (st_x K) = 0) (K 3 (st_p K)) (nI (st_p K + 1))
noncomputable def st_swK (K M : st_T) (w : Nat) : st_T := me_sw (M 0 w = K 4 0) K (st_ks K 4 0 (M 0 w))
noncomputable def st_swM (K M : st_T) (w x : Nat) : st_T := me_sw (M 0 w = K 4 0) (st_wr M w (K 4 x)) M
theorem st_swKn {K M : st_T} {w : Nat} (g : Nat) (h : g ≠ 4) : st_swK K M w g = K g := by
  unfold st_swK
  rcases Classical.em (M 0 w = K 4 0) with q | q
  · rw [me_swt q]
  · rw [me_swf q, st_ksn h]
noncomputable def st_peK (K M : st_T) : st_T :=
  me_sw (st_z K = 1) (st_ks K 4 (st_x K) (K 3 (st_p K)))
  (me_sw (st_z K = 2) (st_ks K 4 (st_x K) (st_nv K (nI (st_a K)) (M 0 (st_a K)) (st_h K)))
  (me_sw (st_z K = 3) (st_ap K 0 (nI (st_a K)) (K 4 (st_x K)))
  (me_sw (st_z K = 4) (st_ks K 4 (st_x K) (K 4 (st_x K) + K 4 (st_y K)))
  (me_sw (st_z K = 5) (st_swK K M (st_a K))
  (me_sw (st_z K = 7) (st_ap K 3 0 0)
  (me_sw (st_z K = 8) (st_ap K 1 (nI (st_a K / 4)) 0)
  (me_sw (st_z K = 9) (st_ap K 2 (nI (st_a K / 4)) 0) K)))))))
noncomputable def st_peM (K M : st_T) : st_T := me_sw (st_z K = 5) (st_swM K M (st_a K) (st_x K)) M
noncomputable def st_doK (room : Nat) (K M : st_T) : st_T := me_sw (st_ha K ∨ st_wt room K) K (st_ks (st_peK K M) 5 0 (st_nx K))
noncomputable def st_doM (room : Nat) (K M : st_T) : st_T := me_sw (st_ha K ∨ st_wt room K) M (st_peM K M)
noncomputable def st_doA (room : Nat) (K : st_T) : Int32 := me_sw (st_ha K) 2 (me_sw (st_wt room K) 1 0)
def st_bg (K : st_T) : st_T := fun g => match g with
  | 4 => st_ze (K 4) 4
  | 5 => upd (K 5) 0 (K 6 0)
  | 7 => upd (K 7) 0 0
  | g => K g
def st_fb (M : st_T) : st_T := fun g => match g with
  | 0 => st_cp (M 1) (M 0) 0 32
  | 2 => st_ze (M 2) 8
  | g => M g
def st_pu (K : st_T) (i : Nat) (z x y v : Int32) : st_T := fun g => match g with
  | 0 => upd (K 0) i z
  | 1 => upd (K 1) i x
  | 2 => upd (K 2) i y
  | 3 => upd (K 3) i v
  | g => K g
/-- settle: n times the oldest entry leaves -/
noncomputable def st_set : Nat → st_T → st_T → st_T × st_T
  | 0, K, M => (K, M)
  | n + 1, K, M => st_set n (st_rm K 0) (st_out M K 0)
/-- run: up to n steps; how many were done, and what is then -/
noncomputable def st_run (room : Nat) : Nat → st_T → st_T → Nat × st_T × st_T
  | 0, K, M => (0, K, M)
  | n + 1, K, M => me_sw (st_doA room K = 0) ((st_run room n (st_doK room K M) (st_doM room K M)).1 + 1, (st_run room n (st_doK room K M) (st_doM room K M)).2) (0, st_doK room K M, st_doM room K M)
/-- what holds of a core -/
def st_KI (room : Nat) (K : st_T) : Prop :=
  (∃ h, h ≤ room ∧ K 7 0 = nI h) ∧ (∃ q, q ≤ 24 ∧ K 5 0 = nI q) ∧ (∃ r, r < 24 ∧ K 6 0 = nI r) ∧
  (∀ i, i < 24 → (∃ z, z ≤ 10 ∧ K 0 i = nI z) ∧ (∃ x, x < 4 ∧ K 1 i = nI x) ∧ (∃ y, y < 4 ∧ K 2 i = nI y) ∧ (K 0 i = 10 → ∃ q, q < 24 ∧ K 3 i = nI q)) ∧
  (∀ k, k < st_h K → (∃ z, z ≤ 3 ∧ K 8 k = nI z) ∧ (K 8 k = 0 → ∃ a, a < 32 ∧ K 9 k = nI a) ∧ (¬ K 8 k = 0 → ∃ q, q < 8 ∧ K 9 k = nI q))
theorem st_aI (K : st_T) : st_ad K = nI (st_a K) ∧ st_a K < 32 := by
  obtain ⟨j, hj, e⟩ := pk_andE (K 4 (st_y K) + K 3 (st_p K)) (m := 31) 5 (by decide)
  have e1 : st_ad K = nI j := e
  have e2 : st_a K = j := by unfold st_a; rw [e1]; exact nI_clamp (by omega)
  rw [e2]
  exact ⟨e1, hj⟩
theorem st_cp0 {f g : Nat → Int32} {lo : Nat} : st_cp f g lo lo = g := by
  funext j
  unfold st_cp
  rw [if_neg (by omega)]
theorem st_cpS {f g : Nat → Int32} {lo j : Nat} (h : lo ≤ j) : upd (st_cp f g lo j) j (f j) = st_cp f g lo (j + 1) := by
  funext q
  unfold upd st_cp
  by_cases h1 : q = j
  · subst h1
    rw [if_pos rfl, if_pos (by omega)]
  · rw [if_neg h1]
    by_cases h2 : lo ≤ q ∧ q < j
    · rw [if_pos h2, if_pos (by omega)]
    · rw [if_neg h2, if_neg (by omega)]
theorem st_ze0 {g : Nat → Int32} : st_ze g 0 = g := by
  funext j
  unfold st_ze
  rw [if_neg (by omega)]
theorem st_zeS {g : Nat → Int32} {j : Nat} : upd (st_ze g j) j 0 = st_ze g (j + 1) := by
  funext q
  unfold upd st_ze
  by_cases h1 : q = j
  · subst h1
    rw [if_pos rfl, if_pos (by omega)]
  · rw [if_neg h1]
    by_cases h2 : q < j
    · rw [if_pos h2, if_pos (by omega)]
    · rw [if_neg h2, if_neg (by omega)]
theorem st_sh0 {f : Nat → Int32} {k : Nat} : st_shl f k k = f := by
  funext j
  unfold st_shl
  rw [if_neg (by omega)]
theorem st_shS {f : Nat → Int32} {k j : Nat} (h : k ≤ j) : upd (st_shl f k j) j (st_shl f k j (j + 1)) = st_shl f k (j + 1) := by
  funext q
  unfold upd st_shl
  by_cases h1 : q = j
  · subst h1
    rw [if_pos rfl, if_neg (by omega), if_pos (by omega)]
  · rw [if_neg h1]
    by_cases h2 : k ≤ q ∧ q < j
    · rw [if_pos h2, if_pos (by omega)]
    · rw [if_neg h2, if_neg (by omega)]
theorem st_wq3 {ro z : Nat} {K : st_T} (h : z = 3 ∨ z = 7 ∨ z = 8 ∨ z = 9) : st_wq ro K (nI z) ↔ ro ≤ st_h K := by
  unfold st_wq
  rcases h with rfl | rfl | rfl | rfl
  · exact ⟨fun q => q.elim (fun a => a.2) (fun a => absurd a.1 (by decide)), fun q => Or.inl ⟨by decide, q⟩⟩
  · exact ⟨fun q => q.elim (fun a => a.2) (fun a => absurd a.1 (by decide)), fun q => Or.inl ⟨by decide, q⟩⟩
  · exact ⟨fun q => q.elim (fun a => a.2) (fun a => absurd a.1 (by decide)), fun q => Or.inl ⟨by decide, q⟩⟩
  · exact ⟨fun q => q.elim (fun a => a.2) (fun a => absurd a.1 (by decide)), fun q => Or.inl ⟨by decide, q⟩⟩
theorem st_wq5 {ro z : Nat} {K : st_T} (h : z = 5 ∨ z = 6) : st_wq ro K (nI z) ↔ 0 < st_h K := by
  unfold st_wq
  rcases h with rfl | rfl
  · exact ⟨fun q => q.elim (fun a => absurd a.1 (by decide)) (fun a => a.2), fun q => Or.inr ⟨by decide, q⟩⟩
  · exact ⟨fun q => q.elim (fun a => absurd a.1 (by decide)) (fun a => a.2), fun q => Or.inr ⟨by decide, q⟩⟩
theorem st_wq0 {ro z : Nat} {K : st_T} (h : z = 0 ∨ z = 1 ∨ z = 2 ∨ z = 4 ∨ z = 10) : ¬ st_wq ro K (nI z) := by
  unfold st_wq
  rcases h with rfl | rfl | rfl | rfl | rfl <;> exact fun q => q.elim (fun a => absurd a.1 (by decide)) (fun a => absurd a.1 (by decide))
theorem st_zn {K : st_T} {z : Nat} {k : Int32} (h : K 0 (st_p K) = nI z) (hk : ¬ nI z = k) : ¬ st_z K = k := fun q => hk (h.symm.trans q)
theorem st_peK_0 {K M : st_T} (h : K 0 (st_p K) = nI 0) : st_peK K M = K := (me_swf (st_zn h (by decide))).trans ((me_swf (st_zn h (by decide))).trans ((me_swf (st_zn h (by decide))).trans ((me_swf (st_zn h (by decide))).trans ((me_swf (st_zn h (by decide))).trans ((me_swf (st_zn h (by decide))).trans ((me_swf (st_zn h (by decide))).trans (me_swf (st_zn h (by decide)))))))))
theorem st_peM_0 {K M : st_T} (h : K 0 (st_p K) = nI 0) : st_peM K M = M := me_swf (st_zn h (by decide))
theorem st_peK_1 {K M : st_T} (h : K 0 (st_p K) = nI 1) : st_peK K M = st_ks K 4 (st_x K) (K 3 (st_p K)) := me_swt h
theorem st_peM_1 {K M : st_T} (h : K 0 (st_p K) = nI 1) : st_peM K M = M := me_swf (st_zn h (by decide))
theorem st_peK_2 {K M : st_T} (h : K 0 (st_p K) = nI 2) : st_peK K M = st_ks K 4 (st_x K) (st_nv K (nI (st_a K)) (M 0 (st_a K)) (st_h K)) := (me_swf (st_zn h (by decide))).trans (me_swt h)
theorem st_peM_2 {K M : st_T} (h : K 0 (st_p K) = nI 2) : st_peM K M = M := me_swf (st_zn h (by decide))
theorem st_peK_3 {K M : st_T} (h : K 0 (st_p K) = nI 3) : st_peK K M = st_ap K 0 (nI (st_a K)) (K 4 (st_x K)) := (me_swf (st_zn h (by decide))).trans ((me_swf (st_zn h (by decide))).trans (me_swt h))
theorem st_peM_3 {K M : st_T} (h : K 0 (st_p K) = nI 3) : st_peM K M = M := me_swf (st_zn h (by decide))
theorem st_peK_4 {K M : st_T} (h : K 0 (st_p K) = nI 4) : st_peK K M = st_ks K 4 (st_x K) (K 4 (st_x K) + K 4 (st_y K)) := (me_swf (st_zn h (by decide))).trans ((me_swf (st_zn h (by decide))).trans ((me_swf (st_zn h (by decide))).trans (me_swt h)))
theorem st_peM_4 {K M : st_T} (h : K 0 (st_p K) = nI 4) : st_peM K M = M := me_swf (st_zn h (by decide))
theorem st_peK_5 {K M : st_T} (h : K 0 (st_p K) = nI 5) : st_peK K M = st_swK K M (st_a K) := (me_swf (st_zn h (by decide))).trans ((me_swf (st_zn h (by decide))).trans ((me_swf (st_zn h (by decide))).trans ((me_swf (st_zn h (by decide))).trans (me_swt h))))
theorem st_peM_5 {K M : st_T} (h : K 0 (st_p K) = nI 5) : st_peM K M = st_swM K M (st_a K) (st_x K) := me_swt h
theorem st_peK_6 {K M : st_T} (h : K 0 (st_p K) = nI 6) : st_peK K M = K := (me_swf (st_zn h (by decide))).trans ((me_swf (st_zn h (by decide))).trans ((me_swf (st_zn h (by decide))).trans ((me_swf (st_zn h (by decide))).trans ((me_swf (st_zn h (by decide))).trans ((me_swf (st_zn h (by decide))).trans ((me_swf (st_zn h (by decide))).trans (me_swf (st_zn h (by decide)))))))))
theorem st_peM_6 {K M : st_T} (h : K 0 (st_p K) = nI 6) : st_peM K M = M := me_swf (st_zn h (by decide))
theorem st_peK_7 {K M : st_T} (h : K 0 (st_p K) = nI 7) : st_peK K M = st_ap K 3 0 0 := (me_swf (st_zn h (by decide))).trans ((me_swf (st_zn h (by decide))).trans ((me_swf (st_zn h (by decide))).trans ((me_swf (st_zn h (by decide))).trans ((me_swf (st_zn h (by decide))).trans (me_swt h)))))
theorem st_peM_7 {K M : st_T} (h : K 0 (st_p K) = nI 7) : st_peM K M = M := me_swf (st_zn h (by decide))
theorem st_peK_8 {K M : st_T} (h : K 0 (st_p K) = nI 8) : st_peK K M = st_ap K 1 (nI (st_a K / 4)) 0 := (me_swf (st_zn h (by decide))).trans ((me_swf (st_zn h (by decide))).trans ((me_swf (st_zn h (by decide))).trans ((me_swf (st_zn h (by decide))).trans ((me_swf (st_zn h (by decide))).trans ((me_swf (st_zn h (by decide))).trans (me_swt h))))))
theorem st_peM_8 {K M : st_T} (h : K 0 (st_p K) = nI 8) : st_peM K M = M := me_swf (st_zn h (by decide))
theorem st_peK_9 {K M : st_T} (h : K 0 (st_p K) = nI 9) : st_peK K M = st_ap K 2 (nI (st_a K / 4)) 0 := (me_swf (st_zn h (by decide))).trans ((me_swf (st_zn h (by decide))).trans ((me_swf (st_zn h (by decide))).trans ((me_swf (st_zn h (by decide))).trans ((me_swf (st_zn h (by decide))).trans ((me_swf (st_zn h (by decide))).trans ((me_swf (st_zn h (by decide))).trans (me_swt h)))))))
theorem st_peM_9 {K M : st_T} (h : K 0 (st_p K) = nI 9) : st_peM K M = M := me_swf (st_zn h (by decide))
theorem st_peK_10 {K M : st_T} (h : K 0 (st_p K) = nI 10) : st_peK K M = K := (me_swf (st_zn h (by decide))).trans ((me_swf (st_zn h (by decide))).trans ((me_swf (st_zn h (by decide))).trans ((me_swf (st_zn h (by decide))).trans ((me_swf (st_zn h (by decide))).trans ((me_swf (st_zn h (by decide))).trans ((me_swf (st_zn h (by decide))).trans (me_swf (st_zn h (by decide)))))))))
theorem st_peM_10 {K M : st_T} (h : K 0 (st_p K) = nI 10) : st_peM K M = M := me_swf (st_zn h (by decide))
theorem st_hE {K : st_T} {h : Nat} (e : K 7 0 = nI h) (hh : h < 2 ^ 31) : st_h K = h := by unfold st_h; rw [e]; exact nI_clamp hh
theorem st_KIh {ro : Nat} {K : st_T} (h : st_KI ro K) (hro : ro ≤ 8) : K 7 0 = nI (st_h K) ∧ st_h K ≤ ro := by
  obtain ⟨⟨j, hj, e⟩, -⟩ := h
  rw [st_hE e (by omega)]
  exact ⟨e, hj⟩
theorem st_KIp {ro : Nat} {K : st_T} (h : st_KI ro K) : K 5 0 = nI (st_p K) ∧ st_p K ≤ 24 := by
  obtain ⟨-, ⟨j, hj, e⟩, -⟩ := h
  have e2 : st_p K = j := by unfold st_p; rw [e]; exact nI_clamp (by omega)
  rw [e2]
  exact ⟨e, hj⟩
theorem st_KIc {ro : Nat} {K : st_T} (h : st_KI ro K) : st_p K < 24 → ∃ z, z ≤ 10 ∧ K 0 (st_p K) = nI z ∧ K 1 (st_p K) = nI (st_x K) ∧ st_x K < 4 ∧ K 2 (st_p K) = nI (st_y K) ∧ st_y K < 4 := by
  intro hp
  obtain ⟨⟨z, hz, ez⟩, ⟨x, hx, ex⟩, ⟨y, hy, ey⟩, -⟩ := h.2.2.2.1 _ hp
  have e1 : st_x K = x := by unfold st_x; rw [ex]; exact nI_clamp (by omega)
  have e2 : st_y K = y := by unfold st_y; rw [ey]; exact nI_clamp (by omega)
  rw [e1, e2]
  exact ⟨z, hz, ez, ex, hx, ey, hy⟩
theorem st_KI0 {ro : Nat} {K : st_T} (h : st_KI ro K) {k : Nat} (hk : k < st_h K) : K 8 k = 0 → K 9 k = nI (K 9 k).toNatClampNeg ∧ (K 9 k).toNatClampNeg < 32 := by
  intro q
  obtain ⟨a, ha, e⟩ := (h.2.2.2.2 k hk).2.1 q
  rw [e, nI_clamp (by omega)]
  exact ⟨rfl, ha⟩
theorem st_KI1 {ro : Nat} {K : st_T} (h : st_KI ro K) {k : Nat} (hk : k < st_h K) : ¬ K 8 k = 0 → K 9 k = nI (K 9 k).toNatClampNeg ∧ (K 9 k).toNatClampNeg < 8 := by
  intro q
  obtain ⟨a, ha, e⟩ := (h.2.2.2.2 k hk).2.2 q
  rw [e, nI_clamp (by omega)]
  exact ⟨rfl, ha⟩
/-! worlds of the class -/
abbrev me_TYS (cI cZ cR : ClassId) : me_TY := [(cI, .int), (cZ, .boolean), (cR, .object "StoreBufferCores$Core")]
abbrev w_sh (b : Nat → Nat) (cI cZ : ClassId) (M : st_T) : va_W := [(b 0, .inr (2, [.ref (b 1), .ref (b 2), .ref (b 3)])), (b 1, .inl (cI, 32, .inl (M 0))), (b 2, .inl (cI, 32, .inl (M 1))), (b 3, .inl (cZ, 8, .inl (M 2)))]
abbrev w_bu (a : Nat → Nat) (cI : ClassId) (ro : Nat) (K : st_T) : va_W := [(a 6, .inr (0, [.ref (a 7), .ref (a 8), .ref (a 9), .int (K 7 0)])), (a 7, .inl (cI, ro, .inl (K 8))), (a 8, .inl (cI, ro, .inl (K 9))), (a 9, .inl (cI, ro, .inl (K 10)))]
abbrev w_co (a : Nat → Nat) (cI : ClassId) (K : st_T) : va_W := [(a 0, .inr (1, [.ref (a 1), .ref (a 2), .ref (a 3), .ref (a 4), .ref (a 5), .ref (a 6), .int (K 5 0), .int (K 6 0)])), (a 1, .inl (cI, 4, .inl (K 4))), (a 2, .inl (cI, 24, .inl (K 0))), (a 3, .inl (cI, 24, .inl (K 1))), (a 4, .inl (cI, 24, .inl (K 2))), (a 5, .inl (cI, 24, .inl (K 3)))]
abbrev w_ba (o rw : Nat) (cR : ClassId) (n : Nat) (gq : Nat → Option Nat) (b : Nat → Nat) : va_W := [(o, .inr (3, [.ref (b 0), .ref (rw)])), (rw, .inl (cR, n, .inr (.inr (.inr (.inr (gq))))))]
def w_cr (ad : Nat → Nat → Nat) (cI : ClassId) (ro : Nat) (C : Nat → st_T) (l : List Nat) : va_W := l.flatMap (fun d => w_co (ad d) cI (C d) ++ w_bu (ad d) cI ro (C d))
end
section
/-! pure rows about the state -/
def st_puG (n : Nat) (core i z x y v : Int32) : Prop := me_in core n ∧ me_in i 24 ∧ me_in z 11 ∧ me_in x 4 ∧ me_in y 4 ∧ (z = 10 → me_in v 24)
noncomputable def st_putK (n : Nat) (core : Int32) (K : st_T) (i z x y v : Int32) : st_T := me_sw (st_puG n core i z x y v) (st_pu K i.toNatClampNeg z x y v) K
def st_drG (n : Nat) (core : Int32) (K : st_T) (k : Int32) : Prop := me_in core n ∧ me_in k (st_h K) ∧ st_ml K k.toNatClampNeg
theorem st_rm_h {K : st_T} {k : Nat} (h : st_h K < 2 ^ 31) : st_h (st_rm K k) = st_h K - 1 := st_hE (K := st_rm K k) rfl (by omega)
theorem st_rm_n {K : st_T} {k g : Nat} (hg : g < 7) : st_rm K k g = K g := by
  rcases (show g = 0 ∨ g = 1 ∨ g = 2 ∨ g = 3 ∨ g = 4 ∨ g = 5 ∨ g = 6 by omega) with rfl | rfl | rfl | rfl | rfl | rfl | rfl <;> rfl
theorem st_ap_h {K : st_T} {k t v : Int32} (h : st_h K + 1 < 2 ^ 31) : st_h (st_ap K k t v) = st_h K + 1 := st_hE (K := st_ap K k t v) rfl h
theorem st_setS {m m' : Nat} {K M : st_T} (h : m = m' + 1) : st_set m K M = st_set m' (st_rm K 0) (st_out M K 0) := by subst h; rfl
theorem st_runS {ro v j : Nat} {K M K1 M1 : st_T} (hj : j < v) (h3 : st_run ro v K M = ((st_run ro (v - j) K1 M1).1 + j, (st_run ro (v - j) K1 M1).2)) (hb : st_doA ro K1 = 0) : st_run ro v K M = ((st_run ro (v - (j + 1)) (st_doK ro K1 M1) (st_doM ro K1 M1)).1 + (j + 1), (st_run ro (v - (j + 1)) (st_doK ro K1 M1) (st_doM ro K1 M1)).2) := by
  obtain ⟨i, hi⟩ : ∃ i, v - j = i + 1 := ⟨v - j - 1, by omega⟩
  rw [show v - (j + 1) = i by omega]
  rw [hi] at h3
  rw [h3]
  have e : st_run ro (i + 1) K1 M1 = ((st_run ro i (st_doK ro K1 M1) (st_doM ro K1 M1)).1 + 1, (st_run ro i (st_doK ro K1 M1) (st_doM ro K1 M1)).2) := me_swt hb
  rw [e]
  simp only [Prod.mk.injEq, and_true]
  omega
theorem st_runX {ro v j : Nat} {K M K1 M1 : st_T} (hj : j < v) (h3 : st_run ro v K M = ((st_run ro (v - j) K1 M1).1 + j, (st_run ro (v - j) K1 M1).2)) (hb : ¬ st_doA ro K1 = 0) : st_run ro v K M = (j, st_doK ro K1 M1, st_doM ro K1 M1) := by
  obtain ⟨i, hi⟩ : ∃ i, v - j = i + 1 := ⟨v - j - 1, by omega⟩
  rw [hi] at h3
  rw [h3]
  have e : st_run ro (i + 1) K1 M1 = (0, st_doK ro K1 M1, st_doM ro K1 M1) := me_swf hb
  rw [e, Nat.zero_add]
theorem st_runY {ro v j : Nat} {K M K1 M1 : st_T} (hj : v ≤ j) (h3 : st_run ro v K M = ((st_run ro (v - j) K1 M1).1 + j, (st_run ro (v - j) K1 M1).2)) : st_run ro v K M = (j, K1, M1) := by
  rw [show v - j = 0 by omega] at h3
  rw [h3]
  show (0 + j, (K1, M1)) = _
  rw [Nat.zero_add]
theorem st_KIrm {ro : Nat} {K : st_T} {k : Nat} (h : st_KI ro K) (hro : ro ≤ 8) (hk : k < st_h K) : st_KI ro (st_rm K k) := by
  obtain ⟨hh, hb⟩ := st_KIh h hro
  obtain ⟨-, h2, h3, h4, h5⟩ := h
  have e : st_h (st_rm K k) = st_h K - 1 := st_rm_h (by omega)
  refine ⟨⟨st_h K - 1, by omega, rfl⟩, h2, h3, h4, ?_⟩
  rw [e]
  intro j hj
  by_cases c : k ≤ j ∧ j < st_h K - 1
  · have e8 : st_rm K k 8 j = K 8 (j + 1) := if_pos c
    have e9 : st_rm K k 9 j = K 9 (j + 1) := if_pos c
    rw [e8, e9]
    exact h5 (j + 1) (by omega)
  · have e8 : st_rm K k 8 j = K 8 j := if_neg c
    have e9 : st_rm K k 9 j = K 9 j := if_neg c
    rw [e8, e9]
    exact h5 j (by omega)
theorem st_KIap {ro : Nat} {K : st_T} {k t v : Int32} (h : st_KI ro K) (hro : ro ≤ 8) (hlt : st_h K < ro) (hz : ∃ z, z ≤ 3 ∧ k = nI z) (h0 : k = 0 → ∃ a, a < 32 ∧ t = nI a) (h1 : ¬ k = 0 → ∃ q, q < 8 ∧ t = nI q) : st_KI ro (st_ap K k t v) := by
  obtain ⟨-, h2, h3, h4, h5⟩ := h
  have e : st_h (st_ap K k t v) = st_h K + 1 := st_ap_h (by omega)
  refine ⟨⟨st_h K + 1, by omega, rfl⟩, h2, h3, h4, ?_⟩
  rw [e]
  intro j hj
  by_cases c : j = st_h K
  · have e8 : st_ap K k t v 8 j = k := if_pos c
    have e9 : st_ap K k t v 9 j = t := if_pos c
    rw [e8, e9]
    exact ⟨hz, h0, h1⟩
  · have e8 : st_ap K k t v 8 j = K 8 j := if_neg c
    have e9 : st_ap K k t v 9 j = K 9 j := if_neg c
    rw [e8, e9]
    exact h5 j (by omega)
theorem st_KI4 {ro i : Nat} {K : st_T} {v : Int32} (h : st_KI ro K) : st_KI ro (st_ks K 4 i v) := h
theorem st_KI5 {ro q : Nat} {K : st_T} {v : Int32} (h : st_KI ro K) (hq : q ≤ 24) (hv : v = nI q) : st_KI ro (st_ks K 5 0 v) := ⟨h.1, ⟨q, hq, hv⟩, h.2.2⟩
theorem st_KI6 {ro q : Nat} {K : st_T} {v : Int32} (h : st_KI ro K) (hq : q < 24) (hv : v = nI q) : st_KI ro (st_ks K 6 0 v) := ⟨h.1, h.2.1, ⟨q, hq, hv⟩, h.2.2.2⟩
theorem st_KIbg {ro : Nat} {K : st_T} (h : st_KI ro K) : st_KI ro (st_bg K) := by
  obtain ⟨h1, h2, ⟨r, hr, e⟩, h4, h5⟩ := h
  refine ⟨⟨0, Nat.zero_le _, rfl⟩, ⟨r, by omega, e⟩, ⟨r, hr, e⟩, h4, ?_⟩
  intro k hk
  rw [st_hE (K := st_bg K) (h := 0) rfl (by decide)] at hk
  omega
theorem st_KIpu {ro i : Nat} {K : st_T} {z x y v : Int32} (h : st_KI ro K) (hz : me_in z 11) (hx : me_in x 4) (hy : me_in y 4) (hv : z = 10 → me_in v 24) : st_KI ro (st_pu K i z x y v) := by
  obtain ⟨h1, h2, h3, h4, h5⟩ := h
  refine ⟨h1, h2, h3, ?_, h5⟩
  intro j hj
  by_cases c : j = i
  · have e0 : st_pu K i z x y v 0 j = z := if_pos c
    have e1 : st_pu K i z x y v 1 j = x := if_pos c
    have e2 : st_pu K i z x y v 2 j = y := if_pos c
    have e3 : st_pu K i z x y v 3 j = v := if_pos c
    rw [e0, e1, e2, e3]
    obtain ⟨a, ha, ea⟩ := hz
    exact ⟨⟨a, by omega, ea⟩, hx, hy, hv⟩
  · have e0 : st_pu K i z x y v 0 j = K 0 j := if_neg c
    have e1 : st_pu K i z x y v 1 j = K 1 j := if_neg c
    have e2 : st_pu K i z x y v 2 j = K 2 j := if_neg c
    have e3 : st_pu K i z x y v 3 j = K 3 j := if_neg c
    rw [e0, e1, e2, e3]
    exact h4 j hj
theorem st_KI00 {ro : Nat} : st_KI ro (fun _ _ => 0) := by
  refine ⟨⟨0, Nat.zero_le _, rfl⟩, ⟨0, by decide, rfl⟩, ⟨0, by decide, rfl⟩, fun i hi => ⟨⟨0, by decide, rfl⟩, ⟨0, by decide, rfl⟩, ⟨0, by decide, rfl⟩, fun q => absurd (show (0 : Int32) = 10 from q) (by decide)⟩, fun k hk => ?_⟩
  rw [st_hE (K := fun _ _ => 0) (h := 0) rfl (by decide)] at hk
  omega
theorem st_KIpe {ro : Nat} {K M : st_T} (h : st_KI ro K) (hro : ro ≤ 8) (hp : st_p K < 24) (hw : ¬ st_wt ro K) : st_KI ro (st_peK K M) := by
  obtain ⟨z, hz, e, -⟩ := st_KIc h hp
  obtain ⟨ha, ha1⟩ := st_aI K
  have hw : ¬ st_wq ro K (nI z) := by
    intro q
    apply hw
    unfold st_wt st_z
    rw [e]
    exact q
  have hlt : (z = 3 ∨ z = 7 ∨ z = 8 ∨ z = 9) → st_h K < ro := fun q => Nat.lt_of_not_le (fun r => hw ((st_wq3 q).mpr r))
  rcases (show z = 0 ∨ z = 1 ∨ z = 2 ∨ z = 3 ∨ z = 4 ∨ z = 5 ∨ z = 6 ∨ z = 7 ∨ z = 8 ∨ z = 9 ∨ z = 10 by omega) with rfl | rfl | rfl | rfl | rfl | rfl | rfl | rfl | rfl | rfl | rfl
  · rw [st_peK_0 e]; exact h
  · rw [st_peK_1 e]; exact st_KI4 h
  · rw [st_peK_2 e]; exact st_KI4 h
  · rw [st_peK_3 e]; exact st_KIap h hro (hlt (by decide)) ⟨0, by decide, rfl⟩ (fun _ => ⟨st_a K, ha1, rfl⟩) (fun q => absurd rfl q)
  · rw [st_peK_4 e]; exact st_KI4 h
  · rw [st_peK_5 e]
    unfold st_swK
    rcases Classical.em (M 0 (st_a K) = K 4 0) with q | q
    · rw [me_swt q]; exact h
    · rw [me_swf q]; exact st_KI4 h
  · rw [st_peK_6 e]; exact h
  · rw [st_peK_7 e]; exact st_KIap h hro (hlt (by decide)) ⟨3, by decide, rfl⟩ (fun q => absurd q (by decide)) (fun _ => ⟨0, by decide, rfl⟩)
  · rw [st_peK_8 e]; exact st_KIap h hro (hlt (by decide)) ⟨1, by decide, rfl⟩ (fun q => absurd q (by decide)) (fun _ => ⟨st_a K / 4, by omega, rfl⟩)
  · rw [st_peK_9 e]; exact st_KIap h hro (hlt (by decide)) ⟨2, by decide, rfl⟩ (fun q => absurd q (by decide)) (fun _ => ⟨st_a K / 4, by omega, rfl⟩)
  · rw [st_peK_10 e]; exact h
theorem st_KIdo {ro : Nat} {K M : st_T} (h : st_KI ro K) (hro : ro ≤ 8) : st_KI ro (st_doK ro K M) := by
  unfold st_doK
  rcases Classical.em (st_ha K ∨ st_wt ro K) with q | q
  · rw [me_swt q]; exact h
  · rw [me_swf q]
    have hp : st_p K < 24 := Nat.lt_of_not_le fun r => q (Or.inl (Or.inl r))
    have hk := st_KIpe (M := M) h hro hp (fun r => q (Or.inr r))
    unfold st_nx
    rcases Classical.em (st_z K = 10 ∧ ¬ K 4 (st_x K) = 0) with r | r
    · rw [me_swt r]
      obtain ⟨j, hj, e⟩ := (h.2.2.2.1 _ hp).2.2.2 r.1
      exact st_KI5 hk (Nat.le_of_lt hj) e
    · rw [me_swf r]
      exact st_KI5 hk (show st_p K + 1 ≤ 24 by omega) rfl
theorem st_KIrun {ro : Nat} (hro : ro ≤ 8) : ∀ (v : Nat) (K M : st_T), st_KI ro K → st_KI ro (st_run ro v K M).2.1
  | 0, _, _, h => h
  | v + 1, K, M, h => by
    have ih := st_KIrun hro v (st_doK ro K M) (st_doM ro K M) (st_KIdo h hro)
    rcases Classical.em (st_doA ro K = 0) with q | q
    · rw [show st_run ro (v + 1) K M = ((st_run ro v (st_doK ro K M) (st_doM ro K M)).1 + 1, (st_run ro v (st_doK ro K M) (st_doM ro K M)).2) from me_swt q]
      exact ih
    · rw [show st_run ro (v + 1) K M = (0, st_doK ro K M, st_doM ro K M) from me_swf q]
      exact st_KIdo h hro
theorem st_KIset {ro : Nat} (hro : ro ≤ 8) : ∀ (v : Nat) (K M : st_T), st_KI ro K → v ≤ st_h K → st_KI ro (st_set v K M).1
  | 0, _, _, h, _ => h
  | v + 1, K, M, h, hv => by
    have hb := (st_KIh h hro).2
    exact st_KIset hro v (st_rm K 0) (st_out M K 0) (st_KIrm h hro (by omega)) (by rw [st_rm_h (by omega)]; omega)
end
section
/-! the reference's flat arrays, and its times -/
def st_fl (w : Nat) (C : Nat → st_T) (f : Nat) : Nat → Int32 := fun q => C (q / w) f (q % w)
def st_f1 (C : Nat → st_T) (f : Nat) : Nat → Int32 := fun q => C q f 0
abbrev tm_T : Type := Nat × (Nat → Int32) × (Nat → Int32)
def tm_wr (t : tm_T) (a : Nat) : tm_T := (t.1 + 1, upd t.2.1 a (nI (t.1 + 1)), t.2.2)
def tm_wb (t : tm_T) (q : Nat) : tm_T := (t.1 + 1, t.2.1, upd t.2.2 q (nI (t.1 + 1)))
def tm_al (t : Int32) (g : Nat → Int32) (e : Nat) : Nat → Int32 := fun j => if j < e then t else g j
def tm_fb (t : tm_T) : tm_T := (t.1 + 1, t.2.1, tm_al (nI (t.1 + 1)) t.2.2 8)
noncomputable def tm_out (t : tm_T) (K : st_T) (k : Nat) : tm_T := me_sw (K 8 k = 0) (tm_wr t (K 9 k).toNatClampNeg) (me_sw (K 8 k = 3) t (tm_wb t (K 9 k).toNatClampNeg))
noncomputable def tm_sw (t : tm_T) (K M : st_T) (w : Nat) : tm_T := me_sw (M 0 w = K 4 0) (tm_wr t w) t
noncomputable def tm_pe (t : tm_T) (K M : st_T) : tm_T := me_sw (st_z K = 5) (tm_sw t K M (st_a K)) t
noncomputable def tm_do (ro : Nat) (t : tm_T) (K M : st_T) : tm_T := me_sw (st_ha K ∨ st_wt ro K) t (tm_pe t K M)
noncomputable def tm_set : Nat → tm_T → st_T → tm_T
  | 0, t, _ => t
  | n + 1, t, K => tm_set n (tm_out t K 0) (st_rm K 0)
noncomputable def tm_run (ro : Nat) : Nat → tm_T → st_T → st_T → tm_T
  | 0, t, _, _ => t
  | n + 1, t, K, M => me_sw (st_doA ro K = 0) (tm_run ro n (tm_do ro t K M) (st_doK ro K M) (st_doM ro K M)) (tm_do ro t K M)
theorem st_flA {w kc i f : Nat} {C : Nat → st_T} {K : st_T} (hCK : C kc = K) (hi : i < w) : st_fl w C f (w * kc + i) = K f i := by
  unfold st_fl
  rw [Nat.mul_add_div (by omega), Nat.div_eq_of_lt hi, Nat.add_zero, Nat.mul_add_mod, Nat.mod_eq_of_lt hi, hCK]
theorem st_flA0 {w kc f : Nat} {C : Nat → st_T} {K : st_T} (hCK : C kc = K) (hi : 0 < w) : st_fl w C f (w * kc) = K f 0 := st_flA (i := 0) hCK hi
theorem st_f1A {kc f : Nat} {C : Nat → st_T} {K : st_T} (hCK : C kc = K) : st_f1 C f kc = K f 0 := by
  unfold st_f1
  rw [hCK]
theorem st_upK {kc : Nat} {C : Nat → st_T} {K : st_T} (hCK : C kc = K) : va_up C kc K = C := by
  funext j
  unfold va_up
  by_cases h : j = kc
  · rw [if_pos h, h, hCK]
  · rw [if_neg h]
theorem st_upC {kc : Nat} {C : Nat → st_T} {K : st_T} : va_up C kc K kc = K := if_pos rfl
theorem st_flN {w kc f : Nat} {C : Nat → st_T} {K K2 : st_T} (hCK : C kc = K) (h : K2 f = K f) : st_fl w (va_up C kc K2) f = st_fl w C f := by
  funext q
  unfold st_fl va_up
  by_cases c : q / w = kc
  · rw [if_pos c, h, c, hCK]
  · rw [if_neg c]
theorem st_f1N {kc f : Nat} {C : Nat → st_T} {K K2 : st_T} (hCK : C kc = K) (h : K2 f = K f) : st_f1 (va_up C kc K2) f = st_f1 C f := by
  funext q
  unfold st_f1 va_up
  by_cases c : q = kc
  · rw [if_pos c, h, c, hCK]
  · rw [if_neg c]
theorem st_flP {w kc f i : Nat} {C : Nat → st_T} {K K2 : st_T} {v : Int32} (hCK : C kc = K) (hi : i < w) (h : K2 f = upd (K f) i v) : st_fl w (va_up C kc K2) f = upd (st_fl w C f) (w * kc + i) v := by
  funext q
  have hq : q = w * (q / w) + q % w := (Nat.div_add_mod q w).symm
  have hm : q % w < w := Nat.mod_lt _ (by omega)
  by_cases c : q / w = kc
  · by_cases d : q % w = i
    · have e : q = w * kc + i := by rw [← c, ← d]; exact hq
      unfold upd
      rw [if_pos e]
      unfold st_fl va_up
      rw [if_pos c, h, d]
      exact if_pos rfl
    · have e : ¬ q = w * kc + i := fun z => d (by rw [z, Nat.mul_add_mod, Nat.mod_eq_of_lt hi])
      unfold upd
      rw [if_neg e]
      unfold st_fl va_up
      rw [if_pos c, h, c, hCK]
      exact if_neg d
  · have e : ¬ q = w * kc + i := fun z => c (by rw [z, Nat.mul_add_div (by omega), Nat.div_eq_of_lt hi, Nat.add_zero])
    unfold upd
    rw [if_neg e]
    unfold st_fl va_up
    rw [if_neg c]
theorem st_flP0 {w kc f : Nat} {C : Nat → st_T} {K K2 : st_T} {v : Int32} (hCK : C kc = K) (hi : 0 < w) (h : K2 f = upd (K f) 0 v) : st_fl w (va_up C kc K2) f = upd (st_fl w C f) (w * kc) v := st_flP (i := 0) hCK hi h
theorem st_f1P {kc f : Nat} {C : Nat → st_T} {K K2 : st_T} {v : Int32} (hCK : C kc = K) (h : K2 f = upd (K f) 0 v) : st_f1 (va_up C kc K2) f = upd (st_f1 C f) kc v := by
  funext q
  unfold st_f1 va_up upd
  by_cases c : q = kc
  · rw [if_pos c, if_pos c, h]
    exact if_pos rfl
  · rw [if_neg c, if_neg c]
theorem st_flH {w kc f k e : Nat} {C : Nat → st_T} {K K2 : st_T} (hCK : C kc = K) (he : e < w) (h : K2 f = st_shl (K f) k e) : st_fl w (va_up C kc K2) f = st_shl (st_fl w C f) (w * kc + k) (w * kc + e) := by
  funext q
  have hq : q = w * (q / w) + q % w := (Nat.div_add_mod q w).symm
  have hm : q % w < w := Nat.mod_lt _ (by omega)
  by_cases c : q / w = kc
  · have hq2 : q = w * kc + q % w := by rw [← c]; exact hq
    generalize hj : q % w = j at hq2 hm
    unfold st_shl
    by_cases d : k ≤ j ∧ j < e
    · rw [if_pos (by omega)]
      have e1 : st_fl w C f (q + 1) = K f (j + 1) := by rw [hq2]; exact st_flA (i := j + 1) hCK (by omega)
      rw [e1]
      unfold st_fl va_up
      rw [if_pos c, h, hj]
      exact if_pos d
    · rw [if_neg (by omega)]
      unfold st_fl va_up
      rw [if_pos c, h, c, hCK, hj]
      exact if_neg d
  · have e2 : ¬ (w * kc + k ≤ q ∧ q < w * kc + e) := fun z => c (by
      have h1 : q < w * kc + w := by omega
      have h2 : w * kc ≤ q := by omega
      obtain ⟨j, rfl⟩ : ∃ j, q = w * kc + j := ⟨q - w * kc, by omega⟩
      rw [Nat.mul_add_div (by omega), Nat.div_eq_of_lt (by omega), Nat.add_zero])
    unfold st_shl
    rw [if_neg e2]
    unfold st_fl va_up
    rw [if_neg c]
theorem tm_al0 {t : Int32} {g : Nat → Int32} : tm_al t g 0 = g := by
  funext j
  unfold tm_al
  rw [if_neg (by omega)]
theorem tm_alS {t : Int32} {g : Nat → Int32} {j : Nat} : upd (tm_al t g j) j t = tm_al t g (j + 1) := by
  funext q
  unfold upd tm_al
  by_cases h1 : q = j
  · subst h1
    rw [if_pos rfl, if_pos (by omega)]
  · rw [if_neg h1]
    by_cases h2 : q < j
    · rw [if_pos h2, if_pos (by omega)]
    · rw [if_neg h2, if_neg (by omega)]
/-- what ties the times to the dirty lines -/
def tm_I (M : st_T) (t : tm_T) : Prop := (∀ a, a < 32 → ∃ p, p ≤ t.1 ∧ t.2.1 a = nI p) ∧ (∀ q, q < 8 → ∃ p, p ≤ t.1 ∧ t.2.2 q = nI p) ∧ ∀ q, q < 8 → (¬ M 2 q = 0 ↔ ∃ a, 4 * q ≤ a ∧ a < 4 * q + 4 ∧ ¬ t.2.1 a ≤ t.2.2 q)
theorem st_upU {kc : Nat} {C : Nat → st_T} {K K2 : st_T} : va_up (va_up C kc K) kc K2 = va_up C kc K2 := bx_uu C kc K K2
theorem st_uu {f : Nat → Int32} {k : Nat} {v w : Int32} : upd (upd f k v) k w = upd f k w := by
  funext j
  unfold upd
  by_cases h : j = k
  · rw [if_pos h, if_pos h]
  · rw [if_neg h, if_neg h, if_neg h]
noncomputable def st_aqK (ro : Nat) (K : st_T) (k t v : Int32) : st_T := me_sw (ro ≤ st_h K) K (st_ks (st_ap K k t v) 5 0 (nI (st_p K + 1)))
theorem st_drG0 {n kc : Nat} {K : st_T} (hkc : kc < n) (h : 0 < st_h K) : st_drG n (nI kc) K 0 := ⟨me_inI hkc, ⟨0, h, rfl⟩, fun o ho => by rw [sb_cl0] at ho; omega⟩
theorem st_drG1 {n : Nat} {core : Int32} {K : st_T} (h : st_h K = 0) : ¬ st_drG n core K 0 := fun q => by
  obtain ⟨j, hj, -⟩ := q.2.1
  omega
theorem tm_setS {m m' : Nat} {t : tm_T} {K : st_T} (h : m = m' + 1) : tm_set m t K = tm_set m' (tm_out t K 0) (st_rm K 0) := by subst h; rfl
theorem tm_runS {ro v j : Nat} {t t1 : tm_T} {K M K1 M1 : st_T} (hj : j < v) (h : tm_run ro v t K M = tm_run ro (v - j) t1 K1 M1) (hb : st_doA ro K1 = 0) : tm_run ro v t K M = tm_run ro (v - (j + 1)) (tm_do ro t1 K1 M1) (st_doK ro K1 M1) (st_doM ro K1 M1) := by
  obtain ⟨i, hi⟩ : ∃ i, v - j = i + 1 := ⟨v - j - 1, by omega⟩
  rw [show v - (j + 1) = i by omega]
  rw [h, hi]
  exact me_swt hb
theorem tm_runX {ro v j : Nat} {t t1 : tm_T} {K M K1 M1 : st_T} (hj : j < v) (h : tm_run ro v t K M = tm_run ro (v - j) t1 K1 M1) (hb : ¬ st_doA ro K1 = 0) : tm_run ro v t K M = tm_do ro t1 K1 M1 := by
  obtain ⟨i, hi⟩ : ∃ i, v - j = i + 1 := ⟨v - j - 1, by omega⟩
  rw [h, hi]
  exact me_swf hb
theorem tm_runY {ro v j : Nat} {t t1 : tm_T} {K M K1 M1 : st_T} (hj : v ≤ j) (h : tm_run ro v t K M = tm_run ro (v - j) t1 K1 M1) : tm_run ro v t K M = t1 := by
  rw [h, show v - j = 0 by omega]
  rfl
/-- the reference's step, code by code -/
theorem st_nh {K : st_T} {z : Nat} (hp : st_p K < 24) (hz : K 0 (st_p K) = nI z) (h0 : ¬ nI z = 0) : ¬ st_ha K := fun q => q.elim (fun q => absurd q (by omega)) (fun q => h0 (hz.symm.trans q))
theorem st_wtz {ro z : Nat} {K : st_T} (hz : K 0 (st_p K) = nI z) : st_wt ro K ↔ st_wq ro K (nI z) := by
  unfold st_wt st_z
  rw [hz]
theorem st_nx1 {K : st_T} {z : Nat} (hz : K 0 (st_p K) = nI z) (h : ¬ nI z = 10) : st_nx K = nI (st_p K + 1) := me_swf (fun q => h (hz.symm.trans q.1))
theorem st_doW {ro : Nat} {K M : st_T} {t : tm_T} (hh : ¬ st_ha K) (hw : st_wt ro K) : st_doK ro K M = K ∧ st_doM ro K M = M ∧ tm_do ro t K M = t ∧ st_doA ro K = 1 := ⟨me_swt (Or.inr hw), me_swt (Or.inr hw), me_swt (Or.inr hw), (me_swf hh).trans (me_swt hw)⟩
theorem st_doH {ro : Nat} {K M : st_T} {t : tm_T} (hh : st_ha K) : st_doK ro K M = K ∧ st_doM ro K M = M ∧ tm_do ro t K M = t ∧ st_doA ro K = 2 := ⟨me_swt (Or.inl hh), me_swt (Or.inl hh), me_swt (Or.inl hh), me_swt hh⟩
theorem st_doD {ro : Nat} {K M : st_T} {t : tm_T} (hh : ¬ st_ha K) (hw : ¬ st_wt ro K) : st_doK ro K M = st_ks (st_peK K M) 5 0 (st_nx K) ∧ st_doM ro K M = st_peM K M ∧ tm_do ro t K M = tm_pe t K M ∧ st_doA ro K = 0 :=
  have ho : ¬ (st_ha K ∨ st_wt ro K) := fun q => q.elim hh hw
  ⟨me_swf ho, me_swf ho, me_swf ho, (me_swf hh).trans (me_swf hw)⟩
theorem st_doAp {ro z : Nat} {K M : st_T} {t : tm_T} {k w v : Int32} (hp : st_p K < 24) (hz : K 0 (st_p K) = nI z) (h3 : z = 3 ∨ z = 7 ∨ z = 8 ∨ z = 9) (he : st_peK K M = st_ap K k w v) (hm : st_peM K M = M) (ht : tm_pe t K M = t) : st_doK ro K M = st_aqK ro K k w v ∧ st_doM ro K M = M ∧ tm_do ro t K M = t ∧ st_doA ro K = me_b (ro ≤ st_h K) := by
  have h0 : ¬ nI z = 0 := by rcases h3 with rfl | rfl | rfl | rfl <;> decide
  have h10 : ¬ nI z = 10 := by rcases h3 with rfl | rfl | rfl | rfl <;> decide
  have hh := st_nh hp hz h0
  rcases Classical.em (ro ≤ st_h K) with q | q
  · obtain ⟨a, b, c, d⟩ := st_doW (M := M) (t := t) hh ((st_wtz hz).mpr ((st_wq3 h3).mpr q))
    exact ⟨a.trans (me_swt q).symm, b, c, d.trans (me_bt q).symm⟩
  · obtain ⟨a, b, c, d⟩ := st_doD (M := M) (t := t) hh (fun r => q ((st_wq3 h3).mp ((st_wtz hz).mp r)))
    refine ⟨a.trans ?_, b.trans hm, c.trans ht, d.trans (me_bf q).symm⟩
    rw [he, st_nx1 hz h10]
    exact (me_swf q).symm
theorem tm_pen {z : Nat} {K M : st_T} {t : tm_T} (hz : K 0 (st_p K) = nI z) (h : ¬ nI z = 5) : tm_pe t K M = t := me_swf (st_zn hz h)
theorem tm_pe5 {K M : st_T} {t : tm_T} (hz : K 0 (st_p K) = nI 5) : tm_pe t K M = tm_sw t K M (st_a K) := me_swt hz
theorem st_nv5 {K : st_T} {v w o : Int32} : ∀ n : Nat, st_nv (st_ks K 5 0 v) w o n = st_nv K w o n
  | 0 => rfl
  | n + 1 => by
    show me_sw (K 8 n = 0 ∧ K 9 n = w) (K 10 n) (st_nv (st_ks K 5 0 v) w o n) = me_sw (K 8 n = 0 ∧ K 9 n = w) (K 10 n) (st_nv K w o n)
    rw [st_nv5 n]
theorem st_k5 {K : st_T} {v w : Int32} : st_ks K 5 0 w 5 = upd (st_ks K 5 0 v 5) 0 w := (st_uu (f := K 5) (k := 0) (v := v) (w := w)).symm
theorem st_ks45 {K : st_T} {i : Nat} {v w : Int32} : st_ks (st_ks K 4 i w) 5 0 v = st_ks (st_ks K 5 0 v) 4 i w := by
  funext g
  unfold st_ks
  by_cases h5 : g = 5
  · subst h5
    rfl
  · rw [if_neg h5]
    by_cases h4 : g = 4
    · subst h4
      rfl
    · rw [if_neg h4, if_neg h4, if_neg h5]
theorem st_swK5 {K M : st_T} {w : Nat} {v : Int32} : st_ks (st_swK K M w) 5 0 v = st_swK (st_ks K 5 0 v) M w := by
  rcases Classical.em (M 0 w = K 4 0) with q | q
  · rw [show st_swK K M w = K from me_swt q, show st_swK (st_ks K 5 0 v) M w = st_ks K 5 0 v from me_swt q]
  · rw [show st_swK K M w = st_ks K 4 0 (M 0 w) from me_swf q, show st_swK (st_ks K 5 0 v) M w = st_ks (st_ks K 5 0 v) 4 0 (M 0 w) from me_swf q]
    exact st_ks45
/-- a crash on all four cores -/
def st_crC (C : Nat → st_T) : Nat → st_T := fun d => if d < 4 then st_bg (C d) else C d
theorem st_crN {w f : Nat} {C : Nat → st_T} (h : ∀ K : st_T, st_bg K f = K f) : st_fl w (st_crC C) f = st_fl w C f := by
  funext q
  unfold st_fl st_crC
  by_cases c : q / w < 4
  · rw [if_pos c, h]
  · rw [if_neg c]
theorem st_crN1 {f : Nat} {C : Nat → st_T} (h : ∀ K : st_T, st_bg K f = K f) : st_f1 (st_crC C) f = st_f1 C f := by
  funext q
  unfold st_f1 st_crC
  by_cases c : q < 4
  · rw [if_pos c, h]
  · rw [if_neg c]
theorem st_cr4 {C : Nat → st_T} : st_fl 4 (st_crC C) 4 = st_ze (st_fl 4 C 4) 16 := by
  funext q
  unfold st_ze
  by_cases c : q < 16
  · rw [if_pos c]
    unfold st_fl st_crC
    rw [if_pos (show q / 4 < 4 by omega)]
    exact if_pos (Nat.mod_lt _ (by decide))
  · rw [if_neg c]
    unfold st_fl st_crC
    rw [if_neg (show ¬ q / 4 < 4 by omega)]
theorem st_cr7 {C : Nat → st_T} : st_f1 (st_crC C) 7 = st_ze (st_f1 C 7) 4 := by
  funext q
  unfold st_ze st_f1 st_crC
  by_cases c : q < 4
  · rw [if_pos c, if_pos c]
    rfl
  · rw [if_neg c, if_neg c]
theorem st_cr5 {C : Nat → st_T} : st_f1 (st_crC C) 5 = st_cp (st_f1 C 6) (st_f1 C 5) 0 4 := by
  funext q
  unfold st_cp st_f1 st_crC
  by_cases c : q < 4
  · rw [if_pos c, if_pos ⟨Nat.zero_le _, c⟩]
    rfl
  · rw [if_neg c, if_neg (fun z => c z.2)]
abbrev w_re (mo : Nat) (r : Nat → Nat) (cI : ClassId) (n ro : Nat) (C : Nat → st_T) (M : st_T) (tm : tm_T) : va_W := [(mo, .inr (4, [.int (nI (n)), .int (nI (ro)), .ref (r 0), .ref (r 1), .ref (r 2), .ref (r 3), .ref (r 4), .ref (r 5), .ref (r 6), .ref (r 7), .ref (r 8), .ref (r 9), .ref (r 10), .ref (r 11), .ref (r 12), .int (nI (tm.1)), .ref (r 13), .ref (r 14)])), (r 0, .inl (cI, 96, .inl (st_fl 24 C 0))), (r 1, .inl (cI, 96, .inl (st_fl 24 C 1))), (r 2, .inl (cI, 96, .inl (st_fl 24 C 2))), (r 3, .inl (cI, 96, .inl (st_fl 24 C 3))), (r 4, .inl (cI, 16, .inl (st_fl 4 C 4))), (r 5, .inl (cI, 4, .inl (st_f1 C 5))), (r 6, .inl (cI, 4, .inl (st_f1 C 6))), (r 7, .inl (cI, 4, .inl (st_f1 C 7))), (r 8, .inl (cI, 32, .inl (st_fl 8 C 8))), (r 9, .inl (cI, 32, .inl (st_fl 8 C 9))), (r 10, .inl (cI, 32, .inl (st_fl 8 C 10))), (r 11, .inl (cI, 32, .inl (M 0))), (r 12, .inl (cI, 32, .inl (M 1))), (r 13, .inl (cI, 32, .inl (tm.2.1))), (r 14, .inl (cI, 8, .inl (tm.2.2)))]
end
section
set_option maxHeartbeats 4000000 in
set_option maxRecDepth 100000 in
theorem c_sm_write (l : Launch) (D : va_G) (cI cZ cR : ClassId) (b : Nat → Nat) (M : st_T) (w : Nat) (v : Int32) (hw : w < 32) : me_V l yX2_write wsX2_write ({ frames := 0, cells := 0, slots := 0, locals := 0 } : Room) D (me_TYS cI cZ cR) ([.ref (b 0), .int (nI (w)), .int (v)] : List Value) (w_sh b cI cZ M) (w_sh b cI cZ (st_wr M w v)) := by
  intro sz
  refine me_ent (cc := cX2_write) (maxL := 3) (ret := none) (Qf := me_QV D (me_TYS cI cZ cR) (w_sh b cI cZ (st_wr M w v))) (by decide) rfl (Nat.le_of_ble_eq_true rfl) ?_
  intro p e s m below meth c A ls hx hb hr hml hts hown hlk hin hP hK hD hN hA hS hl
  have hown : s.vm.findClass RX2 = some m.cls := hown
  have hg : ∀ w9 ∈ bg, w9.before ([.ref (b 0), .int (nI (w)), .int (v)] : List Value).toArray s = true := fun w9 h9 => hts w9 (List.mem_cons_of_mem _ h9)
  have hl : lv_has ls 3 [(0, .ref (b 0)), (1, .int (nI (w))), (2, .int (v))] := hl
  have hP : va_P D vwCl [(b 0, .inr (2, [.ref (b 1), .ref (b 2), .ref (b 3)])), (b 1, .inl (cI, 32, .inl (M 0))), (b 2, .inl (cI, 32, .inl (M 1))), (b 3, .inl (cZ, 8, .inl (M 2)))] s.heap := hP
  have hD : va_D A [(b 0, .inr (2, [.ref (b 1), .ref (b 2), .ref (b 3)])), (b 1, .inl (cI, 32, .inl (M 0))), (b 2, .inl (cI, 32, .inl (M 1))), (b 3, .inl (cZ, 8, .inl (M 2)))] := hD
  refine lv_aload_n hx hb dX2_write_0 rfl (lv_at hl 0 rfl) ?_
  refine va_get (D := D) (ci := 2) (v := .ref (b 1)) (C := RX2) (T := TX2) (N := 3) hx hb hg inX2 hown hK hP 0 rfl rfl 0 (by decide) (hg _ bw_1_20) (fun _ h9 => h9) rfl dX2_write_1 ?_
  refine lv_iload_n hx hb dX2_write_4 rfl (lv_at hl 1 rfl) ?_
  refine lv_iload_n hx hb dX2_write_5 rfl (lv_at hl 2 rfl) ?_
  refine me_ist hx hb hK hP hD hS 1 0 rfl rfl (w) (rfl) (by omega) (by omega) dX2_write_6 (fun H locs hP hD hS => ?_)
  have hP : va_P D vwCl [(b 0, .inr (2, [.ref (b 1), .ref (b 2), .ref (b 3)])), (b 1, .inl (cI, 32, .inl (upd (M 0) (w) (v)))), (b 2, .inl (cI, 32, .inl (M 1))), (b 3, .inl (cZ, 8, .inl (M 2)))] H := hP
  have hD : va_D A [(b 0, .inr (2, [.ref (b 1), .ref (b 2), .ref (b 3)])), (b 1, .inl (cI, 32, .inl (upd (M 0) (w) (v)))), (b 2, .inl (cI, 32, .inl (M 1))), (b 3, .inl (cZ, 8, .inl (M 2)))] := hD
  refine lv_aload_n hx hb dX2_write_7 rfl (lv_at hl 0 rfl) ?_
  refine va_get (D := D) (ci := 2) (v := .ref (b 3)) (C := RX2) (T := TX2) (N := 3) hx hb hg inX2 hown hK hP 0 rfl rfl 2 (by decide) (hg _ bw_1_25) (fun _ h9 => h9) rfl dX2_write_8 ?_
  refine lv_iload_n hx hb dX2_write_11 rfl (lv_at hl 1 rfl) ?_
  refine lv_iconst (v := 4) hx hb dX2_write_12 (by decide) ?_
  refine lv_idiv hx hb dX2_write_13 (by decide) ?_
  refine me_t (x := (nI (w)) / 4) (y := nI (w / 4)) (pk_div (a := w) (d := 4) (by omega) (by omega) (by omega)) ?_
  refine lv_iconst (v := 1) hx hb dX2_write_14 (by decide) ?_
  refine me_zst hx hb hK hP hD hS 3 1 rfl rfl (w / 4) (rfl) (by omega) (by omega) (rfl) dX2_write_15 (fun H locs hP hD hS => ?_)
  have hP : va_P D vwCl [(b 0, .inr (2, [.ref (b 1), .ref (b 2), .ref (b 3)])), (b 1, .inl (cI, 32, .inl (upd (M 0) (w) (v)))), (b 2, .inl (cI, 32, .inl (M 1))), (b 3, .inl (cZ, 8, .inl (upd (M 2) (w / 4) (1))))] H := hP
  have hD : va_D A [(b 0, .inr (2, [.ref (b 1), .ref (b 2), .ref (b 3)])), (b 1, .inl (cI, 32, .inl (upd (M 0) (w) (v)))), (b 2, .inl (cI, 32, .inl (M 1))), (b 3, .inl (cZ, 8, .inl (upd (M 2) (w / 4) (1))))] := hD
  have hP9 := me_subP (ws' := [(b 0, .inr (2, [.ref (b 1), .ref (b 2), .ref (b 3)])), (b 1, .inl (cI, 32, .inl ((st_wr M w v) 0))), (b 2, .inl (cI, 32, .inl ((st_wr M w v) 1))), (b 3, .inl (cZ, 8, .inl ((st_wr M w v) 2)))]) hP [0, 1, 2, 3] rfl
  have hD9 := hD.sub (ws' := [(b 0, .inr (2, [.ref (b 1), .ref (b 2), .ref (b 3)])), (b 1, .inl (cI, 32, .inl ((st_wr M w v) 0))), (b 2, .inl (cI, 32, .inl ((st_wr M w v) 1))), (b 3, .inl (cZ, 8, .inl ((st_wr M w v) 2)))]) [0, 1, 2, 3] (by decide) rfl
  exact me_retV hx hb hr hlk hK hS dX2_write_16 hP9 hD9
set_option maxHeartbeats 4000000 in
set_option maxRecDepth 100000 in
theorem c_sm_writeBack (l : Launch) (D : va_G) (cI cZ cR : ClassId) (b : Nat → Nat) (M : st_T) (q : Nat) (hq : q < 8) : me_V l yX2_writeBack wsX2_writeBack ({ frames := 0, cells := 0, slots := 0, locals := 0 } : Room) D (me_TYS cI cZ cR) ([.ref (b 0), .int (nI (q))] : List Value) (w_sh b cI cZ M) (w_sh b cI cZ (st_wb M q)) := by
  intro sz
  refine me_ent (cc := cX2_writeBack) (maxL := 4) (ret := none) (Qf := me_QV D (me_TYS cI cZ cR) (w_sh b cI cZ (st_wb M q))) (by decide) rfl (Nat.le_of_ble_eq_true rfl) ?_
  intro p e s m below meth c A ls hx hb hr hml hts hown hlk hin hP hK hD hN hA hS hl
  have hown : s.vm.findClass RX2 = some m.cls := hown
  have hg : ∀ w9 ∈ bg, w9.before ([.ref (b 0), .int (nI (q))] : List Value).toArray s = true := fun w9 h9 => hts w9 (List.mem_cons_of_mem _ h9)
  have hl : lv_has ls 4 [(0, .ref (b 0)), (1, .int (nI (q)))] := hl
  have hP : va_P D vwCl [(b 0, .inr (2, [.ref (b 1), .ref (b 2), .ref (b 3)])), (b 1, .inl (cI, 32, .inl (M 0))), (b 2, .inl (cI, 32, .inl (M 1))), (b 3, .inl (cZ, 8, .inl (M 2)))] s.heap := hP
  have hD : va_D A [(b 0, .inr (2, [.ref (b 1), .ref (b 2), .ref (b 3)])), (b 1, .inl (cI, 32, .inl (M 0))), (b 2, .inl (cI, 32, .inl (M 1))), (b 3, .inl (cZ, 8, .inl (M 2)))] := hD
  refine lv_iload_n hx hb dX2_writeBack_0 rfl (lv_at hl 1 rfl) ?_
  refine lv_iconst (v := 4) hx hb dX2_writeBack_1 (by decide) ?_
  refine lv_imul hx hb dX2_writeBack_2 ?_
  refine me_t (x := (nI (q)) * 4) (y := nI (4 * q)) ((pk_mul q 4).trans (congrArg nI (Nat.mul_comm q 4))) ?_
  refine lv_istore_n hx hb dX2_writeBack_3 rfl hl (by decide) rfl (fun ls hl => ?_)
  have hl : lv_has ls 4 [(2, .int (nI (4 * q))), (0, .ref (b 0)), (1, .int (nI (q)))] := hl
  refine lv_iload_n hx hb dX2_writeBack_4 rfl (lv_at hl 0 rfl) ?_
  refine lv_istore_n hx hb dX2_writeBack_5 rfl hl (by decide) rfl (fun ls hl => ?_)
  have hl : lv_has ls 4 [(3, .int (nI (4 * q))), (2, .int (nI (4 * q))), (0, .ref (b 0)), (1, .int (nI (q)))] := hl
  have loop6 : ∀ (d : Nat) (j : Nat) (H : Heap) (locs : List Loc) (ls : Array Slot), d = 4 * q + 4 - j → 4 * q ≤ j → j ≤ 4 * q + 4 → va_P D vwCl [(b 0, .inr (2, [.ref (b 1), .ref (b 2), .ref (b 3)])), (b 1, .inl (cI, 32, .inl (M 0))), (b 2, .inl (cI, 32, .inl (st_cp (M 0) (M 1) (4 * q) (j)))), (b 3, .inl (cZ, 8, .inl (M 2)))] H → va_D A [(b 0, .inr (2, [.ref (b 1), .ref (b 2), .ref (b 3)])), (b 1, .inl (cI, 32, .inl (M 0))), (b 2, .inl (cI, 32, .inl (st_cp (M 0) (M 1) (4 * q) (j)))), (b 3, .inl (cZ, 8, .inl (M 2)))] → va_S A s.heap H locs → lv_has ls 4 [(0, .ref (b 0)), (1, .int (nI (q))), (2, .int (nI (4 * q))), (3, .int (nI (j)))] → W p l e ({ frames := 0, cells := 0, slots := 0, locals := 0 } : Room) s m ([.ref (b 0), .int (nI (q))] : List Value).toArray below meth c H locs 0 0 (MQ below (me_QV D (me_TYS cI cZ cR) (w_sh b cI cZ (st_wb M q)) A) ([.ref (b 0), .int (nI (q))] : List Value).toArray s 0 0 A) (F0 m 6 ls []) := by
    intro d
    induction d with
    | zero =>
      intro j H locs ls hd h1 h2 hP hD hS hl
      refine lv_iload_n hx hb dX2_writeBack_6 rfl (lv_at hl 3 rfl) ?_
      refine lv_iload_n hx hb dX2_writeBack_7 rfl (lv_at hl 2 rfl) ?_
      refine lv_iconst (v := 4) hx hb dX2_writeBack_8 (by decide) ?_
      refine lv_iadd hx hb dX2_writeBack_9 ?_
      refine me_t (x := (nI (4 * q)) + 4) (y := nI (4 * q + 4)) (nI_add (4 * q) (4)) ?_
      refine lv_icmp_ge (tgt := 31) hx hb dX2_writeBack_10 (by decide) (fun b10 => ?_) (fun b10 => ?_)
      · have b10 := me_le (a := 4 * q + 4) (b := j) (by omega) (by omega) b10
        have hj : j = 4 * q + 4 := by omega
        have hP : va_P D vwCl [(b 0, .inr (2, [.ref (b 1), .ref (b 2), .ref (b 3)])), (b 1, .inl (cI, 32, .inl (M 0))), (b 2, .inl (cI, 32, .inl (st_cp (M 0) (M 1) (4 * q) (4 * q + 4)))), (b 3, .inl (cZ, 8, .inl (M 2)))] H := by rw [← hj]; exact hP
        have hD : va_D A [(b 0, .inr (2, [.ref (b 1), .ref (b 2), .ref (b 3)])), (b 1, .inl (cI, 32, .inl (M 0))), (b 2, .inl (cI, 32, .inl (st_cp (M 0) (M 1) (4 * q) (4 * q + 4)))), (b 3, .inl (cZ, 8, .inl (M 2)))] := by rw [← hj]; exact hD
        refine lv_aload_n hx hb dX2_writeBack_31 rfl (lv_at hl 0 rfl) ?_
        refine va_get (D := D) (ci := 2) (v := .ref (b 3)) (C := RX2) (T := TX2) (N := 3) hx hb hg inX2 hown hK hP 0 rfl rfl 2 (by decide) (hg _ bw_1_25) (fun _ h9 => h9) rfl dX2_writeBack_32 ?_
        refine lv_iload_n hx hb dX2_writeBack_35 rfl (lv_at hl 1 rfl) ?_
        refine lv_iconst (v := 0) hx hb dX2_writeBack_36 (by decide) ?_
        refine me_zst hx hb hK hP hD hS 3 1 rfl rfl (q) (rfl) (by omega) (by omega) (rfl) dX2_writeBack_37 (fun H locs hP hD hS => ?_)
        have hP : va_P D vwCl [(b 0, .inr (2, [.ref (b 1), .ref (b 2), .ref (b 3)])), (b 1, .inl (cI, 32, .inl (M 0))), (b 2, .inl (cI, 32, .inl (st_cp (M 0) (M 1) (4 * q) (4 * q + 4)))), (b 3, .inl (cZ, 8, .inl (upd (M 2) (q) (0))))] H := hP
        have hD : va_D A [(b 0, .inr (2, [.ref (b 1), .ref (b 2), .ref (b 3)])), (b 1, .inl (cI, 32, .inl (M 0))), (b 2, .inl (cI, 32, .inl (st_cp (M 0) (M 1) (4 * q) (4 * q + 4)))), (b 3, .inl (cZ, 8, .inl (upd (M 2) (q) (0))))] := hD
        have hP9 := me_subP (ws' := [(b 0, .inr (2, [.ref (b 1), .ref (b 2), .ref (b 3)])), (b 1, .inl (cI, 32, .inl ((st_wb M q) 0))), (b 2, .inl (cI, 32, .inl ((st_wb M q) 1))), (b 3, .inl (cZ, 8, .inl ((st_wb M q) 2)))]) hP [0, 1, 2, 3] rfl
        have hD9 := hD.sub (ws' := [(b 0, .inr (2, [.ref (b 1), .ref (b 2), .ref (b 3)])), (b 1, .inl (cI, 32, .inl ((st_wb M q) 0))), (b 2, .inl (cI, 32, .inl ((st_wb M q) 1))), (b 3, .inl (cZ, 8, .inl ((st_wb M q) 2)))]) [0, 1, 2, 3] (by decide) rfl
        exact me_retV hx hb hr hlk hK hS dX2_writeBack_38 hP9 hD9
      · have b10 := me_nle (a := 4 * q + 4) (b := j) (by omega) (by omega) b10
        exfalso
        omega
    | succ d ih =>
      intro j H locs ls hd h1 h2 hP hD hS hl
      refine lv_iload_n hx hb dX2_writeBack_6 rfl (lv_at hl 3 rfl) ?_
      refine lv_iload_n hx hb dX2_writeBack_7 rfl (lv_at hl 2 rfl) ?_
      refine lv_iconst (v := 4) hx hb dX2_writeBack_8 (by decide) ?_
      refine lv_iadd hx hb dX2_writeBack_9 ?_
      refine me_t (x := (nI (4 * q)) + 4) (y := nI (4 * q + 4)) (nI_add (4 * q) (4)) ?_
      refine lv_icmp_ge (tgt := 31) hx hb dX2_writeBack_10 (by decide) (fun b10 => ?_) (fun b10 => ?_)
      · have b10 := me_le (a := 4 * q + 4) (b := j) (by omega) (by omega) b10
        exfalso
        omega
      · have b10 := me_nle (a := 4 * q + 4) (b := j) (by omega) (by omega) b10
        refine lv_aload_n hx hb dX2_writeBack_13 rfl (lv_at hl 0 rfl) ?_
        refine va_get (D := D) (ci := 2) (v := .ref (b 2)) (C := RX2) (T := TX2) (N := 3) hx hb hg inX2 hown hK hP 0 rfl rfl 1 (by decide) (hg _ bw_1_23) (fun _ h9 => h9) rfl dX2_writeBack_14 ?_
        refine lv_iload_n hx hb dX2_writeBack_17 rfl (lv_at hl 3 rfl) ?_
        refine lv_aload_n hx hb dX2_writeBack_18 rfl (lv_at hl 0 rfl) ?_
        refine va_get (D := D) (ci := 2) (v := .ref (b 1)) (C := RX2) (T := TX2) (N := 3) hx hb hg inX2 hown hK hP 0 rfl rfl 0 (by decide) (hg _ bw_1_20) (fun _ h9 => h9) rfl dX2_writeBack_19 ?_
        refine lv_iload_n hx hb dX2_writeBack_22 rfl (lv_at hl 3 rfl) ?_
        refine me_ild hx hb hK hP 1 0 rfl rfl (j) (rfl) (by omega) (by omega) dX2_writeBack_23 ?_
        refine me_ist hx hb hK hP hD hS 2 0 rfl rfl (j) (rfl) (by omega) (by omega) dX2_writeBack_24 (fun H locs hP hD hS => ?_)
        have hP : va_P D vwCl [(b 0, .inr (2, [.ref (b 1), .ref (b 2), .ref (b 3)])), (b 1, .inl (cI, 32, .inl (M 0))), (b 2, .inl (cI, 32, .inl (upd (st_cp (M 0) (M 1) (4 * q) (j)) (j) (M 0 j)))), (b 3, .inl (cZ, 8, .inl (M 2)))] H := hP
        have hD : va_D A [(b 0, .inr (2, [.ref (b 1), .ref (b 2), .ref (b 3)])), (b 1, .inl (cI, 32, .inl (M 0))), (b 2, .inl (cI, 32, .inl (upd (st_cp (M 0) (M 1) (4 * q) (j)) (j) (M 0 j)))), (b 3, .inl (cZ, 8, .inl (M 2)))] := hD
        refine lv_iinc (k := 3) (v := nI (j + 1)) hx hb dX2_writeBack_25 hl rfl (me_inc (j)) (by decide) rfl (fun ls hl => ?_)
        have hl : lv_has ls 4 [(3, .int (nI (j + 1))), (0, .ref (b 0)), (1, .int (nI (q))), (2, .int (nI (4 * q)))] := hl
        refine lv_goto (tgt := 6) hx hb dX2_writeBack_28 (by decide) ?_
        have hP := me_subP (ws' := [(b 0, .inr (2, [.ref (b 1), .ref (b 2), .ref (b 3)])), (b 1, .inl (cI, 32, .inl (M 0))), (b 2, .inl (cI, 32, .inl (upd (st_cp (M 0) (M 1) (4 * q) (j)) (j) (M 0 j)))), (b 3, .inl (cZ, 8, .inl (M 2)))]) hP [0, 1, 2, 3] rfl
        have hD := hD.sub (ws' := [(b 0, .inr (2, [.ref (b 1), .ref (b 2), .ref (b 3)])), (b 1, .inl (cI, 32, .inl (M 0))), (b 2, .inl (cI, 32, .inl (upd (st_cp (M 0) (M 1) (4 * q) (j)) (j) (M 0 j)))), (b 3, .inl (cZ, 8, .inl (M 2)))]) [0, 1, 2, 3] (by decide) rfl
        have hP : va_P D vwCl [(b 0, .inr (2, [.ref (b 1), .ref (b 2), .ref (b 3)])), (b 1, .inl (cI, 32, .inl (M 0))), (b 2, .inl (cI, 32, .inl (st_cp (M 0) (M 1) (4 * q) (j + 1)))), (b 3, .inl (cZ, 8, .inl (M 2)))] H := by rw [← st_cpS h1]; exact hP
        have hD : va_D A [(b 0, .inr (2, [.ref (b 1), .ref (b 2), .ref (b 3)])), (b 1, .inl (cI, 32, .inl (M 0))), (b 2, .inl (cI, 32, .inl (st_cp (M 0) (M 1) (4 * q) (j + 1)))), (b 3, .inl (cZ, 8, .inl (M 2)))] := by rw [← st_cpS h1]; exact hD
        have hl := lv_sub (l' := [(0, .ref (b 0)), (1, .int (nI (q))), (2, .int (nI (4 * q))), (3, .int (nI (j + 1)))]) hl [1, 2, 3, 0] rfl
        exact ih (j + 1) _ _ _ (by omega) (by omega) (by omega) hP hD hS hl
  have hP := me_subP (ws' := [(b 0, .inr (2, [.ref (b 1), .ref (b 2), .ref (b 3)])), (b 1, .inl (cI, 32, .inl (M 0))), (b 2, .inl (cI, 32, .inl (M 1))), (b 3, .inl (cZ, 8, .inl (M 2)))]) hP [0, 1, 2, 3] rfl
  have hD := hD.sub (ws' := [(b 0, .inr (2, [.ref (b 1), .ref (b 2), .ref (b 3)])), (b 1, .inl (cI, 32, .inl (M 0))), (b 2, .inl (cI, 32, .inl (M 1))), (b 3, .inl (cZ, 8, .inl (M 2)))]) [0, 1, 2, 3] (by decide) rfl
  have hP : va_P D vwCl [(b 0, .inr (2, [.ref (b 1), .ref (b 2), .ref (b 3)])), (b 1, .inl (cI, 32, .inl (M 0))), (b 2, .inl (cI, 32, .inl (st_cp (M 0) (M 1) (4 * q) (4 * q)))), (b 3, .inl (cZ, 8, .inl (M 2)))] s.heap := by rw [st_cp0]; exact hP
  have hD : va_D A [(b 0, .inr (2, [.ref (b 1), .ref (b 2), .ref (b 3)])), (b 1, .inl (cI, 32, .inl (M 0))), (b 2, .inl (cI, 32, .inl (st_cp (M 0) (M 1) (4 * q) (4 * q)))), (b 3, .inl (cZ, 8, .inl (M 2)))] := by rw [st_cp0]; exact hD
  have hl := lv_sub (l' := [(0, .ref (b 0)), (1, .int (nI (q))), (2, .int (nI (4 * q))), (3, .int (nI (4 * q)))]) hl [2, 3, 1, 0] rfl
  exact loop6 _ (4 * q) _ _ _ rfl (Nat.le_refl _) (by omega) hP hD hS hl
set_option maxHeartbeats 4000000 in
set_option maxRecDepth 100000 in
theorem c_sm_fallBack (l : Launch) (D : va_G) (cI cZ cR : ClassId) (b : Nat → Nat) (M : st_T) : me_V l yX2_fallBackToStorage wsX2_fallBackToStorage ({ frames := 0, cells := 0, slots := 0, locals := 0 } : Room) D (me_TYS cI cZ cR) ([.ref (b 0)] : List Value) (w_sh b cI cZ M) (w_sh b cI cZ (st_fb M)) := by
  intro sz
  refine me_ent (cc := cX2_fallBackToStorage) (maxL := 2) (ret := none) (Qf := me_QV D (me_TYS cI cZ cR) (w_sh b cI cZ (st_fb M))) (by decide) rfl (Nat.le_of_ble_eq_true rfl) ?_
  intro p e s m below meth c A ls hx hb hr hml hts hown hlk hin hP hK hD hN hA hS hl
  have hown : s.vm.findClass RX2 = some m.cls := hown
  have hg : ∀ w9 ∈ bg, w9.before ([.ref (b 0)] : List Value).toArray s = true := fun w9 h9 => hts w9 (List.mem_cons_of_mem _ h9)
  have hl : lv_has ls 2 [(0, .ref (b 0))] := hl
  have hP : va_P D vwCl [(b 0, .inr (2, [.ref (b 1), .ref (b 2), .ref (b 3)])), (b 1, .inl (cI, 32, .inl (M 0))), (b 2, .inl (cI, 32, .inl (M 1))), (b 3, .inl (cZ, 8, .inl (M 2)))] s.heap := hP
  have hD : va_D A [(b 0, .inr (2, [.ref (b 1), .ref (b 2), .ref (b 3)])), (b 1, .inl (cI, 32, .inl (M 0))), (b 2, .inl (cI, 32, .inl (M 1))), (b 3, .inl (cZ, 8, .inl (M 2)))] := hD
  refine lv_iconst (v := 0) hx hb dX2_fallBackToStorage_0 (by decide) ?_
  refine lv_istore_n hx hb dX2_fallBackToStorage_1 rfl hl (by decide) rfl (fun ls hl => ?_)
  have hl : lv_has ls 2 [(1, .int (0)), (0, .ref (b 0))] := hl
  have loop2 : ∀ (d : Nat) (j : Nat) (H : Heap) (locs : List Loc) (ls : Array Slot), d = 32 - j → j ≤ 32 → va_P D vwCl [(b 0, .inr (2, [.ref (b 1), .ref (b 2), .ref (b 3)])), (b 1, .inl (cI, 32, .inl (st_cp (M 1) (M 0) 0 (j)))), (b 2, .inl (cI, 32, .inl (M 1))), (b 3, .inl (cZ, 8, .inl (M 2)))] H → va_D A [(b 0, .inr (2, [.ref (b 1), .ref (b 2), .ref (b 3)])), (b 1, .inl (cI, 32, .inl (st_cp (M 1) (M 0) 0 (j)))), (b 2, .inl (cI, 32, .inl (M 1))), (b 3, .inl (cZ, 8, .inl (M 2)))] → va_S A s.heap H locs → lv_has ls 2 [(0, .ref (b 0)), (1, .int (nI (j)))] → W p l e ({ frames := 0, cells := 0, slots := 0, locals := 0 } : Room) s m ([.ref (b 0)] : List Value).toArray below meth c H locs 0 0 (MQ below (me_QV D (me_TYS cI cZ cR) (w_sh b cI cZ (st_fb M)) A) ([.ref (b 0)] : List Value).toArray s 0 0 A) (F0 m 2 ls []) := by
    intro d
    induction d with
    | zero =>
      intro j H locs ls hd h2 hP hD hS hl
      refine lv_iload_n hx hb dX2_fallBackToStorage_2 rfl (lv_at hl 1 rfl) ?_
      refine lv_bipush (v := 32) hx hb dX2_fallBackToStorage_3 (by decide) ?_
      refine lv_icmp_ge (tgt := 26) hx hb dX2_fallBackToStorage_5 (by decide) (fun b5 => ?_) (fun b5 => ?_)
      · have b5 := me_le (a := 32) (b := j) (by omega) (by omega) b5
        have hj : j = 32 := by omega
        rw [hj] at hP hD
        have hP : va_P D vwCl [(b 0, .inr (2, [.ref (b 1), .ref (b 2), .ref (b 3)])), (b 1, .inl (cI, 32, .inl (st_cp (M 1) (M 0) 0 (32)))), (b 2, .inl (cI, 32, .inl (M 1))), (b 3, .inl (cZ, 8, .inl (M 2)))] H := hP
        have hD : va_D A [(b 0, .inr (2, [.ref (b 1), .ref (b 2), .ref (b 3)])), (b 1, .inl (cI, 32, .inl (st_cp (M 1) (M 0) 0 (32)))), (b 2, .inl (cI, 32, .inl (M 1))), (b 3, .inl (cZ, 8, .inl (M 2)))] := hD
        refine lv_iconst (v := 0) hx hb dX2_fallBackToStorage_26 (by decide) ?_
        refine lv_istore_n hx hb dX2_fallBackToStorage_27 rfl hl (by decide) rfl (fun ls hl => ?_)
        have hl : lv_has ls 2 [(1, .int (0)), (0, .ref (b 0))] := hl
        have loop28 : ∀ (d : Nat) (j : Nat) (H : Heap) (locs : List Loc) (ls : Array Slot), d = 8 - j → j ≤ 8 → va_P D vwCl [(b 0, .inr (2, [.ref (b 1), .ref (b 2), .ref (b 3)])), (b 1, .inl (cI, 32, .inl (st_cp (M 1) (M 0) 0 (32)))), (b 2, .inl (cI, 32, .inl (M 1))), (b 3, .inl (cZ, 8, .inl (st_ze (M 2) (j))))] H → va_D A [(b 0, .inr (2, [.ref (b 1), .ref (b 2), .ref (b 3)])), (b 1, .inl (cI, 32, .inl (st_cp (M 1) (M 0) 0 (32)))), (b 2, .inl (cI, 32, .inl (M 1))), (b 3, .inl (cZ, 8, .inl (st_ze (M 2) (j))))] → va_S A s.heap H locs → lv_has ls 2 [(0, .ref (b 0)), (1, .int (nI (j)))] → W p l e ({ frames := 0, cells := 0, slots := 0, locals := 0 } : Room) s m ([.ref (b 0)] : List Value).toArray below meth c H locs 0 0 (MQ below (me_QV D (me_TYS cI cZ cR) (w_sh b cI cZ (st_fb M)) A) ([.ref (b 0)] : List Value).toArray s 0 0 A) (F0 m 28 ls []) := by
          intro d
          induction d with
          | zero =>
            intro j H locs ls hd h2 hP hD hS hl
            refine lv_iload_n hx hb dX2_fallBackToStorage_28 rfl (lv_at hl 1 rfl) ?_
            refine lv_bipush (v := 8) hx hb dX2_fallBackToStorage_29 (by decide) ?_
            refine lv_icmp_ge (tgt := 47) hx hb dX2_fallBackToStorage_31 (by decide) (fun b31 => ?_) (fun b31 => ?_)
            · have b31 := me_le (a := 8) (b := j) (by omega) (by omega) b31
              have hj : j = 8 := by omega
              rw [hj] at hP hD
              have hP : va_P D vwCl [(b 0, .inr (2, [.ref (b 1), .ref (b 2), .ref (b 3)])), (b 1, .inl (cI, 32, .inl (st_cp (M 1) (M 0) 0 (32)))), (b 2, .inl (cI, 32, .inl (M 1))), (b 3, .inl (cZ, 8, .inl (st_ze (M 2) (8))))] H := hP
              have hD : va_D A [(b 0, .inr (2, [.ref (b 1), .ref (b 2), .ref (b 3)])), (b 1, .inl (cI, 32, .inl (st_cp (M 1) (M 0) 0 (32)))), (b 2, .inl (cI, 32, .inl (M 1))), (b 3, .inl (cZ, 8, .inl (st_ze (M 2) (8))))] := hD
              have hP9 := me_subP (ws' := [(b 0, .inr (2, [.ref (b 1), .ref (b 2), .ref (b 3)])), (b 1, .inl (cI, 32, .inl ((st_fb M) 0))), (b 2, .inl (cI, 32, .inl ((st_fb M) 1))), (b 3, .inl (cZ, 8, .inl ((st_fb M) 2)))]) hP [0, 1, 2, 3] rfl
              have hD9 := hD.sub (ws' := [(b 0, .inr (2, [.ref (b 1), .ref (b 2), .ref (b 3)])), (b 1, .inl (cI, 32, .inl ((st_fb M) 0))), (b 2, .inl (cI, 32, .inl ((st_fb M) 1))), (b 3, .inl (cZ, 8, .inl ((st_fb M) 2)))]) [0, 1, 2, 3] (by decide) rfl
              exact me_retV hx hb hr hlk hK hS dX2_fallBackToStorage_47 hP9 hD9
            · have b31 := me_nle (a := 8) (b := j) (by omega) (by omega) b31
              exfalso
              omega
          | succ d ih =>
            intro j H locs ls hd h2 hP hD hS hl
            refine lv_iload_n hx hb dX2_fallBackToStorage_28 rfl (lv_at hl 1 rfl) ?_
            refine lv_bipush (v := 8) hx hb dX2_fallBackToStorage_29 (by decide) ?_
            refine lv_icmp_ge (tgt := 47) hx hb dX2_fallBackToStorage_31 (by decide) (fun b31 => ?_) (fun b31 => ?_)
            · have b31 := me_le (a := 8) (b := j) (by omega) (by omega) b31
              exfalso
              omega
            · have b31 := me_nle (a := 8) (b := j) (by omega) (by omega) b31
              refine lv_aload_n hx hb dX2_fallBackToStorage_34 rfl (lv_at hl 0 rfl) ?_
              refine va_get (D := D) (ci := 2) (v := .ref (b 3)) (C := RX2) (T := TX2) (N := 3) hx hb hg inX2 hown hK hP 0 rfl rfl 2 (by decide) (hg _ bw_1_25) (fun _ h9 => h9) rfl dX2_fallBackToStorage_35 ?_
              refine lv_iload_n hx hb dX2_fallBackToStorage_38 rfl (lv_at hl 1 rfl) ?_
              refine lv_iconst (v := 0) hx hb dX2_fallBackToStorage_39 (by decide) ?_
              refine me_zst hx hb hK hP hD hS 3 1 rfl rfl (j) (rfl) (by omega) (by omega) (rfl) dX2_fallBackToStorage_40 (fun H locs hP hD hS => ?_)
              have hP : va_P D vwCl [(b 0, .inr (2, [.ref (b 1), .ref (b 2), .ref (b 3)])), (b 1, .inl (cI, 32, .inl (st_cp (M 1) (M 0) 0 (32)))), (b 2, .inl (cI, 32, .inl (M 1))), (b 3, .inl (cZ, 8, .inl (upd (st_ze (M 2) (j)) (j) (0))))] H := hP
              have hD : va_D A [(b 0, .inr (2, [.ref (b 1), .ref (b 2), .ref (b 3)])), (b 1, .inl (cI, 32, .inl (st_cp (M 1) (M 0) 0 (32)))), (b 2, .inl (cI, 32, .inl (M 1))), (b 3, .inl (cZ, 8, .inl (upd (st_ze (M 2) (j)) (j) (0))))] := hD
              refine lv_iinc (k := 1) (v := nI (j + 1)) hx hb dX2_fallBackToStorage_41 hl rfl (me_inc (j)) (by decide) rfl (fun ls hl => ?_)
              have hl : lv_has ls 2 [(1, .int (nI (j + 1))), (0, .ref (b 0))] := hl
              refine lv_goto (tgt := 28) hx hb dX2_fallBackToStorage_44 (by decide) ?_
              have hP := me_subP (ws' := [(b 0, .inr (2, [.ref (b 1), .ref (b 2), .ref (b 3)])), (b 1, .inl (cI, 32, .inl (st_cp (M 1) (M 0) 0 (32)))), (b 2, .inl (cI, 32, .inl (M 1))), (b 3, .inl (cZ, 8, .inl (upd (st_ze (M 2) (j)) (j) (0))))]) hP [0, 1, 2, 3] rfl
              have hD := hD.sub (ws' := [(b 0, .inr (2, [.ref (b 1), .ref (b 2), .ref (b 3)])), (b 1, .inl (cI, 32, .inl (st_cp (M 1) (M 0) 0 (32)))), (b 2, .inl (cI, 32, .inl (M 1))), (b 3, .inl (cZ, 8, .inl (upd (st_ze (M 2) (j)) (j) (0))))]) [0, 1, 2, 3] (by decide) rfl
              have hP : va_P D vwCl [(b 0, .inr (2, [.ref (b 1), .ref (b 2), .ref (b 3)])), (b 1, .inl (cI, 32, .inl (st_cp (M 1) (M 0) 0 (32)))), (b 2, .inl (cI, 32, .inl (M 1))), (b 3, .inl (cZ, 8, .inl (st_ze (M 2) (j + 1))))] H := by rw [← st_zeS]; exact hP
              have hD : va_D A [(b 0, .inr (2, [.ref (b 1), .ref (b 2), .ref (b 3)])), (b 1, .inl (cI, 32, .inl (st_cp (M 1) (M 0) 0 (32)))), (b 2, .inl (cI, 32, .inl (M 1))), (b 3, .inl (cZ, 8, .inl (st_ze (M 2) (j + 1))))] := by rw [← st_zeS]; exact hD
              have hl := lv_sub (l' := [(0, .ref (b 0)), (1, .int (nI (j + 1)))]) hl [1, 0] rfl
              exact ih (j + 1) _ _ _ (by omega) (by omega) hP hD hS hl
        have hP := me_subP (ws' := [(b 0, .inr (2, [.ref (b 1), .ref (b 2), .ref (b 3)])), (b 1, .inl (cI, 32, .inl (st_cp (M 1) (M 0) 0 (32)))), (b 2, .inl (cI, 32, .inl (M 1))), (b 3, .inl (cZ, 8, .inl (M 2)))]) hP [0, 1, 2, 3] rfl
        have hD := hD.sub (ws' := [(b 0, .inr (2, [.ref (b 1), .ref (b 2), .ref (b 3)])), (b 1, .inl (cI, 32, .inl (st_cp (M 1) (M 0) 0 (32)))), (b 2, .inl (cI, 32, .inl (M 1))), (b 3, .inl (cZ, 8, .inl (M 2)))]) [0, 1, 2, 3] (by decide) rfl
        have hP : va_P D vwCl [(b 0, .inr (2, [.ref (b 1), .ref (b 2), .ref (b 3)])), (b 1, .inl (cI, 32, .inl (st_cp (M 1) (M 0) 0 (32)))), (b 2, .inl (cI, 32, .inl (M 1))), (b 3, .inl (cZ, 8, .inl (st_ze (M 2) (0))))] H := by rw [st_ze0]; exact hP
        have hD : va_D A [(b 0, .inr (2, [.ref (b 1), .ref (b 2), .ref (b 3)])), (b 1, .inl (cI, 32, .inl (st_cp (M 1) (M 0) 0 (32)))), (b 2, .inl (cI, 32, .inl (M 1))), (b 3, .inl (cZ, 8, .inl (st_ze (M 2) (0))))] := by rw [st_ze0]; exact hD
        have hl := lv_sub (l' := [(0, .ref (b 0)), (1, .int (nI (0)))]) hl [1, 0] rfl
        exact loop28 _ 0 _ _ _ rfl (by omega) hP hD hS hl
      · have b5 := me_nle (a := 32) (b := j) (by omega) (by omega) b5
        exfalso
        omega
    | succ d ih =>
      intro j H locs ls hd h2 hP hD hS hl
      refine lv_iload_n hx hb dX2_fallBackToStorage_2 rfl (lv_at hl 1 rfl) ?_
      refine lv_bipush (v := 32) hx hb dX2_fallBackToStorage_3 (by decide) ?_
      refine lv_icmp_ge (tgt := 26) hx hb dX2_fallBackToStorage_5 (by decide) (fun b5 => ?_) (fun b5 => ?_)
      · have b5 := me_le (a := 32) (b := j) (by omega) (by omega) b5
        exfalso
        omega
      · have b5 := me_nle (a := 32) (b := j) (by omega) (by omega) b5
        refine lv_aload_n hx hb dX2_fallBackToStorage_8 rfl (lv_at hl 0 rfl) ?_
        refine va_get (D := D) (ci := 2) (v := .ref (b 1)) (C := RX2) (T := TX2) (N := 3) hx hb hg inX2 hown hK hP 0 rfl rfl 0 (by decide) (hg _ bw_1_20) (fun _ h9 => h9) rfl dX2_fallBackToStorage_9 ?_
        refine lv_iload_n hx hb dX2_fallBackToStorage_12 rfl (lv_at hl 1 rfl) ?_
        refine lv_aload_n hx hb dX2_fallBackToStorage_13 rfl (lv_at hl 0 rfl) ?_
        refine va_get (D := D) (ci := 2) (v := .ref (b 2)) (C := RX2) (T := TX2) (N := 3) hx hb hg inX2 hown hK hP 0 rfl rfl 1 (by decide) (hg _ bw_1_23) (fun _ h9 => h9) rfl dX2_fallBackToStorage_14 ?_
        refine lv_iload_n hx hb dX2_fallBackToStorage_17 rfl (lv_at hl 1 rfl) ?_
        refine me_ild hx hb hK hP 2 0 rfl rfl (j) (rfl) (by omega) (by omega) dX2_fallBackToStorage_18 ?_
        refine me_ist hx hb hK hP hD hS 1 0 rfl rfl (j) (rfl) (by omega) (by omega) dX2_fallBackToStorage_19 (fun H locs hP hD hS => ?_)
        have hP : va_P D vwCl [(b 0, .inr (2, [.ref (b 1), .ref (b 2), .ref (b 3)])), (b 1, .inl (cI, 32, .inl (upd (st_cp (M 1) (M 0) 0 (j)) (j) (M 1 j)))), (b 2, .inl (cI, 32, .inl (M 1))), (b 3, .inl (cZ, 8, .inl (M 2)))] H := hP
        have hD : va_D A [(b 0, .inr (2, [.ref (b 1), .ref (b 2), .ref (b 3)])), (b 1, .inl (cI, 32, .inl (upd (st_cp (M 1) (M 0) 0 (j)) (j) (M 1 j)))), (b 2, .inl (cI, 32, .inl (M 1))), (b 3, .inl (cZ, 8, .inl (M 2)))] := hD
        refine lv_iinc (k := 1) (v := nI (j + 1)) hx hb dX2_fallBackToStorage_20 hl rfl (me_inc (j)) (by decide) rfl (fun ls hl => ?_)
        have hl : lv_has ls 2 [(1, .int (nI (j + 1))), (0, .ref (b 0))] := hl
        refine lv_goto (tgt := 2) hx hb dX2_fallBackToStorage_23 (by decide) ?_
        have hP := me_subP (ws' := [(b 0, .inr (2, [.ref (b 1), .ref (b 2), .ref (b 3)])), (b 1, .inl (cI, 32, .inl (upd (st_cp (M 1) (M 0) 0 (j)) (j) (M 1 j)))), (b 2, .inl (cI, 32, .inl (M 1))), (b 3, .inl (cZ, 8, .inl (M 2)))]) hP [0, 1, 2, 3] rfl
        have hD := hD.sub (ws' := [(b 0, .inr (2, [.ref (b 1), .ref (b 2), .ref (b 3)])), (b 1, .inl (cI, 32, .inl (upd (st_cp (M 1) (M 0) 0 (j)) (j) (M 1 j)))), (b 2, .inl (cI, 32, .inl (M 1))), (b 3, .inl (cZ, 8, .inl (M 2)))]) [0, 1, 2, 3] (by decide) rfl
        have hP : va_P D vwCl [(b 0, .inr (2, [.ref (b 1), .ref (b 2), .ref (b 3)])), (b 1, .inl (cI, 32, .inl (st_cp (M 1) (M 0) 0 (j + 1)))), (b 2, .inl (cI, 32, .inl (M 1))), (b 3, .inl (cZ, 8, .inl (M 2)))] H := by rw [← st_cpS (Nat.zero_le j)]; exact hP
        have hD : va_D A [(b 0, .inr (2, [.ref (b 1), .ref (b 2), .ref (b 3)])), (b 1, .inl (cI, 32, .inl (st_cp (M 1) (M 0) 0 (j + 1)))), (b 2, .inl (cI, 32, .inl (M 1))), (b 3, .inl (cZ, 8, .inl (M 2)))] := by rw [← st_cpS (Nat.zero_le j)]; exact hD
        have hl := lv_sub (l' := [(0, .ref (b 0)), (1, .int (nI (j + 1)))]) hl [1, 0] rfl
        exact ih (j + 1) _ _ _ (by omega) (by omega) hP hD hS hl
  have hP := me_subP (ws' := [(b 0, .inr (2, [.ref (b 1), .ref (b 2), .ref (b 3)])), (b 1, .inl (cI, 32, .inl (M 0))), (b 2, .inl (cI, 32, .inl (M 1))), (b 3, .inl (cZ, 8, .inl (M 2)))]) hP [0, 1, 2, 3] rfl
  have hD := hD.sub (ws' := [(b 0, .inr (2, [.ref (b 1), .ref (b 2), .ref (b 3)])), (b 1, .inl (cI, 32, .inl (M 0))), (b 2, .inl (cI, 32, .inl (M 1))), (b 3, .inl (cZ, 8, .inl (M 2)))]) [0, 1, 2, 3] (by decide) rfl
  have hP : va_P D vwCl [(b 0, .inr (2, [.ref (b 1), .ref (b 2), .ref (b 3)])), (b 1, .inl (cI, 32, .inl (st_cp (M 1) (M 0) 0 (0)))), (b 2, .inl (cI, 32, .inl (M 1))), (b 3, .inl (cZ, 8, .inl (M 2)))] s.heap := by rw [st_cp0]; exact hP
  have hD : va_D A [(b 0, .inr (2, [.ref (b 1), .ref (b 2), .ref (b 3)])), (b 1, .inl (cI, 32, .inl (st_cp (M 1) (M 0) 0 (0)))), (b 2, .inl (cI, 32, .inl (M 1))), (b 3, .inl (cZ, 8, .inl (M 2)))] := by rw [st_cp0]; exact hD
  have hl := lv_sub (l' := [(0, .ref (b 0)), (1, .int (nI (0)))]) hl [1, 0] rfl
  exact loop2 _ 0 _ _ _ rfl (by omega) hP hD hS hl
end
section
set_option maxHeartbeats 4000000 in
set_option maxRecDepth 100000 in
theorem c_bu_isFull (l : Launch) (D : va_G) (cI cZ cR : ClassId) (a : Nat → Nat) (ro : Nat) (K : st_T) (hh : K 7 0 = nI (st_h K)) (hb1 : st_h K ≤ ro) (hro : ro ≤ 8) : me_I l yX0_isFull wsX0_isFull ({ frames := 0, cells := 0, slots := 0, locals := 0 } : Room) D (me_TYS cI cZ cR) ([.ref (a 6)] : List Value) (w_bu a cI ro K) (me_b (ro ≤ st_h K)) (w_bu a cI ro K) := by
  intro sz
  refine me_ent (cc := cX0_isFull) (maxL := 1) (ret := (some .boolean)) (Qf := me_QI D (me_TYS cI cZ cR) (me_b (ro ≤ st_h K)) (w_bu a cI ro K)) (by decide) rfl (Nat.le_of_ble_eq_true rfl) ?_
  intro p e s m below meth c A ls hx hb hr hml hts hown hlk hin hP hK hD hN hA hS hl
  have hown : s.vm.findClass RX0 = some m.cls := hown
  have hg : ∀ w9 ∈ bg, w9.before ([.ref (a 6)] : List Value).toArray s = true := fun w9 h9 => hts w9 (List.mem_cons_of_mem _ h9)
  have hl : lv_has ls 1 [(0, .ref (a 6))] := hl
  have hP : va_P D vwCl [(a 6, .inr (0, [.ref (a 7), .ref (a 8), .ref (a 9), .int (K 7 0)])), (a 7, .inl (cI, ro, .inl (K 8))), (a 8, .inl (cI, ro, .inl (K 9))), (a 9, .inl (cI, ro, .inl (K 10)))] s.heap := hP
  have hD : va_D A [(a 6, .inr (0, [.ref (a 7), .ref (a 8), .ref (a 9), .int (K 7 0)])), (a 7, .inl (cI, ro, .inl (K 8))), (a 8, .inl (cI, ro, .inl (K 9))), (a 9, .inl (cI, ro, .inl (K 10)))] := hD
  refine lv_aload_n hx hb dX0_isFull_0 rfl (lv_at hl 0 rfl) ?_
  refine va_get (D := D) (ci := 0) (v := .int (K 7 0)) (C := RX0) (T := TX0) (N := 4) hx hb hg inX0 hown hK hP 0 rfl rfl 3 (by decide) (hg _ bw_1_55) (fun _ h9 => h9) rfl dX0_isFull_1 ?_
  refine me_t (x := K 7 0) (y := nI (st_h K)) (hh) ?_
  refine lv_aload_n hx hb dX0_isFull_4 rfl (lv_at hl 0 rfl) ?_
  refine va_get (D := D) (ci := 0) (v := .ref (a 7)) (C := RX0) (T := TX0) (N := 4) hx hb hg inX0 hown hK hP 0 rfl rfl 0 (by decide) (hg _ bw_1_49) (fun _ h9 => h9) rfl dX0_isFull_5 ?_
  refine va_alen (v := nI (ro)) hx hb hK hP 1 0 rfl rfl rfl dX0_isFull_8 ?_
  refine lv_icmp_lt (tgt := 16) hx hb dX0_isFull_9 (by decide) (fun b9 => ?_) (fun b9 => ?_)
  · have b9 := me_lt (a := st_h K) (b := ro) (by omega) (by omega) b9
    refine lv_iconst (v := 0) hx hb dX0_isFull_16 (by decide) ?_
    have hP9 := me_subP (ws' := [(a 6, .inr (0, [.ref (a 7), .ref (a 8), .ref (a 9), .int (K 7 0)])), (a 7, .inl (cI, ro, .inl (K 8))), (a 8, .inl (cI, ro, .inl (K 9))), (a 9, .inl (cI, ro, .inl (K 10)))]) hP [0, 1, 2, 3] rfl
    have hD9 := hD.sub (ws' := [(a 6, .inr (0, [.ref (a 7), .ref (a 8), .ref (a 9), .int (K 7 0)])), (a 7, .inl (cI, ro, .inl (K 8))), (a 8, .inl (cI, ro, .inl (K 9))), (a 9, .inl (cI, ro, .inl (K 10)))]) [0, 1, 2, 3] (by decide) rfl
    exact me_retZ hx hb hr hlk hK hS dX0_isFull_17 (rfl) ((me_bf (by omega)).symm) hP9 hD9
  · have b9 := me_nlt (a := st_h K) (b := ro) (by omega) (by omega) b9
    refine lv_iconst (v := 1) hx hb dX0_isFull_12 (by decide) ?_
    refine lv_goto (tgt := 17) hx hb dX0_isFull_13 (by decide) ?_
    have hP9 := me_subP (ws' := [(a 6, .inr (0, [.ref (a 7), .ref (a 8), .ref (a 9), .int (K 7 0)])), (a 7, .inl (cI, ro, .inl (K 8))), (a 8, .inl (cI, ro, .inl (K 9))), (a 9, .inl (cI, ro, .inl (K 10)))]) hP [0, 1, 2, 3] rfl
    have hD9 := hD.sub (ws' := [(a 6, .inr (0, [.ref (a 7), .ref (a 8), .ref (a 9), .int (K 7 0)])), (a 7, .inl (cI, ro, .inl (K 8))), (a 8, .inl (cI, ro, .inl (K 9))), (a 9, .inl (cI, ro, .inl (K 10)))]) [0, 1, 2, 3] (by decide) rfl
    exact me_retZ hx hb hr hlk hK hS dX0_isFull_17 (rfl) ((me_bt b9).symm) hP9 hD9
set_option maxHeartbeats 4000000 in
set_option maxRecDepth 100000 in
theorem c_bu_append (l : Launch) (D : va_G) (cI cZ cR : ClassId) (a : Nat → Nat) (ro : Nat) (K : st_T) (ki ti vi : Int32) (hh : K 7 0 = nI (st_h K)) (hlt : st_h K < ro) (hro : ro ≤ 8) : me_V l yX0_append wsX0_append ({ frames := 1, cells := 0, slots := 0, locals := 20 } : Room) D (me_TYS cI cZ cR) ([.ref (a 6), .int (ki), .int (ti), .int (vi)] : List Value) (w_bu a cI ro K) (w_bu a cI ro (st_ap K ki ti vi)) := by
  intro sz
  refine me_ent (cc := cX0_append) (maxL := 4) (ret := none) (Qf := me_QV D (me_TYS cI cZ cR) (w_bu a cI ro (st_ap K ki ti vi))) (by decide) rfl (Nat.le_of_ble_eq_true rfl) ?_
  intro p e s m below meth c A ls hx hb hr hml hts hown hlk hin hP hK hD hN hA hS hl
  have hown : s.vm.findClass RX0 = some m.cls := hown
  have hg : ∀ w9 ∈ bg, w9.before ([.ref (a 6), .int (ki), .int (ti), .int (vi)] : List Value).toArray s = true := fun w9 h9 => hts w9 (List.mem_cons_of_mem _ h9)
  have hl : lv_has ls 4 [(0, .ref (a 6)), (1, .int (ki)), (2, .int (ti)), (3, .int (vi))] := hl
  have hP : va_P D vwCl [(a 6, .inr (0, [.ref (a 7), .ref (a 8), .ref (a 9), .int (K 7 0)])), (a 7, .inl (cI, ro, .inl (K 8))), (a 8, .inl (cI, ro, .inl (K 9))), (a 9, .inl (cI, ro, .inl (K 10)))] s.heap := hP
  have hD : va_D A [(a 6, .inr (0, [.ref (a 7), .ref (a 8), .ref (a 9), .int (K 7 0)])), (a 7, .inl (cI, ro, .inl (K 8))), (a 8, .inl (cI, ro, .inl (K 9))), (a 9, .inl (cI, ro, .inl (K 10)))] := hD
  refine lv_aload_n hx hb dX0_append_0 rfl (lv_at hl 0 rfl) ?_
  refine me_goI (wr := []) (wc := [(a 6, .inr (0, [.ref (a 7), .ref (a 8), .ref (a 9), .int (K 7 0)])), (a 7, .inl (cI, ro, .inl (K 8))), (a 8, .inl (cI, ro, .inl (K 9))), (a 9, .inl (cI, ro, .inl (K 10)))]) (w1 := [(a 6, .inr (0, [.ref (a 7), .ref (a 8), .ref (a 9), .int (K 7 0)])), (a 7, .inl (cI, ro, .inl (K 8))), (a 8, .inl (cI, ro, .inl (K 9))), (a 9, .inl (cI, ro, .inl (K 10)))]) (va_runV (C := RX0) (b := a 6) (As := []) (rest := []) ⟨hx, hb, hml, hown, hg⟩ (c_bu_isFull l D cI cZ cR a ro K hh (by omega) hro s.heap.size) (cwV 0 hg (bg_gV (fun _ h => h) bw_1_157 bw_1_139 bw_s_4 bw_1_4 bw_1_140) rfl rfl rfl (by decide +kernel) ⟨Nat.le_of_ble_eq_true rfl, Nat.le_of_ble_eq_true rfl⟩) (me_preV (wc := [(a 6, .inr (0, [.ref (a 7), .ref (a 8), .ref (a 9), .int (K 7 0)])), (a 7, .inl (cI, ro, .inl (K 8))), (a 8, .inl (cI, ro, .inl (K 9))), (a 9, .inl (cI, ro, .inl (K 10)))]) hP hD hK hN [0, 1, 2, 3] rfl (by decide) (va_recv (q0 := 0) (ci := 0) hK hP rfl rfl)) rfl rfl hl.1 rfl (lv_room (Nat.le_of_ble_eq_true rfl)) dX0_append_1 ⟨Nat.zero_le _, Nat.zero_le _⟩) hP hD hS hA [0, 1, 2, 3] [] rfl rfl (by decide) (by decide) (fun H locs hP hD hS => ?_)
  have hP : va_P D vwCl [(a 6, .inr (0, [.ref (a 7), .ref (a 8), .ref (a 9), .int (K 7 0)])), (a 7, .inl (cI, ro, .inl (K 8))), (a 8, .inl (cI, ro, .inl (K 9))), (a 9, .inl (cI, ro, .inl (K 10)))] H := hP
  have hD : va_D A [(a 6, .inr (0, [.ref (a 7), .ref (a 8), .ref (a 9), .int (K 7 0)])), (a 7, .inl (cI, ro, .inl (K 8))), (a 8, .inl (cI, ro, .inl (K 9))), (a 9, .inl (cI, ro, .inl (K 10)))] := hD
  refine lv_if_eq (tgt := 8) hx hb dX0_append_4 (by decide) (fun b4 => ?_) (fun b4 => ?_)
  · have b4 := me_b0 b4
    refine lv_aload_n hx hb dX0_append_8 rfl (lv_at hl 0 rfl) ?_
    refine va_get (D := D) (ci := 0) (v := .ref (a 7)) (C := RX0) (T := TX0) (N := 4) hx hb hg inX0 hown hK hP 0 rfl rfl 0 (by decide) (hg _ bw_1_49) (fun _ h9 => h9) rfl dX0_append_9 ?_
    refine lv_aload_n hx hb dX0_append_12 rfl (lv_at hl 0 rfl) ?_
    refine va_get (D := D) (ci := 0) (v := .int (K 7 0)) (C := RX0) (T := TX0) (N := 4) hx hb hg inX0 hown hK hP 0 rfl rfl 3 (by decide) (hg _ bw_1_55) (fun _ h9 => h9) rfl dX0_append_13 ?_
    refine me_t (x := K 7 0) (y := nI (st_h K)) (hh) ?_
    refine lv_iload_n hx hb dX0_append_16 rfl (lv_at hl 1 rfl) ?_
    refine me_ist hx hb hK hP hD hS 1 0 rfl rfl (st_h K) (rfl) (by omega) (by omega) dX0_append_17 (fun H locs hP hD hS => ?_)
    have hP : va_P D vwCl [(a 6, .inr (0, [.ref (a 7), .ref (a 8), .ref (a 9), .int (K 7 0)])), (a 7, .inl (cI, ro, .inl (upd (K 8) (st_h K) (ki)))), (a 8, .inl (cI, ro, .inl (K 9))), (a 9, .inl (cI, ro, .inl (K 10)))] H := hP
    have hD : va_D A [(a 6, .inr (0, [.ref (a 7), .ref (a 8), .ref (a 9), .int (K 7 0)])), (a 7, .inl (cI, ro, .inl (upd (K 8) (st_h K) (ki)))), (a 8, .inl (cI, ro, .inl (K 9))), (a 9, .inl (cI, ro, .inl (K 10)))] := hD
    refine lv_aload_n hx hb dX0_append_18 rfl (lv_at hl 0 rfl) ?_
    refine va_get (D := D) (ci := 0) (v := .ref (a 8)) (C := RX0) (T := TX0) (N := 4) hx hb hg inX0 hown hK hP 0 rfl rfl 1 (by decide) (hg _ bw_1_51) (fun _ h9 => h9) rfl dX0_append_19 ?_
    refine lv_aload_n hx hb dX0_append_22 rfl (lv_at hl 0 rfl) ?_
    refine va_get (D := D) (ci := 0) (v := .int (K 7 0)) (C := RX0) (T := TX0) (N := 4) hx hb hg inX0 hown hK hP 0 rfl rfl 3 (by decide) (hg _ bw_1_55) (fun _ h9 => h9) rfl dX0_append_23 ?_
    refine me_t (x := K 7 0) (y := nI (st_h K)) (hh) ?_
    refine lv_iload_n hx hb dX0_append_26 rfl (lv_at hl 2 rfl) ?_
    refine me_ist hx hb hK hP hD hS 2 0 rfl rfl (st_h K) (rfl) (by omega) (by omega) dX0_append_27 (fun H locs hP hD hS => ?_)
    have hP : va_P D vwCl [(a 6, .inr (0, [.ref (a 7), .ref (a 8), .ref (a 9), .int (K 7 0)])), (a 7, .inl (cI, ro, .inl (upd (K 8) (st_h K) (ki)))), (a 8, .inl (cI, ro, .inl (upd (K 9) (st_h K) (ti)))), (a 9, .inl (cI, ro, .inl (K 10)))] H := hP
    have hD : va_D A [(a 6, .inr (0, [.ref (a 7), .ref (a 8), .ref (a 9), .int (K 7 0)])), (a 7, .inl (cI, ro, .inl (upd (K 8) (st_h K) (ki)))), (a 8, .inl (cI, ro, .inl (upd (K 9) (st_h K) (ti)))), (a 9, .inl (cI, ro, .inl (K 10)))] := hD
    refine lv_aload_n hx hb dX0_append_28 rfl (lv_at hl 0 rfl) ?_
    refine va_get (D := D) (ci := 0) (v := .ref (a 9)) (C := RX0) (T := TX0) (N := 4) hx hb hg inX0 hown hK hP 0 rfl rfl 2 (by decide) (hg _ bw_1_53) (fun _ h9 => h9) rfl dX0_append_29 ?_
    refine lv_aload_n hx hb dX0_append_32 rfl (lv_at hl 0 rfl) ?_
    refine va_get (D := D) (ci := 0) (v := .int (K 7 0)) (C := RX0) (T := TX0) (N := 4) hx hb hg inX0 hown hK hP 0 rfl rfl 3 (by decide) (hg _ bw_1_55) (fun _ h9 => h9) rfl dX0_append_33 ?_
    refine me_t (x := K 7 0) (y := nI (st_h K)) (hh) ?_
    refine lv_iload_n hx hb dX0_append_36 rfl (lv_at hl 3 rfl) ?_
    refine me_ist hx hb hK hP hD hS 3 0 rfl rfl (st_h K) (rfl) (by omega) (by omega) dX0_append_37 (fun H locs hP hD hS => ?_)
    have hP : va_P D vwCl [(a 6, .inr (0, [.ref (a 7), .ref (a 8), .ref (a 9), .int (K 7 0)])), (a 7, .inl (cI, ro, .inl (upd (K 8) (st_h K) (ki)))), (a 8, .inl (cI, ro, .inl (upd (K 9) (st_h K) (ti)))), (a 9, .inl (cI, ro, .inl (upd (K 10) (st_h K) (vi))))] H := hP
    have hD : va_D A [(a 6, .inr (0, [.ref (a 7), .ref (a 8), .ref (a 9), .int (K 7 0)])), (a 7, .inl (cI, ro, .inl (upd (K 8) (st_h K) (ki)))), (a 8, .inl (cI, ro, .inl (upd (K 9) (st_h K) (ti)))), (a 9, .inl (cI, ro, .inl (upd (K 10) (st_h K) (vi))))] := hD
    refine lv_aload_n hx hb dX0_append_38 rfl (lv_at hl 0 rfl) ?_
    refine lv_dup hx hb dX0_append_39 rfl ?_
    refine va_get (D := D) (ci := 0) (v := .int (K 7 0)) (C := RX0) (T := TX0) (N := 4) hx hb hg inX0 hown hK hP 0 rfl rfl 3 (by decide) (hg _ bw_1_55) (fun _ h9 => h9) rfl dX0_append_40 ?_
    refine me_t (x := K 7 0) (y := nI (st_h K)) (hh) ?_
    refine lv_iconst (v := 1) hx hb dX0_append_43 (by decide) ?_
    refine lv_iadd hx hb dX0_append_44 ?_
    refine me_t (x := (nI (st_h K)) + 1) (y := nI (st_h K + 1)) (nI_add (st_h K) (1)) ?_
    refine va_put (D := D) (ci := 0) (v := .int (nI (st_h K + 1))) (ty := .int) (C := RX0) (T := TX0) (N := 4) hx hb hg inX0 tyX0 tyX0_ok nmX0 hown hK hP hD hS 0 rfl rfl 3 (by decide) (hg _ bw_1_55) (fun _ h9 => h9) rfl (by decide +kernel) rfl rfl (Nat.le_of_ble_eq_true rfl) dX0_append_45 (fun H locs hP hD hS => ?_)
    have hP : va_P D vwCl [(a 6, .inr (0, [.ref (a 7), .ref (a 8), .ref (a 9), .int (nI (st_h K + 1))])), (a 7, .inl (cI, ro, .inl (upd (K 8) (st_h K) (ki)))), (a 8, .inl (cI, ro, .inl (upd (K 9) (st_h K) (ti)))), (a 9, .inl (cI, ro, .inl (upd (K 10) (st_h K) (vi))))] H := hP
    have hD : va_D A [(a 6, .inr (0, [.ref (a 7), .ref (a 8), .ref (a 9), .int (nI (st_h K + 1))])), (a 7, .inl (cI, ro, .inl (upd (K 8) (st_h K) (ki)))), (a 8, .inl (cI, ro, .inl (upd (K 9) (st_h K) (ti)))), (a 9, .inl (cI, ro, .inl (upd (K 10) (st_h K) (vi))))] := hD
    have hP9 := me_subP (ws' := [(a 6, .inr (0, [.ref (a 7), .ref (a 8), .ref (a 9), .int ((st_ap K ki ti vi) 7 0)])), (a 7, .inl (cI, ro, .inl ((st_ap K ki ti vi) 8))), (a 8, .inl (cI, ro, .inl ((st_ap K ki ti vi) 9))), (a 9, .inl (cI, ro, .inl ((st_ap K ki ti vi) 10)))]) hP [0, 1, 2, 3] rfl
    have hD9 := hD.sub (ws' := [(a 6, .inr (0, [.ref (a 7), .ref (a 8), .ref (a 9), .int ((st_ap K ki ti vi) 7 0)])), (a 7, .inl (cI, ro, .inl ((st_ap K ki ti vi) 8))), (a 8, .inl (cI, ro, .inl ((st_ap K ki ti vi) 9))), (a 9, .inl (cI, ro, .inl ((st_ap K ki ti vi) 10)))]) [0, 1, 2, 3] (by decide) rfl
    exact me_retV hx hb hr hlk hK hS dX0_append_48 hP9 hD9
  · have b4 := me_b1 b4
    exfalso
    omega
set_option maxHeartbeats 4000000 in
set_option maxRecDepth 100000 in
theorem c_bu_newest (l : Launch) (D : va_G) (cI cZ cR : ClassId) (a : Nat → Nat) (ro : Nat) (K : st_T) (wi oi : Int32) (hh : K 7 0 = nI (st_h K)) (hb1 : st_h K ≤ ro) (hro : ro ≤ 8) : me_I l yX0_newestValue wsX0_newestValue ({ frames := 0, cells := 0, slots := 0, locals := 0 } : Room) D (me_TYS cI cZ cR) ([.ref (a 6), .int (wi), .int (oi)] : List Value) (w_bu a cI ro K) (st_nv K wi oi (st_h K)) (w_bu a cI ro K) := by
  intro sz
  refine me_ent (cc := cX0_newestValue) (maxL := 4) (ret := (some .int)) (Qf := me_QI D (me_TYS cI cZ cR) (st_nv K wi oi (st_h K)) (w_bu a cI ro K)) (by decide) rfl (Nat.le_of_ble_eq_true rfl) ?_
  intro p e s m below meth c A ls hx hb hr hml hts hown hlk hin hP hK hD hN hA hS hl
  have hown : s.vm.findClass RX0 = some m.cls := hown
  have hg : ∀ w9 ∈ bg, w9.before ([.ref (a 6), .int (wi), .int (oi)] : List Value).toArray s = true := fun w9 h9 => hts w9 (List.mem_cons_of_mem _ h9)
  have hl : lv_has ls 4 [(0, .ref (a 6)), (1, .int (wi)), (2, .int (oi))] := hl
  have hP : va_P D vwCl [(a 6, .inr (0, [.ref (a 7), .ref (a 8), .ref (a 9), .int (K 7 0)])), (a 7, .inl (cI, ro, .inl (K 8))), (a 8, .inl (cI, ro, .inl (K 9))), (a 9, .inl (cI, ro, .inl (K 10)))] s.heap := hP
  have hD : va_D A [(a 6, .inr (0, [.ref (a 7), .ref (a 8), .ref (a 9), .int (K 7 0)])), (a 7, .inl (cI, ro, .inl (K 8))), (a 8, .inl (cI, ro, .inl (K 9))), (a 9, .inl (cI, ro, .inl (K 10)))] := hD
  refine lv_aload_n hx hb dX0_newestValue_0 rfl (lv_at hl 0 rfl) ?_
  refine va_get (D := D) (ci := 0) (v := .int (K 7 0)) (C := RX0) (T := TX0) (N := 4) hx hb hg inX0 hown hK hP 0 rfl rfl 3 (by decide) (hg _ bw_1_55) (fun _ h9 => h9) rfl dX0_newestValue_1 ?_
  refine me_t (x := K 7 0) (y := nI (st_h K)) (hh) ?_
  refine lv_iconst (v := 1) hx hb dX0_newestValue_4 (by decide) ?_
  refine lv_isub hx hb dX0_newestValue_5 ?_
  refine me_t (x := (nI (st_h K)) - 1) (y := nI (st_h K) - 1) (rfl) ?_
  refine lv_istore_n hx hb dX0_newestValue_6 rfl hl (by decide) rfl (fun ls hl => ?_)
  have hl : lv_has ls 4 [(3, .int (nI (st_h K) - 1)), (0, .ref (a 6)), (1, .int (wi)), (2, .int (oi))] := hl
  have loop7 : ∀ (d : Nat)  (H : Heap) (locs : List Loc) (ls : Array Slot), d ≤ st_h K → st_nv K wi oi (st_h K) = st_nv K wi oi d → va_P D vwCl [(a 6, .inr (0, [.ref (a 7), .ref (a 8), .ref (a 9), .int (K 7 0)])), (a 7, .inl (cI, ro, .inl (K 8))), (a 8, .inl (cI, ro, .inl (K 9))), (a 9, .inl (cI, ro, .inl (K 10)))] H → va_D A [(a 6, .inr (0, [.ref (a 7), .ref (a 8), .ref (a 9), .int (K 7 0)])), (a 7, .inl (cI, ro, .inl (K 8))), (a 8, .inl (cI, ro, .inl (K 9))), (a 9, .inl (cI, ro, .inl (K 10)))] → va_S A s.heap H locs → lv_has ls 4 [(0, .ref (a 6)), (1, .int (wi)), (2, .int (oi)), (3, .int (nI (d) - 1))] → W p l e ({ frames := 0, cells := 0, slots := 0, locals := 0 } : Room) s m ([.ref (a 6), .int (wi), .int (oi)] : List Value).toArray below meth c H locs 0 0 (MQ below (me_QI D (me_TYS cI cZ cR) (st_nv K wi oi (st_h K)) (w_bu a cI ro K) A) ([.ref (a 6), .int (wi), .int (oi)] : List Value).toArray s 0 0 A) (F0 m 7 ls []) := by
    intro d
    induction d with
    | zero =>
      intro  H locs ls h1 h2 hP hD hS hl
      have hP : va_P D vwCl [(a 6, .inr (0, [.ref (a 7), .ref (a 8), .ref (a 9), .int (K 7 0)])), (a 7, .inl (cI, ro, .inl (K 8))), (a 8, .inl (cI, ro, .inl (K 9))), (a 9, .inl (cI, ro, .inl (K 10)))] H := hP
      have hD : va_D A [(a 6, .inr (0, [.ref (a 7), .ref (a 8), .ref (a 9), .int (K 7 0)])), (a 7, .inl (cI, ro, .inl (K 8))), (a 8, .inl (cI, ro, .inl (K 9))), (a 9, .inl (cI, ro, .inl (K 10)))] := hD
      have hl : lv_has ls 4 [(0, .ref (a 6)), (1, .int (wi)), (2, .int (oi)), (3, .int (nI (0) - 1))] := hl
      refine lv_iload_n hx hb dX0_newestValue_7 rfl (lv_at hl 3 rfl) ?_
      refine me_t (x := nI (0) - 1) (y := (-1)) (by decide) ?_
      refine lv_if_lt (tgt := 43) hx hb dX0_newestValue_8 (by decide) (fun _ => ?_) (fun q => absurd (by decide) q)
      refine lv_iload_n hx hb dX0_newestValue_43 rfl (lv_at hl 2 rfl) ?_
      have hP9 := me_subP (ws' := [(a 6, .inr (0, [.ref (a 7), .ref (a 8), .ref (a 9), .int (K 7 0)])), (a 7, .inl (cI, ro, .inl (K 8))), (a 8, .inl (cI, ro, .inl (K 9))), (a 9, .inl (cI, ro, .inl (K 10)))]) hP [0, 1, 2, 3] rfl
      have hD9 := hD.sub (ws' := [(a 6, .inr (0, [.ref (a 7), .ref (a 8), .ref (a 9), .int (K 7 0)])), (a 7, .inl (cI, ro, .inl (K 8))), (a 8, .inl (cI, ro, .inl (K 9))), (a 9, .inl (cI, ro, .inl (K 10)))]) [0, 1, 2, 3] (by decide) rfl
      exact me_retI hx hb hr hlk hK hS dX0_newestValue_44 (h2.symm) hP9 hD9
    | succ d ih =>
      intro  H locs ls h1 h2 hP hD hS hl
      have hP : va_P D vwCl [(a 6, .inr (0, [.ref (a 7), .ref (a 8), .ref (a 9), .int (K 7 0)])), (a 7, .inl (cI, ro, .inl (K 8))), (a 8, .inl (cI, ro, .inl (K 9))), (a 9, .inl (cI, ro, .inl (K 10)))] H := hP
      have hD : va_D A [(a 6, .inr (0, [.ref (a 7), .ref (a 8), .ref (a 9), .int (K 7 0)])), (a 7, .inl (cI, ro, .inl (K 8))), (a 8, .inl (cI, ro, .inl (K 9))), (a 9, .inl (cI, ro, .inl (K 10)))] := hD
      have hl : lv_has ls 4 [(0, .ref (a 6)), (1, .int (wi)), (2, .int (oi)), (3, .int (nI (d + 1) - 1))] := hl
      refine lv_iload_n hx hb dX0_newestValue_7 rfl (lv_at hl 3 rfl) ?_
      refine me_t (x := nI (d + 1) - 1) (y := nI (d)) (nI_pred d) ?_
      refine lv_if_lt (tgt := 43) hx hb dX0_newestValue_8 (by decide) (fun b8 => ?_) (fun b8 => ?_)
      · have b8 := me_lt (a := d) (b := 0) (by omega) (by omega) b8
        exfalso
        omega
      · have b8 := me_nlt (a := d) (b := 0) (by omega) (by omega) b8
        refine lv_aload_n hx hb dX0_newestValue_11 rfl (lv_at hl 0 rfl) ?_
        refine va_get (D := D) (ci := 0) (v := .ref (a 7)) (C := RX0) (T := TX0) (N := 4) hx hb hg inX0 hown hK hP 0 rfl rfl 0 (by decide) (hg _ bw_1_49) (fun _ h9 => h9) rfl dX0_newestValue_12 ?_
        refine lv_iload_n hx hb dX0_newestValue_15 rfl (lv_at hl 3 rfl) ?_
        refine me_t (x := nI (d + 1) - 1) (y := nI (d)) (nI_pred d) ?_
        refine me_ild hx hb hK hP 1 0 rfl rfl (d) (rfl) (by omega) (by omega) dX0_newestValue_16 ?_
        refine lv_if_ne (tgt := 37) hx hb dX0_newestValue_17 (by decide) (fun b17 => ?_) (fun b17 => ?_)
        · refine lv_iinc (k := 3) (v := nI (d) - 1) hx hb dX0_newestValue_37 hl rfl (me_decm d) (by decide) rfl (fun ls hl => ?_)
          have hl : lv_has ls 4 [(3, .int (nI (d) - 1)), (0, .ref (a 6)), (1, .int (wi)), (2, .int (oi))] := hl
          refine lv_goto (tgt := 7) hx hb dX0_newestValue_40 (by decide) ?_
          have hP := me_subP (ws' := [(a 6, .inr (0, [.ref (a 7), .ref (a 8), .ref (a 9), .int (K 7 0)])), (a 7, .inl (cI, ro, .inl (K 8))), (a 8, .inl (cI, ro, .inl (K 9))), (a 9, .inl (cI, ro, .inl (K 10)))]) hP [0, 1, 2, 3] rfl
          have hD := hD.sub (ws' := [(a 6, .inr (0, [.ref (a 7), .ref (a 8), .ref (a 9), .int (K 7 0)])), (a 7, .inl (cI, ro, .inl (K 8))), (a 8, .inl (cI, ro, .inl (K 9))), (a 9, .inl (cI, ro, .inl (K 10)))]) [0, 1, 2, 3] (by decide) rfl
          have hP : va_P D vwCl [(a 6, .inr (0, [.ref (a 7), .ref (a 8), .ref (a 9), .int (K 7 0)])), (a 7, .inl (cI, ro, .inl (K 8))), (a 8, .inl (cI, ro, .inl (K 9))), (a 9, .inl (cI, ro, .inl (K 10)))] H := hP
          have hD : va_D A [(a 6, .inr (0, [.ref (a 7), .ref (a 8), .ref (a 9), .int (K 7 0)])), (a 7, .inl (cI, ro, .inl (K 8))), (a 8, .inl (cI, ro, .inl (K 9))), (a 9, .inl (cI, ro, .inl (K 10)))] := hD
          have hl := lv_sub (l' := [(0, .ref (a 6)), (1, .int (wi)), (2, .int (oi)), (3, .int (nI (d) - 1))]) hl [1, 2, 3, 0] rfl
          exact ih  _ _ _ (by omega) (h2.trans (me_swf (fun q => b17 q.1))) hP hD hS hl
        · refine lv_aload_n hx hb dX0_newestValue_20 rfl (lv_at hl 0 rfl) ?_
          refine va_get (D := D) (ci := 0) (v := .ref (a 8)) (C := RX0) (T := TX0) (N := 4) hx hb hg inX0 hown hK hP 0 rfl rfl 1 (by decide) (hg _ bw_1_51) (fun _ h9 => h9) rfl dX0_newestValue_21 ?_
          refine lv_iload_n hx hb dX0_newestValue_24 rfl (lv_at hl 3 rfl) ?_
          refine me_t (x := nI (d + 1) - 1) (y := nI (d)) (nI_pred d) ?_
          refine me_ild hx hb hK hP 2 0 rfl rfl (d) (rfl) (by omega) (by omega) dX0_newestValue_25 ?_
          refine lv_iload_n hx hb dX0_newestValue_26 rfl (lv_at hl 1 rfl) ?_
          refine lv_icmp_ne (tgt := 37) hx hb dX0_newestValue_27 (by decide) (fun b27 => ?_) (fun b27 => ?_)
          · refine lv_iinc (k := 3) (v := nI (d) - 1) hx hb dX0_newestValue_37 hl rfl (me_decm d) (by decide) rfl (fun ls hl => ?_)
            have hl : lv_has ls 4 [(3, .int (nI (d) - 1)), (0, .ref (a 6)), (1, .int (wi)), (2, .int (oi))] := hl
            refine lv_goto (tgt := 7) hx hb dX0_newestValue_40 (by decide) ?_
            have hP := me_subP (ws' := [(a 6, .inr (0, [.ref (a 7), .ref (a 8), .ref (a 9), .int (K 7 0)])), (a 7, .inl (cI, ro, .inl (K 8))), (a 8, .inl (cI, ro, .inl (K 9))), (a 9, .inl (cI, ro, .inl (K 10)))]) hP [0, 1, 2, 3] rfl
            have hD := hD.sub (ws' := [(a 6, .inr (0, [.ref (a 7), .ref (a 8), .ref (a 9), .int (K 7 0)])), (a 7, .inl (cI, ro, .inl (K 8))), (a 8, .inl (cI, ro, .inl (K 9))), (a 9, .inl (cI, ro, .inl (K 10)))]) [0, 1, 2, 3] (by decide) rfl
            have hP : va_P D vwCl [(a 6, .inr (0, [.ref (a 7), .ref (a 8), .ref (a 9), .int (K 7 0)])), (a 7, .inl (cI, ro, .inl (K 8))), (a 8, .inl (cI, ro, .inl (K 9))), (a 9, .inl (cI, ro, .inl (K 10)))] H := hP
            have hD : va_D A [(a 6, .inr (0, [.ref (a 7), .ref (a 8), .ref (a 9), .int (K 7 0)])), (a 7, .inl (cI, ro, .inl (K 8))), (a 8, .inl (cI, ro, .inl (K 9))), (a 9, .inl (cI, ro, .inl (K 10)))] := hD
            have hl := lv_sub (l' := [(0, .ref (a 6)), (1, .int (wi)), (2, .int (oi)), (3, .int (nI (d) - 1))]) hl [1, 2, 3, 0] rfl
            exact ih  _ _ _ (by omega) (h2.trans (me_swf (fun q => b27 q.2))) hP hD hS hl
          · refine lv_aload_n hx hb dX0_newestValue_30 rfl (lv_at hl 0 rfl) ?_
            refine va_get (D := D) (ci := 0) (v := .ref (a 9)) (C := RX0) (T := TX0) (N := 4) hx hb hg inX0 hown hK hP 0 rfl rfl 2 (by decide) (hg _ bw_1_53) (fun _ h9 => h9) rfl dX0_newestValue_31 ?_
            refine lv_iload_n hx hb dX0_newestValue_34 rfl (lv_at hl 3 rfl) ?_
            refine me_t (x := nI (d + 1) - 1) (y := nI (d)) (nI_pred d) ?_
            refine me_ild hx hb hK hP 3 0 rfl rfl (d) (rfl) (by omega) (by omega) dX0_newestValue_35 ?_
            have hP9 := me_subP (ws' := [(a 6, .inr (0, [.ref (a 7), .ref (a 8), .ref (a 9), .int (K 7 0)])), (a 7, .inl (cI, ro, .inl (K 8))), (a 8, .inl (cI, ro, .inl (K 9))), (a 9, .inl (cI, ro, .inl (K 10)))]) hP [0, 1, 2, 3] rfl
            have hD9 := hD.sub (ws' := [(a 6, .inr (0, [.ref (a 7), .ref (a 8), .ref (a 9), .int (K 7 0)])), (a 7, .inl (cI, ro, .inl (K 8))), (a 8, .inl (cI, ro, .inl (K 9))), (a 9, .inl (cI, ro, .inl (K 10)))]) [0, 1, 2, 3] (by decide) rfl
            exact me_retI hx hb hr hlk hK hS dX0_newestValue_36 ((h2.trans (me_swt ⟨b17, b27⟩)).symm) hP9 hD9
  have hP := me_subP (ws' := [(a 6, .inr (0, [.ref (a 7), .ref (a 8), .ref (a 9), .int (K 7 0)])), (a 7, .inl (cI, ro, .inl (K 8))), (a 8, .inl (cI, ro, .inl (K 9))), (a 9, .inl (cI, ro, .inl (K 10)))]) hP [0, 1, 2, 3] rfl
  have hD := hD.sub (ws' := [(a 6, .inr (0, [.ref (a 7), .ref (a 8), .ref (a 9), .int (K 7 0)])), (a 7, .inl (cI, ro, .inl (K 8))), (a 8, .inl (cI, ro, .inl (K 9))), (a 9, .inl (cI, ro, .inl (K 10)))]) [0, 1, 2, 3] (by decide) rfl
  have hP : va_P D vwCl [(a 6, .inr (0, [.ref (a 7), .ref (a 8), .ref (a 9), .int (K 7 0)])), (a 7, .inl (cI, ro, .inl (K 8))), (a 8, .inl (cI, ro, .inl (K 9))), (a 9, .inl (cI, ro, .inl (K 10)))] s.heap := hP
  have hD : va_D A [(a 6, .inr (0, [.ref (a 7), .ref (a 8), .ref (a 9), .int (K 7 0)])), (a 7, .inl (cI, ro, .inl (K 8))), (a 8, .inl (cI, ro, .inl (K 9))), (a 9, .inl (cI, ro, .inl (K 10)))] := hD
  have hl := lv_sub (l' := [(0, .ref (a 6)), (1, .int (wi)), (2, .int (oi)), (3, .int (nI (st_h K) - 1))]) hl [1, 2, 3, 0] rfl
  exact loop7 (st_h K) _ _ _ (Nat.le_refl _) (rfl) hP hD hS hl
set_option maxHeartbeats 4000000 in
set_option maxRecDepth 100000 in
theorem c_bu_lineOf (l : Launch) (D : va_G) (cI cZ cR : ClassId) (a : Nat → Nat) (ro : Nat) (K : st_T) (k : Nat) (hk : k < ro) (hro : ro ≤ 8) : me_I l yX0_lineOf wsX0_lineOf ({ frames := 0, cells := 0, slots := 0, locals := 0 } : Room) D (me_TYS cI cZ cR) ([.ref (a 6), .int (nI (k))] : List Value) (w_bu a cI ro K) (st_ln K k) (w_bu a cI ro K) := by
  intro sz
  refine me_ent (cc := cX0_lineOf) (maxL := 2) (ret := (some .int)) (Qf := me_QI D (me_TYS cI cZ cR) (st_ln K k) (w_bu a cI ro K)) (by decide) rfl (Nat.le_of_ble_eq_true rfl) ?_
  intro p e s m below meth c A ls hx hb hr hml hts hown hlk hin hP hK hD hN hA hS hl
  have hown : s.vm.findClass RX0 = some m.cls := hown
  have hg : ∀ w9 ∈ bg, w9.before ([.ref (a 6), .int (nI (k))] : List Value).toArray s = true := fun w9 h9 => hts w9 (List.mem_cons_of_mem _ h9)
  have hl : lv_has ls 2 [(0, .ref (a 6)), (1, .int (nI (k)))] := hl
  have hP : va_P D vwCl [(a 6, .inr (0, [.ref (a 7), .ref (a 8), .ref (a 9), .int (K 7 0)])), (a 7, .inl (cI, ro, .inl (K 8))), (a 8, .inl (cI, ro, .inl (K 9))), (a 9, .inl (cI, ro, .inl (K 10)))] s.heap := hP
  have hD : va_D A [(a 6, .inr (0, [.ref (a 7), .ref (a 8), .ref (a 9), .int (K 7 0)])), (a 7, .inl (cI, ro, .inl (K 8))), (a 8, .inl (cI, ro, .inl (K 9))), (a 9, .inl (cI, ro, .inl (K 10)))] := hD
  refine lv_aload_n hx hb dX0_lineOf_0 rfl (lv_at hl 0 rfl) ?_
  refine va_get (D := D) (ci := 0) (v := .ref (a 7)) (C := RX0) (T := TX0) (N := 4) hx hb hg inX0 hown hK hP 0 rfl rfl 0 (by decide) (hg _ bw_1_49) (fun _ h9 => h9) rfl dX0_lineOf_1 ?_
  refine lv_iload_n hx hb dX0_lineOf_4 rfl (lv_at hl 1 rfl) ?_
  refine me_ild hx hb hK hP 1 0 rfl rfl (k) (rfl) (by omega) (by omega) dX0_lineOf_5 ?_
  refine lv_if_ne (tgt := 20) hx hb dX0_lineOf_6 (by decide) (fun b6 => ?_) (fun b6 => ?_)
  · refine lv_aload_n hx hb dX0_lineOf_20 rfl (lv_at hl 0 rfl) ?_
    refine va_get (D := D) (ci := 0) (v := .ref (a 8)) (C := RX0) (T := TX0) (N := 4) hx hb hg inX0 hown hK hP 0 rfl rfl 1 (by decide) (hg _ bw_1_51) (fun _ h9 => h9) rfl dX0_lineOf_21 ?_
    refine lv_iload_n hx hb dX0_lineOf_24 rfl (lv_at hl 1 rfl) ?_
    refine me_ild hx hb hK hP 2 0 rfl rfl (k) (rfl) (by omega) (by omega) dX0_lineOf_25 ?_
    have hP9 := me_subP (ws' := [(a 6, .inr (0, [.ref (a 7), .ref (a 8), .ref (a 9), .int (K 7 0)])), (a 7, .inl (cI, ro, .inl (K 8))), (a 8, .inl (cI, ro, .inl (K 9))), (a 9, .inl (cI, ro, .inl (K 10)))]) hP [0, 1, 2, 3] rfl
    have hD9 := hD.sub (ws' := [(a 6, .inr (0, [.ref (a 7), .ref (a 8), .ref (a 9), .int (K 7 0)])), (a 7, .inl (cI, ro, .inl (K 8))), (a 8, .inl (cI, ro, .inl (K 9))), (a 9, .inl (cI, ro, .inl (K 10)))]) [0, 1, 2, 3] (by decide) rfl
    exact me_retI hx hb hr hlk hK hS dX0_lineOf_26 ((me_swf b6).symm) hP9 hD9
  · refine lv_aload_n hx hb dX0_lineOf_9 rfl (lv_at hl 0 rfl) ?_
    refine va_get (D := D) (ci := 0) (v := .ref (a 8)) (C := RX0) (T := TX0) (N := 4) hx hb hg inX0 hown hK hP 0 rfl rfl 1 (by decide) (hg _ bw_1_51) (fun _ h9 => h9) rfl dX0_lineOf_10 ?_
    refine lv_iload_n hx hb dX0_lineOf_13 rfl (lv_at hl 1 rfl) ?_
    refine me_ild hx hb hK hP 2 0 rfl rfl (k) (rfl) (by omega) (by omega) dX0_lineOf_14 ?_
    refine lv_iconst (v := 4) hx hb dX0_lineOf_15 (by decide) ?_
    refine lv_idiv hx hb dX0_lineOf_16 (by decide) ?_
    refine lv_goto (tgt := 26) hx hb dX0_lineOf_17 (by decide) ?_
    have hP9 := me_subP (ws' := [(a 6, .inr (0, [.ref (a 7), .ref (a 8), .ref (a 9), .int (K 7 0)])), (a 7, .inl (cI, ro, .inl (K 8))), (a 8, .inl (cI, ro, .inl (K 9))), (a 9, .inl (cI, ro, .inl (K 10)))]) hP [0, 1, 2, 3] rfl
    have hD9 := hD.sub (ws' := [(a 6, .inr (0, [.ref (a 7), .ref (a 8), .ref (a 9), .int (K 7 0)])), (a 7, .inl (cI, ro, .inl (K 8))), (a 8, .inl (cI, ro, .inl (K 9))), (a 9, .inl (cI, ro, .inl (K 10)))]) [0, 1, 2, 3] (by decide) rfl
    exact me_retI hx hb hr hlk hK hS dX0_lineOf_26 ((me_swt b6).symm) hP9 hD9
set_option maxHeartbeats 4000000 in
set_option maxRecDepth 100000 in
theorem c_bu_letsPass (l : Launch) (D : va_G) (cI cZ cR : ClassId) (a : Nat → Nat) (ro : Nat) (K : st_T) (o k : Nat) (ho : o < ro) (hk : k < ro) (hro : ro ≤ 8) : me_I l yX0_letsPass wsX0_letsPass ({ frames := 1, cells := 0, slots := 0, locals := 21 } : Room) D (me_TYS cI cZ cR) ([.ref (a 6), .int (nI (o)), .int (nI (k))] : List Value) (w_bu a cI ro K) (me_b (st_pa K o k)) (w_bu a cI ro K) := by
  intro sz
  refine me_ent (cc := cX0_letsPass) (maxL := 5) (ret := (some .boolean)) (Qf := me_QI D (me_TYS cI cZ cR) (me_b (st_pa K o k)) (w_bu a cI ro K)) (by decide) rfl (Nat.le_of_ble_eq_true rfl) ?_
  intro p e s m below meth c A ls hx hb hr hml hts hown hlk hin hP hK hD hN hA hS hl
  have hown : s.vm.findClass RX0 = some m.cls := hown
  have hg : ∀ w9 ∈ bg, w9.before ([.ref (a 6), .int (nI (o)), .int (nI (k))] : List Value).toArray s = true := fun w9 h9 => hts w9 (List.mem_cons_of_mem _ h9)
  have hl : lv_has ls 5 [(0, .ref (a 6)), (1, .int (nI (o))), (2, .int (nI (k)))] := hl
  have hP : va_P D vwCl [(a 6, .inr (0, [.ref (a 7), .ref (a 8), .ref (a 9), .int (K 7 0)])), (a 7, .inl (cI, ro, .inl (K 8))), (a 8, .inl (cI, ro, .inl (K 9))), (a 9, .inl (cI, ro, .inl (K 10)))] s.heap := hP
  have hD : va_D A [(a 6, .inr (0, [.ref (a 7), .ref (a 8), .ref (a 9), .int (K 7 0)])), (a 7, .inl (cI, ro, .inl (K 8))), (a 8, .inl (cI, ro, .inl (K 9))), (a 9, .inl (cI, ro, .inl (K 10)))] := hD
  refine lv_aload_n hx hb dX0_letsPass_0 rfl (lv_at hl 0 rfl) ?_
  refine va_get (D := D) (ci := 0) (v := .ref (a 7)) (C := RX0) (T := TX0) (N := 4) hx hb hg inX0 hown hK hP 0 rfl rfl 0 (by decide) (hg _ bw_1_49) (fun _ h9 => h9) rfl dX0_letsPass_1 ?_
  refine lv_iload_n hx hb dX0_letsPass_4 rfl (lv_at hl 1 rfl) ?_
  refine me_ild hx hb hK hP 1 0 rfl rfl (o) (rfl) (by omega) (by omega) dX0_letsPass_5 ?_
  refine lv_istore_n hx hb dX0_letsPass_6 rfl hl (by decide) rfl (fun ls hl => ?_)
  have hl : lv_has ls 5 [(3, .int (K 8 o)), (0, .ref (a 6)), (1, .int (nI (o))), (2, .int (nI (k)))] := hl
  refine lv_aload_n hx hb dX0_letsPass_7 rfl (lv_at hl 1 rfl) ?_
  refine va_get (D := D) (ci := 0) (v := .ref (a 7)) (C := RX0) (T := TX0) (N := 4) hx hb hg inX0 hown hK hP 0 rfl rfl 0 (by decide) (hg _ bw_1_49) (fun _ h9 => h9) rfl dX0_letsPass_8 ?_
  refine lv_iload_n hx hb dX0_letsPass_11 rfl (lv_at hl 3 rfl) ?_
  refine me_ild hx hb hK hP 1 0 rfl rfl (k) (rfl) (by omega) (by omega) dX0_letsPass_12 ?_
  refine lv_istore hx hb dX0_letsPass_13 hl (by decide) rfl (fun ls hl => ?_)
  have hl : lv_has ls 5 [(4, .int (K 8 k)), (3, .int (K 8 o)), (0, .ref (a 6)), (1, .int (nI (o))), (2, .int (nI (k)))] := hl
  refine lv_iload_n hx hb dX0_letsPass_15 rfl (lv_at hl 1 rfl) ?_
  refine lv_iconst (v := 3) hx hb dX0_letsPass_16 (by decide) ?_
  refine lv_icmp_eq (tgt := 26) hx hb dX0_letsPass_17 (by decide) (fun b17 => ?_) (fun b17 => ?_)
  · refine lv_iconst (v := 0) hx hb dX0_letsPass_26 (by decide) ?_
    have hP9 := me_subP (ws' := [(a 6, .inr (0, [.ref (a 7), .ref (a 8), .ref (a 9), .int (K 7 0)])), (a 7, .inl (cI, ro, .inl (K 8))), (a 8, .inl (cI, ro, .inl (K 9))), (a 9, .inl (cI, ro, .inl (K 10)))]) hP [0, 1, 2, 3] rfl
    have hD9 := hD.sub (ws' := [(a 6, .inr (0, [.ref (a 7), .ref (a 8), .ref (a 9), .int (K 7 0)])), (a 7, .inl (cI, ro, .inl (K 8))), (a 8, .inl (cI, ro, .inl (K 9))), (a 9, .inl (cI, ro, .inl (K 10)))]) [0, 1, 2, 3] (by decide) rfl
    exact me_retZ hx hb hr hlk hK hS dX0_letsPass_27 (rfl) ((me_bf (by unfold st_pa; simp [b17])).symm) hP9 hD9
  · refine lv_iload hx hb dX0_letsPass_20 (lv_at hl 0 rfl) ?_
    refine lv_iconst (v := 3) hx hb dX0_letsPass_22 (by decide) ?_
    refine lv_icmp_ne (tgt := 28) hx hb dX0_letsPass_23 (by decide) (fun b23 => ?_) (fun b23 => ?_)
    · refine lv_iload_n hx hb dX0_letsPass_28 rfl (lv_at hl 1 rfl) ?_
      refine lv_iconst (v := 2) hx hb dX0_letsPass_29 (by decide) ?_
      refine lv_icmp_ne (tgt := 41) hx hb dX0_letsPass_30 (by decide) (fun b30 => ?_) (fun b30 => ?_)
      · refine lv_iload_n hx hb dX0_letsPass_41 rfl (lv_at hl 1 rfl) ?_
        refine lv_iconst (v := 2) hx hb dX0_letsPass_42 (by decide) ?_
        refine lv_icmp_eq (tgt := 52) hx hb dX0_letsPass_43 (by decide) (fun q => absurd q b30) (fun _ => ?_)
        refine lv_iload hx hb dX0_letsPass_46 (lv_at hl 0 rfl) ?_
        refine lv_iconst (v := 2) hx hb dX0_letsPass_48 (by decide) ?_
        refine lv_icmp_ne (tgt := 69) hx hb dX0_letsPass_49 (by decide) (fun b49 => ?_) (fun b49 => ?_)
        · refine lv_iconst (v := 0) hx hb dX0_letsPass_69 (by decide) ?_
          have hP9 := me_subP (ws' := [(a 6, .inr (0, [.ref (a 7), .ref (a 8), .ref (a 9), .int (K 7 0)])), (a 7, .inl (cI, ro, .inl (K 8))), (a 8, .inl (cI, ro, .inl (K 9))), (a 9, .inl (cI, ro, .inl (K 10)))]) hP [0, 1, 2, 3] rfl
          have hD9 := hD.sub (ws' := [(a 6, .inr (0, [.ref (a 7), .ref (a 8), .ref (a 9), .int (K 7 0)])), (a 7, .inl (cI, ro, .inl (K 8))), (a 8, .inl (cI, ro, .inl (K 9))), (a 9, .inl (cI, ro, .inl (K 10)))]) [0, 1, 2, 3] (by decide) rfl
          exact me_retZ hx hb hr hlk hK hS dX0_letsPass_70 (rfl) ((me_bf (by unfold st_pa; simp [b17, b23, b30, b49])).symm) hP9 hD9
        · refine lv_aload_n hx hb dX0_letsPass_52 rfl (lv_at hl 2 rfl) ?_
          refine lv_iload_n hx hb dX0_letsPass_53 rfl (lv_at hl 3 rfl) ?_
          refine me_goI (wr := []) (wc := [(a 6, .inr (0, [.ref (a 7), .ref (a 8), .ref (a 9), .int (K 7 0)])), (a 7, .inl (cI, ro, .inl (K 8))), (a 8, .inl (cI, ro, .inl (K 9))), (a 9, .inl (cI, ro, .inl (K 10)))]) (w1 := [(a 6, .inr (0, [.ref (a 7), .ref (a 8), .ref (a 9), .int (K 7 0)])), (a 7, .inl (cI, ro, .inl (K 8))), (a 8, .inl (cI, ro, .inl (K 9))), (a 9, .inl (cI, ro, .inl (K 10)))]) (va_runV (C := RX0) (b := a 6) (As := [.int (nI (o))]) (rest := []) ⟨hx, hb, hml, hown, hg⟩ (c_bu_lineOf l D cI cZ cR a ro K o ho hro s.heap.size) (cwV 1 hg (bg_gV (fun _ h => h) bw_1_186 bw_1_188 bw_s_14 bw_1_4 bw_1_189) rfl rfl rfl (by decide +kernel) ⟨Nat.le_of_ble_eq_true rfl, Nat.le_of_ble_eq_true rfl⟩) (me_preV (wc := [(a 6, .inr (0, [.ref (a 7), .ref (a 8), .ref (a 9), .int (K 7 0)])), (a 7, .inl (cI, ro, .inl (K 8))), (a 8, .inl (cI, ro, .inl (K 9))), (a 9, .inl (cI, ro, .inl (K 10)))]) hP hD hK hN [0, 1, 2, 3] rfl (by decide) (va_recv (q0 := 0) (ci := 0) hK hP rfl rfl)) rfl rfl hl.1 rfl (lv_room (Nat.le_of_ble_eq_true rfl)) dX0_letsPass_54 ⟨Nat.zero_le _, Nat.zero_le _⟩) hP hD hS hA [0, 1, 2, 3] [] rfl rfl (by decide) (by decide) (fun H locs hP hD hS => ?_)
          have hP : va_P D vwCl [(a 6, .inr (0, [.ref (a 7), .ref (a 8), .ref (a 9), .int (K 7 0)])), (a 7, .inl (cI, ro, .inl (K 8))), (a 8, .inl (cI, ro, .inl (K 9))), (a 9, .inl (cI, ro, .inl (K 10)))] H := hP
          have hD : va_D A [(a 6, .inr (0, [.ref (a 7), .ref (a 8), .ref (a 9), .int (K 7 0)])), (a 7, .inl (cI, ro, .inl (K 8))), (a 8, .inl (cI, ro, .inl (K 9))), (a 9, .inl (cI, ro, .inl (K 10)))] := hD
          refine lv_aload_n hx hb dX0_letsPass_57 rfl (lv_at hl 2 rfl) ?_
          refine lv_iload_n hx hb dX0_letsPass_58 rfl (lv_at hl 4 rfl) ?_
          refine me_goI (wr := []) (wc := [(a 6, .inr (0, [.ref (a 7), .ref (a 8), .ref (a 9), .int (K 7 0)])), (a 7, .inl (cI, ro, .inl (K 8))), (a 8, .inl (cI, ro, .inl (K 9))), (a 9, .inl (cI, ro, .inl (K 10)))]) (w1 := [(a 6, .inr (0, [.ref (a 7), .ref (a 8), .ref (a 9), .int (K 7 0)])), (a 7, .inl (cI, ro, .inl (K 8))), (a 8, .inl (cI, ro, .inl (K 9))), (a 9, .inl (cI, ro, .inl (K 10)))]) (va_runV (C := RX0) (b := a 6) (As := [.int (nI (k))]) (rest := [.int (st_ln K o)]) ⟨hx, hb, hml, hown, hg⟩ (c_bu_lineOf l D cI cZ cR a ro K k hk hro H.size) (cwV 1 hg (bg_gV (fun _ h => h) bw_1_186 bw_1_188 bw_s_14 bw_1_4 bw_1_189) rfl rfl rfl (by decide +kernel) ⟨Nat.le_of_ble_eq_true rfl, Nat.le_of_ble_eq_true rfl⟩) (me_preV (wc := [(a 6, .inr (0, [.ref (a 7), .ref (a 8), .ref (a 9), .int (K 7 0)])), (a 7, .inl (cI, ro, .inl (K 8))), (a 8, .inl (cI, ro, .inl (K 9))), (a 9, .inl (cI, ro, .inl (K 10)))]) hP hD hK hN [0, 1, 2, 3] rfl (by decide) (va_recv (q0 := 0) (ci := 0) hK hP rfl rfl)) rfl rfl hl.1 rfl (lv_room (Nat.le_of_ble_eq_true rfl)) dX0_letsPass_59 ⟨Nat.zero_le _, Nat.zero_le _⟩) hP hD hS hA [0, 1, 2, 3] [] rfl rfl (by decide) (by decide) (fun H locs hP hD hS => ?_)
          have hP : va_P D vwCl [(a 6, .inr (0, [.ref (a 7), .ref (a 8), .ref (a 9), .int (K 7 0)])), (a 7, .inl (cI, ro, .inl (K 8))), (a 8, .inl (cI, ro, .inl (K 9))), (a 9, .inl (cI, ro, .inl (K 10)))] H := hP
          have hD : va_D A [(a 6, .inr (0, [.ref (a 7), .ref (a 8), .ref (a 9), .int (K 7 0)])), (a 7, .inl (cI, ro, .inl (K 8))), (a 8, .inl (cI, ro, .inl (K 9))), (a 9, .inl (cI, ro, .inl (K 10)))] := hD
          refine lv_icmp_eq (tgt := 69) hx hb dX0_letsPass_62 (by decide) (fun b62 => ?_) (fun b62 => ?_)
          · refine lv_iconst (v := 0) hx hb dX0_letsPass_69 (by decide) ?_
            have hP9 := me_subP (ws' := [(a 6, .inr (0, [.ref (a 7), .ref (a 8), .ref (a 9), .int (K 7 0)])), (a 7, .inl (cI, ro, .inl (K 8))), (a 8, .inl (cI, ro, .inl (K 9))), (a 9, .inl (cI, ro, .inl (K 10)))]) hP [0, 1, 2, 3] rfl
            have hD9 := hD.sub (ws' := [(a 6, .inr (0, [.ref (a 7), .ref (a 8), .ref (a 9), .int (K 7 0)])), (a 7, .inl (cI, ro, .inl (K 8))), (a 8, .inl (cI, ro, .inl (K 9))), (a 9, .inl (cI, ro, .inl (K 10)))]) [0, 1, 2, 3] (by decide) rfl
            exact me_retZ hx hb hr hlk hK hS dX0_letsPass_70 (rfl) ((me_bf (by unfold st_pa; simp [b17, b23, b30, b49, b62])).symm) hP9 hD9
          · refine lv_iconst (v := 1) hx hb dX0_letsPass_65 (by decide) ?_
            refine lv_goto (tgt := 70) hx hb dX0_letsPass_66 (by decide) ?_
            have hP9 := me_subP (ws' := [(a 6, .inr (0, [.ref (a 7), .ref (a 8), .ref (a 9), .int (K 7 0)])), (a 7, .inl (cI, ro, .inl (K 8))), (a 8, .inl (cI, ro, .inl (K 9))), (a 9, .inl (cI, ro, .inl (K 10)))]) hP [0, 1, 2, 3] rfl
            have hD9 := hD.sub (ws' := [(a 6, .inr (0, [.ref (a 7), .ref (a 8), .ref (a 9), .int (K 7 0)])), (a 7, .inl (cI, ro, .inl (K 8))), (a 8, .inl (cI, ro, .inl (K 9))), (a 9, .inl (cI, ro, .inl (K 10)))]) [0, 1, 2, 3] (by decide) rfl
            exact me_retZ hx hb hr hlk hK hS dX0_letsPass_70 (rfl) ((me_bt (by unfold st_pa; simp [b17, b23, b30, b49, b62])).symm) hP9 hD9
      · refine lv_iload hx hb dX0_letsPass_33 (lv_at hl 0 rfl) ?_
        refine lv_iconst (v := 1) hx hb dX0_letsPass_35 (by decide) ?_
        refine lv_icmp_eq (tgt := 41) hx hb dX0_letsPass_36 (by decide) (fun b36 => ?_) (fun b36 => ?_)
        · refine lv_iload_n hx hb dX0_letsPass_41 rfl (lv_at hl 1 rfl) ?_
          refine lv_iconst (v := 2) hx hb dX0_letsPass_42 (by decide) ?_
          refine lv_icmp_eq (tgt := 52) hx hb dX0_letsPass_43 (by decide) (fun _ => ?_) (fun q => absurd b30 q)
          refine lv_aload_n hx hb dX0_letsPass_52 rfl (lv_at hl 2 rfl) ?_
          refine lv_iload_n hx hb dX0_letsPass_53 rfl (lv_at hl 3 rfl) ?_
          refine me_goI (wr := []) (wc := [(a 6, .inr (0, [.ref (a 7), .ref (a 8), .ref (a 9), .int (K 7 0)])), (a 7, .inl (cI, ro, .inl (K 8))), (a 8, .inl (cI, ro, .inl (K 9))), (a 9, .inl (cI, ro, .inl (K 10)))]) (w1 := [(a 6, .inr (0, [.ref (a 7), .ref (a 8), .ref (a 9), .int (K 7 0)])), (a 7, .inl (cI, ro, .inl (K 8))), (a 8, .inl (cI, ro, .inl (K 9))), (a 9, .inl (cI, ro, .inl (K 10)))]) (va_runV (C := RX0) (b := a 6) (As := [.int (nI (o))]) (rest := []) ⟨hx, hb, hml, hown, hg⟩ (c_bu_lineOf l D cI cZ cR a ro K o ho hro s.heap.size) (cwV 1 hg (bg_gV (fun _ h => h) bw_1_186 bw_1_188 bw_s_14 bw_1_4 bw_1_189) rfl rfl rfl (by decide +kernel) ⟨Nat.le_of_ble_eq_true rfl, Nat.le_of_ble_eq_true rfl⟩) (me_preV (wc := [(a 6, .inr (0, [.ref (a 7), .ref (a 8), .ref (a 9), .int (K 7 0)])), (a 7, .inl (cI, ro, .inl (K 8))), (a 8, .inl (cI, ro, .inl (K 9))), (a 9, .inl (cI, ro, .inl (K 10)))]) hP hD hK hN [0, 1, 2, 3] rfl (by decide) (va_recv (q0 := 0) (ci := 0) hK hP rfl rfl)) rfl rfl hl.1 rfl (lv_room (Nat.le_of_ble_eq_true rfl)) dX0_letsPass_54 ⟨Nat.zero_le _, Nat.zero_le _⟩) hP hD hS hA [0, 1, 2, 3] [] rfl rfl (by decide) (by decide) (fun H locs hP hD hS => ?_)
          have hP : va_P D vwCl [(a 6, .inr (0, [.ref (a 7), .ref (a 8), .ref (a 9), .int (K 7 0)])), (a 7, .inl (cI, ro, .inl (K 8))), (a 8, .inl (cI, ro, .inl (K 9))), (a 9, .inl (cI, ro, .inl (K 10)))] H := hP
          have hD : va_D A [(a 6, .inr (0, [.ref (a 7), .ref (a 8), .ref (a 9), .int (K 7 0)])), (a 7, .inl (cI, ro, .inl (K 8))), (a 8, .inl (cI, ro, .inl (K 9))), (a 9, .inl (cI, ro, .inl (K 10)))] := hD
          refine lv_aload_n hx hb dX0_letsPass_57 rfl (lv_at hl 2 rfl) ?_
          refine lv_iload_n hx hb dX0_letsPass_58 rfl (lv_at hl 4 rfl) ?_
          refine me_goI (wr := []) (wc := [(a 6, .inr (0, [.ref (a 7), .ref (a 8), .ref (a 9), .int (K 7 0)])), (a 7, .inl (cI, ro, .inl (K 8))), (a 8, .inl (cI, ro, .inl (K 9))), (a 9, .inl (cI, ro, .inl (K 10)))]) (w1 := [(a 6, .inr (0, [.ref (a 7), .ref (a 8), .ref (a 9), .int (K 7 0)])), (a 7, .inl (cI, ro, .inl (K 8))), (a 8, .inl (cI, ro, .inl (K 9))), (a 9, .inl (cI, ro, .inl (K 10)))]) (va_runV (C := RX0) (b := a 6) (As := [.int (nI (k))]) (rest := [.int (st_ln K o)]) ⟨hx, hb, hml, hown, hg⟩ (c_bu_lineOf l D cI cZ cR a ro K k hk hro H.size) (cwV 1 hg (bg_gV (fun _ h => h) bw_1_186 bw_1_188 bw_s_14 bw_1_4 bw_1_189) rfl rfl rfl (by decide +kernel) ⟨Nat.le_of_ble_eq_true rfl, Nat.le_of_ble_eq_true rfl⟩) (me_preV (wc := [(a 6, .inr (0, [.ref (a 7), .ref (a 8), .ref (a 9), .int (K 7 0)])), (a 7, .inl (cI, ro, .inl (K 8))), (a 8, .inl (cI, ro, .inl (K 9))), (a 9, .inl (cI, ro, .inl (K 10)))]) hP hD hK hN [0, 1, 2, 3] rfl (by decide) (va_recv (q0 := 0) (ci := 0) hK hP rfl rfl)) rfl rfl hl.1 rfl (lv_room (Nat.le_of_ble_eq_true rfl)) dX0_letsPass_59 ⟨Nat.zero_le _, Nat.zero_le _⟩) hP hD hS hA [0, 1, 2, 3] [] rfl rfl (by decide) (by decide) (fun H locs hP hD hS => ?_)
          have hP : va_P D vwCl [(a 6, .inr (0, [.ref (a 7), .ref (a 8), .ref (a 9), .int (K 7 0)])), (a 7, .inl (cI, ro, .inl (K 8))), (a 8, .inl (cI, ro, .inl (K 9))), (a 9, .inl (cI, ro, .inl (K 10)))] H := hP
          have hD : va_D A [(a 6, .inr (0, [.ref (a 7), .ref (a 8), .ref (a 9), .int (K 7 0)])), (a 7, .inl (cI, ro, .inl (K 8))), (a 8, .inl (cI, ro, .inl (K 9))), (a 9, .inl (cI, ro, .inl (K 10)))] := hD
          refine lv_icmp_eq (tgt := 69) hx hb dX0_letsPass_62 (by decide) (fun b62 => ?_) (fun b62 => ?_)
          · refine lv_iconst (v := 0) hx hb dX0_letsPass_69 (by decide) ?_
            have hP9 := me_subP (ws' := [(a 6, .inr (0, [.ref (a 7), .ref (a 8), .ref (a 9), .int (K 7 0)])), (a 7, .inl (cI, ro, .inl (K 8))), (a 8, .inl (cI, ro, .inl (K 9))), (a 9, .inl (cI, ro, .inl (K 10)))]) hP [0, 1, 2, 3] rfl
            have hD9 := hD.sub (ws' := [(a 6, .inr (0, [.ref (a 7), .ref (a 8), .ref (a 9), .int (K 7 0)])), (a 7, .inl (cI, ro, .inl (K 8))), (a 8, .inl (cI, ro, .inl (K 9))), (a 9, .inl (cI, ro, .inl (K 10)))]) [0, 1, 2, 3] (by decide) rfl
            exact me_retZ hx hb hr hlk hK hS dX0_letsPass_70 (rfl) ((me_bf (by unfold st_pa; simp [b17, b23, b30, b36, b62])).symm) hP9 hD9
          · refine lv_iconst (v := 1) hx hb dX0_letsPass_65 (by decide) ?_
            refine lv_goto (tgt := 70) hx hb dX0_letsPass_66 (by decide) ?_
            have hP9 := me_subP (ws' := [(a 6, .inr (0, [.ref (a 7), .ref (a 8), .ref (a 9), .int (K 7 0)])), (a 7, .inl (cI, ro, .inl (K 8))), (a 8, .inl (cI, ro, .inl (K 9))), (a 9, .inl (cI, ro, .inl (K 10)))]) hP [0, 1, 2, 3] rfl
            have hD9 := hD.sub (ws' := [(a 6, .inr (0, [.ref (a 7), .ref (a 8), .ref (a 9), .int (K 7 0)])), (a 7, .inl (cI, ro, .inl (K 8))), (a 8, .inl (cI, ro, .inl (K 9))), (a 9, .inl (cI, ro, .inl (K 10)))]) [0, 1, 2, 3] (by decide) rfl
            exact me_retZ hx hb hr hlk hK hS dX0_letsPass_70 (rfl) ((me_bt (by unfold st_pa; simp [b17, b23, b30, b36, b62])).symm) hP9 hD9
        · refine lv_iconst (v := 1) hx hb dX0_letsPass_39 (by decide) ?_
          have hP9 := me_subP (ws' := [(a 6, .inr (0, [.ref (a 7), .ref (a 8), .ref (a 9), .int (K 7 0)])), (a 7, .inl (cI, ro, .inl (K 8))), (a 8, .inl (cI, ro, .inl (K 9))), (a 9, .inl (cI, ro, .inl (K 10)))]) hP [0, 1, 2, 3] rfl
          have hD9 := hD.sub (ws' := [(a 6, .inr (0, [.ref (a 7), .ref (a 8), .ref (a 9), .int (K 7 0)])), (a 7, .inl (cI, ro, .inl (K 8))), (a 8, .inl (cI, ro, .inl (K 9))), (a 9, .inl (cI, ro, .inl (K 10)))]) [0, 1, 2, 3] (by decide) rfl
          exact me_retZ hx hb hr hlk hK hS dX0_letsPass_40 (rfl) ((me_bt (by unfold st_pa; simp [b17, b23, b30, b36])).symm) hP9 hD9
    · refine lv_iconst (v := 0) hx hb dX0_letsPass_26 (by decide) ?_
      have hP9 := me_subP (ws' := [(a 6, .inr (0, [.ref (a 7), .ref (a 8), .ref (a 9), .int (K 7 0)])), (a 7, .inl (cI, ro, .inl (K 8))), (a 8, .inl (cI, ro, .inl (K 9))), (a 9, .inl (cI, ro, .inl (K 10)))]) hP [0, 1, 2, 3] rfl
      have hD9 := hD.sub (ws' := [(a 6, .inr (0, [.ref (a 7), .ref (a 8), .ref (a 9), .int (K 7 0)])), (a 7, .inl (cI, ro, .inl (K 8))), (a 8, .inl (cI, ro, .inl (K 9))), (a 9, .inl (cI, ro, .inl (K 10)))]) [0, 1, 2, 3] (by decide) rfl
      exact me_retZ hx hb hr hlk hK hS dX0_letsPass_27 (rfl) ((me_bf (by unfold st_pa; simp [b17, b23])).symm) hP9 hD9
set_option maxHeartbeats 4000000 in
set_option maxRecDepth 100000 in
theorem c_bu_mayLeave (l : Launch) (D : va_G) (cI cZ cR : ClassId) (a : Nat → Nat) (ro : Nat) (K : st_T) (k : Nat) (hk : k < ro) (hro : ro ≤ 8) : me_I l yX0_mayLeave wsX0_mayLeave ({ frames := 2, cells := 0, slots := 0, locals := 45 } : Room) D (me_TYS cI cZ cR) ([.ref (a 6), .int (nI (k))] : List Value) (w_bu a cI ro K) (me_b (st_ml K k)) (w_bu a cI ro K) := by
  intro sz
  refine me_ent (cc := cX0_mayLeave) (maxL := 3) (ret := (some .boolean)) (Qf := me_QI D (me_TYS cI cZ cR) (me_b (st_ml K k)) (w_bu a cI ro K)) (by decide) rfl (Nat.le_of_ble_eq_true rfl) ?_
  intro p e s m below meth c A ls hx hb hr hml hts hown hlk hin hP hK hD hN hA hS hl
  have hown : s.vm.findClass RX0 = some m.cls := hown
  have hg : ∀ w9 ∈ bg, w9.before ([.ref (a 6), .int (nI (k))] : List Value).toArray s = true := fun w9 h9 => hts w9 (List.mem_cons_of_mem _ h9)
  have hl : lv_has ls 3 [(0, .ref (a 6)), (1, .int (nI (k)))] := hl
  have hP : va_P D vwCl [(a 6, .inr (0, [.ref (a 7), .ref (a 8), .ref (a 9), .int (K 7 0)])), (a 7, .inl (cI, ro, .inl (K 8))), (a 8, .inl (cI, ro, .inl (K 9))), (a 9, .inl (cI, ro, .inl (K 10)))] s.heap := hP
  have hD : va_D A [(a 6, .inr (0, [.ref (a 7), .ref (a 8), .ref (a 9), .int (K 7 0)])), (a 7, .inl (cI, ro, .inl (K 8))), (a 8, .inl (cI, ro, .inl (K 9))), (a 9, .inl (cI, ro, .inl (K 10)))] := hD
  refine lv_iconst (v := 0) hx hb dX0_mayLeave_0 (by decide) ?_
  refine lv_istore_n hx hb dX0_mayLeave_1 rfl hl (by decide) rfl (fun ls hl => ?_)
  have hl : lv_has ls 3 [(2, .int (0)), (0, .ref (a 6)), (1, .int (nI (k)))] := hl
  have loop2 : ∀ (d : Nat) (j : Nat) (H : Heap) (locs : List Loc) (ls : Array Slot), d = k - j → j ≤ k → (∀ o : Nat, o < j → st_pa K o k) → va_P D vwCl [(a 6, .inr (0, [.ref (a 7), .ref (a 8), .ref (a 9), .int (K 7 0)])), (a 7, .inl (cI, ro, .inl (K 8))), (a 8, .inl (cI, ro, .inl (K 9))), (a 9, .inl (cI, ro, .inl (K 10)))] H → va_D A [(a 6, .inr (0, [.ref (a 7), .ref (a 8), .ref (a 9), .int (K 7 0)])), (a 7, .inl (cI, ro, .inl (K 8))), (a 8, .inl (cI, ro, .inl (K 9))), (a 9, .inl (cI, ro, .inl (K 10)))] → va_S A s.heap H locs → lv_has ls 3 [(0, .ref (a 6)), (1, .int (nI (k))), (2, .int (nI (j)))] → W p l e ({ frames := 2, cells := 0, slots := 0, locals := 45 } : Room) s m ([.ref (a 6), .int (nI (k))] : List Value).toArray below meth c H locs 0 0 (MQ below (me_QI D (me_TYS cI cZ cR) (me_b (st_ml K k)) (w_bu a cI ro K) A) ([.ref (a 6), .int (nI (k))] : List Value).toArray s 0 0 A) (F0 m 2 ls []) := by
    intro d
    induction d with
    | zero =>
      intro j H locs ls hd h1 h2 hP hD hS hl
      refine lv_iload_n hx hb dX0_mayLeave_2 rfl (lv_at hl 2 rfl) ?_
      refine lv_iload_n hx hb dX0_mayLeave_3 rfl (lv_at hl 1 rfl) ?_
      refine lv_icmp_ge (tgt := 24) hx hb dX0_mayLeave_4 (by decide) (fun b4 => ?_) (fun b4 => ?_)
      · have b4 := me_le (a := k) (b := j) (by omega) (by omega) b4
        refine lv_iconst (v := 1) hx hb dX0_mayLeave_24 (by decide) ?_
        have hP9 := me_subP (ws' := [(a 6, .inr (0, [.ref (a 7), .ref (a 8), .ref (a 9), .int (K 7 0)])), (a 7, .inl (cI, ro, .inl (K 8))), (a 8, .inl (cI, ro, .inl (K 9))), (a 9, .inl (cI, ro, .inl (K 10)))]) hP [0, 1, 2, 3] rfl
        have hD9 := hD.sub (ws' := [(a 6, .inr (0, [.ref (a 7), .ref (a 8), .ref (a 9), .int (K 7 0)])), (a 7, .inl (cI, ro, .inl (K 8))), (a 8, .inl (cI, ro, .inl (K 9))), (a 9, .inl (cI, ro, .inl (K 10)))]) [0, 1, 2, 3] (by decide) rfl
        exact me_retZ hx hb hr hlk hK hS dX0_mayLeave_25 (rfl) ((me_bt (fun o ho => h2 o (by omega))).symm) hP9 hD9
      · have b4 := me_nle (a := k) (b := j) (by omega) (by omega) b4
        exfalso
        omega
    | succ d ih =>
      intro j H locs ls hd h1 h2 hP hD hS hl
      refine lv_iload_n hx hb dX0_mayLeave_2 rfl (lv_at hl 2 rfl) ?_
      refine lv_iload_n hx hb dX0_mayLeave_3 rfl (lv_at hl 1 rfl) ?_
      refine lv_icmp_ge (tgt := 24) hx hb dX0_mayLeave_4 (by decide) (fun b4 => ?_) (fun b4 => ?_)
      · have b4 := me_le (a := k) (b := j) (by omega) (by omega) b4
        exfalso
        omega
      · have b4 := me_nle (a := k) (b := j) (by omega) (by omega) b4
        refine lv_aload_n hx hb dX0_mayLeave_7 rfl (lv_at hl 0 rfl) ?_
        refine lv_iload_n hx hb dX0_mayLeave_8 rfl (lv_at hl 2 rfl) ?_
        refine lv_iload_n hx hb dX0_mayLeave_9 rfl (lv_at hl 1 rfl) ?_
        refine me_goI (wr := []) (wc := [(a 6, .inr (0, [.ref (a 7), .ref (a 8), .ref (a 9), .int (K 7 0)])), (a 7, .inl (cI, ro, .inl (K 8))), (a 8, .inl (cI, ro, .inl (K 9))), (a 9, .inl (cI, ro, .inl (K 10)))]) (w1 := [(a 6, .inr (0, [.ref (a 7), .ref (a 8), .ref (a 9), .int (K 7 0)])), (a 7, .inl (cI, ro, .inl (K 8))), (a 8, .inl (cI, ro, .inl (K 9))), (a 9, .inl (cI, ro, .inl (K 10)))]) (va_runV (C := RX0) (b := a 6) (As := [.int (nI (j)), .int (nI (k))]) (rest := []) ⟨hx, hb, hml, hown, hg⟩ (c_bu_letsPass l D cI cZ cR a ro K j k (by omega) hk hro H.size) (cwV 2 hg (bg_gV (fun _ h => h) bw_1_182 bw_1_184 bw_s_13 bw_1_4 bw_1_185) rfl rfl rfl (by decide +kernel) ⟨Nat.le_of_ble_eq_true rfl, Nat.le_of_ble_eq_true rfl⟩) (me_preV (wc := [(a 6, .inr (0, [.ref (a 7), .ref (a 8), .ref (a 9), .int (K 7 0)])), (a 7, .inl (cI, ro, .inl (K 8))), (a 8, .inl (cI, ro, .inl (K 9))), (a 9, .inl (cI, ro, .inl (K 10)))]) hP hD hK hN [0, 1, 2, 3] rfl (by decide) (va_recv (q0 := 0) (ci := 0) hK hP rfl rfl)) rfl rfl hl.1 rfl (lv_room (Nat.le_of_ble_eq_true rfl)) dX0_mayLeave_10 ⟨Nat.zero_le _, Nat.zero_le _⟩) hP hD hS hA [0, 1, 2, 3] [] rfl rfl (by decide) (by decide) (fun H locs hP hD hS => ?_)
        have hP : va_P D vwCl [(a 6, .inr (0, [.ref (a 7), .ref (a 8), .ref (a 9), .int (K 7 0)])), (a 7, .inl (cI, ro, .inl (K 8))), (a 8, .inl (cI, ro, .inl (K 9))), (a 9, .inl (cI, ro, .inl (K 10)))] H := hP
        have hD : va_D A [(a 6, .inr (0, [.ref (a 7), .ref (a 8), .ref (a 9), .int (K 7 0)])), (a 7, .inl (cI, ro, .inl (K 8))), (a 8, .inl (cI, ro, .inl (K 9))), (a 9, .inl (cI, ro, .inl (K 10)))] := hD
        refine lv_if_ne (tgt := 18) hx hb dX0_mayLeave_13 (by decide) (fun b13 => ?_) (fun b13 => ?_)
        · have b13 := me_b1 b13
          refine lv_iinc (k := 2) (v := nI (j + 1)) hx hb dX0_mayLeave_18 hl rfl (me_inc (j)) (by decide) rfl (fun ls hl => ?_)
          have hl : lv_has ls 3 [(2, .int (nI (j + 1))), (0, .ref (a 6)), (1, .int (nI (k)))] := hl
          refine lv_goto (tgt := 2) hx hb dX0_mayLeave_21 (by decide) ?_
          have hP := me_subP (ws' := [(a 6, .inr (0, [.ref (a 7), .ref (a 8), .ref (a 9), .int (K 7 0)])), (a 7, .inl (cI, ro, .inl (K 8))), (a 8, .inl (cI, ro, .inl (K 9))), (a 9, .inl (cI, ro, .inl (K 10)))]) hP [0, 1, 2, 3] rfl
          have hD := hD.sub (ws' := [(a 6, .inr (0, [.ref (a 7), .ref (a 8), .ref (a 9), .int (K 7 0)])), (a 7, .inl (cI, ro, .inl (K 8))), (a 8, .inl (cI, ro, .inl (K 9))), (a 9, .inl (cI, ro, .inl (K 10)))]) [0, 1, 2, 3] (by decide) rfl
          have hP : va_P D vwCl [(a 6, .inr (0, [.ref (a 7), .ref (a 8), .ref (a 9), .int (K 7 0)])), (a 7, .inl (cI, ro, .inl (K 8))), (a 8, .inl (cI, ro, .inl (K 9))), (a 9, .inl (cI, ro, .inl (K 10)))] H := hP
          have hD : va_D A [(a 6, .inr (0, [.ref (a 7), .ref (a 8), .ref (a 9), .int (K 7 0)])), (a 7, .inl (cI, ro, .inl (K 8))), (a 8, .inl (cI, ro, .inl (K 9))), (a 9, .inl (cI, ro, .inl (K 10)))] := hD
          have hl := lv_sub (l' := [(0, .ref (a 6)), (1, .int (nI (k))), (2, .int (nI (j + 1)))]) hl [1, 2, 0] rfl
          exact ih (j + 1) _ _ _ (by omega) (by omega) (lt_s h2 b13) hP hD hS hl
        · have b13 := me_b0 b13
          refine lv_iconst (v := 0) hx hb dX0_mayLeave_16 (by decide) ?_
          have hP9 := me_subP (ws' := [(a 6, .inr (0, [.ref (a 7), .ref (a 8), .ref (a 9), .int (K 7 0)])), (a 7, .inl (cI, ro, .inl (K 8))), (a 8, .inl (cI, ro, .inl (K 9))), (a 9, .inl (cI, ro, .inl (K 10)))]) hP [0, 1, 2, 3] rfl
          have hD9 := hD.sub (ws' := [(a 6, .inr (0, [.ref (a 7), .ref (a 8), .ref (a 9), .int (K 7 0)])), (a 7, .inl (cI, ro, .inl (K 8))), (a 8, .inl (cI, ro, .inl (K 9))), (a 9, .inl (cI, ro, .inl (K 10)))]) [0, 1, 2, 3] (by decide) rfl
          exact me_retZ hx hb hr hlk hK hS dX0_mayLeave_17 (rfl) ((me_bf (fun q => b13 (q j (by omega)))).symm) hP9 hD9
  have hP := me_subP (ws' := [(a 6, .inr (0, [.ref (a 7), .ref (a 8), .ref (a 9), .int (K 7 0)])), (a 7, .inl (cI, ro, .inl (K 8))), (a 8, .inl (cI, ro, .inl (K 9))), (a 9, .inl (cI, ro, .inl (K 10)))]) hP [0, 1, 2, 3] rfl
  have hD := hD.sub (ws' := [(a 6, .inr (0, [.ref (a 7), .ref (a 8), .ref (a 9), .int (K 7 0)])), (a 7, .inl (cI, ro, .inl (K 8))), (a 8, .inl (cI, ro, .inl (K 9))), (a 9, .inl (cI, ro, .inl (K 10)))]) [0, 1, 2, 3] (by decide) rfl
  have hP : va_P D vwCl [(a 6, .inr (0, [.ref (a 7), .ref (a 8), .ref (a 9), .int (K 7 0)])), (a 7, .inl (cI, ro, .inl (K 8))), (a 8, .inl (cI, ro, .inl (K 9))), (a 9, .inl (cI, ro, .inl (K 10)))] s.heap := hP
  have hD : va_D A [(a 6, .inr (0, [.ref (a 7), .ref (a 8), .ref (a 9), .int (K 7 0)])), (a 7, .inl (cI, ro, .inl (K 8))), (a 8, .inl (cI, ro, .inl (K 9))), (a 9, .inl (cI, ro, .inl (K 10)))] := hD
  have hl := lv_sub (l' := [(0, .ref (a 6)), (1, .int (nI (k))), (2, .int (nI (0)))]) hl [1, 2, 0] rfl
  exact loop2 _ 0 _ _ _ rfl (by omega) (lt_0) hP hD hS hl
set_option maxHeartbeats 4000000 in
set_option maxRecDepth 100000 in
theorem c_bu_remove (l : Launch) (D : va_G) (cI cZ cR : ClassId) (a : Nat → Nat) (ro : Nat) (K : st_T) (k : Nat) (hh : K 7 0 = nI (st_h K)) (hk : k < st_h K) (hb1 : st_h K ≤ ro) (hro : ro ≤ 8) : me_V l yX0_remove wsX0_remove ({ frames := 0, cells := 0, slots := 0, locals := 0 } : Room) D (me_TYS cI cZ cR) ([.ref (a 6), .int (nI (k))] : List Value) (w_bu a cI ro K) (w_bu a cI ro (st_rm K k)) := by
  intro sz
  refine me_ent (cc := cX0_remove) (maxL := 3) (ret := none) (Qf := me_QV D (me_TYS cI cZ cR) (w_bu a cI ro (st_rm K k))) (by decide) rfl (Nat.le_of_ble_eq_true rfl) ?_
  intro p e s m below meth c A ls hx hb hr hml hts hown hlk hin hP hK hD hN hA hS hl
  have hown : s.vm.findClass RX0 = some m.cls := hown
  have hg : ∀ w9 ∈ bg, w9.before ([.ref (a 6), .int (nI (k))] : List Value).toArray s = true := fun w9 h9 => hts w9 (List.mem_cons_of_mem _ h9)
  have hl : lv_has ls 3 [(0, .ref (a 6)), (1, .int (nI (k)))] := hl
  have hP : va_P D vwCl [(a 6, .inr (0, [.ref (a 7), .ref (a 8), .ref (a 9), .int (K 7 0)])), (a 7, .inl (cI, ro, .inl (K 8))), (a 8, .inl (cI, ro, .inl (K 9))), (a 9, .inl (cI, ro, .inl (K 10)))] s.heap := hP
  have hD : va_D A [(a 6, .inr (0, [.ref (a 7), .ref (a 8), .ref (a 9), .int (K 7 0)])), (a 7, .inl (cI, ro, .inl (K 8))), (a 8, .inl (cI, ro, .inl (K 9))), (a 9, .inl (cI, ro, .inl (K 10)))] := hD
  refine lv_aload_n hx hb dX0_remove_0 rfl (lv_at hl 0 rfl) ?_
  refine lv_dup hx hb dX0_remove_1 rfl ?_
  refine va_get (D := D) (ci := 0) (v := .int (K 7 0)) (C := RX0) (T := TX0) (N := 4) hx hb hg inX0 hown hK hP 0 rfl rfl 3 (by decide) (hg _ bw_1_55) (fun _ h9 => h9) rfl dX0_remove_2 ?_
  refine me_t (x := K 7 0) (y := nI (st_h K)) (hh) ?_
  refine lv_iconst (v := 1) hx hb dX0_remove_5 (by decide) ?_
  refine lv_isub hx hb dX0_remove_6 ?_
  refine me_t (x := (nI (st_h K)) - 1) (y := nI (st_h K - 1)) (pk_sub (a := st_h K) (b := 1) (by omega)) ?_
  refine va_put (D := D) (ci := 0) (v := .int (nI (st_h K - 1))) (ty := .int) (C := RX0) (T := TX0) (N := 4) hx hb hg inX0 tyX0 tyX0_ok nmX0 hown hK hP hD hS 0 rfl rfl 3 (by decide) (hg _ bw_1_55) (fun _ h9 => h9) rfl (by decide +kernel) rfl rfl (Nat.le_of_ble_eq_true rfl) dX0_remove_7 (fun H locs hP hD hS => ?_)
  have hP : va_P D vwCl [(a 6, .inr (0, [.ref (a 7), .ref (a 8), .ref (a 9), .int (nI (st_h K - 1))])), (a 7, .inl (cI, ro, .inl (K 8))), (a 8, .inl (cI, ro, .inl (K 9))), (a 9, .inl (cI, ro, .inl (K 10)))] H := hP
  have hD : va_D A [(a 6, .inr (0, [.ref (a 7), .ref (a 8), .ref (a 9), .int (nI (st_h K - 1))])), (a 7, .inl (cI, ro, .inl (K 8))), (a 8, .inl (cI, ro, .inl (K 9))), (a 9, .inl (cI, ro, .inl (K 10)))] := hD
  refine lv_iload_n hx hb dX0_remove_10 rfl (lv_at hl 1 rfl) ?_
  refine lv_istore_n hx hb dX0_remove_11 rfl hl (by decide) rfl (fun ls hl => ?_)
  have hl : lv_has ls 3 [(2, .int (nI (k))), (0, .ref (a 6)), (1, .int (nI (k)))] := hl
  have loop12 : ∀ (d : Nat) (j : Nat) (H : Heap) (locs : List Loc) (ls : Array Slot), d = st_h K - 1 - j → k ≤ j → j ≤ st_h K - 1 → va_P D vwCl [(a 6, .inr (0, [.ref (a 7), .ref (a 8), .ref (a 9), .int (nI (st_h K - 1))])), (a 7, .inl (cI, ro, .inl (st_shl (K 8) k (j)))), (a 8, .inl (cI, ro, .inl (st_shl (K 9) k (j)))), (a 9, .inl (cI, ro, .inl (st_shl (K 10) k (j))))] H → va_D A [(a 6, .inr (0, [.ref (a 7), .ref (a 8), .ref (a 9), .int (nI (st_h K - 1))])), (a 7, .inl (cI, ro, .inl (st_shl (K 8) k (j)))), (a 8, .inl (cI, ro, .inl (st_shl (K 9) k (j)))), (a 9, .inl (cI, ro, .inl (st_shl (K 10) k (j))))] → va_S A s.heap H locs → lv_has ls 3 [(0, .ref (a 6)), (1, .int (nI (k))), (2, .int (nI (j)))] → W p l e ({ frames := 0, cells := 0, slots := 0, locals := 0 } : Room) s m ([.ref (a 6), .int (nI (k))] : List Value).toArray below meth c H locs 0 0 (MQ below (me_QV D (me_TYS cI cZ cR) (w_bu a cI ro (st_rm K k)) A) ([.ref (a 6), .int (nI (k))] : List Value).toArray s 0 0 A) (F0 m 12 ls []) := by
    intro d
    induction d with
    | zero =>
      intro j H locs ls hd h1 h2 hP hD hS hl
      refine lv_iload_n hx hb dX0_remove_12 rfl (lv_at hl 2 rfl) ?_
      refine lv_aload_n hx hb dX0_remove_13 rfl (lv_at hl 0 rfl) ?_
      refine va_get (D := D) (ci := 0) (v := .int (nI (st_h K - 1))) (C := RX0) (T := TX0) (N := 4) hx hb hg inX0 hown hK hP 0 rfl rfl 3 (by decide) (hg _ bw_1_55) (fun _ h9 => h9) rfl dX0_remove_14 ?_
      refine lv_icmp_ge (tgt := 68) hx hb dX0_remove_17 (by decide) (fun b17 => ?_) (fun b17 => ?_)
      · have b17 := me_le (a := st_h K - 1) (b := j) (by omega) (by omega) b17
        have hj : j = st_h K - 1 := by omega
        rw [hj] at hP hD
        have hP : va_P D vwCl [(a 6, .inr (0, [.ref (a 7), .ref (a 8), .ref (a 9), .int (nI (st_h K - 1))])), (a 7, .inl (cI, ro, .inl (st_shl (K 8) k (st_h K - 1)))), (a 8, .inl (cI, ro, .inl (st_shl (K 9) k (st_h K - 1)))), (a 9, .inl (cI, ro, .inl (st_shl (K 10) k (st_h K - 1))))] H := hP
        have hD : va_D A [(a 6, .inr (0, [.ref (a 7), .ref (a 8), .ref (a 9), .int (nI (st_h K - 1))])), (a 7, .inl (cI, ro, .inl (st_shl (K 8) k (st_h K - 1)))), (a 8, .inl (cI, ro, .inl (st_shl (K 9) k (st_h K - 1)))), (a 9, .inl (cI, ro, .inl (st_shl (K 10) k (st_h K - 1))))] := hD
        have hP9 := me_subP (ws' := [(a 6, .inr (0, [.ref (a 7), .ref (a 8), .ref (a 9), .int ((st_rm K k) 7 0)])), (a 7, .inl (cI, ro, .inl ((st_rm K k) 8))), (a 8, .inl (cI, ro, .inl ((st_rm K k) 9))), (a 9, .inl (cI, ro, .inl ((st_rm K k) 10)))]) hP [0, 1, 2, 3] rfl
        have hD9 := hD.sub (ws' := [(a 6, .inr (0, [.ref (a 7), .ref (a 8), .ref (a 9), .int ((st_rm K k) 7 0)])), (a 7, .inl (cI, ro, .inl ((st_rm K k) 8))), (a 8, .inl (cI, ro, .inl ((st_rm K k) 9))), (a 9, .inl (cI, ro, .inl ((st_rm K k) 10)))]) [0, 1, 2, 3] (by decide) rfl
        exact me_retV hx hb hr hlk hK hS dX0_remove_68 hP9 hD9
      · have b17 := me_nle (a := st_h K - 1) (b := j) (by omega) (by omega) b17
        exfalso
        omega
    | succ d ih =>
      intro j H locs ls hd h1 h2 hP hD hS hl
      refine lv_iload_n hx hb dX0_remove_12 rfl (lv_at hl 2 rfl) ?_
      refine lv_aload_n hx hb dX0_remove_13 rfl (lv_at hl 0 rfl) ?_
      refine va_get (D := D) (ci := 0) (v := .int (nI (st_h K - 1))) (C := RX0) (T := TX0) (N := 4) hx hb hg inX0 hown hK hP 0 rfl rfl 3 (by decide) (hg _ bw_1_55) (fun _ h9 => h9) rfl dX0_remove_14 ?_
      refine lv_icmp_ge (tgt := 68) hx hb dX0_remove_17 (by decide) (fun b17 => ?_) (fun b17 => ?_)
      · have b17 := me_le (a := st_h K - 1) (b := j) (by omega) (by omega) b17
        exfalso
        omega
      · have b17 := me_nle (a := st_h K - 1) (b := j) (by omega) (by omega) b17
        refine lv_aload_n hx hb dX0_remove_20 rfl (lv_at hl 0 rfl) ?_
        refine va_get (D := D) (ci := 0) (v := .ref (a 7)) (C := RX0) (T := TX0) (N := 4) hx hb hg inX0 hown hK hP 0 rfl rfl 0 (by decide) (hg _ bw_1_49) (fun _ h9 => h9) rfl dX0_remove_21 ?_
        refine lv_iload_n hx hb dX0_remove_24 rfl (lv_at hl 2 rfl) ?_
        refine lv_aload_n hx hb dX0_remove_25 rfl (lv_at hl 0 rfl) ?_
        refine va_get (D := D) (ci := 0) (v := .ref (a 7)) (C := RX0) (T := TX0) (N := 4) hx hb hg inX0 hown hK hP 0 rfl rfl 0 (by decide) (hg _ bw_1_49) (fun _ h9 => h9) rfl dX0_remove_26 ?_
        refine lv_iload_n hx hb dX0_remove_29 rfl (lv_at hl 2 rfl) ?_
        refine lv_iconst (v := 1) hx hb dX0_remove_30 (by decide) ?_
        refine lv_iadd hx hb dX0_remove_31 ?_
        refine me_t (x := (nI (j)) + 1) (y := nI (j + 1)) (nI_add (j) (1)) ?_
        refine me_ild hx hb hK hP 1 0 rfl rfl (j + 1) (rfl) (by omega) (by omega) dX0_remove_32 ?_
        refine me_ist hx hb hK hP hD hS 1 0 rfl rfl (j) (rfl) (by omega) (by omega) dX0_remove_33 (fun H locs hP hD hS => ?_)
        have hP : va_P D vwCl [(a 6, .inr (0, [.ref (a 7), .ref (a 8), .ref (a 9), .int (nI (st_h K - 1))])), (a 7, .inl (cI, ro, .inl (upd (st_shl (K 8) k (j)) (j) (st_shl (K 8) k (j) (j + 1))))), (a 8, .inl (cI, ro, .inl (st_shl (K 9) k (j)))), (a 9, .inl (cI, ro, .inl (st_shl (K 10) k (j))))] H := hP
        have hD : va_D A [(a 6, .inr (0, [.ref (a 7), .ref (a 8), .ref (a 9), .int (nI (st_h K - 1))])), (a 7, .inl (cI, ro, .inl (upd (st_shl (K 8) k (j)) (j) (st_shl (K 8) k (j) (j + 1))))), (a 8, .inl (cI, ro, .inl (st_shl (K 9) k (j)))), (a 9, .inl (cI, ro, .inl (st_shl (K 10) k (j))))] := hD
        refine lv_aload_n hx hb dX0_remove_34 rfl (lv_at hl 0 rfl) ?_
        refine va_get (D := D) (ci := 0) (v := .ref (a 8)) (C := RX0) (T := TX0) (N := 4) hx hb hg inX0 hown hK hP 0 rfl rfl 1 (by decide) (hg _ bw_1_51) (fun _ h9 => h9) rfl dX0_remove_35 ?_
        refine lv_iload_n hx hb dX0_remove_38 rfl (lv_at hl 2 rfl) ?_
        refine lv_aload_n hx hb dX0_remove_39 rfl (lv_at hl 0 rfl) ?_
        refine va_get (D := D) (ci := 0) (v := .ref (a 8)) (C := RX0) (T := TX0) (N := 4) hx hb hg inX0 hown hK hP 0 rfl rfl 1 (by decide) (hg _ bw_1_51) (fun _ h9 => h9) rfl dX0_remove_40 ?_
        refine lv_iload_n hx hb dX0_remove_43 rfl (lv_at hl 2 rfl) ?_
        refine lv_iconst (v := 1) hx hb dX0_remove_44 (by decide) ?_
        refine lv_iadd hx hb dX0_remove_45 ?_
        refine me_t (x := (nI (j)) + 1) (y := nI (j + 1)) (nI_add (j) (1)) ?_
        refine me_ild hx hb hK hP 2 0 rfl rfl (j + 1) (rfl) (by omega) (by omega) dX0_remove_46 ?_
        refine me_ist hx hb hK hP hD hS 2 0 rfl rfl (j) (rfl) (by omega) (by omega) dX0_remove_47 (fun H locs hP hD hS => ?_)
        have hP : va_P D vwCl [(a 6, .inr (0, [.ref (a 7), .ref (a 8), .ref (a 9), .int (nI (st_h K - 1))])), (a 7, .inl (cI, ro, .inl (upd (st_shl (K 8) k (j)) (j) (st_shl (K 8) k (j) (j + 1))))), (a 8, .inl (cI, ro, .inl (upd (st_shl (K 9) k (j)) (j) (st_shl (K 9) k (j) (j + 1))))), (a 9, .inl (cI, ro, .inl (st_shl (K 10) k (j))))] H := hP
        have hD : va_D A [(a 6, .inr (0, [.ref (a 7), .ref (a 8), .ref (a 9), .int (nI (st_h K - 1))])), (a 7, .inl (cI, ro, .inl (upd (st_shl (K 8) k (j)) (j) (st_shl (K 8) k (j) (j + 1))))), (a 8, .inl (cI, ro, .inl (upd (st_shl (K 9) k (j)) (j) (st_shl (K 9) k (j) (j + 1))))), (a 9, .inl (cI, ro, .inl (st_shl (K 10) k (j))))] := hD
        refine lv_aload_n hx hb dX0_remove_48 rfl (lv_at hl 0 rfl) ?_
        refine va_get (D := D) (ci := 0) (v := .ref (a 9)) (C := RX0) (T := TX0) (N := 4) hx hb hg inX0 hown hK hP 0 rfl rfl 2 (by decide) (hg _ bw_1_53) (fun _ h9 => h9) rfl dX0_remove_49 ?_
        refine lv_iload_n hx hb dX0_remove_52 rfl (lv_at hl 2 rfl) ?_
        refine lv_aload_n hx hb dX0_remove_53 rfl (lv_at hl 0 rfl) ?_
        refine va_get (D := D) (ci := 0) (v := .ref (a 9)) (C := RX0) (T := TX0) (N := 4) hx hb hg inX0 hown hK hP 0 rfl rfl 2 (by decide) (hg _ bw_1_53) (fun _ h9 => h9) rfl dX0_remove_54 ?_
        refine lv_iload_n hx hb dX0_remove_57 rfl (lv_at hl 2 rfl) ?_
        refine lv_iconst (v := 1) hx hb dX0_remove_58 (by decide) ?_
        refine lv_iadd hx hb dX0_remove_59 ?_
        refine me_t (x := (nI (j)) + 1) (y := nI (j + 1)) (nI_add (j) (1)) ?_
        refine me_ild hx hb hK hP 3 0 rfl rfl (j + 1) (rfl) (by omega) (by omega) dX0_remove_60 ?_
        refine me_ist hx hb hK hP hD hS 3 0 rfl rfl (j) (rfl) (by omega) (by omega) dX0_remove_61 (fun H locs hP hD hS => ?_)
        have hP : va_P D vwCl [(a 6, .inr (0, [.ref (a 7), .ref (a 8), .ref (a 9), .int (nI (st_h K - 1))])), (a 7, .inl (cI, ro, .inl (upd (st_shl (K 8) k (j)) (j) (st_shl (K 8) k (j) (j + 1))))), (a 8, .inl (cI, ro, .inl (upd (st_shl (K 9) k (j)) (j) (st_shl (K 9) k (j) (j + 1))))), (a 9, .inl (cI, ro, .inl (upd (st_shl (K 10) k (j)) (j) (st_shl (K 10) k (j) (j + 1)))))] H := hP
        have hD : va_D A [(a 6, .inr (0, [.ref (a 7), .ref (a 8), .ref (a 9), .int (nI (st_h K - 1))])), (a 7, .inl (cI, ro, .inl (upd (st_shl (K 8) k (j)) (j) (st_shl (K 8) k (j) (j + 1))))), (a 8, .inl (cI, ro, .inl (upd (st_shl (K 9) k (j)) (j) (st_shl (K 9) k (j) (j + 1))))), (a 9, .inl (cI, ro, .inl (upd (st_shl (K 10) k (j)) (j) (st_shl (K 10) k (j) (j + 1)))))] := hD
        refine lv_iinc (k := 2) (v := nI (j + 1)) hx hb dX0_remove_62 hl rfl (me_inc (j)) (by decide) rfl (fun ls hl => ?_)
        have hl : lv_has ls 3 [(2, .int (nI (j + 1))), (0, .ref (a 6)), (1, .int (nI (k)))] := hl
        refine lv_goto (tgt := 12) hx hb dX0_remove_65 (by decide) ?_
        have hP := me_subP (ws' := [(a 6, .inr (0, [.ref (a 7), .ref (a 8), .ref (a 9), .int (nI (st_h K - 1))])), (a 7, .inl (cI, ro, .inl (upd (st_shl (K 8) k (j)) (j) (st_shl (K 8) k (j) (j + 1))))), (a 8, .inl (cI, ro, .inl (upd (st_shl (K 9) k (j)) (j) (st_shl (K 9) k (j) (j + 1))))), (a 9, .inl (cI, ro, .inl (upd (st_shl (K 10) k (j)) (j) (st_shl (K 10) k (j) (j + 1)))))]) hP [0, 1, 2, 3] rfl
        have hD := hD.sub (ws' := [(a 6, .inr (0, [.ref (a 7), .ref (a 8), .ref (a 9), .int (nI (st_h K - 1))])), (a 7, .inl (cI, ro, .inl (upd (st_shl (K 8) k (j)) (j) (st_shl (K 8) k (j) (j + 1))))), (a 8, .inl (cI, ro, .inl (upd (st_shl (K 9) k (j)) (j) (st_shl (K 9) k (j) (j + 1))))), (a 9, .inl (cI, ro, .inl (upd (st_shl (K 10) k (j)) (j) (st_shl (K 10) k (j) (j + 1)))))]) [0, 1, 2, 3] (by decide) rfl
        have hP : va_P D vwCl [(a 6, .inr (0, [.ref (a 7), .ref (a 8), .ref (a 9), .int (nI (st_h K - 1))])), (a 7, .inl (cI, ro, .inl (st_shl (K 8) k (j + 1)))), (a 8, .inl (cI, ro, .inl (st_shl (K 9) k (j + 1)))), (a 9, .inl (cI, ro, .inl (st_shl (K 10) k (j + 1))))] H := by rw [← st_shS (f := K 8) h1, ← st_shS (f := K 9) h1, ← st_shS (f := K 10) h1]; exact hP
        have hD : va_D A [(a 6, .inr (0, [.ref (a 7), .ref (a 8), .ref (a 9), .int (nI (st_h K - 1))])), (a 7, .inl (cI, ro, .inl (st_shl (K 8) k (j + 1)))), (a 8, .inl (cI, ro, .inl (st_shl (K 9) k (j + 1)))), (a 9, .inl (cI, ro, .inl (st_shl (K 10) k (j + 1))))] := by rw [← st_shS (f := K 8) h1, ← st_shS (f := K 9) h1, ← st_shS (f := K 10) h1]; exact hD
        have hl := lv_sub (l' := [(0, .ref (a 6)), (1, .int (nI (k))), (2, .int (nI (j + 1)))]) hl [1, 2, 0] rfl
        exact ih (j + 1) _ _ _ (by omega) (by omega) (by omega) hP hD hS hl
  have hP := me_subP (ws' := [(a 6, .inr (0, [.ref (a 7), .ref (a 8), .ref (a 9), .int (nI (st_h K - 1))])), (a 7, .inl (cI, ro, .inl (K 8))), (a 8, .inl (cI, ro, .inl (K 9))), (a 9, .inl (cI, ro, .inl (K 10)))]) hP [0, 1, 2, 3] rfl
  have hD := hD.sub (ws' := [(a 6, .inr (0, [.ref (a 7), .ref (a 8), .ref (a 9), .int (nI (st_h K - 1))])), (a 7, .inl (cI, ro, .inl (K 8))), (a 8, .inl (cI, ro, .inl (K 9))), (a 9, .inl (cI, ro, .inl (K 10)))]) [0, 1, 2, 3] (by decide) rfl
  have hP : va_P D vwCl [(a 6, .inr (0, [.ref (a 7), .ref (a 8), .ref (a 9), .int (nI (st_h K - 1))])), (a 7, .inl (cI, ro, .inl (st_shl (K 8) k (k)))), (a 8, .inl (cI, ro, .inl (st_shl (K 9) k (k)))), (a 9, .inl (cI, ro, .inl (st_shl (K 10) k (k))))] H := by rw [st_sh0, st_sh0, st_sh0]; exact hP
  have hD : va_D A [(a 6, .inr (0, [.ref (a 7), .ref (a 8), .ref (a 9), .int (nI (st_h K - 1))])), (a 7, .inl (cI, ro, .inl (st_shl (K 8) k (k)))), (a 8, .inl (cI, ro, .inl (st_shl (K 9) k (k)))), (a 9, .inl (cI, ro, .inl (st_shl (K 10) k (k))))] := by rw [st_sh0, st_sh0, st_sh0]; exact hD
  have hl := lv_sub (l' := [(0, .ref (a 6)), (1, .int (nI (k))), (2, .int (nI (k)))]) hl [1, 2, 0] rfl
  exact loop12 _ k _ _ _ rfl (Nat.le_refl _) (by omega) hP hD hS hl
set_option maxHeartbeats 4000000 in
set_option maxRecDepth 100000 in
theorem c_bu_letOut (l : Launch) (D : va_G) (cI cZ cR : ClassId) (a : Nat → Nat) (ro : Nat) (b : Nat → Nat) (K M : st_T) (k : Nat) (hh : K 7 0 = nI (st_h K)) (hk : k < st_h K) (hb1 : st_h K ≤ ro) (hro : ro ≤ 8) (h0 : K 8 k = 0 → K 9 k = nI (K 9 k).toNatClampNeg ∧ (K 9 k).toNatClampNeg < 32) (h1 : ¬ K 8 k = 0 → K 9 k = nI (K 9 k).toNatClampNeg ∧ (K 9 k).toNatClampNeg < 8) : me_V l yX0_letOut wsX0_letOut ({ frames := 1, cells := 0, slots := 0, locals := 23 } : Room) D (me_TYS cI cZ cR) ([.ref (a 6), .int (nI (k)), .ref (b 0)] : List Value) (w_bu a cI ro K ++ w_sh b cI cZ M) (w_bu a cI ro (st_rm K k) ++ w_sh b cI cZ (st_out M K k)) := by
  intro sz
  refine me_ent (cc := cX0_letOut) (maxL := 3) (ret := none) (Qf := me_QV D (me_TYS cI cZ cR) (w_bu a cI ro (st_rm K k) ++ w_sh b cI cZ (st_out M K k))) (by decide) rfl (Nat.le_of_ble_eq_true rfl) ?_
  intro p e s m below meth c A ls hx hb hr hml hts hown hlk hin hP hK hD hN hA hS hl
  have hown : s.vm.findClass RX0 = some m.cls := hown
  have hg : ∀ w9 ∈ bg, w9.before ([.ref (a 6), .int (nI (k)), .ref (b 0)] : List Value).toArray s = true := fun w9 h9 => hts w9 (List.mem_cons_of_mem _ h9)
  have hl : lv_has ls 3 [(0, .ref (a 6)), (1, .int (nI (k))), (2, .ref (b 0))] := hl
  have hP : va_P D vwCl [(a 6, .inr (0, [.ref (a 7), .ref (a 8), .ref (a 9), .int (K 7 0)])), (a 7, .inl (cI, ro, .inl (K 8))), (a 8, .inl (cI, ro, .inl (K 9))), (a 9, .inl (cI, ro, .inl (K 10))), (b 0, .inr (2, [.ref (b 1), .ref (b 2), .ref (b 3)])), (b 1, .inl (cI, 32, .inl (M 0))), (b 2, .inl (cI, 32, .inl (M 1))), (b 3, .inl (cZ, 8, .inl (M 2)))] s.heap := hP
  have hD : va_D A [(a 6, .inr (0, [.ref (a 7), .ref (a 8), .ref (a 9), .int (K 7 0)])), (a 7, .inl (cI, ro, .inl (K 8))), (a 8, .inl (cI, ro, .inl (K 9))), (a 9, .inl (cI, ro, .inl (K 10))), (b 0, .inr (2, [.ref (b 1), .ref (b 2), .ref (b 3)])), (b 1, .inl (cI, 32, .inl (M 0))), (b 2, .inl (cI, 32, .inl (M 1))), (b 3, .inl (cZ, 8, .inl (M 2)))] := hD
  refine lv_aload_n hx hb dX0_letOut_0 rfl (lv_at hl 0 rfl) ?_
  refine va_get (D := D) (ci := 0) (v := .ref (a 7)) (C := RX0) (T := TX0) (N := 4) hx hb hg inX0 hown hK hP 0 rfl rfl 0 (by decide) (hg _ bw_1_49) (fun _ h9 => h9) rfl dX0_letOut_1 ?_
  refine lv_iload_n hx hb dX0_letOut_4 rfl (lv_at hl 1 rfl) ?_
  refine me_ild hx hb hK hP 1 0 rfl rfl (k) (rfl) (by omega) (by omega) dX0_letOut_5 ?_
  refine lv_if_ne (tgt := 28) hx hb dX0_letOut_6 (by decide) (fun b6 => ?_) (fun b6 => ?_)
  · obtain ⟨e9, l9⟩ := h1 b6
    refine lv_aload_n hx hb dX0_letOut_28 rfl (lv_at hl 0 rfl) ?_
    refine va_get (D := D) (ci := 0) (v := .ref (a 7)) (C := RX0) (T := TX0) (N := 4) hx hb hg inX0 hown hK hP 0 rfl rfl 0 (by decide) (hg _ bw_1_49) (fun _ h9 => h9) rfl dX0_letOut_29 ?_
    refine lv_iload_n hx hb dX0_letOut_32 rfl (lv_at hl 1 rfl) ?_
    refine me_ild hx hb hK hP 1 0 rfl rfl (k) (rfl) (by omega) (by omega) dX0_letOut_33 ?_
    refine lv_iconst (v := 3) hx hb dX0_letOut_34 (by decide) ?_
    refine lv_icmp_eq (tgt := 48) hx hb dX0_letOut_35 (by decide) (fun b35 => ?_) (fun b35 => ?_)
    · refine lv_aload_n hx hb dX0_letOut_48 rfl (lv_at hl 0 rfl) ?_
      refine lv_iload_n hx hb dX0_letOut_49 rfl (lv_at hl 1 rfl) ?_
      refine me_goV (wr := [(b 0, .inr (2, [.ref (b 1), .ref (b 2), .ref (b 3)])), (b 1, .inl (cI, 32, .inl (M 0))), (b 2, .inl (cI, 32, .inl (M 1))), (b 3, .inl (cZ, 8, .inl (M 2)))]) (wc := [(a 6, .inr (0, [.ref (a 7), .ref (a 8), .ref (a 9), .int (K 7 0)])), (a 7, .inl (cI, ro, .inl (K 8))), (a 8, .inl (cI, ro, .inl (K 9))), (a 9, .inl (cI, ro, .inl (K 10)))]) (w1 := [(a 6, .inr (0, [.ref (a 7), .ref (a 8), .ref (a 9), .int ((st_rm K k) 7 0)])), (a 7, .inl (cI, ro, .inl ((st_rm K k) 8))), (a 8, .inl (cI, ro, .inl ((st_rm K k) 9))), (a 9, .inl (cI, ro, .inl ((st_rm K k) 10)))]) (va_runV (C := RX0) (b := a 6) (As := [.int (nI (k))]) (rest := []) ⟨hx, hb, hml, hown, hg⟩ (c_bu_remove l D cI cZ cR a ro K k hh hk hb1 hro s.heap.size) (cwV 1 hg (bg_gV (fun _ h => h) bw_1_199 bw_1_201 bw_s_17 bw_1_4 bw_1_202) rfl rfl rfl (by decide +kernel) ⟨Nat.le_of_ble_eq_true rfl, Nat.le_of_ble_eq_true rfl⟩) (me_preV (wc := [(a 6, .inr (0, [.ref (a 7), .ref (a 8), .ref (a 9), .int (K 7 0)])), (a 7, .inl (cI, ro, .inl (K 8))), (a 8, .inl (cI, ro, .inl (K 9))), (a 9, .inl (cI, ro, .inl (K 10)))]) hP hD hK hN [0, 1, 2, 3] rfl (by decide) (va_recv (q0 := 0) (ci := 0) hK hP rfl rfl)) rfl rfl hl.1 rfl (lv_room (Nat.le_of_ble_eq_true rfl)) dX0_letOut_50 ⟨Nat.zero_le _, Nat.zero_le _⟩) hP hD hS hA [0, 1, 2, 3] [4, 5, 6, 7] rfl rfl (by decide) (by decide) (fun H locs hP hD hS => ?_)
      have hP : va_P D vwCl [(b 0, .inr (2, [.ref (b 1), .ref (b 2), .ref (b 3)])), (b 1, .inl (cI, 32, .inl (M 0))), (b 2, .inl (cI, 32, .inl (M 1))), (b 3, .inl (cZ, 8, .inl (M 2))), (a 6, .inr (0, [.ref (a 7), .ref (a 8), .ref (a 9), .int ((st_rm K k) 7 0)])), (a 7, .inl (cI, ro, .inl ((st_rm K k) 8))), (a 8, .inl (cI, ro, .inl ((st_rm K k) 9))), (a 9, .inl (cI, ro, .inl ((st_rm K k) 10)))] H := hP
      have hD : va_D A [(b 0, .inr (2, [.ref (b 1), .ref (b 2), .ref (b 3)])), (b 1, .inl (cI, 32, .inl (M 0))), (b 2, .inl (cI, 32, .inl (M 1))), (b 3, .inl (cZ, 8, .inl (M 2))), (a 6, .inr (0, [.ref (a 7), .ref (a 8), .ref (a 9), .int ((st_rm K k) 7 0)])), (a 7, .inl (cI, ro, .inl ((st_rm K k) 8))), (a 8, .inl (cI, ro, .inl ((st_rm K k) 9))), (a 9, .inl (cI, ro, .inl ((st_rm K k) 10)))] := hD
      rw [show st_out M K k = M from (me_swf b6).trans (me_swt b35)]
      have hP9 := me_subP (ws' := [(a 6, .inr (0, [.ref (a 7), .ref (a 8), .ref (a 9), .int ((st_rm K k) 7 0)])), (a 7, .inl (cI, ro, .inl ((st_rm K k) 8))), (a 8, .inl (cI, ro, .inl ((st_rm K k) 9))), (a 9, .inl (cI, ro, .inl ((st_rm K k) 10))), (b 0, .inr (2, [.ref (b 1), .ref (b 2), .ref (b 3)])), (b 1, .inl (cI, 32, .inl (M 0))), (b 2, .inl (cI, 32, .inl (M 1))), (b 3, .inl (cZ, 8, .inl (M 2)))]) hP [4, 5, 6, 7, 0, 1, 2, 3] rfl
      have hD9 := hD.sub (ws' := [(a 6, .inr (0, [.ref (a 7), .ref (a 8), .ref (a 9), .int ((st_rm K k) 7 0)])), (a 7, .inl (cI, ro, .inl ((st_rm K k) 8))), (a 8, .inl (cI, ro, .inl ((st_rm K k) 9))), (a 9, .inl (cI, ro, .inl ((st_rm K k) 10))), (b 0, .inr (2, [.ref (b 1), .ref (b 2), .ref (b 3)])), (b 1, .inl (cI, 32, .inl (M 0))), (b 2, .inl (cI, 32, .inl (M 1))), (b 3, .inl (cZ, 8, .inl (M 2)))]) [4, 5, 6, 7, 0, 1, 2, 3] (by decide) rfl
      exact me_retV hx hb hr hlk hK hS dX0_letOut_53 hP9 hD9
    · refine lv_aload_n hx hb dX0_letOut_38 rfl (lv_at hl 2 rfl) ?_
      refine lv_aload_n hx hb dX0_letOut_39 rfl (lv_at hl 0 rfl) ?_
      refine va_get (D := D) (ci := 0) (v := .ref (a 8)) (C := RX0) (T := TX0) (N := 4) hx hb hg inX0 hown hK hP 0 rfl rfl 1 (by decide) (hg _ bw_1_51) (fun _ h9 => h9) rfl dX0_letOut_40 ?_
      refine lv_iload_n hx hb dX0_letOut_43 rfl (lv_at hl 1 rfl) ?_
      refine me_ild hx hb hK hP 2 0 rfl rfl (k) (rfl) (by omega) (by omega) dX0_letOut_44 ?_
      refine me_t (x := K 9 k) (y := nI ((K 9 k).toNatClampNeg)) (e9) ?_
      refine me_goV (wr := [(a 6, .inr (0, [.ref (a 7), .ref (a 8), .ref (a 9), .int (K 7 0)])), (a 7, .inl (cI, ro, .inl (K 8))), (a 8, .inl (cI, ro, .inl (K 9))), (a 9, .inl (cI, ro, .inl (K 10)))]) (wc := [(b 0, .inr (2, [.ref (b 1), .ref (b 2), .ref (b 3)])), (b 1, .inl (cI, 32, .inl (M 0))), (b 2, .inl (cI, 32, .inl (M 1))), (b 3, .inl (cZ, 8, .inl (M 2)))]) (w1 := [(b 0, .inr (2, [.ref (b 1), .ref (b 2), .ref (b 3)])), (b 1, .inl (cI, 32, .inl ((st_wb M ((K 9 k).toNatClampNeg)) 0))), (b 2, .inl (cI, 32, .inl ((st_wb M ((K 9 k).toNatClampNeg)) 1))), (b 3, .inl (cZ, 8, .inl ((st_wb M ((K 9 k).toNatClampNeg)) 2)))]) (va_runVN (C := RX2) (b := b 0) (As := [.int (nI ((K 9 k).toNatClampNeg))]) (rest := []) ⟨hx, hb, hml, hown, hg⟩ (c_sm_writeBack l D cI cZ cR b M ((K 9 k).toNatClampNeg) l9 s.heap.size) ⟨va_cnB 1 hg (bg_gi (fun _ h => h) bw_1_198) rfl rfl rfl (hN _ ne_0) (hg _ bw_1_2) (by decide +kernel) ⟨Nat.le_of_ble_eq_true rfl, Nat.le_of_ble_eq_true rfl⟩, (hg _ bw_1_197), (hg _ bw_s_16)⟩ (me_preV (wc := [(b 0, .inr (2, [.ref (b 1), .ref (b 2), .ref (b 3)])), (b 1, .inl (cI, 32, .inl (M 0))), (b 2, .inl (cI, 32, .inl (M 1))), (b 3, .inl (cZ, 8, .inl (M 2)))]) hP hD hK hN [4, 5, 6, 7] rfl (by decide) (va_recv (q0 := 4) (ci := 2) hK hP rfl rfl)) rfl rfl hl.1 rfl (lv_room (Nat.le_of_ble_eq_true rfl)) dX0_letOut_45 ⟨Nat.zero_le _, Nat.zero_le _⟩) hP hD hS hA [4, 5, 6, 7] [0, 1, 2, 3] rfl rfl (by decide) (by decide) (fun H locs hP hD hS => ?_)
      have hP : va_P D vwCl [(a 6, .inr (0, [.ref (a 7), .ref (a 8), .ref (a 9), .int (K 7 0)])), (a 7, .inl (cI, ro, .inl (K 8))), (a 8, .inl (cI, ro, .inl (K 9))), (a 9, .inl (cI, ro, .inl (K 10))), (b 0, .inr (2, [.ref (b 1), .ref (b 2), .ref (b 3)])), (b 1, .inl (cI, 32, .inl ((st_wb M ((K 9 k).toNatClampNeg)) 0))), (b 2, .inl (cI, 32, .inl ((st_wb M ((K 9 k).toNatClampNeg)) 1))), (b 3, .inl (cZ, 8, .inl ((st_wb M ((K 9 k).toNatClampNeg)) 2)))] H := hP
      have hD : va_D A [(a 6, .inr (0, [.ref (a 7), .ref (a 8), .ref (a 9), .int (K 7 0)])), (a 7, .inl (cI, ro, .inl (K 8))), (a 8, .inl (cI, ro, .inl (K 9))), (a 9, .inl (cI, ro, .inl (K 10))), (b 0, .inr (2, [.ref (b 1), .ref (b 2), .ref (b 3)])), (b 1, .inl (cI, 32, .inl ((st_wb M ((K 9 k).toNatClampNeg)) 0))), (b 2, .inl (cI, 32, .inl ((st_wb M ((K 9 k).toNatClampNeg)) 1))), (b 3, .inl (cZ, 8, .inl ((st_wb M ((K 9 k).toNatClampNeg)) 2)))] := hD
      refine lv_aload_n hx hb dX0_letOut_48 rfl (lv_at hl 0 rfl) ?_
      refine lv_iload_n hx hb dX0_letOut_49 rfl (lv_at hl 1 rfl) ?_
      refine me_goV (wr := [(b 0, .inr (2, [.ref (b 1), .ref (b 2), .ref (b 3)])), (b 1, .inl (cI, 32, .inl ((st_wb M ((K 9 k).toNatClampNeg)) 0))), (b 2, .inl (cI, 32, .inl ((st_wb M ((K 9 k).toNatClampNeg)) 1))), (b 3, .inl (cZ, 8, .inl ((st_wb M ((K 9 k).toNatClampNeg)) 2)))]) (wc := [(a 6, .inr (0, [.ref (a 7), .ref (a 8), .ref (a 9), .int (K 7 0)])), (a 7, .inl (cI, ro, .inl (K 8))), (a 8, .inl (cI, ro, .inl (K 9))), (a 9, .inl (cI, ro, .inl (K 10)))]) (w1 := [(a 6, .inr (0, [.ref (a 7), .ref (a 8), .ref (a 9), .int ((st_rm K k) 7 0)])), (a 7, .inl (cI, ro, .inl ((st_rm K k) 8))), (a 8, .inl (cI, ro, .inl ((st_rm K k) 9))), (a 9, .inl (cI, ro, .inl ((st_rm K k) 10)))]) (va_runV (C := RX0) (b := a 6) (As := [.int (nI (k))]) (rest := []) ⟨hx, hb, hml, hown, hg⟩ (c_bu_remove l D cI cZ cR a ro K k hh hk hb1 hro H.size) (cwV 1 hg (bg_gV (fun _ h => h) bw_1_199 bw_1_201 bw_s_17 bw_1_4 bw_1_202) rfl rfl rfl (by decide +kernel) ⟨Nat.le_of_ble_eq_true rfl, Nat.le_of_ble_eq_true rfl⟩) (me_preV (wc := [(a 6, .inr (0, [.ref (a 7), .ref (a 8), .ref (a 9), .int (K 7 0)])), (a 7, .inl (cI, ro, .inl (K 8))), (a 8, .inl (cI, ro, .inl (K 9))), (a 9, .inl (cI, ro, .inl (K 10)))]) hP hD hK hN [0, 1, 2, 3] rfl (by decide) (va_recv (q0 := 0) (ci := 0) hK hP rfl rfl)) rfl rfl hl.1 rfl (lv_room (Nat.le_of_ble_eq_true rfl)) dX0_letOut_50 ⟨Nat.zero_le _, Nat.zero_le _⟩) hP hD hS hA [0, 1, 2, 3] [4, 5, 6, 7] rfl rfl (by decide) (by decide) (fun H locs hP hD hS => ?_)
      have hP : va_P D vwCl [(b 0, .inr (2, [.ref (b 1), .ref (b 2), .ref (b 3)])), (b 1, .inl (cI, 32, .inl ((st_wb M ((K 9 k).toNatClampNeg)) 0))), (b 2, .inl (cI, 32, .inl ((st_wb M ((K 9 k).toNatClampNeg)) 1))), (b 3, .inl (cZ, 8, .inl ((st_wb M ((K 9 k).toNatClampNeg)) 2))), (a 6, .inr (0, [.ref (a 7), .ref (a 8), .ref (a 9), .int ((st_rm K k) 7 0)])), (a 7, .inl (cI, ro, .inl ((st_rm K k) 8))), (a 8, .inl (cI, ro, .inl ((st_rm K k) 9))), (a 9, .inl (cI, ro, .inl ((st_rm K k) 10)))] H := hP
      have hD : va_D A [(b 0, .inr (2, [.ref (b 1), .ref (b 2), .ref (b 3)])), (b 1, .inl (cI, 32, .inl ((st_wb M ((K 9 k).toNatClampNeg)) 0))), (b 2, .inl (cI, 32, .inl ((st_wb M ((K 9 k).toNatClampNeg)) 1))), (b 3, .inl (cZ, 8, .inl ((st_wb M ((K 9 k).toNatClampNeg)) 2))), (a 6, .inr (0, [.ref (a 7), .ref (a 8), .ref (a 9), .int ((st_rm K k) 7 0)])), (a 7, .inl (cI, ro, .inl ((st_rm K k) 8))), (a 8, .inl (cI, ro, .inl ((st_rm K k) 9))), (a 9, .inl (cI, ro, .inl ((st_rm K k) 10)))] := hD
      rw [show st_out M K k = st_wb M (K 9 k).toNatClampNeg from (me_swf b6).trans (me_swf b35)]
      have hP9 := me_subP (ws' := [(a 6, .inr (0, [.ref (a 7), .ref (a 8), .ref (a 9), .int ((st_rm K k) 7 0)])), (a 7, .inl (cI, ro, .inl ((st_rm K k) 8))), (a 8, .inl (cI, ro, .inl ((st_rm K k) 9))), (a 9, .inl (cI, ro, .inl ((st_rm K k) 10))), (b 0, .inr (2, [.ref (b 1), .ref (b 2), .ref (b 3)])), (b 1, .inl (cI, 32, .inl ((st_wb M (K 9 k).toNatClampNeg) 0))), (b 2, .inl (cI, 32, .inl ((st_wb M (K 9 k).toNatClampNeg) 1))), (b 3, .inl (cZ, 8, .inl ((st_wb M (K 9 k).toNatClampNeg) 2)))]) hP [4, 5, 6, 7, 0, 1, 2, 3] rfl
      have hD9 := hD.sub (ws' := [(a 6, .inr (0, [.ref (a 7), .ref (a 8), .ref (a 9), .int ((st_rm K k) 7 0)])), (a 7, .inl (cI, ro, .inl ((st_rm K k) 8))), (a 8, .inl (cI, ro, .inl ((st_rm K k) 9))), (a 9, .inl (cI, ro, .inl ((st_rm K k) 10))), (b 0, .inr (2, [.ref (b 1), .ref (b 2), .ref (b 3)])), (b 1, .inl (cI, 32, .inl ((st_wb M (K 9 k).toNatClampNeg) 0))), (b 2, .inl (cI, 32, .inl ((st_wb M (K 9 k).toNatClampNeg) 1))), (b 3, .inl (cZ, 8, .inl ((st_wb M (K 9 k).toNatClampNeg) 2)))]) [4, 5, 6, 7, 0, 1, 2, 3] (by decide) rfl
      exact me_retV hx hb hr hlk hK hS dX0_letOut_53 hP9 hD9
  · obtain ⟨e9, l9⟩ := h0 b6
    refine lv_aload_n hx hb dX0_letOut_9 rfl (lv_at hl 2 rfl) ?_
    refine lv_aload_n hx hb dX0_letOut_10 rfl (lv_at hl 0 rfl) ?_
    refine va_get (D := D) (ci := 0) (v := .ref (a 8)) (C := RX0) (T := TX0) (N := 4) hx hb hg inX0 hown hK hP 0 rfl rfl 1 (by decide) (hg _ bw_1_51) (fun _ h9 => h9) rfl dX0_letOut_11 ?_
    refine lv_iload_n hx hb dX0_letOut_14 rfl (lv_at hl 1 rfl) ?_
    refine me_ild hx hb hK hP 2 0 rfl rfl (k) (rfl) (by omega) (by omega) dX0_letOut_15 ?_
    refine me_t (x := K 9 k) (y := nI ((K 9 k).toNatClampNeg)) (e9) ?_
    refine lv_aload_n hx hb dX0_letOut_16 rfl (lv_at hl 0 rfl) ?_
    refine va_get (D := D) (ci := 0) (v := .ref (a 9)) (C := RX0) (T := TX0) (N := 4) hx hb hg inX0 hown hK hP 0 rfl rfl 2 (by decide) (hg _ bw_1_53) (fun _ h9 => h9) rfl dX0_letOut_17 ?_
    refine lv_iload_n hx hb dX0_letOut_20 rfl (lv_at hl 1 rfl) ?_
    refine me_ild hx hb hK hP 3 0 rfl rfl (k) (rfl) (by omega) (by omega) dX0_letOut_21 ?_
    refine me_goV (wr := [(a 6, .inr (0, [.ref (a 7), .ref (a 8), .ref (a 9), .int (K 7 0)])), (a 7, .inl (cI, ro, .inl (K 8))), (a 8, .inl (cI, ro, .inl (K 9))), (a 9, .inl (cI, ro, .inl (K 10)))]) (wc := [(b 0, .inr (2, [.ref (b 1), .ref (b 2), .ref (b 3)])), (b 1, .inl (cI, 32, .inl (M 0))), (b 2, .inl (cI, 32, .inl (M 1))), (b 3, .inl (cZ, 8, .inl (M 2)))]) (w1 := [(b 0, .inr (2, [.ref (b 1), .ref (b 2), .ref (b 3)])), (b 1, .inl (cI, 32, .inl ((st_wr M ((K 9 k).toNatClampNeg) (K 10 k)) 0))), (b 2, .inl (cI, 32, .inl ((st_wr M ((K 9 k).toNatClampNeg) (K 10 k)) 1))), (b 3, .inl (cZ, 8, .inl ((st_wr M ((K 9 k).toNatClampNeg) (K 10 k)) 2)))]) (va_runVN (C := RX2) (b := b 0) (As := [.int (nI ((K 9 k).toNatClampNeg)), .int (K 10 k)]) (rest := []) ⟨hx, hb, hml, hown, hg⟩ (c_sm_write l D cI cZ cR b M ((K 9 k).toNatClampNeg) (K 10 k) l9 s.heap.size) ⟨va_cnB 2 hg (bg_gi (fun _ h => h) bw_1_165) rfl rfl rfl (hN _ ne_1) (hg _ bw_1_2) (by decide +kernel) ⟨Nat.le_of_ble_eq_true rfl, Nat.le_of_ble_eq_true rfl⟩, (hg _ bw_1_164), (hg _ bw_s_10)⟩ (me_preV (wc := [(b 0, .inr (2, [.ref (b 1), .ref (b 2), .ref (b 3)])), (b 1, .inl (cI, 32, .inl (M 0))), (b 2, .inl (cI, 32, .inl (M 1))), (b 3, .inl (cZ, 8, .inl (M 2)))]) hP hD hK hN [4, 5, 6, 7] rfl (by decide) (va_recv (q0 := 4) (ci := 2) hK hP rfl rfl)) rfl rfl hl.1 rfl (lv_room (Nat.le_of_ble_eq_true rfl)) dX0_letOut_22 ⟨Nat.zero_le _, Nat.zero_le _⟩) hP hD hS hA [4, 5, 6, 7] [0, 1, 2, 3] rfl rfl (by decide) (by decide) (fun H locs hP hD hS => ?_)
    have hP : va_P D vwCl [(a 6, .inr (0, [.ref (a 7), .ref (a 8), .ref (a 9), .int (K 7 0)])), (a 7, .inl (cI, ro, .inl (K 8))), (a 8, .inl (cI, ro, .inl (K 9))), (a 9, .inl (cI, ro, .inl (K 10))), (b 0, .inr (2, [.ref (b 1), .ref (b 2), .ref (b 3)])), (b 1, .inl (cI, 32, .inl ((st_wr M ((K 9 k).toNatClampNeg) (K 10 k)) 0))), (b 2, .inl (cI, 32, .inl ((st_wr M ((K 9 k).toNatClampNeg) (K 10 k)) 1))), (b 3, .inl (cZ, 8, .inl ((st_wr M ((K 9 k).toNatClampNeg) (K 10 k)) 2)))] H := hP
    have hD : va_D A [(a 6, .inr (0, [.ref (a 7), .ref (a 8), .ref (a 9), .int (K 7 0)])), (a 7, .inl (cI, ro, .inl (K 8))), (a 8, .inl (cI, ro, .inl (K 9))), (a 9, .inl (cI, ro, .inl (K 10))), (b 0, .inr (2, [.ref (b 1), .ref (b 2), .ref (b 3)])), (b 1, .inl (cI, 32, .inl ((st_wr M ((K 9 k).toNatClampNeg) (K 10 k)) 0))), (b 2, .inl (cI, 32, .inl ((st_wr M ((K 9 k).toNatClampNeg) (K 10 k)) 1))), (b 3, .inl (cZ, 8, .inl ((st_wr M ((K 9 k).toNatClampNeg) (K 10 k)) 2)))] := hD
    refine lv_goto (tgt := 48) hx hb dX0_letOut_25 (by decide) ?_
    refine lv_aload_n hx hb dX0_letOut_48 rfl (lv_at hl 0 rfl) ?_
    refine lv_iload_n hx hb dX0_letOut_49 rfl (lv_at hl 1 rfl) ?_
    refine me_goV (wr := [(b 0, .inr (2, [.ref (b 1), .ref (b 2), .ref (b 3)])), (b 1, .inl (cI, 32, .inl ((st_wr M ((K 9 k).toNatClampNeg) (K 10 k)) 0))), (b 2, .inl (cI, 32, .inl ((st_wr M ((K 9 k).toNatClampNeg) (K 10 k)) 1))), (b 3, .inl (cZ, 8, .inl ((st_wr M ((K 9 k).toNatClampNeg) (K 10 k)) 2)))]) (wc := [(a 6, .inr (0, [.ref (a 7), .ref (a 8), .ref (a 9), .int (K 7 0)])), (a 7, .inl (cI, ro, .inl (K 8))), (a 8, .inl (cI, ro, .inl (K 9))), (a 9, .inl (cI, ro, .inl (K 10)))]) (w1 := [(a 6, .inr (0, [.ref (a 7), .ref (a 8), .ref (a 9), .int ((st_rm K k) 7 0)])), (a 7, .inl (cI, ro, .inl ((st_rm K k) 8))), (a 8, .inl (cI, ro, .inl ((st_rm K k) 9))), (a 9, .inl (cI, ro, .inl ((st_rm K k) 10)))]) (va_runV (C := RX0) (b := a 6) (As := [.int (nI (k))]) (rest := []) ⟨hx, hb, hml, hown, hg⟩ (c_bu_remove l D cI cZ cR a ro K k hh hk hb1 hro H.size) (cwV 1 hg (bg_gV (fun _ h => h) bw_1_199 bw_1_201 bw_s_17 bw_1_4 bw_1_202) rfl rfl rfl (by decide +kernel) ⟨Nat.le_of_ble_eq_true rfl, Nat.le_of_ble_eq_true rfl⟩) (me_preV (wc := [(a 6, .inr (0, [.ref (a 7), .ref (a 8), .ref (a 9), .int (K 7 0)])), (a 7, .inl (cI, ro, .inl (K 8))), (a 8, .inl (cI, ro, .inl (K 9))), (a 9, .inl (cI, ro, .inl (K 10)))]) hP hD hK hN [0, 1, 2, 3] rfl (by decide) (va_recv (q0 := 0) (ci := 0) hK hP rfl rfl)) rfl rfl hl.1 rfl (lv_room (Nat.le_of_ble_eq_true rfl)) dX0_letOut_50 ⟨Nat.zero_le _, Nat.zero_le _⟩) hP hD hS hA [0, 1, 2, 3] [4, 5, 6, 7] rfl rfl (by decide) (by decide) (fun H locs hP hD hS => ?_)
    have hP : va_P D vwCl [(b 0, .inr (2, [.ref (b 1), .ref (b 2), .ref (b 3)])), (b 1, .inl (cI, 32, .inl ((st_wr M ((K 9 k).toNatClampNeg) (K 10 k)) 0))), (b 2, .inl (cI, 32, .inl ((st_wr M ((K 9 k).toNatClampNeg) (K 10 k)) 1))), (b 3, .inl (cZ, 8, .inl ((st_wr M ((K 9 k).toNatClampNeg) (K 10 k)) 2))), (a 6, .inr (0, [.ref (a 7), .ref (a 8), .ref (a 9), .int ((st_rm K k) 7 0)])), (a 7, .inl (cI, ro, .inl ((st_rm K k) 8))), (a 8, .inl (cI, ro, .inl ((st_rm K k) 9))), (a 9, .inl (cI, ro, .inl ((st_rm K k) 10)))] H := hP
    have hD : va_D A [(b 0, .inr (2, [.ref (b 1), .ref (b 2), .ref (b 3)])), (b 1, .inl (cI, 32, .inl ((st_wr M ((K 9 k).toNatClampNeg) (K 10 k)) 0))), (b 2, .inl (cI, 32, .inl ((st_wr M ((K 9 k).toNatClampNeg) (K 10 k)) 1))), (b 3, .inl (cZ, 8, .inl ((st_wr M ((K 9 k).toNatClampNeg) (K 10 k)) 2))), (a 6, .inr (0, [.ref (a 7), .ref (a 8), .ref (a 9), .int ((st_rm K k) 7 0)])), (a 7, .inl (cI, ro, .inl ((st_rm K k) 8))), (a 8, .inl (cI, ro, .inl ((st_rm K k) 9))), (a 9, .inl (cI, ro, .inl ((st_rm K k) 10)))] := hD
    rw [show st_out M K k = st_wr M (K 9 k).toNatClampNeg (K 10 k) from me_swt b6]
    have hP9 := me_subP (ws' := [(a 6, .inr (0, [.ref (a 7), .ref (a 8), .ref (a 9), .int ((st_rm K k) 7 0)])), (a 7, .inl (cI, ro, .inl ((st_rm K k) 8))), (a 8, .inl (cI, ro, .inl ((st_rm K k) 9))), (a 9, .inl (cI, ro, .inl ((st_rm K k) 10))), (b 0, .inr (2, [.ref (b 1), .ref (b 2), .ref (b 3)])), (b 1, .inl (cI, 32, .inl ((st_wr M (K 9 k).toNatClampNeg (K 10 k)) 0))), (b 2, .inl (cI, 32, .inl ((st_wr M (K 9 k).toNatClampNeg (K 10 k)) 1))), (b 3, .inl (cZ, 8, .inl ((st_wr M (K 9 k).toNatClampNeg (K 10 k)) 2)))]) hP [4, 5, 6, 7, 0, 1, 2, 3] rfl
    have hD9 := hD.sub (ws' := [(a 6, .inr (0, [.ref (a 7), .ref (a 8), .ref (a 9), .int ((st_rm K k) 7 0)])), (a 7, .inl (cI, ro, .inl ((st_rm K k) 8))), (a 8, .inl (cI, ro, .inl ((st_rm K k) 9))), (a 9, .inl (cI, ro, .inl ((st_rm K k) 10))), (b 0, .inr (2, [.ref (b 1), .ref (b 2), .ref (b 3)])), (b 1, .inl (cI, 32, .inl ((st_wr M (K 9 k).toNatClampNeg (K 10 k)) 0))), (b 2, .inl (cI, 32, .inl ((st_wr M (K 9 k).toNatClampNeg (K 10 k)) 1))), (b 3, .inl (cZ, 8, .inl ((st_wr M (K 9 k).toNatClampNeg (K 10 k)) 2)))]) [4, 5, 6, 7, 0, 1, 2, 3] (by decide) rfl
    exact me_retV hx hb hr hlk hK hS dX0_letOut_53 hP9 hD9
end
section
set_option maxHeartbeats 4000000 in
set_option maxRecDepth 100000 in
theorem c_co_setI (l : Launch) (D : va_G) (cI cZ cR : ClassId) (a : Nat → Nat) (K : st_T) (i : Nat) (zi xi yi vi : Int32) (hi : i < 24) : me_V l yX1_setInstruction wsX1_setInstruction ({ frames := 0, cells := 0, slots := 0, locals := 0 } : Room) D (me_TYS cI cZ cR) ([.ref (a 0), .int (nI (i)), .int (zi), .int (xi), .int (yi), .int (vi)] : List Value) (w_co a cI K) (w_co a cI (st_pu K i zi xi yi vi)) := by
  intro sz
  refine me_ent (cc := cX1_setInstruction) (maxL := 6) (ret := none) (Qf := me_QV D (me_TYS cI cZ cR) (w_co a cI (st_pu K i zi xi yi vi))) (by decide) rfl (Nat.le_of_ble_eq_true rfl) ?_
  intro p e s m below meth c A ls hx hb hr hml hts hown hlk hin hP hK hD hN hA hS hl
  have hown : s.vm.findClass RX1 = some m.cls := hown
  have hg : ∀ w9 ∈ bg, w9.before ([.ref (a 0), .int (nI (i)), .int (zi), .int (xi), .int (yi), .int (vi)] : List Value).toArray s = true := fun w9 h9 => hts w9 (List.mem_cons_of_mem _ h9)
  have hl : lv_has ls 6 [(0, .ref (a 0)), (1, .int (nI (i))), (2, .int (zi)), (3, .int (xi)), (4, .int (yi)), (5, .int (vi))] := hl
  have hP : va_P D vwCl [(a 0, .inr (1, [.ref (a 1), .ref (a 2), .ref (a 3), .ref (a 4), .ref (a 5), .ref (a 6), .int (K 5 0), .int (K 6 0)])), (a 1, .inl (cI, 4, .inl (K 4))), (a 2, .inl (cI, 24, .inl (K 0))), (a 3, .inl (cI, 24, .inl (K 1))), (a 4, .inl (cI, 24, .inl (K 2))), (a 5, .inl (cI, 24, .inl (K 3)))] s.heap := hP
  have hD : va_D A [(a 0, .inr (1, [.ref (a 1), .ref (a 2), .ref (a 3), .ref (a 4), .ref (a 5), .ref (a 6), .int (K 5 0), .int (K 6 0)])), (a 1, .inl (cI, 4, .inl (K 4))), (a 2, .inl (cI, 24, .inl (K 0))), (a 3, .inl (cI, 24, .inl (K 1))), (a 4, .inl (cI, 24, .inl (K 2))), (a 5, .inl (cI, 24, .inl (K 3)))] := hD
  refine lv_aload_n hx hb dX1_setInstruction_0 rfl (lv_at hl 0 rfl) ?_
  refine va_get (D := D) (ci := 1) (v := .ref (a 2)) (C := RX1) (T := TX1) (N := 8) hx hb hg inX1 hown hK hP 0 rfl rfl 1 (by decide) (hg _ bw_1_69) (fun _ h9 => h9) rfl dX1_setInstruction_1 ?_
  refine lv_iload_n hx hb dX1_setInstruction_4 rfl (lv_at hl 1 rfl) ?_
  refine lv_iload_n hx hb dX1_setInstruction_5 rfl (lv_at hl 2 rfl) ?_
  refine me_ist hx hb hK hP hD hS 2 0 rfl rfl (i) (rfl) (by omega) (by omega) dX1_setInstruction_6 (fun H locs hP hD hS => ?_)
  have hP : va_P D vwCl [(a 0, .inr (1, [.ref (a 1), .ref (a 2), .ref (a 3), .ref (a 4), .ref (a 5), .ref (a 6), .int (K 5 0), .int (K 6 0)])), (a 1, .inl (cI, 4, .inl (K 4))), (a 2, .inl (cI, 24, .inl (upd (K 0) (i) (zi)))), (a 3, .inl (cI, 24, .inl (K 1))), (a 4, .inl (cI, 24, .inl (K 2))), (a 5, .inl (cI, 24, .inl (K 3)))] H := hP
  have hD : va_D A [(a 0, .inr (1, [.ref (a 1), .ref (a 2), .ref (a 3), .ref (a 4), .ref (a 5), .ref (a 6), .int (K 5 0), .int (K 6 0)])), (a 1, .inl (cI, 4, .inl (K 4))), (a 2, .inl (cI, 24, .inl (upd (K 0) (i) (zi)))), (a 3, .inl (cI, 24, .inl (K 1))), (a 4, .inl (cI, 24, .inl (K 2))), (a 5, .inl (cI, 24, .inl (K 3)))] := hD
  refine lv_aload_n hx hb dX1_setInstruction_7 rfl (lv_at hl 0 rfl) ?_
  refine va_get (D := D) (ci := 1) (v := .ref (a 3)) (C := RX1) (T := TX1) (N := 8) hx hb hg inX1 hown hK hP 0 rfl rfl 2 (by decide) (hg _ bw_1_70) (fun _ h9 => h9) rfl dX1_setInstruction_8 ?_
  refine lv_iload_n hx hb dX1_setInstruction_11 rfl (lv_at hl 1 rfl) ?_
  refine lv_iload_n hx hb dX1_setInstruction_12 rfl (lv_at hl 3 rfl) ?_
  refine me_ist hx hb hK hP hD hS 3 0 rfl rfl (i) (rfl) (by omega) (by omega) dX1_setInstruction_13 (fun H locs hP hD hS => ?_)
  have hP : va_P D vwCl [(a 0, .inr (1, [.ref (a 1), .ref (a 2), .ref (a 3), .ref (a 4), .ref (a 5), .ref (a 6), .int (K 5 0), .int (K 6 0)])), (a 1, .inl (cI, 4, .inl (K 4))), (a 2, .inl (cI, 24, .inl (upd (K 0) (i) (zi)))), (a 3, .inl (cI, 24, .inl (upd (K 1) (i) (xi)))), (a 4, .inl (cI, 24, .inl (K 2))), (a 5, .inl (cI, 24, .inl (K 3)))] H := hP
  have hD : va_D A [(a 0, .inr (1, [.ref (a 1), .ref (a 2), .ref (a 3), .ref (a 4), .ref (a 5), .ref (a 6), .int (K 5 0), .int (K 6 0)])), (a 1, .inl (cI, 4, .inl (K 4))), (a 2, .inl (cI, 24, .inl (upd (K 0) (i) (zi)))), (a 3, .inl (cI, 24, .inl (upd (K 1) (i) (xi)))), (a 4, .inl (cI, 24, .inl (K 2))), (a 5, .inl (cI, 24, .inl (K 3)))] := hD
  refine lv_aload_n hx hb dX1_setInstruction_14 rfl (lv_at hl 0 rfl) ?_
  refine va_get (D := D) (ci := 1) (v := .ref (a 4)) (C := RX1) (T := TX1) (N := 8) hx hb hg inX1 hown hK hP 0 rfl rfl 3 (by decide) (hg _ bw_1_71) (fun _ h9 => h9) rfl dX1_setInstruction_15 ?_
  refine lv_iload_n hx hb dX1_setInstruction_18 rfl (lv_at hl 1 rfl) ?_
  refine lv_iload hx hb dX1_setInstruction_19 (lv_at hl 4 rfl) ?_
  refine me_ist hx hb hK hP hD hS 4 0 rfl rfl (i) (rfl) (by omega) (by omega) dX1_setInstruction_21 (fun H locs hP hD hS => ?_)
  have hP : va_P D vwCl [(a 0, .inr (1, [.ref (a 1), .ref (a 2), .ref (a 3), .ref (a 4), .ref (a 5), .ref (a 6), .int (K 5 0), .int (K 6 0)])), (a 1, .inl (cI, 4, .inl (K 4))), (a 2, .inl (cI, 24, .inl (upd (K 0) (i) (zi)))), (a 3, .inl (cI, 24, .inl (upd (K 1) (i) (xi)))), (a 4, .inl (cI, 24, .inl (upd (K 2) (i) (yi)))), (a 5, .inl (cI, 24, .inl (K 3)))] H := hP
  have hD : va_D A [(a 0, .inr (1, [.ref (a 1), .ref (a 2), .ref (a 3), .ref (a 4), .ref (a 5), .ref (a 6), .int (K 5 0), .int (K 6 0)])), (a 1, .inl (cI, 4, .inl (K 4))), (a 2, .inl (cI, 24, .inl (upd (K 0) (i) (zi)))), (a 3, .inl (cI, 24, .inl (upd (K 1) (i) (xi)))), (a 4, .inl (cI, 24, .inl (upd (K 2) (i) (yi)))), (a 5, .inl (cI, 24, .inl (K 3)))] := hD
  refine lv_aload_n hx hb dX1_setInstruction_22 rfl (lv_at hl 0 rfl) ?_
  refine va_get (D := D) (ci := 1) (v := .ref (a 5)) (C := RX1) (T := TX1) (N := 8) hx hb hg inX1 hown hK hP 0 rfl rfl 4 (by decide) (hg _ bw_1_72) (fun _ h9 => h9) rfl dX1_setInstruction_23 ?_
  refine lv_iload_n hx hb dX1_setInstruction_26 rfl (lv_at hl 1 rfl) ?_
  refine lv_iload hx hb dX1_setInstruction_27 (lv_at hl 5 rfl) ?_
  refine me_ist hx hb hK hP hD hS 5 0 rfl rfl (i) (rfl) (by omega) (by omega) dX1_setInstruction_29 (fun H locs hP hD hS => ?_)
  have hP : va_P D vwCl [(a 0, .inr (1, [.ref (a 1), .ref (a 2), .ref (a 3), .ref (a 4), .ref (a 5), .ref (a 6), .int (K 5 0), .int (K 6 0)])), (a 1, .inl (cI, 4, .inl (K 4))), (a 2, .inl (cI, 24, .inl (upd (K 0) (i) (zi)))), (a 3, .inl (cI, 24, .inl (upd (K 1) (i) (xi)))), (a 4, .inl (cI, 24, .inl (upd (K 2) (i) (yi)))), (a 5, .inl (cI, 24, .inl (upd (K 3) (i) (vi))))] H := hP
  have hD : va_D A [(a 0, .inr (1, [.ref (a 1), .ref (a 2), .ref (a 3), .ref (a 4), .ref (a 5), .ref (a 6), .int (K 5 0), .int (K 6 0)])), (a 1, .inl (cI, 4, .inl (K 4))), (a 2, .inl (cI, 24, .inl (upd (K 0) (i) (zi)))), (a 3, .inl (cI, 24, .inl (upd (K 1) (i) (xi)))), (a 4, .inl (cI, 24, .inl (upd (K 2) (i) (yi)))), (a 5, .inl (cI, 24, .inl (upd (K 3) (i) (vi))))] := hD
  have hP9 := me_subP (ws' := [(a 0, .inr (1, [.ref (a 1), .ref (a 2), .ref (a 3), .ref (a 4), .ref (a 5), .ref (a 6), .int ((st_pu K i zi xi yi vi) 5 0), .int ((st_pu K i zi xi yi vi) 6 0)])), (a 1, .inl (cI, 4, .inl ((st_pu K i zi xi yi vi) 4))), (a 2, .inl (cI, 24, .inl ((st_pu K i zi xi yi vi) 0))), (a 3, .inl (cI, 24, .inl ((st_pu K i zi xi yi vi) 1))), (a 4, .inl (cI, 24, .inl ((st_pu K i zi xi yi vi) 2))), (a 5, .inl (cI, 24, .inl ((st_pu K i zi xi yi vi) 3)))]) hP [0, 1, 2, 3, 4, 5] rfl
  have hD9 := hD.sub (ws' := [(a 0, .inr (1, [.ref (a 1), .ref (a 2), .ref (a 3), .ref (a 4), .ref (a 5), .ref (a 6), .int ((st_pu K i zi xi yi vi) 5 0), .int ((st_pu K i zi xi yi vi) 6 0)])), (a 1, .inl (cI, 4, .inl ((st_pu K i zi xi yi vi) 4))), (a 2, .inl (cI, 24, .inl ((st_pu K i zi xi yi vi) 0))), (a 3, .inl (cI, 24, .inl ((st_pu K i zi xi yi vi) 1))), (a 4, .inl (cI, 24, .inl ((st_pu K i zi xi yi vi) 2))), (a 5, .inl (cI, 24, .inl ((st_pu K i zi xi yi vi) 3)))]) [0, 1, 2, 3, 4, 5] (by decide) rfl
  exact me_retV hx hb hr hlk hK hS dX1_setInstruction_30 hP9 hD9
set_option maxHeartbeats 4000000 in
set_option maxRecDepth 100000 in
theorem c_co_mustWait (l : Launch) (D : va_G) (cI cZ cR : ClassId) (a : Nat → Nat) (ro : Nat) (K : st_T) (z : Nat) (hh : K 7 0 = nI (st_h K)) (hb1 : st_h K ≤ ro) (hro : ro ≤ 8) (hz : z ≤ 10) : me_I l yX1_mustWait wsX1_mustWait ({ frames := 1, cells := 0, slots := 0, locals := 20 } : Room) D (me_TYS cI cZ cR) ([.ref (a 0), .int (nI (z))] : List Value) (w_co a cI K ++ w_bu a cI ro K) (me_b (st_wq ro K (nI z))) (w_co a cI K ++ w_bu a cI ro K) := by
  intro sz
  refine me_ent (cc := cX1_mustWait) (maxL := 2) (ret := (some .boolean)) (Qf := me_QI D (me_TYS cI cZ cR) (me_b (st_wq ro K (nI z))) (w_co a cI K ++ w_bu a cI ro K)) (by decide) rfl (Nat.le_of_ble_eq_true rfl) ?_
  intro p e s m below meth c A ls hx hb hr hml hts hown hlk hin hP hK hD hN hA hS hl
  have hown : s.vm.findClass RX1 = some m.cls := hown
  have hg : ∀ w9 ∈ bg, w9.before ([.ref (a 0), .int (nI (z))] : List Value).toArray s = true := fun w9 h9 => hts w9 (List.mem_cons_of_mem _ h9)
  have hl : lv_has ls 2 [(0, .ref (a 0)), (1, .int (nI (z)))] := hl
  have hP : va_P D vwCl [(a 0, .inr (1, [.ref (a 1), .ref (a 2), .ref (a 3), .ref (a 4), .ref (a 5), .ref (a 6), .int (K 5 0), .int (K 6 0)])), (a 1, .inl (cI, 4, .inl (K 4))), (a 2, .inl (cI, 24, .inl (K 0))), (a 3, .inl (cI, 24, .inl (K 1))), (a 4, .inl (cI, 24, .inl (K 2))), (a 5, .inl (cI, 24, .inl (K 3))), (a 6, .inr (0, [.ref (a 7), .ref (a 8), .ref (a 9), .int (K 7 0)])), (a 7, .inl (cI, ro, .inl (K 8))), (a 8, .inl (cI, ro, .inl (K 9))), (a 9, .inl (cI, ro, .inl (K 10)))] s.heap := hP
  have hD : va_D A [(a 0, .inr (1, [.ref (a 1), .ref (a 2), .ref (a 3), .ref (a 4), .ref (a 5), .ref (a 6), .int (K 5 0), .int (K 6 0)])), (a 1, .inl (cI, 4, .inl (K 4))), (a 2, .inl (cI, 24, .inl (K 0))), (a 3, .inl (cI, 24, .inl (K 1))), (a 4, .inl (cI, 24, .inl (K 2))), (a 5, .inl (cI, 24, .inl (K 3))), (a 6, .inr (0, [.ref (a 7), .ref (a 8), .ref (a 9), .int (K 7 0)])), (a 7, .inl (cI, ro, .inl (K 8))), (a 8, .inl (cI, ro, .inl (K 9))), (a 9, .inl (cI, ro, .inl (K 10)))] := hD
  rcases (show z = 0 ∨ z = 1 ∨ z = 2 ∨ z = 3 ∨ z = 4 ∨ z = 5 ∨ z = 6 ∨ z = 7 ∨ z = 8 ∨ z = 9 ∨ z = 10 by omega) with rfl | rfl | rfl | rfl | rfl | rfl | rfl | rfl | rfl | rfl | rfl
  · have hl : lv_has ls 2 [(0, .ref (a 0)), (1, .int (nI (0)))] := hl
    refine lv_iload_n hx hb dX1_mustWait_0 rfl (lv_at hl 1 rfl) ?_
    refine lv_tableOut (tgt := 68) hx hb dX1_mustWait_1 (by decide) (by decide) ?_
    refine lv_iconst (v := 0) hx hb dX1_mustWait_68 (by decide) ?_
    have hP9 := me_subP (ws' := [(a 0, .inr (1, [.ref (a 1), .ref (a 2), .ref (a 3), .ref (a 4), .ref (a 5), .ref (a 6), .int (K 5 0), .int (K 6 0)])), (a 1, .inl (cI, 4, .inl (K 4))), (a 2, .inl (cI, 24, .inl (K 0))), (a 3, .inl (cI, 24, .inl (K 1))), (a 4, .inl (cI, 24, .inl (K 2))), (a 5, .inl (cI, 24, .inl (K 3))), (a 6, .inr (0, [.ref (a 7), .ref (a 8), .ref (a 9), .int (K 7 0)])), (a 7, .inl (cI, ro, .inl (K 8))), (a 8, .inl (cI, ro, .inl (K 9))), (a 9, .inl (cI, ro, .inl (K 10)))]) hP [0, 1, 2, 3, 4, 5, 6, 7, 8, 9] rfl
    have hD9 := hD.sub (ws' := [(a 0, .inr (1, [.ref (a 1), .ref (a 2), .ref (a 3), .ref (a 4), .ref (a 5), .ref (a 6), .int (K 5 0), .int (K 6 0)])), (a 1, .inl (cI, 4, .inl (K 4))), (a 2, .inl (cI, 24, .inl (K 0))), (a 3, .inl (cI, 24, .inl (K 1))), (a 4, .inl (cI, 24, .inl (K 2))), (a 5, .inl (cI, 24, .inl (K 3))), (a 6, .inr (0, [.ref (a 7), .ref (a 8), .ref (a 9), .int (K 7 0)])), (a 7, .inl (cI, ro, .inl (K 8))), (a 8, .inl (cI, ro, .inl (K 9))), (a 9, .inl (cI, ro, .inl (K 10)))]) [0, 1, 2, 3, 4, 5, 6, 7, 8, 9] (by decide) rfl
    exact me_retZ hx hb hr hlk hK hS dX1_mustWait_69 (rfl) ((me_bf (st_wq0 (by decide))).symm) hP9 hD9
  · have hl : lv_has ls 2 [(0, .ref (a 0)), (1, .int (nI (1)))] := hl
    refine lv_iload_n hx hb dX1_mustWait_0 rfl (lv_at hl 1 rfl) ?_
    refine lv_tableOut (tgt := 68) hx hb dX1_mustWait_1 (by decide) (by decide) ?_
    refine lv_iconst (v := 0) hx hb dX1_mustWait_68 (by decide) ?_
    have hP9 := me_subP (ws' := [(a 0, .inr (1, [.ref (a 1), .ref (a 2), .ref (a 3), .ref (a 4), .ref (a 5), .ref (a 6), .int (K 5 0), .int (K 6 0)])), (a 1, .inl (cI, 4, .inl (K 4))), (a 2, .inl (cI, 24, .inl (K 0))), (a 3, .inl (cI, 24, .inl (K 1))), (a 4, .inl (cI, 24, .inl (K 2))), (a 5, .inl (cI, 24, .inl (K 3))), (a 6, .inr (0, [.ref (a 7), .ref (a 8), .ref (a 9), .int (K 7 0)])), (a 7, .inl (cI, ro, .inl (K 8))), (a 8, .inl (cI, ro, .inl (K 9))), (a 9, .inl (cI, ro, .inl (K 10)))]) hP [0, 1, 2, 3, 4, 5, 6, 7, 8, 9] rfl
    have hD9 := hD.sub (ws' := [(a 0, .inr (1, [.ref (a 1), .ref (a 2), .ref (a 3), .ref (a 4), .ref (a 5), .ref (a 6), .int (K 5 0), .int (K 6 0)])), (a 1, .inl (cI, 4, .inl (K 4))), (a 2, .inl (cI, 24, .inl (K 0))), (a 3, .inl (cI, 24, .inl (K 1))), (a 4, .inl (cI, 24, .inl (K 2))), (a 5, .inl (cI, 24, .inl (K 3))), (a 6, .inr (0, [.ref (a 7), .ref (a 8), .ref (a 9), .int (K 7 0)])), (a 7, .inl (cI, ro, .inl (K 8))), (a 8, .inl (cI, ro, .inl (K 9))), (a 9, .inl (cI, ro, .inl (K 10)))]) [0, 1, 2, 3, 4, 5, 6, 7, 8, 9] (by decide) rfl
    exact me_retZ hx hb hr hlk hK hS dX1_mustWait_69 (rfl) ((me_bf (st_wq0 (by decide))).symm) hP9 hD9
  · have hl : lv_has ls 2 [(0, .ref (a 0)), (1, .int (nI (2)))] := hl
    refine lv_iload_n hx hb dX1_mustWait_0 rfl (lv_at hl 1 rfl) ?_
    refine lv_tableOut (tgt := 68) hx hb dX1_mustWait_1 (by decide) (by decide) ?_
    refine lv_iconst (v := 0) hx hb dX1_mustWait_68 (by decide) ?_
    have hP9 := me_subP (ws' := [(a 0, .inr (1, [.ref (a 1), .ref (a 2), .ref (a 3), .ref (a 4), .ref (a 5), .ref (a 6), .int (K 5 0), .int (K 6 0)])), (a 1, .inl (cI, 4, .inl (K 4))), (a 2, .inl (cI, 24, .inl (K 0))), (a 3, .inl (cI, 24, .inl (K 1))), (a 4, .inl (cI, 24, .inl (K 2))), (a 5, .inl (cI, 24, .inl (K 3))), (a 6, .inr (0, [.ref (a 7), .ref (a 8), .ref (a 9), .int (K 7 0)])), (a 7, .inl (cI, ro, .inl (K 8))), (a 8, .inl (cI, ro, .inl (K 9))), (a 9, .inl (cI, ro, .inl (K 10)))]) hP [0, 1, 2, 3, 4, 5, 6, 7, 8, 9] rfl
    have hD9 := hD.sub (ws' := [(a 0, .inr (1, [.ref (a 1), .ref (a 2), .ref (a 3), .ref (a 4), .ref (a 5), .ref (a 6), .int (K 5 0), .int (K 6 0)])), (a 1, .inl (cI, 4, .inl (K 4))), (a 2, .inl (cI, 24, .inl (K 0))), (a 3, .inl (cI, 24, .inl (K 1))), (a 4, .inl (cI, 24, .inl (K 2))), (a 5, .inl (cI, 24, .inl (K 3))), (a 6, .inr (0, [.ref (a 7), .ref (a 8), .ref (a 9), .int (K 7 0)])), (a 7, .inl (cI, ro, .inl (K 8))), (a 8, .inl (cI, ro, .inl (K 9))), (a 9, .inl (cI, ro, .inl (K 10)))]) [0, 1, 2, 3, 4, 5, 6, 7, 8, 9] (by decide) rfl
    exact me_retZ hx hb hr hlk hK hS dX1_mustWait_69 (rfl) ((me_bf (st_wq0 (by decide))).symm) hP9 hD9
  · have hl : lv_has ls 2 [(0, .ref (a 0)), (1, .int (nI (3)))] := hl
    refine lv_iload_n hx hb dX1_mustWait_0 rfl (lv_at hl 1 rfl) ?_
    refine lv_tableIn (off := 43) (tgt := 44) hx hb dX1_mustWait_1 (by decide) (by decide) (by decide) (by decide) ?_
    refine lv_aload_n hx hb dX1_mustWait_44 rfl (lv_at hl 0 rfl) ?_
    refine va_get (D := D) (ci := 1) (v := .ref (a 6)) (C := RX1) (T := TX1) (N := 8) hx hb hg inX1 hown hK hP 0 rfl rfl 5 (by decide) (hg _ bw_1_73) (fun _ h9 => h9) rfl dX1_mustWait_45 ?_
    refine me_goI (wr := [(a 0, .inr (1, [.ref (a 1), .ref (a 2), .ref (a 3), .ref (a 4), .ref (a 5), .ref (a 6), .int (K 5 0), .int (K 6 0)])), (a 1, .inl (cI, 4, .inl (K 4))), (a 2, .inl (cI, 24, .inl (K 0))), (a 3, .inl (cI, 24, .inl (K 1))), (a 4, .inl (cI, 24, .inl (K 2))), (a 5, .inl (cI, 24, .inl (K 3)))]) (wc := [(a 6, .inr (0, [.ref (a 7), .ref (a 8), .ref (a 9), .int (K 7 0)])), (a 7, .inl (cI, ro, .inl (K 8))), (a 8, .inl (cI, ro, .inl (K 9))), (a 9, .inl (cI, ro, .inl (K 10)))]) (w1 := [(a 6, .inr (0, [.ref (a 7), .ref (a 8), .ref (a 9), .int (K 7 0)])), (a 7, .inl (cI, ro, .inl (K 8))), (a 8, .inl (cI, ro, .inl (K 9))), (a 9, .inl (cI, ro, .inl (K 10)))]) (va_runVN (C := RX0) (b := a 6) (As := []) (rest := []) ⟨hx, hb, hml, hown, hg⟩ (c_bu_isFull l D cI cZ cR a ro K hh hb1 hro s.heap.size) ⟨va_cnB 0 hg (bg_gi (fun _ h => h) bw_1_140) rfl rfl rfl (hN _ ne_2) (hg _ bw_1_4) (by decide +kernel) ⟨Nat.le_of_ble_eq_true rfl, Nat.le_of_ble_eq_true rfl⟩, (hg _ bw_1_139), (hg _ bw_s_4)⟩ (me_preV (wc := [(a 6, .inr (0, [.ref (a 7), .ref (a 8), .ref (a 9), .int (K 7 0)])), (a 7, .inl (cI, ro, .inl (K 8))), (a 8, .inl (cI, ro, .inl (K 9))), (a 9, .inl (cI, ro, .inl (K 10)))]) hP hD hK hN [6, 7, 8, 9] rfl (by decide) (va_recv (q0 := 6) (ci := 0) hK hP rfl rfl)) rfl rfl hl.1 rfl (lv_room (Nat.le_of_ble_eq_true rfl)) dX1_mustWait_48 ⟨Nat.zero_le _, Nat.zero_le _⟩) hP hD hS hA [6, 7, 8, 9] [0, 1, 2, 3, 4, 5] rfl rfl (by decide) (by decide) (fun H locs hP hD hS => ?_)
    have hP : va_P D vwCl [(a 0, .inr (1, [.ref (a 1), .ref (a 2), .ref (a 3), .ref (a 4), .ref (a 5), .ref (a 6), .int (K 5 0), .int (K 6 0)])), (a 1, .inl (cI, 4, .inl (K 4))), (a 2, .inl (cI, 24, .inl (K 0))), (a 3, .inl (cI, 24, .inl (K 1))), (a 4, .inl (cI, 24, .inl (K 2))), (a 5, .inl (cI, 24, .inl (K 3))), (a 6, .inr (0, [.ref (a 7), .ref (a 8), .ref (a 9), .int (K 7 0)])), (a 7, .inl (cI, ro, .inl (K 8))), (a 8, .inl (cI, ro, .inl (K 9))), (a 9, .inl (cI, ro, .inl (K 10)))] H := hP
    have hD : va_D A [(a 0, .inr (1, [.ref (a 1), .ref (a 2), .ref (a 3), .ref (a 4), .ref (a 5), .ref (a 6), .int (K 5 0), .int (K 6 0)])), (a 1, .inl (cI, 4, .inl (K 4))), (a 2, .inl (cI, 24, .inl (K 0))), (a 3, .inl (cI, 24, .inl (K 1))), (a 4, .inl (cI, 24, .inl (K 2))), (a 5, .inl (cI, 24, .inl (K 3))), (a 6, .inr (0, [.ref (a 7), .ref (a 8), .ref (a 9), .int (K 7 0)])), (a 7, .inl (cI, ro, .inl (K 8))), (a 8, .inl (cI, ro, .inl (K 9))), (a 9, .inl (cI, ro, .inl (K 10)))] := hD
    have hP9 := me_subP (ws' := [(a 0, .inr (1, [.ref (a 1), .ref (a 2), .ref (a 3), .ref (a 4), .ref (a 5), .ref (a 6), .int (K 5 0), .int (K 6 0)])), (a 1, .inl (cI, 4, .inl (K 4))), (a 2, .inl (cI, 24, .inl (K 0))), (a 3, .inl (cI, 24, .inl (K 1))), (a 4, .inl (cI, 24, .inl (K 2))), (a 5, .inl (cI, 24, .inl (K 3))), (a 6, .inr (0, [.ref (a 7), .ref (a 8), .ref (a 9), .int (K 7 0)])), (a 7, .inl (cI, ro, .inl (K 8))), (a 8, .inl (cI, ro, .inl (K 9))), (a 9, .inl (cI, ro, .inl (K 10)))]) hP [0, 1, 2, 3, 4, 5, 6, 7, 8, 9] rfl
    have hD9 := hD.sub (ws' := [(a 0, .inr (1, [.ref (a 1), .ref (a 2), .ref (a 3), .ref (a 4), .ref (a 5), .ref (a 6), .int (K 5 0), .int (K 6 0)])), (a 1, .inl (cI, 4, .inl (K 4))), (a 2, .inl (cI, 24, .inl (K 0))), (a 3, .inl (cI, 24, .inl (K 1))), (a 4, .inl (cI, 24, .inl (K 2))), (a 5, .inl (cI, 24, .inl (K 3))), (a 6, .inr (0, [.ref (a 7), .ref (a 8), .ref (a 9), .int (K 7 0)])), (a 7, .inl (cI, ro, .inl (K 8))), (a 8, .inl (cI, ro, .inl (K 9))), (a 9, .inl (cI, ro, .inl (K 10)))]) [0, 1, 2, 3, 4, 5, 6, 7, 8, 9] (by decide) rfl
    exact me_retZ hx hb hr hlk hK hS dX1_mustWait_51 (me_bn _) (congrArg me_b (propext (st_wq3 (by decide)).symm)) hP9 hD9
  · have hl : lv_has ls 2 [(0, .ref (a 0)), (1, .int (nI (4)))] := hl
    refine lv_iload_n hx hb dX1_mustWait_0 rfl (lv_at hl 1 rfl) ?_
    refine lv_tableIn (off := 67) (tgt := 68) hx hb dX1_mustWait_1 (by decide) (by decide) (by decide) (by decide) ?_
    refine lv_iconst (v := 0) hx hb dX1_mustWait_68 (by decide) ?_
    have hP9 := me_subP (ws' := [(a 0, .inr (1, [.ref (a 1), .ref (a 2), .ref (a 3), .ref (a 4), .ref (a 5), .ref (a 6), .int (K 5 0), .int (K 6 0)])), (a 1, .inl (cI, 4, .inl (K 4))), (a 2, .inl (cI, 24, .inl (K 0))), (a 3, .inl (cI, 24, .inl (K 1))), (a 4, .inl (cI, 24, .inl (K 2))), (a 5, .inl (cI, 24, .inl (K 3))), (a 6, .inr (0, [.ref (a 7), .ref (a 8), .ref (a 9), .int (K 7 0)])), (a 7, .inl (cI, ro, .inl (K 8))), (a 8, .inl (cI, ro, .inl (K 9))), (a 9, .inl (cI, ro, .inl (K 10)))]) hP [0, 1, 2, 3, 4, 5, 6, 7, 8, 9] rfl
    have hD9 := hD.sub (ws' := [(a 0, .inr (1, [.ref (a 1), .ref (a 2), .ref (a 3), .ref (a 4), .ref (a 5), .ref (a 6), .int (K 5 0), .int (K 6 0)])), (a 1, .inl (cI, 4, .inl (K 4))), (a 2, .inl (cI, 24, .inl (K 0))), (a 3, .inl (cI, 24, .inl (K 1))), (a 4, .inl (cI, 24, .inl (K 2))), (a 5, .inl (cI, 24, .inl (K 3))), (a 6, .inr (0, [.ref (a 7), .ref (a 8), .ref (a 9), .int (K 7 0)])), (a 7, .inl (cI, ro, .inl (K 8))), (a 8, .inl (cI, ro, .inl (K 9))), (a 9, .inl (cI, ro, .inl (K 10)))]) [0, 1, 2, 3, 4, 5, 6, 7, 8, 9] (by decide) rfl
    exact me_retZ hx hb hr hlk hK hS dX1_mustWait_69 (rfl) ((me_bf (st_wq0 (by decide))).symm) hP9 hD9
  · have hl : lv_has ls 2 [(0, .ref (a 0)), (1, .int (nI (5)))] := hl
    refine lv_iload_n hx hb dX1_mustWait_0 rfl (lv_at hl 1 rfl) ?_
    refine lv_tableIn (off := 51) (tgt := 52) hx hb dX1_mustWait_1 (by decide) (by decide) (by decide) (by decide) ?_
    refine lv_aload_n hx hb dX1_mustWait_52 rfl (lv_at hl 0 rfl) ?_
    refine va_get (D := D) (ci := 1) (v := .ref (a 6)) (C := RX1) (T := TX1) (N := 8) hx hb hg inX1 hown hK hP 0 rfl rfl 5 (by decide) (hg _ bw_1_73) (fun _ h9 => h9) rfl dX1_mustWait_53 ?_
    refine va_getN (D := D) (ci := 0) (v := .int (K 7 0)) (C := RX0) (T := TX0) (N := 4) hx hb hg inX0 hown hK hP 6 rfl rfl 3 (by decide) (va_Nw.use rfl (hN _ ne_3)) (fun _ h9 => h9) rfl dX1_mustWait_56 ?_
    refine me_t (x := K 7 0) (y := nI (st_h K)) (hh) ?_
    refine lv_if_le (tgt := 66) hx hb dX1_mustWait_59 (by decide) (fun b59 => ?_) (fun b59 => ?_)
    · have b59 := me_le (a := st_h K) (b := 0) (by omega) (by omega) b59
      refine lv_iconst (v := 0) hx hb dX1_mustWait_66 (by decide) ?_
      have hP9 := me_subP (ws' := [(a 0, .inr (1, [.ref (a 1), .ref (a 2), .ref (a 3), .ref (a 4), .ref (a 5), .ref (a 6), .int (K 5 0), .int (K 6 0)])), (a 1, .inl (cI, 4, .inl (K 4))), (a 2, .inl (cI, 24, .inl (K 0))), (a 3, .inl (cI, 24, .inl (K 1))), (a 4, .inl (cI, 24, .inl (K 2))), (a 5, .inl (cI, 24, .inl (K 3))), (a 6, .inr (0, [.ref (a 7), .ref (a 8), .ref (a 9), .int (K 7 0)])), (a 7, .inl (cI, ro, .inl (K 8))), (a 8, .inl (cI, ro, .inl (K 9))), (a 9, .inl (cI, ro, .inl (K 10)))]) hP [0, 1, 2, 3, 4, 5, 6, 7, 8, 9] rfl
      have hD9 := hD.sub (ws' := [(a 0, .inr (1, [.ref (a 1), .ref (a 2), .ref (a 3), .ref (a 4), .ref (a 5), .ref (a 6), .int (K 5 0), .int (K 6 0)])), (a 1, .inl (cI, 4, .inl (K 4))), (a 2, .inl (cI, 24, .inl (K 0))), (a 3, .inl (cI, 24, .inl (K 1))), (a 4, .inl (cI, 24, .inl (K 2))), (a 5, .inl (cI, 24, .inl (K 3))), (a 6, .inr (0, [.ref (a 7), .ref (a 8), .ref (a 9), .int (K 7 0)])), (a 7, .inl (cI, ro, .inl (K 8))), (a 8, .inl (cI, ro, .inl (K 9))), (a 9, .inl (cI, ro, .inl (K 10)))]) [0, 1, 2, 3, 4, 5, 6, 7, 8, 9] (by decide) rfl
      exact me_retZ hx hb hr hlk hK hS dX1_mustWait_67 (rfl) ((me_bf (fun q => absurd ((st_wq5 (by decide)).mp q) (by omega))).symm) hP9 hD9
    · have b59 := me_nle (a := st_h K) (b := 0) (by omega) (by omega) b59
      refine lv_iconst (v := 1) hx hb dX1_mustWait_62 (by decide) ?_
      refine lv_goto (tgt := 67) hx hb dX1_mustWait_63 (by decide) ?_
      have hP9 := me_subP (ws' := [(a 0, .inr (1, [.ref (a 1), .ref (a 2), .ref (a 3), .ref (a 4), .ref (a 5), .ref (a 6), .int (K 5 0), .int (K 6 0)])), (a 1, .inl (cI, 4, .inl (K 4))), (a 2, .inl (cI, 24, .inl (K 0))), (a 3, .inl (cI, 24, .inl (K 1))), (a 4, .inl (cI, 24, .inl (K 2))), (a 5, .inl (cI, 24, .inl (K 3))), (a 6, .inr (0, [.ref (a 7), .ref (a 8), .ref (a 9), .int (K 7 0)])), (a 7, .inl (cI, ro, .inl (K 8))), (a 8, .inl (cI, ro, .inl (K 9))), (a 9, .inl (cI, ro, .inl (K 10)))]) hP [0, 1, 2, 3, 4, 5, 6, 7, 8, 9] rfl
      have hD9 := hD.sub (ws' := [(a 0, .inr (1, [.ref (a 1), .ref (a 2), .ref (a 3), .ref (a 4), .ref (a 5), .ref (a 6), .int (K 5 0), .int (K 6 0)])), (a 1, .inl (cI, 4, .inl (K 4))), (a 2, .inl (cI, 24, .inl (K 0))), (a 3, .inl (cI, 24, .inl (K 1))), (a 4, .inl (cI, 24, .inl (K 2))), (a 5, .inl (cI, 24, .inl (K 3))), (a 6, .inr (0, [.ref (a 7), .ref (a 8), .ref (a 9), .int (K 7 0)])), (a 7, .inl (cI, ro, .inl (K 8))), (a 8, .inl (cI, ro, .inl (K 9))), (a 9, .inl (cI, ro, .inl (K 10)))]) [0, 1, 2, 3, 4, 5, 6, 7, 8, 9] (by decide) rfl
      exact me_retZ hx hb hr hlk hK hS dX1_mustWait_67 (rfl) ((me_bt ((st_wq5 (by decide)).mpr b59)).symm) hP9 hD9
  · have hl : lv_has ls 2 [(0, .ref (a 0)), (1, .int (nI (6)))] := hl
    refine lv_iload_n hx hb dX1_mustWait_0 rfl (lv_at hl 1 rfl) ?_
    refine lv_tableIn (off := 51) (tgt := 52) hx hb dX1_mustWait_1 (by decide) (by decide) (by decide) (by decide) ?_
    refine lv_aload_n hx hb dX1_mustWait_52 rfl (lv_at hl 0 rfl) ?_
    refine va_get (D := D) (ci := 1) (v := .ref (a 6)) (C := RX1) (T := TX1) (N := 8) hx hb hg inX1 hown hK hP 0 rfl rfl 5 (by decide) (hg _ bw_1_73) (fun _ h9 => h9) rfl dX1_mustWait_53 ?_
    refine va_getN (D := D) (ci := 0) (v := .int (K 7 0)) (C := RX0) (T := TX0) (N := 4) hx hb hg inX0 hown hK hP 6 rfl rfl 3 (by decide) (va_Nw.use rfl (hN _ ne_3)) (fun _ h9 => h9) rfl dX1_mustWait_56 ?_
    refine me_t (x := K 7 0) (y := nI (st_h K)) (hh) ?_
    refine lv_if_le (tgt := 66) hx hb dX1_mustWait_59 (by decide) (fun b59 => ?_) (fun b59 => ?_)
    · have b59 := me_le (a := st_h K) (b := 0) (by omega) (by omega) b59
      refine lv_iconst (v := 0) hx hb dX1_mustWait_66 (by decide) ?_
      have hP9 := me_subP (ws' := [(a 0, .inr (1, [.ref (a 1), .ref (a 2), .ref (a 3), .ref (a 4), .ref (a 5), .ref (a 6), .int (K 5 0), .int (K 6 0)])), (a 1, .inl (cI, 4, .inl (K 4))), (a 2, .inl (cI, 24, .inl (K 0))), (a 3, .inl (cI, 24, .inl (K 1))), (a 4, .inl (cI, 24, .inl (K 2))), (a 5, .inl (cI, 24, .inl (K 3))), (a 6, .inr (0, [.ref (a 7), .ref (a 8), .ref (a 9), .int (K 7 0)])), (a 7, .inl (cI, ro, .inl (K 8))), (a 8, .inl (cI, ro, .inl (K 9))), (a 9, .inl (cI, ro, .inl (K 10)))]) hP [0, 1, 2, 3, 4, 5, 6, 7, 8, 9] rfl
      have hD9 := hD.sub (ws' := [(a 0, .inr (1, [.ref (a 1), .ref (a 2), .ref (a 3), .ref (a 4), .ref (a 5), .ref (a 6), .int (K 5 0), .int (K 6 0)])), (a 1, .inl (cI, 4, .inl (K 4))), (a 2, .inl (cI, 24, .inl (K 0))), (a 3, .inl (cI, 24, .inl (K 1))), (a 4, .inl (cI, 24, .inl (K 2))), (a 5, .inl (cI, 24, .inl (K 3))), (a 6, .inr (0, [.ref (a 7), .ref (a 8), .ref (a 9), .int (K 7 0)])), (a 7, .inl (cI, ro, .inl (K 8))), (a 8, .inl (cI, ro, .inl (K 9))), (a 9, .inl (cI, ro, .inl (K 10)))]) [0, 1, 2, 3, 4, 5, 6, 7, 8, 9] (by decide) rfl
      exact me_retZ hx hb hr hlk hK hS dX1_mustWait_67 (rfl) ((me_bf (fun q => absurd ((st_wq5 (by decide)).mp q) (by omega))).symm) hP9 hD9
    · have b59 := me_nle (a := st_h K) (b := 0) (by omega) (by omega) b59
      refine lv_iconst (v := 1) hx hb dX1_mustWait_62 (by decide) ?_
      refine lv_goto (tgt := 67) hx hb dX1_mustWait_63 (by decide) ?_
      have hP9 := me_subP (ws' := [(a 0, .inr (1, [.ref (a 1), .ref (a 2), .ref (a 3), .ref (a 4), .ref (a 5), .ref (a 6), .int (K 5 0), .int (K 6 0)])), (a 1, .inl (cI, 4, .inl (K 4))), (a 2, .inl (cI, 24, .inl (K 0))), (a 3, .inl (cI, 24, .inl (K 1))), (a 4, .inl (cI, 24, .inl (K 2))), (a 5, .inl (cI, 24, .inl (K 3))), (a 6, .inr (0, [.ref (a 7), .ref (a 8), .ref (a 9), .int (K 7 0)])), (a 7, .inl (cI, ro, .inl (K 8))), (a 8, .inl (cI, ro, .inl (K 9))), (a 9, .inl (cI, ro, .inl (K 10)))]) hP [0, 1, 2, 3, 4, 5, 6, 7, 8, 9] rfl
      have hD9 := hD.sub (ws' := [(a 0, .inr (1, [.ref (a 1), .ref (a 2), .ref (a 3), .ref (a 4), .ref (a 5), .ref (a 6), .int (K 5 0), .int (K 6 0)])), (a 1, .inl (cI, 4, .inl (K 4))), (a 2, .inl (cI, 24, .inl (K 0))), (a 3, .inl (cI, 24, .inl (K 1))), (a 4, .inl (cI, 24, .inl (K 2))), (a 5, .inl (cI, 24, .inl (K 3))), (a 6, .inr (0, [.ref (a 7), .ref (a 8), .ref (a 9), .int (K 7 0)])), (a 7, .inl (cI, ro, .inl (K 8))), (a 8, .inl (cI, ro, .inl (K 9))), (a 9, .inl (cI, ro, .inl (K 10)))]) [0, 1, 2, 3, 4, 5, 6, 7, 8, 9] (by decide) rfl
      exact me_retZ hx hb hr hlk hK hS dX1_mustWait_67 (rfl) ((me_bt ((st_wq5 (by decide)).mpr b59)).symm) hP9 hD9
  · have hl : lv_has ls 2 [(0, .ref (a 0)), (1, .int (nI (7)))] := hl
    refine lv_iload_n hx hb dX1_mustWait_0 rfl (lv_at hl 1 rfl) ?_
    refine lv_tableIn (off := 43) (tgt := 44) hx hb dX1_mustWait_1 (by decide) (by decide) (by decide) (by decide) ?_
    refine lv_aload_n hx hb dX1_mustWait_44 rfl (lv_at hl 0 rfl) ?_
    refine va_get (D := D) (ci := 1) (v := .ref (a 6)) (C := RX1) (T := TX1) (N := 8) hx hb hg inX1 hown hK hP 0 rfl rfl 5 (by decide) (hg _ bw_1_73) (fun _ h9 => h9) rfl dX1_mustWait_45 ?_
    refine me_goI (wr := [(a 0, .inr (1, [.ref (a 1), .ref (a 2), .ref (a 3), .ref (a 4), .ref (a 5), .ref (a 6), .int (K 5 0), .int (K 6 0)])), (a 1, .inl (cI, 4, .inl (K 4))), (a 2, .inl (cI, 24, .inl (K 0))), (a 3, .inl (cI, 24, .inl (K 1))), (a 4, .inl (cI, 24, .inl (K 2))), (a 5, .inl (cI, 24, .inl (K 3)))]) (wc := [(a 6, .inr (0, [.ref (a 7), .ref (a 8), .ref (a 9), .int (K 7 0)])), (a 7, .inl (cI, ro, .inl (K 8))), (a 8, .inl (cI, ro, .inl (K 9))), (a 9, .inl (cI, ro, .inl (K 10)))]) (w1 := [(a 6, .inr (0, [.ref (a 7), .ref (a 8), .ref (a 9), .int (K 7 0)])), (a 7, .inl (cI, ro, .inl (K 8))), (a 8, .inl (cI, ro, .inl (K 9))), (a 9, .inl (cI, ro, .inl (K 10)))]) (va_runVN (C := RX0) (b := a 6) (As := []) (rest := []) ⟨hx, hb, hml, hown, hg⟩ (c_bu_isFull l D cI cZ cR a ro K hh hb1 hro s.heap.size) ⟨va_cnB 0 hg (bg_gi (fun _ h => h) bw_1_140) rfl rfl rfl (hN _ ne_2) (hg _ bw_1_4) (by decide +kernel) ⟨Nat.le_of_ble_eq_true rfl, Nat.le_of_ble_eq_true rfl⟩, (hg _ bw_1_139), (hg _ bw_s_4)⟩ (me_preV (wc := [(a 6, .inr (0, [.ref (a 7), .ref (a 8), .ref (a 9), .int (K 7 0)])), (a 7, .inl (cI, ro, .inl (K 8))), (a 8, .inl (cI, ro, .inl (K 9))), (a 9, .inl (cI, ro, .inl (K 10)))]) hP hD hK hN [6, 7, 8, 9] rfl (by decide) (va_recv (q0 := 6) (ci := 0) hK hP rfl rfl)) rfl rfl hl.1 rfl (lv_room (Nat.le_of_ble_eq_true rfl)) dX1_mustWait_48 ⟨Nat.zero_le _, Nat.zero_le _⟩) hP hD hS hA [6, 7, 8, 9] [0, 1, 2, 3, 4, 5] rfl rfl (by decide) (by decide) (fun H locs hP hD hS => ?_)
    have hP : va_P D vwCl [(a 0, .inr (1, [.ref (a 1), .ref (a 2), .ref (a 3), .ref (a 4), .ref (a 5), .ref (a 6), .int (K 5 0), .int (K 6 0)])), (a 1, .inl (cI, 4, .inl (K 4))), (a 2, .inl (cI, 24, .inl (K 0))), (a 3, .inl (cI, 24, .inl (K 1))), (a 4, .inl (cI, 24, .inl (K 2))), (a 5, .inl (cI, 24, .inl (K 3))), (a 6, .inr (0, [.ref (a 7), .ref (a 8), .ref (a 9), .int (K 7 0)])), (a 7, .inl (cI, ro, .inl (K 8))), (a 8, .inl (cI, ro, .inl (K 9))), (a 9, .inl (cI, ro, .inl (K 10)))] H := hP
    have hD : va_D A [(a 0, .inr (1, [.ref (a 1), .ref (a 2), .ref (a 3), .ref (a 4), .ref (a 5), .ref (a 6), .int (K 5 0), .int (K 6 0)])), (a 1, .inl (cI, 4, .inl (K 4))), (a 2, .inl (cI, 24, .inl (K 0))), (a 3, .inl (cI, 24, .inl (K 1))), (a 4, .inl (cI, 24, .inl (K 2))), (a 5, .inl (cI, 24, .inl (K 3))), (a 6, .inr (0, [.ref (a 7), .ref (a 8), .ref (a 9), .int (K 7 0)])), (a 7, .inl (cI, ro, .inl (K 8))), (a 8, .inl (cI, ro, .inl (K 9))), (a 9, .inl (cI, ro, .inl (K 10)))] := hD
    have hP9 := me_subP (ws' := [(a 0, .inr (1, [.ref (a 1), .ref (a 2), .ref (a 3), .ref (a 4), .ref (a 5), .ref (a 6), .int (K 5 0), .int (K 6 0)])), (a 1, .inl (cI, 4, .inl (K 4))), (a 2, .inl (cI, 24, .inl (K 0))), (a 3, .inl (cI, 24, .inl (K 1))), (a 4, .inl (cI, 24, .inl (K 2))), (a 5, .inl (cI, 24, .inl (K 3))), (a 6, .inr (0, [.ref (a 7), .ref (a 8), .ref (a 9), .int (K 7 0)])), (a 7, .inl (cI, ro, .inl (K 8))), (a 8, .inl (cI, ro, .inl (K 9))), (a 9, .inl (cI, ro, .inl (K 10)))]) hP [0, 1, 2, 3, 4, 5, 6, 7, 8, 9] rfl
    have hD9 := hD.sub (ws' := [(a 0, .inr (1, [.ref (a 1), .ref (a 2), .ref (a 3), .ref (a 4), .ref (a 5), .ref (a 6), .int (K 5 0), .int (K 6 0)])), (a 1, .inl (cI, 4, .inl (K 4))), (a 2, .inl (cI, 24, .inl (K 0))), (a 3, .inl (cI, 24, .inl (K 1))), (a 4, .inl (cI, 24, .inl (K 2))), (a 5, .inl (cI, 24, .inl (K 3))), (a 6, .inr (0, [.ref (a 7), .ref (a 8), .ref (a 9), .int (K 7 0)])), (a 7, .inl (cI, ro, .inl (K 8))), (a 8, .inl (cI, ro, .inl (K 9))), (a 9, .inl (cI, ro, .inl (K 10)))]) [0, 1, 2, 3, 4, 5, 6, 7, 8, 9] (by decide) rfl
    exact me_retZ hx hb hr hlk hK hS dX1_mustWait_51 (me_bn _) (congrArg me_b (propext (st_wq3 (by decide)).symm)) hP9 hD9
  · have hl : lv_has ls 2 [(0, .ref (a 0)), (1, .int (nI (8)))] := hl
    refine lv_iload_n hx hb dX1_mustWait_0 rfl (lv_at hl 1 rfl) ?_
    refine lv_tableIn (off := 43) (tgt := 44) hx hb dX1_mustWait_1 (by decide) (by decide) (by decide) (by decide) ?_
    refine lv_aload_n hx hb dX1_mustWait_44 rfl (lv_at hl 0 rfl) ?_
    refine va_get (D := D) (ci := 1) (v := .ref (a 6)) (C := RX1) (T := TX1) (N := 8) hx hb hg inX1 hown hK hP 0 rfl rfl 5 (by decide) (hg _ bw_1_73) (fun _ h9 => h9) rfl dX1_mustWait_45 ?_
    refine me_goI (wr := [(a 0, .inr (1, [.ref (a 1), .ref (a 2), .ref (a 3), .ref (a 4), .ref (a 5), .ref (a 6), .int (K 5 0), .int (K 6 0)])), (a 1, .inl (cI, 4, .inl (K 4))), (a 2, .inl (cI, 24, .inl (K 0))), (a 3, .inl (cI, 24, .inl (K 1))), (a 4, .inl (cI, 24, .inl (K 2))), (a 5, .inl (cI, 24, .inl (K 3)))]) (wc := [(a 6, .inr (0, [.ref (a 7), .ref (a 8), .ref (a 9), .int (K 7 0)])), (a 7, .inl (cI, ro, .inl (K 8))), (a 8, .inl (cI, ro, .inl (K 9))), (a 9, .inl (cI, ro, .inl (K 10)))]) (w1 := [(a 6, .inr (0, [.ref (a 7), .ref (a 8), .ref (a 9), .int (K 7 0)])), (a 7, .inl (cI, ro, .inl (K 8))), (a 8, .inl (cI, ro, .inl (K 9))), (a 9, .inl (cI, ro, .inl (K 10)))]) (va_runVN (C := RX0) (b := a 6) (As := []) (rest := []) ⟨hx, hb, hml, hown, hg⟩ (c_bu_isFull l D cI cZ cR a ro K hh hb1 hro s.heap.size) ⟨va_cnB 0 hg (bg_gi (fun _ h => h) bw_1_140) rfl rfl rfl (hN _ ne_2) (hg _ bw_1_4) (by decide +kernel) ⟨Nat.le_of_ble_eq_true rfl, Nat.le_of_ble_eq_true rfl⟩, (hg _ bw_1_139), (hg _ bw_s_4)⟩ (me_preV (wc := [(a 6, .inr (0, [.ref (a 7), .ref (a 8), .ref (a 9), .int (K 7 0)])), (a 7, .inl (cI, ro, .inl (K 8))), (a 8, .inl (cI, ro, .inl (K 9))), (a 9, .inl (cI, ro, .inl (K 10)))]) hP hD hK hN [6, 7, 8, 9] rfl (by decide) (va_recv (q0 := 6) (ci := 0) hK hP rfl rfl)) rfl rfl hl.1 rfl (lv_room (Nat.le_of_ble_eq_true rfl)) dX1_mustWait_48 ⟨Nat.zero_le _, Nat.zero_le _⟩) hP hD hS hA [6, 7, 8, 9] [0, 1, 2, 3, 4, 5] rfl rfl (by decide) (by decide) (fun H locs hP hD hS => ?_)
    have hP : va_P D vwCl [(a 0, .inr (1, [.ref (a 1), .ref (a 2), .ref (a 3), .ref (a 4), .ref (a 5), .ref (a 6), .int (K 5 0), .int (K 6 0)])), (a 1, .inl (cI, 4, .inl (K 4))), (a 2, .inl (cI, 24, .inl (K 0))), (a 3, .inl (cI, 24, .inl (K 1))), (a 4, .inl (cI, 24, .inl (K 2))), (a 5, .inl (cI, 24, .inl (K 3))), (a 6, .inr (0, [.ref (a 7), .ref (a 8), .ref (a 9), .int (K 7 0)])), (a 7, .inl (cI, ro, .inl (K 8))), (a 8, .inl (cI, ro, .inl (K 9))), (a 9, .inl (cI, ro, .inl (K 10)))] H := hP
    have hD : va_D A [(a 0, .inr (1, [.ref (a 1), .ref (a 2), .ref (a 3), .ref (a 4), .ref (a 5), .ref (a 6), .int (K 5 0), .int (K 6 0)])), (a 1, .inl (cI, 4, .inl (K 4))), (a 2, .inl (cI, 24, .inl (K 0))), (a 3, .inl (cI, 24, .inl (K 1))), (a 4, .inl (cI, 24, .inl (K 2))), (a 5, .inl (cI, 24, .inl (K 3))), (a 6, .inr (0, [.ref (a 7), .ref (a 8), .ref (a 9), .int (K 7 0)])), (a 7, .inl (cI, ro, .inl (K 8))), (a 8, .inl (cI, ro, .inl (K 9))), (a 9, .inl (cI, ro, .inl (K 10)))] := hD
    have hP9 := me_subP (ws' := [(a 0, .inr (1, [.ref (a 1), .ref (a 2), .ref (a 3), .ref (a 4), .ref (a 5), .ref (a 6), .int (K 5 0), .int (K 6 0)])), (a 1, .inl (cI, 4, .inl (K 4))), (a 2, .inl (cI, 24, .inl (K 0))), (a 3, .inl (cI, 24, .inl (K 1))), (a 4, .inl (cI, 24, .inl (K 2))), (a 5, .inl (cI, 24, .inl (K 3))), (a 6, .inr (0, [.ref (a 7), .ref (a 8), .ref (a 9), .int (K 7 0)])), (a 7, .inl (cI, ro, .inl (K 8))), (a 8, .inl (cI, ro, .inl (K 9))), (a 9, .inl (cI, ro, .inl (K 10)))]) hP [0, 1, 2, 3, 4, 5, 6, 7, 8, 9] rfl
    have hD9 := hD.sub (ws' := [(a 0, .inr (1, [.ref (a 1), .ref (a 2), .ref (a 3), .ref (a 4), .ref (a 5), .ref (a 6), .int (K 5 0), .int (K 6 0)])), (a 1, .inl (cI, 4, .inl (K 4))), (a 2, .inl (cI, 24, .inl (K 0))), (a 3, .inl (cI, 24, .inl (K 1))), (a 4, .inl (cI, 24, .inl (K 2))), (a 5, .inl (cI, 24, .inl (K 3))), (a 6, .inr (0, [.ref (a 7), .ref (a 8), .ref (a 9), .int (K 7 0)])), (a 7, .inl (cI, ro, .inl (K 8))), (a 8, .inl (cI, ro, .inl (K 9))), (a 9, .inl (cI, ro, .inl (K 10)))]) [0, 1, 2, 3, 4, 5, 6, 7, 8, 9] (by decide) rfl
    exact me_retZ hx hb hr hlk hK hS dX1_mustWait_51 (me_bn _) (congrArg me_b (propext (st_wq3 (by decide)).symm)) hP9 hD9
  · have hl : lv_has ls 2 [(0, .ref (a 0)), (1, .int (nI (9)))] := hl
    refine lv_iload_n hx hb dX1_mustWait_0 rfl (lv_at hl 1 rfl) ?_
    refine lv_tableIn (off := 43) (tgt := 44) hx hb dX1_mustWait_1 (by decide) (by decide) (by decide) (by decide) ?_
    refine lv_aload_n hx hb dX1_mustWait_44 rfl (lv_at hl 0 rfl) ?_
    refine va_get (D := D) (ci := 1) (v := .ref (a 6)) (C := RX1) (T := TX1) (N := 8) hx hb hg inX1 hown hK hP 0 rfl rfl 5 (by decide) (hg _ bw_1_73) (fun _ h9 => h9) rfl dX1_mustWait_45 ?_
    refine me_goI (wr := [(a 0, .inr (1, [.ref (a 1), .ref (a 2), .ref (a 3), .ref (a 4), .ref (a 5), .ref (a 6), .int (K 5 0), .int (K 6 0)])), (a 1, .inl (cI, 4, .inl (K 4))), (a 2, .inl (cI, 24, .inl (K 0))), (a 3, .inl (cI, 24, .inl (K 1))), (a 4, .inl (cI, 24, .inl (K 2))), (a 5, .inl (cI, 24, .inl (K 3)))]) (wc := [(a 6, .inr (0, [.ref (a 7), .ref (a 8), .ref (a 9), .int (K 7 0)])), (a 7, .inl (cI, ro, .inl (K 8))), (a 8, .inl (cI, ro, .inl (K 9))), (a 9, .inl (cI, ro, .inl (K 10)))]) (w1 := [(a 6, .inr (0, [.ref (a 7), .ref (a 8), .ref (a 9), .int (K 7 0)])), (a 7, .inl (cI, ro, .inl (K 8))), (a 8, .inl (cI, ro, .inl (K 9))), (a 9, .inl (cI, ro, .inl (K 10)))]) (va_runVN (C := RX0) (b := a 6) (As := []) (rest := []) ⟨hx, hb, hml, hown, hg⟩ (c_bu_isFull l D cI cZ cR a ro K hh hb1 hro s.heap.size) ⟨va_cnB 0 hg (bg_gi (fun _ h => h) bw_1_140) rfl rfl rfl (hN _ ne_2) (hg _ bw_1_4) (by decide +kernel) ⟨Nat.le_of_ble_eq_true rfl, Nat.le_of_ble_eq_true rfl⟩, (hg _ bw_1_139), (hg _ bw_s_4)⟩ (me_preV (wc := [(a 6, .inr (0, [.ref (a 7), .ref (a 8), .ref (a 9), .int (K 7 0)])), (a 7, .inl (cI, ro, .inl (K 8))), (a 8, .inl (cI, ro, .inl (K 9))), (a 9, .inl (cI, ro, .inl (K 10)))]) hP hD hK hN [6, 7, 8, 9] rfl (by decide) (va_recv (q0 := 6) (ci := 0) hK hP rfl rfl)) rfl rfl hl.1 rfl (lv_room (Nat.le_of_ble_eq_true rfl)) dX1_mustWait_48 ⟨Nat.zero_le _, Nat.zero_le _⟩) hP hD hS hA [6, 7, 8, 9] [0, 1, 2, 3, 4, 5] rfl rfl (by decide) (by decide) (fun H locs hP hD hS => ?_)
    have hP : va_P D vwCl [(a 0, .inr (1, [.ref (a 1), .ref (a 2), .ref (a 3), .ref (a 4), .ref (a 5), .ref (a 6), .int (K 5 0), .int (K 6 0)])), (a 1, .inl (cI, 4, .inl (K 4))), (a 2, .inl (cI, 24, .inl (K 0))), (a 3, .inl (cI, 24, .inl (K 1))), (a 4, .inl (cI, 24, .inl (K 2))), (a 5, .inl (cI, 24, .inl (K 3))), (a 6, .inr (0, [.ref (a 7), .ref (a 8), .ref (a 9), .int (K 7 0)])), (a 7, .inl (cI, ro, .inl (K 8))), (a 8, .inl (cI, ro, .inl (K 9))), (a 9, .inl (cI, ro, .inl (K 10)))] H := hP
    have hD : va_D A [(a 0, .inr (1, [.ref (a 1), .ref (a 2), .ref (a 3), .ref (a 4), .ref (a 5), .ref (a 6), .int (K 5 0), .int (K 6 0)])), (a 1, .inl (cI, 4, .inl (K 4))), (a 2, .inl (cI, 24, .inl (K 0))), (a 3, .inl (cI, 24, .inl (K 1))), (a 4, .inl (cI, 24, .inl (K 2))), (a 5, .inl (cI, 24, .inl (K 3))), (a 6, .inr (0, [.ref (a 7), .ref (a 8), .ref (a 9), .int (K 7 0)])), (a 7, .inl (cI, ro, .inl (K 8))), (a 8, .inl (cI, ro, .inl (K 9))), (a 9, .inl (cI, ro, .inl (K 10)))] := hD
    have hP9 := me_subP (ws' := [(a 0, .inr (1, [.ref (a 1), .ref (a 2), .ref (a 3), .ref (a 4), .ref (a 5), .ref (a 6), .int (K 5 0), .int (K 6 0)])), (a 1, .inl (cI, 4, .inl (K 4))), (a 2, .inl (cI, 24, .inl (K 0))), (a 3, .inl (cI, 24, .inl (K 1))), (a 4, .inl (cI, 24, .inl (K 2))), (a 5, .inl (cI, 24, .inl (K 3))), (a 6, .inr (0, [.ref (a 7), .ref (a 8), .ref (a 9), .int (K 7 0)])), (a 7, .inl (cI, ro, .inl (K 8))), (a 8, .inl (cI, ro, .inl (K 9))), (a 9, .inl (cI, ro, .inl (K 10)))]) hP [0, 1, 2, 3, 4, 5, 6, 7, 8, 9] rfl
    have hD9 := hD.sub (ws' := [(a 0, .inr (1, [.ref (a 1), .ref (a 2), .ref (a 3), .ref (a 4), .ref (a 5), .ref (a 6), .int (K 5 0), .int (K 6 0)])), (a 1, .inl (cI, 4, .inl (K 4))), (a 2, .inl (cI, 24, .inl (K 0))), (a 3, .inl (cI, 24, .inl (K 1))), (a 4, .inl (cI, 24, .inl (K 2))), (a 5, .inl (cI, 24, .inl (K 3))), (a 6, .inr (0, [.ref (a 7), .ref (a 8), .ref (a 9), .int (K 7 0)])), (a 7, .inl (cI, ro, .inl (K 8))), (a 8, .inl (cI, ro, .inl (K 9))), (a 9, .inl (cI, ro, .inl (K 10)))]) [0, 1, 2, 3, 4, 5, 6, 7, 8, 9] (by decide) rfl
    exact me_retZ hx hb hr hlk hK hS dX1_mustWait_51 (me_bn _) (congrArg me_b (propext (st_wq3 (by decide)).symm)) hP9 hD9
  · have hl : lv_has ls 2 [(0, .ref (a 0)), (1, .int (nI (10)))] := hl
    refine lv_iload_n hx hb dX1_mustWait_0 rfl (lv_at hl 1 rfl) ?_
    refine lv_tableOut (tgt := 68) hx hb dX1_mustWait_1 (by decide) (by decide) ?_
    refine lv_iconst (v := 0) hx hb dX1_mustWait_68 (by decide) ?_
    have hP9 := me_subP (ws' := [(a 0, .inr (1, [.ref (a 1), .ref (a 2), .ref (a 3), .ref (a 4), .ref (a 5), .ref (a 6), .int (K 5 0), .int (K 6 0)])), (a 1, .inl (cI, 4, .inl (K 4))), (a 2, .inl (cI, 24, .inl (K 0))), (a 3, .inl (cI, 24, .inl (K 1))), (a 4, .inl (cI, 24, .inl (K 2))), (a 5, .inl (cI, 24, .inl (K 3))), (a 6, .inr (0, [.ref (a 7), .ref (a 8), .ref (a 9), .int (K 7 0)])), (a 7, .inl (cI, ro, .inl (K 8))), (a 8, .inl (cI, ro, .inl (K 9))), (a 9, .inl (cI, ro, .inl (K 10)))]) hP [0, 1, 2, 3, 4, 5, 6, 7, 8, 9] rfl
    have hD9 := hD.sub (ws' := [(a 0, .inr (1, [.ref (a 1), .ref (a 2), .ref (a 3), .ref (a 4), .ref (a 5), .ref (a 6), .int (K 5 0), .int (K 6 0)])), (a 1, .inl (cI, 4, .inl (K 4))), (a 2, .inl (cI, 24, .inl (K 0))), (a 3, .inl (cI, 24, .inl (K 1))), (a 4, .inl (cI, 24, .inl (K 2))), (a 5, .inl (cI, 24, .inl (K 3))), (a 6, .inr (0, [.ref (a 7), .ref (a 8), .ref (a 9), .int (K 7 0)])), (a 7, .inl (cI, ro, .inl (K 8))), (a 8, .inl (cI, ro, .inl (K 9))), (a 9, .inl (cI, ro, .inl (K 10)))]) [0, 1, 2, 3, 4, 5, 6, 7, 8, 9] (by decide) rfl
    exact me_retZ hx hb hr hlk hK hS dX1_mustWait_69 (rfl) ((me_bf (st_wq0 (by decide))).symm) hP9 hD9
set_option maxHeartbeats 4000000 in
set_option maxRecDepth 100000 in
theorem c_co_nextPlace (l : Launch) (D : va_G) (cI cZ cR : ClassId) (a : Nat → Nat) (K : st_T) (hp : K 5 0 = nI (st_p K)) (hp1 : st_p K < 24) (hX : K 1 (st_p K) = nI (st_x K)) (hX1 : st_x K < 4) : me_I l yX1_nextPlace wsX1_nextPlace ({ frames := 0, cells := 0, slots := 0, locals := 0 } : Room) D (me_TYS cI cZ cR) ([.ref (a 0)] : List Value) (w_co a cI K) (st_nx K) (w_co a cI K) := by
  intro sz
  refine me_ent (cc := cX1_nextPlace) (maxL := 2) (ret := (some .int)) (Qf := me_QI D (me_TYS cI cZ cR) (st_nx K) (w_co a cI K)) (by decide) rfl (Nat.le_of_ble_eq_true rfl) ?_
  intro p e s m below meth c A ls hx hb hr hml hts hown hlk hin hP hK hD hN hA hS hl
  have hown : s.vm.findClass RX1 = some m.cls := hown
  have hg : ∀ w9 ∈ bg, w9.before ([.ref (a 0)] : List Value).toArray s = true := fun w9 h9 => hts w9 (List.mem_cons_of_mem _ h9)
  have hl : lv_has ls 2 [(0, .ref (a 0))] := hl
  have hP : va_P D vwCl [(a 0, .inr (1, [.ref (a 1), .ref (a 2), .ref (a 3), .ref (a 4), .ref (a 5), .ref (a 6), .int (K 5 0), .int (K 6 0)])), (a 1, .inl (cI, 4, .inl (K 4))), (a 2, .inl (cI, 24, .inl (K 0))), (a 3, .inl (cI, 24, .inl (K 1))), (a 4, .inl (cI, 24, .inl (K 2))), (a 5, .inl (cI, 24, .inl (K 3)))] s.heap := hP
  have hD : va_D A [(a 0, .inr (1, [.ref (a 1), .ref (a 2), .ref (a 3), .ref (a 4), .ref (a 5), .ref (a 6), .int (K 5 0), .int (K 6 0)])), (a 1, .inl (cI, 4, .inl (K 4))), (a 2, .inl (cI, 24, .inl (K 0))), (a 3, .inl (cI, 24, .inl (K 1))), (a 4, .inl (cI, 24, .inl (K 2))), (a 5, .inl (cI, 24, .inl (K 3)))] := hD
  refine lv_aload_n hx hb dX1_nextPlace_0 rfl (lv_at hl 0 rfl) ?_
  refine va_get (D := D) (ci := 1) (v := .ref (a 2)) (C := RX1) (T := TX1) (N := 8) hx hb hg inX1 hown hK hP 0 rfl rfl 1 (by decide) (hg _ bw_1_69) (fun _ h9 => h9) rfl dX1_nextPlace_1 ?_
  refine lv_aload_n hx hb dX1_nextPlace_4 rfl (lv_at hl 0 rfl) ?_
  refine va_get (D := D) (ci := 1) (v := .int (K 5 0)) (C := RX1) (T := TX1) (N := 8) hx hb hg inX1 hown hK hP 0 rfl rfl 6 (by decide) (hg _ bw_1_75) (fun _ h9 => h9) rfl dX1_nextPlace_5 ?_
  refine me_t (x := K 5 0) (y := nI (st_p K)) (hp) ?_
  refine me_ild hx hb hK hP 2 0 rfl rfl (st_p K) (rfl) (by omega) (by omega) dX1_nextPlace_8 ?_
  refine lv_bipush (v := 10) hx hb dX1_nextPlace_9 (by decide) ?_
  refine lv_icmp_ne (tgt := 35) hx hb dX1_nextPlace_11 (by decide) (fun b11 => ?_) (fun b11 => ?_)
  · refine lv_iconst (v := 0) hx hb dX1_nextPlace_35 (by decide) ?_
    refine lv_istore_n hx hb dX1_nextPlace_36 rfl hl (by decide) rfl (fun ls hl => ?_)
    have hl : lv_has ls 2 [(1, .int (0)), (0, .ref (a 0))] := hl
    refine lv_iload_n hx hb dX1_nextPlace_37 rfl (lv_at hl 0 rfl) ?_
    refine lv_if_eq (tgt := 53) hx hb dX1_nextPlace_38 (by decide) (fun _ => ?_) (fun q => absurd (by decide) q)
    refine lv_aload_n hx hb dX1_nextPlace_53 rfl (lv_at hl 1 rfl) ?_
    refine va_get (D := D) (ci := 1) (v := .int (K 5 0)) (C := RX1) (T := TX1) (N := 8) hx hb hg inX1 hown hK hP 0 rfl rfl 6 (by decide) (hg _ bw_1_75) (fun _ h9 => h9) rfl dX1_nextPlace_54 ?_
    refine me_t (x := K 5 0) (y := nI (st_p K)) (hp) ?_
    refine lv_iconst (v := 1) hx hb dX1_nextPlace_57 (by decide) ?_
    refine lv_iadd hx hb dX1_nextPlace_58 ?_
    refine me_t (x := (nI (st_p K)) + 1) (y := nI (st_p K + 1)) (nI_add (st_p K) (1)) ?_
    have hP9 := me_subP (ws' := [(a 0, .inr (1, [.ref (a 1), .ref (a 2), .ref (a 3), .ref (a 4), .ref (a 5), .ref (a 6), .int (K 5 0), .int (K 6 0)])), (a 1, .inl (cI, 4, .inl (K 4))), (a 2, .inl (cI, 24, .inl (K 0))), (a 3, .inl (cI, 24, .inl (K 1))), (a 4, .inl (cI, 24, .inl (K 2))), (a 5, .inl (cI, 24, .inl (K 3)))]) hP [0, 1, 2, 3, 4, 5] rfl
    have hD9 := hD.sub (ws' := [(a 0, .inr (1, [.ref (a 1), .ref (a 2), .ref (a 3), .ref (a 4), .ref (a 5), .ref (a 6), .int (K 5 0), .int (K 6 0)])), (a 1, .inl (cI, 4, .inl (K 4))), (a 2, .inl (cI, 24, .inl (K 0))), (a 3, .inl (cI, 24, .inl (K 1))), (a 4, .inl (cI, 24, .inl (K 2))), (a 5, .inl (cI, 24, .inl (K 3)))]) [0, 1, 2, 3, 4, 5] (by decide) rfl
    exact me_retI hx hb hr hlk hK hS dX1_nextPlace_59 ((me_swf (fun q => b11 q.1)).symm) hP9 hD9
  · refine lv_aload_n hx hb dX1_nextPlace_14 rfl (lv_at hl 0 rfl) ?_
    refine va_get (D := D) (ci := 1) (v := .ref (a 1)) (C := RX1) (T := TX1) (N := 8) hx hb hg inX1 hown hK hP 0 rfl rfl 0 (by decide) (hg _ bw_1_67) (fun _ h9 => h9) rfl dX1_nextPlace_15 ?_
    refine lv_aload_n hx hb dX1_nextPlace_18 rfl (lv_at hl 0 rfl) ?_
    refine va_get (D := D) (ci := 1) (v := .ref (a 3)) (C := RX1) (T := TX1) (N := 8) hx hb hg inX1 hown hK hP 0 rfl rfl 2 (by decide) (hg _ bw_1_70) (fun _ h9 => h9) rfl dX1_nextPlace_19 ?_
    refine lv_aload_n hx hb dX1_nextPlace_22 rfl (lv_at hl 0 rfl) ?_
    refine va_get (D := D) (ci := 1) (v := .int (K 5 0)) (C := RX1) (T := TX1) (N := 8) hx hb hg inX1 hown hK hP 0 rfl rfl 6 (by decide) (hg _ bw_1_75) (fun _ h9 => h9) rfl dX1_nextPlace_23 ?_
    refine me_t (x := K 5 0) (y := nI (st_p K)) (hp) ?_
    refine me_ild hx hb hK hP 3 0 rfl rfl (st_p K) (rfl) (by omega) (by omega) dX1_nextPlace_26 ?_
    refine me_t (x := K 1 (st_p K)) (y := nI (st_x K)) (hX) ?_
    refine me_ild hx hb hK hP 1 0 rfl rfl (st_x K) (rfl) (by omega) (by omega) dX1_nextPlace_27 ?_
    refine lv_if_eq (tgt := 35) hx hb dX1_nextPlace_28 (by decide) (fun b28 => ?_) (fun b28 => ?_)
    · refine lv_iconst (v := 0) hx hb dX1_nextPlace_35 (by decide) ?_
      refine lv_istore_n hx hb dX1_nextPlace_36 rfl hl (by decide) rfl (fun ls hl => ?_)
      have hl : lv_has ls 2 [(1, .int (0)), (0, .ref (a 0))] := hl
      refine lv_iload_n hx hb dX1_nextPlace_37 rfl (lv_at hl 0 rfl) ?_
      refine lv_if_eq (tgt := 53) hx hb dX1_nextPlace_38 (by decide) (fun _ => ?_) (fun q => absurd (by decide) q)
      refine lv_aload_n hx hb dX1_nextPlace_53 rfl (lv_at hl 1 rfl) ?_
      refine va_get (D := D) (ci := 1) (v := .int (K 5 0)) (C := RX1) (T := TX1) (N := 8) hx hb hg inX1 hown hK hP 0 rfl rfl 6 (by decide) (hg _ bw_1_75) (fun _ h9 => h9) rfl dX1_nextPlace_54 ?_
      refine me_t (x := K 5 0) (y := nI (st_p K)) (hp) ?_
      refine lv_iconst (v := 1) hx hb dX1_nextPlace_57 (by decide) ?_
      refine lv_iadd hx hb dX1_nextPlace_58 ?_
      refine me_t (x := (nI (st_p K)) + 1) (y := nI (st_p K + 1)) (nI_add (st_p K) (1)) ?_
      have hP9 := me_subP (ws' := [(a 0, .inr (1, [.ref (a 1), .ref (a 2), .ref (a 3), .ref (a 4), .ref (a 5), .ref (a 6), .int (K 5 0), .int (K 6 0)])), (a 1, .inl (cI, 4, .inl (K 4))), (a 2, .inl (cI, 24, .inl (K 0))), (a 3, .inl (cI, 24, .inl (K 1))), (a 4, .inl (cI, 24, .inl (K 2))), (a 5, .inl (cI, 24, .inl (K 3)))]) hP [0, 1, 2, 3, 4, 5] rfl
      have hD9 := hD.sub (ws' := [(a 0, .inr (1, [.ref (a 1), .ref (a 2), .ref (a 3), .ref (a 4), .ref (a 5), .ref (a 6), .int (K 5 0), .int (K 6 0)])), (a 1, .inl (cI, 4, .inl (K 4))), (a 2, .inl (cI, 24, .inl (K 0))), (a 3, .inl (cI, 24, .inl (K 1))), (a 4, .inl (cI, 24, .inl (K 2))), (a 5, .inl (cI, 24, .inl (K 3)))]) [0, 1, 2, 3, 4, 5] (by decide) rfl
      exact me_retI hx hb hr hlk hK hS dX1_nextPlace_59 ((me_swf (fun q => q.2 b28)).symm) hP9 hD9
    · refine lv_iconst (v := 1) hx hb dX1_nextPlace_31 (by decide) ?_
      refine lv_goto (tgt := 36) hx hb dX1_nextPlace_32 (by decide) ?_
      refine lv_istore_n hx hb dX1_nextPlace_36 rfl hl (by decide) rfl (fun ls hl => ?_)
      have hl : lv_has ls 2 [(1, .int (1)), (0, .ref (a 0))] := hl
      refine lv_iload_n hx hb dX1_nextPlace_37 rfl (lv_at hl 0 rfl) ?_
      refine lv_if_eq (tgt := 53) hx hb dX1_nextPlace_38 (by decide) (fun q => absurd q (by decide)) (fun _ => ?_)
      refine lv_aload_n hx hb dX1_nextPlace_41 rfl (lv_at hl 1 rfl) ?_
      refine va_get (D := D) (ci := 1) (v := .ref (a 5)) (C := RX1) (T := TX1) (N := 8) hx hb hg inX1 hown hK hP 0 rfl rfl 4 (by decide) (hg _ bw_1_72) (fun _ h9 => h9) rfl dX1_nextPlace_42 ?_
      refine lv_aload_n hx hb dX1_nextPlace_45 rfl (lv_at hl 1 rfl) ?_
      refine va_get (D := D) (ci := 1) (v := .int (K 5 0)) (C := RX1) (T := TX1) (N := 8) hx hb hg inX1 hown hK hP 0 rfl rfl 6 (by decide) (hg _ bw_1_75) (fun _ h9 => h9) rfl dX1_nextPlace_46 ?_
      refine me_t (x := K 5 0) (y := nI (st_p K)) (hp) ?_
      refine me_ild hx hb hK hP 5 0 rfl rfl (st_p K) (rfl) (by omega) (by omega) dX1_nextPlace_49 ?_
      refine lv_goto (tgt := 59) hx hb dX1_nextPlace_50 (by decide) ?_
      have hP9 := me_subP (ws' := [(a 0, .inr (1, [.ref (a 1), .ref (a 2), .ref (a 3), .ref (a 4), .ref (a 5), .ref (a 6), .int (K 5 0), .int (K 6 0)])), (a 1, .inl (cI, 4, .inl (K 4))), (a 2, .inl (cI, 24, .inl (K 0))), (a 3, .inl (cI, 24, .inl (K 1))), (a 4, .inl (cI, 24, .inl (K 2))), (a 5, .inl (cI, 24, .inl (K 3)))]) hP [0, 1, 2, 3, 4, 5] rfl
      have hD9 := hD.sub (ws' := [(a 0, .inr (1, [.ref (a 1), .ref (a 2), .ref (a 3), .ref (a 4), .ref (a 5), .ref (a 6), .int (K 5 0), .int (K 6 0)])), (a 1, .inl (cI, 4, .inl (K 4))), (a 2, .inl (cI, 24, .inl (K 0))), (a 3, .inl (cI, 24, .inl (K 1))), (a 4, .inl (cI, 24, .inl (K 2))), (a 5, .inl (cI, 24, .inl (K 3)))]) [0, 1, 2, 3, 4, 5] (by decide) rfl
      exact me_retI hx hb hr hlk hK hS dX1_nextPlace_59 ((me_swt ⟨b11, b28⟩).symm) hP9 hD9
set_option maxHeartbeats 4000000 in
set_option maxRecDepth 100000 in
theorem c_co_swap (l : Launch) (D : va_G) (cI cZ cR : ClassId) (a b : Nat → Nat) (K M : st_T) (w x : Nat) (hw : w < 32) (hx4 : x < 4) : me_V l yX1_swap wsX1_swap ({ frames := 1, cells := 0, slots := 0, locals := 22 } : Room) D (me_TYS cI cZ cR) ([.ref (a 0), .int (nI (w)), .int (nI (x)), .ref (b 0)] : List Value) (w_co a cI K ++ w_sh b cI cZ M) (w_co a cI (st_swK K M w) ++ w_sh b cI cZ (st_swM K M w x)) := by
  intro sz
  refine me_ent (cc := cX1_swap) (maxL := 4) (ret := none) (Qf := me_QV D (me_TYS cI cZ cR) (w_co a cI (st_swK K M w) ++ w_sh b cI cZ (st_swM K M w x))) (by decide) rfl (Nat.le_of_ble_eq_true rfl) ?_
  intro p e s m below meth c A ls hx hb hr hml hts hown hlk hin hP hK hD hN hA hS hl
  have hown : s.vm.findClass RX1 = some m.cls := hown
  have hg : ∀ w9 ∈ bg, w9.before ([.ref (a 0), .int (nI (w)), .int (nI (x)), .ref (b 0)] : List Value).toArray s = true := fun w9 h9 => hts w9 (List.mem_cons_of_mem _ h9)
  have hl : lv_has ls 4 [(0, .ref (a 0)), (1, .int (nI (w))), (2, .int (nI (x))), (3, .ref (b 0))] := hl
  have hP : va_P D vwCl [(a 0, .inr (1, [.ref (a 1), .ref (a 2), .ref (a 3), .ref (a 4), .ref (a 5), .ref (a 6), .int (K 5 0), .int (K 6 0)])), (a 1, .inl (cI, 4, .inl (K 4))), (a 2, .inl (cI, 24, .inl (K 0))), (a 3, .inl (cI, 24, .inl (K 1))), (a 4, .inl (cI, 24, .inl (K 2))), (a 5, .inl (cI, 24, .inl (K 3))), (b 0, .inr (2, [.ref (b 1), .ref (b 2), .ref (b 3)])), (b 1, .inl (cI, 32, .inl (M 0))), (b 2, .inl (cI, 32, .inl (M 1))), (b 3, .inl (cZ, 8, .inl (M 2)))] s.heap := hP
  have hD : va_D A [(a 0, .inr (1, [.ref (a 1), .ref (a 2), .ref (a 3), .ref (a 4), .ref (a 5), .ref (a 6), .int (K 5 0), .int (K 6 0)])), (a 1, .inl (cI, 4, .inl (K 4))), (a 2, .inl (cI, 24, .inl (K 0))), (a 3, .inl (cI, 24, .inl (K 1))), (a 4, .inl (cI, 24, .inl (K 2))), (a 5, .inl (cI, 24, .inl (K 3))), (b 0, .inr (2, [.ref (b 1), .ref (b 2), .ref (b 3)])), (b 1, .inl (cI, 32, .inl (M 0))), (b 2, .inl (cI, 32, .inl (M 1))), (b 3, .inl (cZ, 8, .inl (M 2)))] := hD
  refine lv_aload_n hx hb dX1_swap_0 rfl (lv_at hl 3 rfl) ?_
  refine va_getN (D := D) (ci := 2) (v := .ref (b 1)) (C := RX2) (T := TX2) (N := 3) hx hb hg inX2 hown hK hP 6 rfl rfl 0 (by decide) (va_Nw.use rfl (hN _ ne_4)) (fun _ h9 => h9) rfl dX1_swap_1 ?_
  refine lv_iload_n hx hb dX1_swap_4 rfl (lv_at hl 1 rfl) ?_
  refine me_ild hx hb hK hP 7 0 rfl rfl (w) (rfl) (by omega) (by omega) dX1_swap_5 ?_
  refine lv_aload_n hx hb dX1_swap_6 rfl (lv_at hl 0 rfl) ?_
  refine va_get (D := D) (ci := 1) (v := .ref (a 1)) (C := RX1) (T := TX1) (N := 8) hx hb hg inX1 hown hK hP 0 rfl rfl 0 (by decide) (hg _ bw_1_67) (fun _ h9 => h9) rfl dX1_swap_7 ?_
  refine lv_iconst (v := 0) hx hb dX1_swap_10 (by decide) ?_
  refine me_ild hx hb hK hP 1 0 rfl rfl (0) (rfl) (by omega) (by omega) dX1_swap_11 ?_
  refine lv_icmp_ne (tgt := 29) hx hb dX1_swap_12 (by decide) (fun b12 => ?_) (fun b12 => ?_)
  · refine lv_aload_n hx hb dX1_swap_29 rfl (lv_at hl 0 rfl) ?_
    refine va_get (D := D) (ci := 1) (v := .ref (a 1)) (C := RX1) (T := TX1) (N := 8) hx hb hg inX1 hown hK hP 0 rfl rfl 0 (by decide) (hg _ bw_1_67) (fun _ h9 => h9) rfl dX1_swap_30 ?_
    refine lv_iconst (v := 0) hx hb dX1_swap_33 (by decide) ?_
    refine lv_aload_n hx hb dX1_swap_34 rfl (lv_at hl 3 rfl) ?_
    refine va_getN (D := D) (ci := 2) (v := .ref (b 1)) (C := RX2) (T := TX2) (N := 3) hx hb hg inX2 hown hK hP 6 rfl rfl 0 (by decide) (va_Nw.use rfl (hN _ ne_4)) (fun _ h9 => h9) rfl dX1_swap_35 ?_
    refine lv_iload_n hx hb dX1_swap_38 rfl (lv_at hl 1 rfl) ?_
    refine me_ild hx hb hK hP 7 0 rfl rfl (w) (rfl) (by omega) (by omega) dX1_swap_39 ?_
    refine me_ist hx hb hK hP hD hS 1 0 rfl rfl (0) (rfl) (by omega) (by omega) dX1_swap_40 (fun H locs hP hD hS => ?_)
    have hP : va_P D vwCl [(a 0, .inr (1, [.ref (a 1), .ref (a 2), .ref (a 3), .ref (a 4), .ref (a 5), .ref (a 6), .int (K 5 0), .int (K 6 0)])), (a 1, .inl (cI, 4, .inl (upd (K 4) (0) (M 0 w)))), (a 2, .inl (cI, 24, .inl (K 0))), (a 3, .inl (cI, 24, .inl (K 1))), (a 4, .inl (cI, 24, .inl (K 2))), (a 5, .inl (cI, 24, .inl (K 3))), (b 0, .inr (2, [.ref (b 1), .ref (b 2), .ref (b 3)])), (b 1, .inl (cI, 32, .inl (M 0))), (b 2, .inl (cI, 32, .inl (M 1))), (b 3, .inl (cZ, 8, .inl (M 2)))] H := hP
    have hD : va_D A [(a 0, .inr (1, [.ref (a 1), .ref (a 2), .ref (a 3), .ref (a 4), .ref (a 5), .ref (a 6), .int (K 5 0), .int (K 6 0)])), (a 1, .inl (cI, 4, .inl (upd (K 4) (0) (M 0 w)))), (a 2, .inl (cI, 24, .inl (K 0))), (a 3, .inl (cI, 24, .inl (K 1))), (a 4, .inl (cI, 24, .inl (K 2))), (a 5, .inl (cI, 24, .inl (K 3))), (b 0, .inr (2, [.ref (b 1), .ref (b 2), .ref (b 3)])), (b 1, .inl (cI, 32, .inl (M 0))), (b 2, .inl (cI, 32, .inl (M 1))), (b 3, .inl (cZ, 8, .inl (M 2)))] := hD
    rw [show st_swK K M w = st_ks K 4 0 (M 0 w) from me_swf b12, show st_swM K M w x = M from me_swf b12]
    have hP9 := me_subP (ws' := [(a 0, .inr (1, [.ref (a 1), .ref (a 2), .ref (a 3), .ref (a 4), .ref (a 5), .ref (a 6), .int ((st_ks K 4 0 (M 0 w)) 5 0), .int ((st_ks K 4 0 (M 0 w)) 6 0)])), (a 1, .inl (cI, 4, .inl ((st_ks K 4 0 (M 0 w)) 4))), (a 2, .inl (cI, 24, .inl ((st_ks K 4 0 (M 0 w)) 0))), (a 3, .inl (cI, 24, .inl ((st_ks K 4 0 (M 0 w)) 1))), (a 4, .inl (cI, 24, .inl ((st_ks K 4 0 (M 0 w)) 2))), (a 5, .inl (cI, 24, .inl ((st_ks K 4 0 (M 0 w)) 3))), (b 0, .inr (2, [.ref (b 1), .ref (b 2), .ref (b 3)])), (b 1, .inl (cI, 32, .inl (M 0))), (b 2, .inl (cI, 32, .inl (M 1))), (b 3, .inl (cZ, 8, .inl (M 2)))]) hP [0, 1, 2, 3, 4, 5, 6, 7, 8, 9] rfl
    have hD9 := hD.sub (ws' := [(a 0, .inr (1, [.ref (a 1), .ref (a 2), .ref (a 3), .ref (a 4), .ref (a 5), .ref (a 6), .int ((st_ks K 4 0 (M 0 w)) 5 0), .int ((st_ks K 4 0 (M 0 w)) 6 0)])), (a 1, .inl (cI, 4, .inl ((st_ks K 4 0 (M 0 w)) 4))), (a 2, .inl (cI, 24, .inl ((st_ks K 4 0 (M 0 w)) 0))), (a 3, .inl (cI, 24, .inl ((st_ks K 4 0 (M 0 w)) 1))), (a 4, .inl (cI, 24, .inl ((st_ks K 4 0 (M 0 w)) 2))), (a 5, .inl (cI, 24, .inl ((st_ks K 4 0 (M 0 w)) 3))), (b 0, .inr (2, [.ref (b 1), .ref (b 2), .ref (b 3)])), (b 1, .inl (cI, 32, .inl (M 0))), (b 2, .inl (cI, 32, .inl (M 1))), (b 3, .inl (cZ, 8, .inl (M 2)))]) [0, 1, 2, 3, 4, 5, 6, 7, 8, 9] (by decide) rfl
    exact me_retV hx hb hr hlk hK hS dX1_swap_41 hP9 hD9
  · refine lv_aload_n hx hb dX1_swap_15 rfl (lv_at hl 3 rfl) ?_
    refine lv_iload_n hx hb dX1_swap_16 rfl (lv_at hl 1 rfl) ?_
    refine lv_aload_n hx hb dX1_swap_17 rfl (lv_at hl 0 rfl) ?_
    refine va_get (D := D) (ci := 1) (v := .ref (a 1)) (C := RX1) (T := TX1) (N := 8) hx hb hg inX1 hown hK hP 0 rfl rfl 0 (by decide) (hg _ bw_1_67) (fun _ h9 => h9) rfl dX1_swap_18 ?_
    refine lv_iload_n hx hb dX1_swap_21 rfl (lv_at hl 2 rfl) ?_
    refine me_ild hx hb hK hP 1 0 rfl rfl (x) (rfl) (by omega) (by omega) dX1_swap_22 ?_
    refine me_goV (wr := [(a 0, .inr (1, [.ref (a 1), .ref (a 2), .ref (a 3), .ref (a 4), .ref (a 5), .ref (a 6), .int (K 5 0), .int (K 6 0)])), (a 1, .inl (cI, 4, .inl (K 4))), (a 2, .inl (cI, 24, .inl (K 0))), (a 3, .inl (cI, 24, .inl (K 1))), (a 4, .inl (cI, 24, .inl (K 2))), (a 5, .inl (cI, 24, .inl (K 3)))]) (wc := [(b 0, .inr (2, [.ref (b 1), .ref (b 2), .ref (b 3)])), (b 1, .inl (cI, 32, .inl (M 0))), (b 2, .inl (cI, 32, .inl (M 1))), (b 3, .inl (cZ, 8, .inl (M 2)))]) (w1 := [(b 0, .inr (2, [.ref (b 1), .ref (b 2), .ref (b 3)])), (b 1, .inl (cI, 32, .inl ((st_wr M w (K 4 x)) 0))), (b 2, .inl (cI, 32, .inl ((st_wr M w (K 4 x)) 1))), (b 3, .inl (cZ, 8, .inl ((st_wr M w (K 4 x)) 2)))]) (va_runVN (C := RX2) (b := b 0) (As := [.int (nI (w)), .int (K 4 x)]) (rest := []) ⟨hx, hb, hml, hown, hg⟩ (c_sm_write l D cI cZ cR b M w (K 4 x) hw s.heap.size) ⟨va_cnB 2 hg (bg_gi (fun _ h => h) bw_1_165) rfl rfl rfl (hN _ ne_5) (hg _ bw_1_2) (by decide +kernel) ⟨Nat.le_of_ble_eq_true rfl, Nat.le_of_ble_eq_true rfl⟩, (hg _ bw_1_164), (hg _ bw_s_10)⟩ (me_preV (wc := [(b 0, .inr (2, [.ref (b 1), .ref (b 2), .ref (b 3)])), (b 1, .inl (cI, 32, .inl (M 0))), (b 2, .inl (cI, 32, .inl (M 1))), (b 3, .inl (cZ, 8, .inl (M 2)))]) hP hD hK hN [6, 7, 8, 9] rfl (by decide) (va_recv (q0 := 6) (ci := 2) hK hP rfl rfl)) rfl rfl hl.1 rfl (lv_room (Nat.le_of_ble_eq_true rfl)) dX1_swap_23 ⟨Nat.zero_le _, Nat.zero_le _⟩) hP hD hS hA [6, 7, 8, 9] [0, 1, 2, 3, 4, 5] rfl rfl (by decide) (by decide) (fun H locs hP hD hS => ?_)
    have hP : va_P D vwCl [(a 0, .inr (1, [.ref (a 1), .ref (a 2), .ref (a 3), .ref (a 4), .ref (a 5), .ref (a 6), .int (K 5 0), .int (K 6 0)])), (a 1, .inl (cI, 4, .inl (K 4))), (a 2, .inl (cI, 24, .inl (K 0))), (a 3, .inl (cI, 24, .inl (K 1))), (a 4, .inl (cI, 24, .inl (K 2))), (a 5, .inl (cI, 24, .inl (K 3))), (b 0, .inr (2, [.ref (b 1), .ref (b 2), .ref (b 3)])), (b 1, .inl (cI, 32, .inl ((st_wr M w (K 4 x)) 0))), (b 2, .inl (cI, 32, .inl ((st_wr M w (K 4 x)) 1))), (b 3, .inl (cZ, 8, .inl ((st_wr M w (K 4 x)) 2)))] H := hP
    have hD : va_D A [(a 0, .inr (1, [.ref (a 1), .ref (a 2), .ref (a 3), .ref (a 4), .ref (a 5), .ref (a 6), .int (K 5 0), .int (K 6 0)])), (a 1, .inl (cI, 4, .inl (K 4))), (a 2, .inl (cI, 24, .inl (K 0))), (a 3, .inl (cI, 24, .inl (K 1))), (a 4, .inl (cI, 24, .inl (K 2))), (a 5, .inl (cI, 24, .inl (K 3))), (b 0, .inr (2, [.ref (b 1), .ref (b 2), .ref (b 3)])), (b 1, .inl (cI, 32, .inl ((st_wr M w (K 4 x)) 0))), (b 2, .inl (cI, 32, .inl ((st_wr M w (K 4 x)) 1))), (b 3, .inl (cZ, 8, .inl ((st_wr M w (K 4 x)) 2)))] := hD
    refine lv_goto (tgt := 41) hx hb dX1_swap_26 (by decide) ?_
    rw [show st_swK K M w = K from me_swt b12, show st_swM K M w x = st_wr M w (K 4 x) from me_swt b12]
    have hP9 := me_subP (ws' := [(a 0, .inr (1, [.ref (a 1), .ref (a 2), .ref (a 3), .ref (a 4), .ref (a 5), .ref (a 6), .int (K 5 0), .int (K 6 0)])), (a 1, .inl (cI, 4, .inl (K 4))), (a 2, .inl (cI, 24, .inl (K 0))), (a 3, .inl (cI, 24, .inl (K 1))), (a 4, .inl (cI, 24, .inl (K 2))), (a 5, .inl (cI, 24, .inl (K 3))), (b 0, .inr (2, [.ref (b 1), .ref (b 2), .ref (b 3)])), (b 1, .inl (cI, 32, .inl ((st_wr M w (K 4 x)) 0))), (b 2, .inl (cI, 32, .inl ((st_wr M w (K 4 x)) 1))), (b 3, .inl (cZ, 8, .inl ((st_wr M w (K 4 x)) 2)))]) hP [0, 1, 2, 3, 4, 5, 6, 7, 8, 9] rfl
    have hD9 := hD.sub (ws' := [(a 0, .inr (1, [.ref (a 1), .ref (a 2), .ref (a 3), .ref (a 4), .ref (a 5), .ref (a 6), .int (K 5 0), .int (K 6 0)])), (a 1, .inl (cI, 4, .inl (K 4))), (a 2, .inl (cI, 24, .inl (K 0))), (a 3, .inl (cI, 24, .inl (K 1))), (a 4, .inl (cI, 24, .inl (K 2))), (a 5, .inl (cI, 24, .inl (K 3))), (b 0, .inr (2, [.ref (b 1), .ref (b 2), .ref (b 3)])), (b 1, .inl (cI, 32, .inl ((st_wr M w (K 4 x)) 0))), (b 2, .inl (cI, 32, .inl ((st_wr M w (K 4 x)) 1))), (b 3, .inl (cZ, 8, .inl ((st_wr M w (K 4 x)) 2)))]) [0, 1, 2, 3, 4, 5, 6, 7, 8, 9] (by decide) rfl
    exact me_retV hx hb hr hlk hK hS dX1_swap_41 hP9 hD9
set_option maxHeartbeats 4000000 in
set_option maxRecDepth 100000 in
theorem c_co_begin (l : Launch) (D : va_G) (cI cZ cR : ClassId) (a : Nat → Nat) (ro : Nat) (K : st_T) : me_V l yX1_beginAgain wsX1_beginAgain ({ frames := 0, cells := 0, slots := 0, locals := 0 } : Room) D (me_TYS cI cZ cR) ([.ref (a 0)] : List Value) (w_co a cI K ++ w_bu a cI ro K) (w_co a cI (st_bg K) ++ w_bu a cI ro (st_bg K)) := by
  intro sz
  refine me_ent (cc := cX1_beginAgain) (maxL := 2) (ret := none) (Qf := me_QV D (me_TYS cI cZ cR) (w_co a cI (st_bg K) ++ w_bu a cI ro (st_bg K))) (by decide) rfl (Nat.le_of_ble_eq_true rfl) ?_
  intro p e s m below meth c A ls hx hb hr hml hts hown hlk hin hP hK hD hN hA hS hl
  have hown : s.vm.findClass RX1 = some m.cls := hown
  have hg : ∀ w9 ∈ bg, w9.before ([.ref (a 0)] : List Value).toArray s = true := fun w9 h9 => hts w9 (List.mem_cons_of_mem _ h9)
  have hl : lv_has ls 2 [(0, .ref (a 0))] := hl
  have hP : va_P D vwCl [(a 0, .inr (1, [.ref (a 1), .ref (a 2), .ref (a 3), .ref (a 4), .ref (a 5), .ref (a 6), .int (K 5 0), .int (K 6 0)])), (a 1, .inl (cI, 4, .inl (K 4))), (a 2, .inl (cI, 24, .inl (K 0))), (a 3, .inl (cI, 24, .inl (K 1))), (a 4, .inl (cI, 24, .inl (K 2))), (a 5, .inl (cI, 24, .inl (K 3))), (a 6, .inr (0, [.ref (a 7), .ref (a 8), .ref (a 9), .int (K 7 0)])), (a 7, .inl (cI, ro, .inl (K 8))), (a 8, .inl (cI, ro, .inl (K 9))), (a 9, .inl (cI, ro, .inl (K 10)))] s.heap := hP
  have hD : va_D A [(a 0, .inr (1, [.ref (a 1), .ref (a 2), .ref (a 3), .ref (a 4), .ref (a 5), .ref (a 6), .int (K 5 0), .int (K 6 0)])), (a 1, .inl (cI, 4, .inl (K 4))), (a 2, .inl (cI, 24, .inl (K 0))), (a 3, .inl (cI, 24, .inl (K 1))), (a 4, .inl (cI, 24, .inl (K 2))), (a 5, .inl (cI, 24, .inl (K 3))), (a 6, .inr (0, [.ref (a 7), .ref (a 8), .ref (a 9), .int (K 7 0)])), (a 7, .inl (cI, ro, .inl (K 8))), (a 8, .inl (cI, ro, .inl (K 9))), (a 9, .inl (cI, ro, .inl (K 10)))] := hD
  refine lv_aload_n hx hb dX1_beginAgain_0 rfl (lv_at hl 0 rfl) ?_
  refine va_get (D := D) (ci := 1) (v := .ref (a 6)) (C := RX1) (T := TX1) (N := 8) hx hb hg inX1 hown hK hP 0 rfl rfl 5 (by decide) (hg _ bw_1_73) (fun _ h9 => h9) rfl dX1_beginAgain_1 ?_
  refine lv_iconst (v := 0) hx hb dX1_beginAgain_4 (by decide) ?_
  refine va_putN (D := D) (ci := 0) (v := .int (0)) (ty := .int) (C := RX0) (T := TX0) (N := 4) hx hb hg inX0 tyX0 tyX0_ok nmX0 hown hK hP hD hS 6 rfl rfl 3 (by decide) (va_Nw.use rfl (hN _ ne_3)) (fun _ h9 => h9) rfl (by decide +kernel) rfl rfl (Nat.le_of_ble_eq_true rfl) dX1_beginAgain_5 (fun H locs hP hD hS => ?_)
  have hP : va_P D vwCl [(a 0, .inr (1, [.ref (a 1), .ref (a 2), .ref (a 3), .ref (a 4), .ref (a 5), .ref (a 6), .int (K 5 0), .int (K 6 0)])), (a 1, .inl (cI, 4, .inl (K 4))), (a 2, .inl (cI, 24, .inl (K 0))), (a 3, .inl (cI, 24, .inl (K 1))), (a 4, .inl (cI, 24, .inl (K 2))), (a 5, .inl (cI, 24, .inl (K 3))), (a 6, .inr (0, [.ref (a 7), .ref (a 8), .ref (a 9), .int (0)])), (a 7, .inl (cI, ro, .inl (K 8))), (a 8, .inl (cI, ro, .inl (K 9))), (a 9, .inl (cI, ro, .inl (K 10)))] H := hP
  have hD : va_D A [(a 0, .inr (1, [.ref (a 1), .ref (a 2), .ref (a 3), .ref (a 4), .ref (a 5), .ref (a 6), .int (K 5 0), .int (K 6 0)])), (a 1, .inl (cI, 4, .inl (K 4))), (a 2, .inl (cI, 24, .inl (K 0))), (a 3, .inl (cI, 24, .inl (K 1))), (a 4, .inl (cI, 24, .inl (K 2))), (a 5, .inl (cI, 24, .inl (K 3))), (a 6, .inr (0, [.ref (a 7), .ref (a 8), .ref (a 9), .int (0)])), (a 7, .inl (cI, ro, .inl (K 8))), (a 8, .inl (cI, ro, .inl (K 9))), (a 9, .inl (cI, ro, .inl (K 10)))] := hD
  refine lv_iconst (v := 0) hx hb dX1_beginAgain_8 (by decide) ?_
  refine lv_istore_n hx hb dX1_beginAgain_9 rfl hl (by decide) rfl (fun ls hl => ?_)
  have hl : lv_has ls 2 [(1, .int (0)), (0, .ref (a 0))] := hl
  have loop10 : ∀ (d : Nat) (j : Nat) (H : Heap) (locs : List Loc) (ls : Array Slot), d = 4 - j → j ≤ 4 → va_P D vwCl [(a 0, .inr (1, [.ref (a 1), .ref (a 2), .ref (a 3), .ref (a 4), .ref (a 5), .ref (a 6), .int (K 5 0), .int (K 6 0)])), (a 1, .inl (cI, 4, .inl (st_ze (K 4) (j)))), (a 2, .inl (cI, 24, .inl (K 0))), (a 3, .inl (cI, 24, .inl (K 1))), (a 4, .inl (cI, 24, .inl (K 2))), (a 5, .inl (cI, 24, .inl (K 3))), (a 6, .inr (0, [.ref (a 7), .ref (a 8), .ref (a 9), .int (0)])), (a 7, .inl (cI, ro, .inl (K 8))), (a 8, .inl (cI, ro, .inl (K 9))), (a 9, .inl (cI, ro, .inl (K 10)))] H → va_D A [(a 0, .inr (1, [.ref (a 1), .ref (a 2), .ref (a 3), .ref (a 4), .ref (a 5), .ref (a 6), .int (K 5 0), .int (K 6 0)])), (a 1, .inl (cI, 4, .inl (st_ze (K 4) (j)))), (a 2, .inl (cI, 24, .inl (K 0))), (a 3, .inl (cI, 24, .inl (K 1))), (a 4, .inl (cI, 24, .inl (K 2))), (a 5, .inl (cI, 24, .inl (K 3))), (a 6, .inr (0, [.ref (a 7), .ref (a 8), .ref (a 9), .int (0)])), (a 7, .inl (cI, ro, .inl (K 8))), (a 8, .inl (cI, ro, .inl (K 9))), (a 9, .inl (cI, ro, .inl (K 10)))] → va_S A s.heap H locs → lv_has ls 2 [(0, .ref (a 0)), (1, .int (nI (j)))] → W p l e ({ frames := 0, cells := 0, slots := 0, locals := 0 } : Room) s m ([.ref (a 0)] : List Value).toArray below meth c H locs 0 0 (MQ below (me_QV D (me_TYS cI cZ cR) (w_co a cI (st_bg K) ++ w_bu a cI ro (st_bg K)) A) ([.ref (a 0)] : List Value).toArray s 0 0 A) (F0 m 10 ls []) := by
    intro d
    induction d with
    | zero =>
      intro j H locs ls hd h2 hP hD hS hl
      refine lv_iload_n hx hb dX1_beginAgain_10 rfl (lv_at hl 1 rfl) ?_
      refine lv_iconst (v := 4) hx hb dX1_beginAgain_11 (by decide) ?_
      refine lv_icmp_ge (tgt := 28) hx hb dX1_beginAgain_12 (by decide) (fun b12 => ?_) (fun b12 => ?_)
      · have b12 := me_le (a := 4) (b := j) (by omega) (by omega) b12
        have hj : j = 4 := by omega
        rw [hj] at hP hD
        have hP : va_P D vwCl [(a 0, .inr (1, [.ref (a 1), .ref (a 2), .ref (a 3), .ref (a 4), .ref (a 5), .ref (a 6), .int (K 5 0), .int (K 6 0)])), (a 1, .inl (cI, 4, .inl (st_ze (K 4) (4)))), (a 2, .inl (cI, 24, .inl (K 0))), (a 3, .inl (cI, 24, .inl (K 1))), (a 4, .inl (cI, 24, .inl (K 2))), (a 5, .inl (cI, 24, .inl (K 3))), (a 6, .inr (0, [.ref (a 7), .ref (a 8), .ref (a 9), .int (0)])), (a 7, .inl (cI, ro, .inl (K 8))), (a 8, .inl (cI, ro, .inl (K 9))), (a 9, .inl (cI, ro, .inl (K 10)))] H := hP
        have hD : va_D A [(a 0, .inr (1, [.ref (a 1), .ref (a 2), .ref (a 3), .ref (a 4), .ref (a 5), .ref (a 6), .int (K 5 0), .int (K 6 0)])), (a 1, .inl (cI, 4, .inl (st_ze (K 4) (4)))), (a 2, .inl (cI, 24, .inl (K 0))), (a 3, .inl (cI, 24, .inl (K 1))), (a 4, .inl (cI, 24, .inl (K 2))), (a 5, .inl (cI, 24, .inl (K 3))), (a 6, .inr (0, [.ref (a 7), .ref (a 8), .ref (a 9), .int (0)])), (a 7, .inl (cI, ro, .inl (K 8))), (a 8, .inl (cI, ro, .inl (K 9))), (a 9, .inl (cI, ro, .inl (K 10)))] := hD
        refine lv_aload_n hx hb dX1_beginAgain_28 rfl (lv_at hl 0 rfl) ?_
        refine lv_aload_n hx hb dX1_beginAgain_29 rfl (lv_at hl 0 rfl) ?_
        refine va_get (D := D) (ci := 1) (v := .int (K 6 0)) (C := RX1) (T := TX1) (N := 8) hx hb hg inX1 hown hK hP 0 rfl rfl 7 (by decide) (hg _ bw_1_78) (fun _ h9 => h9) rfl dX1_beginAgain_30 ?_
        refine va_put (D := D) (ci := 1) (v := .int (K 6 0)) (ty := .int) (C := RX1) (T := TX1) (N := 8) hx hb hg inX1 tyX1 tyX1_ok nmX1 hown hK hP hD hS 0 rfl rfl 6 (by decide) (hg _ bw_1_75) (fun _ h9 => h9) rfl (by decide +kernel) rfl rfl (Nat.le_of_ble_eq_true rfl) dX1_beginAgain_33 (fun H locs hP hD hS => ?_)
        have hP : va_P D vwCl [(a 0, .inr (1, [.ref (a 1), .ref (a 2), .ref (a 3), .ref (a 4), .ref (a 5), .ref (a 6), .int (K 6 0), .int (K 6 0)])), (a 1, .inl (cI, 4, .inl (st_ze (K 4) (4)))), (a 2, .inl (cI, 24, .inl (K 0))), (a 3, .inl (cI, 24, .inl (K 1))), (a 4, .inl (cI, 24, .inl (K 2))), (a 5, .inl (cI, 24, .inl (K 3))), (a 6, .inr (0, [.ref (a 7), .ref (a 8), .ref (a 9), .int (0)])), (a 7, .inl (cI, ro, .inl (K 8))), (a 8, .inl (cI, ro, .inl (K 9))), (a 9, .inl (cI, ro, .inl (K 10)))] H := hP
        have hD : va_D A [(a 0, .inr (1, [.ref (a 1), .ref (a 2), .ref (a 3), .ref (a 4), .ref (a 5), .ref (a 6), .int (K 6 0), .int (K 6 0)])), (a 1, .inl (cI, 4, .inl (st_ze (K 4) (4)))), (a 2, .inl (cI, 24, .inl (K 0))), (a 3, .inl (cI, 24, .inl (K 1))), (a 4, .inl (cI, 24, .inl (K 2))), (a 5, .inl (cI, 24, .inl (K 3))), (a 6, .inr (0, [.ref (a 7), .ref (a 8), .ref (a 9), .int (0)])), (a 7, .inl (cI, ro, .inl (K 8))), (a 8, .inl (cI, ro, .inl (K 9))), (a 9, .inl (cI, ro, .inl (K 10)))] := hD
        have hP9 := me_subP (ws' := [(a 0, .inr (1, [.ref (a 1), .ref (a 2), .ref (a 3), .ref (a 4), .ref (a 5), .ref (a 6), .int ((st_bg K) 5 0), .int ((st_bg K) 6 0)])), (a 1, .inl (cI, 4, .inl ((st_bg K) 4))), (a 2, .inl (cI, 24, .inl ((st_bg K) 0))), (a 3, .inl (cI, 24, .inl ((st_bg K) 1))), (a 4, .inl (cI, 24, .inl ((st_bg K) 2))), (a 5, .inl (cI, 24, .inl ((st_bg K) 3))), (a 6, .inr (0, [.ref (a 7), .ref (a 8), .ref (a 9), .int ((st_bg K) 7 0)])), (a 7, .inl (cI, ro, .inl ((st_bg K) 8))), (a 8, .inl (cI, ro, .inl ((st_bg K) 9))), (a 9, .inl (cI, ro, .inl ((st_bg K) 10)))]) hP [0, 1, 2, 3, 4, 5, 6, 7, 8, 9] rfl
        have hD9 := hD.sub (ws' := [(a 0, .inr (1, [.ref (a 1), .ref (a 2), .ref (a 3), .ref (a 4), .ref (a 5), .ref (a 6), .int ((st_bg K) 5 0), .int ((st_bg K) 6 0)])), (a 1, .inl (cI, 4, .inl ((st_bg K) 4))), (a 2, .inl (cI, 24, .inl ((st_bg K) 0))), (a 3, .inl (cI, 24, .inl ((st_bg K) 1))), (a 4, .inl (cI, 24, .inl ((st_bg K) 2))), (a 5, .inl (cI, 24, .inl ((st_bg K) 3))), (a 6, .inr (0, [.ref (a 7), .ref (a 8), .ref (a 9), .int ((st_bg K) 7 0)])), (a 7, .inl (cI, ro, .inl ((st_bg K) 8))), (a 8, .inl (cI, ro, .inl ((st_bg K) 9))), (a 9, .inl (cI, ro, .inl ((st_bg K) 10)))]) [0, 1, 2, 3, 4, 5, 6, 7, 8, 9] (by decide) rfl
        exact me_retV hx hb hr hlk hK hS dX1_beginAgain_36 hP9 hD9
      · have b12 := me_nle (a := 4) (b := j) (by omega) (by omega) b12
        exfalso
        omega
    | succ d ih =>
      intro j H locs ls hd h2 hP hD hS hl
      refine lv_iload_n hx hb dX1_beginAgain_10 rfl (lv_at hl 1 rfl) ?_
      refine lv_iconst (v := 4) hx hb dX1_beginAgain_11 (by decide) ?_
      refine lv_icmp_ge (tgt := 28) hx hb dX1_beginAgain_12 (by decide) (fun b12 => ?_) (fun b12 => ?_)
      · have b12 := me_le (a := 4) (b := j) (by omega) (by omega) b12
        exfalso
        omega
      · have b12 := me_nle (a := 4) (b := j) (by omega) (by omega) b12
        refine lv_aload_n hx hb dX1_beginAgain_15 rfl (lv_at hl 0 rfl) ?_
        refine va_get (D := D) (ci := 1) (v := .ref (a 1)) (C := RX1) (T := TX1) (N := 8) hx hb hg inX1 hown hK hP 0 rfl rfl 0 (by decide) (hg _ bw_1_67) (fun _ h9 => h9) rfl dX1_beginAgain_16 ?_
        refine lv_iload_n hx hb dX1_beginAgain_19 rfl (lv_at hl 1 rfl) ?_
        refine lv_iconst (v := 0) hx hb dX1_beginAgain_20 (by decide) ?_
        refine me_ist hx hb hK hP hD hS 1 0 rfl rfl (j) (rfl) (by omega) (by omega) dX1_beginAgain_21 (fun H locs hP hD hS => ?_)
        have hP : va_P D vwCl [(a 0, .inr (1, [.ref (a 1), .ref (a 2), .ref (a 3), .ref (a 4), .ref (a 5), .ref (a 6), .int (K 5 0), .int (K 6 0)])), (a 1, .inl (cI, 4, .inl (upd (st_ze (K 4) (j)) (j) (0)))), (a 2, .inl (cI, 24, .inl (K 0))), (a 3, .inl (cI, 24, .inl (K 1))), (a 4, .inl (cI, 24, .inl (K 2))), (a 5, .inl (cI, 24, .inl (K 3))), (a 6, .inr (0, [.ref (a 7), .ref (a 8), .ref (a 9), .int (0)])), (a 7, .inl (cI, ro, .inl (K 8))), (a 8, .inl (cI, ro, .inl (K 9))), (a 9, .inl (cI, ro, .inl (K 10)))] H := hP
        have hD : va_D A [(a 0, .inr (1, [.ref (a 1), .ref (a 2), .ref (a 3), .ref (a 4), .ref (a 5), .ref (a 6), .int (K 5 0), .int (K 6 0)])), (a 1, .inl (cI, 4, .inl (upd (st_ze (K 4) (j)) (j) (0)))), (a 2, .inl (cI, 24, .inl (K 0))), (a 3, .inl (cI, 24, .inl (K 1))), (a 4, .inl (cI, 24, .inl (K 2))), (a 5, .inl (cI, 24, .inl (K 3))), (a 6, .inr (0, [.ref (a 7), .ref (a 8), .ref (a 9), .int (0)])), (a 7, .inl (cI, ro, .inl (K 8))), (a 8, .inl (cI, ro, .inl (K 9))), (a 9, .inl (cI, ro, .inl (K 10)))] := hD
        refine lv_iinc (k := 1) (v := nI (j + 1)) hx hb dX1_beginAgain_22 hl rfl (me_inc (j)) (by decide) rfl (fun ls hl => ?_)
        have hl : lv_has ls 2 [(1, .int (nI (j + 1))), (0, .ref (a 0))] := hl
        refine lv_goto (tgt := 10) hx hb dX1_beginAgain_25 (by decide) ?_
        have hP := me_subP (ws' := [(a 0, .inr (1, [.ref (a 1), .ref (a 2), .ref (a 3), .ref (a 4), .ref (a 5), .ref (a 6), .int (K 5 0), .int (K 6 0)])), (a 1, .inl (cI, 4, .inl (upd (st_ze (K 4) (j)) (j) (0)))), (a 2, .inl (cI, 24, .inl (K 0))), (a 3, .inl (cI, 24, .inl (K 1))), (a 4, .inl (cI, 24, .inl (K 2))), (a 5, .inl (cI, 24, .inl (K 3))), (a 6, .inr (0, [.ref (a 7), .ref (a 8), .ref (a 9), .int (0)])), (a 7, .inl (cI, ro, .inl (K 8))), (a 8, .inl (cI, ro, .inl (K 9))), (a 9, .inl (cI, ro, .inl (K 10)))]) hP [0, 1, 2, 3, 4, 5, 6, 7, 8, 9] rfl
        have hD := hD.sub (ws' := [(a 0, .inr (1, [.ref (a 1), .ref (a 2), .ref (a 3), .ref (a 4), .ref (a 5), .ref (a 6), .int (K 5 0), .int (K 6 0)])), (a 1, .inl (cI, 4, .inl (upd (st_ze (K 4) (j)) (j) (0)))), (a 2, .inl (cI, 24, .inl (K 0))), (a 3, .inl (cI, 24, .inl (K 1))), (a 4, .inl (cI, 24, .inl (K 2))), (a 5, .inl (cI, 24, .inl (K 3))), (a 6, .inr (0, [.ref (a 7), .ref (a 8), .ref (a 9), .int (0)])), (a 7, .inl (cI, ro, .inl (K 8))), (a 8, .inl (cI, ro, .inl (K 9))), (a 9, .inl (cI, ro, .inl (K 10)))]) [0, 1, 2, 3, 4, 5, 6, 7, 8, 9] (by decide) rfl
        have hP : va_P D vwCl [(a 0, .inr (1, [.ref (a 1), .ref (a 2), .ref (a 3), .ref (a 4), .ref (a 5), .ref (a 6), .int (K 5 0), .int (K 6 0)])), (a 1, .inl (cI, 4, .inl (st_ze (K 4) (j + 1)))), (a 2, .inl (cI, 24, .inl (K 0))), (a 3, .inl (cI, 24, .inl (K 1))), (a 4, .inl (cI, 24, .inl (K 2))), (a 5, .inl (cI, 24, .inl (K 3))), (a 6, .inr (0, [.ref (a 7), .ref (a 8), .ref (a 9), .int (0)])), (a 7, .inl (cI, ro, .inl (K 8))), (a 8, .inl (cI, ro, .inl (K 9))), (a 9, .inl (cI, ro, .inl (K 10)))] H := by rw [← st_zeS]; exact hP
        have hD : va_D A [(a 0, .inr (1, [.ref (a 1), .ref (a 2), .ref (a 3), .ref (a 4), .ref (a 5), .ref (a 6), .int (K 5 0), .int (K 6 0)])), (a 1, .inl (cI, 4, .inl (st_ze (K 4) (j + 1)))), (a 2, .inl (cI, 24, .inl (K 0))), (a 3, .inl (cI, 24, .inl (K 1))), (a 4, .inl (cI, 24, .inl (K 2))), (a 5, .inl (cI, 24, .inl (K 3))), (a 6, .inr (0, [.ref (a 7), .ref (a 8), .ref (a 9), .int (0)])), (a 7, .inl (cI, ro, .inl (K 8))), (a 8, .inl (cI, ro, .inl (K 9))), (a 9, .inl (cI, ro, .inl (K 10)))] := by rw [← st_zeS]; exact hD
        have hl := lv_sub (l' := [(0, .ref (a 0)), (1, .int (nI (j + 1)))]) hl [1, 0] rfl
        exact ih (j + 1) _ _ _ (by omega) (by omega) hP hD hS hl
  have hP := me_subP (ws' := [(a 0, .inr (1, [.ref (a 1), .ref (a 2), .ref (a 3), .ref (a 4), .ref (a 5), .ref (a 6), .int (K 5 0), .int (K 6 0)])), (a 1, .inl (cI, 4, .inl (K 4))), (a 2, .inl (cI, 24, .inl (K 0))), (a 3, .inl (cI, 24, .inl (K 1))), (a 4, .inl (cI, 24, .inl (K 2))), (a 5, .inl (cI, 24, .inl (K 3))), (a 6, .inr (0, [.ref (a 7), .ref (a 8), .ref (a 9), .int (0)])), (a 7, .inl (cI, ro, .inl (K 8))), (a 8, .inl (cI, ro, .inl (K 9))), (a 9, .inl (cI, ro, .inl (K 10)))]) hP [0, 1, 2, 3, 4, 5, 6, 7, 8, 9] rfl
  have hD := hD.sub (ws' := [(a 0, .inr (1, [.ref (a 1), .ref (a 2), .ref (a 3), .ref (a 4), .ref (a 5), .ref (a 6), .int (K 5 0), .int (K 6 0)])), (a 1, .inl (cI, 4, .inl (K 4))), (a 2, .inl (cI, 24, .inl (K 0))), (a 3, .inl (cI, 24, .inl (K 1))), (a 4, .inl (cI, 24, .inl (K 2))), (a 5, .inl (cI, 24, .inl (K 3))), (a 6, .inr (0, [.ref (a 7), .ref (a 8), .ref (a 9), .int (0)])), (a 7, .inl (cI, ro, .inl (K 8))), (a 8, .inl (cI, ro, .inl (K 9))), (a 9, .inl (cI, ro, .inl (K 10)))]) [0, 1, 2, 3, 4, 5, 6, 7, 8, 9] (by decide) rfl
  have hP : va_P D vwCl [(a 0, .inr (1, [.ref (a 1), .ref (a 2), .ref (a 3), .ref (a 4), .ref (a 5), .ref (a 6), .int (K 5 0), .int (K 6 0)])), (a 1, .inl (cI, 4, .inl (st_ze (K 4) (0)))), (a 2, .inl (cI, 24, .inl (K 0))), (a 3, .inl (cI, 24, .inl (K 1))), (a 4, .inl (cI, 24, .inl (K 2))), (a 5, .inl (cI, 24, .inl (K 3))), (a 6, .inr (0, [.ref (a 7), .ref (a 8), .ref (a 9), .int (0)])), (a 7, .inl (cI, ro, .inl (K 8))), (a 8, .inl (cI, ro, .inl (K 9))), (a 9, .inl (cI, ro, .inl (K 10)))] H := by rw [st_ze0]; exact hP
  have hD : va_D A [(a 0, .inr (1, [.ref (a 1), .ref (a 2), .ref (a 3), .ref (a 4), .ref (a 5), .ref (a 6), .int (K 5 0), .int (K 6 0)])), (a 1, .inl (cI, 4, .inl (st_ze (K 4) (0)))), (a 2, .inl (cI, 24, .inl (K 0))), (a 3, .inl (cI, 24, .inl (K 1))), (a 4, .inl (cI, 24, .inl (K 2))), (a 5, .inl (cI, 24, .inl (K 3))), (a 6, .inr (0, [.ref (a 7), .ref (a 8), .ref (a 9), .int (0)])), (a 7, .inl (cI, ro, .inl (K 8))), (a 8, .inl (cI, ro, .inl (K 9))), (a 9, .inl (cI, ro, .inl (K 10)))] := by rw [st_ze0]; exact hD
  have hl := lv_sub (l' := [(0, .ref (a 0)), (1, .int (nI (0)))]) hl [1, 0] rfl
  exact loop10 _ 0 _ _ _ rfl (by omega) hP hD hS hl
set_option maxHeartbeats 4000000 in
set_option maxRecDepth 100000 in
theorem c_co_perform (l : Launch) (D : va_G) (cI cZ cR : ClassId) (a b : Nat → Nat) (ro : Nat) (K M : st_T) (z : Nat) (hh : K 7 0 = nI (st_h K)) (hb1 : st_h K ≤ ro) (hro : ro ≤ 8) (hp : K 5 0 = nI (st_p K)) (hp1 : st_p K < 24) (hX : K 1 (st_p K) = nI (st_x K)) (hX1 : st_x K < 4) (hY : K 2 (st_p K) = nI (st_y K)) (hY1 : st_y K < 4) (hz : K 0 (st_p K) = nI z) (hz1 : z ≤ 10) (hnw : ¬ st_wq ro K (nI z)) : me_V l yX1_perform wsX1_perform ({ frames := 2, cells := 0, slots := 0, locals := 45 } : Room) D (me_TYS cI cZ cR) ([.ref (a 0), .ref (b 0)] : List Value) (w_co a cI K ++ w_bu a cI ro K ++ w_sh b cI cZ M) (w_co a cI (st_peK K M) ++ w_bu a cI ro (st_peK K M) ++ w_sh b cI cZ (st_peM K M)) := by
  intro sz
  refine me_ent (cc := cX1_perform) (maxL := 6) (ret := none) (Qf := me_QV D (me_TYS cI cZ cR) (w_co a cI (st_peK K M) ++ w_bu a cI ro (st_peK K M) ++ w_sh b cI cZ (st_peM K M))) (by decide) rfl (Nat.le_of_ble_eq_true rfl) ?_
  intro p e s m below meth c A ls hx hb hr hml hts hown hlk hin hP hK hD hN hA hS hl
  have hown : s.vm.findClass RX1 = some m.cls := hown
  have hg : ∀ w9 ∈ bg, w9.before ([.ref (a 0), .ref (b 0)] : List Value).toArray s = true := fun w9 h9 => hts w9 (List.mem_cons_of_mem _ h9)
  have hl : lv_has ls 6 [(0, .ref (a 0)), (1, .ref (b 0))] := hl
  have hP : va_P D vwCl [(a 0, .inr (1, [.ref (a 1), .ref (a 2), .ref (a 3), .ref (a 4), .ref (a 5), .ref (a 6), .int (K 5 0), .int (K 6 0)])), (a 1, .inl (cI, 4, .inl (K 4))), (a 2, .inl (cI, 24, .inl (K 0))), (a 3, .inl (cI, 24, .inl (K 1))), (a 4, .inl (cI, 24, .inl (K 2))), (a 5, .inl (cI, 24, .inl (K 3))), (a 6, .inr (0, [.ref (a 7), .ref (a 8), .ref (a 9), .int (K 7 0)])), (a 7, .inl (cI, ro, .inl (K 8))), (a 8, .inl (cI, ro, .inl (K 9))), (a 9, .inl (cI, ro, .inl (K 10))), (b 0, .inr (2, [.ref (b 1), .ref (b 2), .ref (b 3)])), (b 1, .inl (cI, 32, .inl (M 0))), (b 2, .inl (cI, 32, .inl (M 1))), (b 3, .inl (cZ, 8, .inl (M 2)))] s.heap := hP
  have hD : va_D A [(a 0, .inr (1, [.ref (a 1), .ref (a 2), .ref (a 3), .ref (a 4), .ref (a 5), .ref (a 6), .int (K 5 0), .int (K 6 0)])), (a 1, .inl (cI, 4, .inl (K 4))), (a 2, .inl (cI, 24, .inl (K 0))), (a 3, .inl (cI, 24, .inl (K 1))), (a 4, .inl (cI, 24, .inl (K 2))), (a 5, .inl (cI, 24, .inl (K 3))), (a 6, .inr (0, [.ref (a 7), .ref (a 8), .ref (a 9), .int (K 7 0)])), (a 7, .inl (cI, ro, .inl (K 8))), (a 8, .inl (cI, ro, .inl (K 9))), (a 9, .inl (cI, ro, .inl (K 10))), (b 0, .inr (2, [.ref (b 1), .ref (b 2), .ref (b 3)])), (b 1, .inl (cI, 32, .inl (M 0))), (b 2, .inl (cI, 32, .inl (M 1))), (b 3, .inl (cZ, 8, .inl (M 2)))] := hD
  obtain ⟨ha, ha1⟩ := st_aI K
  rcases (show z = 0 ∨ z = 1 ∨ z = 2 ∨ z = 3 ∨ z = 4 ∨ z = 5 ∨ z = 6 ∨ z = 7 ∨ z = 8 ∨ z = 9 ∨ z = 10 by omega) with rfl | rfl | rfl | rfl | rfl | rfl | rfl | rfl | rfl | rfl | rfl
  · have hl : lv_has ls 6 [(0, .ref (a 0)), (1, .ref (b 0))] := hl
    refine lv_aload_n hx hb dX1_perform_0 rfl (lv_at hl 0 rfl) ?_
    refine va_get (D := D) (ci := 1) (v := .ref (a 3)) (C := RX1) (T := TX1) (N := 8) hx hb hg inX1 hown hK hP 0 rfl rfl 2 (by decide) (hg _ bw_1_70) (fun _ h9 => h9) rfl dX1_perform_1 ?_
    refine lv_aload_n hx hb dX1_perform_4 rfl (lv_at hl 0 rfl) ?_
    refine va_get (D := D) (ci := 1) (v := .int (K 5 0)) (C := RX1) (T := TX1) (N := 8) hx hb hg inX1 hown hK hP 0 rfl rfl 6 (by decide) (hg _ bw_1_75) (fun _ h9 => h9) rfl dX1_perform_5 ?_
    refine me_t (x := K 5 0) (y := nI (st_p K)) (hp) ?_
    refine me_ild hx hb hK hP 3 0 rfl rfl (st_p K) (rfl) (by omega) (by omega) dX1_perform_8 ?_
    refine me_t (x := K 1 (st_p K)) (y := nI (st_x K)) (hX) ?_
    refine lv_istore_n hx hb dX1_perform_9 rfl hl (by decide) rfl (fun ls hl => ?_)
    have hl : lv_has ls 6 [(2, .int (nI (st_x K))), (0, .ref (a 0)), (1, .ref (b 0))] := hl
    refine lv_aload_n hx hb dX1_perform_10 rfl (lv_at hl 1 rfl) ?_
    refine va_get (D := D) (ci := 1) (v := .ref (a 4)) (C := RX1) (T := TX1) (N := 8) hx hb hg inX1 hown hK hP 0 rfl rfl 3 (by decide) (hg _ bw_1_71) (fun _ h9 => h9) rfl dX1_perform_11 ?_
    refine lv_aload_n hx hb dX1_perform_14 rfl (lv_at hl 1 rfl) ?_
    refine va_get (D := D) (ci := 1) (v := .int (K 5 0)) (C := RX1) (T := TX1) (N := 8) hx hb hg inX1 hown hK hP 0 rfl rfl 6 (by decide) (hg _ bw_1_75) (fun _ h9 => h9) rfl dX1_perform_15 ?_
    refine me_t (x := K 5 0) (y := nI (st_p K)) (hp) ?_
    refine me_ild hx hb hK hP 4 0 rfl rfl (st_p K) (rfl) (by omega) (by omega) dX1_perform_18 ?_
    refine me_t (x := K 2 (st_p K)) (y := nI (st_y K)) (hY) ?_
    refine lv_istore_n hx hb dX1_perform_19 rfl hl (by decide) rfl (fun ls hl => ?_)
    have hl : lv_has ls 6 [(3, .int (nI (st_y K))), (2, .int (nI (st_x K))), (0, .ref (a 0)), (1, .ref (b 0))] := hl
    refine lv_aload_n hx hb dX1_perform_20 rfl (lv_at hl 2 rfl) ?_
    refine va_get (D := D) (ci := 1) (v := .ref (a 5)) (C := RX1) (T := TX1) (N := 8) hx hb hg inX1 hown hK hP 0 rfl rfl 4 (by decide) (hg _ bw_1_72) (fun _ h9 => h9) rfl dX1_perform_21 ?_
    refine lv_aload_n hx hb dX1_perform_24 rfl (lv_at hl 2 rfl) ?_
    refine va_get (D := D) (ci := 1) (v := .int (K 5 0)) (C := RX1) (T := TX1) (N := 8) hx hb hg inX1 hown hK hP 0 rfl rfl 6 (by decide) (hg _ bw_1_75) (fun _ h9 => h9) rfl dX1_perform_25 ?_
    refine me_t (x := K 5 0) (y := nI (st_p K)) (hp) ?_
    refine me_ild hx hb hK hP 5 0 rfl rfl (st_p K) (rfl) (by omega) (by omega) dX1_perform_28 ?_
    refine lv_istore hx hb dX1_perform_29 hl (by decide) rfl (fun ls hl => ?_)
    have hl : lv_has ls 6 [(4, .int (K 3 (st_p K))), (3, .int (nI (st_y K))), (2, .int (nI (st_x K))), (0, .ref (a 0)), (1, .ref (b 0))] := hl
    refine lv_aload_n hx hb dX1_perform_31 rfl (lv_at hl 3 rfl) ?_
    refine va_get (D := D) (ci := 1) (v := .ref (a 1)) (C := RX1) (T := TX1) (N := 8) hx hb hg inX1 hown hK hP 0 rfl rfl 0 (by decide) (hg _ bw_1_67) (fun _ h9 => h9) rfl dX1_perform_32 ?_
    refine lv_iload_n hx hb dX1_perform_35 rfl (lv_at hl 1 rfl) ?_
    refine me_ild hx hb hK hP 1 0 rfl rfl (st_y K) (rfl) (by omega) (by omega) dX1_perform_36 ?_
    refine lv_iload hx hb dX1_perform_37 (lv_at hl 0 rfl) ?_
    refine lv_iadd hx hb dX1_perform_39 ?_
    refine me_t (x := (K 4 (st_y K)) + (K 3 (st_p K))) (y := K 4 (st_y K) + K 3 (st_p K)) (rfl) ?_
    refine lv_bipush (v := 31) hx hb dX1_perform_40 (by decide) ?_
    refine lv_iand hx hb dX1_perform_42 ?_
    refine me_t (x := (K 4 (st_y K) + K 3 (st_p K)) &&& 31) (y := nI (st_a K)) (ha) ?_
    refine lv_istore hx hb dX1_perform_43 hl (by decide) rfl (fun ls hl => ?_)
    have hl : lv_has ls 6 [(5, .int (nI (st_a K))), (4, .int (K 3 (st_p K))), (3, .int (nI (st_y K))), (2, .int (nI (st_x K))), (0, .ref (a 0)), (1, .ref (b 0))] := hl
    refine lv_aload_n hx hb dX1_perform_45 rfl (lv_at hl 4 rfl) ?_
    refine va_get (D := D) (ci := 1) (v := .ref (a 2)) (C := RX1) (T := TX1) (N := 8) hx hb hg inX1 hown hK hP 0 rfl rfl 1 (by decide) (hg _ bw_1_69) (fun _ h9 => h9) rfl dX1_perform_46 ?_
    refine lv_aload_n hx hb dX1_perform_49 rfl (lv_at hl 4 rfl) ?_
    refine va_get (D := D) (ci := 1) (v := .int (K 5 0)) (C := RX1) (T := TX1) (N := 8) hx hb hg inX1 hown hK hP 0 rfl rfl 6 (by decide) (hg _ bw_1_75) (fun _ h9 => h9) rfl dX1_perform_50 ?_
    refine me_t (x := K 5 0) (y := nI (st_p K)) (hp) ?_
    refine me_ild hx hb hK hP 2 0 rfl rfl (st_p K) (rfl) (by omega) (by omega) dX1_perform_53 ?_
    refine me_t (x := K 0 (st_p K)) (y := nI (0)) (hz) ?_
    refine lv_tableOut (tgt := 237) hx hb dX1_perform_54 (by decide) (by decide) ?_
    rw [st_peK_0 hz, st_peM_0 hz]
    have hP9 := me_subP (ws' := [(a 0, .inr (1, [.ref (a 1), .ref (a 2), .ref (a 3), .ref (a 4), .ref (a 5), .ref (a 6), .int (K 5 0), .int (K 6 0)])), (a 1, .inl (cI, 4, .inl (K 4))), (a 2, .inl (cI, 24, .inl (K 0))), (a 3, .inl (cI, 24, .inl (K 1))), (a 4, .inl (cI, 24, .inl (K 2))), (a 5, .inl (cI, 24, .inl (K 3))), (a 6, .inr (0, [.ref (a 7), .ref (a 8), .ref (a 9), .int (K 7 0)])), (a 7, .inl (cI, ro, .inl (K 8))), (a 8, .inl (cI, ro, .inl (K 9))), (a 9, .inl (cI, ro, .inl (K 10))), (b 0, .inr (2, [.ref (b 1), .ref (b 2), .ref (b 3)])), (b 1, .inl (cI, 32, .inl (M 0))), (b 2, .inl (cI, 32, .inl (M 1))), (b 3, .inl (cZ, 8, .inl (M 2)))]) hP [0, 1, 2, 3, 4, 5, 6, 7, 8, 9, 10, 11, 12, 13] rfl
    have hD9 := hD.sub (ws' := [(a 0, .inr (1, [.ref (a 1), .ref (a 2), .ref (a 3), .ref (a 4), .ref (a 5), .ref (a 6), .int (K 5 0), .int (K 6 0)])), (a 1, .inl (cI, 4, .inl (K 4))), (a 2, .inl (cI, 24, .inl (K 0))), (a 3, .inl (cI, 24, .inl (K 1))), (a 4, .inl (cI, 24, .inl (K 2))), (a 5, .inl (cI, 24, .inl (K 3))), (a 6, .inr (0, [.ref (a 7), .ref (a 8), .ref (a 9), .int (K 7 0)])), (a 7, .inl (cI, ro, .inl (K 8))), (a 8, .inl (cI, ro, .inl (K 9))), (a 9, .inl (cI, ro, .inl (K 10))), (b 0, .inr (2, [.ref (b 1), .ref (b 2), .ref (b 3)])), (b 1, .inl (cI, 32, .inl (M 0))), (b 2, .inl (cI, 32, .inl (M 1))), (b 3, .inl (cZ, 8, .inl (M 2)))]) [0, 1, 2, 3, 4, 5, 6, 7, 8, 9, 10, 11, 12, 13] (by decide) rfl
    exact me_retV hx hb hr hlk hK hS dX1_perform_237 hP9 hD9
  · have hl : lv_has ls 6 [(0, .ref (a 0)), (1, .ref (b 0))] := hl
    refine lv_aload_n hx hb dX1_perform_0 rfl (lv_at hl 0 rfl) ?_
    refine va_get (D := D) (ci := 1) (v := .ref (a 3)) (C := RX1) (T := TX1) (N := 8) hx hb hg inX1 hown hK hP 0 rfl rfl 2 (by decide) (hg _ bw_1_70) (fun _ h9 => h9) rfl dX1_perform_1 ?_
    refine lv_aload_n hx hb dX1_perform_4 rfl (lv_at hl 0 rfl) ?_
    refine va_get (D := D) (ci := 1) (v := .int (K 5 0)) (C := RX1) (T := TX1) (N := 8) hx hb hg inX1 hown hK hP 0 rfl rfl 6 (by decide) (hg _ bw_1_75) (fun _ h9 => h9) rfl dX1_perform_5 ?_
    refine me_t (x := K 5 0) (y := nI (st_p K)) (hp) ?_
    refine me_ild hx hb hK hP 3 0 rfl rfl (st_p K) (rfl) (by omega) (by omega) dX1_perform_8 ?_
    refine me_t (x := K 1 (st_p K)) (y := nI (st_x K)) (hX) ?_
    refine lv_istore_n hx hb dX1_perform_9 rfl hl (by decide) rfl (fun ls hl => ?_)
    have hl : lv_has ls 6 [(2, .int (nI (st_x K))), (0, .ref (a 0)), (1, .ref (b 0))] := hl
    refine lv_aload_n hx hb dX1_perform_10 rfl (lv_at hl 1 rfl) ?_
    refine va_get (D := D) (ci := 1) (v := .ref (a 4)) (C := RX1) (T := TX1) (N := 8) hx hb hg inX1 hown hK hP 0 rfl rfl 3 (by decide) (hg _ bw_1_71) (fun _ h9 => h9) rfl dX1_perform_11 ?_
    refine lv_aload_n hx hb dX1_perform_14 rfl (lv_at hl 1 rfl) ?_
    refine va_get (D := D) (ci := 1) (v := .int (K 5 0)) (C := RX1) (T := TX1) (N := 8) hx hb hg inX1 hown hK hP 0 rfl rfl 6 (by decide) (hg _ bw_1_75) (fun _ h9 => h9) rfl dX1_perform_15 ?_
    refine me_t (x := K 5 0) (y := nI (st_p K)) (hp) ?_
    refine me_ild hx hb hK hP 4 0 rfl rfl (st_p K) (rfl) (by omega) (by omega) dX1_perform_18 ?_
    refine me_t (x := K 2 (st_p K)) (y := nI (st_y K)) (hY) ?_
    refine lv_istore_n hx hb dX1_perform_19 rfl hl (by decide) rfl (fun ls hl => ?_)
    have hl : lv_has ls 6 [(3, .int (nI (st_y K))), (2, .int (nI (st_x K))), (0, .ref (a 0)), (1, .ref (b 0))] := hl
    refine lv_aload_n hx hb dX1_perform_20 rfl (lv_at hl 2 rfl) ?_
    refine va_get (D := D) (ci := 1) (v := .ref (a 5)) (C := RX1) (T := TX1) (N := 8) hx hb hg inX1 hown hK hP 0 rfl rfl 4 (by decide) (hg _ bw_1_72) (fun _ h9 => h9) rfl dX1_perform_21 ?_
    refine lv_aload_n hx hb dX1_perform_24 rfl (lv_at hl 2 rfl) ?_
    refine va_get (D := D) (ci := 1) (v := .int (K 5 0)) (C := RX1) (T := TX1) (N := 8) hx hb hg inX1 hown hK hP 0 rfl rfl 6 (by decide) (hg _ bw_1_75) (fun _ h9 => h9) rfl dX1_perform_25 ?_
    refine me_t (x := K 5 0) (y := nI (st_p K)) (hp) ?_
    refine me_ild hx hb hK hP 5 0 rfl rfl (st_p K) (rfl) (by omega) (by omega) dX1_perform_28 ?_
    refine lv_istore hx hb dX1_perform_29 hl (by decide) rfl (fun ls hl => ?_)
    have hl : lv_has ls 6 [(4, .int (K 3 (st_p K))), (3, .int (nI (st_y K))), (2, .int (nI (st_x K))), (0, .ref (a 0)), (1, .ref (b 0))] := hl
    refine lv_aload_n hx hb dX1_perform_31 rfl (lv_at hl 3 rfl) ?_
    refine va_get (D := D) (ci := 1) (v := .ref (a 1)) (C := RX1) (T := TX1) (N := 8) hx hb hg inX1 hown hK hP 0 rfl rfl 0 (by decide) (hg _ bw_1_67) (fun _ h9 => h9) rfl dX1_perform_32 ?_
    refine lv_iload_n hx hb dX1_perform_35 rfl (lv_at hl 1 rfl) ?_
    refine me_ild hx hb hK hP 1 0 rfl rfl (st_y K) (rfl) (by omega) (by omega) dX1_perform_36 ?_
    refine lv_iload hx hb dX1_perform_37 (lv_at hl 0 rfl) ?_
    refine lv_iadd hx hb dX1_perform_39 ?_
    refine me_t (x := (K 4 (st_y K)) + (K 3 (st_p K))) (y := K 4 (st_y K) + K 3 (st_p K)) (rfl) ?_
    refine lv_bipush (v := 31) hx hb dX1_perform_40 (by decide) ?_
    refine lv_iand hx hb dX1_perform_42 ?_
    refine me_t (x := (K 4 (st_y K) + K 3 (st_p K)) &&& 31) (y := nI (st_a K)) (ha) ?_
    refine lv_istore hx hb dX1_perform_43 hl (by decide) rfl (fun ls hl => ?_)
    have hl : lv_has ls 6 [(5, .int (nI (st_a K))), (4, .int (K 3 (st_p K))), (3, .int (nI (st_y K))), (2, .int (nI (st_x K))), (0, .ref (a 0)), (1, .ref (b 0))] := hl
    refine lv_aload_n hx hb dX1_perform_45 rfl (lv_at hl 4 rfl) ?_
    refine va_get (D := D) (ci := 1) (v := .ref (a 2)) (C := RX1) (T := TX1) (N := 8) hx hb hg inX1 hown hK hP 0 rfl rfl 1 (by decide) (hg _ bw_1_69) (fun _ h9 => h9) rfl dX1_perform_46 ?_
    refine lv_aload_n hx hb dX1_perform_49 rfl (lv_at hl 4 rfl) ?_
    refine va_get (D := D) (ci := 1) (v := .int (K 5 0)) (C := RX1) (T := TX1) (N := 8) hx hb hg inX1 hown hK hP 0 rfl rfl 6 (by decide) (hg _ bw_1_75) (fun _ h9 => h9) rfl dX1_perform_50 ?_
    refine me_t (x := K 5 0) (y := nI (st_p K)) (hp) ?_
    refine me_ild hx hb hK hP 2 0 rfl rfl (st_p K) (rfl) (by omega) (by omega) dX1_perform_53 ?_
    refine me_t (x := K 0 (st_p K)) (y := nI (1)) (hz) ?_
    refine lv_tableIn (off := 50) (tgt := 104) hx hb dX1_perform_54 (by decide) (by decide) (by decide) (by decide) ?_
    refine lv_aload_n hx hb dX1_perform_104 rfl (lv_at hl 4 rfl) ?_
    refine va_get (D := D) (ci := 1) (v := .ref (a 1)) (C := RX1) (T := TX1) (N := 8) hx hb hg inX1 hown hK hP 0 rfl rfl 0 (by decide) (hg _ bw_1_67) (fun _ h9 => h9) rfl dX1_perform_105 ?_
    refine lv_iload_n hx hb dX1_perform_108 rfl (lv_at hl 3 rfl) ?_
    refine lv_iload hx hb dX1_perform_109 (lv_at hl 1 rfl) ?_
    refine me_ist hx hb hK hP hD hS 1 0 rfl rfl (st_x K) (rfl) (by omega) (by omega) dX1_perform_111 (fun H locs hP hD hS => ?_)
    have hP : va_P D vwCl [(a 0, .inr (1, [.ref (a 1), .ref (a 2), .ref (a 3), .ref (a 4), .ref (a 5), .ref (a 6), .int (K 5 0), .int (K 6 0)])), (a 1, .inl (cI, 4, .inl (upd (K 4) (st_x K) (K 3 (st_p K))))), (a 2, .inl (cI, 24, .inl (K 0))), (a 3, .inl (cI, 24, .inl (K 1))), (a 4, .inl (cI, 24, .inl (K 2))), (a 5, .inl (cI, 24, .inl (K 3))), (a 6, .inr (0, [.ref (a 7), .ref (a 8), .ref (a 9), .int (K 7 0)])), (a 7, .inl (cI, ro, .inl (K 8))), (a 8, .inl (cI, ro, .inl (K 9))), (a 9, .inl (cI, ro, .inl (K 10))), (b 0, .inr (2, [.ref (b 1), .ref (b 2), .ref (b 3)])), (b 1, .inl (cI, 32, .inl (M 0))), (b 2, .inl (cI, 32, .inl (M 1))), (b 3, .inl (cZ, 8, .inl (M 2)))] H := hP
    have hD : va_D A [(a 0, .inr (1, [.ref (a 1), .ref (a 2), .ref (a 3), .ref (a 4), .ref (a 5), .ref (a 6), .int (K 5 0), .int (K 6 0)])), (a 1, .inl (cI, 4, .inl (upd (K 4) (st_x K) (K 3 (st_p K))))), (a 2, .inl (cI, 24, .inl (K 0))), (a 3, .inl (cI, 24, .inl (K 1))), (a 4, .inl (cI, 24, .inl (K 2))), (a 5, .inl (cI, 24, .inl (K 3))), (a 6, .inr (0, [.ref (a 7), .ref (a 8), .ref (a 9), .int (K 7 0)])), (a 7, .inl (cI, ro, .inl (K 8))), (a 8, .inl (cI, ro, .inl (K 9))), (a 9, .inl (cI, ro, .inl (K 10))), (b 0, .inr (2, [.ref (b 1), .ref (b 2), .ref (b 3)])), (b 1, .inl (cI, 32, .inl (M 0))), (b 2, .inl (cI, 32, .inl (M 1))), (b 3, .inl (cZ, 8, .inl (M 2)))] := hD
    refine lv_goto (tgt := 237) hx hb dX1_perform_112 (by decide) ?_
    rw [st_peK_1 hz, st_peM_1 hz]
    have hP9 := me_subP (ws' := [(a 0, .inr (1, [.ref (a 1), .ref (a 2), .ref (a 3), .ref (a 4), .ref (a 5), .ref (a 6), .int ((st_ks K 4 (st_x K) (K 3 (st_p K))) 5 0), .int ((st_ks K 4 (st_x K) (K 3 (st_p K))) 6 0)])), (a 1, .inl (cI, 4, .inl ((st_ks K 4 (st_x K) (K 3 (st_p K))) 4))), (a 2, .inl (cI, 24, .inl ((st_ks K 4 (st_x K) (K 3 (st_p K))) 0))), (a 3, .inl (cI, 24, .inl ((st_ks K 4 (st_x K) (K 3 (st_p K))) 1))), (a 4, .inl (cI, 24, .inl ((st_ks K 4 (st_x K) (K 3 (st_p K))) 2))), (a 5, .inl (cI, 24, .inl ((st_ks K 4 (st_x K) (K 3 (st_p K))) 3))), (a 6, .inr (0, [.ref (a 7), .ref (a 8), .ref (a 9), .int ((st_ks K 4 (st_x K) (K 3 (st_p K))) 7 0)])), (a 7, .inl (cI, ro, .inl ((st_ks K 4 (st_x K) (K 3 (st_p K))) 8))), (a 8, .inl (cI, ro, .inl ((st_ks K 4 (st_x K) (K 3 (st_p K))) 9))), (a 9, .inl (cI, ro, .inl ((st_ks K 4 (st_x K) (K 3 (st_p K))) 10))), (b 0, .inr (2, [.ref (b 1), .ref (b 2), .ref (b 3)])), (b 1, .inl (cI, 32, .inl (M 0))), (b 2, .inl (cI, 32, .inl (M 1))), (b 3, .inl (cZ, 8, .inl (M 2)))]) hP [0, 1, 2, 3, 4, 5, 6, 7, 8, 9, 10, 11, 12, 13] rfl
    have hD9 := hD.sub (ws' := [(a 0, .inr (1, [.ref (a 1), .ref (a 2), .ref (a 3), .ref (a 4), .ref (a 5), .ref (a 6), .int ((st_ks K 4 (st_x K) (K 3 (st_p K))) 5 0), .int ((st_ks K 4 (st_x K) (K 3 (st_p K))) 6 0)])), (a 1, .inl (cI, 4, .inl ((st_ks K 4 (st_x K) (K 3 (st_p K))) 4))), (a 2, .inl (cI, 24, .inl ((st_ks K 4 (st_x K) (K 3 (st_p K))) 0))), (a 3, .inl (cI, 24, .inl ((st_ks K 4 (st_x K) (K 3 (st_p K))) 1))), (a 4, .inl (cI, 24, .inl ((st_ks K 4 (st_x K) (K 3 (st_p K))) 2))), (a 5, .inl (cI, 24, .inl ((st_ks K 4 (st_x K) (K 3 (st_p K))) 3))), (a 6, .inr (0, [.ref (a 7), .ref (a 8), .ref (a 9), .int ((st_ks K 4 (st_x K) (K 3 (st_p K))) 7 0)])), (a 7, .inl (cI, ro, .inl ((st_ks K 4 (st_x K) (K 3 (st_p K))) 8))), (a 8, .inl (cI, ro, .inl ((st_ks K 4 (st_x K) (K 3 (st_p K))) 9))), (a 9, .inl (cI, ro, .inl ((st_ks K 4 (st_x K) (K 3 (st_p K))) 10))), (b 0, .inr (2, [.ref (b 1), .ref (b 2), .ref (b 3)])), (b 1, .inl (cI, 32, .inl (M 0))), (b 2, .inl (cI, 32, .inl (M 1))), (b 3, .inl (cZ, 8, .inl (M 2)))]) [0, 1, 2, 3, 4, 5, 6, 7, 8, 9, 10, 11, 12, 13] (by decide) rfl
    exact me_retV hx hb hr hlk hK hS dX1_perform_237 hP9 hD9
  · have hl : lv_has ls 6 [(0, .ref (a 0)), (1, .ref (b 0))] := hl
    refine lv_aload_n hx hb dX1_perform_0 rfl (lv_at hl 0 rfl) ?_
    refine va_get (D := D) (ci := 1) (v := .ref (a 3)) (C := RX1) (T := TX1) (N := 8) hx hb hg inX1 hown hK hP 0 rfl rfl 2 (by decide) (hg _ bw_1_70) (fun _ h9 => h9) rfl dX1_perform_1 ?_
    refine lv_aload_n hx hb dX1_perform_4 rfl (lv_at hl 0 rfl) ?_
    refine va_get (D := D) (ci := 1) (v := .int (K 5 0)) (C := RX1) (T := TX1) (N := 8) hx hb hg inX1 hown hK hP 0 rfl rfl 6 (by decide) (hg _ bw_1_75) (fun _ h9 => h9) rfl dX1_perform_5 ?_
    refine me_t (x := K 5 0) (y := nI (st_p K)) (hp) ?_
    refine me_ild hx hb hK hP 3 0 rfl rfl (st_p K) (rfl) (by omega) (by omega) dX1_perform_8 ?_
    refine me_t (x := K 1 (st_p K)) (y := nI (st_x K)) (hX) ?_
    refine lv_istore_n hx hb dX1_perform_9 rfl hl (by decide) rfl (fun ls hl => ?_)
    have hl : lv_has ls 6 [(2, .int (nI (st_x K))), (0, .ref (a 0)), (1, .ref (b 0))] := hl
    refine lv_aload_n hx hb dX1_perform_10 rfl (lv_at hl 1 rfl) ?_
    refine va_get (D := D) (ci := 1) (v := .ref (a 4)) (C := RX1) (T := TX1) (N := 8) hx hb hg inX1 hown hK hP 0 rfl rfl 3 (by decide) (hg _ bw_1_71) (fun _ h9 => h9) rfl dX1_perform_11 ?_
    refine lv_aload_n hx hb dX1_perform_14 rfl (lv_at hl 1 rfl) ?_
    refine va_get (D := D) (ci := 1) (v := .int (K 5 0)) (C := RX1) (T := TX1) (N := 8) hx hb hg inX1 hown hK hP 0 rfl rfl 6 (by decide) (hg _ bw_1_75) (fun _ h9 => h9) rfl dX1_perform_15 ?_
    refine me_t (x := K 5 0) (y := nI (st_p K)) (hp) ?_
    refine me_ild hx hb hK hP 4 0 rfl rfl (st_p K) (rfl) (by omega) (by omega) dX1_perform_18 ?_
    refine me_t (x := K 2 (st_p K)) (y := nI (st_y K)) (hY) ?_
    refine lv_istore_n hx hb dX1_perform_19 rfl hl (by decide) rfl (fun ls hl => ?_)
    have hl : lv_has ls 6 [(3, .int (nI (st_y K))), (2, .int (nI (st_x K))), (0, .ref (a 0)), (1, .ref (b 0))] := hl
    refine lv_aload_n hx hb dX1_perform_20 rfl (lv_at hl 2 rfl) ?_
    refine va_get (D := D) (ci := 1) (v := .ref (a 5)) (C := RX1) (T := TX1) (N := 8) hx hb hg inX1 hown hK hP 0 rfl rfl 4 (by decide) (hg _ bw_1_72) (fun _ h9 => h9) rfl dX1_perform_21 ?_
    refine lv_aload_n hx hb dX1_perform_24 rfl (lv_at hl 2 rfl) ?_
    refine va_get (D := D) (ci := 1) (v := .int (K 5 0)) (C := RX1) (T := TX1) (N := 8) hx hb hg inX1 hown hK hP 0 rfl rfl 6 (by decide) (hg _ bw_1_75) (fun _ h9 => h9) rfl dX1_perform_25 ?_
    refine me_t (x := K 5 0) (y := nI (st_p K)) (hp) ?_
    refine me_ild hx hb hK hP 5 0 rfl rfl (st_p K) (rfl) (by omega) (by omega) dX1_perform_28 ?_
    refine lv_istore hx hb dX1_perform_29 hl (by decide) rfl (fun ls hl => ?_)
    have hl : lv_has ls 6 [(4, .int (K 3 (st_p K))), (3, .int (nI (st_y K))), (2, .int (nI (st_x K))), (0, .ref (a 0)), (1, .ref (b 0))] := hl
    refine lv_aload_n hx hb dX1_perform_31 rfl (lv_at hl 3 rfl) ?_
    refine va_get (D := D) (ci := 1) (v := .ref (a 1)) (C := RX1) (T := TX1) (N := 8) hx hb hg inX1 hown hK hP 0 rfl rfl 0 (by decide) (hg _ bw_1_67) (fun _ h9 => h9) rfl dX1_perform_32 ?_
    refine lv_iload_n hx hb dX1_perform_35 rfl (lv_at hl 1 rfl) ?_
    refine me_ild hx hb hK hP 1 0 rfl rfl (st_y K) (rfl) (by omega) (by omega) dX1_perform_36 ?_
    refine lv_iload hx hb dX1_perform_37 (lv_at hl 0 rfl) ?_
    refine lv_iadd hx hb dX1_perform_39 ?_
    refine me_t (x := (K 4 (st_y K)) + (K 3 (st_p K))) (y := K 4 (st_y K) + K 3 (st_p K)) (rfl) ?_
    refine lv_bipush (v := 31) hx hb dX1_perform_40 (by decide) ?_
    refine lv_iand hx hb dX1_perform_42 ?_
    refine me_t (x := (K 4 (st_y K) + K 3 (st_p K)) &&& 31) (y := nI (st_a K)) (ha) ?_
    refine lv_istore hx hb dX1_perform_43 hl (by decide) rfl (fun ls hl => ?_)
    have hl : lv_has ls 6 [(5, .int (nI (st_a K))), (4, .int (K 3 (st_p K))), (3, .int (nI (st_y K))), (2, .int (nI (st_x K))), (0, .ref (a 0)), (1, .ref (b 0))] := hl
    refine lv_aload_n hx hb dX1_perform_45 rfl (lv_at hl 4 rfl) ?_
    refine va_get (D := D) (ci := 1) (v := .ref (a 2)) (C := RX1) (T := TX1) (N := 8) hx hb hg inX1 hown hK hP 0 rfl rfl 1 (by decide) (hg _ bw_1_69) (fun _ h9 => h9) rfl dX1_perform_46 ?_
    refine lv_aload_n hx hb dX1_perform_49 rfl (lv_at hl 4 rfl) ?_
    refine va_get (D := D) (ci := 1) (v := .int (K 5 0)) (C := RX1) (T := TX1) (N := 8) hx hb hg inX1 hown hK hP 0 rfl rfl 6 (by decide) (hg _ bw_1_75) (fun _ h9 => h9) rfl dX1_perform_50 ?_
    refine me_t (x := K 5 0) (y := nI (st_p K)) (hp) ?_
    refine me_ild hx hb hK hP 2 0 rfl rfl (st_p K) (rfl) (by omega) (by omega) dX1_perform_53 ?_
    refine me_t (x := K 0 (st_p K)) (y := nI (2)) (hz) ?_
    refine lv_tableIn (off := 61) (tgt := 115) hx hb dX1_perform_54 (by decide) (by decide) (by decide) (by decide) ?_
    refine lv_aload_n hx hb dX1_perform_115 rfl (lv_at hl 4 rfl) ?_
    refine va_get (D := D) (ci := 1) (v := .ref (a 1)) (C := RX1) (T := TX1) (N := 8) hx hb hg inX1 hown hK hP 0 rfl rfl 0 (by decide) (hg _ bw_1_67) (fun _ h9 => h9) rfl dX1_perform_116 ?_
    refine lv_iload_n hx hb dX1_perform_119 rfl (lv_at hl 3 rfl) ?_
    refine lv_aload_n hx hb dX1_perform_120 rfl (lv_at hl 4 rfl) ?_
    refine va_get (D := D) (ci := 1) (v := .ref (a 6)) (C := RX1) (T := TX1) (N := 8) hx hb hg inX1 hown hK hP 0 rfl rfl 5 (by decide) (hg _ bw_1_73) (fun _ h9 => h9) rfl dX1_perform_121 ?_
    refine lv_iload hx hb dX1_perform_124 (lv_at hl 0 rfl) ?_
    refine lv_aload_n hx hb dX1_perform_126 rfl (lv_at hl 5 rfl) ?_
    refine va_getN (D := D) (ci := 2) (v := .ref (b 1)) (C := RX2) (T := TX2) (N := 3) hx hb hg inX2 hown hK hP 10 rfl rfl 0 (by decide) (va_Nw.use rfl (hN _ ne_4)) (fun _ h9 => h9) rfl dX1_perform_127 ?_
    refine lv_iload hx hb dX1_perform_130 (lv_at hl 0 rfl) ?_
    refine me_ild hx hb hK hP 11 0 rfl rfl (st_a K) (rfl) (by omega) (by omega) dX1_perform_132 ?_
    refine me_goI (wr := [(a 0, .inr (1, [.ref (a 1), .ref (a 2), .ref (a 3), .ref (a 4), .ref (a 5), .ref (a 6), .int (K 5 0), .int (K 6 0)])), (a 1, .inl (cI, 4, .inl (K 4))), (a 2, .inl (cI, 24, .inl (K 0))), (a 3, .inl (cI, 24, .inl (K 1))), (a 4, .inl (cI, 24, .inl (K 2))), (a 5, .inl (cI, 24, .inl (K 3))), (b 0, .inr (2, [.ref (b 1), .ref (b 2), .ref (b 3)])), (b 1, .inl (cI, 32, .inl (M 0))), (b 2, .inl (cI, 32, .inl (M 1))), (b 3, .inl (cZ, 8, .inl (M 2)))]) (wc := [(a 6, .inr (0, [.ref (a 7), .ref (a 8), .ref (a 9), .int (K 7 0)])), (a 7, .inl (cI, ro, .inl (K 8))), (a 8, .inl (cI, ro, .inl (K 9))), (a 9, .inl (cI, ro, .inl (K 10)))]) (w1 := [(a 6, .inr (0, [.ref (a 7), .ref (a 8), .ref (a 9), .int (K 7 0)])), (a 7, .inl (cI, ro, .inl (K 8))), (a 8, .inl (cI, ro, .inl (K 9))), (a 9, .inl (cI, ro, .inl (K 10)))]) (va_runVN (C := RX0) (b := a 6) (As := [.int (nI (st_a K)), .int (M 0 (st_a K))]) (rest := [.int (nI (st_x K)), .ref (a 1)]) ⟨hx, hb, hml, hown, hg⟩ (c_bu_newest l D cI cZ cR a ro K (nI (st_a K)) (M 0 (st_a K)) hh hb1 hro s.heap.size) ⟨va_cnB 2 hg (bg_gi (fun _ h => h) bw_1_152) rfl rfl rfl (hN _ ne_6) (hg _ bw_1_4) (by decide +kernel) ⟨Nat.le_of_ble_eq_true rfl, Nat.le_of_ble_eq_true rfl⟩, (hg _ bw_1_151), (hg _ bw_s_7)⟩ (me_preV (wc := [(a 6, .inr (0, [.ref (a 7), .ref (a 8), .ref (a 9), .int (K 7 0)])), (a 7, .inl (cI, ro, .inl (K 8))), (a 8, .inl (cI, ro, .inl (K 9))), (a 9, .inl (cI, ro, .inl (K 10)))]) hP hD hK hN [6, 7, 8, 9] rfl (by decide) (va_recv (q0 := 6) (ci := 0) hK hP rfl rfl)) rfl rfl hl.1 rfl (lv_room (Nat.le_of_ble_eq_true rfl)) dX1_perform_133 ⟨Nat.zero_le _, Nat.zero_le _⟩) hP hD hS hA [6, 7, 8, 9] [0, 1, 2, 3, 4, 5, 10, 11, 12, 13] rfl rfl (by decide) (by decide) (fun H locs hP hD hS => ?_)
    have hP : va_P D vwCl [(a 0, .inr (1, [.ref (a 1), .ref (a 2), .ref (a 3), .ref (a 4), .ref (a 5), .ref (a 6), .int (K 5 0), .int (K 6 0)])), (a 1, .inl (cI, 4, .inl (K 4))), (a 2, .inl (cI, 24, .inl (K 0))), (a 3, .inl (cI, 24, .inl (K 1))), (a 4, .inl (cI, 24, .inl (K 2))), (a 5, .inl (cI, 24, .inl (K 3))), (b 0, .inr (2, [.ref (b 1), .ref (b 2), .ref (b 3)])), (b 1, .inl (cI, 32, .inl (M 0))), (b 2, .inl (cI, 32, .inl (M 1))), (b 3, .inl (cZ, 8, .inl (M 2))), (a 6, .inr (0, [.ref (a 7), .ref (a 8), .ref (a 9), .int (K 7 0)])), (a 7, .inl (cI, ro, .inl (K 8))), (a 8, .inl (cI, ro, .inl (K 9))), (a 9, .inl (cI, ro, .inl (K 10)))] H := hP
    have hD : va_D A [(a 0, .inr (1, [.ref (a 1), .ref (a 2), .ref (a 3), .ref (a 4), .ref (a 5), .ref (a 6), .int (K 5 0), .int (K 6 0)])), (a 1, .inl (cI, 4, .inl (K 4))), (a 2, .inl (cI, 24, .inl (K 0))), (a 3, .inl (cI, 24, .inl (K 1))), (a 4, .inl (cI, 24, .inl (K 2))), (a 5, .inl (cI, 24, .inl (K 3))), (b 0, .inr (2, [.ref (b 1), .ref (b 2), .ref (b 3)])), (b 1, .inl (cI, 32, .inl (M 0))), (b 2, .inl (cI, 32, .inl (M 1))), (b 3, .inl (cZ, 8, .inl (M 2))), (a 6, .inr (0, [.ref (a 7), .ref (a 8), .ref (a 9), .int (K 7 0)])), (a 7, .inl (cI, ro, .inl (K 8))), (a 8, .inl (cI, ro, .inl (K 9))), (a 9, .inl (cI, ro, .inl (K 10)))] := hD
    refine me_ist hx hb hK hP hD hS 1 0 rfl rfl (st_x K) (rfl) (by omega) (by omega) dX1_perform_136 (fun H locs hP hD hS => ?_)
    have hP : va_P D vwCl [(a 0, .inr (1, [.ref (a 1), .ref (a 2), .ref (a 3), .ref (a 4), .ref (a 5), .ref (a 6), .int (K 5 0), .int (K 6 0)])), (a 1, .inl (cI, 4, .inl (upd (K 4) (st_x K) (st_nv K (nI (st_a K)) (M 0 (st_a K)) (st_h K))))), (a 2, .inl (cI, 24, .inl (K 0))), (a 3, .inl (cI, 24, .inl (K 1))), (a 4, .inl (cI, 24, .inl (K 2))), (a 5, .inl (cI, 24, .inl (K 3))), (b 0, .inr (2, [.ref (b 1), .ref (b 2), .ref (b 3)])), (b 1, .inl (cI, 32, .inl (M 0))), (b 2, .inl (cI, 32, .inl (M 1))), (b 3, .inl (cZ, 8, .inl (M 2))), (a 6, .inr (0, [.ref (a 7), .ref (a 8), .ref (a 9), .int (K 7 0)])), (a 7, .inl (cI, ro, .inl (K 8))), (a 8, .inl (cI, ro, .inl (K 9))), (a 9, .inl (cI, ro, .inl (K 10)))] H := hP
    have hD : va_D A [(a 0, .inr (1, [.ref (a 1), .ref (a 2), .ref (a 3), .ref (a 4), .ref (a 5), .ref (a 6), .int (K 5 0), .int (K 6 0)])), (a 1, .inl (cI, 4, .inl (upd (K 4) (st_x K) (st_nv K (nI (st_a K)) (M 0 (st_a K)) (st_h K))))), (a 2, .inl (cI, 24, .inl (K 0))), (a 3, .inl (cI, 24, .inl (K 1))), (a 4, .inl (cI, 24, .inl (K 2))), (a 5, .inl (cI, 24, .inl (K 3))), (b 0, .inr (2, [.ref (b 1), .ref (b 2), .ref (b 3)])), (b 1, .inl (cI, 32, .inl (M 0))), (b 2, .inl (cI, 32, .inl (M 1))), (b 3, .inl (cZ, 8, .inl (M 2))), (a 6, .inr (0, [.ref (a 7), .ref (a 8), .ref (a 9), .int (K 7 0)])), (a 7, .inl (cI, ro, .inl (K 8))), (a 8, .inl (cI, ro, .inl (K 9))), (a 9, .inl (cI, ro, .inl (K 10)))] := hD
    refine lv_goto (tgt := 237) hx hb dX1_perform_137 (by decide) ?_
    rw [st_peK_2 hz, st_peM_2 hz]
    have hP9 := me_subP (ws' := [(a 0, .inr (1, [.ref (a 1), .ref (a 2), .ref (a 3), .ref (a 4), .ref (a 5), .ref (a 6), .int ((st_ks K 4 (st_x K) (st_nv K (nI (st_a K)) (M 0 (st_a K)) (st_h K))) 5 0), .int ((st_ks K 4 (st_x K) (st_nv K (nI (st_a K)) (M 0 (st_a K)) (st_h K))) 6 0)])), (a 1, .inl (cI, 4, .inl ((st_ks K 4 (st_x K) (st_nv K (nI (st_a K)) (M 0 (st_a K)) (st_h K))) 4))), (a 2, .inl (cI, 24, .inl ((st_ks K 4 (st_x K) (st_nv K (nI (st_a K)) (M 0 (st_a K)) (st_h K))) 0))), (a 3, .inl (cI, 24, .inl ((st_ks K 4 (st_x K) (st_nv K (nI (st_a K)) (M 0 (st_a K)) (st_h K))) 1))), (a 4, .inl (cI, 24, .inl ((st_ks K 4 (st_x K) (st_nv K (nI (st_a K)) (M 0 (st_a K)) (st_h K))) 2))), (a 5, .inl (cI, 24, .inl ((st_ks K 4 (st_x K) (st_nv K (nI (st_a K)) (M 0 (st_a K)) (st_h K))) 3))), (a 6, .inr (0, [.ref (a 7), .ref (a 8), .ref (a 9), .int ((st_ks K 4 (st_x K) (st_nv K (nI (st_a K)) (M 0 (st_a K)) (st_h K))) 7 0)])), (a 7, .inl (cI, ro, .inl ((st_ks K 4 (st_x K) (st_nv K (nI (st_a K)) (M 0 (st_a K)) (st_h K))) 8))), (a 8, .inl (cI, ro, .inl ((st_ks K 4 (st_x K) (st_nv K (nI (st_a K)) (M 0 (st_a K)) (st_h K))) 9))), (a 9, .inl (cI, ro, .inl ((st_ks K 4 (st_x K) (st_nv K (nI (st_a K)) (M 0 (st_a K)) (st_h K))) 10))), (b 0, .inr (2, [.ref (b 1), .ref (b 2), .ref (b 3)])), (b 1, .inl (cI, 32, .inl (M 0))), (b 2, .inl (cI, 32, .inl (M 1))), (b 3, .inl (cZ, 8, .inl (M 2)))]) hP [0, 1, 2, 3, 4, 5, 10, 11, 12, 13, 6, 7, 8, 9] rfl
    have hD9 := hD.sub (ws' := [(a 0, .inr (1, [.ref (a 1), .ref (a 2), .ref (a 3), .ref (a 4), .ref (a 5), .ref (a 6), .int ((st_ks K 4 (st_x K) (st_nv K (nI (st_a K)) (M 0 (st_a K)) (st_h K))) 5 0), .int ((st_ks K 4 (st_x K) (st_nv K (nI (st_a K)) (M 0 (st_a K)) (st_h K))) 6 0)])), (a 1, .inl (cI, 4, .inl ((st_ks K 4 (st_x K) (st_nv K (nI (st_a K)) (M 0 (st_a K)) (st_h K))) 4))), (a 2, .inl (cI, 24, .inl ((st_ks K 4 (st_x K) (st_nv K (nI (st_a K)) (M 0 (st_a K)) (st_h K))) 0))), (a 3, .inl (cI, 24, .inl ((st_ks K 4 (st_x K) (st_nv K (nI (st_a K)) (M 0 (st_a K)) (st_h K))) 1))), (a 4, .inl (cI, 24, .inl ((st_ks K 4 (st_x K) (st_nv K (nI (st_a K)) (M 0 (st_a K)) (st_h K))) 2))), (a 5, .inl (cI, 24, .inl ((st_ks K 4 (st_x K) (st_nv K (nI (st_a K)) (M 0 (st_a K)) (st_h K))) 3))), (a 6, .inr (0, [.ref (a 7), .ref (a 8), .ref (a 9), .int ((st_ks K 4 (st_x K) (st_nv K (nI (st_a K)) (M 0 (st_a K)) (st_h K))) 7 0)])), (a 7, .inl (cI, ro, .inl ((st_ks K 4 (st_x K) (st_nv K (nI (st_a K)) (M 0 (st_a K)) (st_h K))) 8))), (a 8, .inl (cI, ro, .inl ((st_ks K 4 (st_x K) (st_nv K (nI (st_a K)) (M 0 (st_a K)) (st_h K))) 9))), (a 9, .inl (cI, ro, .inl ((st_ks K 4 (st_x K) (st_nv K (nI (st_a K)) (M 0 (st_a K)) (st_h K))) 10))), (b 0, .inr (2, [.ref (b 1), .ref (b 2), .ref (b 3)])), (b 1, .inl (cI, 32, .inl (M 0))), (b 2, .inl (cI, 32, .inl (M 1))), (b 3, .inl (cZ, 8, .inl (M 2)))]) [0, 1, 2, 3, 4, 5, 10, 11, 12, 13, 6, 7, 8, 9] (by decide) rfl
    exact me_retV hx hb hr hlk hK hS dX1_perform_237 hP9 hD9
  · have hl : lv_has ls 6 [(0, .ref (a 0)), (1, .ref (b 0))] := hl
    refine lv_aload_n hx hb dX1_perform_0 rfl (lv_at hl 0 rfl) ?_
    refine va_get (D := D) (ci := 1) (v := .ref (a 3)) (C := RX1) (T := TX1) (N := 8) hx hb hg inX1 hown hK hP 0 rfl rfl 2 (by decide) (hg _ bw_1_70) (fun _ h9 => h9) rfl dX1_perform_1 ?_
    refine lv_aload_n hx hb dX1_perform_4 rfl (lv_at hl 0 rfl) ?_
    refine va_get (D := D) (ci := 1) (v := .int (K 5 0)) (C := RX1) (T := TX1) (N := 8) hx hb hg inX1 hown hK hP 0 rfl rfl 6 (by decide) (hg _ bw_1_75) (fun _ h9 => h9) rfl dX1_perform_5 ?_
    refine me_t (x := K 5 0) (y := nI (st_p K)) (hp) ?_
    refine me_ild hx hb hK hP 3 0 rfl rfl (st_p K) (rfl) (by omega) (by omega) dX1_perform_8 ?_
    refine me_t (x := K 1 (st_p K)) (y := nI (st_x K)) (hX) ?_
    refine lv_istore_n hx hb dX1_perform_9 rfl hl (by decide) rfl (fun ls hl => ?_)
    have hl : lv_has ls 6 [(2, .int (nI (st_x K))), (0, .ref (a 0)), (1, .ref (b 0))] := hl
    refine lv_aload_n hx hb dX1_perform_10 rfl (lv_at hl 1 rfl) ?_
    refine va_get (D := D) (ci := 1) (v := .ref (a 4)) (C := RX1) (T := TX1) (N := 8) hx hb hg inX1 hown hK hP 0 rfl rfl 3 (by decide) (hg _ bw_1_71) (fun _ h9 => h9) rfl dX1_perform_11 ?_
    refine lv_aload_n hx hb dX1_perform_14 rfl (lv_at hl 1 rfl) ?_
    refine va_get (D := D) (ci := 1) (v := .int (K 5 0)) (C := RX1) (T := TX1) (N := 8) hx hb hg inX1 hown hK hP 0 rfl rfl 6 (by decide) (hg _ bw_1_75) (fun _ h9 => h9) rfl dX1_perform_15 ?_
    refine me_t (x := K 5 0) (y := nI (st_p K)) (hp) ?_
    refine me_ild hx hb hK hP 4 0 rfl rfl (st_p K) (rfl) (by omega) (by omega) dX1_perform_18 ?_
    refine me_t (x := K 2 (st_p K)) (y := nI (st_y K)) (hY) ?_
    refine lv_istore_n hx hb dX1_perform_19 rfl hl (by decide) rfl (fun ls hl => ?_)
    have hl : lv_has ls 6 [(3, .int (nI (st_y K))), (2, .int (nI (st_x K))), (0, .ref (a 0)), (1, .ref (b 0))] := hl
    refine lv_aload_n hx hb dX1_perform_20 rfl (lv_at hl 2 rfl) ?_
    refine va_get (D := D) (ci := 1) (v := .ref (a 5)) (C := RX1) (T := TX1) (N := 8) hx hb hg inX1 hown hK hP 0 rfl rfl 4 (by decide) (hg _ bw_1_72) (fun _ h9 => h9) rfl dX1_perform_21 ?_
    refine lv_aload_n hx hb dX1_perform_24 rfl (lv_at hl 2 rfl) ?_
    refine va_get (D := D) (ci := 1) (v := .int (K 5 0)) (C := RX1) (T := TX1) (N := 8) hx hb hg inX1 hown hK hP 0 rfl rfl 6 (by decide) (hg _ bw_1_75) (fun _ h9 => h9) rfl dX1_perform_25 ?_
    refine me_t (x := K 5 0) (y := nI (st_p K)) (hp) ?_
    refine me_ild hx hb hK hP 5 0 rfl rfl (st_p K) (rfl) (by omega) (by omega) dX1_perform_28 ?_
    refine lv_istore hx hb dX1_perform_29 hl (by decide) rfl (fun ls hl => ?_)
    have hl : lv_has ls 6 [(4, .int (K 3 (st_p K))), (3, .int (nI (st_y K))), (2, .int (nI (st_x K))), (0, .ref (a 0)), (1, .ref (b 0))] := hl
    refine lv_aload_n hx hb dX1_perform_31 rfl (lv_at hl 3 rfl) ?_
    refine va_get (D := D) (ci := 1) (v := .ref (a 1)) (C := RX1) (T := TX1) (N := 8) hx hb hg inX1 hown hK hP 0 rfl rfl 0 (by decide) (hg _ bw_1_67) (fun _ h9 => h9) rfl dX1_perform_32 ?_
    refine lv_iload_n hx hb dX1_perform_35 rfl (lv_at hl 1 rfl) ?_
    refine me_ild hx hb hK hP 1 0 rfl rfl (st_y K) (rfl) (by omega) (by omega) dX1_perform_36 ?_
    refine lv_iload hx hb dX1_perform_37 (lv_at hl 0 rfl) ?_
    refine lv_iadd hx hb dX1_perform_39 ?_
    refine me_t (x := (K 4 (st_y K)) + (K 3 (st_p K))) (y := K 4 (st_y K) + K 3 (st_p K)) (rfl) ?_
    refine lv_bipush (v := 31) hx hb dX1_perform_40 (by decide) ?_
    refine lv_iand hx hb dX1_perform_42 ?_
    refine me_t (x := (K 4 (st_y K) + K 3 (st_p K)) &&& 31) (y := nI (st_a K)) (ha) ?_
    refine lv_istore hx hb dX1_perform_43 hl (by decide) rfl (fun ls hl => ?_)
    have hl : lv_has ls 6 [(5, .int (nI (st_a K))), (4, .int (K 3 (st_p K))), (3, .int (nI (st_y K))), (2, .int (nI (st_x K))), (0, .ref (a 0)), (1, .ref (b 0))] := hl
    refine lv_aload_n hx hb dX1_perform_45 rfl (lv_at hl 4 rfl) ?_
    refine va_get (D := D) (ci := 1) (v := .ref (a 2)) (C := RX1) (T := TX1) (N := 8) hx hb hg inX1 hown hK hP 0 rfl rfl 1 (by decide) (hg _ bw_1_69) (fun _ h9 => h9) rfl dX1_perform_46 ?_
    refine lv_aload_n hx hb dX1_perform_49 rfl (lv_at hl 4 rfl) ?_
    refine va_get (D := D) (ci := 1) (v := .int (K 5 0)) (C := RX1) (T := TX1) (N := 8) hx hb hg inX1 hown hK hP 0 rfl rfl 6 (by decide) (hg _ bw_1_75) (fun _ h9 => h9) rfl dX1_perform_50 ?_
    refine me_t (x := K 5 0) (y := nI (st_p K)) (hp) ?_
    refine me_ild hx hb hK hP 2 0 rfl rfl (st_p K) (rfl) (by omega) (by omega) dX1_perform_53 ?_
    refine me_t (x := K 0 (st_p K)) (y := nI (3)) (hz) ?_
    refine lv_tableIn (off := 86) (tgt := 140) hx hb dX1_perform_54 (by decide) (by decide) (by decide) (by decide) ?_
    refine lv_aload_n hx hb dX1_perform_140 rfl (lv_at hl 4 rfl) ?_
    refine va_get (D := D) (ci := 1) (v := .ref (a 6)) (C := RX1) (T := TX1) (N := 8) hx hb hg inX1 hown hK hP 0 rfl rfl 5 (by decide) (hg _ bw_1_73) (fun _ h9 => h9) rfl dX1_perform_141 ?_
    refine lv_iconst (v := 0) hx hb dX1_perform_144 (by decide) ?_
    refine lv_iload hx hb dX1_perform_145 (lv_at hl 0 rfl) ?_
    refine lv_aload_n hx hb dX1_perform_147 rfl (lv_at hl 4 rfl) ?_
    refine va_get (D := D) (ci := 1) (v := .ref (a 1)) (C := RX1) (T := TX1) (N := 8) hx hb hg inX1 hown hK hP 0 rfl rfl 0 (by decide) (hg _ bw_1_67) (fun _ h9 => h9) rfl dX1_perform_148 ?_
    refine lv_iload_n hx hb dX1_perform_151 rfl (lv_at hl 3 rfl) ?_
    refine me_ild hx hb hK hP 1 0 rfl rfl (st_x K) (rfl) (by omega) (by omega) dX1_perform_152 ?_
    refine me_goV (wr := [(a 0, .inr (1, [.ref (a 1), .ref (a 2), .ref (a 3), .ref (a 4), .ref (a 5), .ref (a 6), .int (K 5 0), .int (K 6 0)])), (a 1, .inl (cI, 4, .inl (K 4))), (a 2, .inl (cI, 24, .inl (K 0))), (a 3, .inl (cI, 24, .inl (K 1))), (a 4, .inl (cI, 24, .inl (K 2))), (a 5, .inl (cI, 24, .inl (K 3))), (b 0, .inr (2, [.ref (b 1), .ref (b 2), .ref (b 3)])), (b 1, .inl (cI, 32, .inl (M 0))), (b 2, .inl (cI, 32, .inl (M 1))), (b 3, .inl (cZ, 8, .inl (M 2)))]) (wc := [(a 6, .inr (0, [.ref (a 7), .ref (a 8), .ref (a 9), .int (K 7 0)])), (a 7, .inl (cI, ro, .inl (K 8))), (a 8, .inl (cI, ro, .inl (K 9))), (a 9, .inl (cI, ro, .inl (K 10)))]) (w1 := [(a 6, .inr (0, [.ref (a 7), .ref (a 8), .ref (a 9), .int ((st_ap K 0 (nI (st_a K)) (K 4 (st_x K))) 7 0)])), (a 7, .inl (cI, ro, .inl ((st_ap K 0 (nI (st_a K)) (K 4 (st_x K))) 8))), (a 8, .inl (cI, ro, .inl ((st_ap K 0 (nI (st_a K)) (K 4 (st_x K))) 9))), (a 9, .inl (cI, ro, .inl ((st_ap K 0 (nI (st_a K)) (K 4 (st_x K))) 10)))]) (va_runVN (C := RX0) (b := a 6) (As := [.int (0), .int (nI (st_a K)), .int (K 4 (st_x K))]) (rest := []) ⟨hx, hb, hml, hown, hg⟩ (c_bu_append l D cI cZ cR a ro K 0 (nI (st_a K)) (K 4 (st_x K)) hh (Nat.lt_of_not_le (fun q => hnw ((st_wq3 (by decide)).mpr q))) hro s.heap.size) ⟨va_cnB 3 hg (bg_gi (fun _ h => h) bw_1_156) rfl rfl rfl (hN _ ne_7) (hg _ bw_1_4) (by decide +kernel) ⟨Nat.le_of_ble_eq_true rfl, Nat.le_of_ble_eq_true rfl⟩, (hg _ bw_1_155), (hg _ bw_s_8)⟩ (me_preV (wc := [(a 6, .inr (0, [.ref (a 7), .ref (a 8), .ref (a 9), .int (K 7 0)])), (a 7, .inl (cI, ro, .inl (K 8))), (a 8, .inl (cI, ro, .inl (K 9))), (a 9, .inl (cI, ro, .inl (K 10)))]) hP hD hK hN [6, 7, 8, 9] rfl (by decide) (va_recv (q0 := 6) (ci := 0) hK hP rfl rfl)) rfl rfl hl.1 rfl (lv_room (Nat.le_of_ble_eq_true rfl)) dX1_perform_153 ⟨Nat.zero_le _, Nat.zero_le _⟩) hP hD hS hA [6, 7, 8, 9] [0, 1, 2, 3, 4, 5, 10, 11, 12, 13] rfl rfl (by decide) (by decide) (fun H locs hP hD hS => ?_)
    have hP : va_P D vwCl [(a 0, .inr (1, [.ref (a 1), .ref (a 2), .ref (a 3), .ref (a 4), .ref (a 5), .ref (a 6), .int (K 5 0), .int (K 6 0)])), (a 1, .inl (cI, 4, .inl (K 4))), (a 2, .inl (cI, 24, .inl (K 0))), (a 3, .inl (cI, 24, .inl (K 1))), (a 4, .inl (cI, 24, .inl (K 2))), (a 5, .inl (cI, 24, .inl (K 3))), (b 0, .inr (2, [.ref (b 1), .ref (b 2), .ref (b 3)])), (b 1, .inl (cI, 32, .inl (M 0))), (b 2, .inl (cI, 32, .inl (M 1))), (b 3, .inl (cZ, 8, .inl (M 2))), (a 6, .inr (0, [.ref (a 7), .ref (a 8), .ref (a 9), .int ((st_ap K 0 (nI (st_a K)) (K 4 (st_x K))) 7 0)])), (a 7, .inl (cI, ro, .inl ((st_ap K 0 (nI (st_a K)) (K 4 (st_x K))) 8))), (a 8, .inl (cI, ro, .inl ((st_ap K 0 (nI (st_a K)) (K 4 (st_x K))) 9))), (a 9, .inl (cI, ro, .inl ((st_ap K 0 (nI (st_a K)) (K 4 (st_x K))) 10)))] H := hP
    have hD : va_D A [(a 0, .inr (1, [.ref (a 1), .ref (a 2), .ref (a 3), .ref (a 4), .ref (a 5), .ref (a 6), .int (K 5 0), .int (K 6 0)])), (a 1, .inl (cI, 4, .inl (K 4))), (a 2, .inl (cI, 24, .inl (K 0))), (a 3, .inl (cI, 24, .inl (K 1))), (a 4, .inl (cI, 24, .inl (K 2))), (a 5, .inl (cI, 24, .inl (K 3))), (b 0, .inr (2, [.ref (b 1), .ref (b 2), .ref (b 3)])), (b 1, .inl (cI, 32, .inl (M 0))), (b 2, .inl (cI, 32, .inl (M 1))), (b 3, .inl (cZ, 8, .inl (M 2))), (a 6, .inr (0, [.ref (a 7), .ref (a 8), .ref (a 9), .int ((st_ap K 0 (nI (st_a K)) (K 4 (st_x K))) 7 0)])), (a 7, .inl (cI, ro, .inl ((st_ap K 0 (nI (st_a K)) (K 4 (st_x K))) 8))), (a 8, .inl (cI, ro, .inl ((st_ap K 0 (nI (st_a K)) (K 4 (st_x K))) 9))), (a 9, .inl (cI, ro, .inl ((st_ap K 0 (nI (st_a K)) (K 4 (st_x K))) 10)))] := hD
    refine lv_goto (tgt := 237) hx hb dX1_perform_156 (by decide) ?_
    rw [st_peK_3 hz, st_peM_3 hz]
    have hP9 := me_subP (ws' := [(a 0, .inr (1, [.ref (a 1), .ref (a 2), .ref (a 3), .ref (a 4), .ref (a 5), .ref (a 6), .int ((st_ap K 0 (nI (st_a K)) (K 4 (st_x K))) 5 0), .int ((st_ap K 0 (nI (st_a K)) (K 4 (st_x K))) 6 0)])), (a 1, .inl (cI, 4, .inl ((st_ap K 0 (nI (st_a K)) (K 4 (st_x K))) 4))), (a 2, .inl (cI, 24, .inl ((st_ap K 0 (nI (st_a K)) (K 4 (st_x K))) 0))), (a 3, .inl (cI, 24, .inl ((st_ap K 0 (nI (st_a K)) (K 4 (st_x K))) 1))), (a 4, .inl (cI, 24, .inl ((st_ap K 0 (nI (st_a K)) (K 4 (st_x K))) 2))), (a 5, .inl (cI, 24, .inl ((st_ap K 0 (nI (st_a K)) (K 4 (st_x K))) 3))), (a 6, .inr (0, [.ref (a 7), .ref (a 8), .ref (a 9), .int ((st_ap K 0 (nI (st_a K)) (K 4 (st_x K))) 7 0)])), (a 7, .inl (cI, ro, .inl ((st_ap K 0 (nI (st_a K)) (K 4 (st_x K))) 8))), (a 8, .inl (cI, ro, .inl ((st_ap K 0 (nI (st_a K)) (K 4 (st_x K))) 9))), (a 9, .inl (cI, ro, .inl ((st_ap K 0 (nI (st_a K)) (K 4 (st_x K))) 10))), (b 0, .inr (2, [.ref (b 1), .ref (b 2), .ref (b 3)])), (b 1, .inl (cI, 32, .inl (M 0))), (b 2, .inl (cI, 32, .inl (M 1))), (b 3, .inl (cZ, 8, .inl (M 2)))]) hP [0, 1, 2, 3, 4, 5, 10, 11, 12, 13, 6, 7, 8, 9] rfl
    have hD9 := hD.sub (ws' := [(a 0, .inr (1, [.ref (a 1), .ref (a 2), .ref (a 3), .ref (a 4), .ref (a 5), .ref (a 6), .int ((st_ap K 0 (nI (st_a K)) (K 4 (st_x K))) 5 0), .int ((st_ap K 0 (nI (st_a K)) (K 4 (st_x K))) 6 0)])), (a 1, .inl (cI, 4, .inl ((st_ap K 0 (nI (st_a K)) (K 4 (st_x K))) 4))), (a 2, .inl (cI, 24, .inl ((st_ap K 0 (nI (st_a K)) (K 4 (st_x K))) 0))), (a 3, .inl (cI, 24, .inl ((st_ap K 0 (nI (st_a K)) (K 4 (st_x K))) 1))), (a 4, .inl (cI, 24, .inl ((st_ap K 0 (nI (st_a K)) (K 4 (st_x K))) 2))), (a 5, .inl (cI, 24, .inl ((st_ap K 0 (nI (st_a K)) (K 4 (st_x K))) 3))), (a 6, .inr (0, [.ref (a 7), .ref (a 8), .ref (a 9), .int ((st_ap K 0 (nI (st_a K)) (K 4 (st_x K))) 7 0)])), (a 7, .inl (cI, ro, .inl ((st_ap K 0 (nI (st_a K)) (K 4 (st_x K))) 8))), (a 8, .inl (cI, ro, .inl ((st_ap K 0 (nI (st_a K)) (K 4 (st_x K))) 9))), (a 9, .inl (cI, ro, .inl ((st_ap K 0 (nI (st_a K)) (K 4 (st_x K))) 10))), (b 0, .inr (2, [.ref (b 1), .ref (b 2), .ref (b 3)])), (b 1, .inl (cI, 32, .inl (M 0))), (b 2, .inl (cI, 32, .inl (M 1))), (b 3, .inl (cZ, 8, .inl (M 2)))]) [0, 1, 2, 3, 4, 5, 10, 11, 12, 13, 6, 7, 8, 9] (by decide) rfl
    exact me_retV hx hb hr hlk hK hS dX1_perform_237 hP9 hD9
  · have hl : lv_has ls 6 [(0, .ref (a 0)), (1, .ref (b 0))] := hl
    refine lv_aload_n hx hb dX1_perform_0 rfl (lv_at hl 0 rfl) ?_
    refine va_get (D := D) (ci := 1) (v := .ref (a 3)) (C := RX1) (T := TX1) (N := 8) hx hb hg inX1 hown hK hP 0 rfl rfl 2 (by decide) (hg _ bw_1_70) (fun _ h9 => h9) rfl dX1_perform_1 ?_
    refine lv_aload_n hx hb dX1_perform_4 rfl (lv_at hl 0 rfl) ?_
    refine va_get (D := D) (ci := 1) (v := .int (K 5 0)) (C := RX1) (T := TX1) (N := 8) hx hb hg inX1 hown hK hP 0 rfl rfl 6 (by decide) (hg _ bw_1_75) (fun _ h9 => h9) rfl dX1_perform_5 ?_
    refine me_t (x := K 5 0) (y := nI (st_p K)) (hp) ?_
    refine me_ild hx hb hK hP 3 0 rfl rfl (st_p K) (rfl) (by omega) (by omega) dX1_perform_8 ?_
    refine me_t (x := K 1 (st_p K)) (y := nI (st_x K)) (hX) ?_
    refine lv_istore_n hx hb dX1_perform_9 rfl hl (by decide) rfl (fun ls hl => ?_)
    have hl : lv_has ls 6 [(2, .int (nI (st_x K))), (0, .ref (a 0)), (1, .ref (b 0))] := hl
    refine lv_aload_n hx hb dX1_perform_10 rfl (lv_at hl 1 rfl) ?_
    refine va_get (D := D) (ci := 1) (v := .ref (a 4)) (C := RX1) (T := TX1) (N := 8) hx hb hg inX1 hown hK hP 0 rfl rfl 3 (by decide) (hg _ bw_1_71) (fun _ h9 => h9) rfl dX1_perform_11 ?_
    refine lv_aload_n hx hb dX1_perform_14 rfl (lv_at hl 1 rfl) ?_
    refine va_get (D := D) (ci := 1) (v := .int (K 5 0)) (C := RX1) (T := TX1) (N := 8) hx hb hg inX1 hown hK hP 0 rfl rfl 6 (by decide) (hg _ bw_1_75) (fun _ h9 => h9) rfl dX1_perform_15 ?_
    refine me_t (x := K 5 0) (y := nI (st_p K)) (hp) ?_
    refine me_ild hx hb hK hP 4 0 rfl rfl (st_p K) (rfl) (by omega) (by omega) dX1_perform_18 ?_
    refine me_t (x := K 2 (st_p K)) (y := nI (st_y K)) (hY) ?_
    refine lv_istore_n hx hb dX1_perform_19 rfl hl (by decide) rfl (fun ls hl => ?_)
    have hl : lv_has ls 6 [(3, .int (nI (st_y K))), (2, .int (nI (st_x K))), (0, .ref (a 0)), (1, .ref (b 0))] := hl
    refine lv_aload_n hx hb dX1_perform_20 rfl (lv_at hl 2 rfl) ?_
    refine va_get (D := D) (ci := 1) (v := .ref (a 5)) (C := RX1) (T := TX1) (N := 8) hx hb hg inX1 hown hK hP 0 rfl rfl 4 (by decide) (hg _ bw_1_72) (fun _ h9 => h9) rfl dX1_perform_21 ?_
    refine lv_aload_n hx hb dX1_perform_24 rfl (lv_at hl 2 rfl) ?_
    refine va_get (D := D) (ci := 1) (v := .int (K 5 0)) (C := RX1) (T := TX1) (N := 8) hx hb hg inX1 hown hK hP 0 rfl rfl 6 (by decide) (hg _ bw_1_75) (fun _ h9 => h9) rfl dX1_perform_25 ?_
    refine me_t (x := K 5 0) (y := nI (st_p K)) (hp) ?_
    refine me_ild hx hb hK hP 5 0 rfl rfl (st_p K) (rfl) (by omega) (by omega) dX1_perform_28 ?_
    refine lv_istore hx hb dX1_perform_29 hl (by decide) rfl (fun ls hl => ?_)
    have hl : lv_has ls 6 [(4, .int (K 3 (st_p K))), (3, .int (nI (st_y K))), (2, .int (nI (st_x K))), (0, .ref (a 0)), (1, .ref (b 0))] := hl
    refine lv_aload_n hx hb dX1_perform_31 rfl (lv_at hl 3 rfl) ?_
    refine va_get (D := D) (ci := 1) (v := .ref (a 1)) (C := RX1) (T := TX1) (N := 8) hx hb hg inX1 hown hK hP 0 rfl rfl 0 (by decide) (hg _ bw_1_67) (fun _ h9 => h9) rfl dX1_perform_32 ?_
    refine lv_iload_n hx hb dX1_perform_35 rfl (lv_at hl 1 rfl) ?_
    refine me_ild hx hb hK hP 1 0 rfl rfl (st_y K) (rfl) (by omega) (by omega) dX1_perform_36 ?_
    refine lv_iload hx hb dX1_perform_37 (lv_at hl 0 rfl) ?_
    refine lv_iadd hx hb dX1_perform_39 ?_
    refine me_t (x := (K 4 (st_y K)) + (K 3 (st_p K))) (y := K 4 (st_y K) + K 3 (st_p K)) (rfl) ?_
    refine lv_bipush (v := 31) hx hb dX1_perform_40 (by decide) ?_
    refine lv_iand hx hb dX1_perform_42 ?_
    refine me_t (x := (K 4 (st_y K) + K 3 (st_p K)) &&& 31) (y := nI (st_a K)) (ha) ?_
    refine lv_istore hx hb dX1_perform_43 hl (by decide) rfl (fun ls hl => ?_)
    have hl : lv_has ls 6 [(5, .int (nI (st_a K))), (4, .int (K 3 (st_p K))), (3, .int (nI (st_y K))), (2, .int (nI (st_x K))), (0, .ref (a 0)), (1, .ref (b 0))] := hl
    refine lv_aload_n hx hb dX1_perform_45 rfl (lv_at hl 4 rfl) ?_
    refine va_get (D := D) (ci := 1) (v := .ref (a 2)) (C := RX1) (T := TX1) (N := 8) hx hb hg inX1 hown hK hP 0 rfl rfl 1 (by decide) (hg _ bw_1_69) (fun _ h9 => h9) rfl dX1_perform_46 ?_
    refine lv_aload_n hx hb dX1_perform_49 rfl (lv_at hl 4 rfl) ?_
    refine va_get (D := D) (ci := 1) (v := .int (K 5 0)) (C := RX1) (T := TX1) (N := 8) hx hb hg inX1 hown hK hP 0 rfl rfl 6 (by decide) (hg _ bw_1_75) (fun _ h9 => h9) rfl dX1_perform_50 ?_
    refine me_t (x := K 5 0) (y := nI (st_p K)) (hp) ?_
    refine me_ild hx hb hK hP 2 0 rfl rfl (st_p K) (rfl) (by omega) (by omega) dX1_perform_53 ?_
    refine me_t (x := K 0 (st_p K)) (y := nI (4)) (hz) ?_
    refine lv_tableIn (off := 105) (tgt := 159) hx hb dX1_perform_54 (by decide) (by decide) (by decide) (by decide) ?_
    refine lv_aload_n hx hb dX1_perform_159 rfl (lv_at hl 4 rfl) ?_
    refine va_get (D := D) (ci := 1) (v := .ref (a 1)) (C := RX1) (T := TX1) (N := 8) hx hb hg inX1 hown hK hP 0 rfl rfl 0 (by decide) (hg _ bw_1_67) (fun _ h9 => h9) rfl dX1_perform_160 ?_
    refine lv_iload_n hx hb dX1_perform_163 rfl (lv_at hl 3 rfl) ?_
    refine lv_aload_n hx hb dX1_perform_164 rfl (lv_at hl 4 rfl) ?_
    refine va_get (D := D) (ci := 1) (v := .ref (a 1)) (C := RX1) (T := TX1) (N := 8) hx hb hg inX1 hown hK hP 0 rfl rfl 0 (by decide) (hg _ bw_1_67) (fun _ h9 => h9) rfl dX1_perform_165 ?_
    refine lv_iload_n hx hb dX1_perform_168 rfl (lv_at hl 3 rfl) ?_
    refine me_ild hx hb hK hP 1 0 rfl rfl (st_x K) (rfl) (by omega) (by omega) dX1_perform_169 ?_
    refine lv_aload_n hx hb dX1_perform_170 rfl (lv_at hl 4 rfl) ?_
    refine va_get (D := D) (ci := 1) (v := .ref (a 1)) (C := RX1) (T := TX1) (N := 8) hx hb hg inX1 hown hK hP 0 rfl rfl 0 (by decide) (hg _ bw_1_67) (fun _ h9 => h9) rfl dX1_perform_171 ?_
    refine lv_iload_n hx hb dX1_perform_174 rfl (lv_at hl 2 rfl) ?_
    refine me_ild hx hb hK hP 1 0 rfl rfl (st_y K) (rfl) (by omega) (by omega) dX1_perform_175 ?_
    refine lv_iadd hx hb dX1_perform_176 ?_
    refine me_ist hx hb hK hP hD hS 1 0 rfl rfl (st_x K) (rfl) (by omega) (by omega) dX1_perform_177 (fun H locs hP hD hS => ?_)
    have hP : va_P D vwCl [(a 0, .inr (1, [.ref (a 1), .ref (a 2), .ref (a 3), .ref (a 4), .ref (a 5), .ref (a 6), .int (K 5 0), .int (K 6 0)])), (a 1, .inl (cI, 4, .inl (upd (K 4) (st_x K) ((K 4 (st_x K)) + (K 4 (st_y K)))))), (a 2, .inl (cI, 24, .inl (K 0))), (a 3, .inl (cI, 24, .inl (K 1))), (a 4, .inl (cI, 24, .inl (K 2))), (a 5, .inl (cI, 24, .inl (K 3))), (a 6, .inr (0, [.ref (a 7), .ref (a 8), .ref (a 9), .int (K 7 0)])), (a 7, .inl (cI, ro, .inl (K 8))), (a 8, .inl (cI, ro, .inl (K 9))), (a 9, .inl (cI, ro, .inl (K 10))), (b 0, .inr (2, [.ref (b 1), .ref (b 2), .ref (b 3)])), (b 1, .inl (cI, 32, .inl (M 0))), (b 2, .inl (cI, 32, .inl (M 1))), (b 3, .inl (cZ, 8, .inl (M 2)))] H := hP
    have hD : va_D A [(a 0, .inr (1, [.ref (a 1), .ref (a 2), .ref (a 3), .ref (a 4), .ref (a 5), .ref (a 6), .int (K 5 0), .int (K 6 0)])), (a 1, .inl (cI, 4, .inl (upd (K 4) (st_x K) ((K 4 (st_x K)) + (K 4 (st_y K)))))), (a 2, .inl (cI, 24, .inl (K 0))), (a 3, .inl (cI, 24, .inl (K 1))), (a 4, .inl (cI, 24, .inl (K 2))), (a 5, .inl (cI, 24, .inl (K 3))), (a 6, .inr (0, [.ref (a 7), .ref (a 8), .ref (a 9), .int (K 7 0)])), (a 7, .inl (cI, ro, .inl (K 8))), (a 8, .inl (cI, ro, .inl (K 9))), (a 9, .inl (cI, ro, .inl (K 10))), (b 0, .inr (2, [.ref (b 1), .ref (b 2), .ref (b 3)])), (b 1, .inl (cI, 32, .inl (M 0))), (b 2, .inl (cI, 32, .inl (M 1))), (b 3, .inl (cZ, 8, .inl (M 2)))] := hD
    refine lv_goto (tgt := 237) hx hb dX1_perform_178 (by decide) ?_
    rw [st_peK_4 hz, st_peM_4 hz]
    have hP9 := me_subP (ws' := [(a 0, .inr (1, [.ref (a 1), .ref (a 2), .ref (a 3), .ref (a 4), .ref (a 5), .ref (a 6), .int ((st_ks K 4 (st_x K) (K 4 (st_x K) + K 4 (st_y K))) 5 0), .int ((st_ks K 4 (st_x K) (K 4 (st_x K) + K 4 (st_y K))) 6 0)])), (a 1, .inl (cI, 4, .inl ((st_ks K 4 (st_x K) (K 4 (st_x K) + K 4 (st_y K))) 4))), (a 2, .inl (cI, 24, .inl ((st_ks K 4 (st_x K) (K 4 (st_x K) + K 4 (st_y K))) 0))), (a 3, .inl (cI, 24, .inl ((st_ks K 4 (st_x K) (K 4 (st_x K) + K 4 (st_y K))) 1))), (a 4, .inl (cI, 24, .inl ((st_ks K 4 (st_x K) (K 4 (st_x K) + K 4 (st_y K))) 2))), (a 5, .inl (cI, 24, .inl ((st_ks K 4 (st_x K) (K 4 (st_x K) + K 4 (st_y K))) 3))), (a 6, .inr (0, [.ref (a 7), .ref (a 8), .ref (a 9), .int ((st_ks K 4 (st_x K) (K 4 (st_x K) + K 4 (st_y K))) 7 0)])), (a 7, .inl (cI, ro, .inl ((st_ks K 4 (st_x K) (K 4 (st_x K) + K 4 (st_y K))) 8))), (a 8, .inl (cI, ro, .inl ((st_ks K 4 (st_x K) (K 4 (st_x K) + K 4 (st_y K))) 9))), (a 9, .inl (cI, ro, .inl ((st_ks K 4 (st_x K) (K 4 (st_x K) + K 4 (st_y K))) 10))), (b 0, .inr (2, [.ref (b 1), .ref (b 2), .ref (b 3)])), (b 1, .inl (cI, 32, .inl (M 0))), (b 2, .inl (cI, 32, .inl (M 1))), (b 3, .inl (cZ, 8, .inl (M 2)))]) hP [0, 1, 2, 3, 4, 5, 6, 7, 8, 9, 10, 11, 12, 13] rfl
    have hD9 := hD.sub (ws' := [(a 0, .inr (1, [.ref (a 1), .ref (a 2), .ref (a 3), .ref (a 4), .ref (a 5), .ref (a 6), .int ((st_ks K 4 (st_x K) (K 4 (st_x K) + K 4 (st_y K))) 5 0), .int ((st_ks K 4 (st_x K) (K 4 (st_x K) + K 4 (st_y K))) 6 0)])), (a 1, .inl (cI, 4, .inl ((st_ks K 4 (st_x K) (K 4 (st_x K) + K 4 (st_y K))) 4))), (a 2, .inl (cI, 24, .inl ((st_ks K 4 (st_x K) (K 4 (st_x K) + K 4 (st_y K))) 0))), (a 3, .inl (cI, 24, .inl ((st_ks K 4 (st_x K) (K 4 (st_x K) + K 4 (st_y K))) 1))), (a 4, .inl (cI, 24, .inl ((st_ks K 4 (st_x K) (K 4 (st_x K) + K 4 (st_y K))) 2))), (a 5, .inl (cI, 24, .inl ((st_ks K 4 (st_x K) (K 4 (st_x K) + K 4 (st_y K))) 3))), (a 6, .inr (0, [.ref (a 7), .ref (a 8), .ref (a 9), .int ((st_ks K 4 (st_x K) (K 4 (st_x K) + K 4 (st_y K))) 7 0)])), (a 7, .inl (cI, ro, .inl ((st_ks K 4 (st_x K) (K 4 (st_x K) + K 4 (st_y K))) 8))), (a 8, .inl (cI, ro, .inl ((st_ks K 4 (st_x K) (K 4 (st_x K) + K 4 (st_y K))) 9))), (a 9, .inl (cI, ro, .inl ((st_ks K 4 (st_x K) (K 4 (st_x K) + K 4 (st_y K))) 10))), (b 0, .inr (2, [.ref (b 1), .ref (b 2), .ref (b 3)])), (b 1, .inl (cI, 32, .inl (M 0))), (b 2, .inl (cI, 32, .inl (M 1))), (b 3, .inl (cZ, 8, .inl (M 2)))]) [0, 1, 2, 3, 4, 5, 6, 7, 8, 9, 10, 11, 12, 13] (by decide) rfl
    exact me_retV hx hb hr hlk hK hS dX1_perform_237 hP9 hD9
  · have hl : lv_has ls 6 [(0, .ref (a 0)), (1, .ref (b 0))] := hl
    refine lv_aload_n hx hb dX1_perform_0 rfl (lv_at hl 0 rfl) ?_
    refine va_get (D := D) (ci := 1) (v := .ref (a 3)) (C := RX1) (T := TX1) (N := 8) hx hb hg inX1 hown hK hP 0 rfl rfl 2 (by decide) (hg _ bw_1_70) (fun _ h9 => h9) rfl dX1_perform_1 ?_
    refine lv_aload_n hx hb dX1_perform_4 rfl (lv_at hl 0 rfl) ?_
    refine va_get (D := D) (ci := 1) (v := .int (K 5 0)) (C := RX1) (T := TX1) (N := 8) hx hb hg inX1 hown hK hP 0 rfl rfl 6 (by decide) (hg _ bw_1_75) (fun _ h9 => h9) rfl dX1_perform_5 ?_
    refine me_t (x := K 5 0) (y := nI (st_p K)) (hp) ?_
    refine me_ild hx hb hK hP 3 0 rfl rfl (st_p K) (rfl) (by omega) (by omega) dX1_perform_8 ?_
    refine me_t (x := K 1 (st_p K)) (y := nI (st_x K)) (hX) ?_
    refine lv_istore_n hx hb dX1_perform_9 rfl hl (by decide) rfl (fun ls hl => ?_)
    have hl : lv_has ls 6 [(2, .int (nI (st_x K))), (0, .ref (a 0)), (1, .ref (b 0))] := hl
    refine lv_aload_n hx hb dX1_perform_10 rfl (lv_at hl 1 rfl) ?_
    refine va_get (D := D) (ci := 1) (v := .ref (a 4)) (C := RX1) (T := TX1) (N := 8) hx hb hg inX1 hown hK hP 0 rfl rfl 3 (by decide) (hg _ bw_1_71) (fun _ h9 => h9) rfl dX1_perform_11 ?_
    refine lv_aload_n hx hb dX1_perform_14 rfl (lv_at hl 1 rfl) ?_
    refine va_get (D := D) (ci := 1) (v := .int (K 5 0)) (C := RX1) (T := TX1) (N := 8) hx hb hg inX1 hown hK hP 0 rfl rfl 6 (by decide) (hg _ bw_1_75) (fun _ h9 => h9) rfl dX1_perform_15 ?_
    refine me_t (x := K 5 0) (y := nI (st_p K)) (hp) ?_
    refine me_ild hx hb hK hP 4 0 rfl rfl (st_p K) (rfl) (by omega) (by omega) dX1_perform_18 ?_
    refine me_t (x := K 2 (st_p K)) (y := nI (st_y K)) (hY) ?_
    refine lv_istore_n hx hb dX1_perform_19 rfl hl (by decide) rfl (fun ls hl => ?_)
    have hl : lv_has ls 6 [(3, .int (nI (st_y K))), (2, .int (nI (st_x K))), (0, .ref (a 0)), (1, .ref (b 0))] := hl
    refine lv_aload_n hx hb dX1_perform_20 rfl (lv_at hl 2 rfl) ?_
    refine va_get (D := D) (ci := 1) (v := .ref (a 5)) (C := RX1) (T := TX1) (N := 8) hx hb hg inX1 hown hK hP 0 rfl rfl 4 (by decide) (hg _ bw_1_72) (fun _ h9 => h9) rfl dX1_perform_21 ?_
    refine lv_aload_n hx hb dX1_perform_24 rfl (lv_at hl 2 rfl) ?_
    refine va_get (D := D) (ci := 1) (v := .int (K 5 0)) (C := RX1) (T := TX1) (N := 8) hx hb hg inX1 hown hK hP 0 rfl rfl 6 (by decide) (hg _ bw_1_75) (fun _ h9 => h9) rfl dX1_perform_25 ?_
    refine me_t (x := K 5 0) (y := nI (st_p K)) (hp) ?_
    refine me_ild hx hb hK hP 5 0 rfl rfl (st_p K) (rfl) (by omega) (by omega) dX1_perform_28 ?_
    refine lv_istore hx hb dX1_perform_29 hl (by decide) rfl (fun ls hl => ?_)
    have hl : lv_has ls 6 [(4, .int (K 3 (st_p K))), (3, .int (nI (st_y K))), (2, .int (nI (st_x K))), (0, .ref (a 0)), (1, .ref (b 0))] := hl
    refine lv_aload_n hx hb dX1_perform_31 rfl (lv_at hl 3 rfl) ?_
    refine va_get (D := D) (ci := 1) (v := .ref (a 1)) (C := RX1) (T := TX1) (N := 8) hx hb hg inX1 hown hK hP 0 rfl rfl 0 (by decide) (hg _ bw_1_67) (fun _ h9 => h9) rfl dX1_perform_32 ?_
    refine lv_iload_n hx hb dX1_perform_35 rfl (lv_at hl 1 rfl) ?_
    refine me_ild hx hb hK hP 1 0 rfl rfl (st_y K) (rfl) (by omega) (by omega) dX1_perform_36 ?_
    refine lv_iload hx hb dX1_perform_37 (lv_at hl 0 rfl) ?_
    refine lv_iadd hx hb dX1_perform_39 ?_
    refine me_t (x := (K 4 (st_y K)) + (K 3 (st_p K))) (y := K 4 (st_y K) + K 3 (st_p K)) (rfl) ?_
    refine lv_bipush (v := 31) hx hb dX1_perform_40 (by decide) ?_
    refine lv_iand hx hb dX1_perform_42 ?_
    refine me_t (x := (K 4 (st_y K) + K 3 (st_p K)) &&& 31) (y := nI (st_a K)) (ha) ?_
    refine lv_istore hx hb dX1_perform_43 hl (by decide) rfl (fun ls hl => ?_)
    have hl : lv_has ls 6 [(5, .int (nI (st_a K))), (4, .int (K 3 (st_p K))), (3, .int (nI (st_y K))), (2, .int (nI (st_x K))), (0, .ref (a 0)), (1, .ref (b 0))] := hl
    refine lv_aload_n hx hb dX1_perform_45 rfl (lv_at hl 4 rfl) ?_
    refine va_get (D := D) (ci := 1) (v := .ref (a 2)) (C := RX1) (T := TX1) (N := 8) hx hb hg inX1 hown hK hP 0 rfl rfl 1 (by decide) (hg _ bw_1_69) (fun _ h9 => h9) rfl dX1_perform_46 ?_
    refine lv_aload_n hx hb dX1_perform_49 rfl (lv_at hl 4 rfl) ?_
    refine va_get (D := D) (ci := 1) (v := .int (K 5 0)) (C := RX1) (T := TX1) (N := 8) hx hb hg inX1 hown hK hP 0 rfl rfl 6 (by decide) (hg _ bw_1_75) (fun _ h9 => h9) rfl dX1_perform_50 ?_
    refine me_t (x := K 5 0) (y := nI (st_p K)) (hp) ?_
    refine me_ild hx hb hK hP 2 0 rfl rfl (st_p K) (rfl) (by omega) (by omega) dX1_perform_53 ?_
    refine me_t (x := K 0 (st_p K)) (y := nI (5)) (hz) ?_
    refine lv_tableIn (off := 127) (tgt := 181) hx hb dX1_perform_54 (by decide) (by decide) (by decide) (by decide) ?_
    refine lv_aload_n hx hb dX1_perform_181 rfl (lv_at hl 4 rfl) ?_
    refine lv_iload hx hb dX1_perform_182 (lv_at hl 0 rfl) ?_
    refine lv_iload_n hx hb dX1_perform_184 rfl (lv_at hl 3 rfl) ?_
    refine lv_aload_n hx hb dX1_perform_185 rfl (lv_at hl 5 rfl) ?_
    refine me_goV (wr := [(a 6, .inr (0, [.ref (a 7), .ref (a 8), .ref (a 9), .int (K 7 0)])), (a 7, .inl (cI, ro, .inl (K 8))), (a 8, .inl (cI, ro, .inl (K 9))), (a 9, .inl (cI, ro, .inl (K 10)))]) (wc := [(a 0, .inr (1, [.ref (a 1), .ref (a 2), .ref (a 3), .ref (a 4), .ref (a 5), .ref (a 6), .int (K 5 0), .int (K 6 0)])), (a 1, .inl (cI, 4, .inl (K 4))), (a 2, .inl (cI, 24, .inl (K 0))), (a 3, .inl (cI, 24, .inl (K 1))), (a 4, .inl (cI, 24, .inl (K 2))), (a 5, .inl (cI, 24, .inl (K 3))), (b 0, .inr (2, [.ref (b 1), .ref (b 2), .ref (b 3)])), (b 1, .inl (cI, 32, .inl (M 0))), (b 2, .inl (cI, 32, .inl (M 1))), (b 3, .inl (cZ, 8, .inl (M 2)))]) (w1 := [(a 0, .inr (1, [.ref (a 1), .ref (a 2), .ref (a 3), .ref (a 4), .ref (a 5), .ref (a 6), .int ((st_swK K M (st_a K)) 5 0), .int ((st_swK K M (st_a K)) 6 0)])), (a 1, .inl (cI, 4, .inl ((st_swK K M (st_a K)) 4))), (a 2, .inl (cI, 24, .inl ((st_swK K M (st_a K)) 0))), (a 3, .inl (cI, 24, .inl ((st_swK K M (st_a K)) 1))), (a 4, .inl (cI, 24, .inl ((st_swK K M (st_a K)) 2))), (a 5, .inl (cI, 24, .inl ((st_swK K M (st_a K)) 3))), (b 0, .inr (2, [.ref (b 1), .ref (b 2), .ref (b 3)])), (b 1, .inl (cI, 32, .inl ((st_swM K M (st_a K) (st_x K)) 0))), (b 2, .inl (cI, 32, .inl ((st_swM K M (st_a K) (st_x K)) 1))), (b 3, .inl (cZ, 8, .inl ((st_swM K M (st_a K) (st_x K)) 2)))]) (va_runV (C := RX1) (b := a 0) (As := [.int (nI (st_a K)), .int (nI (st_x K)), .ref (b 0)]) (rest := []) ⟨hx, hb, hml, hown, hg⟩ (c_co_swap l D cI cZ cR a b K M (st_a K) (st_x K) ha1 hX1 s.heap.size) (cwV 3 hg (bg_gV (fun _ h => h) bw_1_158 bw_1_160 bw_s_9 bw_1_3 bw_1_161) rfl rfl rfl (by decide +kernel) ⟨Nat.le_of_ble_eq_true rfl, Nat.le_of_ble_eq_true rfl⟩) (me_preV (wc := [(a 0, .inr (1, [.ref (a 1), .ref (a 2), .ref (a 3), .ref (a 4), .ref (a 5), .ref (a 6), .int (K 5 0), .int (K 6 0)])), (a 1, .inl (cI, 4, .inl (K 4))), (a 2, .inl (cI, 24, .inl (K 0))), (a 3, .inl (cI, 24, .inl (K 1))), (a 4, .inl (cI, 24, .inl (K 2))), (a 5, .inl (cI, 24, .inl (K 3))), (b 0, .inr (2, [.ref (b 1), .ref (b 2), .ref (b 3)])), (b 1, .inl (cI, 32, .inl (M 0))), (b 2, .inl (cI, 32, .inl (M 1))), (b 3, .inl (cZ, 8, .inl (M 2)))]) hP hD hK hN [0, 1, 2, 3, 4, 5, 10, 11, 12, 13] rfl (by decide) (va_recv (q0 := 0) (ci := 1) hK hP rfl rfl)) rfl rfl hl.1 rfl (lv_room (Nat.le_of_ble_eq_true rfl)) dX1_perform_186 ⟨Nat.zero_le _, Nat.zero_le _⟩) hP hD hS hA [0, 1, 2, 3, 4, 5, 10, 11, 12, 13] [6, 7, 8, 9] rfl rfl (by decide) (by decide) (fun H locs hP hD hS => ?_)
    have hP : va_P D vwCl [(a 6, .inr (0, [.ref (a 7), .ref (a 8), .ref (a 9), .int (K 7 0)])), (a 7, .inl (cI, ro, .inl (K 8))), (a 8, .inl (cI, ro, .inl (K 9))), (a 9, .inl (cI, ro, .inl (K 10))), (a 0, .inr (1, [.ref (a 1), .ref (a 2), .ref (a 3), .ref (a 4), .ref (a 5), .ref (a 6), .int ((st_swK K M (st_a K)) 5 0), .int ((st_swK K M (st_a K)) 6 0)])), (a 1, .inl (cI, 4, .inl ((st_swK K M (st_a K)) 4))), (a 2, .inl (cI, 24, .inl ((st_swK K M (st_a K)) 0))), (a 3, .inl (cI, 24, .inl ((st_swK K M (st_a K)) 1))), (a 4, .inl (cI, 24, .inl ((st_swK K M (st_a K)) 2))), (a 5, .inl (cI, 24, .inl ((st_swK K M (st_a K)) 3))), (b 0, .inr (2, [.ref (b 1), .ref (b 2), .ref (b 3)])), (b 1, .inl (cI, 32, .inl ((st_swM K M (st_a K) (st_x K)) 0))), (b 2, .inl (cI, 32, .inl ((st_swM K M (st_a K) (st_x K)) 1))), (b 3, .inl (cZ, 8, .inl ((st_swM K M (st_a K) (st_x K)) 2)))] H := hP
    have hD : va_D A [(a 6, .inr (0, [.ref (a 7), .ref (a 8), .ref (a 9), .int (K 7 0)])), (a 7, .inl (cI, ro, .inl (K 8))), (a 8, .inl (cI, ro, .inl (K 9))), (a 9, .inl (cI, ro, .inl (K 10))), (a 0, .inr (1, [.ref (a 1), .ref (a 2), .ref (a 3), .ref (a 4), .ref (a 5), .ref (a 6), .int ((st_swK K M (st_a K)) 5 0), .int ((st_swK K M (st_a K)) 6 0)])), (a 1, .inl (cI, 4, .inl ((st_swK K M (st_a K)) 4))), (a 2, .inl (cI, 24, .inl ((st_swK K M (st_a K)) 0))), (a 3, .inl (cI, 24, .inl ((st_swK K M (st_a K)) 1))), (a 4, .inl (cI, 24, .inl ((st_swK K M (st_a K)) 2))), (a 5, .inl (cI, 24, .inl ((st_swK K M (st_a K)) 3))), (b 0, .inr (2, [.ref (b 1), .ref (b 2), .ref (b 3)])), (b 1, .inl (cI, 32, .inl ((st_swM K M (st_a K) (st_x K)) 0))), (b 2, .inl (cI, 32, .inl ((st_swM K M (st_a K) (st_x K)) 1))), (b 3, .inl (cZ, 8, .inl ((st_swM K M (st_a K) (st_x K)) 2)))] := hD
    refine lv_goto (tgt := 237) hx hb dX1_perform_189 (by decide) ?_
    have hP : va_P D vwCl [(a 6, .inr (0, [.ref (a 7), .ref (a 8), .ref (a 9), .int ((st_swK K M (st_a K)) 7 0)])), (a 7, .inl (cI, ro, .inl ((st_swK K M (st_a K)) 8))), (a 8, .inl (cI, ro, .inl ((st_swK K M (st_a K)) 9))), (a 9, .inl (cI, ro, .inl ((st_swK K M (st_a K)) 10))), (a 0, .inr (1, [.ref (a 1), .ref (a 2), .ref (a 3), .ref (a 4), .ref (a 5), .ref (a 6), .int ((st_swK K M (st_a K)) 5 0), .int ((st_swK K M (st_a K)) 6 0)])), (a 1, .inl (cI, 4, .inl ((st_swK K M (st_a K)) 4))), (a 2, .inl (cI, 24, .inl ((st_swK K M (st_a K)) 0))), (a 3, .inl (cI, 24, .inl ((st_swK K M (st_a K)) 1))), (a 4, .inl (cI, 24, .inl ((st_swK K M (st_a K)) 2))), (a 5, .inl (cI, 24, .inl ((st_swK K M (st_a K)) 3))), (b 0, .inr (2, [.ref (b 1), .ref (b 2), .ref (b 3)])), (b 1, .inl (cI, 32, .inl ((st_swM K M (st_a K) (st_x K)) 0))), (b 2, .inl (cI, 32, .inl ((st_swM K M (st_a K) (st_x K)) 1))), (b 3, .inl (cZ, 8, .inl ((st_swM K M (st_a K) (st_x K)) 2)))] H := by rw [st_swKn 7 (by decide), st_swKn 8 (by decide), st_swKn 9 (by decide), st_swKn 10 (by decide)]; exact hP
    have hD : va_D A [(a 6, .inr (0, [.ref (a 7), .ref (a 8), .ref (a 9), .int ((st_swK K M (st_a K)) 7 0)])), (a 7, .inl (cI, ro, .inl ((st_swK K M (st_a K)) 8))), (a 8, .inl (cI, ro, .inl ((st_swK K M (st_a K)) 9))), (a 9, .inl (cI, ro, .inl ((st_swK K M (st_a K)) 10))), (a 0, .inr (1, [.ref (a 1), .ref (a 2), .ref (a 3), .ref (a 4), .ref (a 5), .ref (a 6), .int ((st_swK K M (st_a K)) 5 0), .int ((st_swK K M (st_a K)) 6 0)])), (a 1, .inl (cI, 4, .inl ((st_swK K M (st_a K)) 4))), (a 2, .inl (cI, 24, .inl ((st_swK K M (st_a K)) 0))), (a 3, .inl (cI, 24, .inl ((st_swK K M (st_a K)) 1))), (a 4, .inl (cI, 24, .inl ((st_swK K M (st_a K)) 2))), (a 5, .inl (cI, 24, .inl ((st_swK K M (st_a K)) 3))), (b 0, .inr (2, [.ref (b 1), .ref (b 2), .ref (b 3)])), (b 1, .inl (cI, 32, .inl ((st_swM K M (st_a K) (st_x K)) 0))), (b 2, .inl (cI, 32, .inl ((st_swM K M (st_a K) (st_x K)) 1))), (b 3, .inl (cZ, 8, .inl ((st_swM K M (st_a K) (st_x K)) 2)))] := by rw [st_swKn 7 (by decide), st_swKn 8 (by decide), st_swKn 9 (by decide), st_swKn 10 (by decide)]; exact hD
    rw [st_peK_5 hz, st_peM_5 hz]
    have hP9 := me_subP (ws' := [(a 0, .inr (1, [.ref (a 1), .ref (a 2), .ref (a 3), .ref (a 4), .ref (a 5), .ref (a 6), .int ((st_swK K M (st_a K)) 5 0), .int ((st_swK K M (st_a K)) 6 0)])), (a 1, .inl (cI, 4, .inl ((st_swK K M (st_a K)) 4))), (a 2, .inl (cI, 24, .inl ((st_swK K M (st_a K)) 0))), (a 3, .inl (cI, 24, .inl ((st_swK K M (st_a K)) 1))), (a 4, .inl (cI, 24, .inl ((st_swK K M (st_a K)) 2))), (a 5, .inl (cI, 24, .inl ((st_swK K M (st_a K)) 3))), (a 6, .inr (0, [.ref (a 7), .ref (a 8), .ref (a 9), .int ((st_swK K M (st_a K)) 7 0)])), (a 7, .inl (cI, ro, .inl ((st_swK K M (st_a K)) 8))), (a 8, .inl (cI, ro, .inl ((st_swK K M (st_a K)) 9))), (a 9, .inl (cI, ro, .inl ((st_swK K M (st_a K)) 10))), (b 0, .inr (2, [.ref (b 1), .ref (b 2), .ref (b 3)])), (b 1, .inl (cI, 32, .inl ((st_swM K M (st_a K) (st_x K)) 0))), (b 2, .inl (cI, 32, .inl ((st_swM K M (st_a K) (st_x K)) 1))), (b 3, .inl (cZ, 8, .inl ((st_swM K M (st_a K) (st_x K)) 2)))]) hP [4, 5, 6, 7, 8, 9, 0, 1, 2, 3, 10, 11, 12, 13] rfl
    have hD9 := hD.sub (ws' := [(a 0, .inr (1, [.ref (a 1), .ref (a 2), .ref (a 3), .ref (a 4), .ref (a 5), .ref (a 6), .int ((st_swK K M (st_a K)) 5 0), .int ((st_swK K M (st_a K)) 6 0)])), (a 1, .inl (cI, 4, .inl ((st_swK K M (st_a K)) 4))), (a 2, .inl (cI, 24, .inl ((st_swK K M (st_a K)) 0))), (a 3, .inl (cI, 24, .inl ((st_swK K M (st_a K)) 1))), (a 4, .inl (cI, 24, .inl ((st_swK K M (st_a K)) 2))), (a 5, .inl (cI, 24, .inl ((st_swK K M (st_a K)) 3))), (a 6, .inr (0, [.ref (a 7), .ref (a 8), .ref (a 9), .int ((st_swK K M (st_a K)) 7 0)])), (a 7, .inl (cI, ro, .inl ((st_swK K M (st_a K)) 8))), (a 8, .inl (cI, ro, .inl ((st_swK K M (st_a K)) 9))), (a 9, .inl (cI, ro, .inl ((st_swK K M (st_a K)) 10))), (b 0, .inr (2, [.ref (b 1), .ref (b 2), .ref (b 3)])), (b 1, .inl (cI, 32, .inl ((st_swM K M (st_a K) (st_x K)) 0))), (b 2, .inl (cI, 32, .inl ((st_swM K M (st_a K) (st_x K)) 1))), (b 3, .inl (cZ, 8, .inl ((st_swM K M (st_a K) (st_x K)) 2)))]) [4, 5, 6, 7, 8, 9, 0, 1, 2, 3, 10, 11, 12, 13] (by decide) rfl
    exact me_retV hx hb hr hlk hK hS dX1_perform_237 hP9 hD9
  · have hl : lv_has ls 6 [(0, .ref (a 0)), (1, .ref (b 0))] := hl
    refine lv_aload_n hx hb dX1_perform_0 rfl (lv_at hl 0 rfl) ?_
    refine va_get (D := D) (ci := 1) (v := .ref (a 3)) (C := RX1) (T := TX1) (N := 8) hx hb hg inX1 hown hK hP 0 rfl rfl 2 (by decide) (hg _ bw_1_70) (fun _ h9 => h9) rfl dX1_perform_1 ?_
    refine lv_aload_n hx hb dX1_perform_4 rfl (lv_at hl 0 rfl) ?_
    refine va_get (D := D) (ci := 1) (v := .int (K 5 0)) (C := RX1) (T := TX1) (N := 8) hx hb hg inX1 hown hK hP 0 rfl rfl 6 (by decide) (hg _ bw_1_75) (fun _ h9 => h9) rfl dX1_perform_5 ?_
    refine me_t (x := K 5 0) (y := nI (st_p K)) (hp) ?_
    refine me_ild hx hb hK hP 3 0 rfl rfl (st_p K) (rfl) (by omega) (by omega) dX1_perform_8 ?_
    refine me_t (x := K 1 (st_p K)) (y := nI (st_x K)) (hX) ?_
    refine lv_istore_n hx hb dX1_perform_9 rfl hl (by decide) rfl (fun ls hl => ?_)
    have hl : lv_has ls 6 [(2, .int (nI (st_x K))), (0, .ref (a 0)), (1, .ref (b 0))] := hl
    refine lv_aload_n hx hb dX1_perform_10 rfl (lv_at hl 1 rfl) ?_
    refine va_get (D := D) (ci := 1) (v := .ref (a 4)) (C := RX1) (T := TX1) (N := 8) hx hb hg inX1 hown hK hP 0 rfl rfl 3 (by decide) (hg _ bw_1_71) (fun _ h9 => h9) rfl dX1_perform_11 ?_
    refine lv_aload_n hx hb dX1_perform_14 rfl (lv_at hl 1 rfl) ?_
    refine va_get (D := D) (ci := 1) (v := .int (K 5 0)) (C := RX1) (T := TX1) (N := 8) hx hb hg inX1 hown hK hP 0 rfl rfl 6 (by decide) (hg _ bw_1_75) (fun _ h9 => h9) rfl dX1_perform_15 ?_
    refine me_t (x := K 5 0) (y := nI (st_p K)) (hp) ?_
    refine me_ild hx hb hK hP 4 0 rfl rfl (st_p K) (rfl) (by omega) (by omega) dX1_perform_18 ?_
    refine me_t (x := K 2 (st_p K)) (y := nI (st_y K)) (hY) ?_
    refine lv_istore_n hx hb dX1_perform_19 rfl hl (by decide) rfl (fun ls hl => ?_)
    have hl : lv_has ls 6 [(3, .int (nI (st_y K))), (2, .int (nI (st_x K))), (0, .ref (a 0)), (1, .ref (b 0))] := hl
    refine lv_aload_n hx hb dX1_perform_20 rfl (lv_at hl 2 rfl) ?_
    refine va_get (D := D) (ci := 1) (v := .ref (a 5)) (C := RX1) (T := TX1) (N := 8) hx hb hg inX1 hown hK hP 0 rfl rfl 4 (by decide) (hg _ bw_1_72) (fun _ h9 => h9) rfl dX1_perform_21 ?_
    refine lv_aload_n hx hb dX1_perform_24 rfl (lv_at hl 2 rfl) ?_
    refine va_get (D := D) (ci := 1) (v := .int (K 5 0)) (C := RX1) (T := TX1) (N := 8) hx hb hg inX1 hown hK hP 0 rfl rfl 6 (by decide) (hg _ bw_1_75) (fun _ h9 => h9) rfl dX1_perform_25 ?_
    refine me_t (x := K 5 0) (y := nI (st_p K)) (hp) ?_
    refine me_ild hx hb hK hP 5 0 rfl rfl (st_p K) (rfl) (by omega) (by omega) dX1_perform_28 ?_
    refine lv_istore hx hb dX1_perform_29 hl (by decide) rfl (fun ls hl => ?_)
    have hl : lv_has ls 6 [(4, .int (K 3 (st_p K))), (3, .int (nI (st_y K))), (2, .int (nI (st_x K))), (0, .ref (a 0)), (1, .ref (b 0))] := hl
    refine lv_aload_n hx hb dX1_perform_31 rfl (lv_at hl 3 rfl) ?_
    refine va_get (D := D) (ci := 1) (v := .ref (a 1)) (C := RX1) (T := TX1) (N := 8) hx hb hg inX1 hown hK hP 0 rfl rfl 0 (by decide) (hg _ bw_1_67) (fun _ h9 => h9) rfl dX1_perform_32 ?_
    refine lv_iload_n hx hb dX1_perform_35 rfl (lv_at hl 1 rfl) ?_
    refine me_ild hx hb hK hP 1 0 rfl rfl (st_y K) (rfl) (by omega) (by omega) dX1_perform_36 ?_
    refine lv_iload hx hb dX1_perform_37 (lv_at hl 0 rfl) ?_
    refine lv_iadd hx hb dX1_perform_39 ?_
    refine me_t (x := (K 4 (st_y K)) + (K 3 (st_p K))) (y := K 4 (st_y K) + K 3 (st_p K)) (rfl) ?_
    refine lv_bipush (v := 31) hx hb dX1_perform_40 (by decide) ?_
    refine lv_iand hx hb dX1_perform_42 ?_
    refine me_t (x := (K 4 (st_y K) + K 3 (st_p K)) &&& 31) (y := nI (st_a K)) (ha) ?_
    refine lv_istore hx hb dX1_perform_43 hl (by decide) rfl (fun ls hl => ?_)
    have hl : lv_has ls 6 [(5, .int (nI (st_a K))), (4, .int (K 3 (st_p K))), (3, .int (nI (st_y K))), (2, .int (nI (st_x K))), (0, .ref (a 0)), (1, .ref (b 0))] := hl
    refine lv_aload_n hx hb dX1_perform_45 rfl (lv_at hl 4 rfl) ?_
    refine va_get (D := D) (ci := 1) (v := .ref (a 2)) (C := RX1) (T := TX1) (N := 8) hx hb hg inX1 hown hK hP 0 rfl rfl 1 (by decide) (hg _ bw_1_69) (fun _ h9 => h9) rfl dX1_perform_46 ?_
    refine lv_aload_n hx hb dX1_perform_49 rfl (lv_at hl 4 rfl) ?_
    refine va_get (D := D) (ci := 1) (v := .int (K 5 0)) (C := RX1) (T := TX1) (N := 8) hx hb hg inX1 hown hK hP 0 rfl rfl 6 (by decide) (hg _ bw_1_75) (fun _ h9 => h9) rfl dX1_perform_50 ?_
    refine me_t (x := K 5 0) (y := nI (st_p K)) (hp) ?_
    refine me_ild hx hb hK hP 2 0 rfl rfl (st_p K) (rfl) (by omega) (by omega) dX1_perform_53 ?_
    refine me_t (x := K 0 (st_p K)) (y := nI (6)) (hz) ?_
    refine lv_tableIn (off := 183) (tgt := 237) hx hb dX1_perform_54 (by decide) (by decide) (by decide) (by decide) ?_
    rw [st_peK_6 hz, st_peM_6 hz]
    have hP9 := me_subP (ws' := [(a 0, .inr (1, [.ref (a 1), .ref (a 2), .ref (a 3), .ref (a 4), .ref (a 5), .ref (a 6), .int (K 5 0), .int (K 6 0)])), (a 1, .inl (cI, 4, .inl (K 4))), (a 2, .inl (cI, 24, .inl (K 0))), (a 3, .inl (cI, 24, .inl (K 1))), (a 4, .inl (cI, 24, .inl (K 2))), (a 5, .inl (cI, 24, .inl (K 3))), (a 6, .inr (0, [.ref (a 7), .ref (a 8), .ref (a 9), .int (K 7 0)])), (a 7, .inl (cI, ro, .inl (K 8))), (a 8, .inl (cI, ro, .inl (K 9))), (a 9, .inl (cI, ro, .inl (K 10))), (b 0, .inr (2, [.ref (b 1), .ref (b 2), .ref (b 3)])), (b 1, .inl (cI, 32, .inl (M 0))), (b 2, .inl (cI, 32, .inl (M 1))), (b 3, .inl (cZ, 8, .inl (M 2)))]) hP [0, 1, 2, 3, 4, 5, 6, 7, 8, 9, 10, 11, 12, 13] rfl
    have hD9 := hD.sub (ws' := [(a 0, .inr (1, [.ref (a 1), .ref (a 2), .ref (a 3), .ref (a 4), .ref (a 5), .ref (a 6), .int (K 5 0), .int (K 6 0)])), (a 1, .inl (cI, 4, .inl (K 4))), (a 2, .inl (cI, 24, .inl (K 0))), (a 3, .inl (cI, 24, .inl (K 1))), (a 4, .inl (cI, 24, .inl (K 2))), (a 5, .inl (cI, 24, .inl (K 3))), (a 6, .inr (0, [.ref (a 7), .ref (a 8), .ref (a 9), .int (K 7 0)])), (a 7, .inl (cI, ro, .inl (K 8))), (a 8, .inl (cI, ro, .inl (K 9))), (a 9, .inl (cI, ro, .inl (K 10))), (b 0, .inr (2, [.ref (b 1), .ref (b 2), .ref (b 3)])), (b 1, .inl (cI, 32, .inl (M 0))), (b 2, .inl (cI, 32, .inl (M 1))), (b 3, .inl (cZ, 8, .inl (M 2)))]) [0, 1, 2, 3, 4, 5, 6, 7, 8, 9, 10, 11, 12, 13] (by decide) rfl
    exact me_retV hx hb hr hlk hK hS dX1_perform_237 hP9 hD9
  · have hl : lv_has ls 6 [(0, .ref (a 0)), (1, .ref (b 0))] := hl
    refine lv_aload_n hx hb dX1_perform_0 rfl (lv_at hl 0 rfl) ?_
    refine va_get (D := D) (ci := 1) (v := .ref (a 3)) (C := RX1) (T := TX1) (N := 8) hx hb hg inX1 hown hK hP 0 rfl rfl 2 (by decide) (hg _ bw_1_70) (fun _ h9 => h9) rfl dX1_perform_1 ?_
    refine lv_aload_n hx hb dX1_perform_4 rfl (lv_at hl 0 rfl) ?_
    refine va_get (D := D) (ci := 1) (v := .int (K 5 0)) (C := RX1) (T := TX1) (N := 8) hx hb hg inX1 hown hK hP 0 rfl rfl 6 (by decide) (hg _ bw_1_75) (fun _ h9 => h9) rfl dX1_perform_5 ?_
    refine me_t (x := K 5 0) (y := nI (st_p K)) (hp) ?_
    refine me_ild hx hb hK hP 3 0 rfl rfl (st_p K) (rfl) (by omega) (by omega) dX1_perform_8 ?_
    refine me_t (x := K 1 (st_p K)) (y := nI (st_x K)) (hX) ?_
    refine lv_istore_n hx hb dX1_perform_9 rfl hl (by decide) rfl (fun ls hl => ?_)
    have hl : lv_has ls 6 [(2, .int (nI (st_x K))), (0, .ref (a 0)), (1, .ref (b 0))] := hl
    refine lv_aload_n hx hb dX1_perform_10 rfl (lv_at hl 1 rfl) ?_
    refine va_get (D := D) (ci := 1) (v := .ref (a 4)) (C := RX1) (T := TX1) (N := 8) hx hb hg inX1 hown hK hP 0 rfl rfl 3 (by decide) (hg _ bw_1_71) (fun _ h9 => h9) rfl dX1_perform_11 ?_
    refine lv_aload_n hx hb dX1_perform_14 rfl (lv_at hl 1 rfl) ?_
    refine va_get (D := D) (ci := 1) (v := .int (K 5 0)) (C := RX1) (T := TX1) (N := 8) hx hb hg inX1 hown hK hP 0 rfl rfl 6 (by decide) (hg _ bw_1_75) (fun _ h9 => h9) rfl dX1_perform_15 ?_
    refine me_t (x := K 5 0) (y := nI (st_p K)) (hp) ?_
    refine me_ild hx hb hK hP 4 0 rfl rfl (st_p K) (rfl) (by omega) (by omega) dX1_perform_18 ?_
    refine me_t (x := K 2 (st_p K)) (y := nI (st_y K)) (hY) ?_
    refine lv_istore_n hx hb dX1_perform_19 rfl hl (by decide) rfl (fun ls hl => ?_)
    have hl : lv_has ls 6 [(3, .int (nI (st_y K))), (2, .int (nI (st_x K))), (0, .ref (a 0)), (1, .ref (b 0))] := hl
    refine lv_aload_n hx hb dX1_perform_20 rfl (lv_at hl 2 rfl) ?_
    refine va_get (D := D) (ci := 1) (v := .ref (a 5)) (C := RX1) (T := TX1) (N := 8) hx hb hg inX1 hown hK hP 0 rfl rfl 4 (by decide) (hg _ bw_1_72) (fun _ h9 => h9) rfl dX1_perform_21 ?_
    refine lv_aload_n hx hb dX1_perform_24 rfl (lv_at hl 2 rfl) ?_
    refine va_get (D := D) (ci := 1) (v := .int (K 5 0)) (C := RX1) (T := TX1) (N := 8) hx hb hg inX1 hown hK hP 0 rfl rfl 6 (by decide) (hg _ bw_1_75) (fun _ h9 => h9) rfl dX1_perform_25 ?_
    refine me_t (x := K 5 0) (y := nI (st_p K)) (hp) ?_
    refine me_ild hx hb hK hP 5 0 rfl rfl (st_p K) (rfl) (by omega) (by omega) dX1_perform_28 ?_
    refine lv_istore hx hb dX1_perform_29 hl (by decide) rfl (fun ls hl => ?_)
    have hl : lv_has ls 6 [(4, .int (K 3 (st_p K))), (3, .int (nI (st_y K))), (2, .int (nI (st_x K))), (0, .ref (a 0)), (1, .ref (b 0))] := hl
    refine lv_aload_n hx hb dX1_perform_31 rfl (lv_at hl 3 rfl) ?_
    refine va_get (D := D) (ci := 1) (v := .ref (a 1)) (C := RX1) (T := TX1) (N := 8) hx hb hg inX1 hown hK hP 0 rfl rfl 0 (by decide) (hg _ bw_1_67) (fun _ h9 => h9) rfl dX1_perform_32 ?_
    refine lv_iload_n hx hb dX1_perform_35 rfl (lv_at hl 1 rfl) ?_
    refine me_ild hx hb hK hP 1 0 rfl rfl (st_y K) (rfl) (by omega) (by omega) dX1_perform_36 ?_
    refine lv_iload hx hb dX1_perform_37 (lv_at hl 0 rfl) ?_
    refine lv_iadd hx hb dX1_perform_39 ?_
    refine me_t (x := (K 4 (st_y K)) + (K 3 (st_p K))) (y := K 4 (st_y K) + K 3 (st_p K)) (rfl) ?_
    refine lv_bipush (v := 31) hx hb dX1_perform_40 (by decide) ?_
    refine lv_iand hx hb dX1_perform_42 ?_
    refine me_t (x := (K 4 (st_y K) + K 3 (st_p K)) &&& 31) (y := nI (st_a K)) (ha) ?_
    refine lv_istore hx hb dX1_perform_43 hl (by decide) rfl (fun ls hl => ?_)
    have hl : lv_has ls 6 [(5, .int (nI (st_a K))), (4, .int (K 3 (st_p K))), (3, .int (nI (st_y K))), (2, .int (nI (st_x K))), (0, .ref (a 0)), (1, .ref (b 0))] := hl
    refine lv_aload_n hx hb dX1_perform_45 rfl (lv_at hl 4 rfl) ?_
    refine va_get (D := D) (ci := 1) (v := .ref (a 2)) (C := RX1) (T := TX1) (N := 8) hx hb hg inX1 hown hK hP 0 rfl rfl 1 (by decide) (hg _ bw_1_69) (fun _ h9 => h9) rfl dX1_perform_46 ?_
    refine lv_aload_n hx hb dX1_perform_49 rfl (lv_at hl 4 rfl) ?_
    refine va_get (D := D) (ci := 1) (v := .int (K 5 0)) (C := RX1) (T := TX1) (N := 8) hx hb hg inX1 hown hK hP 0 rfl rfl 6 (by decide) (hg _ bw_1_75) (fun _ h9 => h9) rfl dX1_perform_50 ?_
    refine me_t (x := K 5 0) (y := nI (st_p K)) (hp) ?_
    refine me_ild hx hb hK hP 2 0 rfl rfl (st_p K) (rfl) (by omega) (by omega) dX1_perform_53 ?_
    refine me_t (x := K 0 (st_p K)) (y := nI (7)) (hz) ?_
    refine lv_tableIn (off := 138) (tgt := 192) hx hb dX1_perform_54 (by decide) (by decide) (by decide) (by decide) ?_
    refine lv_aload_n hx hb dX1_perform_192 rfl (lv_at hl 4 rfl) ?_
    refine va_get (D := D) (ci := 1) (v := .ref (a 6)) (C := RX1) (T := TX1) (N := 8) hx hb hg inX1 hown hK hP 0 rfl rfl 5 (by decide) (hg _ bw_1_73) (fun _ h9 => h9) rfl dX1_perform_193 ?_
    refine lv_iconst (v := 3) hx hb dX1_perform_196 (by decide) ?_
    refine lv_iconst (v := 0) hx hb dX1_perform_197 (by decide) ?_
    refine lv_iconst (v := 0) hx hb dX1_perform_198 (by decide) ?_
    refine me_goV (wr := [(a 0, .inr (1, [.ref (a 1), .ref (a 2), .ref (a 3), .ref (a 4), .ref (a 5), .ref (a 6), .int (K 5 0), .int (K 6 0)])), (a 1, .inl (cI, 4, .inl (K 4))), (a 2, .inl (cI, 24, .inl (K 0))), (a 3, .inl (cI, 24, .inl (K 1))), (a 4, .inl (cI, 24, .inl (K 2))), (a 5, .inl (cI, 24, .inl (K 3))), (b 0, .inr (2, [.ref (b 1), .ref (b 2), .ref (b 3)])), (b 1, .inl (cI, 32, .inl (M 0))), (b 2, .inl (cI, 32, .inl (M 1))), (b 3, .inl (cZ, 8, .inl (M 2)))]) (wc := [(a 6, .inr (0, [.ref (a 7), .ref (a 8), .ref (a 9), .int (K 7 0)])), (a 7, .inl (cI, ro, .inl (K 8))), (a 8, .inl (cI, ro, .inl (K 9))), (a 9, .inl (cI, ro, .inl (K 10)))]) (w1 := [(a 6, .inr (0, [.ref (a 7), .ref (a 8), .ref (a 9), .int ((st_ap K 3 0 0) 7 0)])), (a 7, .inl (cI, ro, .inl ((st_ap K 3 0 0) 8))), (a 8, .inl (cI, ro, .inl ((st_ap K 3 0 0) 9))), (a 9, .inl (cI, ro, .inl ((st_ap K 3 0 0) 10)))]) (va_runVN (C := RX0) (b := a 6) (As := [.int (3), .int (0), .int (0)]) (rest := []) ⟨hx, hb, hml, hown, hg⟩ (c_bu_append l D cI cZ cR a ro K 3 0 0 hh (Nat.lt_of_not_le (fun q => hnw ((st_wq3 (by decide)).mpr q))) hro s.heap.size) ⟨va_cnB 3 hg (bg_gi (fun _ h => h) bw_1_156) rfl rfl rfl (hN _ ne_7) (hg _ bw_1_4) (by decide +kernel) ⟨Nat.le_of_ble_eq_true rfl, Nat.le_of_ble_eq_true rfl⟩, (hg _ bw_1_155), (hg _ bw_s_8)⟩ (me_preV (wc := [(a 6, .inr (0, [.ref (a 7), .ref (a 8), .ref (a 9), .int (K 7 0)])), (a 7, .inl (cI, ro, .inl (K 8))), (a 8, .inl (cI, ro, .inl (K 9))), (a 9, .inl (cI, ro, .inl (K 10)))]) hP hD hK hN [6, 7, 8, 9] rfl (by decide) (va_recv (q0 := 6) (ci := 0) hK hP rfl rfl)) rfl rfl hl.1 rfl (lv_room (Nat.le_of_ble_eq_true rfl)) dX1_perform_199 ⟨Nat.zero_le _, Nat.zero_le _⟩) hP hD hS hA [6, 7, 8, 9] [0, 1, 2, 3, 4, 5, 10, 11, 12, 13] rfl rfl (by decide) (by decide) (fun H locs hP hD hS => ?_)
    have hP : va_P D vwCl [(a 0, .inr (1, [.ref (a 1), .ref (a 2), .ref (a 3), .ref (a 4), .ref (a 5), .ref (a 6), .int (K 5 0), .int (K 6 0)])), (a 1, .inl (cI, 4, .inl (K 4))), (a 2, .inl (cI, 24, .inl (K 0))), (a 3, .inl (cI, 24, .inl (K 1))), (a 4, .inl (cI, 24, .inl (K 2))), (a 5, .inl (cI, 24, .inl (K 3))), (b 0, .inr (2, [.ref (b 1), .ref (b 2), .ref (b 3)])), (b 1, .inl (cI, 32, .inl (M 0))), (b 2, .inl (cI, 32, .inl (M 1))), (b 3, .inl (cZ, 8, .inl (M 2))), (a 6, .inr (0, [.ref (a 7), .ref (a 8), .ref (a 9), .int ((st_ap K 3 0 0) 7 0)])), (a 7, .inl (cI, ro, .inl ((st_ap K 3 0 0) 8))), (a 8, .inl (cI, ro, .inl ((st_ap K 3 0 0) 9))), (a 9, .inl (cI, ro, .inl ((st_ap K 3 0 0) 10)))] H := hP
    have hD : va_D A [(a 0, .inr (1, [.ref (a 1), .ref (a 2), .ref (a 3), .ref (a 4), .ref (a 5), .ref (a 6), .int (K 5 0), .int (K 6 0)])), (a 1, .inl (cI, 4, .inl (K 4))), (a 2, .inl (cI, 24, .inl (K 0))), (a 3, .inl (cI, 24, .inl (K 1))), (a 4, .inl (cI, 24, .inl (K 2))), (a 5, .inl (cI, 24, .inl (K 3))), (b 0, .inr (2, [.ref (b 1), .ref (b 2), .ref (b 3)])), (b 1, .inl (cI, 32, .inl (M 0))), (b 2, .inl (cI, 32, .inl (M 1))), (b 3, .inl (cZ, 8, .inl (M 2))), (a 6, .inr (0, [.ref (a 7), .ref (a 8), .ref (a 9), .int ((st_ap K 3 0 0) 7 0)])), (a 7, .inl (cI, ro, .inl ((st_ap K 3 0 0) 8))), (a 8, .inl (cI, ro, .inl ((st_ap K 3 0 0) 9))), (a 9, .inl (cI, ro, .inl ((st_ap K 3 0 0) 10)))] := hD
    refine lv_goto (tgt := 237) hx hb dX1_perform_202 (by decide) ?_
    rw [st_peK_7 hz, st_peM_7 hz]
    have hP9 := me_subP (ws' := [(a 0, .inr (1, [.ref (a 1), .ref (a 2), .ref (a 3), .ref (a 4), .ref (a 5), .ref (a 6), .int ((st_ap K 3 0 0) 5 0), .int ((st_ap K 3 0 0) 6 0)])), (a 1, .inl (cI, 4, .inl ((st_ap K 3 0 0) 4))), (a 2, .inl (cI, 24, .inl ((st_ap K 3 0 0) 0))), (a 3, .inl (cI, 24, .inl ((st_ap K 3 0 0) 1))), (a 4, .inl (cI, 24, .inl ((st_ap K 3 0 0) 2))), (a 5, .inl (cI, 24, .inl ((st_ap K 3 0 0) 3))), (a 6, .inr (0, [.ref (a 7), .ref (a 8), .ref (a 9), .int ((st_ap K 3 0 0) 7 0)])), (a 7, .inl (cI, ro, .inl ((st_ap K 3 0 0) 8))), (a 8, .inl (cI, ro, .inl ((st_ap K 3 0 0) 9))), (a 9, .inl (cI, ro, .inl ((st_ap K 3 0 0) 10))), (b 0, .inr (2, [.ref (b 1), .ref (b 2), .ref (b 3)])), (b 1, .inl (cI, 32, .inl (M 0))), (b 2, .inl (cI, 32, .inl (M 1))), (b 3, .inl (cZ, 8, .inl (M 2)))]) hP [0, 1, 2, 3, 4, 5, 10, 11, 12, 13, 6, 7, 8, 9] rfl
    have hD9 := hD.sub (ws' := [(a 0, .inr (1, [.ref (a 1), .ref (a 2), .ref (a 3), .ref (a 4), .ref (a 5), .ref (a 6), .int ((st_ap K 3 0 0) 5 0), .int ((st_ap K 3 0 0) 6 0)])), (a 1, .inl (cI, 4, .inl ((st_ap K 3 0 0) 4))), (a 2, .inl (cI, 24, .inl ((st_ap K 3 0 0) 0))), (a 3, .inl (cI, 24, .inl ((st_ap K 3 0 0) 1))), (a 4, .inl (cI, 24, .inl ((st_ap K 3 0 0) 2))), (a 5, .inl (cI, 24, .inl ((st_ap K 3 0 0) 3))), (a 6, .inr (0, [.ref (a 7), .ref (a 8), .ref (a 9), .int ((st_ap K 3 0 0) 7 0)])), (a 7, .inl (cI, ro, .inl ((st_ap K 3 0 0) 8))), (a 8, .inl (cI, ro, .inl ((st_ap K 3 0 0) 9))), (a 9, .inl (cI, ro, .inl ((st_ap K 3 0 0) 10))), (b 0, .inr (2, [.ref (b 1), .ref (b 2), .ref (b 3)])), (b 1, .inl (cI, 32, .inl (M 0))), (b 2, .inl (cI, 32, .inl (M 1))), (b 3, .inl (cZ, 8, .inl (M 2)))]) [0, 1, 2, 3, 4, 5, 10, 11, 12, 13, 6, 7, 8, 9] (by decide) rfl
    exact me_retV hx hb hr hlk hK hS dX1_perform_237 hP9 hD9
  · have hl : lv_has ls 6 [(0, .ref (a 0)), (1, .ref (b 0))] := hl
    refine lv_aload_n hx hb dX1_perform_0 rfl (lv_at hl 0 rfl) ?_
    refine va_get (D := D) (ci := 1) (v := .ref (a 3)) (C := RX1) (T := TX1) (N := 8) hx hb hg inX1 hown hK hP 0 rfl rfl 2 (by decide) (hg _ bw_1_70) (fun _ h9 => h9) rfl dX1_perform_1 ?_
    refine lv_aload_n hx hb dX1_perform_4 rfl (lv_at hl 0 rfl) ?_
    refine va_get (D := D) (ci := 1) (v := .int (K 5 0)) (C := RX1) (T := TX1) (N := 8) hx hb hg inX1 hown hK hP 0 rfl rfl 6 (by decide) (hg _ bw_1_75) (fun _ h9 => h9) rfl dX1_perform_5 ?_
    refine me_t (x := K 5 0) (y := nI (st_p K)) (hp) ?_
    refine me_ild hx hb hK hP 3 0 rfl rfl (st_p K) (rfl) (by omega) (by omega) dX1_perform_8 ?_
    refine me_t (x := K 1 (st_p K)) (y := nI (st_x K)) (hX) ?_
    refine lv_istore_n hx hb dX1_perform_9 rfl hl (by decide) rfl (fun ls hl => ?_)
    have hl : lv_has ls 6 [(2, .int (nI (st_x K))), (0, .ref (a 0)), (1, .ref (b 0))] := hl
    refine lv_aload_n hx hb dX1_perform_10 rfl (lv_at hl 1 rfl) ?_
    refine va_get (D := D) (ci := 1) (v := .ref (a 4)) (C := RX1) (T := TX1) (N := 8) hx hb hg inX1 hown hK hP 0 rfl rfl 3 (by decide) (hg _ bw_1_71) (fun _ h9 => h9) rfl dX1_perform_11 ?_
    refine lv_aload_n hx hb dX1_perform_14 rfl (lv_at hl 1 rfl) ?_
    refine va_get (D := D) (ci := 1) (v := .int (K 5 0)) (C := RX1) (T := TX1) (N := 8) hx hb hg inX1 hown hK hP 0 rfl rfl 6 (by decide) (hg _ bw_1_75) (fun _ h9 => h9) rfl dX1_perform_15 ?_
    refine me_t (x := K 5 0) (y := nI (st_p K)) (hp) ?_
    refine me_ild hx hb hK hP 4 0 rfl rfl (st_p K) (rfl) (by omega) (by omega) dX1_perform_18 ?_
    refine me_t (x := K 2 (st_p K)) (y := nI (st_y K)) (hY) ?_
    refine lv_istore_n hx hb dX1_perform_19 rfl hl (by decide) rfl (fun ls hl => ?_)
    have hl : lv_has ls 6 [(3, .int (nI (st_y K))), (2, .int (nI (st_x K))), (0, .ref (a 0)), (1, .ref (b 0))] := hl
    refine lv_aload_n hx hb dX1_perform_20 rfl (lv_at hl 2 rfl) ?_
    refine va_get (D := D) (ci := 1) (v := .ref (a 5)) (C := RX1) (T := TX1) (N := 8) hx hb hg inX1 hown hK hP 0 rfl rfl 4 (by decide) (hg _ bw_1_72) (fun _ h9 => h9) rfl dX1_perform_21 ?_
    refine lv_aload_n hx hb dX1_perform_24 rfl (lv_at hl 2 rfl) ?_
    refine va_get (D := D) (ci := 1) (v := .int (K 5 0)) (C := RX1) (T := TX1) (N := 8) hx hb hg inX1 hown hK hP 0 rfl rfl 6 (by decide) (hg _ bw_1_75) (fun _ h9 => h9) rfl dX1_perform_25 ?_
    refine me_t (x := K 5 0) (y := nI (st_p K)) (hp) ?_
    refine me_ild hx hb hK hP 5 0 rfl rfl (st_p K) (rfl) (by omega) (by omega) dX1_perform_28 ?_
    refine lv_istore hx hb dX1_perform_29 hl (by decide) rfl (fun ls hl => ?_)
    have hl : lv_has ls 6 [(4, .int (K 3 (st_p K))), (3, .int (nI (st_y K))), (2, .int (nI (st_x K))), (0, .ref (a 0)), (1, .ref (b 0))] := hl
    refine lv_aload_n hx hb dX1_perform_31 rfl (lv_at hl 3 rfl) ?_
    refine va_get (D := D) (ci := 1) (v := .ref (a 1)) (C := RX1) (T := TX1) (N := 8) hx hb hg inX1 hown hK hP 0 rfl rfl 0 (by decide) (hg _ bw_1_67) (fun _ h9 => h9) rfl dX1_perform_32 ?_
    refine lv_iload_n hx hb dX1_perform_35 rfl (lv_at hl 1 rfl) ?_
    refine me_ild hx hb hK hP 1 0 rfl rfl (st_y K) (rfl) (by omega) (by omega) dX1_perform_36 ?_
    refine lv_iload hx hb dX1_perform_37 (lv_at hl 0 rfl) ?_
    refine lv_iadd hx hb dX1_perform_39 ?_
    refine me_t (x := (K 4 (st_y K)) + (K 3 (st_p K))) (y := K 4 (st_y K) + K 3 (st_p K)) (rfl) ?_
    refine lv_bipush (v := 31) hx hb dX1_perform_40 (by decide) ?_
    refine lv_iand hx hb dX1_perform_42 ?_
    refine me_t (x := (K 4 (st_y K) + K 3 (st_p K)) &&& 31) (y := nI (st_a K)) (ha) ?_
    refine lv_istore hx hb dX1_perform_43 hl (by decide) rfl (fun ls hl => ?_)
    have hl : lv_has ls 6 [(5, .int (nI (st_a K))), (4, .int (K 3 (st_p K))), (3, .int (nI (st_y K))), (2, .int (nI (st_x K))), (0, .ref (a 0)), (1, .ref (b 0))] := hl
    refine lv_aload_n hx hb dX1_perform_45 rfl (lv_at hl 4 rfl) ?_
    refine va_get (D := D) (ci := 1) (v := .ref (a 2)) (C := RX1) (T := TX1) (N := 8) hx hb hg inX1 hown hK hP 0 rfl rfl 1 (by decide) (hg _ bw_1_69) (fun _ h9 => h9) rfl dX1_perform_46 ?_
    refine lv_aload_n hx hb dX1_perform_49 rfl (lv_at hl 4 rfl) ?_
    refine va_get (D := D) (ci := 1) (v := .int (K 5 0)) (C := RX1) (T := TX1) (N := 8) hx hb hg inX1 hown hK hP 0 rfl rfl 6 (by decide) (hg _ bw_1_75) (fun _ h9 => h9) rfl dX1_perform_50 ?_
    refine me_t (x := K 5 0) (y := nI (st_p K)) (hp) ?_
    refine me_ild hx hb hK hP 2 0 rfl rfl (st_p K) (rfl) (by omega) (by omega) dX1_perform_53 ?_
    refine me_t (x := K 0 (st_p K)) (y := nI (8)) (hz) ?_
    refine lv_tableIn (off := 151) (tgt := 205) hx hb dX1_perform_54 (by decide) (by decide) (by decide) (by decide) ?_
    refine lv_aload_n hx hb dX1_perform_205 rfl (lv_at hl 4 rfl) ?_
    refine va_get (D := D) (ci := 1) (v := .ref (a 6)) (C := RX1) (T := TX1) (N := 8) hx hb hg inX1 hown hK hP 0 rfl rfl 5 (by decide) (hg _ bw_1_73) (fun _ h9 => h9) rfl dX1_perform_206 ?_
    refine lv_iconst (v := 1) hx hb dX1_perform_209 (by decide) ?_
    refine lv_iload hx hb dX1_perform_210 (lv_at hl 0 rfl) ?_
    refine lv_iconst (v := 4) hx hb dX1_perform_212 (by decide) ?_
    refine lv_idiv hx hb dX1_perform_213 (by decide) ?_
    refine me_t (x := (nI (st_a K)) / 4) (y := nI (st_a K / 4)) (pk_div (a := st_a K) (d := 4) (by omega) (by omega) (by omega)) ?_
    refine lv_iconst (v := 0) hx hb dX1_perform_214 (by decide) ?_
    refine me_goV (wr := [(a 0, .inr (1, [.ref (a 1), .ref (a 2), .ref (a 3), .ref (a 4), .ref (a 5), .ref (a 6), .int (K 5 0), .int (K 6 0)])), (a 1, .inl (cI, 4, .inl (K 4))), (a 2, .inl (cI, 24, .inl (K 0))), (a 3, .inl (cI, 24, .inl (K 1))), (a 4, .inl (cI, 24, .inl (K 2))), (a 5, .inl (cI, 24, .inl (K 3))), (b 0, .inr (2, [.ref (b 1), .ref (b 2), .ref (b 3)])), (b 1, .inl (cI, 32, .inl (M 0))), (b 2, .inl (cI, 32, .inl (M 1))), (b 3, .inl (cZ, 8, .inl (M 2)))]) (wc := [(a 6, .inr (0, [.ref (a 7), .ref (a 8), .ref (a 9), .int (K 7 0)])), (a 7, .inl (cI, ro, .inl (K 8))), (a 8, .inl (cI, ro, .inl (K 9))), (a 9, .inl (cI, ro, .inl (K 10)))]) (w1 := [(a 6, .inr (0, [.ref (a 7), .ref (a 8), .ref (a 9), .int ((st_ap K 1 (nI (st_a K / 4)) 0) 7 0)])), (a 7, .inl (cI, ro, .inl ((st_ap K 1 (nI (st_a K / 4)) 0) 8))), (a 8, .inl (cI, ro, .inl ((st_ap K 1 (nI (st_a K / 4)) 0) 9))), (a 9, .inl (cI, ro, .inl ((st_ap K 1 (nI (st_a K / 4)) 0) 10)))]) (va_runVN (C := RX0) (b := a 6) (As := [.int (1), .int (nI (st_a K / 4)), .int (0)]) (rest := []) ⟨hx, hb, hml, hown, hg⟩ (c_bu_append l D cI cZ cR a ro K 1 (nI (st_a K / 4)) 0 hh (Nat.lt_of_not_le (fun q => hnw ((st_wq3 (by decide)).mpr q))) hro s.heap.size) ⟨va_cnB 3 hg (bg_gi (fun _ h => h) bw_1_156) rfl rfl rfl (hN _ ne_7) (hg _ bw_1_4) (by decide +kernel) ⟨Nat.le_of_ble_eq_true rfl, Nat.le_of_ble_eq_true rfl⟩, (hg _ bw_1_155), (hg _ bw_s_8)⟩ (me_preV (wc := [(a 6, .inr (0, [.ref (a 7), .ref (a 8), .ref (a 9), .int (K 7 0)])), (a 7, .inl (cI, ro, .inl (K 8))), (a 8, .inl (cI, ro, .inl (K 9))), (a 9, .inl (cI, ro, .inl (K 10)))]) hP hD hK hN [6, 7, 8, 9] rfl (by decide) (va_recv (q0 := 6) (ci := 0) hK hP rfl rfl)) rfl rfl hl.1 rfl (lv_room (Nat.le_of_ble_eq_true rfl)) dX1_perform_215 ⟨Nat.zero_le _, Nat.zero_le _⟩) hP hD hS hA [6, 7, 8, 9] [0, 1, 2, 3, 4, 5, 10, 11, 12, 13] rfl rfl (by decide) (by decide) (fun H locs hP hD hS => ?_)
    have hP : va_P D vwCl [(a 0, .inr (1, [.ref (a 1), .ref (a 2), .ref (a 3), .ref (a 4), .ref (a 5), .ref (a 6), .int (K 5 0), .int (K 6 0)])), (a 1, .inl (cI, 4, .inl (K 4))), (a 2, .inl (cI, 24, .inl (K 0))), (a 3, .inl (cI, 24, .inl (K 1))), (a 4, .inl (cI, 24, .inl (K 2))), (a 5, .inl (cI, 24, .inl (K 3))), (b 0, .inr (2, [.ref (b 1), .ref (b 2), .ref (b 3)])), (b 1, .inl (cI, 32, .inl (M 0))), (b 2, .inl (cI, 32, .inl (M 1))), (b 3, .inl (cZ, 8, .inl (M 2))), (a 6, .inr (0, [.ref (a 7), .ref (a 8), .ref (a 9), .int ((st_ap K 1 (nI (st_a K / 4)) 0) 7 0)])), (a 7, .inl (cI, ro, .inl ((st_ap K 1 (nI (st_a K / 4)) 0) 8))), (a 8, .inl (cI, ro, .inl ((st_ap K 1 (nI (st_a K / 4)) 0) 9))), (a 9, .inl (cI, ro, .inl ((st_ap K 1 (nI (st_a K / 4)) 0) 10)))] H := hP
    have hD : va_D A [(a 0, .inr (1, [.ref (a 1), .ref (a 2), .ref (a 3), .ref (a 4), .ref (a 5), .ref (a 6), .int (K 5 0), .int (K 6 0)])), (a 1, .inl (cI, 4, .inl (K 4))), (a 2, .inl (cI, 24, .inl (K 0))), (a 3, .inl (cI, 24, .inl (K 1))), (a 4, .inl (cI, 24, .inl (K 2))), (a 5, .inl (cI, 24, .inl (K 3))), (b 0, .inr (2, [.ref (b 1), .ref (b 2), .ref (b 3)])), (b 1, .inl (cI, 32, .inl (M 0))), (b 2, .inl (cI, 32, .inl (M 1))), (b 3, .inl (cZ, 8, .inl (M 2))), (a 6, .inr (0, [.ref (a 7), .ref (a 8), .ref (a 9), .int ((st_ap K 1 (nI (st_a K / 4)) 0) 7 0)])), (a 7, .inl (cI, ro, .inl ((st_ap K 1 (nI (st_a K / 4)) 0) 8))), (a 8, .inl (cI, ro, .inl ((st_ap K 1 (nI (st_a K / 4)) 0) 9))), (a 9, .inl (cI, ro, .inl ((st_ap K 1 (nI (st_a K / 4)) 0) 10)))] := hD
    refine lv_goto (tgt := 237) hx hb dX1_perform_218 (by decide) ?_
    rw [st_peK_8 hz, st_peM_8 hz]
    have hP9 := me_subP (ws' := [(a 0, .inr (1, [.ref (a 1), .ref (a 2), .ref (a 3), .ref (a 4), .ref (a 5), .ref (a 6), .int ((st_ap K 1 (nI (st_a K / 4)) 0) 5 0), .int ((st_ap K 1 (nI (st_a K / 4)) 0) 6 0)])), (a 1, .inl (cI, 4, .inl ((st_ap K 1 (nI (st_a K / 4)) 0) 4))), (a 2, .inl (cI, 24, .inl ((st_ap K 1 (nI (st_a K / 4)) 0) 0))), (a 3, .inl (cI, 24, .inl ((st_ap K 1 (nI (st_a K / 4)) 0) 1))), (a 4, .inl (cI, 24, .inl ((st_ap K 1 (nI (st_a K / 4)) 0) 2))), (a 5, .inl (cI, 24, .inl ((st_ap K 1 (nI (st_a K / 4)) 0) 3))), (a 6, .inr (0, [.ref (a 7), .ref (a 8), .ref (a 9), .int ((st_ap K 1 (nI (st_a K / 4)) 0) 7 0)])), (a 7, .inl (cI, ro, .inl ((st_ap K 1 (nI (st_a K / 4)) 0) 8))), (a 8, .inl (cI, ro, .inl ((st_ap K 1 (nI (st_a K / 4)) 0) 9))), (a 9, .inl (cI, ro, .inl ((st_ap K 1 (nI (st_a K / 4)) 0) 10))), (b 0, .inr (2, [.ref (b 1), .ref (b 2), .ref (b 3)])), (b 1, .inl (cI, 32, .inl (M 0))), (b 2, .inl (cI, 32, .inl (M 1))), (b 3, .inl (cZ, 8, .inl (M 2)))]) hP [0, 1, 2, 3, 4, 5, 10, 11, 12, 13, 6, 7, 8, 9] rfl
    have hD9 := hD.sub (ws' := [(a 0, .inr (1, [.ref (a 1), .ref (a 2), .ref (a 3), .ref (a 4), .ref (a 5), .ref (a 6), .int ((st_ap K 1 (nI (st_a K / 4)) 0) 5 0), .int ((st_ap K 1 (nI (st_a K / 4)) 0) 6 0)])), (a 1, .inl (cI, 4, .inl ((st_ap K 1 (nI (st_a K / 4)) 0) 4))), (a 2, .inl (cI, 24, .inl ((st_ap K 1 (nI (st_a K / 4)) 0) 0))), (a 3, .inl (cI, 24, .inl ((st_ap K 1 (nI (st_a K / 4)) 0) 1))), (a 4, .inl (cI, 24, .inl ((st_ap K 1 (nI (st_a K / 4)) 0) 2))), (a 5, .inl (cI, 24, .inl ((st_ap K 1 (nI (st_a K / 4)) 0) 3))), (a 6, .inr (0, [.ref (a 7), .ref (a 8), .ref (a 9), .int ((st_ap K 1 (nI (st_a K / 4)) 0) 7 0)])), (a 7, .inl (cI, ro, .inl ((st_ap K 1 (nI (st_a K / 4)) 0) 8))), (a 8, .inl (cI, ro, .inl ((st_ap K 1 (nI (st_a K / 4)) 0) 9))), (a 9, .inl (cI, ro, .inl ((st_ap K 1 (nI (st_a K / 4)) 0) 10))), (b 0, .inr (2, [.ref (b 1), .ref (b 2), .ref (b 3)])), (b 1, .inl (cI, 32, .inl (M 0))), (b 2, .inl (cI, 32, .inl (M 1))), (b 3, .inl (cZ, 8, .inl (M 2)))]) [0, 1, 2, 3, 4, 5, 10, 11, 12, 13, 6, 7, 8, 9] (by decide) rfl
    exact me_retV hx hb hr hlk hK hS dX1_perform_237 hP9 hD9
  · have hl : lv_has ls 6 [(0, .ref (a 0)), (1, .ref (b 0))] := hl
    refine lv_aload_n hx hb dX1_perform_0 rfl (lv_at hl 0 rfl) ?_
    refine va_get (D := D) (ci := 1) (v := .ref (a 3)) (C := RX1) (T := TX1) (N := 8) hx hb hg inX1 hown hK hP 0 rfl rfl 2 (by decide) (hg _ bw_1_70) (fun _ h9 => h9) rfl dX1_perform_1 ?_
    refine lv_aload_n hx hb dX1_perform_4 rfl (lv_at hl 0 rfl) ?_
    refine va_get (D := D) (ci := 1) (v := .int (K 5 0)) (C := RX1) (T := TX1) (N := 8) hx hb hg inX1 hown hK hP 0 rfl rfl 6 (by decide) (hg _ bw_1_75) (fun _ h9 => h9) rfl dX1_perform_5 ?_
    refine me_t (x := K 5 0) (y := nI (st_p K)) (hp) ?_
    refine me_ild hx hb hK hP 3 0 rfl rfl (st_p K) (rfl) (by omega) (by omega) dX1_perform_8 ?_
    refine me_t (x := K 1 (st_p K)) (y := nI (st_x K)) (hX) ?_
    refine lv_istore_n hx hb dX1_perform_9 rfl hl (by decide) rfl (fun ls hl => ?_)
    have hl : lv_has ls 6 [(2, .int (nI (st_x K))), (0, .ref (a 0)), (1, .ref (b 0))] := hl
    refine lv_aload_n hx hb dX1_perform_10 rfl (lv_at hl 1 rfl) ?_
    refine va_get (D := D) (ci := 1) (v := .ref (a 4)) (C := RX1) (T := TX1) (N := 8) hx hb hg inX1 hown hK hP 0 rfl rfl 3 (by decide) (hg _ bw_1_71) (fun _ h9 => h9) rfl dX1_perform_11 ?_
    refine lv_aload_n hx hb dX1_perform_14 rfl (lv_at hl 1 rfl) ?_
    refine va_get (D := D) (ci := 1) (v := .int (K 5 0)) (C := RX1) (T := TX1) (N := 8) hx hb hg inX1 hown hK hP 0 rfl rfl 6 (by decide) (hg _ bw_1_75) (fun _ h9 => h9) rfl dX1_perform_15 ?_
    refine me_t (x := K 5 0) (y := nI (st_p K)) (hp) ?_
    refine me_ild hx hb hK hP 4 0 rfl rfl (st_p K) (rfl) (by omega) (by omega) dX1_perform_18 ?_
    refine me_t (x := K 2 (st_p K)) (y := nI (st_y K)) (hY) ?_
    refine lv_istore_n hx hb dX1_perform_19 rfl hl (by decide) rfl (fun ls hl => ?_)
    have hl : lv_has ls 6 [(3, .int (nI (st_y K))), (2, .int (nI (st_x K))), (0, .ref (a 0)), (1, .ref (b 0))] := hl
    refine lv_aload_n hx hb dX1_perform_20 rfl (lv_at hl 2 rfl) ?_
    refine va_get (D := D) (ci := 1) (v := .ref (a 5)) (C := RX1) (T := TX1) (N := 8) hx hb hg inX1 hown hK hP 0 rfl rfl 4 (by decide) (hg _ bw_1_72) (fun _ h9 => h9) rfl dX1_perform_21 ?_
    refine lv_aload_n hx hb dX1_perform_24 rfl (lv_at hl 2 rfl) ?_
    refine va_get (D := D) (ci := 1) (v := .int (K 5 0)) (C := RX1) (T := TX1) (N := 8) hx hb hg inX1 hown hK hP 0 rfl rfl 6 (by decide) (hg _ bw_1_75) (fun _ h9 => h9) rfl dX1_perform_25 ?_
    refine me_t (x := K 5 0) (y := nI (st_p K)) (hp) ?_
    refine me_ild hx hb hK hP 5 0 rfl rfl (st_p K) (rfl) (by omega) (by omega) dX1_perform_28 ?_
    refine lv_istore hx hb dX1_perform_29 hl (by decide) rfl (fun ls hl => ?_)
    have hl : lv_has ls 6 [(4, .int (K 3 (st_p K))), (3, .int (nI (st_y K))), (2, .int (nI (st_x K))), (0, .ref (a 0)), (1, .ref (b 0))] := hl
    refine lv_aload_n hx hb dX1_perform_31 rfl (lv_at hl 3 rfl) ?_
    refine va_get (D := D) (ci := 1) (v := .ref (a 1)) (C := RX1) (T := TX1) (N := 8) hx hb hg inX1 hown hK hP 0 rfl rfl 0 (by decide) (hg _ bw_1_67) (fun _ h9 => h9) rfl dX1_perform_32 ?_
    refine lv_iload_n hx hb dX1_perform_35 rfl (lv_at hl 1 rfl) ?_
    refine me_ild hx hb hK hP 1 0 rfl rfl (st_y K) (rfl) (by omega) (by omega) dX1_perform_36 ?_
    refine lv_iload hx hb dX1_perform_37 (lv_at hl 0 rfl) ?_
    refine lv_iadd hx hb dX1_perform_39 ?_
    refine me_t (x := (K 4 (st_y K)) + (K 3 (st_p K))) (y := K 4 (st_y K) + K 3 (st_p K)) (rfl) ?_
    refine lv_bipush (v := 31) hx hb dX1_perform_40 (by decide) ?_
    refine lv_iand hx hb dX1_perform_42 ?_
    refine me_t (x := (K 4 (st_y K) + K 3 (st_p K)) &&& 31) (y := nI (st_a K)) (ha) ?_
    refine lv_istore hx hb dX1_perform_43 hl (by decide) rfl (fun ls hl => ?_)
    have hl : lv_has ls 6 [(5, .int (nI (st_a K))), (4, .int (K 3 (st_p K))), (3, .int (nI (st_y K))), (2, .int (nI (st_x K))), (0, .ref (a 0)), (1, .ref (b 0))] := hl
    refine lv_aload_n hx hb dX1_perform_45 rfl (lv_at hl 4 rfl) ?_
    refine va_get (D := D) (ci := 1) (v := .ref (a 2)) (C := RX1) (T := TX1) (N := 8) hx hb hg inX1 hown hK hP 0 rfl rfl 1 (by decide) (hg _ bw_1_69) (fun _ h9 => h9) rfl dX1_perform_46 ?_
    refine lv_aload_n hx hb dX1_perform_49 rfl (lv_at hl 4 rfl) ?_
    refine va_get (D := D) (ci := 1) (v := .int (K 5 0)) (C := RX1) (T := TX1) (N := 8) hx hb hg inX1 hown hK hP 0 rfl rfl 6 (by decide) (hg _ bw_1_75) (fun _ h9 => h9) rfl dX1_perform_50 ?_
    refine me_t (x := K 5 0) (y := nI (st_p K)) (hp) ?_
    refine me_ild hx hb hK hP 2 0 rfl rfl (st_p K) (rfl) (by omega) (by omega) dX1_perform_53 ?_
    refine me_t (x := K 0 (st_p K)) (y := nI (9)) (hz) ?_
    refine lv_tableIn (off := 167) (tgt := 221) hx hb dX1_perform_54 (by decide) (by decide) (by decide) (by decide) ?_
    refine lv_aload_n hx hb dX1_perform_221 rfl (lv_at hl 4 rfl) ?_
    refine va_get (D := D) (ci := 1) (v := .ref (a 6)) (C := RX1) (T := TX1) (N := 8) hx hb hg inX1 hown hK hP 0 rfl rfl 5 (by decide) (hg _ bw_1_73) (fun _ h9 => h9) rfl dX1_perform_222 ?_
    refine lv_iconst (v := 2) hx hb dX1_perform_225 (by decide) ?_
    refine lv_iload hx hb dX1_perform_226 (lv_at hl 0 rfl) ?_
    refine lv_iconst (v := 4) hx hb dX1_perform_228 (by decide) ?_
    refine lv_idiv hx hb dX1_perform_229 (by decide) ?_
    refine me_t (x := (nI (st_a K)) / 4) (y := nI (st_a K / 4)) (pk_div (a := st_a K) (d := 4) (by omega) (by omega) (by omega)) ?_
    refine lv_iconst (v := 0) hx hb dX1_perform_230 (by decide) ?_
    refine me_goV (wr := [(a 0, .inr (1, [.ref (a 1), .ref (a 2), .ref (a 3), .ref (a 4), .ref (a 5), .ref (a 6), .int (K 5 0), .int (K 6 0)])), (a 1, .inl (cI, 4, .inl (K 4))), (a 2, .inl (cI, 24, .inl (K 0))), (a 3, .inl (cI, 24, .inl (K 1))), (a 4, .inl (cI, 24, .inl (K 2))), (a 5, .inl (cI, 24, .inl (K 3))), (b 0, .inr (2, [.ref (b 1), .ref (b 2), .ref (b 3)])), (b 1, .inl (cI, 32, .inl (M 0))), (b 2, .inl (cI, 32, .inl (M 1))), (b 3, .inl (cZ, 8, .inl (M 2)))]) (wc := [(a 6, .inr (0, [.ref (a 7), .ref (a 8), .ref (a 9), .int (K 7 0)])), (a 7, .inl (cI, ro, .inl (K 8))), (a 8, .inl (cI, ro, .inl (K 9))), (a 9, .inl (cI, ro, .inl (K 10)))]) (w1 := [(a 6, .inr (0, [.ref (a 7), .ref (a 8), .ref (a 9), .int ((st_ap K 2 (nI (st_a K / 4)) 0) 7 0)])), (a 7, .inl (cI, ro, .inl ((st_ap K 2 (nI (st_a K / 4)) 0) 8))), (a 8, .inl (cI, ro, .inl ((st_ap K 2 (nI (st_a K / 4)) 0) 9))), (a 9, .inl (cI, ro, .inl ((st_ap K 2 (nI (st_a K / 4)) 0) 10)))]) (va_runVN (C := RX0) (b := a 6) (As := [.int (2), .int (nI (st_a K / 4)), .int (0)]) (rest := []) ⟨hx, hb, hml, hown, hg⟩ (c_bu_append l D cI cZ cR a ro K 2 (nI (st_a K / 4)) 0 hh (Nat.lt_of_not_le (fun q => hnw ((st_wq3 (by decide)).mpr q))) hro s.heap.size) ⟨va_cnB 3 hg (bg_gi (fun _ h => h) bw_1_156) rfl rfl rfl (hN _ ne_7) (hg _ bw_1_4) (by decide +kernel) ⟨Nat.le_of_ble_eq_true rfl, Nat.le_of_ble_eq_true rfl⟩, (hg _ bw_1_155), (hg _ bw_s_8)⟩ (me_preV (wc := [(a 6, .inr (0, [.ref (a 7), .ref (a 8), .ref (a 9), .int (K 7 0)])), (a 7, .inl (cI, ro, .inl (K 8))), (a 8, .inl (cI, ro, .inl (K 9))), (a 9, .inl (cI, ro, .inl (K 10)))]) hP hD hK hN [6, 7, 8, 9] rfl (by decide) (va_recv (q0 := 6) (ci := 0) hK hP rfl rfl)) rfl rfl hl.1 rfl (lv_room (Nat.le_of_ble_eq_true rfl)) dX1_perform_231 ⟨Nat.zero_le _, Nat.zero_le _⟩) hP hD hS hA [6, 7, 8, 9] [0, 1, 2, 3, 4, 5, 10, 11, 12, 13] rfl rfl (by decide) (by decide) (fun H locs hP hD hS => ?_)
    have hP : va_P D vwCl [(a 0, .inr (1, [.ref (a 1), .ref (a 2), .ref (a 3), .ref (a 4), .ref (a 5), .ref (a 6), .int (K 5 0), .int (K 6 0)])), (a 1, .inl (cI, 4, .inl (K 4))), (a 2, .inl (cI, 24, .inl (K 0))), (a 3, .inl (cI, 24, .inl (K 1))), (a 4, .inl (cI, 24, .inl (K 2))), (a 5, .inl (cI, 24, .inl (K 3))), (b 0, .inr (2, [.ref (b 1), .ref (b 2), .ref (b 3)])), (b 1, .inl (cI, 32, .inl (M 0))), (b 2, .inl (cI, 32, .inl (M 1))), (b 3, .inl (cZ, 8, .inl (M 2))), (a 6, .inr (0, [.ref (a 7), .ref (a 8), .ref (a 9), .int ((st_ap K 2 (nI (st_a K / 4)) 0) 7 0)])), (a 7, .inl (cI, ro, .inl ((st_ap K 2 (nI (st_a K / 4)) 0) 8))), (a 8, .inl (cI, ro, .inl ((st_ap K 2 (nI (st_a K / 4)) 0) 9))), (a 9, .inl (cI, ro, .inl ((st_ap K 2 (nI (st_a K / 4)) 0) 10)))] H := hP
    have hD : va_D A [(a 0, .inr (1, [.ref (a 1), .ref (a 2), .ref (a 3), .ref (a 4), .ref (a 5), .ref (a 6), .int (K 5 0), .int (K 6 0)])), (a 1, .inl (cI, 4, .inl (K 4))), (a 2, .inl (cI, 24, .inl (K 0))), (a 3, .inl (cI, 24, .inl (K 1))), (a 4, .inl (cI, 24, .inl (K 2))), (a 5, .inl (cI, 24, .inl (K 3))), (b 0, .inr (2, [.ref (b 1), .ref (b 2), .ref (b 3)])), (b 1, .inl (cI, 32, .inl (M 0))), (b 2, .inl (cI, 32, .inl (M 1))), (b 3, .inl (cZ, 8, .inl (M 2))), (a 6, .inr (0, [.ref (a 7), .ref (a 8), .ref (a 9), .int ((st_ap K 2 (nI (st_a K / 4)) 0) 7 0)])), (a 7, .inl (cI, ro, .inl ((st_ap K 2 (nI (st_a K / 4)) 0) 8))), (a 8, .inl (cI, ro, .inl ((st_ap K 2 (nI (st_a K / 4)) 0) 9))), (a 9, .inl (cI, ro, .inl ((st_ap K 2 (nI (st_a K / 4)) 0) 10)))] := hD
    refine lv_goto (tgt := 237) hx hb dX1_perform_234 (by decide) ?_
    rw [st_peK_9 hz, st_peM_9 hz]
    have hP9 := me_subP (ws' := [(a 0, .inr (1, [.ref (a 1), .ref (a 2), .ref (a 3), .ref (a 4), .ref (a 5), .ref (a 6), .int ((st_ap K 2 (nI (st_a K / 4)) 0) 5 0), .int ((st_ap K 2 (nI (st_a K / 4)) 0) 6 0)])), (a 1, .inl (cI, 4, .inl ((st_ap K 2 (nI (st_a K / 4)) 0) 4))), (a 2, .inl (cI, 24, .inl ((st_ap K 2 (nI (st_a K / 4)) 0) 0))), (a 3, .inl (cI, 24, .inl ((st_ap K 2 (nI (st_a K / 4)) 0) 1))), (a 4, .inl (cI, 24, .inl ((st_ap K 2 (nI (st_a K / 4)) 0) 2))), (a 5, .inl (cI, 24, .inl ((st_ap K 2 (nI (st_a K / 4)) 0) 3))), (a 6, .inr (0, [.ref (a 7), .ref (a 8), .ref (a 9), .int ((st_ap K 2 (nI (st_a K / 4)) 0) 7 0)])), (a 7, .inl (cI, ro, .inl ((st_ap K 2 (nI (st_a K / 4)) 0) 8))), (a 8, .inl (cI, ro, .inl ((st_ap K 2 (nI (st_a K / 4)) 0) 9))), (a 9, .inl (cI, ro, .inl ((st_ap K 2 (nI (st_a K / 4)) 0) 10))), (b 0, .inr (2, [.ref (b 1), .ref (b 2), .ref (b 3)])), (b 1, .inl (cI, 32, .inl (M 0))), (b 2, .inl (cI, 32, .inl (M 1))), (b 3, .inl (cZ, 8, .inl (M 2)))]) hP [0, 1, 2, 3, 4, 5, 10, 11, 12, 13, 6, 7, 8, 9] rfl
    have hD9 := hD.sub (ws' := [(a 0, .inr (1, [.ref (a 1), .ref (a 2), .ref (a 3), .ref (a 4), .ref (a 5), .ref (a 6), .int ((st_ap K 2 (nI (st_a K / 4)) 0) 5 0), .int ((st_ap K 2 (nI (st_a K / 4)) 0) 6 0)])), (a 1, .inl (cI, 4, .inl ((st_ap K 2 (nI (st_a K / 4)) 0) 4))), (a 2, .inl (cI, 24, .inl ((st_ap K 2 (nI (st_a K / 4)) 0) 0))), (a 3, .inl (cI, 24, .inl ((st_ap K 2 (nI (st_a K / 4)) 0) 1))), (a 4, .inl (cI, 24, .inl ((st_ap K 2 (nI (st_a K / 4)) 0) 2))), (a 5, .inl (cI, 24, .inl ((st_ap K 2 (nI (st_a K / 4)) 0) 3))), (a 6, .inr (0, [.ref (a 7), .ref (a 8), .ref (a 9), .int ((st_ap K 2 (nI (st_a K / 4)) 0) 7 0)])), (a 7, .inl (cI, ro, .inl ((st_ap K 2 (nI (st_a K / 4)) 0) 8))), (a 8, .inl (cI, ro, .inl ((st_ap K 2 (nI (st_a K / 4)) 0) 9))), (a 9, .inl (cI, ro, .inl ((st_ap K 2 (nI (st_a K / 4)) 0) 10))), (b 0, .inr (2, [.ref (b 1), .ref (b 2), .ref (b 3)])), (b 1, .inl (cI, 32, .inl (M 0))), (b 2, .inl (cI, 32, .inl (M 1))), (b 3, .inl (cZ, 8, .inl (M 2)))]) [0, 1, 2, 3, 4, 5, 10, 11, 12, 13, 6, 7, 8, 9] (by decide) rfl
    exact me_retV hx hb hr hlk hK hS dX1_perform_237 hP9 hD9
  · have hl : lv_has ls 6 [(0, .ref (a 0)), (1, .ref (b 0))] := hl
    refine lv_aload_n hx hb dX1_perform_0 rfl (lv_at hl 0 rfl) ?_
    refine va_get (D := D) (ci := 1) (v := .ref (a 3)) (C := RX1) (T := TX1) (N := 8) hx hb hg inX1 hown hK hP 0 rfl rfl 2 (by decide) (hg _ bw_1_70) (fun _ h9 => h9) rfl dX1_perform_1 ?_
    refine lv_aload_n hx hb dX1_perform_4 rfl (lv_at hl 0 rfl) ?_
    refine va_get (D := D) (ci := 1) (v := .int (K 5 0)) (C := RX1) (T := TX1) (N := 8) hx hb hg inX1 hown hK hP 0 rfl rfl 6 (by decide) (hg _ bw_1_75) (fun _ h9 => h9) rfl dX1_perform_5 ?_
    refine me_t (x := K 5 0) (y := nI (st_p K)) (hp) ?_
    refine me_ild hx hb hK hP 3 0 rfl rfl (st_p K) (rfl) (by omega) (by omega) dX1_perform_8 ?_
    refine me_t (x := K 1 (st_p K)) (y := nI (st_x K)) (hX) ?_
    refine lv_istore_n hx hb dX1_perform_9 rfl hl (by decide) rfl (fun ls hl => ?_)
    have hl : lv_has ls 6 [(2, .int (nI (st_x K))), (0, .ref (a 0)), (1, .ref (b 0))] := hl
    refine lv_aload_n hx hb dX1_perform_10 rfl (lv_at hl 1 rfl) ?_
    refine va_get (D := D) (ci := 1) (v := .ref (a 4)) (C := RX1) (T := TX1) (N := 8) hx hb hg inX1 hown hK hP 0 rfl rfl 3 (by decide) (hg _ bw_1_71) (fun _ h9 => h9) rfl dX1_perform_11 ?_
    refine lv_aload_n hx hb dX1_perform_14 rfl (lv_at hl 1 rfl) ?_
    refine va_get (D := D) (ci := 1) (v := .int (K 5 0)) (C := RX1) (T := TX1) (N := 8) hx hb hg inX1 hown hK hP 0 rfl rfl 6 (by decide) (hg _ bw_1_75) (fun _ h9 => h9) rfl dX1_perform_15 ?_
    refine me_t (x := K 5 0) (y := nI (st_p K)) (hp) ?_
    refine me_ild hx hb hK hP 4 0 rfl rfl (st_p K) (rfl) (by omega) (by omega) dX1_perform_18 ?_
    refine me_t (x := K 2 (st_p K)) (y := nI (st_y K)) (hY) ?_
    refine lv_istore_n hx hb dX1_perform_19 rfl hl (by decide) rfl (fun ls hl => ?_)
    have hl : lv_has ls 6 [(3, .int (nI (st_y K))), (2, .int (nI (st_x K))), (0, .ref (a 0)), (1, .ref (b 0))] := hl
    refine lv_aload_n hx hb dX1_perform_20 rfl (lv_at hl 2 rfl) ?_
    refine va_get (D := D) (ci := 1) (v := .ref (a 5)) (C := RX1) (T := TX1) (N := 8) hx hb hg inX1 hown hK hP 0 rfl rfl 4 (by decide) (hg _ bw_1_72) (fun _ h9 => h9) rfl dX1_perform_21 ?_
    refine lv_aload_n hx hb dX1_perform_24 rfl (lv_at hl 2 rfl) ?_
    refine va_get (D := D) (ci := 1) (v := .int (K 5 0)) (C := RX1) (T := TX1) (N := 8) hx hb hg inX1 hown hK hP 0 rfl rfl 6 (by decide) (hg _ bw_1_75) (fun _ h9 => h9) rfl dX1_perform_25 ?_
    refine me_t (x := K 5 0) (y := nI (st_p K)) (hp) ?_
    refine me_ild hx hb hK hP 5 0 rfl rfl (st_p K) (rfl) (by omega) (by omega) dX1_perform_28 ?_
    refine lv_istore hx hb dX1_perform_29 hl (by decide) rfl (fun ls hl => ?_)
    have hl : lv_has ls 6 [(4, .int (K 3 (st_p K))), (3, .int (nI (st_y K))), (2, .int (nI (st_x K))), (0, .ref (a 0)), (1, .ref (b 0))] := hl
    refine lv_aload_n hx hb dX1_perform_31 rfl (lv_at hl 3 rfl) ?_
    refine va_get (D := D) (ci := 1) (v := .ref (a 1)) (C := RX1) (T := TX1) (N := 8) hx hb hg inX1 hown hK hP 0 rfl rfl 0 (by decide) (hg _ bw_1_67) (fun _ h9 => h9) rfl dX1_perform_32 ?_
    refine lv_iload_n hx hb dX1_perform_35 rfl (lv_at hl 1 rfl) ?_
    refine me_ild hx hb hK hP 1 0 rfl rfl (st_y K) (rfl) (by omega) (by omega) dX1_perform_36 ?_
    refine lv_iload hx hb dX1_perform_37 (lv_at hl 0 rfl) ?_
    refine lv_iadd hx hb dX1_perform_39 ?_
    refine me_t (x := (K 4 (st_y K)) + (K 3 (st_p K))) (y := K 4 (st_y K) + K 3 (st_p K)) (rfl) ?_
    refine lv_bipush (v := 31) hx hb dX1_perform_40 (by decide) ?_
    refine lv_iand hx hb dX1_perform_42 ?_
    refine me_t (x := (K 4 (st_y K) + K 3 (st_p K)) &&& 31) (y := nI (st_a K)) (ha) ?_
    refine lv_istore hx hb dX1_perform_43 hl (by decide) rfl (fun ls hl => ?_)
    have hl : lv_has ls 6 [(5, .int (nI (st_a K))), (4, .int (K 3 (st_p K))), (3, .int (nI (st_y K))), (2, .int (nI (st_x K))), (0, .ref (a 0)), (1, .ref (b 0))] := hl
    refine lv_aload_n hx hb dX1_perform_45 rfl (lv_at hl 4 rfl) ?_
    refine va_get (D := D) (ci := 1) (v := .ref (a 2)) (C := RX1) (T := TX1) (N := 8) hx hb hg inX1 hown hK hP 0 rfl rfl 1 (by decide) (hg _ bw_1_69) (fun _ h9 => h9) rfl dX1_perform_46 ?_
    refine lv_aload_n hx hb dX1_perform_49 rfl (lv_at hl 4 rfl) ?_
    refine va_get (D := D) (ci := 1) (v := .int (K 5 0)) (C := RX1) (T := TX1) (N := 8) hx hb hg inX1 hown hK hP 0 rfl rfl 6 (by decide) (hg _ bw_1_75) (fun _ h9 => h9) rfl dX1_perform_50 ?_
    refine me_t (x := K 5 0) (y := nI (st_p K)) (hp) ?_
    refine me_ild hx hb hK hP 2 0 rfl rfl (st_p K) (rfl) (by omega) (by omega) dX1_perform_53 ?_
    refine me_t (x := K 0 (st_p K)) (y := nI (10)) (hz) ?_
    refine lv_tableOut (tgt := 237) hx hb dX1_perform_54 (by decide) (by decide) ?_
    rw [st_peK_10 hz, st_peM_10 hz]
    have hP9 := me_subP (ws' := [(a 0, .inr (1, [.ref (a 1), .ref (a 2), .ref (a 3), .ref (a 4), .ref (a 5), .ref (a 6), .int (K 5 0), .int (K 6 0)])), (a 1, .inl (cI, 4, .inl (K 4))), (a 2, .inl (cI, 24, .inl (K 0))), (a 3, .inl (cI, 24, .inl (K 1))), (a 4, .inl (cI, 24, .inl (K 2))), (a 5, .inl (cI, 24, .inl (K 3))), (a 6, .inr (0, [.ref (a 7), .ref (a 8), .ref (a 9), .int (K 7 0)])), (a 7, .inl (cI, ro, .inl (K 8))), (a 8, .inl (cI, ro, .inl (K 9))), (a 9, .inl (cI, ro, .inl (K 10))), (b 0, .inr (2, [.ref (b 1), .ref (b 2), .ref (b 3)])), (b 1, .inl (cI, 32, .inl (M 0))), (b 2, .inl (cI, 32, .inl (M 1))), (b 3, .inl (cZ, 8, .inl (M 2)))]) hP [0, 1, 2, 3, 4, 5, 6, 7, 8, 9, 10, 11, 12, 13] rfl
    have hD9 := hD.sub (ws' := [(a 0, .inr (1, [.ref (a 1), .ref (a 2), .ref (a 3), .ref (a 4), .ref (a 5), .ref (a 6), .int (K 5 0), .int (K 6 0)])), (a 1, .inl (cI, 4, .inl (K 4))), (a 2, .inl (cI, 24, .inl (K 0))), (a 3, .inl (cI, 24, .inl (K 1))), (a 4, .inl (cI, 24, .inl (K 2))), (a 5, .inl (cI, 24, .inl (K 3))), (a 6, .inr (0, [.ref (a 7), .ref (a 8), .ref (a 9), .int (K 7 0)])), (a 7, .inl (cI, ro, .inl (K 8))), (a 8, .inl (cI, ro, .inl (K 9))), (a 9, .inl (cI, ro, .inl (K 10))), (b 0, .inr (2, [.ref (b 1), .ref (b 2), .ref (b 3)])), (b 1, .inl (cI, 32, .inl (M 0))), (b 2, .inl (cI, 32, .inl (M 1))), (b 3, .inl (cZ, 8, .inl (M 2)))]) [0, 1, 2, 3, 4, 5, 6, 7, 8, 9, 10, 11, 12, 13] (by decide) rfl
    exact me_retV hx hb hr hlk hK hS dX1_perform_237 hP9 hD9
set_option maxHeartbeats 4000000 in
set_option maxRecDepth 100000 in
theorem c_co_doI (l : Launch) (D : va_G) (cI cZ cR : ClassId) (a b : Nat → Nat) (ro : Nat) (K M : st_T) (hh : K 7 0 = nI (st_h K)) (hb1 : st_h K ≤ ro) (hro : ro ≤ 8) (hp : K 5 0 = nI (st_p K)) (hp24 : st_p K ≤ 24) (hC : st_p K < 24 → ∃ z, z ≤ 10 ∧ K 0 (st_p K) = nI z ∧ K 1 (st_p K) = nI (st_x K) ∧ st_x K < 4 ∧ K 2 (st_p K) = nI (st_y K) ∧ st_y K < 4) : me_I l yX1_doInstruction wsX1_doInstruction ({ frames := 3, cells := 0, slots := 0, locals := 70 } : Room) D (me_TYS cI cZ cR) ([.ref (a 0), .ref (b 0)] : List Value) (w_co a cI K ++ w_bu a cI ro K ++ w_sh b cI cZ M) (st_doA ro K) (w_co a cI (st_doK ro K M) ++ w_bu a cI ro (st_doK ro K M) ++ w_sh b cI cZ (st_doM ro K M)) := by
  intro sz
  refine me_ent (cc := cX1_doInstruction) (maxL := 3) (ret := (some .int)) (Qf := me_QI D (me_TYS cI cZ cR) (st_doA ro K) (w_co a cI (st_doK ro K M) ++ w_bu a cI ro (st_doK ro K M) ++ w_sh b cI cZ (st_doM ro K M))) (by decide) rfl (Nat.le_of_ble_eq_true rfl) ?_
  intro p e s m below meth c A ls hx hb hr hml hts hown hlk hin hP hK hD hN hA hS hl
  have hown : s.vm.findClass RX1 = some m.cls := hown
  have hg : ∀ w9 ∈ bg, w9.before ([.ref (a 0), .ref (b 0)] : List Value).toArray s = true := fun w9 h9 => hts w9 (List.mem_cons_of_mem _ h9)
  have hl : lv_has ls 3 [(0, .ref (a 0)), (1, .ref (b 0))] := hl
  have hP : va_P D vwCl [(a 0, .inr (1, [.ref (a 1), .ref (a 2), .ref (a 3), .ref (a 4), .ref (a 5), .ref (a 6), .int (K 5 0), .int (K 6 0)])), (a 1, .inl (cI, 4, .inl (K 4))), (a 2, .inl (cI, 24, .inl (K 0))), (a 3, .inl (cI, 24, .inl (K 1))), (a 4, .inl (cI, 24, .inl (K 2))), (a 5, .inl (cI, 24, .inl (K 3))), (a 6, .inr (0, [.ref (a 7), .ref (a 8), .ref (a 9), .int (K 7 0)])), (a 7, .inl (cI, ro, .inl (K 8))), (a 8, .inl (cI, ro, .inl (K 9))), (a 9, .inl (cI, ro, .inl (K 10))), (b 0, .inr (2, [.ref (b 1), .ref (b 2), .ref (b 3)])), (b 1, .inl (cI, 32, .inl (M 0))), (b 2, .inl (cI, 32, .inl (M 1))), (b 3, .inl (cZ, 8, .inl (M 2)))] s.heap := hP
  have hD : va_D A [(a 0, .inr (1, [.ref (a 1), .ref (a 2), .ref (a 3), .ref (a 4), .ref (a 5), .ref (a 6), .int (K 5 0), .int (K 6 0)])), (a 1, .inl (cI, 4, .inl (K 4))), (a 2, .inl (cI, 24, .inl (K 0))), (a 3, .inl (cI, 24, .inl (K 1))), (a 4, .inl (cI, 24, .inl (K 2))), (a 5, .inl (cI, 24, .inl (K 3))), (a 6, .inr (0, [.ref (a 7), .ref (a 8), .ref (a 9), .int (K 7 0)])), (a 7, .inl (cI, ro, .inl (K 8))), (a 8, .inl (cI, ro, .inl (K 9))), (a 9, .inl (cI, ro, .inl (K 10))), (b 0, .inr (2, [.ref (b 1), .ref (b 2), .ref (b 3)])), (b 1, .inl (cI, 32, .inl (M 0))), (b 2, .inl (cI, 32, .inl (M 1))), (b 3, .inl (cZ, 8, .inl (M 2)))] := hD
  refine lv_aload_n hx hb dX1_doInstruction_0 rfl (lv_at hl 0 rfl) ?_
  refine va_get (D := D) (ci := 1) (v := .int (K 5 0)) (C := RX1) (T := TX1) (N := 8) hx hb hg inX1 hown hK hP 0 rfl rfl 6 (by decide) (hg _ bw_1_75) (fun _ h9 => h9) rfl dX1_doInstruction_1 ?_
  refine me_t (x := K 5 0) (y := nI (st_p K)) (hp) ?_
  refine lv_bipush (v := 24) hx hb dX1_doInstruction_4 (by decide) ?_
  refine lv_icmp_ge (tgt := 21) hx hb dX1_doInstruction_6 (by decide) (fun b6 => ?_) (fun b6 => ?_)
  · have b6 := me_le (a := 24) (b := st_p K) (by omega) (by omega) b6
    refine lv_iconst (v := 2) hx hb dX1_doInstruction_21 (by decide) ?_
    have hH : st_ha K := Or.inl b6
    rw [show st_doK ro K M = K from me_swt (Or.inl hH), show st_doM ro K M = M from me_swt (Or.inl hH)]
    have hP9 := me_subP (ws' := [(a 0, .inr (1, [.ref (a 1), .ref (a 2), .ref (a 3), .ref (a 4), .ref (a 5), .ref (a 6), .int (K 5 0), .int (K 6 0)])), (a 1, .inl (cI, 4, .inl (K 4))), (a 2, .inl (cI, 24, .inl (K 0))), (a 3, .inl (cI, 24, .inl (K 1))), (a 4, .inl (cI, 24, .inl (K 2))), (a 5, .inl (cI, 24, .inl (K 3))), (a 6, .inr (0, [.ref (a 7), .ref (a 8), .ref (a 9), .int (K 7 0)])), (a 7, .inl (cI, ro, .inl (K 8))), (a 8, .inl (cI, ro, .inl (K 9))), (a 9, .inl (cI, ro, .inl (K 10))), (b 0, .inr (2, [.ref (b 1), .ref (b 2), .ref (b 3)])), (b 1, .inl (cI, 32, .inl (M 0))), (b 2, .inl (cI, 32, .inl (M 1))), (b 3, .inl (cZ, 8, .inl (M 2)))]) hP [0, 1, 2, 3, 4, 5, 6, 7, 8, 9, 10, 11, 12, 13] rfl
    have hD9 := hD.sub (ws' := [(a 0, .inr (1, [.ref (a 1), .ref (a 2), .ref (a 3), .ref (a 4), .ref (a 5), .ref (a 6), .int (K 5 0), .int (K 6 0)])), (a 1, .inl (cI, 4, .inl (K 4))), (a 2, .inl (cI, 24, .inl (K 0))), (a 3, .inl (cI, 24, .inl (K 1))), (a 4, .inl (cI, 24, .inl (K 2))), (a 5, .inl (cI, 24, .inl (K 3))), (a 6, .inr (0, [.ref (a 7), .ref (a 8), .ref (a 9), .int (K 7 0)])), (a 7, .inl (cI, ro, .inl (K 8))), (a 8, .inl (cI, ro, .inl (K 9))), (a 9, .inl (cI, ro, .inl (K 10))), (b 0, .inr (2, [.ref (b 1), .ref (b 2), .ref (b 3)])), (b 1, .inl (cI, 32, .inl (M 0))), (b 2, .inl (cI, 32, .inl (M 1))), (b 3, .inl (cZ, 8, .inl (M 2)))]) [0, 1, 2, 3, 4, 5, 6, 7, 8, 9, 10, 11, 12, 13] (by decide) rfl
    exact me_retI hx hb hr hlk hK hS dX1_doInstruction_22 ((me_swt hH).symm) hP9 hD9
  · have b6 := me_nle (a := 24) (b := st_p K) (by omega) (by omega) b6
    obtain ⟨z, hz1, hz, hX, hX1, hY, hY1⟩ := hC b6
    refine lv_aload_n hx hb dX1_doInstruction_9 rfl (lv_at hl 0 rfl) ?_
    refine va_get (D := D) (ci := 1) (v := .ref (a 2)) (C := RX1) (T := TX1) (N := 8) hx hb hg inX1 hown hK hP 0 rfl rfl 1 (by decide) (hg _ bw_1_69) (fun _ h9 => h9) rfl dX1_doInstruction_10 ?_
    refine lv_aload_n hx hb dX1_doInstruction_13 rfl (lv_at hl 0 rfl) ?_
    refine va_get (D := D) (ci := 1) (v := .int (K 5 0)) (C := RX1) (T := TX1) (N := 8) hx hb hg inX1 hown hK hP 0 rfl rfl 6 (by decide) (hg _ bw_1_75) (fun _ h9 => h9) rfl dX1_doInstruction_14 ?_
    refine me_t (x := K 5 0) (y := nI (st_p K)) (hp) ?_
    refine me_ild hx hb hK hP 2 0 rfl rfl (st_p K) (rfl) (by omega) (by omega) dX1_doInstruction_17 ?_
    refine me_t (x := K 0 (st_p K)) (y := nI (z)) (hz) ?_
    refine lv_if_ne (tgt := 23) hx hb dX1_doInstruction_18 (by decide) (fun b18 => ?_) (fun b18 => ?_)
    · have b18 := me_ne (a := z) (b := 0) (by omega) (by omega) b18
      refine lv_aload_n hx hb dX1_doInstruction_23 rfl (lv_at hl 0 rfl) ?_
      refine lv_aload_n hx hb dX1_doInstruction_24 rfl (lv_at hl 0 rfl) ?_
      refine va_get (D := D) (ci := 1) (v := .ref (a 2)) (C := RX1) (T := TX1) (N := 8) hx hb hg inX1 hown hK hP 0 rfl rfl 1 (by decide) (hg _ bw_1_69) (fun _ h9 => h9) rfl dX1_doInstruction_25 ?_
      refine lv_aload_n hx hb dX1_doInstruction_28 rfl (lv_at hl 0 rfl) ?_
      refine va_get (D := D) (ci := 1) (v := .int (K 5 0)) (C := RX1) (T := TX1) (N := 8) hx hb hg inX1 hown hK hP 0 rfl rfl 6 (by decide) (hg _ bw_1_75) (fun _ h9 => h9) rfl dX1_doInstruction_29 ?_
      refine me_t (x := K 5 0) (y := nI (st_p K)) (hp) ?_
      refine me_ild hx hb hK hP 2 0 rfl rfl (st_p K) (rfl) (by omega) (by omega) dX1_doInstruction_32 ?_
      refine me_t (x := K 0 (st_p K)) (y := nI (z)) (hz) ?_
      refine me_goI (wr := [(b 0, .inr (2, [.ref (b 1), .ref (b 2), .ref (b 3)])), (b 1, .inl (cI, 32, .inl (M 0))), (b 2, .inl (cI, 32, .inl (M 1))), (b 3, .inl (cZ, 8, .inl (M 2)))]) (wc := [(a 0, .inr (1, [.ref (a 1), .ref (a 2), .ref (a 3), .ref (a 4), .ref (a 5), .ref (a 6), .int (K 5 0), .int (K 6 0)])), (a 1, .inl (cI, 4, .inl (K 4))), (a 2, .inl (cI, 24, .inl (K 0))), (a 3, .inl (cI, 24, .inl (K 1))), (a 4, .inl (cI, 24, .inl (K 2))), (a 5, .inl (cI, 24, .inl (K 3))), (a 6, .inr (0, [.ref (a 7), .ref (a 8), .ref (a 9), .int (K 7 0)])), (a 7, .inl (cI, ro, .inl (K 8))), (a 8, .inl (cI, ro, .inl (K 9))), (a 9, .inl (cI, ro, .inl (K 10)))]) (w1 := [(a 0, .inr (1, [.ref (a 1), .ref (a 2), .ref (a 3), .ref (a 4), .ref (a 5), .ref (a 6), .int (K 5 0), .int (K 6 0)])), (a 1, .inl (cI, 4, .inl (K 4))), (a 2, .inl (cI, 24, .inl (K 0))), (a 3, .inl (cI, 24, .inl (K 1))), (a 4, .inl (cI, 24, .inl (K 2))), (a 5, .inl (cI, 24, .inl (K 3))), (a 6, .inr (0, [.ref (a 7), .ref (a 8), .ref (a 9), .int (K 7 0)])), (a 7, .inl (cI, ro, .inl (K 8))), (a 8, .inl (cI, ro, .inl (K 9))), (a 9, .inl (cI, ro, .inl (K 10)))]) (va_runV (C := RX1) (b := a 0) (As := [.int (nI (z))]) (rest := []) ⟨hx, hb, hml, hown, hg⟩ (c_co_mustWait l D cI cZ cR a ro K z hh hb1 hro hz1 s.heap.size) (cwV 1 hg (bg_gV (fun _ h => h) bw_1_133 bw_1_135 bw_s_3 bw_1_3 bw_1_136) rfl rfl rfl (by decide +kernel) ⟨Nat.le_of_ble_eq_true rfl, Nat.le_of_ble_eq_true rfl⟩) (me_preV (wc := [(a 0, .inr (1, [.ref (a 1), .ref (a 2), .ref (a 3), .ref (a 4), .ref (a 5), .ref (a 6), .int (K 5 0), .int (K 6 0)])), (a 1, .inl (cI, 4, .inl (K 4))), (a 2, .inl (cI, 24, .inl (K 0))), (a 3, .inl (cI, 24, .inl (K 1))), (a 4, .inl (cI, 24, .inl (K 2))), (a 5, .inl (cI, 24, .inl (K 3))), (a 6, .inr (0, [.ref (a 7), .ref (a 8), .ref (a 9), .int (K 7 0)])), (a 7, .inl (cI, ro, .inl (K 8))), (a 8, .inl (cI, ro, .inl (K 9))), (a 9, .inl (cI, ro, .inl (K 10)))]) hP hD hK hN [0, 1, 2, 3, 4, 5, 6, 7, 8, 9] rfl (by decide) (va_recv (q0 := 0) (ci := 1) hK hP rfl rfl)) rfl rfl hl.1 rfl (lv_room (Nat.le_of_ble_eq_true rfl)) dX1_doInstruction_33 ⟨Nat.zero_le _, Nat.zero_le _⟩) hP hD hS hA [0, 1, 2, 3, 4, 5, 6, 7, 8, 9] [10, 11, 12, 13] rfl rfl (by decide) (by decide) (fun H locs hP hD hS => ?_)
      have hP : va_P D vwCl [(b 0, .inr (2, [.ref (b 1), .ref (b 2), .ref (b 3)])), (b 1, .inl (cI, 32, .inl (M 0))), (b 2, .inl (cI, 32, .inl (M 1))), (b 3, .inl (cZ, 8, .inl (M 2))), (a 0, .inr (1, [.ref (a 1), .ref (a 2), .ref (a 3), .ref (a 4), .ref (a 5), .ref (a 6), .int (K 5 0), .int (K 6 0)])), (a 1, .inl (cI, 4, .inl (K 4))), (a 2, .inl (cI, 24, .inl (K 0))), (a 3, .inl (cI, 24, .inl (K 1))), (a 4, .inl (cI, 24, .inl (K 2))), (a 5, .inl (cI, 24, .inl (K 3))), (a 6, .inr (0, [.ref (a 7), .ref (a 8), .ref (a 9), .int (K 7 0)])), (a 7, .inl (cI, ro, .inl (K 8))), (a 8, .inl (cI, ro, .inl (K 9))), (a 9, .inl (cI, ro, .inl (K 10)))] H := hP
      have hD : va_D A [(b 0, .inr (2, [.ref (b 1), .ref (b 2), .ref (b 3)])), (b 1, .inl (cI, 32, .inl (M 0))), (b 2, .inl (cI, 32, .inl (M 1))), (b 3, .inl (cZ, 8, .inl (M 2))), (a 0, .inr (1, [.ref (a 1), .ref (a 2), .ref (a 3), .ref (a 4), .ref (a 5), .ref (a 6), .int (K 5 0), .int (K 6 0)])), (a 1, .inl (cI, 4, .inl (K 4))), (a 2, .inl (cI, 24, .inl (K 0))), (a 3, .inl (cI, 24, .inl (K 1))), (a 4, .inl (cI, 24, .inl (K 2))), (a 5, .inl (cI, 24, .inl (K 3))), (a 6, .inr (0, [.ref (a 7), .ref (a 8), .ref (a 9), .int (K 7 0)])), (a 7, .inl (cI, ro, .inl (K 8))), (a 8, .inl (cI, ro, .inl (K 9))), (a 9, .inl (cI, ro, .inl (K 10)))] := hD
      refine lv_if_eq (tgt := 41) hx hb dX1_doInstruction_36 (by decide) (fun b36 => ?_) (fun b36 => ?_)
      · have b36 := me_b0 b36
        refine lv_aload_n hx hb dX1_doInstruction_41 rfl (lv_at hl 0 rfl) ?_
        refine me_goI (wr := [(b 0, .inr (2, [.ref (b 1), .ref (b 2), .ref (b 3)])), (b 1, .inl (cI, 32, .inl (M 0))), (b 2, .inl (cI, 32, .inl (M 1))), (b 3, .inl (cZ, 8, .inl (M 2))), (a 6, .inr (0, [.ref (a 7), .ref (a 8), .ref (a 9), .int (K 7 0)])), (a 7, .inl (cI, ro, .inl (K 8))), (a 8, .inl (cI, ro, .inl (K 9))), (a 9, .inl (cI, ro, .inl (K 10)))]) (wc := [(a 0, .inr (1, [.ref (a 1), .ref (a 2), .ref (a 3), .ref (a 4), .ref (a 5), .ref (a 6), .int (K 5 0), .int (K 6 0)])), (a 1, .inl (cI, 4, .inl (K 4))), (a 2, .inl (cI, 24, .inl (K 0))), (a 3, .inl (cI, 24, .inl (K 1))), (a 4, .inl (cI, 24, .inl (K 2))), (a 5, .inl (cI, 24, .inl (K 3)))]) (w1 := [(a 0, .inr (1, [.ref (a 1), .ref (a 2), .ref (a 3), .ref (a 4), .ref (a 5), .ref (a 6), .int (K 5 0), .int (K 6 0)])), (a 1, .inl (cI, 4, .inl (K 4))), (a 2, .inl (cI, 24, .inl (K 0))), (a 3, .inl (cI, 24, .inl (K 1))), (a 4, .inl (cI, 24, .inl (K 2))), (a 5, .inl (cI, 24, .inl (K 3)))]) (va_runV (C := RX1) (b := a 0) (As := []) (rest := []) ⟨hx, hb, hml, hown, hg⟩ (c_co_nextPlace l D cI cZ cR a K hp b6 hX hX1 H.size) (cwV 0 hg (bg_gV (fun _ h => h) bw_1_141 bw_1_143 bw_s_5 bw_1_3 bw_1_144) rfl rfl rfl (by decide +kernel) ⟨Nat.le_of_ble_eq_true rfl, Nat.le_of_ble_eq_true rfl⟩) (me_preV (wc := [(a 0, .inr (1, [.ref (a 1), .ref (a 2), .ref (a 3), .ref (a 4), .ref (a 5), .ref (a 6), .int (K 5 0), .int (K 6 0)])), (a 1, .inl (cI, 4, .inl (K 4))), (a 2, .inl (cI, 24, .inl (K 0))), (a 3, .inl (cI, 24, .inl (K 1))), (a 4, .inl (cI, 24, .inl (K 2))), (a 5, .inl (cI, 24, .inl (K 3)))]) hP hD hK hN [4, 5, 6, 7, 8, 9] rfl (by decide) (va_recv (q0 := 4) (ci := 1) hK hP rfl rfl)) rfl rfl hl.1 rfl (lv_room (Nat.le_of_ble_eq_true rfl)) dX1_doInstruction_42 ⟨Nat.zero_le _, Nat.zero_le _⟩) hP hD hS hA [4, 5, 6, 7, 8, 9] [0, 1, 2, 3, 10, 11, 12, 13] rfl rfl (by decide) (by decide) (fun H locs hP hD hS => ?_)
        have hP : va_P D vwCl [(b 0, .inr (2, [.ref (b 1), .ref (b 2), .ref (b 3)])), (b 1, .inl (cI, 32, .inl (M 0))), (b 2, .inl (cI, 32, .inl (M 1))), (b 3, .inl (cZ, 8, .inl (M 2))), (a 6, .inr (0, [.ref (a 7), .ref (a 8), .ref (a 9), .int (K 7 0)])), (a 7, .inl (cI, ro, .inl (K 8))), (a 8, .inl (cI, ro, .inl (K 9))), (a 9, .inl (cI, ro, .inl (K 10))), (a 0, .inr (1, [.ref (a 1), .ref (a 2), .ref (a 3), .ref (a 4), .ref (a 5), .ref (a 6), .int (K 5 0), .int (K 6 0)])), (a 1, .inl (cI, 4, .inl (K 4))), (a 2, .inl (cI, 24, .inl (K 0))), (a 3, .inl (cI, 24, .inl (K 1))), (a 4, .inl (cI, 24, .inl (K 2))), (a 5, .inl (cI, 24, .inl (K 3)))] H := hP
        have hD : va_D A [(b 0, .inr (2, [.ref (b 1), .ref (b 2), .ref (b 3)])), (b 1, .inl (cI, 32, .inl (M 0))), (b 2, .inl (cI, 32, .inl (M 1))), (b 3, .inl (cZ, 8, .inl (M 2))), (a 6, .inr (0, [.ref (a 7), .ref (a 8), .ref (a 9), .int (K 7 0)])), (a 7, .inl (cI, ro, .inl (K 8))), (a 8, .inl (cI, ro, .inl (K 9))), (a 9, .inl (cI, ro, .inl (K 10))), (a 0, .inr (1, [.ref (a 1), .ref (a 2), .ref (a 3), .ref (a 4), .ref (a 5), .ref (a 6), .int (K 5 0), .int (K 6 0)])), (a 1, .inl (cI, 4, .inl (K 4))), (a 2, .inl (cI, 24, .inl (K 0))), (a 3, .inl (cI, 24, .inl (K 1))), (a 4, .inl (cI, 24, .inl (K 2))), (a 5, .inl (cI, 24, .inl (K 3)))] := hD
        refine lv_istore_n hx hb dX1_doInstruction_45 rfl hl (by decide) rfl (fun ls hl => ?_)
        have hl : lv_has ls 3 [(2, .int (st_nx K)), (0, .ref (a 0)), (1, .ref (b 0))] := hl
        refine lv_aload_n hx hb dX1_doInstruction_46 rfl (lv_at hl 1 rfl) ?_
        refine lv_aload_n hx hb dX1_doInstruction_47 rfl (lv_at hl 2 rfl) ?_
        refine me_goV (wr := []) (wc := [(a 0, .inr (1, [.ref (a 1), .ref (a 2), .ref (a 3), .ref (a 4), .ref (a 5), .ref (a 6), .int (K 5 0), .int (K 6 0)])), (a 1, .inl (cI, 4, .inl (K 4))), (a 2, .inl (cI, 24, .inl (K 0))), (a 3, .inl (cI, 24, .inl (K 1))), (a 4, .inl (cI, 24, .inl (K 2))), (a 5, .inl (cI, 24, .inl (K 3))), (a 6, .inr (0, [.ref (a 7), .ref (a 8), .ref (a 9), .int (K 7 0)])), (a 7, .inl (cI, ro, .inl (K 8))), (a 8, .inl (cI, ro, .inl (K 9))), (a 9, .inl (cI, ro, .inl (K 10))), (b 0, .inr (2, [.ref (b 1), .ref (b 2), .ref (b 3)])), (b 1, .inl (cI, 32, .inl (M 0))), (b 2, .inl (cI, 32, .inl (M 1))), (b 3, .inl (cZ, 8, .inl (M 2)))]) (w1 := [(a 0, .inr (1, [.ref (a 1), .ref (a 2), .ref (a 3), .ref (a 4), .ref (a 5), .ref (a 6), .int ((st_peK K M) 5 0), .int ((st_peK K M) 6 0)])), (a 1, .inl (cI, 4, .inl ((st_peK K M) 4))), (a 2, .inl (cI, 24, .inl ((st_peK K M) 0))), (a 3, .inl (cI, 24, .inl ((st_peK K M) 1))), (a 4, .inl (cI, 24, .inl ((st_peK K M) 2))), (a 5, .inl (cI, 24, .inl ((st_peK K M) 3))), (a 6, .inr (0, [.ref (a 7), .ref (a 8), .ref (a 9), .int ((st_peK K M) 7 0)])), (a 7, .inl (cI, ro, .inl ((st_peK K M) 8))), (a 8, .inl (cI, ro, .inl ((st_peK K M) 9))), (a 9, .inl (cI, ro, .inl ((st_peK K M) 10))), (b 0, .inr (2, [.ref (b 1), .ref (b 2), .ref (b 3)])), (b 1, .inl (cI, 32, .inl ((st_peM K M) 0))), (b 2, .inl (cI, 32, .inl ((st_peM K M) 1))), (b 3, .inl (cZ, 8, .inl ((st_peM K M) 2)))]) (va_runV (C := RX1) (b := a 0) (As := [.ref (b 0)]) (rest := []) ⟨hx, hb, hml, hown, hg⟩ (c_co_perform l D cI cZ cR a b ro K M z hh hb1 hro hp b6 hX hX1 hY hY1 hz hz1 b36 H.size) (cwV 1 hg (bg_gV (fun _ h => h) bw_1_145 bw_1_147 bw_s_6 bw_1_3 bw_1_148) rfl rfl rfl (by decide +kernel) ⟨Nat.le_of_ble_eq_true rfl, Nat.le_of_ble_eq_true rfl⟩) (me_preV (wc := [(a 0, .inr (1, [.ref (a 1), .ref (a 2), .ref (a 3), .ref (a 4), .ref (a 5), .ref (a 6), .int (K 5 0), .int (K 6 0)])), (a 1, .inl (cI, 4, .inl (K 4))), (a 2, .inl (cI, 24, .inl (K 0))), (a 3, .inl (cI, 24, .inl (K 1))), (a 4, .inl (cI, 24, .inl (K 2))), (a 5, .inl (cI, 24, .inl (K 3))), (a 6, .inr (0, [.ref (a 7), .ref (a 8), .ref (a 9), .int (K 7 0)])), (a 7, .inl (cI, ro, .inl (K 8))), (a 8, .inl (cI, ro, .inl (K 9))), (a 9, .inl (cI, ro, .inl (K 10))), (b 0, .inr (2, [.ref (b 1), .ref (b 2), .ref (b 3)])), (b 1, .inl (cI, 32, .inl (M 0))), (b 2, .inl (cI, 32, .inl (M 1))), (b 3, .inl (cZ, 8, .inl (M 2)))]) hP hD hK hN [8, 9, 10, 11, 12, 13, 4, 5, 6, 7, 0, 1, 2, 3] rfl (by decide) (va_recv (q0 := 8) (ci := 1) hK hP rfl rfl)) rfl rfl hl.1 rfl (lv_room (Nat.le_of_ble_eq_true rfl)) dX1_doInstruction_48 ⟨Nat.zero_le _, Nat.zero_le _⟩) hP hD hS hA [8, 9, 10, 11, 12, 13, 4, 5, 6, 7, 0, 1, 2, 3] [] rfl rfl (by decide) (by decide) (fun H locs hP hD hS => ?_)
        have hP : va_P D vwCl [(a 0, .inr (1, [.ref (a 1), .ref (a 2), .ref (a 3), .ref (a 4), .ref (a 5), .ref (a 6), .int ((st_peK K M) 5 0), .int ((st_peK K M) 6 0)])), (a 1, .inl (cI, 4, .inl ((st_peK K M) 4))), (a 2, .inl (cI, 24, .inl ((st_peK K M) 0))), (a 3, .inl (cI, 24, .inl ((st_peK K M) 1))), (a 4, .inl (cI, 24, .inl ((st_peK K M) 2))), (a 5, .inl (cI, 24, .inl ((st_peK K M) 3))), (a 6, .inr (0, [.ref (a 7), .ref (a 8), .ref (a 9), .int ((st_peK K M) 7 0)])), (a 7, .inl (cI, ro, .inl ((st_peK K M) 8))), (a 8, .inl (cI, ro, .inl ((st_peK K M) 9))), (a 9, .inl (cI, ro, .inl ((st_peK K M) 10))), (b 0, .inr (2, [.ref (b 1), .ref (b 2), .ref (b 3)])), (b 1, .inl (cI, 32, .inl ((st_peM K M) 0))), (b 2, .inl (cI, 32, .inl ((st_peM K M) 1))), (b 3, .inl (cZ, 8, .inl ((st_peM K M) 2)))] H := hP
        have hD : va_D A [(a 0, .inr (1, [.ref (a 1), .ref (a 2), .ref (a 3), .ref (a 4), .ref (a 5), .ref (a 6), .int ((st_peK K M) 5 0), .int ((st_peK K M) 6 0)])), (a 1, .inl (cI, 4, .inl ((st_peK K M) 4))), (a 2, .inl (cI, 24, .inl ((st_peK K M) 0))), (a 3, .inl (cI, 24, .inl ((st_peK K M) 1))), (a 4, .inl (cI, 24, .inl ((st_peK K M) 2))), (a 5, .inl (cI, 24, .inl ((st_peK K M) 3))), (a 6, .inr (0, [.ref (a 7), .ref (a 8), .ref (a 9), .int ((st_peK K M) 7 0)])), (a 7, .inl (cI, ro, .inl ((st_peK K M) 8))), (a 8, .inl (cI, ro, .inl ((st_peK K M) 9))), (a 9, .inl (cI, ro, .inl ((st_peK K M) 10))), (b 0, .inr (2, [.ref (b 1), .ref (b 2), .ref (b 3)])), (b 1, .inl (cI, 32, .inl ((st_peM K M) 0))), (b 2, .inl (cI, 32, .inl ((st_peM K M) 1))), (b 3, .inl (cZ, 8, .inl ((st_peM K M) 2)))] := hD
        refine lv_aload_n hx hb dX1_doInstruction_51 rfl (lv_at hl 1 rfl) ?_
        refine lv_iload_n hx hb dX1_doInstruction_52 rfl (lv_at hl 0 rfl) ?_
        refine va_put (D := D) (ci := 1) (v := .int (st_nx K)) (ty := .int) (C := RX1) (T := TX1) (N := 8) hx hb hg inX1 tyX1 tyX1_ok nmX1 hown hK hP hD hS 0 rfl rfl 6 (by decide) (hg _ bw_1_75) (fun _ h9 => h9) rfl (by decide +kernel) rfl rfl (Nat.le_of_ble_eq_true rfl) dX1_doInstruction_53 (fun H locs hP hD hS => ?_)
        have hP : va_P D vwCl [(a 0, .inr (1, [.ref (a 1), .ref (a 2), .ref (a 3), .ref (a 4), .ref (a 5), .ref (a 6), .int (st_nx K), .int ((st_peK K M) 6 0)])), (a 1, .inl (cI, 4, .inl ((st_peK K M) 4))), (a 2, .inl (cI, 24, .inl ((st_peK K M) 0))), (a 3, .inl (cI, 24, .inl ((st_peK K M) 1))), (a 4, .inl (cI, 24, .inl ((st_peK K M) 2))), (a 5, .inl (cI, 24, .inl ((st_peK K M) 3))), (a 6, .inr (0, [.ref (a 7), .ref (a 8), .ref (a 9), .int ((st_peK K M) 7 0)])), (a 7, .inl (cI, ro, .inl ((st_peK K M) 8))), (a 8, .inl (cI, ro, .inl ((st_peK K M) 9))), (a 9, .inl (cI, ro, .inl ((st_peK K M) 10))), (b 0, .inr (2, [.ref (b 1), .ref (b 2), .ref (b 3)])), (b 1, .inl (cI, 32, .inl ((st_peM K M) 0))), (b 2, .inl (cI, 32, .inl ((st_peM K M) 1))), (b 3, .inl (cZ, 8, .inl ((st_peM K M) 2)))] H := hP
        have hD : va_D A [(a 0, .inr (1, [.ref (a 1), .ref (a 2), .ref (a 3), .ref (a 4), .ref (a 5), .ref (a 6), .int (st_nx K), .int ((st_peK K M) 6 0)])), (a 1, .inl (cI, 4, .inl ((st_peK K M) 4))), (a 2, .inl (cI, 24, .inl ((st_peK K M) 0))), (a 3, .inl (cI, 24, .inl ((st_peK K M) 1))), (a 4, .inl (cI, 24, .inl ((st_peK K M) 2))), (a 5, .inl (cI, 24, .inl ((st_peK K M) 3))), (a 6, .inr (0, [.ref (a 7), .ref (a 8), .ref (a 9), .int ((st_peK K M) 7 0)])), (a 7, .inl (cI, ro, .inl ((st_peK K M) 8))), (a 8, .inl (cI, ro, .inl ((st_peK K M) 9))), (a 9, .inl (cI, ro, .inl ((st_peK K M) 10))), (b 0, .inr (2, [.ref (b 1), .ref (b 2), .ref (b 3)])), (b 1, .inl (cI, 32, .inl ((st_peM K M) 0))), (b 2, .inl (cI, 32, .inl ((st_peM K M) 1))), (b 3, .inl (cZ, 8, .inl ((st_peM K M) 2)))] := hD
        refine lv_iconst (v := 0) hx hb dX1_doInstruction_56 (by decide) ?_
        have hH : ¬ st_ha K := fun q => q.elim (fun q => absurd q (by omega)) (fun q => b18 (me_eq (b := 0) (by omega) (by omega) (hz.symm.trans q)))
        have hW : ¬ st_wt ro K := by unfold st_wt st_z; rw [hz]; exact b36
        have hO : ¬ (st_ha K ∨ st_wt ro K) := fun q => q.elim hH hW
        rw [show st_doK ro K M = st_ks (st_peK K M) 5 0 (st_nx K) from me_swf hO, show st_doM ro K M = st_peM K M from me_swf hO]
        have hP9 := me_subP (ws' := [(a 0, .inr (1, [.ref (a 1), .ref (a 2), .ref (a 3), .ref (a 4), .ref (a 5), .ref (a 6), .int ((st_ks (st_peK K M) 5 0 (st_nx K)) 5 0), .int ((st_ks (st_peK K M) 5 0 (st_nx K)) 6 0)])), (a 1, .inl (cI, 4, .inl ((st_ks (st_peK K M) 5 0 (st_nx K)) 4))), (a 2, .inl (cI, 24, .inl ((st_ks (st_peK K M) 5 0 (st_nx K)) 0))), (a 3, .inl (cI, 24, .inl ((st_ks (st_peK K M) 5 0 (st_nx K)) 1))), (a 4, .inl (cI, 24, .inl ((st_ks (st_peK K M) 5 0 (st_nx K)) 2))), (a 5, .inl (cI, 24, .inl ((st_ks (st_peK K M) 5 0 (st_nx K)) 3))), (a 6, .inr (0, [.ref (a 7), .ref (a 8), .ref (a 9), .int ((st_ks (st_peK K M) 5 0 (st_nx K)) 7 0)])), (a 7, .inl (cI, ro, .inl ((st_ks (st_peK K M) 5 0 (st_nx K)) 8))), (a 8, .inl (cI, ro, .inl ((st_ks (st_peK K M) 5 0 (st_nx K)) 9))), (a 9, .inl (cI, ro, .inl ((st_ks (st_peK K M) 5 0 (st_nx K)) 10))), (b 0, .inr (2, [.ref (b 1), .ref (b 2), .ref (b 3)])), (b 1, .inl (cI, 32, .inl ((st_peM K M) 0))), (b 2, .inl (cI, 32, .inl ((st_peM K M) 1))), (b 3, .inl (cZ, 8, .inl ((st_peM K M) 2)))]) hP [0, 1, 2, 3, 4, 5, 6, 7, 8, 9, 10, 11, 12, 13] rfl
        have hD9 := hD.sub (ws' := [(a 0, .inr (1, [.ref (a 1), .ref (a 2), .ref (a 3), .ref (a 4), .ref (a 5), .ref (a 6), .int ((st_ks (st_peK K M) 5 0 (st_nx K)) 5 0), .int ((st_ks (st_peK K M) 5 0 (st_nx K)) 6 0)])), (a 1, .inl (cI, 4, .inl ((st_ks (st_peK K M) 5 0 (st_nx K)) 4))), (a 2, .inl (cI, 24, .inl ((st_ks (st_peK K M) 5 0 (st_nx K)) 0))), (a 3, .inl (cI, 24, .inl ((st_ks (st_peK K M) 5 0 (st_nx K)) 1))), (a 4, .inl (cI, 24, .inl ((st_ks (st_peK K M) 5 0 (st_nx K)) 2))), (a 5, .inl (cI, 24, .inl ((st_ks (st_peK K M) 5 0 (st_nx K)) 3))), (a 6, .inr (0, [.ref (a 7), .ref (a 8), .ref (a 9), .int ((st_ks (st_peK K M) 5 0 (st_nx K)) 7 0)])), (a 7, .inl (cI, ro, .inl ((st_ks (st_peK K M) 5 0 (st_nx K)) 8))), (a 8, .inl (cI, ro, .inl ((st_ks (st_peK K M) 5 0 (st_nx K)) 9))), (a 9, .inl (cI, ro, .inl ((st_ks (st_peK K M) 5 0 (st_nx K)) 10))), (b 0, .inr (2, [.ref (b 1), .ref (b 2), .ref (b 3)])), (b 1, .inl (cI, 32, .inl ((st_peM K M) 0))), (b 2, .inl (cI, 32, .inl ((st_peM K M) 1))), (b 3, .inl (cZ, 8, .inl ((st_peM K M) 2)))]) [0, 1, 2, 3, 4, 5, 6, 7, 8, 9, 10, 11, 12, 13] (by decide) rfl
        exact me_retI hx hb hr hlk hK hS dX1_doInstruction_57 (((me_swf hH).trans (me_swf hW)).symm) hP9 hD9
      · have b36 := me_b1 b36
        refine lv_iconst (v := 1) hx hb dX1_doInstruction_39 (by decide) ?_
        have hH : ¬ st_ha K := fun q => q.elim (fun q => absurd q (by omega)) (fun q => b18 (me_eq (b := 0) (by omega) (by omega) (hz.symm.trans q)))
        have hW : st_wt ro K := by unfold st_wt st_z; rw [hz]; exact b36
        rw [show st_doK ro K M = K from me_swt (Or.inr hW), show st_doM ro K M = M from me_swt (Or.inr hW)]
        have hP9 := me_subP (ws' := [(a 0, .inr (1, [.ref (a 1), .ref (a 2), .ref (a 3), .ref (a 4), .ref (a 5), .ref (a 6), .int (K 5 0), .int (K 6 0)])), (a 1, .inl (cI, 4, .inl (K 4))), (a 2, .inl (cI, 24, .inl (K 0))), (a 3, .inl (cI, 24, .inl (K 1))), (a 4, .inl (cI, 24, .inl (K 2))), (a 5, .inl (cI, 24, .inl (K 3))), (a 6, .inr (0, [.ref (a 7), .ref (a 8), .ref (a 9), .int (K 7 0)])), (a 7, .inl (cI, ro, .inl (K 8))), (a 8, .inl (cI, ro, .inl (K 9))), (a 9, .inl (cI, ro, .inl (K 10))), (b 0, .inr (2, [.ref (b 1), .ref (b 2), .ref (b 3)])), (b 1, .inl (cI, 32, .inl (M 0))), (b 2, .inl (cI, 32, .inl (M 1))), (b 3, .inl (cZ, 8, .inl (M 2)))]) hP [4, 5, 6, 7, 8, 9, 10, 11, 12, 13, 0, 1, 2, 3] rfl
        have hD9 := hD.sub (ws' := [(a 0, .inr (1, [.ref (a 1), .ref (a 2), .ref (a 3), .ref (a 4), .ref (a 5), .ref (a 6), .int (K 5 0), .int (K 6 0)])), (a 1, .inl (cI, 4, .inl (K 4))), (a 2, .inl (cI, 24, .inl (K 0))), (a 3, .inl (cI, 24, .inl (K 1))), (a 4, .inl (cI, 24, .inl (K 2))), (a 5, .inl (cI, 24, .inl (K 3))), (a 6, .inr (0, [.ref (a 7), .ref (a 8), .ref (a 9), .int (K 7 0)])), (a 7, .inl (cI, ro, .inl (K 8))), (a 8, .inl (cI, ro, .inl (K 9))), (a 9, .inl (cI, ro, .inl (K 10))), (b 0, .inr (2, [.ref (b 1), .ref (b 2), .ref (b 3)])), (b 1, .inl (cI, 32, .inl (M 0))), (b 2, .inl (cI, 32, .inl (M 1))), (b 3, .inl (cZ, 8, .inl (M 2)))]) [4, 5, 6, 7, 8, 9, 10, 11, 12, 13, 0, 1, 2, 3] (by decide) rfl
        exact me_retI hx hb hr hlk hK hS dX1_doInstruction_40 (((me_swf hH).trans (me_swt hW)).symm) hP9 hD9
    · have b18 := me_eq (a := z) (b := 0) (by omega) (by omega) b18
      refine lv_iconst (v := 2) hx hb dX1_doInstruction_21 (by decide) ?_
      have hH : st_ha K := Or.inr (hz.trans (congrArg nI b18))
      rw [show st_doK ro K M = K from me_swt (Or.inl hH), show st_doM ro K M = M from me_swt (Or.inl hH)]
      have hP9 := me_subP (ws' := [(a 0, .inr (1, [.ref (a 1), .ref (a 2), .ref (a 3), .ref (a 4), .ref (a 5), .ref (a 6), .int (K 5 0), .int (K 6 0)])), (a 1, .inl (cI, 4, .inl (K 4))), (a 2, .inl (cI, 24, .inl (K 0))), (a 3, .inl (cI, 24, .inl (K 1))), (a 4, .inl (cI, 24, .inl (K 2))), (a 5, .inl (cI, 24, .inl (K 3))), (a 6, .inr (0, [.ref (a 7), .ref (a 8), .ref (a 9), .int (K 7 0)])), (a 7, .inl (cI, ro, .inl (K 8))), (a 8, .inl (cI, ro, .inl (K 9))), (a 9, .inl (cI, ro, .inl (K 10))), (b 0, .inr (2, [.ref (b 1), .ref (b 2), .ref (b 3)])), (b 1, .inl (cI, 32, .inl (M 0))), (b 2, .inl (cI, 32, .inl (M 1))), (b 3, .inl (cZ, 8, .inl (M 2)))]) hP [0, 1, 2, 3, 4, 5, 6, 7, 8, 9, 10, 11, 12, 13] rfl
      have hD9 := hD.sub (ws' := [(a 0, .inr (1, [.ref (a 1), .ref (a 2), .ref (a 3), .ref (a 4), .ref (a 5), .ref (a 6), .int (K 5 0), .int (K 6 0)])), (a 1, .inl (cI, 4, .inl (K 4))), (a 2, .inl (cI, 24, .inl (K 0))), (a 3, .inl (cI, 24, .inl (K 1))), (a 4, .inl (cI, 24, .inl (K 2))), (a 5, .inl (cI, 24, .inl (K 3))), (a 6, .inr (0, [.ref (a 7), .ref (a 8), .ref (a 9), .int (K 7 0)])), (a 7, .inl (cI, ro, .inl (K 8))), (a 8, .inl (cI, ro, .inl (K 9))), (a 9, .inl (cI, ro, .inl (K 10))), (b 0, .inr (2, [.ref (b 1), .ref (b 2), .ref (b 3)])), (b 1, .inl (cI, 32, .inl (M 0))), (b 2, .inl (cI, 32, .inl (M 1))), (b 3, .inl (cZ, 8, .inl (M 2)))]) [0, 1, 2, 3, 4, 5, 6, 7, 8, 9, 10, 11, 12, 13] (by decide) rfl
      exact me_retI hx hb hr hlk hK hS dX1_doInstruction_22 ((me_swt hH).symm) hP9 hD9
end
