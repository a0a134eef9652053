-- ===== PART A: goes FIRST, ahead of the names: the tables' words, and 'selects' of the private methods out of them =====
/-- a private method of a class that the tables say can be made, by its rows of tables_1 -/
def lw_okq (q : MethodName × Nat) : Prop := (q.1.cls ≠ "java/lang/invoke/MethodHandle" ∧ q.1.cls ≠ "java/lang/invoke/VarHandle") ∧ Cond.instantiable q.1.cls q.2 ∈ tables_1 ∧ Cond.privateMethod q.1 ∈ tables_1 ∧ Cond.instanceMethod q.1 ∈ tables_1
theorem lw_p0 : lw_okq (⟨"StoreBufferCores", "isCore", "(I)Z"⟩, 2) := ⟨⟨by decide +kernel, by decide +kernel⟩, List.mem_of_getElem? (i := 7) (by decide +kernel), List.mem_of_getElem? (i := 108) (by decide +kernel), List.mem_of_getElem? (i := 109) (by decide +kernel)⟩
theorem lw_p1 : lw_okq (⟨"StoreBufferCores$Core", "setInstruction", "(IIIII)V"⟩, 8) := ⟨⟨by decide +kernel, by decide +kernel⟩, List.mem_of_getElem? (i := 38) (by decide +kernel), List.mem_of_getElem? (i := 118) (by decide +kernel), List.mem_of_getElem? (i := 119) (by decide +kernel)⟩
theorem lw_p2 : lw_okq (⟨"StoreBufferCores$Core", "doInstruction", "(LStoreBufferCores$SharedMemory;)I"⟩, 8) := ⟨⟨by decide +kernel, by decide +kernel⟩, List.mem_of_getElem? (i := 38) (by decide +kernel), List.mem_of_getElem? (i := 130) (by decide +kernel), List.mem_of_getElem? (i := 131) (by decide +kernel)⟩
theorem lw_p3 : lw_okq (⟨"StoreBufferCores$Core", "mustWait", "(I)Z"⟩, 8) := ⟨⟨by decide +kernel, by decide +kernel⟩, List.mem_of_getElem? (i := 38) (by decide +kernel), List.mem_of_getElem? (i := 134) (by decide +kernel), List.mem_of_getElem? (i := 135) (by decide +kernel)⟩
theorem lw_p4 : lw_okq (⟨"StoreBufferCores$Buffer", "isFull", "()Z"⟩, 4) := ⟨⟨by decide +kernel, by decide +kernel⟩, List.mem_of_getElem? (i := 44) (by decide +kernel), List.mem_of_getElem? (i := 138) (by decide +kernel), List.mem_of_getElem? (i := 139) (by decide +kernel)⟩
theorem lw_p5 : lw_okq (⟨"StoreBufferCores$Core", "nextPlace", "()I"⟩, 8) := ⟨⟨by decide +kernel, by decide +kernel⟩, List.mem_of_getElem? (i := 38) (by decide +kernel), List.mem_of_getElem? (i := 142) (by decide +kernel), List.mem_of_getElem? (i := 143) (by decide +kernel)⟩
theorem lw_p6 : lw_okq (⟨"StoreBufferCores$Core", "perform", "(LStoreBufferCores$SharedMemory;)V"⟩, 8) := ⟨⟨by decide +kernel, by decide +kernel⟩, List.mem_of_getElem? (i := 38) (by decide +kernel), List.mem_of_getElem? (i := 146) (by decide +kernel), List.mem_of_getElem? (i := 147) (by decide +kernel)⟩
theorem lw_p7 : lw_okq (⟨"StoreBufferCores$Buffer", "newestValue", "(II)I"⟩, 4) := ⟨⟨by decide +kernel, by decide +kernel⟩, List.mem_of_getElem? (i := 44) (by decide +kernel), List.mem_of_getElem? (i := 150) (by decide +kernel), List.mem_of_getElem? (i := 151) (by decide +kernel)⟩
theorem lw_p8 : lw_okq (⟨"StoreBufferCores$Buffer", "append", "(III)V"⟩, 4) := ⟨⟨by decide +kernel, by decide +kernel⟩, List.mem_of_getElem? (i := 44) (by decide +kernel), List.mem_of_getElem? (i := 154) (by decide +kernel), List.mem_of_getElem? (i := 155) (by decide +kernel)⟩
theorem lw_p9 : lw_okq (⟨"StoreBufferCores$Core", "swap", "(IILStoreBufferCores$SharedMemory;)V"⟩, 8) := ⟨⟨by decide +kernel, by decide +kernel⟩, List.mem_of_getElem? (i := 38) (by decide +kernel), List.mem_of_getElem? (i := 159) (by decide +kernel), List.mem_of_getElem? (i := 160) (by decide +kernel)⟩
theorem lw_p10 : lw_okq (⟨"StoreBufferCores$SharedMemory", "write", "(II)V"⟩, 3) := ⟨⟨by decide +kernel, by decide +kernel⟩, List.mem_of_getElem? (i := 15) (by decide +kernel), List.mem_of_getElem? (i := 163) (by decide +kernel), List.mem_of_getElem? (i := 164) (by decide +kernel)⟩
theorem lw_p11 : lw_okq (⟨"StoreBufferCores", "isEntry", "(II)Z"⟩, 2) := ⟨⟨by decide +kernel, by decide +kernel⟩, List.mem_of_getElem? (i := 7) (by decide +kernel), List.mem_of_getElem? (i := 175) (by decide +kernel), List.mem_of_getElem? (i := 176) (by decide +kernel)⟩
theorem lw_p12 : lw_okq (⟨"StoreBufferCores$Buffer", "mayLeave", "(I)Z"⟩, 4) := ⟨⟨by decide +kernel, by decide +kernel⟩, List.mem_of_getElem? (i := 44) (by decide +kernel), List.mem_of_getElem? (i := 179) (by decide +kernel), List.mem_of_getElem? (i := 180) (by decide +kernel)⟩
theorem lw_p13 : lw_okq (⟨"StoreBufferCores$Buffer", "letsPass", "(II)Z"⟩, 4) := ⟨⟨by decide +kernel, by decide +kernel⟩, List.mem_of_getElem? (i := 44) (by decide +kernel), List.mem_of_getElem? (i := 183) (by decide +kernel), List.mem_of_getElem? (i := 184) (by decide +kernel)⟩
theorem lw_p14 : lw_okq (⟨"StoreBufferCores$Buffer", "lineOf", "(I)I"⟩, 4) := ⟨⟨by decide +kernel, by decide +kernel⟩, List.mem_of_getElem? (i := 44) (by decide +kernel), List.mem_of_getElem? (i := 187) (by decide +kernel), List.mem_of_getElem? (i := 188) (by decide +kernel)⟩
theorem lw_p15 : lw_okq (⟨"StoreBufferCores$Buffer", "letOut", "(ILStoreBufferCores$SharedMemory;)V"⟩, 4) := ⟨⟨by decide +kernel, by decide +kernel⟩, List.mem_of_getElem? (i := 44) (by decide +kernel), List.mem_of_getElem? (i := 191) (by decide +kernel), List.mem_of_getElem? (i := 192) (by decide +kernel)⟩
def lw_privs_1 : List (MethodName × Nat) := [(⟨"StoreBufferCores", "isCore", "(I)Z"⟩, 2), (⟨"StoreBufferCores$Core", "setInstruction", "(IIIII)V"⟩, 8), (⟨"StoreBufferCores$Core", "doInstruction", "(LStoreBufferCores$SharedMemory;)I"⟩, 8), (⟨"StoreBufferCores$Core", "mustWait", "(I)Z"⟩, 8), (⟨"StoreBufferCores$Buffer", "isFull", "()Z"⟩, 4), (⟨"StoreBufferCores$Core", "nextPlace", "()I"⟩, 8), (⟨"StoreBufferCores$Core", "perform", "(LStoreBufferCores$SharedMemory;)V"⟩, 8), (⟨"StoreBufferCores$Buffer", "newestValue", "(II)I"⟩, 4), (⟨"StoreBufferCores$Buffer", "append", "(III)V"⟩, 4), (⟨"StoreBufferCores$Core", "swap", "(IILStoreBufferCores$SharedMemory;)V"⟩, 8), (⟨"StoreBufferCores$SharedMemory", "write", "(II)V"⟩, 3), (⟨"StoreBufferCores", "isEntry", "(II)Z"⟩, 2), (⟨"StoreBufferCores$Buffer", "mayLeave", "(I)Z"⟩, 4), (⟨"StoreBufferCores$Buffer", "letsPass", "(II)Z"⟩, 4), (⟨"StoreBufferCores$Buffer", "lineOf", "(I)I"⟩, 4), (⟨"StoreBufferCores$Buffer", "letOut", "(ILStoreBufferCores$SharedMemory;)V"⟩, 4)]
theorem lw_r1 : ∀ q ∈ lw_privs_1, lw_okq q := List.forall_mem_cons.mpr ⟨lw_p0, List.forall_mem_cons.mpr ⟨lw_p1, List.forall_mem_cons.mpr ⟨lw_p2, List.forall_mem_cons.mpr ⟨lw_p3, List.forall_mem_cons.mpr ⟨lw_p4, List.forall_mem_cons.mpr ⟨lw_p5, List.forall_mem_cons.mpr ⟨lw_p6, List.forall_mem_cons.mpr ⟨lw_p7, List.forall_mem_cons.mpr ⟨lw_p8, List.forall_mem_cons.mpr ⟨lw_p9, List.forall_mem_cons.mpr ⟨lw_p10, List.forall_mem_cons.mpr ⟨lw_p11, List.forall_mem_cons.mpr ⟨lw_p12, List.forall_mem_cons.mpr ⟨lw_p13, List.forall_mem_cons.mpr ⟨lw_p14, List.forall_mem_cons.mpr ⟨lw_p15, fun _ h => absurd h List.not_mem_nil⟩⟩⟩⟩⟩⟩⟩⟩⟩⟩⟩⟩⟩⟩⟩⟩
theorem lw_p16 : lw_okq (⟨"StoreBufferCores$SharedMemory", "writeBack", "(I)V"⟩, 3) := ⟨⟨by decide +kernel, by decide +kernel⟩, List.mem_of_getElem? (i := 15) (by decide +kernel), List.mem_of_getElem? (i := 196) (by decide +kernel), List.mem_of_getElem? (i := 197) (by decide +kernel)⟩
theorem lw_p17 : lw_okq (⟨"StoreBufferCores$Buffer", "remove", "(I)V"⟩, 4) := ⟨⟨by decide +kernel, by decide +kernel⟩, List.mem_of_getElem? (i := 44) (by decide +kernel), List.mem_of_getElem? (i := 200) (by decide +kernel), List.mem_of_getElem? (i := 201) (by decide +kernel)⟩
theorem lw_p18 : lw_okq (⟨"StoreBufferCores$SharedMemory", "fallBackToStorage", "()V"⟩, 3) := ⟨⟨by decide +kernel, by decide +kernel⟩, List.mem_of_getElem? (i := 15) (by decide +kernel), List.mem_of_getElem? (i := 220) (by decide +kernel), List.mem_of_getElem? (i := 221) (by decide +kernel)⟩
theorem lw_p19 : lw_okq (⟨"StoreBufferCores$Core", "beginAgain", "()V"⟩, 8) := ⟨⟨by decide +kernel, by decide +kernel⟩, List.mem_of_getElem? (i := 38) (by decide +kernel), List.mem_of_getElem? (i := 224) (by decide +kernel), List.mem_of_getElem? (i := 225) (by decide +kernel)⟩
theorem lw_p20 : lw_okq (⟨"StoreBufferCoresModel", "isCore", "(I)Z"⟩, 18) := ⟨⟨by decide +kernel, by decide +kernel⟩, List.mem_of_getElem? (i := 271) (by decide +kernel), List.mem_of_getElem? (i := 336) (by decide +kernel), List.mem_of_getElem? (i := 337) (by decide +kernel)⟩
theorem lw_p21 : lw_okq (⟨"StoreBufferCoresModel", "writeBack", "(I)V"⟩, 18) := ⟨⟨by decide +kernel, by decide +kernel⟩, List.mem_of_getElem? (i := 271) (by decide +kernel), List.mem_of_getElem? (i := 348) (by decide +kernel), List.mem_of_getElem? (i := 349) (by decide +kernel)⟩
theorem lw_p22 : lw_okq (⟨"StoreBufferCoresModel", "passes", "(II)Z"⟩, 18) := ⟨⟨by decide +kernel, by decide +kernel⟩, List.mem_of_getElem? (i := 271) (by decide +kernel), List.mem_of_getElem? (i := 364) (by decide +kernel), List.mem_of_getElem? (i := 365) (by decide +kernel)⟩
theorem lw_p23 : lw_okq (⟨"StoreBufferCoresModel", "lineOf", "(I)I"⟩, 18) := ⟨⟨by decide +kernel, by decide +kernel⟩, List.mem_of_getElem? (i := 271) (by decide +kernel), List.mem_of_getElem? (i := 368) (by decide +kernel), List.mem_of_getElem? (i := 369) (by decide +kernel)⟩
theorem lw_p24 : lw_okq (⟨"StoreBufferCoresModel", "store", "(II)V"⟩, 18) := ⟨⟨by decide +kernel, by decide +kernel⟩, List.mem_of_getElem? (i := 271) (by decide +kernel), List.mem_of_getElem? (i := 372) (by decide +kernel), List.mem_of_getElem? (i := 373) (by decide +kernel)⟩
theorem lw_p25 : lw_okq (⟨"StoreBufferCoresModel", "append", "(IIII)I"⟩, 18) := ⟨⟨by decide +kernel, by decide +kernel⟩, List.mem_of_getElem? (i := 271) (by decide +kernel), List.mem_of_getElem? (i := 389) (by decide +kernel), List.mem_of_getElem? (i := 390) (by decide +kernel)⟩
theorem lw_p26 : lw_okq (⟨"StoreBufferCoresModel", "swap", "(III)V"⟩, 18) := ⟨⟨by decide +kernel, by decide +kernel⟩, List.mem_of_getElem? (i := 271) (by decide +kernel), List.mem_of_getElem? (i := 393) (by decide +kernel), List.mem_of_getElem? (i := 394) (by decide +kernel)⟩
def lw_privs_2 : List (MethodName × Nat) := [(⟨"StoreBufferCores$SharedMemory", "writeBack", "(I)V"⟩, 3), (⟨"StoreBufferCores$Buffer", "remove", "(I)V"⟩, 4), (⟨"StoreBufferCores$SharedMemory", "fallBackToStorage", "()V"⟩, 3), (⟨"StoreBufferCores$Core", "beginAgain", "()V"⟩, 8), (⟨"StoreBufferCoresModel", "isCore", "(I)Z"⟩, 18), (⟨"StoreBufferCoresModel", "writeBack", "(I)V"⟩, 18), (⟨"StoreBufferCoresModel", "passes", "(II)Z"⟩, 18), (⟨"StoreBufferCoresModel", "lineOf", "(I)I"⟩, 18), (⟨"StoreBufferCoresModel", "store", "(II)V"⟩, 18), (⟨"StoreBufferCoresModel", "append", "(IIII)I"⟩, 18), (⟨"StoreBufferCoresModel", "swap", "(III)V"⟩, 18)]
theorem lw_r2 : ∀ q ∈ lw_privs_2, lw_okq q := List.forall_mem_cons.mpr ⟨lw_p16, List.forall_mem_cons.mpr ⟨lw_p17, List.forall_mem_cons.mpr ⟨lw_p18, List.forall_mem_cons.mpr ⟨lw_p19, List.forall_mem_cons.mpr ⟨lw_p20, List.forall_mem_cons.mpr ⟨lw_p21, List.forall_mem_cons.mpr ⟨lw_p22, List.forall_mem_cons.mpr ⟨lw_p23, List.forall_mem_cons.mpr ⟨lw_p24, List.forall_mem_cons.mpr ⟨lw_p25, List.forall_mem_cons.mpr ⟨lw_p26, fun _ h => absurd h List.not_mem_nil⟩⟩⟩⟩⟩⟩⟩⟩⟩⟩⟩
def lw_privs : List (MethodName × Nat) := lw_privs_1 ++ (lw_privs_2)
def lw_tbl : List Cond := k2_sels lw_privs ++ tables_1
theorem lw_privs_ok : ∀ q ∈ lw_privs, lw_okq q := by
  show ∀ q ∈ lw_privs_1 ++ (lw_privs_2), lw_okq q
  exact List.forall_mem_append.mpr ⟨lw_r1, lw_r2⟩
def RX0 : String := "StoreBufferCores$Buffer"
def RX1 : String := "StoreBufferCores$Core"
def RX2 : String := "StoreBufferCores$SharedMemory"
def RX3 : String := "StoreBufferCores"
def RX4 : String := "StoreBufferCoresModel"
def RL : String := "StoreBufferCoresLaw"
def TX0 : u_T := fun k => match k with
  | 0 => ("StoreBufferCores$Buffer", "kinds", "[I", true)
  | 1 => ("StoreBufferCores$Buffer", "targets", "[I", true)
  | 2 => ("StoreBufferCores$Buffer", "values", "[I", true)
  | _ => ("StoreBufferCores$Buffer", "count", "I", false)
def tyX0 : Nat → FieldType := fun k => match k with
  | 0 => .array .int
  | 1 => .array .int
  | 2 => .array .int
  | _ => .int
theorem nmX0 : ∀ a, a < 4 → ∀ b, b < 4 → a ≠ b → (TX0 a).2.1 ≠ (TX0 b).2.1 := by decide +kernel
theorem tyX0_ok : ∀ k, k < 4 → parseFieldDescriptor (TX0 k).2.2.1 = some (tyX0 k) := by decide +kernel
def yX0_init : MethodName := ⟨RX0, "<init>", "(I)V"⟩
abbrev cX0_init : ByteArray := prog_2_method_1_code
def yX0_isFull : MethodName := ⟨RX0, "isFull", "()Z"⟩
abbrev cX0_isFull : ByteArray := prog_2_method_2_code
def yX0_append : MethodName := ⟨RX0, "append", "(III)V"⟩
abbrev cX0_append : ByteArray := prog_2_method_3_code
def yX0_newestValue : MethodName := ⟨RX0, "newestValue", "(II)I"⟩
abbrev cX0_newestValue : ByteArray := prog_2_method_4_code
def yX0_mayLeave : MethodName := ⟨RX0, "mayLeave", "(I)Z"⟩
abbrev cX0_mayLeave : ByteArray := prog_2_method_5_code
def yX0_letsPass : MethodName := ⟨RX0, "letsPass", "(II)Z"⟩
abbrev cX0_letsPass : ByteArray := prog_2_method_6_code
def yX0_lineOf : MethodName := ⟨RX0, "lineOf", "(I)I"⟩
abbrev cX0_lineOf : ByteArray := prog_2_method_7_code
def yX0_letOut : MethodName := ⟨RX0, "letOut", "(ILStoreBufferCores$SharedMemory;)V"⟩
abbrev cX0_letOut : ByteArray := prog_2_method_8_code
def yX0_remove : MethodName := ⟨RX0, "remove", "(I)V"⟩
abbrev cX0_remove : ByteArray := prog_2_method_9_code
def TX1 : u_T := fun k => match k with
  | 0 => ("StoreBufferCores$Core", "registers", "[I", true)
  | 1 => ("StoreBufferCores$Core", "codes", "[I", true)
  | 2 => ("StoreBufferCores$Core", "xs", "[I", true)
  | 3 => ("StoreBufferCores$Core", "ys", "[I", true)
  | 4 => ("StoreBufferCores$Core", "numbers", "[I", true)
  | 5 => ("StoreBufferCores$Core", "buffer", "LStoreBufferCores$Buffer;", true)
  | 6 => ("StoreBufferCores$Core", "pc", "I", false)
  | _ => ("StoreBufferCores$Core", "recoveryEntry", "I", false)
def tyX1 : Nat → FieldType := fun k => match k with
  | 0 => .array .int
  | 1 => .array .int
  | 2 => .array .int
  | 3 => .array .int
  | 4 => .array .int
  | 5 => .object "StoreBufferCores$Buffer"
  | 6 => .int
  | _ => .int
theorem nmX1 : ∀ a, a < 8 → ∀ b, b < 8 → a ≠ b → (TX1 a).2.1 ≠ (TX1 b).2.1 := by decide +kernel
theorem tyX1_ok : ∀ k, k < 8 → parseFieldDescriptor (TX1 k).2.2.1 = some (tyX1 k) := by decide +kernel
def yX1_init : MethodName := ⟨RX1, "<init>", "(I)V"⟩
abbrev cX1_init : ByteArray := prog_3_method_1_code
def yX1_setInstruction : MethodName := ⟨RX1, "setInstruction", "(IIIII)V"⟩
abbrev cX1_setInstruction : ByteArray := prog_3_method_2_code
def yX1_doInstruction : MethodName := ⟨RX1, "doInstruction", "(LStoreBufferCores$SharedMemory;)I"⟩
abbrev cX1_doInstruction : ByteArray := prog_3_method_3_code
def yX1_mustWait : MethodName := ⟨RX1, "mustWait", "(I)Z"⟩
abbrev cX1_mustWait : ByteArray := prog_3_method_4_code
def yX1_nextPlace : MethodName := ⟨RX1, "nextPlace", "()I"⟩
abbrev cX1_nextPlace : ByteArray := prog_3_method_5_code
def yX1_perform : MethodName := ⟨RX1, "perform", "(LStoreBufferCores$SharedMemory;)V"⟩
abbrev cX1_perform : ByteArray := prog_3_method_6_code
def yX1_swap : MethodName := ⟨RX1, "swap", "(IILStoreBufferCores$SharedMemory;)V"⟩
abbrev cX1_swap : ByteArray := prog_3_method_7_code
def yX1_beginAgain : MethodName := ⟨RX1, "beginAgain", "()V"⟩
abbrev cX1_beginAgain : ByteArray := prog_3_method_8_code
def TX2 : u_T := fun k => match k with
  | 0 => ("StoreBufferCores$SharedMemory", "words", "[I", true)
  | 1 => ("StoreBufferCores$SharedMemory", "stored", "[I", true)
  | _ => ("StoreBufferCores$SharedMemory", "unwritten", "[Z", true)
def tyX2 : Nat → FieldType := fun k => match k with
  | 0 => .array .int
  | 1 => .array .int
  | _ => .array .boolean
theorem nmX2 : ∀ a, a < 3 → ∀ b, b < 3 → a ≠ b → (TX2 a).2.1 ≠ (TX2 b).2.1 := by decide +kernel
theorem tyX2_ok : ∀ k, k < 3 → parseFieldDescriptor (TX2 k).2.2.1 = some (tyX2 k) := by decide +kernel
def yX2_init : MethodName := ⟨RX2, "<init>", "()V"⟩
abbrev cX2_init : ByteArray := prog_4_method_1_code
def yX2_write : MethodName := ⟨RX2, "write", "(II)V"⟩
abbrev cX2_write : ByteArray := prog_4_method_2_code
def yX2_writeBack : MethodName := ⟨RX2, "writeBack", "(I)V"⟩
abbrev cX2_writeBack : ByteArray := prog_4_method_3_code
def yX2_fallBackToStorage : MethodName := ⟨RX2, "fallBackToStorage", "()V"⟩
abbrev cX2_fallBackToStorage : ByteArray := prog_4_method_4_code
def TX3 : u_T := fun k => match k with
  | 0 => ("StoreBufferCores", "shared", "LStoreBufferCores$SharedMemory;", true)
  | _ => ("StoreBufferCores", "row", "[LStoreBufferCores$Core;", true)
def tyX3 : Nat → FieldType := fun k => match k with
  | 0 => .object "StoreBufferCores$SharedMemory"
  | _ => .array (.object "StoreBufferCores$Core")
theorem nmX3 : ∀ a, a < 2 → ∀ b, b < 2 → a ≠ b → (TX3 a).2.1 ≠ (TX3 b).2.1 := by decide +kernel
theorem tyX3_ok : ∀ k, k < 2 → parseFieldDescriptor (TX3 k).2.2.1 = some (tyX3 k) := by decide +kernel
def yX3_init : MethodName := ⟨RX3, "<init>", "(II)V"⟩
abbrev cX3_init : ByteArray := prog_1_method_1_code
def yX3_put : MethodName := ⟨RX3, "put", "(IIIIII)Z"⟩
abbrev cX3_put : ByteArray := prog_1_method_2_code
def yX3_recovery : MethodName := ⟨RX3, "recovery", "(II)Z"⟩
abbrev cX3_recovery : ByteArray := prog_1_method_3_code
def yX3_step : MethodName := ⟨RX3, "step", "(I)I"⟩
abbrev cX3_step : ByteArray := prog_1_method_4_code
def yX3_run : MethodName := ⟨RX3, "run", "(II)I"⟩
abbrev cX3_run : ByteArray := prog_1_method_5_code
def yX3_drain : MethodName := ⟨RX3, "drain", "(II)Z"⟩
abbrev cX3_drain : ByteArray := prog_1_method_6_code
def yX3_settle : MethodName := ⟨RX3, "settle", "(I)I"⟩
abbrev cX3_settle : ByteArray := prog_1_method_7_code
def yX3_evict : MethodName := ⟨RX3, "evict", "(I)Z"⟩
abbrev cX3_evict : ByteArray := prog_1_method_8_code
def yX3_crash : MethodName := ⟨RX3, "crash", "()V"⟩
abbrev cX3_crash : ByteArray := prog_1_method_9_code
def yX3_register : MethodName := ⟨RX3, "register", "(II)I"⟩
abbrev cX3_register : ByteArray := prog_1_method_10_code
def yX3_place : MethodName := ⟨RX3, "place", "(I)I"⟩
abbrev cX3_place : ByteArray := prog_1_method_11_code
def yX3_pending : MethodName := ⟨RX3, "pending", "(I)I"⟩
abbrev cX3_pending : ByteArray := prog_1_method_12_code
def yX3_entry : MethodName := ⟨RX3, "entry", "(III)I"⟩
abbrev cX3_entry : ByteArray := prog_1_method_13_code
def yX3_sees : MethodName := ⟨RX3, "sees", "(II)I"⟩
abbrev cX3_sees : ByteArray := prog_1_method_14_code
def yX3_memory : MethodName := ⟨RX3, "memory", "(I)I"⟩
abbrev cX3_memory : ByteArray := prog_1_method_15_code
def yX3_storage : MethodName := ⟨RX3, "storage", "(I)I"⟩
abbrev cX3_storage : ByteArray := prog_1_method_16_code
def yX3_dirty : MethodName := ⟨RX3, "dirty", "(I)Z"⟩
abbrev cX3_dirty : ByteArray := prog_1_method_17_code
def yX3_cores : MethodName := ⟨RX3, "cores", "()I"⟩
abbrev cX3_cores : ByteArray := prog_1_method_18_code
def yX3_isCore : MethodName := ⟨RX3, "isCore", "(I)Z"⟩
abbrev cX3_isCore : ByteArray := prog_1_method_19_code
def yX3_isEntry : MethodName := ⟨RX3, "isEntry", "(II)Z"⟩
abbrev cX3_isEntry : ByteArray := prog_1_method_20_code
def yX3_isPlace : MethodName := ⟨RX3, "isPlace", "(I)Z"⟩
abbrev cX3_isPlace : ByteArray := prog_1_method_21_code
def yX3_isRegister : MethodName := ⟨RX3, "isRegister", "(I)Z"⟩
abbrev cX3_isRegister : ByteArray := prog_1_method_22_code
def yX3_isWord : MethodName := ⟨RX3, "isWord", "(I)Z"⟩
abbrev cX3_isWord : ByteArray := prog_1_method_23_code
def yX3_isLine : MethodName := ⟨RX3, "isLine", "(I)Z"⟩
abbrev cX3_isLine : ByteArray := prog_1_method_24_code
def TX4 : u_T := fun k => match k with
  | 0 => ("StoreBufferCoresModel", "cores", "I", true)
  | 1 => ("StoreBufferCoresModel", "room", "I", true)
  | 2 => ("StoreBufferCoresModel", "codes", "[I", true)
  | 3 => ("StoreBufferCoresModel", "firsts", "[I", true)
  | 4 => ("StoreBufferCoresModel", "seconds", "[I", true)
  | 5 => ("StoreBufferCoresModel", "numbers", "[I", true)
  | 6 => ("StoreBufferCoresModel", "registers", "[I", true)
  | 7 => ("StoreBufferCoresModel", "place", "[I", true)
  | 8 => ("StoreBufferCoresModel", "recovery", "[I", true)
  | 9 => ("StoreBufferCoresModel", "held", "[I", true)
  | 10 => ("StoreBufferCoresModel", "kind", "[I", true)
  | 11 => ("StoreBufferCoresModel", "target", "[I", true)
  | 12 => ("StoreBufferCoresModel", "value", "[I", true)
  | 13 => ("StoreBufferCoresModel", "memory", "[I", true)
  | 14 => ("StoreBufferCoresModel", "storage", "[I", true)
  | 15 => ("StoreBufferCoresModel", "time", "I", false)
  | 16 => ("StoreBufferCoresModel", "putAt", "[I", true)
  | _ => ("StoreBufferCoresModel", "backAt", "[I", true)
def tyX4 : Nat → FieldType := fun k => match k with
  | 0 => .int
  | 1 => .int
  | 2 => .array .int
  | 3 => .array .int
  | 4 => .array .int
  | 5 => .array .int
  | 6 => .array .int
  | 7 => .array .int
  | 8 => .array .int
  | 9 => .array .int
  | 10 => .array .int
  | 11 => .array .int
  | 12 => .array .int
  | 13 => .array .int
  | 14 => .array .int
  | 15 => .int
  | 16 => .array .int
  | _ => .array .int
theorem nmX4 : ∀ a, a < 18 → ∀ b, b < 18 → a ≠ b → (TX4 a).2.1 ≠ (TX4 b).2.1 := by decide +kernel
theorem tyX4_ok : ∀ k, k < 18 → parseFieldDescriptor (TX4 k).2.2.1 = some (tyX4 k) := by decide +kernel
def yX4_init : MethodName := ⟨RX4, "<init>", "(II)V"⟩
abbrev cX4_init : ByteArray := prog_6_method_1_code
def yX4_isCore : MethodName := ⟨RX4, "isCore", "(I)Z"⟩
abbrev cX4_isCore : ByteArray := prog_6_method_2_code
def yX4_put : MethodName := ⟨RX4, "put", "(IIIIII)Z"⟩
abbrev cX4_put : ByteArray := prog_6_method_3_code
def yX4_recovery : MethodName := ⟨RX4, "recovery", "(II)Z"⟩
abbrev cX4_recovery : ByteArray := prog_6_method_4_code
def yX4_store : MethodName := ⟨RX4, "store", "(II)V"⟩
abbrev cX4_store : ByteArray := prog_6_method_5_code
def yX4_writeBack : MethodName := ⟨RX4, "writeBack", "(I)V"⟩
abbrev cX4_writeBack : ByteArray := prog_6_method_6_code
def yX4_evict : MethodName := ⟨RX4, "evict", "(I)Z"⟩
abbrev cX4_evict : ByteArray := prog_6_method_7_code
def yX4_dirty : MethodName := ⟨RX4, "dirty", "(I)Z"⟩
abbrev cX4_dirty : ByteArray := prog_6_method_8_code
def yX4_crash : MethodName := ⟨RX4, "crash", "()V"⟩
abbrev cX4_crash : ByteArray := prog_6_method_9_code
def yX4_lineOf : MethodName := ⟨RX4, "lineOf", "(I)I"⟩
abbrev cX4_lineOf : ByteArray := prog_6_method_10_code
def yX4_passes : MethodName := ⟨RX4, "passes", "(II)Z"⟩
abbrev cX4_passes : ByteArray := prog_6_method_11_code
def yX4_drain : MethodName := ⟨RX4, "drain", "(II)Z"⟩
abbrev cX4_drain : ByteArray := prog_6_method_12_code
def yX4_settle : MethodName := ⟨RX4, "settle", "(I)I"⟩
abbrev cX4_settle : ByteArray := prog_6_method_13_code
def yX4_append : MethodName := ⟨RX4, "append", "(IIII)I"⟩
abbrev cX4_append : ByteArray := prog_6_method_14_code
def yX4_sees : MethodName := ⟨RX4, "sees", "(II)I"⟩
abbrev cX4_sees : ByteArray := prog_6_method_15_code
def yX4_step : MethodName := ⟨RX4, "step", "(I)I"⟩
abbrev cX4_step : ByteArray := prog_6_method_16_code
def yX4_swap : MethodName := ⟨RX4, "swap", "(III)V"⟩
abbrev cX4_swap : ByteArray := prog_6_method_17_code
def yX4_run : MethodName := ⟨RX4, "run", "(II)I"⟩
abbrev cX4_run : ByteArray := prog_6_method_18_code
def yX4_register : MethodName := ⟨RX4, "register", "(II)I"⟩
abbrev cX4_register : ByteArray := prog_6_method_19_code
def yX4_place : MethodName := ⟨RX4, "place", "(I)I"⟩
abbrev cX4_place : ByteArray := prog_6_method_20_code
def yX4_pending : MethodName := ⟨RX4, "pending", "(I)I"⟩
abbrev cX4_pending : ByteArray := prog_6_method_21_code
def yX4_entry : MethodName := ⟨RX4, "entry", "(III)I"⟩
abbrev cX4_entry : ByteArray := prog_6_method_22_code
def yX4_memory : MethodName := ⟨RX4, "memory", "(I)I"⟩
abbrev cX4_memory : ByteArray := prog_6_method_23_code
def yX4_storage : MethodName := ⟨RX4, "storage", "(I)I"⟩
abbrev cX4_storage : ByteArray := prog_6_method_24_code
def yX4_cores : MethodName := ⟨RX4, "cores", "()I"⟩
abbrev cX4_cores : ByteArray := prog_6_method_25_code
def yL_cell : MethodName := ⟨RL, "cell", "([II)I"⟩
abbrev cL_cell : ByteArray := method_2_code
def yL_law : MethodName := ⟨RL, "law", "([I)Z"⟩
abbrev cL_law : ByteArray := code
abbrev vwCl : List vw_C := [(RX0, TX0, 4), (RX1, TX1, 8), (RX2, TX2, 3), (RX3, TX3, 2), (RX4, TX4, 18)]
def bg : List Cond := lw_tbl.filter goodWord
theorem bg_good {w : Cond} (h : w ∈ bg) : (w.onTables && w.keeps) = true ∨ ∃ ty, w = .arrayClass ty := good_of_word (List.mem_filter.mp h).2
theorem bg_in1 {w : Cond} (h : w ∈ tables_1_1) (hg : goodWord w = true) : w ∈ bg := List.mem_filter.mpr ⟨List.mem_append_right _ (List.mem_append_left _ h), hg⟩
theorem bg_in2 {w : Cond} (h : w ∈ tables_1_2) (hg : goodWord w = true) : w ∈ bg := List.mem_filter.mpr ⟨List.mem_append_right _ (List.mem_append_right _ h), hg⟩
theorem bg_sel {y : MethodName} {n : Nat} (h : (y, n) ∈ lw_privs) : Cond.selects y.cls y y ∈ bg := List.mem_filter.mpr ⟨List.mem_append_left _ (List.mem_map.mpr ⟨(y, n), h, rfl⟩), rfl⟩
theorem bg_gi {Ts : List Cond} {c1 : Cond} (hT : ∀ w ∈ bg, w ∈ Ts) (h1 : c1 ∈ bg) : GoodIn Ts (c1 :: bg) := by
  intro w hw
  rcases List.mem_cons.mp hw with e | h
  · rw [e]; exact ⟨hT _ h1, bg_good h1⟩
  · exact ⟨hT _ h, bg_good h⟩
theorem bg_gV {Ts : List Cond} {c1 : Cond} {own C : String} {idx : Nat} {y : MethodName} (hT : ∀ w ∈ bg, w ∈ Ts) (h1 : Cond.methodLink own idx y ∈ bg) (h2 : Cond.instanceMethod y ∈ bg) (h3 : Cond.selects C y y ∈ bg) (h4 : Cond.initialized C ∈ bg) (hc : c1 ∈ bg) : GoodIn Ts (wsV own idx C y (c1 :: bg)) := by
  intro w hw
  unfold wsV at hw
  rcases List.mem_append.mp hw with h | h
  · simp only [List.mem_cons, List.not_mem_nil, or_false] at h
    rcases h with rfl | rfl | rfl | rfl
    · exact ⟨hT _ h1, bg_good h1⟩
    · exact ⟨hT _ h2, bg_good h2⟩
    · exact ⟨hT _ h3, bg_good h3⟩
    · exact ⟨hT _ h4, bg_good h4⟩
  · exact bg_gi hT hc w h
theorem bg_gS {Ts : List Cond} {c1 : Cond} {own : String} {idx : Nat} {y : MethodName} (hT : ∀ w ∈ bg, w ∈ Ts) (h1 : Cond.methodLink own idx y ∈ bg) (h2 : Cond.static y ∈ bg) (h4 : Cond.initialized y.cls ∈ bg) (hc : c1 ∈ bg) : GoodIn Ts (va_wsS own idx y (c1 :: bg)) := by
  intro w hw
  unfold va_wsS at hw
  rcases List.mem_append.mp hw with h | h
  · simp only [List.mem_cons, List.not_mem_nil, or_false] at h
    rcases h with rfl | rfl | rfl
    · exact ⟨hT _ h1, bg_good h1⟩
    · exact ⟨hT _ h2, bg_good h2⟩
    · exact ⟨hT _ h4, bg_good h4⟩
  · exact bg_gi hT hc w h
def wsX0_init : List Cond := .code yX0_init cX0_init 2 none :: bg
def wsX0_isFull : List Cond := .code yX0_isFull cX0_isFull 1 (some .boolean) :: bg
def wsX0_append : List Cond := .code yX0_append cX0_append 4 none :: bg
def wsX0_newestValue : List Cond := .code yX0_newestValue cX0_newestValue 4 (some .int) :: bg
def wsX0_mayLeave : List Cond := .code yX0_mayLeave cX0_mayLeave 3 (some .boolean) :: bg
def wsX0_letsPass : List Cond := .code yX0_letsPass cX0_letsPass 5 (some .boolean) :: bg
def wsX0_lineOf : List Cond := .code yX0_lineOf cX0_lineOf 2 (some .int) :: bg
def wsX0_letOut : List Cond := .code yX0_letOut cX0_letOut 3 none :: bg
def wsX0_remove : List Cond := .code yX0_remove cX0_remove 3 none :: bg
def wsX1_init : List Cond := .code yX1_init cX1_init 2 none :: bg
def wsX1_setInstruction : List Cond := .code yX1_setInstruction cX1_setInstruction 6 none :: bg
def wsX1_doInstruction : List Cond := .code yX1_doInstruction cX1_doInstruction 3 (some .int) :: bg
def wsX1_mustWait : List Cond := .code yX1_mustWait cX1_mustWait 2 (some .boolean) :: bg
def wsX1_nextPlace : List Cond := .code yX1_nextPlace cX1_nextPlace 2 (some .int) :: bg
def wsX1_perform : List Cond := .code yX1_perform cX1_perform 6 none :: bg
def wsX1_swap : List Cond := .code yX1_swap cX1_swap 4 none :: bg
def wsX1_beginAgain : List Cond := .code yX1_beginAgain cX1_beginAgain 2 none :: bg
def wsX2_init : List Cond := .code yX2_init cX2_init 1 none :: bg
def wsX2_write : List Cond := .code yX2_write cX2_write 3 none :: bg
def wsX2_writeBack : List Cond := .code yX2_writeBack cX2_writeBack 4 none :: bg
def wsX2_fallBackToStorage : List Cond := .code yX2_fallBackToStorage cX2_fallBackToStorage 2 none :: bg
def wsX3_init : List Cond := .code yX3_init cX3_init 6 none :: bg
def wsX3_put : List Cond := .code yX3_put cX3_put 7 (some .boolean) :: bg
def wsX3_recovery : List Cond := .code yX3_recovery cX3_recovery 3 (some .boolean) :: bg
def wsX3_step : List Cond := .code yX3_step cX3_step 2 (some .int) :: bg
def wsX3_run : List Cond := .code yX3_run cX3_run 4 (some .int) :: bg
def wsX3_drain : List Cond := .code yX3_drain cX3_drain 3 (some .boolean) :: bg
def wsX3_settle : List Cond := .code yX3_settle cX3_settle 5 (some .int) :: bg
def wsX3_evict : List Cond := .code yX3_evict cX3_evict 2 (some .boolean) :: bg
def wsX3_crash : List Cond := .code yX3_crash cX3_crash 2 none :: bg
def wsX3_register : List Cond := .code yX3_register cX3_register 3 (some .int) :: bg
def wsX3_place : List Cond := .code yX3_place cX3_place 2 (some .int) :: bg
def wsX3_pending : List Cond := .code yX3_pending cX3_pending 2 (some .int) :: bg
def wsX3_entry : List Cond := .code yX3_entry cX3_entry 5 (some .int) :: bg
def wsX3_sees : List Cond := .code yX3_sees cX3_sees 3 (some .int) :: bg
def wsX3_memory : List Cond := .code yX3_memory cX3_memory 2 (some .int) :: bg
def wsX3_storage : List Cond := .code yX3_storage cX3_storage 2 (some .int) :: bg
def wsX3_dirty : List Cond := .code yX3_dirty cX3_dirty 2 (some .boolean) :: bg
def wsX3_cores : List Cond := .code yX3_cores cX3_cores 1 (some .int) :: bg
def wsX3_isCore : List Cond := .code yX3_isCore cX3_isCore 2 (some .boolean) :: bg
def wsX3_isEntry : List Cond := .code yX3_isEntry cX3_isEntry 3 (some .boolean) :: bg
def wsX3_isPlace : List Cond := .code yX3_isPlace cX3_isPlace 1 (some .boolean) :: bg
def wsX3_isRegister : List Cond := .code yX3_isRegister cX3_isRegister 1 (some .boolean) :: bg
def wsX3_isWord : List Cond := .code yX3_isWord cX3_isWord 1 (some .boolean) :: bg
def wsX3_isLine : List Cond := .code yX3_isLine cX3_isLine 1 (some .boolean) :: bg
def wsX4_init : List Cond := .code yX4_init cX4_init 3 none :: bg
def wsX4_isCore : List Cond := .code yX4_isCore cX4_isCore 2 (some .boolean) :: bg
def wsX4_put : List Cond := .code yX4_put cX4_put 8 (some .boolean) :: bg
def wsX4_recovery : List Cond := .code yX4_recovery cX4_recovery 3 (some .boolean) :: bg
def wsX4_store : List Cond := .code yX4_store cX4_store 3 none :: bg
def wsX4_writeBack : List Cond := .code yX4_writeBack cX4_writeBack 3 none :: bg
def wsX4_evict : List Cond := .code yX4_evict cX4_evict 2 (some .boolean) :: bg
def wsX4_dirty : List Cond := .code yX4_dirty cX4_dirty 4 (some .boolean) :: bg
def wsX4_crash : List Cond := .code yX4_crash cX4_crash 2 none :: bg
def wsX4_lineOf : List Cond := .code yX4_lineOf cX4_lineOf 2 (some .int) :: bg
def wsX4_passes : List Cond := .code yX4_passes cX4_passes 5 (some .boolean) :: bg
def wsX4_drain : List Cond := .code yX4_drain cX4_drain 5 (some .boolean) :: bg
def wsX4_settle : List Cond := .code yX4_settle cX4_settle 3 (some .int) :: bg
def wsX4_append : List Cond := .code yX4_append cX4_append 6 (some .int) :: bg
def wsX4_sees : List Cond := .code yX4_sees cX4_sees 5 (some .int) :: bg
def wsX4_step : List Cond := .code yX4_step cX4_step 7 (some .int) :: bg
def wsX4_swap : List Cond := .code yX4_swap cX4_swap 4 none :: bg
def wsX4_run : List Cond := .code yX4_run cX4_run 4 (some .int) :: bg
def wsX4_register : List Cond := .code yX4_register cX4_register 3 (some .int) :: bg
def wsX4_place : List Cond := .code yX4_place cX4_place 2 (some .int) :: bg
def wsX4_pending : List Cond := .code yX4_pending cX4_pending 2 (some .int) :: bg
def wsX4_entry : List Cond := .code yX4_entry cX4_entry 5 (some .int) :: bg
def wsX4_memory : List Cond := .code yX4_memory cX4_memory 2 (some .int) :: bg
def wsX4_storage : List Cond := .code yX4_storage cX4_storage 2 (some .int) :: bg
def wsX4_cores : List Cond := .code yX4_cores cX4_cores 1 (some .int) :: bg
def wsL_cell : List Cond := .code yL_cell cL_cell 2 (some .int) :: bg
