section
-- ===== PART A: goes FIRST, ahead of the names: the tables' words, and 'selects' of the private methods out of them =====
/-- a private method of a class that the tables say can be made, by its rows of tables_1 -/
def lw_okq (q : MethodName × Nat) : Prop := (q.1.cls ≠ "java/lang/invoke/MethodHandle" ∧ q.1.cls ≠ "java/lang/invoke/VarHandle") ∧ Cond.instantiable q.1.cls q.2 ∈ tables_1 ∧ Cond.privateMethod q.1 ∈ tables_1 ∧ Cond.instanceMethod q.1 ∈ tables_1
theorem lw_p0 : lw_okq (⟨"WireDesk$Text", "add", "(B)V"⟩, 2) := ⟨⟨by decide +kernel, by decide +kernel⟩, List.mem_of_getElem? (i := 17) (by decide +kernel), List.mem_of_getElem? (i := 190) (by decide +kernel), List.mem_of_getElem? (i := 191) (by decide +kernel)⟩
theorem lw_p1 : lw_okq (⟨"WireDesk$Reader", "skip", "(I)V"⟩, 4) := ⟨⟨by decide +kernel, by decide +kernel⟩, List.mem_of_getElem? (i := 33) (by decide +kernel), List.mem_of_getElem? (i := 233) (by decide +kernel), List.mem_of_getElem? (i := 234) (by decide +kernel)⟩
theorem lw_p2 : lw_okq (⟨"WireDesk$Reader", "fail", "(II)V"⟩, 4) := ⟨⟨by decide +kernel, by decide +kernel⟩, List.mem_of_getElem? (i := 33) (by decide +kernel), List.mem_of_getElem? (i := 237) (by decide +kernel), List.mem_of_getElem? (i := 238) (by decide +kernel)⟩
theorem lw_p3 : lw_okq (⟨"WireDesk$Reader", "takeSize", "(I)I"⟩, 4) := ⟨⟨by decide +kernel, by decide +kernel⟩, List.mem_of_getElem? (i := 33) (by decide +kernel), List.mem_of_getElem? (i := 241) (by decide +kernel), List.mem_of_getElem? (i := 242) (by decide +kernel)⟩
theorem lw_p4 : lw_okq (⟨"WireDesk$Reader", "takeInput", "(LWireDesk$Transaction;I)V"⟩, 4) := ⟨⟨by decide +kernel, by decide +kernel⟩, List.mem_of_getElem? (i := 33) (by decide +kernel), List.mem_of_getElem? (i := 262) (by decide +kernel), List.mem_of_getElem? (i := 263) (by decide +kernel)⟩
theorem lw_p5 : lw_okq (⟨"WireDesk$Reader", "takeOutput", "(LWireDesk$Transaction;I)V"⟩, 4) := ⟨⟨by decide +kernel, by decide +kernel⟩, List.mem_of_getElem? (i := 33) (by decide +kernel), List.mem_of_getElem? (i := 266) (by decide +kernel), List.mem_of_getElem? (i := 267) (by decide +kernel)⟩
theorem lw_p6 : lw_okq (⟨"WireDesk", "forget", "()V"⟩, 11) := ⟨⟨by decide +kernel, by decide +kernel⟩, List.mem_of_getElem? (i := 9) (by decide +kernel), List.mem_of_getElem? (i := 275) (by decide +kernel), List.mem_of_getElem? (i := 276) (by decide +kernel)⟩
theorem lw_p7 : lw_okq (⟨"WireDesk", "nameTransactions", "()V"⟩, 11) := ⟨⟨by decide +kernel, by decide +kernel⟩, List.mem_of_getElem? (i := 9) (by decide +kernel), List.mem_of_getElem? (i := 279) (by decide +kernel), List.mem_of_getElem? (i := 280) (by decide +kernel)⟩
theorem lw_p8 : lw_okq (⟨"WireDesk$Namer", "digest", "([BII)V"⟩, 3) := ⟨⟨by decide +kernel, by decide +kernel⟩, List.mem_of_getElem? (i := 54) (by decide +kernel), List.mem_of_getElem? (i := 287) (by decide +kernel), List.mem_of_getElem? (i := 288) (by decide +kernel)⟩
theorem lw_p9 : lw_okq (⟨"WireDesk$Namer", "stretchSchedule", "()V"⟩, 3) := ⟨⟨by decide +kernel, by decide +kernel⟩, List.mem_of_getElem? (i := 54) (by decide +kernel), List.mem_of_getElem? (i := 296) (by decide +kernel), List.mem_of_getElem? (i := 297) (by decide +kernel)⟩
theorem lw_p10 : lw_okq (⟨"WireDesk$Namer", "mixChunk", "()V"⟩, 3) := ⟨⟨by decide +kernel, by decide +kernel⟩, List.mem_of_getElem? (i := 54) (by decide +kernel), List.mem_of_getElem? (i := 303) (by decide +kernel), List.mem_of_getElem? (i := 304) (by decide +kernel)⟩
theorem lw_p11 : lw_okq (⟨"WireDesk$Namer", "writeState", "([BI)V"⟩, 3) := ⟨⟨by decide +kernel, by decide +kernel⟩, List.mem_of_getElem? (i := 54) (by decide +kernel), List.mem_of_getElem? (i := 309) (by decide +kernel), List.mem_of_getElem? (i := 310) (by decide +kernel)⟩
theorem lw_p12 : lw_okq (⟨"WireDesk$NameRow", "putPairsTogether", "(ILWireDesk$Namer;)V"⟩, 2) := ⟨⟨by decide +kernel, by decide +kernel⟩, List.mem_of_getElem? (i := 73) (by decide +kernel), List.mem_of_getElem? (i := 317) (by decide +kernel), List.mem_of_getElem? (i := 318) (by decide +kernel)⟩
theorem lw_p13 : lw_okq (⟨"WireDesk$NameRow", "repeat", "(I)V"⟩, 2) := ⟨⟨by decide +kernel, by decide +kernel⟩, List.mem_of_getElem? (i := 73) (by decide +kernel), List.mem_of_getElem? (i := 321) (by decide +kernel), List.mem_of_getElem? (i := 322) (by decide +kernel)⟩
theorem lw_p14 : lw_okq (⟨"WireDesk$NameRow", "alike", "(I)Z"⟩, 2) := ⟨⟨by decide +kernel, by decide +kernel⟩, List.mem_of_getElem? (i := 73) (by decide +kernel), List.mem_of_getElem? (i := 325) (by decide +kernel), List.mem_of_getElem? (i := 326) (by decide +kernel)⟩
theorem lw_p15 : lw_okq (⟨"WireDesk", "hasTransaction", "(I)Z"⟩, 11) := ⟨⟨by decide +kernel, by decide +kernel⟩, List.mem_of_getElem? (i := 9) (by decide +kernel), List.mem_of_getElem? (i := 349) (by decide +kernel), List.mem_of_getElem? (i := 350) (by decide +kernel)⟩
def lw_privs_1 : List (MethodName × Nat) := [(⟨"WireDesk$Text", "add", "(B)V"⟩, 2), (⟨"WireDesk$Reader", "skip", "(I)V"⟩, 4), (⟨"WireDesk$Reader", "fail", "(II)V"⟩, 4), (⟨"WireDesk$Reader", "takeSize", "(I)I"⟩, 4), (⟨"WireDesk$Reader", "takeInput", "(LWireDesk$Transaction;I)V"⟩, 4), (⟨"WireDesk$Reader", "takeOutput", "(LWireDesk$Transaction;I)V"⟩, 4), (⟨"WireDesk", "forget", "()V"⟩, 11), (⟨"WireDesk", "nameTransactions", "()V"⟩, 11), (⟨"WireDesk$Namer", "digest", "([BII)V"⟩, 3), (⟨"WireDesk$Namer", "stretchSchedule", "()V"⟩, 3), (⟨"WireDesk$Namer", "mixChunk", "()V"⟩, 3), (⟨"WireDesk$Namer", "writeState", "([BI)V"⟩, 3), (⟨"WireDesk$NameRow", "putPairsTogether", "(ILWireDesk$Namer;)V"⟩, 2), (⟨"WireDesk$NameRow", "repeat", "(I)V"⟩, 2), (⟨"WireDesk$NameRow", "alike", "(I)Z"⟩, 2), (⟨"WireDesk", "hasTransaction", "(I)Z"⟩, 11)]
theorem lw_r1 : ∀ q ∈ lw_privs_1, lw_okq q := List.forall_mem_cons.mpr ⟨lw_p0, List.forall_mem_cons.mpr ⟨lw_p1, List.forall_mem_cons.mpr ⟨lw_p2, List.forall_mem_cons.mpr ⟨lw_p3, List.forall_mem_cons.mpr ⟨lw_p4, List.forall_mem_cons.mpr ⟨lw_p5, List.forall_mem_cons.mpr ⟨lw_p6, List.forall_mem_cons.mpr ⟨lw_p7, List.forall_mem_cons.mpr ⟨lw_p8, List.forall_mem_cons.mpr ⟨lw_p9, List.forall_mem_cons.mpr ⟨lw_p10, List.forall_mem_cons.mpr ⟨lw_p11, List.forall_mem_cons.mpr ⟨lw_p12, List.forall_mem_cons.mpr ⟨lw_p13, List.forall_mem_cons.mpr ⟨lw_p14, List.forall_mem_cons.mpr ⟨lw_p15, fun _ h => absurd h List.not_mem_nil⟩⟩⟩⟩⟩⟩⟩⟩⟩⟩⟩⟩⟩⟩⟩⟩
theorem lw_p16 : lw_okq (⟨"WireDeskModel", "rootOf", "(II)J"⟩, 32) := ⟨⟨by decide +kernel, by decide +kernel⟩, List.mem_of_getElem? (i := 372) (by decide +kernel), List.mem_of_getElem? (i := 381) (by decide +kernel), List.mem_of_getElem? (i := 382) (by decide +kernel)⟩
theorem lw_p17 : lw_okq (⟨"WireDeskModel", "fits", "(JII)Z"⟩, 32) := ⟨⟨by decide +kernel, by decide +kernel⟩, List.mem_of_getElem? (i := 372) (by decide +kernel), List.mem_of_getElem? (i := 385) (by decide +kernel), List.mem_of_getElem? (i := 386) (by decide +kernel)⟩
theorem lw_p18 : lw_okq (⟨"WireDeskModel", "lay", "(JIZ)Z"⟩, 32) := ⟨⟨by decide +kernel, by decide +kernel⟩, List.mem_of_getElem? (i := 372) (by decide +kernel), List.mem_of_getElem? (i := 494) (by decide +kernel), List.mem_of_getElem? (i := 495) (by decide +kernel)⟩
theorem lw_p19 : lw_okq (⟨"WireDeskModel", "pass", "(I)V"⟩, 32) := ⟨⟨by decide +kernel, by decide +kernel⟩, List.mem_of_getElem? (i := 372) (by decide +kernel), List.mem_of_getElem? (i := 512) (by decide +kernel), List.mem_of_getElem? (i := 513) (by decide +kernel)⟩
theorem lw_p20 : lw_okq (⟨"WireDeskModel", "fails", "(II)V"⟩, 32) := ⟨⟨by decide +kernel, by decide +kernel⟩, List.mem_of_getElem? (i := 372) (by decide +kernel), List.mem_of_getElem? (i := 516) (by decide +kernel), List.mem_of_getElem? (i := 517) (by decide +kernel)⟩
theorem lw_p21 : lw_okq (⟨"WireDeskModel", "sizeOf", "(I)I"⟩, 32) := ⟨⟨by decide +kernel, by decide +kernel⟩, List.mem_of_getElem? (i := 372) (by decide +kernel), List.mem_of_getElem? (i := 520) (by decide +kernel), List.mem_of_getElem? (i := 521) (by decide +kernel)⟩
theorem lw_p22 : lw_okq (⟨"WireDeskModel", "lowAt", "(II)J"⟩, 32) := ⟨⟨by decide +kernel, by decide +kernel⟩, List.mem_of_getElem? (i := 372) (by decide +kernel), List.mem_of_getElem? (i := 524) (by decide +kernel), List.mem_of_getElem? (i := 525) (by decide +kernel)⟩
theorem lw_p23 : lw_okq (⟨"WireDeskModel", "transaction", "(I)V"⟩, 32) := ⟨⟨by decide +kernel, by decide +kernel⟩, List.mem_of_getElem? (i := 372) (by decide +kernel), List.mem_of_getElem? (i := 528) (by decide +kernel), List.mem_of_getElem? (i := 529) (by decide +kernel)⟩
theorem lw_p24 : lw_okq (⟨"WireDeskModel", "nameOf", "(III)V"⟩, 32) := ⟨⟨by decide +kernel, by decide +kernel⟩, List.mem_of_getElem? (i := 372) (by decide +kernel), List.mem_of_getElem? (i := 532) (by decide +kernel), List.mem_of_getElem? (i := 533) (by decide +kernel)⟩
theorem lw_p25 : lw_okq (⟨"WireDeskModel", "twice", "(I)V"⟩, 32) := ⟨⟨by decide +kernel, by decide +kernel⟩, List.mem_of_getElem? (i := 372) (by decide +kernel), List.mem_of_getElem? (i := 536) (by decide +kernel), List.mem_of_getElem? (i := 537) (by decide +kernel)⟩
theorem lw_p26 : lw_okq (⟨"WireDeskModel", "digestOf", "(I)V"⟩, 32) := ⟨⟨by decide +kernel, by decide +kernel⟩, List.mem_of_getElem? (i := 372) (by decide +kernel), List.mem_of_getElem? (i := 540) (by decide +kernel), List.mem_of_getElem? (i := 541) (by decide +kernel)⟩
theorem lw_p27 : lw_okq (⟨"WireDeskModel", "block", "(I)V"⟩, 32) := ⟨⟨by decide +kernel, by decide +kernel⟩, List.mem_of_getElem? (i := 372) (by decide +kernel), List.mem_of_getElem? (i := 545) (by decide +kernel), List.mem_of_getElem? (i := 546) (by decide +kernel)⟩
theorem lw_p28 : lw_okq (⟨"WireDeskModel", "join", "()V"⟩, 32) := ⟨⟨by decide +kernel, by decide +kernel⟩, List.mem_of_getElem? (i := 372) (by decide +kernel), List.mem_of_getElem? (i := 558) (by decide +kernel), List.mem_of_getElem? (i := 559) (by decide +kernel)⟩
theorem lw_p29 : lw_okq (⟨"WireDeskModel", "isTransaction", "(I)Z"⟩, 32) := ⟨⟨by decide +kernel, by decide +kernel⟩, List.mem_of_getElem? (i := 372) (by decide +kernel), List.mem_of_getElem? (i := 579) (by decide +kernel), List.mem_of_getElem? (i := 580) (by decide +kernel)⟩
def lw_privs_2 : List (MethodName × Nat) := [(⟨"WireDeskModel", "rootOf", "(II)J"⟩, 32), (⟨"WireDeskModel", "fits", "(JII)Z"⟩, 32), (⟨"WireDeskModel", "lay", "(JIZ)Z"⟩, 32), (⟨"WireDeskModel", "pass", "(I)V"⟩, 32), (⟨"WireDeskModel", "fails", "(II)V"⟩, 32), (⟨"WireDeskModel", "sizeOf", "(I)I"⟩, 32), (⟨"WireDeskModel", "lowAt", "(II)J"⟩, 32), (⟨"WireDeskModel", "transaction", "(I)V"⟩, 32), (⟨"WireDeskModel", "nameOf", "(III)V"⟩, 32), (⟨"WireDeskModel", "twice", "(I)V"⟩, 32), (⟨"WireDeskModel", "digestOf", "(I)V"⟩, 32), (⟨"WireDeskModel", "block", "(I)V"⟩, 32), (⟨"WireDeskModel", "join", "()V"⟩, 32), (⟨"WireDeskModel", "isTransaction", "(I)Z"⟩, 32)]
theorem lw_r2 : ∀ q ∈ lw_privs_2, lw_okq q := List.forall_mem_cons.mpr ⟨lw_p16, List.forall_mem_cons.mpr ⟨lw_p17, List.forall_mem_cons.mpr ⟨lw_p18, List.forall_mem_cons.mpr ⟨lw_p19, List.forall_mem_cons.mpr ⟨lw_p20, List.forall_mem_cons.mpr ⟨lw_p21, List.forall_mem_cons.mpr ⟨lw_p22, List.forall_mem_cons.mpr ⟨lw_p23, List.forall_mem_cons.mpr ⟨lw_p24, List.forall_mem_cons.mpr ⟨lw_p25, List.forall_mem_cons.mpr ⟨lw_p26, List.forall_mem_cons.mpr ⟨lw_p27, List.forall_mem_cons.mpr ⟨lw_p28, List.forall_mem_cons.mpr ⟨lw_p29, fun _ h => absurd h List.not_mem_nil⟩⟩⟩⟩⟩⟩⟩⟩⟩⟩⟩⟩⟩⟩
def lw_privs : List (MethodName × Nat) := lw_privs_1 ++ (lw_privs_2)
def lw_tbl : List Cond := k2_sels lw_privs ++ tables_1
theorem lw_privs_ok : ∀ q ∈ lw_privs, lw_okq q := by
  show ∀ q ∈ lw_privs_1 ++ (lw_privs_2), lw_okq q
  exact List.forall_mem_append.mpr ⟨lw_r1, lw_r2⟩
def R_Row : String := "WireDesk$NameRow"
def T_Row : u_T := fun k => match k with
  | 0 => ("WireDesk$NameRow", "names", "[B", true)
  | _ => ("WireDesk$NameRow", "doubtful", "Z", false)
def t_Row : Nat → FieldType := fun k => match k with
  | 0 => .array .byte
  | _ => .boolean
theorem n_Row : ∀ a, a < 2 → ∀ b, b < 2 → a ≠ b → (T_Row a).2.1 ≠ (T_Row b).2.1 := by decide +kernel
theorem t_Row_ok : ∀ k, k < 2 → parseFieldDescriptor (T_Row k).2.2.1 = some (t_Row k) := by decide +kernel
def R_Nam : String := "WireDesk$Namer"
def T_Nam : u_T := fun k => match k with
  | 0 => ("WireDesk$Namer", "state", "[I", true)
  | 1 => ("WireDesk$Namer", "schedule", "[I", true)
  | _ => ("WireDesk$Namer", "firstDigest", "[B", true)
def t_Nam : Nat → FieldType := fun k => match k with
  | 0 => .array .int
  | 1 => .array .int
  | _ => .array .byte
theorem n_Nam : ∀ a, a < 3 → ∀ b, b < 3 → a ≠ b → (T_Nam a).2.1 ≠ (T_Nam b).2.1 := by decide +kernel
theorem t_Nam_ok : ∀ k, k < 3 → parseFieldDescriptor (T_Nam k).2.2.1 = some (t_Nam k) := by decide +kernel
def R_Rea : String := "WireDesk$Reader"
def T_Rea : u_T := fun k => match k with
  | 0 => ("WireDesk$Reader", "text", "LWireDesk$Text;", true)
  | 1 => ("WireDesk$Reader", "next", "I", false)
  | 2 => ("WireDesk$Reader", "fault", "I", false)
  | _ => ("WireDesk$Reader", "faultPlace", "I", false)
def t_Rea : Nat → FieldType := fun k => match k with
  | 0 => .object "WireDesk$Text"
  | 1 => .int
  | 2 => .int
  | _ => .int
theorem n_Rea : ∀ a, a < 4 → ∀ b, b < 4 → a ≠ b → (T_Rea a).2.1 ≠ (T_Rea b).2.1 := by decide +kernel
theorem t_Rea_ok : ∀ k, k < 4 → parseFieldDescriptor (T_Rea k).2.2.1 = some (t_Rea k) := by decide +kernel
def R_Txt : String := "WireDesk$Text"
def T_Txt : u_T := fun k => match k with
  | 0 => ("WireDesk$Text", "bytes", "[B", true)
  | _ => ("WireDesk$Text", "length", "I", false)
def t_Txt : Nat → FieldType := fun k => match k with
  | 0 => .array .byte
  | _ => .int
theorem n_Txt : ∀ a, a < 2 → ∀ b, b < 2 → a ≠ b → (T_Txt a).2.1 ≠ (T_Txt b).2.1 := by decide +kernel
theorem t_Txt_ok : ∀ k, k < 2 → parseFieldDescriptor (T_Txt k).2.2.1 = some (t_Txt k) := by decide +kernel
def R_Tra : String := "WireDesk$Transaction"
def T_Tra : u_T := fun k => match k with
  | 0 => ("WireDesk$Transaction", "begin", "I", false)
  | 1 => ("WireDesk$Transaction", "end", "I", false)
  | 2 => ("WireDesk$Transaction", "inputCount", "I", false)
  | 3 => ("WireDesk$Transaction", "outputCount", "I", false)
  | 4 => ("WireDesk$Transaction", "inputBegin", "[I", true)
  | 5 => ("WireDesk$Transaction", "inputScript", "[I", true)
  | 6 => ("WireDesk$Transaction", "inputScriptBytes", "[I", true)
  | 7 => ("WireDesk$Transaction", "outputBegin", "[I", true)
  | 8 => ("WireDesk$Transaction", "outputScript", "[I", true)
  | _ => ("WireDesk$Transaction", "outputScriptBytes", "[I", true)
def t_Tra : Nat → FieldType := fun k => match k with
  | 0 => .int
  | 1 => .int
  | 2 => .int
  | 3 => .int
  | 4 => .array .int
  | 5 => .array .int
  | 6 => .array .int
  | 7 => .array .int
  | 8 => .array .int
  | _ => .array .int
theorem n_Tra : ∀ a, a < 10 → ∀ b, b < 10 → a ≠ b → (T_Tra a).2.1 ≠ (T_Tra b).2.1 := by decide +kernel
theorem t_Tra_ok : ∀ k, k < 10 → parseFieldDescriptor (T_Tra k).2.2.1 = some (t_Tra k) := by decide +kernel
def R_Dsk : String := "WireDesk"
def T_Dsk : u_T := fun k => match k with
  | 0 => ("WireDesk", "written", "LWireDesk$Text;", true)
  | 1 => ("WireDesk", "kept", "LWireDesk$Text;", true)
  | 2 => ("WireDesk", "reader", "LWireDesk$Reader;", true)
  | 3 => ("WireDesk", "namer", "LWireDesk$Namer;", true)
  | 4 => ("WireDesk", "transactions", "[LWireDesk$Transaction;", true)
  | 5 => ("WireDesk", "transactionCount", "I", false)
  | 6 => ("WireDesk", "blockKept", "Z", false)
  | 7 => ("WireDesk", "faultPlace", "I", false)
  | 8 => ("WireDesk", "transactionNames", "[B", true)
  | 9 => ("WireDesk", "blockName", "[B", true)
  | _ => ("WireDesk", "row", "LWireDesk$NameRow;", true)
def t_Dsk : Nat → FieldType := fun k => match k with
  | 0 => .object "WireDesk$Text"
  | 1 => .object "WireDesk$Text"
  | 2 => .object "WireDesk$Reader"
  | 3 => .object "WireDesk$Namer"
  | 4 => .array (.object "WireDesk$Transaction")
  | 5 => .int
  | 6 => .boolean
  | 7 => .int
  | 8 => .array .byte
  | 9 => .array .byte
  | _ => .object "WireDesk$NameRow"
theorem n_Dsk : ∀ a, a < 11 → ∀ b, b < 11 → a ≠ b → (T_Dsk a).2.1 ≠ (T_Dsk b).2.1 := by decide +kernel
theorem t_Dsk_ok : ∀ k, k < 11 → parseFieldDescriptor (T_Dsk k).2.2.1 = some (t_Dsk k) := by decide +kernel
def R_Mod : String := "WireDeskModel"
def T_Mod : u_T := fun k => match k with
  | 0 => ("WireDeskModel", "text", "[I", true)
  | 1 => ("WireDeskModel", "size", "I", false)
  | 2 => ("WireDeskModel", "bytes", "[I", true)
  | 3 => ("WireDeskModel", "length", "I", false)
  | 4 => ("WireDeskModel", "isBlock", "Z", false)
  | 5 => ("WireDeskModel", "many", "I", false)
  | 6 => ("WireDeskModel", "place", "I", false)
  | 7 => ("WireDeskModel", "at", "I", false)
  | 8 => ("WireDeskModel", "wrong", "I", false)
  | 9 => ("WireDeskModel", "where", "I", false)
  | 10 => ("WireDeskModel", "begins", "[I", true)
  | 11 => ("WireDeskModel", "ends", "[I", true)
  | 12 => ("WireDeskModel", "inputs", "[I", true)
  | 13 => ("WireDeskModel", "outputs", "[I", true)
  | 14 => ("WireDeskModel", "inputAt", "[I", true)
  | 15 => ("WireDeskModel", "inputScript", "[I", true)
  | 16 => ("WireDeskModel", "inputSize", "[I", true)
  | 17 => ("WireDeskModel", "outputAt", "[I", true)
  | 18 => ("WireDeskModel", "outputScript", "[I", true)
  | 19 => ("WireDeskModel", "outputSize", "[I", true)
  | 20 => ("WireDeskModel", "names", "[I", true)
  | 21 => ("WireDeskModel", "row", "[I", true)
  | 22 => ("WireDeskModel", "root", "[I", true)
  | 23 => ("WireDeskModel", "doubtful", "Z", false)
  | 24 => ("WireDeskModel", "padded", "[I", true)
  | 25 => ("WireDeskModel", "digest", "[I", true)
  | 26 => ("WireDeskModel", "cubes", "[J", true)
  | 27 => ("WireDeskModel", "squares", "[J", true)
  | 28 => ("WireDeskModel", "w", "[J", true)
  | 29 => ("WireDeskModel", "h", "[J", true)
  | 30 => ("WireDeskModel", "x", "[J", true)
  | _ => ("WireDeskModel", "y", "[J", true)
def t_Mod : Nat → FieldType := fun k => match k with
  | 0 => .array .int
  | 1 => .int
  | 2 => .array .int
  | 3 => .int
  | 4 => .boolean
  | 5 => .int
  | 6 => .int
  | 7 => .int
  | 8 => .int
  | 9 => .int
  | 10 => .array .int
  | 11 => .array .int
  | 12 => .array .int
  | 13 => .array .int
  | 14 => .array .int
  | 15 => .array .int
  | 16 => .array .int
  | 17 => .array .int
  | 18 => .array .int
  | 19 => .array .int
  | 20 => .array .int
  | 21 => .array .int
  | 22 => .array .int
  | 23 => .boolean
  | 24 => .array .int
  | 25 => .array .int
  | 26 => .array .long
  | 27 => .array .long
  | 28 => .array .long
  | 29 => .array .long
  | 30 => .array .long
  | _ => .array .long
theorem n_Mod : ∀ a, a < 32 → ∀ b, b < 32 → a ≠ b → (T_Mod a).2.1 ≠ (T_Mod b).2.1 := by decide +kernel
theorem t_Mod_ok : ∀ k, k < 32 → parseFieldDescriptor (T_Mod k).2.2.1 = some (t_Mod k) := by decide +kernel
/-- the classes whose objects the worlds hold -/
abbrev vwCl : List vw_C := [(R_Row, T_Row, 2), (R_Nam, T_Nam, 3), (R_Rea, T_Rea, 4), (R_Txt, T_Txt, 2), (R_Tra, T_Tra, 10), (R_Dsk, T_Dsk, 11), (R_Mod, T_Mod, 32)]
/-- the tables' words that are carried into every call -/
def TB : List Cond := lw_tbl.filter goodWord
theorem TB_good (w : Cond) (h : w ∈ TB) : w ∈ TB ∧ ((w.onTables && w.keeps) = true ∨ ∃ ty, w = .arrayClass ty) := ⟨h, good_of_word (List.mem_filter.mp h).2⟩
theorem TB_of {w : Cond} (i : Nat) (h : tables_1[i]? = some w) (hg : goodWord w = true) : w ∈ TB := List.mem_filter.mpr ⟨List.mem_append_right _ (List.mem_of_getElem? h), hg⟩
theorem TB_sel {q : MethodName × Nat} (i : Nat) (h : lw_privs[i]? = some q) : Cond.selects q.1.cls q.1 q.1 ∈ TB := List.mem_filter.mpr ⟨List.mem_append_left _ (List.mem_map.mpr ⟨q, List.mem_of_getElem? h, rfl⟩), rfl⟩
theorem TB_tbl {w : Cond} (h : w ∈ TB) : w ∈ lw_tbl := (List.mem_filter.mp h).1
theorem i_Row : ∀ w ∈ u_ws R_Row T_Row 2, w ∈ TB := by decide +kernel
theorem i_Nam : ∀ w ∈ u_ws R_Nam T_Nam 3, w ∈ TB := by decide +kernel
theorem i_Rea : ∀ w ∈ u_ws R_Rea T_Rea 4, w ∈ TB := by decide +kernel
theorem i_Txt : ∀ w ∈ u_ws R_Txt T_Txt 2, w ∈ TB := by decide +kernel
theorem i_Tra : ∀ w ∈ u_ws R_Tra T_Tra 10, w ∈ TB := by decide +kernel
theorem i_Dsk : ∀ w ∈ u_ws R_Dsk T_Dsk 11, w ∈ TB := by decide +kernel
theorem i_Mod : ∀ w ∈ u_ws R_Mod T_Mod 32, w ∈ TB := by decide +kernel
/-- links of nest mates -/
def jN : List Cond := [.methodLinkNest "WireDesk" 9 ⟨"WireDesk$Text", "<init>", "()V"⟩ "WireDesk", .methodLinkNest "WireDesk" 30 ⟨"WireDesk$Namer", "<init>", "()V"⟩ "WireDesk", .methodLinkNest "WireDesk" 61 ⟨"WireDesk$NameRow", "<init>", "()V"⟩ "WireDesk", .methodLinkNest "WireDesk" 66 ⟨"WireDesk$Transaction", "<init>", "()V"⟩ "WireDesk", .methodLinkNest "WireDesk$Reader" 89 ⟨"WireDesk", "widthOfMark", "(I)I"⟩ "WireDesk", .methodLinkNest "WireDesk$Reader" 96 ⟨"WireDesk", "widthOfSize", "(J)I"⟩ "WireDesk"]
def j_isNest : Cond → Bool
  | .methodLinkNest .. => true
  | .fieldLinkNest .. => true
  | _ => false
theorem jN_ok : jN.all j_isNest = true := by decide +kernel
theorem jN_in : ∀ w ∈ jN, w ∈ lw_tbl := by decide +kernel
theorem j_nest_on {w : Cond} (h : w ∈ jN) : w.onTables = true := by
  have h2 : j_isNest w = true := List.all_eq_true.mp jN_ok w h
  cases w <;> first | rfl | (simp [j_isNest] at h2)
abbrev JX : Type := (Nat → ClassId) × (Nat → Nat → Nat) × (Nat → ClassId) × (Nat → Nat)
abbrev jD (g : JX) : va_G := (g.1, g.2.1)
abbrev aB (g : JX) : ClassId := g.2.2.1 0
abbrev aI (g : JX) : ClassId := g.2.2.1 1
abbrev aQ (g : JX) : ClassId := g.2.2.1 2
abbrev aJ (g : JX) : ClassId := g.2.2.1 3
abbrev tS (g : JX) : Nat := g.2.2.2 0
abbrev tR (g : JX) : Nat := g.2.2.2 1
abbrev jT (g : JX) : List (ClassId × FieldType) := [(aB g, .byte), (aI g, .int), (aQ g, .object "WireDesk$Transaction"), (aJ g, .long)]
def kSTART : List Int32 := [1779033703, -1150833019, 1013904242, -1521486534, 1359893119, -1694144372, 528734635, 1541459225]
def vSTART : Nat → Value := fun j => .int (kSTART.getD j 0)
def kROUND : List Int32 := [1116352408, 1899447441, -1245643825, -373957723, 961987163, 1508970993, -1841331548, -1424204075, -670586216, 310598401, 607225278, 1426881987, 1925078388, -2132889090, -1680079193, -1046744716, -459576895, -272742522, 264347078, 604807628, 770255983, 1249150122, 1555081692, 1996064986, -1740746414, -1473132947, -1341970488, -1084653625, -958395405, -710438585, 113926993, 338241895, 666307205, 773529912, 1294757372, 1396182291, 1695183700, 1986661051, -2117940946, -1838011259, -1564481375, -1474664885, -1035236496, -949202525, -778901479, -694614492, -200395387, 275423344, 430227734, 506948616, 659060556, 883997877, 958139571, 1322822218, 1537002063, 1747873779, 1955562222, 2024104815, -2067236844, -1933114872, -1866530822, -1538233109, -1090935817, -965641998]
def vROUND : Nat → Value := fun j => .int (kROUND.getD j 0)
/-- the static tables, and the array class of Transaction[] -/
def j_Z (g : JX) (A : Nat → Prop) (U : State) (H : Heap) : Prop := va_Z "WireDesk$Namer" "START" "[I" (.ref (tS g)) A U H ∧ va_T .int (tS g) 8 vSTART A U H ∧ va_Z "WireDesk$Namer" "ROUND" "[I" (.ref (tR g)) A U H ∧ va_T .int (tR g) 64 vROUND A U H ∧ va_AO "WireDesk$Transaction" U
theorem j_Z.go {g : JX} {A B : Nat → Prop} {s U : State} {H H1 : Heap} (h : j_Z g A s H) (hvm : s.vm.Alike U.vm) (hq : ∀ a : Nat, a < H.size → ¬ A a → H1[a]? = H[a]?) (hAB : ∀ q, B q → A q) : j_Z g B U H1 := by
  obtain ⟨h1, h2, h3, h4, h5⟩ := h
  exact ⟨((va_Z.moved hvm h1).kept hq).narrow hAB, ((va_T.moved hvm h2).kept hq).narrow hAB, ((va_Z.moved hvm h3).kept hq).narrow hAB, ((va_T.moved hvm h4).kept hq).narrow hAB, va_AO.moved hvm h5⟩
end
section
/-! THE FRAME OF ALL WALKS: a symbolic state (locals, stack, cells) in place of the machine's; a rule an instruction; contracts of one form. -/
/-- what stays while a method runs -/
abbrev JK : Type := Program × Launch × Env × Room × State × MethodId × Array Value × List Frame × Method × Code × (State → Prop) × (Nat → Prop) × Nat
abbrev kp (κ : JK) : Program := κ.1
abbrev kl (κ : JK) : Launch := κ.2.1
abbrev ke (κ : JK) : Env := κ.2.2.1
abbrev kR (κ : JK) : Room := κ.2.2.2.1
abbrev ks (κ : JK) : State := κ.2.2.2.2.1
abbrev km (κ : JK) : MethodId := κ.2.2.2.2.2.1
abbrev ka (κ : JK) : Array Value := κ.2.2.2.2.2.2.1
abbrev kb (κ : JK) : List Frame := κ.2.2.2.2.2.2.2.1
abbrev kM (κ : JK) : Method := κ.2.2.2.2.2.2.2.2.1
abbrev kc (κ : JK) : Code := κ.2.2.2.2.2.2.2.2.2.1
abbrev kQ (κ : JK) : State → Prop := κ.2.2.2.2.2.2.2.2.2.2.1
abbrev kA (κ : JK) : Nat → Prop := κ.2.2.2.2.2.2.2.2.2.2.2.1
abbrev kn (κ : JK) : Nat := κ.2.2.2.2.2.2.2.2.2.2.2.2
/-- what the tables, the nest's links and the static tables say, wherever a method of the system begins -/
def j_G (g : JX) (A : Nat → Prop) (U : State) (H : Heap) : Prop := va_K (jD g) vwCl (jT g) U ∧ (∀ w ∈ jN, va_Nw w U) ∧ j_Z g A U H
def j_V (g : JX) (κ : JK) (cells slots pc : Nat) (lv : List (Nat × Value)) (st : List Value) (ws : va_W) : Prop :=
  ∀ (H : Heap) (locs : List Loc) (ls : Array Slot), va_P (jD g) vwCl ws H → va_D (kA κ) ws → va_S (kA κ) (ks κ).heap H locs → lv_has ls (kn κ) lv →
    W (kp κ) (kl κ) (ke κ) (kR κ) (ks κ) (km κ) (ka κ) (kb κ) (kM κ) (kc κ) H locs cells slots (kQ κ) (F0 (km κ) pc ls st)
def j_C (g : JX) (κ : JK) (cc : ByteArray) (own : String) (rm : Room) (nL : Nat) : Prop :=
  (kp κ).tables.exec = Jvm.exec ∧ (kc κ).code = cc ∧ (ks κ).vm.findClass own = some (km κ).cls ∧ (∀ w ∈ TB, w.before (ka κ) (ks κ) = true) ∧ (kc κ).maxLocals = nL ∧ kn κ = nL ∧ kR κ = rm ∧ (∀ q : Nat, (ks κ).heap.size ≤ q → kA κ q) ∧ j_G g (kA κ) (ks κ) (ks κ).heap
/-- a contract's start and end -/
def j_Pre (g : JX) (wc : va_W) (sz : Nat) (av : List Value) : Array Value → State → Prop := va_Pc av (fun U => U.heap.size = sz ∧ va_P (jD g) vwCl wc U.heap ∧ va_D (fun _ => True) wc ∧ j_G g (va_A wc sz) U U.heap)
def j_Post (g : JX) (wc : va_W) (sz : Nat) (O : Option Value → va_W → Prop) : Array Value → State → Outcome → State → Prop := fun _ st oc t => (∃ (r : Option Value) (w1 : va_W), oc = .returned r ∧ O r w1 ∧ va_P (jD g) vwCl w1 t.heap ∧ va_D (va_A wc sz) w1) ∧ va_F (va_A wc sz) st t
def j_Ct (l : Launch) (y : MethodName) (cc : ByteArray) (nL : Nat) (ret : Option FieldType) (rm : Room) (g : JX) (wc : va_W) (av : List Value) (O : Option Value → va_W → Prop) (mc ms : Nat) : Prop :=
  ∀ sz : Nat, Met l y (.code y cc nL ret :: TB) rm (j_Pre g wc sz av) (j_Post g wc sz O) mc ms (va_A wc sz)
/-- what a return needs -/
def j_R (g : JX) (κ : JK) (cc : ByteArray) (ret : Option FieldType) (O : Option Value → va_W → Prop) (mc ms : Nat) : Prop :=
  (∀ (pc : Nat) (lv : List (Nat × Value)) (ws : va_W) (v : Int32), decode cc pc = .ok (.ireturn, 1) → (∃ ty, ret = some ty ∧ narrow ty (.int v) = .int v) → O (some (.int v)) ws → j_V g κ mc ms pc lv [.int v] ws) ∧
  (∀ (pc : Nat) (lv : List (Nat × Value)) (ws : va_W) (v : Int64), decode cc pc = .ok (.lreturn, 1) → ret = some .long → O (some (.long v)) ws → j_V g κ mc ms pc lv [.long v] ws) ∧
  (∀ (pc : Nat) (lv : List (Nat × Value)) (ws : va_W), decode cc pc = .ok (.return_, 1) → ret = none → O none ws → j_V g κ mc ms pc lv [] ws)
-- worlds by membership
theorem j_mem {ws : va_W} {q : Nat × va_E} (h : q ∈ ws) : ∃ k : Nat, ws[k]? = some q := List.getElem?_of_mem h
theorem j_P_of {D : va_G} {cl : List vw_C} {ws : va_W} {H : Heap} (h : ∀ q ∈ ws, va_at D cl q H) : va_P D cl ws H := fun _ q hq => h q (List.mem_of_getElem? hq)
theorem j_P_at {D : va_G} {cl : List vw_C} {ws : va_W} {H : Heap} (h : va_P D cl ws H) {q : Nat × va_E} (hq : q ∈ ws) : va_at D cl q H := by
  obtain ⟨k, hk⟩ := j_mem hq
  exact h k q hk
theorem j_D_in {A : Nat → Prop} {ws : va_W} (h : va_D A ws) {q : Nat × va_E} (hq : q ∈ ws) : A q.1 := by
  obtain ⟨k, hk⟩ := j_mem hq
  exact h.2 k q hk
theorem j_D_left {A : Nat → Prop} {w1 w2 : va_W} (h : va_D A (w1 ++ w2)) : va_D A w1 := by
  refine ⟨fun i j p q hi hj e => ?_, fun k q hk => ?_⟩
  · refine h.1 i j p q ?_ ?_ e
    · rw [List.getElem?_append_left (List.getElem?_eq_some_iff.mp hi).1]; exact hi
    · rw [List.getElem?_append_left (List.getElem?_eq_some_iff.mp hj).1]; exact hj
  · refine h.2 k q ?_
    rw [List.getElem?_append_left (List.getElem?_eq_some_iff.mp hk).1]; exact hk
theorem j_D_right {A : Nat → Prop} {w1 w2 : va_W} (h : va_D A (w1 ++ w2)) : va_D A w2 := by
  have e : ∀ k : Nat, (w1 ++ w2)[w1.length + k]? = w2[k]? := fun k => by
    rw [List.getElem?_append_right (Nat.le_add_right _ _), Nat.add_sub_cancel_left]
  refine ⟨fun i j p q hi hj eq => ?_, fun k q hk => ?_⟩
  · have := h.1 (w1.length + i) (w1.length + j) p q (by rw [e]; exact hi) (by rw [e]; exact hj) eq
    omega
  · exact h.2 (w1.length + k) q (by rw [e]; exact hk)
theorem j_D_apart {A : Nat → Prop} {w1 w2 : va_W} (h : va_D A (w1 ++ w2)) {p q : Nat × va_E} (hp : p ∈ w1) (hq : q ∈ w2) : p.1 ≠ q.1 := by
  obtain ⟨i, hi⟩ := j_mem hp
  obtain ⟨j, hj⟩ := j_mem hq
  intro e
  have hil := (List.getElem?_eq_some_iff.mp hi).1
  have := h.1 i (w1.length + j) p q (by rw [List.getElem?_append_left hil]; exact hi) (by rw [List.getElem?_append_right (Nat.le_add_right _ _), Nat.add_sub_cancel_left]; exact hj) e
  omega
theorem j_D_app {A : Nat → Prop} {w1 w2 : va_W} (h1 : va_D A w1) (h2 : va_D A w2) (hx : ∀ p ∈ w1, ∀ q ∈ w2, p.1 ≠ q.1) : va_D A (w1 ++ w2) := h1.app h2 (fun _ _ p q hp hq => hx p (List.mem_of_getElem? hp) q (List.mem_of_getElem? hq))
/-- a part of a world -/
def j_Sb (ws ws' : va_W) : Prop := (∀ q ∈ ws', q ∈ ws) ∧ ∀ A : Nat → Prop, va_D A ws → va_D A ws'
theorem j_Sb.refl (ws : va_W) : j_Sb ws ws := ⟨fun _ h => h, fun _ h => h⟩
theorem j_Sb.trans {a b c : va_W} (h1 : j_Sb a b) (h2 : j_Sb b c) : j_Sb a c := ⟨fun q h => h1.1 q (h2.1 q h), fun A h => h2.2 A (h1.2 A h)⟩
theorem j_Sb.P {ws ws' : va_W} (h : j_Sb ws ws') {D : va_G} {cl : List vw_C} {H : Heap} (hP : va_P D cl ws H) : va_P D cl ws' H := j_P_of fun q hq => j_P_at hP (h.1 q hq)
theorem j_sb {ws ws' : va_W} (is : List Nat) (hn : va_nd is = true) (hs : is.map (fun i => ws[i]?) = ws'.map some) : j_Sb ws ws' := by
  refine ⟨fun q hq => ?_, fun A h => h.sub is hn hs⟩
  have h1 : some q ∈ ws'.map some := List.mem_map.mpr ⟨q, hq, rfl⟩
  rw [← hs] at h1
  obtain ⟨i, -, hi⟩ := List.mem_map.mp h1
  exact List.mem_of_getElem? hi
theorem j_Sb.app {a b : va_W} (h : j_Sb a b) (c : va_W) : j_Sb (a ++ c) (b ++ c) := by
  refine ⟨fun q hq => ?_, fun A hD => j_D_app (h.2 A (j_D_left hD)) (j_D_right hD) (fun p hp q hq => j_D_apart hD (h.1 p hp) hq)⟩
  rcases List.mem_append.mp hq with h1 | h1
  · exact List.mem_append_left _ (h.1 q h1)
  · exact List.mem_append_right _ h1
theorem j_Sb.swap (a b : va_W) : j_Sb (a ++ b) (b ++ a) := by
  refine ⟨fun q hq => ?_, fun A hD => j_D_app (j_D_right hD) (j_D_left hD) (fun p hp q hq e => j_D_apart hD hq hp e.symm)⟩
  rcases List.mem_append.mp hq with h1 | h1
  · exact List.mem_append_right _ h1
  · exact List.mem_append_left _ h1
theorem j_Sb.left (a b : va_W) : j_Sb (a ++ b) a := ⟨fun q hq => List.mem_append_left _ hq, fun A hD => j_D_left hD⟩
theorem j_join {A0 : Nat → Prop} {D : va_G} {cl : List vw_C} {wc wr w1 : va_W} {H H1 : Heap} (hP : va_P D cl (wc ++ wr) H) (hD : va_D A0 (wc ++ wr))
    (hk : ∀ q : Nat, q < H.size → ¬ va_A wc H.size q → H1[q]? = H[q]?) (hF : ∀ q, va_A wc H.size q → A0 q) (hP1 : va_P D cl w1 H1) (hD1 : va_D (va_A wc H.size) w1) : va_P D cl (w1 ++ wr) H1 ∧ va_D A0 (w1 ++ wr) := by
  have key : ∀ q ∈ wr, q.1 < H.size ∧ ¬ va_A wc H.size q.1 := by
    intro q hq
    have hl := (j_P_at hP (List.mem_append_right wc hq)).lt
    refine ⟨hl, fun h => ?_⟩
    rcases h with ⟨k, e, h⟩ | h
    · exact j_D_apart hD (List.mem_of_getElem? h) hq rfl
    · omega
  refine ⟨hP1.app (j_P_of fun q hq => ?_), j_D_app (hD1.weaken (fun _ _ _ h => hF _ h)) (j_D_right hD) (fun p hp q hq e => ?_)⟩
  · obtain ⟨h1, h2⟩ := key q hq
    exact (j_P_at hP (List.mem_append_right wc hq)).kept (hk _ h1 h2)
  · exact (key q hq).2 (by rw [← e]; exact j_D_in hD1 hp)
theorem j_freeA {A0 : Nat → Prop} {wc : va_W} {H0 H : Heap} {locs : List Loc} (hD : va_D A0 wc) (hS : va_S A0 H0 H locs) (hA : ∀ q : Nat, H0.size ≤ q → A0 q) : ∀ q, va_A wc H.size q → A0 q := by
  intro q h
  rcases h with ⟨k, e, h⟩ | h
  · exact hD.2 k (q, e) h
  · exact hA q (Nat.le_trans hS.1 h)
-- what holds of the tables is carried into a call
theorem j_nest {s U : State} (hW : s.WarmedH U.vm) (h : ∀ w ∈ jN, va_Nw w s) : ∀ w ∈ jN, va_Nw w U := by
  intro w hw
  have h1 := h w hw
  have h2 : j_isNest w = true := List.all_eq_true.mp jN_ok w hw
  cases w <;> first | exact va_Nw.warmM hW h1 | exact va_Nw.warmF hW h1 | (simp [j_isNest] at h2)
theorem j_G.go {g : JX} {A B : Nat → Prop} {s U : State} {H : Heap} {locs : List Loc} (h : j_G g A s s.heap) (hU : U.heap = H) (hW : s.WarmedH U.vm) (hS : va_S A s.heap H locs) (hAB : ∀ q, B q → A q) : j_G g B U U.heap := by
  refine ⟨va_K.moved hW.alike h.1, j_nest hW h.2.1, ?_⟩
  rw [hU]
  exact j_Z.go h.2.2 hW.alike (fun a h1 h2 => hS.2.1 a h1 h2) hAB
theorem j_blind {g : JX} {wc : va_W} {sz : Nat} {av : List Value} : FrameBlind (j_Pre g wc sz av) := by
  intro a U f mk q
  obtain ⟨q0, q1, qP, qD, qK, qN, qZ⟩ := q
  exact ⟨q0, q1, qP, qD, va_K.moved (u := U) (U := U.calling f mk a) (Vm.Alike.refl U.vm) qK, fun w hw => va_Nw.same (u := U) (U := U.calling f mk a) (j_nest_on hw) rfl (qN w hw), j_Z.go qZ (Vm.Alike.refl U.vm) (fun _ _ _ => rfl) (fun _ h => h)⟩
theorem j_goodC {y : MethodName} {cc : ByteArray} {nL : Nat} {ret : Option FieldType} (h : Cond.code y cc nL ret ∈ TB) : GoodIn TB (.code y cc nL ret :: TB) := by
  intro w hw
  rcases List.mem_cons.mp hw with rfl | hw
  · exact TB_good _ h
  · exact TB_good _ hw
theorem j_iconst {g : JX} {κ : JK} {cc : ByteArray} {own : String} {rm : Room} {nL pc cells slots : Nat} {lv : List (Nat × Value)} {rest : List Value} {ws : va_W} (C : j_C g κ cc own rm nL) {n : Int} {v : Int32} (hdg : decode cc pc = .ok (.iconst n, 1)) (hv : Int32.ofInt n = v) (k9 : j_V g κ cells slots (pc + 1) lv (.int v :: rest) ws) : j_V g κ cells slots pc lv (rest) ws := by
  exact fun H locs ls hP hD hS hL9 => lv_iconst C.1 C.2.1 hdg hv (k9 H locs ls hP hD hS hL9)
theorem j_bipush {g : JX} {κ : JK} {cc : ByteArray} {own : String} {rm : Room} {nL pc cells slots : Nat} {lv : List (Nat × Value)} {rest : List Value} {ws : va_W} (C : j_C g κ cc own rm nL) {n : Int} {v : Int32} (hdg : decode cc pc = .ok (.bipush n, 2)) (hv : (Int8.ofInt n).toInt32 = v) (k9 : j_V g κ cells slots (pc + 2) lv (.int v :: rest) ws) : j_V g κ cells slots pc lv (rest) ws := by
  exact fun H locs ls hP hD hS hL9 => lv_bipush C.1 C.2.1 hdg hv (k9 H locs ls hP hD hS hL9)
theorem j_sipush {g : JX} {κ : JK} {cc : ByteArray} {own : String} {rm : Room} {nL pc cells slots : Nat} {lv : List (Nat × Value)} {rest : List Value} {ws : va_W} (C : j_C g κ cc own rm nL) {n : Int} {v : Int32} (hdg : decode cc pc = .ok (.sipush n, 3)) (hv : (Int16.ofInt n).toInt32 = v) (k9 : j_V g κ cells slots (pc + 3) lv (.int v :: rest) ws) : j_V g κ cells slots pc lv (rest) ws := by
  exact fun H locs ls hP hD hS hL9 => lv_sipush C.1 C.2.1 hdg hv (k9 H locs ls hP hD hS hL9)
theorem j_lconst {g : JX} {κ : JK} {cc : ByteArray} {own : String} {rm : Room} {nL pc cells slots : Nat} {lv : List (Nat × Value)} {rest : List Value} {ws : va_W} (C : j_C g κ cc own rm nL) {n : Fin 2} {v : Int64} (hdg : decode cc pc = .ok (.lconst n, 1)) (hv : Int64.ofNat (n : Nat) = v) (k9 : j_V g κ cells slots (pc + 1) lv (.long v :: rest) ws) : j_V g κ cells slots pc lv (rest) ws := by
  exact fun H locs ls hP hD hS hL9 => lv_lconst C.1 C.2.1 hdg hv (k9 H locs ls hP hD hS hL9)
theorem j_iload_n {g : JX} {κ : JK} {cc : ByteArray} {own : String} {rm : Room} {nL pc cells slots : Nat} {lv : List (Nat × Value)} {rest : List Value} {ws : va_W} (C : j_C g κ cc own rm nL) {k : Fin 4} {i : Nat} {x : Int32} (hdg : decode cc pc = .ok (.iload_n k, 1)) (hi : (k : Nat) = i) (j : Nat) (hj : lv[j]? = some (i, .int x)) (k9 : j_V g κ cells slots (pc + 1) lv (.int x :: rest) ws) : j_V g κ cells slots pc lv (rest) ws := by
  exact fun H locs ls hP hD hS hL9 => lv_iload_n C.1 C.2.1 hdg hi (lv_at hL9 j hj) (k9 H locs ls hP hD hS hL9)
theorem j_iload {g : JX} {κ : JK} {cc : ByteArray} {own : String} {rm : Room} {nL pc cells slots : Nat} {lv : List (Nat × Value)} {rest : List Value} {ws : va_W} (C : j_C g κ cc own rm nL) {i : Nat} {x : Int32} (hdg : decode cc pc = .ok (.iload i, 2)) (j : Nat) (hj : lv[j]? = some (i, .int x)) (k9 : j_V g κ cells slots (pc + 2) lv (.int x :: rest) ws) : j_V g κ cells slots pc lv (rest) ws := by
  exact fun H locs ls hP hD hS hL9 => lv_iload C.1 C.2.1 hdg (lv_at hL9 j hj) (k9 H locs ls hP hD hS hL9)
theorem j_lload_n {g : JX} {κ : JK} {cc : ByteArray} {own : String} {rm : Room} {nL pc cells slots : Nat} {lv : List (Nat × Value)} {rest : List Value} {ws : va_W} (C : j_C g κ cc own rm nL) {k : Fin 4} {i : Nat} {x : Int64} (hdg : decode cc pc = .ok (.lload_n k, 1)) (hi : (k : Nat) = i) (j : Nat) (hj : lv[j]? = some (i, .long x)) (k9 : j_V g κ cells slots (pc + 1) lv (.long x :: rest) ws) : j_V g κ cells slots pc lv (rest) ws := by
  exact fun H locs ls hP hD hS hL9 => lv_lload_n C.1 C.2.1 hdg hi (lv_at hL9 j hj) (k9 H locs ls hP hD hS hL9)
theorem j_lload {g : JX} {κ : JK} {cc : ByteArray} {own : String} {rm : Room} {nL pc cells slots : Nat} {lv : List (Nat × Value)} {rest : List Value} {ws : va_W} (C : j_C g κ cc own rm nL) {i : Nat} {x : Int64} (hdg : decode cc pc = .ok (.lload i, 2)) (j : Nat) (hj : lv[j]? = some (i, .long x)) (k9 : j_V g κ cells slots (pc + 2) lv (.long x :: rest) ws) : j_V g κ cells slots pc lv (rest) ws := by
  exact fun H locs ls hP hD hS hL9 => lv_lload C.1 C.2.1 hdg (lv_at hL9 j hj) (k9 H locs ls hP hD hS hL9)
theorem j_aload_n {g : JX} {κ : JK} {cc : ByteArray} {own : String} {rm : Room} {nL pc cells slots : Nat} {lv : List (Nat × Value)} {rest : List Value} {ws : va_W} (C : j_C g κ cc own rm nL) {k : Fin 4} {i : Nat} {x : Nat} (hdg : decode cc pc = .ok (.aload_n k, 1)) (hi : (k : Nat) = i) (j : Nat) (hj : lv[j]? = some (i, .ref x)) (k9 : j_V g κ cells slots (pc + 1) lv (.ref x :: rest) ws) : j_V g κ cells slots pc lv (rest) ws := by
  exact fun H locs ls hP hD hS hL9 => lv_aload_n C.1 C.2.1 hdg hi (lv_at hL9 j hj) (k9 H locs ls hP hD hS hL9)
theorem j_aload {g : JX} {κ : JK} {cc : ByteArray} {own : String} {rm : Room} {nL pc cells slots : Nat} {lv : List (Nat × Value)} {rest : List Value} {ws : va_W} (C : j_C g κ cc own rm nL) {i : Nat} {x : Nat} (hdg : decode cc pc = .ok (.aload i, 2)) (j : Nat) (hj : lv[j]? = some (i, .ref x)) (k9 : j_V g κ cells slots (pc + 2) lv (.ref x :: rest) ws) : j_V g κ cells slots pc lv (rest) ws := by
  exact fun H locs ls hP hD hS hL9 => lv_aload C.1 C.2.1 hdg (lv_at hL9 j hj) (k9 H locs ls hP hD hS hL9)
theorem j_istore_n {g : JX} {κ : JK} {cc : ByteArray} {own : String} {rm : Room} {nL pc cells slots : Nat} {lv : List (Nat × Value)} {lv' : List (Nat × Value)} {rest : List Value} {ws : va_W} (C : j_C g κ cc own rm nL) {k : Fin 4} {i : Nat} {x : Int32} (hdg : decode cc pc = .ok (.istore_n k, 1)) (hi : (k : Nat) = i) (hn : i < nL) (hl : (i, Value.int x) :: lv.filter (fun q => !(q.1 == i) && !(q.1 + 1 == i && q.2.category == 2)) = lv') (k9 : j_V g κ cells slots (pc + 1) lv' rest ws) : j_V g κ cells slots pc lv (.int x :: rest) ws := by
  obtain ⟨h1, h2, h3, h4, h5, h6, h7⟩ := id C
  subst h6
  exact fun H locs ls hP hD hS hL9 => lv_istore_n C.1 C.2.1 hdg hi hL9 hn hl (fun ls' h' => k9 H locs ls' hP hD hS h')
theorem j_istore {g : JX} {κ : JK} {cc : ByteArray} {own : String} {rm : Room} {nL pc cells slots : Nat} {lv : List (Nat × Value)} {lv' : List (Nat × Value)} {rest : List Value} {ws : va_W} (C : j_C g κ cc own rm nL) {i : Nat} {x : Int32} (hdg : decode cc pc = .ok (.istore i, 2)) (hn : i < nL) (hl : (i, Value.int x) :: lv.filter (fun q => !(q.1 == i) && !(q.1 + 1 == i && q.2.category == 2)) = lv') (k9 : j_V g κ cells slots (pc + 2) lv' rest ws) : j_V g κ cells slots pc lv (.int x :: rest) ws := by
  obtain ⟨h1, h2, h3, h4, h5, h6, h7⟩ := id C
  subst h6
  exact fun H locs ls hP hD hS hL9 => lv_istore C.1 C.2.1 hdg hL9 hn hl (fun ls' h' => k9 H locs ls' hP hD hS h')
theorem j_lstore_n {g : JX} {κ : JK} {cc : ByteArray} {own : String} {rm : Room} {nL pc cells slots : Nat} {lv : List (Nat × Value)} {lv' : List (Nat × Value)} {rest : List Value} {ws : va_W} (C : j_C g κ cc own rm nL) {k : Fin 4} {i : Nat} {x : Int64} (hdg : decode cc pc = .ok (.lstore_n k, 1)) (hi : (k : Nat) = i) (hn : i + 1 < nL) (hl : (i, Value.long x) :: lv.filter (fun q => !(q.1 == i) && (!(q.1 == i + 1) && !(q.1 + 1 == i && q.2.category == 2))) = lv') (k9 : j_V g κ cells slots (pc + 1) lv' rest ws) : j_V g κ cells slots pc lv (.long x :: rest) ws := by
  obtain ⟨h1, h2, h3, h4, h5, h6, h7⟩ := id C
  subst h6
  exact fun H locs ls hP hD hS hL9 => lv_lstore_n C.1 C.2.1 hdg hi hL9 hn hl (fun ls' h' => k9 H locs ls' hP hD hS h')
theorem j_lstore {g : JX} {κ : JK} {cc : ByteArray} {own : String} {rm : Room} {nL pc cells slots : Nat} {lv : List (Nat × Value)} {lv' : List (Nat × Value)} {rest : List Value} {ws : va_W} (C : j_C g κ cc own rm nL) {i : Nat} {x : Int64} (hdg : decode cc pc = .ok (.lstore i, 2)) (hn : i + 1 < nL) (hl : (i, Value.long x) :: lv.filter (fun q => !(q.1 == i) && (!(q.1 == i + 1) && !(q.1 + 1 == i && q.2.category == 2))) = lv') (k9 : j_V g κ cells slots (pc + 2) lv' rest ws) : j_V g κ cells slots pc lv (.long x :: rest) ws := by
  obtain ⟨h1, h2, h3, h4, h5, h6, h7⟩ := id C
  subst h6
  exact fun H locs ls hP hD hS hL9 => lv_lstore C.1 C.2.1 hdg hL9 hn hl (fun ls' h' => k9 H locs ls' hP hD hS h')
theorem j_astore_n {g : JX} {κ : JK} {cc : ByteArray} {own : String} {rm : Room} {nL pc cells slots : Nat} {lv : List (Nat × Value)} {lv' : List (Nat × Value)} {rest : List Value} {ws : va_W} (C : j_C g κ cc own rm nL) {k : Fin 4} {i : Nat} {x : Nat} (hdg : decode cc pc = .ok (.astore_n k, 1)) (hi : (k : Nat) = i) (hn : i < nL) (hl : (i, Value.ref x) :: lv.filter (fun q => !(q.1 == i) && !(q.1 + 1 == i && q.2.category == 2)) = lv') (k9 : j_V g κ cells slots (pc + 1) lv' rest ws) : j_V g κ cells slots pc lv (.ref x :: rest) ws := by
  obtain ⟨h1, h2, h3, h4, h5, h6, h7⟩ := id C
  subst h6
  exact fun H locs ls hP hD hS hL9 => lv_astore_n C.1 C.2.1 hdg hi hL9 hn hl (fun ls' h' => k9 H locs ls' hP hD hS h')
theorem j_astore {g : JX} {κ : JK} {cc : ByteArray} {own : String} {rm : Room} {nL pc cells slots : Nat} {lv : List (Nat × Value)} {lv' : List (Nat × Value)} {rest : List Value} {ws : va_W} (C : j_C g κ cc own rm nL) {i : Nat} {x : Nat} (hdg : decode cc pc = .ok (.astore i, 2)) (hn : i < nL) (hl : (i, Value.ref x) :: lv.filter (fun q => !(q.1 == i) && !(q.1 + 1 == i && q.2.category == 2)) = lv') (k9 : j_V g κ cells slots (pc + 2) lv' rest ws) : j_V g κ cells slots pc lv (.ref x :: rest) ws := by
  obtain ⟨h1, h2, h3, h4, h5, h6, h7⟩ := id C
  subst h6
  exact fun H locs ls hP hD hS hL9 => lv_astore C.1 C.2.1 hdg hL9 hn hl (fun ls' h' => k9 H locs ls' hP hD hS h')
theorem j_iinc {g : JX} {κ : JK} {cc : ByteArray} {own : String} {rm : Room} {nL pc cells slots : Nat} {lv : List (Nat × Value)} {lv' : List (Nat × Value)} {rest : List Value} {ws : va_W} (C : j_C g κ cc own rm nL) {i k : Nat} {n : Int} {x v : Int32} (hdg : decode cc pc = .ok (.iinc i n, 3)) (hk : lv[k]? = some (i, .int x)) (hv : x + Int32.ofInt n = v) (hn : i < nL) (hl : (i, Value.int v) :: lv.filter (fun q => !(q.1 == i) && !(q.1 + 1 == i && q.2.category == 2)) = lv') (k9 : j_V g κ cells slots (pc + 3) lv' rest ws) : j_V g κ cells slots pc lv rest ws := by
  obtain ⟨h1, h2, h3, h4, h5, h6, h7⟩ := id C
  subst h6
  exact fun H locs ls hP hD hS hL9 => lv_iinc C.1 C.2.1 hdg hL9 hk hv hn hl (fun ls' h' => k9 H locs ls' hP hD hS h')
theorem j_iadd {g : JX} {κ : JK} {cc : ByteArray} {own : String} {rm : Room} {nL pc cells slots : Nat} {lv : List (Nat × Value)} {rest : List Value} {ws : va_W} (C : j_C g κ cc own rm nL) {x y : Int32} (hdg : decode cc pc = .ok (.iadd, 1)) (k9 : j_V g κ cells slots (pc + 1) lv (.int (x + y) :: rest) ws) : j_V g κ cells slots pc lv (.int y :: .int x :: rest) ws := by
  exact fun H locs ls hP hD hS hL9 => lv_iadd C.1 C.2.1 hdg (k9 H locs ls hP hD hS hL9)
theorem j_isub {g : JX} {κ : JK} {cc : ByteArray} {own : String} {rm : Room} {nL pc cells slots : Nat} {lv : List (Nat × Value)} {rest : List Value} {ws : va_W} (C : j_C g κ cc own rm nL) {x y : Int32} (hdg : decode cc pc = .ok (.isub, 1)) (k9 : j_V g κ cells slots (pc + 1) lv (.int (x - y) :: rest) ws) : j_V g κ cells slots pc lv (.int y :: .int x :: rest) ws := by
  exact fun H locs ls hP hD hS hL9 => lv_isub C.1 C.2.1 hdg (k9 H locs ls hP hD hS hL9)
theorem j_imul {g : JX} {κ : JK} {cc : ByteArray} {own : String} {rm : Room} {nL pc cells slots : Nat} {lv : List (Nat × Value)} {rest : List Value} {ws : va_W} (C : j_C g κ cc own rm nL) {x y : Int32} (hdg : decode cc pc = .ok (.imul, 1)) (k9 : j_V g κ cells slots (pc + 1) lv (.int (x * y) :: rest) ws) : j_V g κ cells slots pc lv (.int y :: .int x :: rest) ws := by
  exact fun H locs ls hP hD hS hL9 => lv_imul C.1 C.2.1 hdg (k9 H locs ls hP hD hS hL9)
theorem j_iand {g : JX} {κ : JK} {cc : ByteArray} {own : String} {rm : Room} {nL pc cells slots : Nat} {lv : List (Nat × Value)} {rest : List Value} {ws : va_W} (C : j_C g κ cc own rm nL) {x y : Int32} (hdg : decode cc pc = .ok (.iand, 1)) (k9 : j_V g κ cells slots (pc + 1) lv (.int (x &&& y) :: rest) ws) : j_V g κ cells slots pc lv (.int y :: .int x :: rest) ws := by
  exact fun H locs ls hP hD hS hL9 => lv_iand C.1 C.2.1 hdg (k9 H locs ls hP hD hS hL9)
theorem j_ior {g : JX} {κ : JK} {cc : ByteArray} {own : String} {rm : Room} {nL pc cells slots : Nat} {lv : List (Nat × Value)} {rest : List Value} {ws : va_W} (C : j_C g κ cc own rm nL) {x y : Int32} (hdg : decode cc pc = .ok (.ior, 1)) (k9 : j_V g κ cells slots (pc + 1) lv (.int (x ||| y) :: rest) ws) : j_V g κ cells slots pc lv (.int y :: .int x :: rest) ws := by
  exact fun H locs ls hP hD hS hL9 => lv_ior C.1 C.2.1 hdg (k9 H locs ls hP hD hS hL9)
theorem j_ixor {g : JX} {κ : JK} {cc : ByteArray} {own : String} {rm : Room} {nL pc cells slots : Nat} {lv : List (Nat × Value)} {rest : List Value} {ws : va_W} (C : j_C g κ cc own rm nL) {x y : Int32} (hdg : decode cc pc = .ok (.ixor, 1)) (k9 : j_V g κ cells slots (pc + 1) lv (.int (x ^^^ y) :: rest) ws) : j_V g κ cells slots pc lv (.int y :: .int x :: rest) ws := by
  exact fun H locs ls hP hD hS hL9 => lv_ixor C.1 C.2.1 hdg (k9 H locs ls hP hD hS hL9)
theorem j_idiv {g : JX} {κ : JK} {cc : ByteArray} {own : String} {rm : Room} {nL pc cells slots : Nat} {lv : List (Nat × Value)} {rest : List Value} {ws : va_W} (C : j_C g κ cc own rm nL) {x y : Int32} (hdg : decode cc pc = .ok (.idiv, 1)) (hne : ¬ y = 0) (k9 : j_V g κ cells slots (pc + 1) lv (.int (x / y) :: rest) ws) : j_V g κ cells slots pc lv (.int y :: .int x :: rest) ws := by
  exact fun H locs ls hP hD hS hL9 => lv_idiv C.1 C.2.1 hdg hne (k9 H locs ls hP hD hS hL9)
theorem j_irem {g : JX} {κ : JK} {cc : ByteArray} {own : String} {rm : Room} {nL pc cells slots : Nat} {lv : List (Nat × Value)} {rest : List Value} {ws : va_W} (C : j_C g κ cc own rm nL) {x y : Int32} (hdg : decode cc pc = .ok (.irem, 1)) (hne : ¬ y = 0) (k9 : j_V g κ cells slots (pc + 1) lv (.int (x - x / y * y) :: rest) ws) : j_V g κ cells slots pc lv (.int y :: .int x :: rest) ws := by
  exact fun H locs ls hP hD hS hL9 => lv_irem C.1 C.2.1 hdg hne (k9 H locs ls hP hD hS hL9)
theorem j_ineg {g : JX} {κ : JK} {cc : ByteArray} {own : String} {rm : Room} {nL pc cells slots : Nat} {lv : List (Nat × Value)} {rest : List Value} {ws : va_W} (C : j_C g κ cc own rm nL) {x : Int32} (hdg : decode cc pc = .ok (.ineg, 1)) (k9 : j_V g κ cells slots (pc + 1) lv (.int (-x) :: rest) ws) : j_V g κ cells slots pc lv (.int x :: rest) ws := by
  exact fun H locs ls hP hD hS hL9 => lv_ineg C.1 C.2.1 hdg (k9 H locs ls hP hD hS hL9)
theorem j_ladd {g : JX} {κ : JK} {cc : ByteArray} {own : String} {rm : Room} {nL pc cells slots : Nat} {lv : List (Nat × Value)} {rest : List Value} {ws : va_W} (C : j_C g κ cc own rm nL) {x y : Int64} (hdg : decode cc pc = .ok (.ladd, 1)) (k9 : j_V g κ cells slots (pc + 1) lv (.long (x + y) :: rest) ws) : j_V g κ cells slots pc lv (.long y :: .long x :: rest) ws := by
  exact fun H locs ls hP hD hS hL9 => lv_ladd C.1 C.2.1 hdg (k9 H locs ls hP hD hS hL9)
theorem j_lsub {g : JX} {κ : JK} {cc : ByteArray} {own : String} {rm : Room} {nL pc cells slots : Nat} {lv : List (Nat × Value)} {rest : List Value} {ws : va_W} (C : j_C g κ cc own rm nL) {x y : Int64} (hdg : decode cc pc = .ok (.lsub, 1)) (k9 : j_V g κ cells slots (pc + 1) lv (.long (x - y) :: rest) ws) : j_V g κ cells slots pc lv (.long y :: .long x :: rest) ws := by
  exact fun H locs ls hP hD hS hL9 => lv_lsub C.1 C.2.1 hdg (k9 H locs ls hP hD hS hL9)
theorem j_lmul {g : JX} {κ : JK} {cc : ByteArray} {own : String} {rm : Room} {nL pc cells slots : Nat} {lv : List (Nat × Value)} {rest : List Value} {ws : va_W} (C : j_C g κ cc own rm nL) {x y : Int64} (hdg : decode cc pc = .ok (.lmul, 1)) (k9 : j_V g κ cells slots (pc + 1) lv (.long (x * y) :: rest) ws) : j_V g κ cells slots pc lv (.long y :: .long x :: rest) ws := by
  exact fun H locs ls hP hD hS hL9 => lv_lmul C.1 C.2.1 hdg (k9 H locs ls hP hD hS hL9)
theorem j_land {g : JX} {κ : JK} {cc : ByteArray} {own : String} {rm : Room} {nL pc cells slots : Nat} {lv : List (Nat × Value)} {rest : List Value} {ws : va_W} (C : j_C g κ cc own rm nL) {x y : Int64} (hdg : decode cc pc = .ok (.land, 1)) (k9 : j_V g κ cells slots (pc + 1) lv (.long (x &&& y) :: rest) ws) : j_V g κ cells slots pc lv (.long y :: .long x :: rest) ws := by
  exact fun H locs ls hP hD hS hL9 => lv_land C.1 C.2.1 hdg (k9 H locs ls hP hD hS hL9)
theorem j_lor {g : JX} {κ : JK} {cc : ByteArray} {own : String} {rm : Room} {nL pc cells slots : Nat} {lv : List (Nat × Value)} {rest : List Value} {ws : va_W} (C : j_C g κ cc own rm nL) {x y : Int64} (hdg : decode cc pc = .ok (.lor, 1)) (k9 : j_V g κ cells slots (pc + 1) lv (.long (x ||| y) :: rest) ws) : j_V g κ cells slots pc lv (.long y :: .long x :: rest) ws := by
  exact fun H locs ls hP hD hS hL9 => lv_lor C.1 C.2.1 hdg (k9 H locs ls hP hD hS hL9)
theorem j_lxor {g : JX} {κ : JK} {cc : ByteArray} {own : String} {rm : Room} {nL pc cells slots : Nat} {lv : List (Nat × Value)} {rest : List Value} {ws : va_W} (C : j_C g κ cc own rm nL) {x y : Int64} (hdg : decode cc pc = .ok (.lxor, 1)) (k9 : j_V g κ cells slots (pc + 1) lv (.long (x ^^^ y) :: rest) ws) : j_V g κ cells slots pc lv (.long y :: .long x :: rest) ws := by
  exact fun H locs ls hP hD hS hL9 => lv_lxor C.1 C.2.1 hdg (k9 H locs ls hP hD hS hL9)
theorem j_ldiv {g : JX} {κ : JK} {cc : ByteArray} {own : String} {rm : Room} {nL pc cells slots : Nat} {lv : List (Nat × Value)} {rest : List Value} {ws : va_W} (C : j_C g κ cc own rm nL) {x y : Int64} (hdg : decode cc pc = .ok (.ldiv, 1)) (hne : ¬ y = 0) (k9 : j_V g κ cells slots (pc + 1) lv (.long (x / y) :: rest) ws) : j_V g κ cells slots pc lv (.long y :: .long x :: rest) ws := by
  exact fun H locs ls hP hD hS hL9 => lv_ldiv C.1 C.2.1 hdg hne (k9 H locs ls hP hD hS hL9)
theorem j_lrem {g : JX} {κ : JK} {cc : ByteArray} {own : String} {rm : Room} {nL pc cells slots : Nat} {lv : List (Nat × Value)} {rest : List Value} {ws : va_W} (C : j_C g κ cc own rm nL) {x y : Int64} (hdg : decode cc pc = .ok (.lrem, 1)) (hne : ¬ y = 0) (k9 : j_V g κ cells slots (pc + 1) lv (.long (x - x / y * y) :: rest) ws) : j_V g κ cells slots pc lv (.long y :: .long x :: rest) ws := by
  exact fun H locs ls hP hD hS hL9 => lv_lrem C.1 C.2.1 hdg hne (k9 H locs ls hP hD hS hL9)
theorem j_lneg {g : JX} {κ : JK} {cc : ByteArray} {own : String} {rm : Room} {nL pc cells slots : Nat} {lv : List (Nat × Value)} {rest : List Value} {ws : va_W} (C : j_C g κ cc own rm nL) {x : Int64} (hdg : decode cc pc = .ok (.lneg, 1)) (k9 : j_V g κ cells slots (pc + 1) lv (.long (-x) :: rest) ws) : j_V g κ cells slots pc lv (.long x :: rest) ws := by
  exact fun H locs ls hP hD hS hL9 => lv_lneg C.1 C.2.1 hdg (k9 H locs ls hP hD hS hL9)
theorem j_ishl {g : JX} {κ : JK} {cc : ByteArray} {own : String} {rm : Room} {nL pc cells slots : Nat} {lv : List (Nat × Value)} {rest : List Value} {ws : va_W} (C : j_C g κ cc own rm nL) {x y : Int32} (hdg : decode cc pc = .ok (.ishl, 1)) (k9 : j_V g κ cells slots (pc + 1) lv (.int (x <<< (y &&& 31)) :: rest) ws) : j_V g κ cells slots pc lv (.int y :: .int x :: rest) ws := by
  exact fun H locs ls hP hD hS hL9 => lv_ishl C.1 C.2.1 hdg (k9 H locs ls hP hD hS hL9)
theorem j_ishr {g : JX} {κ : JK} {cc : ByteArray} {own : String} {rm : Room} {nL pc cells slots : Nat} {lv : List (Nat × Value)} {rest : List Value} {ws : va_W} (C : j_C g κ cc own rm nL) {x y : Int32} (hdg : decode cc pc = .ok (.ishr, 1)) (k9 : j_V g κ cells slots (pc + 1) lv (.int (x >>> (y &&& 31)) :: rest) ws) : j_V g κ cells slots pc lv (.int y :: .int x :: rest) ws := by
  exact fun H locs ls hP hD hS hL9 => lv_ishr C.1 C.2.1 hdg (k9 H locs ls hP hD hS hL9)
theorem j_i2l {g : JX} {κ : JK} {cc : ByteArray} {own : String} {rm : Room} {nL pc cells slots : Nat} {lv : List (Nat × Value)} {rest : List Value} {ws : va_W} (C : j_C g κ cc own rm nL) {x : Int32} {v : Int64} (hdg : decode cc pc = .ok (.i2l, 1)) (hv : x.toInt64 = v) (k9 : j_V g κ cells slots (pc + 1) lv (.long v :: rest) ws) : j_V g κ cells slots pc lv (.int x :: rest) ws := by
  exact fun H locs ls hP hD hS hL9 => lv_i2l C.1 C.2.1 hdg hv (k9 H locs ls hP hD hS hL9)
theorem j_l2i {g : JX} {κ : JK} {cc : ByteArray} {own : String} {rm : Room} {nL pc cells slots : Nat} {lv : List (Nat × Value)} {rest : List Value} {ws : va_W} (C : j_C g κ cc own rm nL) {x : Int64} {v : Int32} (hdg : decode cc pc = .ok (.l2i, 1)) (hv : x.toInt32 = v) (k9 : j_V g κ cells slots (pc + 1) lv (.int v :: rest) ws) : j_V g κ cells slots pc lv (.long x :: rest) ws := by
  exact fun H locs ls hP hD hS hL9 => lv_l2i C.1 C.2.1 hdg hv (k9 H locs ls hP hD hS hL9)
theorem j_i2b {g : JX} {κ : JK} {cc : ByteArray} {own : String} {rm : Room} {nL pc cells slots : Nat} {lv : List (Nat × Value)} {rest : List Value} {ws : va_W} (C : j_C g κ cc own rm nL) {x : Int32} {v : Int32} (hdg : decode cc pc = .ok (.i2b, 1)) (hv : x.toInt8.toInt32 = v) (k9 : j_V g κ cells slots (pc + 1) lv (.int v :: rest) ws) : j_V g κ cells slots pc lv (.int x :: rest) ws := by
  exact fun H locs ls hP hD hS hL9 => lv_i2b C.1 C.2.1 hdg hv (k9 H locs ls hP hD hS hL9)
theorem j_i2s {g : JX} {κ : JK} {cc : ByteArray} {own : String} {rm : Room} {nL pc cells slots : Nat} {lv : List (Nat × Value)} {rest : List Value} {ws : va_W} (C : j_C g κ cc own rm nL) {x : Int32} {v : Int32} (hdg : decode cc pc = .ok (.i2s, 1)) (hv : x.toInt16.toInt32 = v) (k9 : j_V g κ cells slots (pc + 1) lv (.int v :: rest) ws) : j_V g κ cells slots pc lv (.int x :: rest) ws := by
  exact fun H locs ls hP hD hS hL9 => lv_i2s C.1 C.2.1 hdg hv (k9 H locs ls hP hD hS hL9)
theorem j_i2c {g : JX} {κ : JK} {cc : ByteArray} {own : String} {rm : Room} {nL pc cells slots : Nat} {lv : List (Nat × Value)} {rest : List Value} {ws : va_W} (C : j_C g κ cc own rm nL) {x : Int32} {v : Int32} (hdg : decode cc pc = .ok (.i2c, 1)) (hv : (x.toUInt32 % 65536).toInt32 = v) (k9 : j_V g κ cells slots (pc + 1) lv (.int v :: rest) ws) : j_V g κ cells slots pc lv (.int x :: rest) ws := by
  exact fun H locs ls hP hD hS hL9 => lv_i2c C.1 C.2.1 hdg hv (k9 H locs ls hP hD hS hL9)
theorem j_iushr {g : JX} {κ : JK} {cc : ByteArray} {own : String} {rm : Room} {nL pc cells slots : Nat} {lv : List (Nat × Value)} {rest : List Value} {ws : va_W} (C : j_C g κ cc own rm nL) {x y v : Int32} (hdg : decode cc pc = .ok (.iushr, 1)) (hv : (x.toUInt32 >>> (y.toUInt32 &&& Int32.toUInt32 31)).toInt32 = v) (k9 : j_V g κ cells slots (pc + 1) lv (.int v :: rest) ws) : j_V g κ cells slots pc lv (.int y :: .int x :: rest) ws := by
  exact fun H locs ls hP hD hS hL9 => lv_iushr C.1 C.2.1 hdg hv (k9 H locs ls hP hD hS hL9)
theorem j_lushr {g : JX} {κ : JK} {cc : ByteArray} {own : String} {rm : Room} {nL pc cells slots : Nat} {lv : List (Nat × Value)} {rest : List Value} {ws : va_W} (C : j_C g κ cc own rm nL) {x v : Int64} {y : Int32} (hdg : decode cc pc = .ok (.lushr, 1)) (hv : (x.toUInt64 >>> (y.toInt64.toUInt64 &&& Int64.toUInt64 63)).toInt64 = v) (k9 : j_V g κ cells slots (pc + 1) lv (.long v :: rest) ws) : j_V g κ cells slots pc lv (.int y :: .long x :: rest) ws := by
  exact fun H locs ls hP hD hS hL9 => lv_lushr C.1 C.2.1 hdg hv (k9 H locs ls hP hD hS hL9)
theorem j_lshl {g : JX} {κ : JK} {cc : ByteArray} {own : String} {rm : Room} {nL pc cells slots : Nat} {lv : List (Nat × Value)} {rest : List Value} {ws : va_W} (C : j_C g κ cc own rm nL) {x v : Int64} {y : Int32} (hdg : decode cc pc = .ok (.lshl, 1)) (hv : x <<< (y.toInt64 &&& 63) = v) (k9 : j_V g κ cells slots (pc + 1) lv (.long v :: rest) ws) : j_V g κ cells slots pc lv (.int y :: .long x :: rest) ws := by
  exact fun H locs ls hP hD hS hL9 => lv_lshl C.1 C.2.1 hdg hv (k9 H locs ls hP hD hS hL9)
theorem j_lshr {g : JX} {κ : JK} {cc : ByteArray} {own : String} {rm : Room} {nL pc cells slots : Nat} {lv : List (Nat × Value)} {rest : List Value} {ws : va_W} (C : j_C g κ cc own rm nL) {x v : Int64} {y : Int32} (hdg : decode cc pc = .ok (.lshr, 1)) (hv : x >>> (y.toInt64 &&& 63) = v) (k9 : j_V g κ cells slots (pc + 1) lv (.long v :: rest) ws) : j_V g κ cells slots pc lv (.int y :: .long x :: rest) ws := by
  exact fun H locs ls hP hD hS hL9 => lv_lshr C.1 C.2.1 hdg hv (k9 H locs ls hP hD hS hL9)
theorem j_dup {g : JX} {κ : JK} {cc : ByteArray} {own : String} {rm : Room} {nL pc cells slots : Nat} {lv : List (Nat × Value)} {rest : List Value} {ws : va_W} (C : j_C g κ cc own rm nL) {va : Value} (hdg : decode cc pc = .ok (.dup, 1)) (hva : va.category = 1) (k9 : j_V g κ cells slots (pc + 1) lv (va :: va :: rest) ws) : j_V g κ cells slots pc lv (va :: rest) ws := by
  exact fun H locs ls hP hD hS hL9 => lv_dup C.1 C.2.1 hdg hva (k9 H locs ls hP hD hS hL9)
theorem j_pop {g : JX} {κ : JK} {cc : ByteArray} {own : String} {rm : Room} {nL pc cells slots : Nat} {lv : List (Nat × Value)} {rest : List Value} {ws : va_W} (C : j_C g κ cc own rm nL) {va : Value} (hdg : decode cc pc = .ok (.pop, 1)) (hva : va.category = 1) (k9 : j_V g κ cells slots (pc + 1) lv (rest) ws) : j_V g κ cells slots pc lv (va :: rest) ws := by
  exact fun H locs ls hP hD hS hL9 => lv_pop C.1 C.2.1 hdg hva (k9 H locs ls hP hD hS hL9)
theorem j_dup_x1 {g : JX} {κ : JK} {cc : ByteArray} {own : String} {rm : Room} {nL pc cells slots : Nat} {lv : List (Nat × Value)} {rest : List Value} {ws : va_W} (C : j_C g κ cc own rm nL) {va vb : Value} (hdg : decode cc pc = .ok (.dup_x1, 1)) (hva : va.category = 1) (hvb : vb.category = 1) (k9 : j_V g κ cells slots (pc + 1) lv (va :: vb :: va :: rest) ws) : j_V g κ cells slots pc lv (va :: vb :: rest) ws := by
  exact fun H locs ls hP hD hS hL9 => lv_dup_x1 C.1 C.2.1 hdg hva hvb (k9 H locs ls hP hD hS hL9)
theorem j_dup_x2 {g : JX} {κ : JK} {cc : ByteArray} {own : String} {rm : Room} {nL pc cells slots : Nat} {lv : List (Nat × Value)} {rest : List Value} {ws : va_W} (C : j_C g κ cc own rm nL) {va vb vd : Value} (hdg : decode cc pc = .ok (.dup_x2, 1)) (hva : va.category = 1) (hvb : vb.category = 1) (hvd : vd.category = 1) (k9 : j_V g κ cells slots (pc + 1) lv (va :: vb :: vd :: va :: rest) ws) : j_V g κ cells slots pc lv (va :: vb :: vd :: rest) ws := by
  exact fun H locs ls hP hD hS hL9 => lv_dup_x2 C.1 C.2.1 hdg hva hvb hvd (k9 H locs ls hP hD hS hL9)
theorem j_dup2_11 {g : JX} {κ : JK} {cc : ByteArray} {own : String} {rm : Room} {nL pc cells slots : Nat} {lv : List (Nat × Value)} {rest : List Value} {ws : va_W} (C : j_C g κ cc own rm nL) {va vb : Value} (hdg : decode cc pc = .ok (.dup2, 1)) (hva : va.category = 1) (hvb : vb.category = 1) (k9 : j_V g κ cells slots (pc + 1) lv (va :: vb :: va :: vb :: rest) ws) : j_V g κ cells slots pc lv (va :: vb :: rest) ws := by
  exact fun H locs ls hP hD hS hL9 => lv_dup2_11 C.1 C.2.1 hdg hva hvb (k9 H locs ls hP hD hS hL9)
theorem j_dup2_2 {g : JX} {κ : JK} {cc : ByteArray} {own : String} {rm : Room} {nL pc cells slots : Nat} {lv : List (Nat × Value)} {rest : List Value} {ws : va_W} (C : j_C g κ cc own rm nL) {va : Value} (hdg : decode cc pc = .ok (.dup2, 1)) (hva : va.category = 2) (k9 : j_V g κ cells slots (pc + 1) lv (va :: va :: rest) ws) : j_V g κ cells slots pc lv (va :: rest) ws := by
  exact fun H locs ls hP hD hS hL9 => lv_dup2_2 C.1 C.2.1 hdg hva (k9 H locs ls hP hD hS hL9)
theorem j_pop2_2 {g : JX} {κ : JK} {cc : ByteArray} {own : String} {rm : Room} {nL pc cells slots : Nat} {lv : List (Nat × Value)} {rest : List Value} {ws : va_W} (C : j_C g κ cc own rm nL) {va : Value} (hdg : decode cc pc = .ok (.pop2, 1)) (hva : va.category = 2) (k9 : j_V g κ cells slots (pc + 1) lv (rest) ws) : j_V g κ cells slots pc lv (va :: rest) ws := by
  exact fun H locs ls hP hD hS hL9 => lv_pop2_2 C.1 C.2.1 hdg hva (k9 H locs ls hP hD hS hL9)
theorem j_pop2_11 {g : JX} {κ : JK} {cc : ByteArray} {own : String} {rm : Room} {nL pc cells slots : Nat} {lv : List (Nat × Value)} {rest : List Value} {ws : va_W} (C : j_C g κ cc own rm nL) {va vb : Value} (hdg : decode cc pc = .ok (.pop2, 1)) (hva : va.category = 1) (hvb : vb.category = 1) (k9 : j_V g κ cells slots (pc + 1) lv (rest) ws) : j_V g κ cells slots pc lv (va :: vb :: rest) ws := by
  exact fun H locs ls hP hD hS hL9 => lv_pop2_11 C.1 C.2.1 hdg hva hvb (k9 H locs ls hP hD hS hL9)
theorem j_if_eq {g : JX} {κ : JK} {cc : ByteArray} {own : String} {rm : Room} {nL pc cells slots : Nat} {lv : List (Nat × Value)} {rest : List Value} {ws : va_W} (C : j_C g κ cc own rm nL) {x : Int32} {off : Int} {tgt : Nat} (hdg : decode cc pc = .ok (.ifCond .eq off, 3)) (ht : (pc : Int) + off = (tgt : Int)) (kt : x = 0 → j_V g κ cells slots tgt lv rest ws) (kf : ¬ x = 0 → j_V g κ cells slots (pc + 3) lv rest ws) : j_V g κ cells slots pc lv (.int x :: rest) ws := by
  exact fun H locs ls hP hD hS hL9 => lv_if_eq C.1 C.2.1 hdg ht (fun h9 => kt h9 H locs ls hP hD hS hL9) (fun h9 => kf h9 H locs ls hP hD hS hL9)
theorem j_if_ne {g : JX} {κ : JK} {cc : ByteArray} {own : String} {rm : Room} {nL pc cells slots : Nat} {lv : List (Nat × Value)} {rest : List Value} {ws : va_W} (C : j_C g κ cc own rm nL) {x : Int32} {off : Int} {tgt : Nat} (hdg : decode cc pc = .ok (.ifCond .ne off, 3)) (ht : (pc : Int) + off = (tgt : Int)) (kt : ¬ x = 0 → j_V g κ cells slots tgt lv rest ws) (kf : x = 0 → j_V g κ cells slots (pc + 3) lv rest ws) : j_V g κ cells slots pc lv (.int x :: rest) ws := by
  exact fun H locs ls hP hD hS hL9 => lv_if_ne C.1 C.2.1 hdg ht (fun h9 => kt h9 H locs ls hP hD hS hL9) (fun h9 => kf h9 H locs ls hP hD hS hL9)
theorem j_if_lt {g : JX} {κ : JK} {cc : ByteArray} {own : String} {rm : Room} {nL pc cells slots : Nat} {lv : List (Nat × Value)} {rest : List Value} {ws : va_W} (C : j_C g κ cc own rm nL) {x : Int32} {off : Int} {tgt : Nat} (hdg : decode cc pc = .ok (.ifCond .lt off, 3)) (ht : (pc : Int) + off = (tgt : Int)) (kt : x < 0 → j_V g κ cells slots tgt lv rest ws) (kf : ¬ x < 0 → j_V g κ cells slots (pc + 3) lv rest ws) : j_V g κ cells slots pc lv (.int x :: rest) ws := by
  exact fun H locs ls hP hD hS hL9 => lv_if_lt C.1 C.2.1 hdg ht (fun h9 => kt h9 H locs ls hP hD hS hL9) (fun h9 => kf h9 H locs ls hP hD hS hL9)
theorem j_if_ge {g : JX} {κ : JK} {cc : ByteArray} {own : String} {rm : Room} {nL pc cells slots : Nat} {lv : List (Nat × Value)} {rest : List Value} {ws : va_W} (C : j_C g κ cc own rm nL) {x : Int32} {off : Int} {tgt : Nat} (hdg : decode cc pc = .ok (.ifCond .ge off, 3)) (ht : (pc : Int) + off = (tgt : Int)) (kt : 0 ≤ x → j_V g κ cells slots tgt lv rest ws) (kf : ¬ 0 ≤ x → j_V g κ cells slots (pc + 3) lv rest ws) : j_V g κ cells slots pc lv (.int x :: rest) ws := by
  exact fun H locs ls hP hD hS hL9 => lv_if_ge C.1 C.2.1 hdg ht (fun h9 => kt h9 H locs ls hP hD hS hL9) (fun h9 => kf h9 H locs ls hP hD hS hL9)
theorem j_if_gt {g : JX} {κ : JK} {cc : ByteArray} {own : String} {rm : Room} {nL pc cells slots : Nat} {lv : List (Nat × Value)} {rest : List Value} {ws : va_W} (C : j_C g κ cc own rm nL) {x : Int32} {off : Int} {tgt : Nat} (hdg : decode cc pc = .ok (.ifCond .gt off, 3)) (ht : (pc : Int) + off = (tgt : Int)) (kt : 0 < x → j_V g κ cells slots tgt lv rest ws) (kf : ¬ 0 < x → j_V g κ cells slots (pc + 3) lv rest ws) : j_V g κ cells slots pc lv (.int x :: rest) ws := by
  exact fun H locs ls hP hD hS hL9 => lv_if_gt C.1 C.2.1 hdg ht (fun h9 => kt h9 H locs ls hP hD hS hL9) (fun h9 => kf h9 H locs ls hP hD hS hL9)
theorem j_if_le {g : JX} {κ : JK} {cc : ByteArray} {own : String} {rm : Room} {nL pc cells slots : Nat} {lv : List (Nat × Value)} {rest : List Value} {ws : va_W} (C : j_C g κ cc own rm nL) {x : Int32} {off : Int} {tgt : Nat} (hdg : decode cc pc = .ok (.ifCond .le off, 3)) (ht : (pc : Int) + off = (tgt : Int)) (kt : x ≤ 0 → j_V g κ cells slots tgt lv rest ws) (kf : ¬ x ≤ 0 → j_V g κ cells slots (pc + 3) lv rest ws) : j_V g κ cells slots pc lv (.int x :: rest) ws := by
  exact fun H locs ls hP hD hS hL9 => lv_if_le C.1 C.2.1 hdg ht (fun h9 => kt h9 H locs ls hP hD hS hL9) (fun h9 => kf h9 H locs ls hP hD hS hL9)
theorem j_icmp_eq {g : JX} {κ : JK} {cc : ByteArray} {own : String} {rm : Room} {nL pc cells slots : Nat} {lv : List (Nat × Value)} {rest : List Value} {ws : va_W} (C : j_C g κ cc own rm nL) {x y : Int32} {off : Int} {tgt : Nat} (hdg : decode cc pc = .ok (.if_icmp .eq off, 3)) (ht : (pc : Int) + off = (tgt : Int)) (kt : x = y → j_V g κ cells slots tgt lv rest ws) (kf : ¬ x = y → j_V g κ cells slots (pc + 3) lv rest ws) : j_V g κ cells slots pc lv (.int y :: .int x :: rest) ws := by
  exact fun H locs ls hP hD hS hL9 => lv_icmp_eq C.1 C.2.1 hdg ht (fun h9 => kt h9 H locs ls hP hD hS hL9) (fun h9 => kf h9 H locs ls hP hD hS hL9)
theorem j_icmp_ne {g : JX} {κ : JK} {cc : ByteArray} {own : String} {rm : Room} {nL pc cells slots : Nat} {lv : List (Nat × Value)} {rest : List Value} {ws : va_W} (C : j_C g κ cc own rm nL) {x y : Int32} {off : Int} {tgt : Nat} (hdg : decode cc pc = .ok (.if_icmp .ne off, 3)) (ht : (pc : Int) + off = (tgt : Int)) (kt : ¬ x = y → j_V g κ cells slots tgt lv rest ws) (kf : x = y → j_V g κ cells slots (pc + 3) lv rest ws) : j_V g κ cells slots pc lv (.int y :: .int x :: rest) ws := by
  exact fun H locs ls hP hD hS hL9 => lv_icmp_ne C.1 C.2.1 hdg ht (fun h9 => kt h9 H locs ls hP hD hS hL9) (fun h9 => kf h9 H locs ls hP hD hS hL9)
theorem j_icmp_lt {g : JX} {κ : JK} {cc : ByteArray} {own : String} {rm : Room} {nL pc cells slots : Nat} {lv : List (Nat × Value)} {rest : List Value} {ws : va_W} (C : j_C g κ cc own rm nL) {x y : Int32} {off : Int} {tgt : Nat} (hdg : decode cc pc = .ok (.if_icmp .lt off, 3)) (ht : (pc : Int) + off = (tgt : Int)) (kt : x < y → j_V g κ cells slots tgt lv rest ws) (kf : ¬ x < y → j_V g κ cells slots (pc + 3) lv rest ws) : j_V g κ cells slots pc lv (.int y :: .int x :: rest) ws := by
  exact fun H locs ls hP hD hS hL9 => lv_icmp_lt C.1 C.2.1 hdg ht (fun h9 => kt h9 H locs ls hP hD hS hL9) (fun h9 => kf h9 H locs ls hP hD hS hL9)
theorem j_icmp_ge {g : JX} {κ : JK} {cc : ByteArray} {own : String} {rm : Room} {nL pc cells slots : Nat} {lv : List (Nat × Value)} {rest : List Value} {ws : va_W} (C : j_C g κ cc own rm nL) {x y : Int32} {off : Int} {tgt : Nat} (hdg : decode cc pc = .ok (.if_icmp .ge off, 3)) (ht : (pc : Int) + off = (tgt : Int)) (kt : y ≤ x → j_V g κ cells slots tgt lv rest ws) (kf : ¬ y ≤ x → j_V g κ cells slots (pc + 3) lv rest ws) : j_V g κ cells slots pc lv (.int y :: .int x :: rest) ws := by
  exact fun H locs ls hP hD hS hL9 => lv_icmp_ge C.1 C.2.1 hdg ht (fun h9 => kt h9 H locs ls hP hD hS hL9) (fun h9 => kf h9 H locs ls hP hD hS hL9)
theorem j_icmp_gt {g : JX} {κ : JK} {cc : ByteArray} {own : String} {rm : Room} {nL pc cells slots : Nat} {lv : List (Nat × Value)} {rest : List Value} {ws : va_W} (C : j_C g κ cc own rm nL) {x y : Int32} {off : Int} {tgt : Nat} (hdg : decode cc pc = .ok (.if_icmp .gt off, 3)) (ht : (pc : Int) + off = (tgt : Int)) (kt : y < x → j_V g κ cells slots tgt lv rest ws) (kf : ¬ y < x → j_V g κ cells slots (pc + 3) lv rest ws) : j_V g κ cells slots pc lv (.int y :: .int x :: rest) ws := by
  exact fun H locs ls hP hD hS hL9 => lv_icmp_gt C.1 C.2.1 hdg ht (fun h9 => kt h9 H locs ls hP hD hS hL9) (fun h9 => kf h9 H locs ls hP hD hS hL9)
theorem j_icmp_le {g : JX} {κ : JK} {cc : ByteArray} {own : String} {rm : Room} {nL pc cells slots : Nat} {lv : List (Nat × Value)} {rest : List Value} {ws : va_W} (C : j_C g κ cc own rm nL) {x y : Int32} {off : Int} {tgt : Nat} (hdg : decode cc pc = .ok (.if_icmp .le off, 3)) (ht : (pc : Int) + off = (tgt : Int)) (kt : x ≤ y → j_V g κ cells slots tgt lv rest ws) (kf : ¬ x ≤ y → j_V g κ cells slots (pc + 3) lv rest ws) : j_V g κ cells slots pc lv (.int y :: .int x :: rest) ws := by
  exact fun H locs ls hP hD hS hL9 => lv_icmp_le C.1 C.2.1 hdg ht (fun h9 => kt h9 H locs ls hP hD hS hL9) (fun h9 => kf h9 H locs ls hP hD hS hL9)
theorem j_goto {g : JX} {κ : JK} {cc : ByteArray} {own : String} {rm : Room} {nL pc cells slots : Nat} {lv : List (Nat × Value)} {rest : List Value} {ws : va_W} (C : j_C g κ cc own rm nL) {off : Int} {tgt : Nat} (hdg : decode cc pc = .ok (.goto off, 3)) (ht : (pc : Int) + off = (tgt : Int)) (k9 : j_V g κ cells slots tgt lv rest ws) : j_V g κ cells slots pc lv rest ws := by
  exact fun H locs ls hP hD hS hL9 => lv_goto C.1 C.2.1 hdg ht (k9 H locs ls hP hD hS hL9)
theorem j_ldc {g : JX} {κ : JK} {cc : ByteArray} {own : String} {rm : Room} {nL pc cells slots : Nat} {lv : List (Nat × Value)} {rest : List Value} {ws : va_W} (C : j_C g κ cc own rm nL) {index : Nat} {v : Int32} (hm : Jvm.Cond.constant own index v ∈ TB) (hdg : decode cc pc = .ok (.ldc index, 2)) (k9 : j_V g κ cells slots (pc + 2) lv (.int v :: rest) ws) : j_V g κ cells slots pc lv rest ws := by
  exact fun H locs ls hP hD hS hL9 => lv_ldc C.1 C.2.1 C.2.2.1 (C.2.2.2.1 _ hm) hdg (k9 H locs ls hP hD hS hL9)
theorem j_ldc2 {g : JX} {κ : JK} {cc : ByteArray} {own : String} {rm : Room} {nL pc cells slots : Nat} {lv : List (Nat × Value)} {rest : List Value} {ws : va_W} (C : j_C g κ cc own rm nL) {index : Nat} {v : Int64} (hm : Jvm.Cond.constantLong own index v ∈ TB) (hdg : decode cc pc = .ok (.ldc2_w index, 3)) (k9 : j_V g κ cells slots (pc + 3) lv (.long v :: rest) ws) : j_V g κ cells slots pc lv rest ws := by
  exact fun H locs ls hP hD hS hL9 => lv_ldc2 C.1 C.2.1 C.2.2.1 (C.2.2.2.1 _ hm) hdg (k9 H locs ls hP hD hS hL9)
theorem j_ldcw {g : JX} {κ : JK} {cc : ByteArray} {own : String} {rm : Room} {nL pc cells slots : Nat} {lv : List (Nat × Value)} {rest : List Value} {ws : va_W} (C : j_C g κ cc own rm nL) {index : Nat} {v : Int32} (hm : Jvm.Cond.constant own index v ∈ TB) (hdg : decode cc pc = .ok (.ldc_w index, 3)) (k9 : j_V g κ cells slots (pc + 3) lv (.int v :: rest) ws) : j_V g κ cells slots pc lv rest ws := by
  exact fun H locs ls hP hD hS hL9 => lv_ldcw C.1 C.2.1 C.2.2.1 (C.2.2.2.1 _ hm) hdg (k9 H locs ls hP hD hS hL9)
theorem j_lookup {g : JX} {κ : JK} {cc : ByteArray} {own : String} {rm : Room} {nL pc cells slots : Nat} {lv : List (Nat × Value)} {rest : List Value} {ws : va_W} (C : j_C g κ cc own rm nL) {dflt : Int} {ps : Array (Int × Int)} {len : Nat} {x : Int32} {off : Int} {tgt : Nat} (hdg : decode cc pc = .ok (.lookupswitch dflt ps, len)) (hp : (ps.toList.zip (ps.toList.drop 1)).all (fun (a, next) => a.1 < next.1) = true) (ho : Op.lookupswitch.offset ps.toList dflt x.toInt = off) (ht : (pc : Int) + off = (tgt : Int)) (k9 : j_V g κ cells slots tgt lv rest ws) : j_V g κ cells slots pc lv (.int x :: rest) ws := by
  exact fun H locs ls hP hD hS hL9 => lv_lookup C.1 C.2.1 hdg hp ho ht (k9 H locs ls hP hD hS hL9)
theorem j_tableOut {g : JX} {κ : JK} {cc : ByteArray} {own : String} {rm : Room} {nL pc cells slots : Nat} {lv : List (Nat × Value)} {rest : List Value} {ws : va_W} (C : j_C g κ cc own rm nL) {dflt lo hi : Int} {offs : Array Int} {len : Nat} {x : Int32} {tgt : Nat} (hdg : decode cc pc = .ok (.tableswitch dflt lo hi offs, len)) (h : x.toInt < lo ∨ hi < x.toInt) (ht : (pc : Int) + dflt = (tgt : Int)) (k9 : j_V g κ cells slots tgt lv rest ws) : j_V g κ cells slots pc lv (.int x :: rest) ws := by
  exact fun H locs ls hP hD hS hL9 => lv_tableOut C.1 C.2.1 hdg h ht (k9 H locs ls hP hD hS hL9)
theorem j_tableIn {g : JX} {κ : JK} {cc : ByteArray} {own : String} {rm : Room} {nL pc cells slots : Nat} {lv : List (Nat × Value)} {rest : List Value} {ws : va_W} (C : j_C g κ cc own rm nL) {dflt lo hi : Int} {offs : Array Int} {len : Nat} {x : Int32} {off : Int} {tgt : Nat} (hdg : decode cc pc = .ok (.tableswitch dflt lo hi offs, len)) (h1 : ¬ x.toInt < lo) (h2 : ¬ hi < x.toInt) (ho : offs[(x.toInt - lo).toNat]? = some off) (ht : (pc : Int) + off = (tgt : Int)) (k9 : j_V g κ cells slots tgt lv rest ws) : j_V g κ cells slots pc lv (.int x :: rest) ws := by
  exact fun H locs ls hP hD hS hL9 => lv_tableIn C.1 C.2.1 hdg h1 h2 ho ht (k9 H locs ls hP hD hS hL9)
theorem j_null {g : JX} {κ : JK} {cc : ByteArray} {own : String} {rm : Room} {nL pc cells slots : Nat} {lv : List (Nat × Value)} {rest : List Value} {ws : va_W} (C : j_C g κ cc own rm nL) (hdg : decode cc pc = .ok (.aconst_null, 1)) (k9 : j_V g κ cells slots (pc + 1) lv (.null :: rest) ws) : j_V g κ cells slots pc lv rest ws := by
  exact fun H locs ls hP hD hS hL9 => lv_null C.1 C.2.1 hdg (k9 H locs ls hP hD hS hL9)

section JR
variable {g : JX} {κ : JK} {cc : ByteArray} {own : String} {rm : Room} {nL pc cells slots : Nat} {lv : List (Nat × Value)} {rest : List Value} {ws : va_W}
theorem j_eq {st st' : List Value} {ws' : va_W} {lv' : List (Nat × Value)} {pc' cells' slots' : Nat} (h1 : pc' = pc) (h2 : lv' = lv) (h3 : st' = st) (h4 : ws' = ws) (h5 : cells' = cells) (h6 : slots' = slots) (k : j_V g κ cells slots pc lv st ws) : j_V g κ cells' slots' pc' lv' st' ws' := by
  subst h1; subst h2; subst h3; subst h4; subst h5; subst h6; exact k
theorem j_topi {x : Int32} (k : ∀ y : Int32, y = x → j_V g κ cells slots pc lv (.int y :: rest) ws) : j_V g κ cells slots pc lv (.int x :: rest) ws := k x rfl
theorem j_topl {x : Int64} (k : ∀ y : Int64, y = x → j_V g κ cells slots pc lv (.long y :: rest) ws) : j_V g κ cells slots pc lv (.long x :: rest) ws := k x rfl
theorem j_rwi {x y : Int32} (h : x = y) (k : j_V g κ cells slots pc lv (.int y :: rest) ws) : j_V g κ cells slots pc lv (.int x :: rest) ws := by subst h; exact k
theorem j_rwl {x y : Int64} (h : x = y) (k : j_V g κ cells slots pc lv (.long y :: rest) ws) : j_V g κ cells slots pc lv (.long x :: rest) ws := by subst h; exact k
theorem j_sub {st : List Value} {ws' : va_W} (h : j_Sb ws ws') (k : j_V g κ cells slots pc lv st ws') : j_V g κ cells slots pc lv st ws := fun H locs ls hP hD hS hl => k H locs ls (h.P hP) (h.2 _ hD) hS hl
theorem j_lv {st : List Value} {lv' : List (Nat × Value)} (is : List Nat) (h : lv_pick lv is = lv') (k : j_V g κ cells slots pc lv' st ws) : j_V g κ cells slots pc lv st ws := fun H locs ls hP hD hS hl => k H locs ls hP hD hS (lv_sub hl is h)
theorem j_widen {st : List Value} {c2 s2 : Nat} (h1 : cells ≤ c2) (h2 : slots ≤ s2) (k : j_V g κ c2 s2 pc lv st ws) : j_V g κ cells slots pc lv st ws := fun H locs ls hP hD hS hl => W.widen h1 h2 (k H locs ls hP hD hS hl)
theorem j_lcmp (C : j_C g κ cc own rm nL) {x y : Int64} (hdg : decode cc pc = .ok (.lcmp, 1)) (k9 : j_V g κ cells slots (pc + 1) lv (.int (lg_cmp x y) :: rest) ws) : j_V g κ cells slots pc lv (.long y :: .long x :: rest) ws := fun H locs ls hP hD hS hl => W.lcmp C.1 C.2.1 hdg (k9 H locs ls hP hD hS hl)
/-- a field, as an instruction of the class 'own' names it: class number ci, field number k -/
def j_F (own : String) (index ci k : Nat) : Prop := ∃ (Cn : String) (T : u_T) (N : Nat), (∀ w ∈ u_ws Cn T N, w ∈ TB) ∧ vwCl[ci]? = some (Cn, T, N) ∧ k < N ∧ Cond.fieldLink own index (T k).1 (T k).2.1 (T k).2.2.1 ∈ TB
/-- ..and of which type it is, whether it is final -/
def j_Fp (own : String) (index ci k : Nat) (ty : FieldType) (fin : Bool) : Prop := ∃ (Cn : String) (T : u_T) (N : Nat) (t0 : Nat → FieldType), (∀ w ∈ u_ws Cn T N, w ∈ TB) ∧ vwCl[ci]? = some (Cn, T, N) ∧ k < N ∧ Cond.fieldLink own index (T k).1 (T k).2.1 (T k).2.2.1 ∈ TB ∧ (∀ k, k < N → parseFieldDescriptor (T k).2.2.1 = some (t0 k)) ∧ (∀ a, a < N → ∀ b, b < N → a ≠ b → (T a).2.1 ≠ (T b).2.1) ∧ (T k).2.2.2 = fin ∧ parseFieldDescriptor (T k).2.2.1 = some ty ∧ (fin = true → (T k).1 = own)
theorem j_get (C : j_C g κ cc own rm nL) {index ci k a : Nat} (hF : j_F own index ci k) (q0 : Nat) {fs : List Value} (he : ws[q0]? = some (a, .inr (ci, fs))) {v : Value} (hv : fs[k]? = some v) (hdg : decode cc pc = .ok (.getfield index, 3))
    (k9 : j_V g κ cells slots (pc + 3) lv (v :: rest) ws) : j_V g κ cells slots pc lv (.ref a :: rest) ws := by
  obtain ⟨Cn, T, N, h1, h2, h3, h4⟩ := hF
  exact fun H locs ls hP hD hS hl => va_get C.1 C.2.1 C.2.2.2.1 h1 C.2.2.1 C.2.2.2.2.2.2.2.2.1 hP q0 he h2 k h3 (C.2.2.2.1 _ h4) (fun _ h9 => h9) hv hdg (k9 H locs ls hP hD hS hl)
theorem j_getM (C : j_C g κ cc own rm nL) {index ci k a : Nat} (hF : j_F own index ci k) {fs : List Value} (he : (a, Sum.inr (ci, fs)) ∈ ws) {v : Value} (hv : fs[k]? = some v) (hdg : decode cc pc = .ok (.getfield index, 3))
    (k9 : j_V g κ cells slots (pc + 3) lv (v :: rest) ws) : j_V g κ cells slots pc lv (.ref a :: rest) ws := by
  obtain ⟨q0, h⟩ := j_mem he
  exact j_get C hF q0 h hv hdg k9
theorem j_put (C : j_C g κ cc own rm nL) {index ci k a : Nat} {ty : FieldType} (hF : j_Fp own index ci k ty false) (q0 : Nat) {fs : List Value} (he : ws[q0]? = some (a, .inr (ci, fs))) {v : Value} (hn : narrow ty v = v) (hfit : fits ty v = true) (hl9 : k < fs.length) {ws' : va_W} (hw : ws.set q0 (a, .inr (ci, fs.set k v)) = ws') (hdg : decode cc pc = .ok (.putfield index, 3))
    (k9 : j_V g κ cells slots (pc + 3) lv rest ws') : j_V g κ cells slots pc lv (v :: .ref a :: rest) ws := by
  obtain ⟨Cn, T, N, t0, h1, h2, h3, h4, h5, h6, h7, h8, -⟩ := hF
  subst hw
  exact fun H locs ls hP hD hS hl => va_put C.1 C.2.1 C.2.2.2.1 h1 t0 h5 h6 C.2.2.1 C.2.2.2.2.2.2.2.2.1 hP hD hS q0 he h2 k h3 (C.2.2.2.1 _ h4) (fun _ h9 => h9) h7 h8 hn hfit hl9 hdg (fun H1 locs1 a1 a2 a3 => k9 H1 locs1 ls a1 a2 a3 hl)
theorem j_putF (C : j_C g κ cc own rm nL) (hI : (kM κ).name = "<init>") {index ci k a : Nat} {ty : FieldType} (hF : j_Fp own index ci k ty true) (q0 : Nat) {fs : List Value} (he : ws[q0]? = some (a, .inr (ci, fs))) {v : Value} (hn : narrow ty v = v) (hfit : fits ty v = true) (hl9 : k < fs.length) {ws' : va_W} (hw : ws.set q0 (a, .inr (ci, fs.set k v)) = ws') (hdg : decode cc pc = .ok (.putfield index, 3))
    (k9 : j_V g κ cells slots (pc + 3) lv rest ws') : j_V g κ cells slots pc lv (v :: .ref a :: rest) ws := by
  obtain ⟨Cn, T, N, t0, h1, h2, h3, h4, h5, h6, h7, h8, h10⟩ := hF
  subst hw
  exact fun H locs ls hP hD hS hl => va_putF C.1 C.2.1 C.2.2.2.1 h1 t0 h5 h6 C.2.2.1 C.2.2.2.2.2.2.2.2.1 hP hD hS q0 he h2 k h3 (C.2.2.2.1 _ h4) (fun _ h9 => h9) h7 hI (h10 rfl) h8 hn hfit hl9 hdg (fun H1 locs1 a1 a2 a3 => k9 H1 locs1 ls a1 a2 a3 hl)
-- arrays
theorem j_bald (C : j_C g κ cc own rm nL) (q0 t0 : Nat) {a n : Nat} {cA : ClassId} {f : Nat → Int32} (ha : ws[q0]? = some (a, .inl (cA, n, .inl f))) (ht : (jT g)[t0]? = some (cA, .byte)) {i : Int32} (hin : vp_in i n) {x : Int32} (hv : f i.toNatClampNeg = x) (hdg : decode cc pc = .ok (.baload, 1)) (k9 : j_V g κ cells slots (pc + 1) lv (.int x :: rest) ws) : j_V g κ cells slots pc lv (.int i :: .ref a :: rest) ws := by
  subst hv
  exact fun H locs ls hP hD hS hl => va_bald C.1 C.2.1 C.2.2.2.2.2.2.2.2.1 hP q0 t0 ha ht hin hdg (k9 H locs ls hP hD hS hl)
theorem j_iald (C : j_C g κ cc own rm nL) (q0 t0 : Nat) {a n : Nat} {cA : ClassId} {f : Nat → Int32} (ha : ws[q0]? = some (a, .inl (cA, n, .inl f))) (ht : (jT g)[t0]? = some (cA, .int)) {i : Int32} (hin : vp_in i n) {x : Int32} (hv : f i.toNatClampNeg = x) (hdg : decode cc pc = .ok (.iaload, 1)) (k9 : j_V g κ cells slots (pc + 1) lv (.int x :: rest) ws) : j_V g κ cells slots pc lv (.int i :: .ref a :: rest) ws := by
  subst hv
  exact fun H locs ls hP hD hS hl => va_iald C.1 C.2.1 C.2.2.2.2.2.2.2.2.1 hP q0 t0 ha ht hin hdg (k9 H locs ls hP hD hS hl)
theorem j_ialdM (C : j_C g κ cc own rm nL) (t0 : Nat) {a n : Nat} {cA : ClassId} {f : Nat → Int32} (ha : (a, Sum.inl (cA, n, .inl f)) ∈ ws) (ht : (jT g)[t0]? = some (cA, .int)) {i : Int32} (hin : vp_in i n) {x : Int32} (hv : f i.toNatClampNeg = x) (hdg : decode cc pc = .ok (.iaload, 1)) (k9 : j_V g κ cells slots (pc + 1) lv (.int x :: rest) ws) : j_V g κ cells slots pc lv (.int i :: .ref a :: rest) ws := by
  obtain ⟨q0, h⟩ := j_mem ha
  exact j_iald C q0 t0 h ht hin hv hdg k9
theorem j_aald (C : j_C g κ cc own rm nL) (q0 t0 : Nat) {a n : Nat} {cA : ClassId} {Cn : String} {f : Nat → Option Nat} (ha : ws[q0]? = some (a, .inl (cA, n, .inr (.inr (.inr (.inr f)))))) (ht : (jT g)[t0]? = some (cA, .object Cn)) {i : Int32} (hin : vp_in i n) {v : Value} (hv : va_rf (f i.toNatClampNeg) = v) (hdg : decode cc pc = .ok (.aaload, 1)) (k9 : j_V g κ cells slots (pc + 1) lv (v :: rest) ws) : j_V g κ cells slots pc lv (.int i :: .ref a :: rest) ws := by
  subst hv
  exact fun H locs ls hP hD hS hl => va_aldq C.1 C.2.1 C.2.2.2.2.2.2.2.2.1 hP q0 t0 ha ht hin hdg (k9 H locs ls hP hD hS hl)
theorem j_alen (C : j_C g κ cc own rm nL) (q0 t0 : Nat) {a : Nat} {cA : ClassId} {x : vp_A} (ha : ws[q0]? = some (a, .inl (cA, x))) {ty : FieldType} (ht : (jT g)[t0]? = some (cA, ty)) {v : Int32} (hv : Int32.ofNat x.1 = v) (hdg : decode cc pc = .ok (.arraylength, 1)) (k9 : j_V g κ cells slots (pc + 1) lv (.int v :: rest) ws) : j_V g κ cells slots pc lv (.ref a :: rest) ws :=
  fun H locs ls hP hD hS hl => va_alen C.1 C.2.1 C.2.2.2.2.2.2.2.2.1 hP q0 t0 ha ht hv hdg (k9 H locs ls hP hD hS hl)
theorem j_bast (C : j_C g κ cc own rm nL) (q0 t0 : Nat) {a n : Nat} {cA : ClassId} {f : Nat → Int32} (ha : ws[q0]? = some (a, .inl (cA, n, .inl f))) (ht : (jT g)[t0]? = some (cA, .byte)) {i x : Int32} (hin : vp_in i n) {ws' : va_W} (hw : ws.set q0 (a, .inl (cA, n, .inl (upd f i.toNatClampNeg (vp_nar .byte x)))) = ws') (hdg : decode cc pc = .ok (.bastore, 1)) (k9 : j_V g κ cells slots (pc + 1) lv rest ws') : j_V g κ cells slots pc lv (.int x :: .int i :: .ref a :: rest) ws := by
  subst hw
  exact fun H locs ls hP hD hS hl => va_bast C.1 C.2.1 C.2.2.2.2.2.2.2.2.1 hP hD hS q0 t0 ha ht hin hdg (fun H1 locs1 a1 a2 a3 => k9 H1 locs1 ls a1 a2 a3 hl)
theorem j_iast (C : j_C g κ cc own rm nL) (q0 t0 : Nat) {a n : Nat} {cA : ClassId} {f : Nat → Int32} (ha : ws[q0]? = some (a, .inl (cA, n, .inl f))) (ht : (jT g)[t0]? = some (cA, .int)) {i x : Int32} (hin : vp_in i n) {ws' : va_W} (hw : ws.set q0 (a, .inl (cA, n, .inl (upd f i.toNatClampNeg x))) = ws') (hdg : decode cc pc = .ok (.iastore, 1)) (k9 : j_V g κ cells slots (pc + 1) lv rest ws') : j_V g κ cells slots pc lv (.int x :: .int i :: .ref a :: rest) ws := by
  subst hw
  exact fun H locs ls hP hD hS hl => va_iast C.1 C.2.1 C.2.2.2.2.2.2.2.2.1 hP hD hS q0 t0 ha ht hin hdg (fun H1 locs1 a1 a2 a3 => k9 H1 locs1 ls a1 a2 a3 hl)
theorem j_aast (C : j_C g κ cc own rm nL) (q0 t0 qk ci : Nat) {a n v : Nat} {cA : ClassId} {r : vw_C} {vs : List Value} {f : Nat → Option Nat} (ha : ws[q0]? = some (a, .inl (cA, n, .inr (.inr (.inr (.inr f)))))) (ht : (jT g)[t0]? = some (cA, .object r.1)) (hv : ws[qk]? = some (v, .inr (ci, vs))) (hc : vwCl[ci]? = some r) {i : Int32} (hin : vp_in i n) {ws' : va_W} (hw : ws.set q0 (a, .inl (cA, n, .inr (.inr (.inr (.inr (va_up f i.toNatClampNeg (some v))))))) = ws') (hdg : decode cc pc = .ok (.aastore, 1)) (k9 : j_V g κ cells slots (pc + 1) lv rest ws') : j_V g κ cells slots pc lv (.ref v :: .int i :: .ref a :: rest) ws := by
  subst hw
  exact fun H locs ls hP hD hS hl => va_astq C.1 C.2.1 C.2.2.2.2.2.2.2.2.1 hP hD hS q0 t0 qk ci ha ht hv hc hin hdg (fun H1 locs1 a1 a2 a3 => k9 H1 locs1 ls a1 a2 a3 hl)
/-- a new array of numbers: its class is the one that g names -/
theorem j_newa (C : j_C g κ cc own rm nL) {atype : ArrayType} (hm : Cond.arrayClass (newarray.typeOf atype) ∈ TB) {ty : FieldType} (hty : newarray.typeOf atype = ty) (hob : ∀ c : String, ty ≠ .object c) (t0 : Nat) {cA : ClassId} (ht : (jT g)[t0]? = some (cA, ty)) {n : Int32} {N' : Nat} {a0 : vp_A} (ha : ∀ cA : ClassId, vp_cell cA a0 = arrV cA N' (fun _ => defaultValue ty)) (hn : ¬ n < 0) (hN : n.toNatClampNeg = N') (hbytes : N' * componentBytes ty ≤ 536870912) (hc : cells + 1 ≤ rm.cells) (hs : slots + N' ≤ rm.slots) (hdg : decode cc pc = .ok (.newarray atype, 2))
    (k9 : ∀ q : Nat, j_V g κ (cells + 1) (slots + N') (pc + 2) lv (.ref q :: rest) (ws ++ [(q, .inl (cA, a0))])) : j_V g κ cells slots pc lv (.int n :: rest) ws := by
  obtain ⟨hx, hb, hown, hts, hml, hn0, hR, hA, hG⟩ := id C
  subst hR
  intro H locs ls hP hD hS hl
  refine va_newa hx hb (hts _ hm) hty hG.1 hP hD hS hA ha hn hN hbytes hc hs hdg (fun q cA' H1 hK' hP' hD' hS' => ?_)
  have e1 := (hG.1.2 t0 _ ht).2
  have e2 := (hK'.2 (jT g).length (cA', ty) (by simp)).2
  have e3 : cA' = cA := by
    cases ty <;> first | exact absurd rfl (hob _) | exact Option.some.inj (Eq.trans (Eq.symm e2) e1)
  subst e3
  exact k9 q H1 locs ls hP' hD' hS' hl
theorem j_newq (C : j_C g κ cc own rm nL) {index : Nat} {Cn : String} (hm : Cond.classLink own index Cn ∈ TB) (hover : va_AO Cn (ks κ)) (t0 : Nat) {cA : ClassId} (ht : (jT g)[t0]? = some (cA, .object Cn)) {n : Int32} {N' : Nat} (hn : ¬ n < 0) (hN : n.toNatClampNeg = N') (hbytes : N' * 4 ≤ 536870912) (hc : cells + 1 ≤ rm.cells) (hs : slots + N' ≤ rm.slots) (hdg : decode cc pc = .ok (.anewarray index, 3))
    (k9 : ∀ q : Nat, j_V g κ (cells + 1) (slots + N') (pc + 3) lv (.ref q :: rest) (ws ++ [(q, .inl (cA, N', .inr (.inr (.inr (.inr (fun _ => none))))))])) : j_V g κ cells slots pc lv (.int n :: rest) ws := by
  obtain ⟨hx, hb, hown, hts, hml, hn0, hR, hA, hG⟩ := id C
  subst hR
  intro H locs ls hP hD hS hl
  refine va_newq hx hb hown (hts _ hm) hover hG.1 hP hD hS hA hn hN hbytes hc hs hdg (fun q cA' H1 hK' hP' hD' hS' => ?_)
  have e1 := (hG.1.2 t0 _ ht).2
  have e2 := (hK'.2 (jT g).length (cA', .object Cn) (by simp)).2
  obtain ⟨_, _, _, _, _, e1⟩ := e1
  obtain ⟨_, _, _, _, _, e2⟩ := e2
  have e3 : cA' = cA := Option.some.inj (Eq.trans (Eq.symm e2) e1)
  subst e3
  exact k9 q H1 locs ls hP' hD' hS' hl
/-- a class of which objects are made -/
def j_N (own : String) (index ci N : Nat) (fs : List Value) : Prop := ∃ (Cn : String) (T : u_T) (t0 : Nat → FieldType), (∀ w ∈ u_ws Cn T N, w ∈ TB) ∧ vwCl[ci]? = some (Cn, T, N) ∧ (∀ k, k < N → parseFieldDescriptor (T k).2.2.1 = some (t0 k)) ∧ Cond.classLink own index Cn ∈ TB ∧ Cond.instantiable Cn N ∈ TB ∧ Cond.initialized Cn ∈ TB ∧ ∀ j, j < N → defaultValue (t0 j) = vp_V fs j
theorem j_new (C : j_C g κ cc own rm nL) {index ci N : Nat} {fs : List Value} (hN : j_N own index ci N fs) (hc : cells + 1 ≤ rm.cells) (hs : slots + N ≤ rm.slots) (hdg : decode cc pc = .ok (.new index, 3))
    (k9 : ∀ q : Nat, j_V g κ (cells + 1) (slots + N) (pc + 3) lv (.ref q :: rest) (ws ++ [(q, .inr (ci, fs))])) : j_V g κ cells slots pc lv rest ws := by
  obtain ⟨Cn, T, t0, h1, h2, h3, h4, h5, h6, h7⟩ := hN
  obtain ⟨hx, hb, hown, hts, hml, hn0, hR, hA, hG⟩ := id C
  subst hR
  exact fun H locs ls hP hD hS hl => va_new hx hb hts h1 t0 h3 hown (hts _ h4) (hts _ h5) (hts _ h6) hG.1 hP hD hS hA h2 h7 hc hs hdg (fun q H1 a1 a2 a3 => k9 q H1 locs ls a1 a2 a3 hl)
theorem j_objInit (C : j_C g κ cc own rm nL) {index a : Nat} (hm : Cond.methodLink own index objectInit ∈ TB) (h1 : Cond.instanceMethod objectInit ∈ TB) (h2 : Cond.code objectInit ⟨#[0xb1]⟩ 1 none ∈ TB) (hf : 1 ≤ rm.frames) (hl9 : (rest.map fun v => v.category).sum + 12 ≤ rm.locals) (hdg : decode cc pc = .ok (.invokespecial index, 3))
    (k9 : j_V g κ cells slots (pc + 3) lv rest ws) : j_V g κ cells slots pc lv (.ref a :: rest) ws := by
  obtain ⟨hx, hb, hown, hts, hml, hn0, hR, hA, hG⟩ := id C
  subst hR
  intro H locs ls hP hD hS hl
  refine W.objInit hx hb hown (hts _ hm) (hts _ h1) (hts _ h2) rfl (by rw [hml, ← hn0]; exact hl.1) rfl hdg hf (by show 2 * 0 + _ + 12 ≤ _; omega) ?_
  exact W.eq (g2 := F0 (km κ) (pc + 3) ls rest) rfl (k9 H locs ls hP hD hS hl)
-- the tables
theorem j_tald (C : j_C g κ cc own rm nL) {t N : Nat} {f : Nat → Value} (hT : va_T .int t N f (kA κ) (ks κ) (ks κ).heap) {i : Int32} (hin : vp_in i N) {v : Value} (hv : f i.toNatClampNeg = v) (hdg : decode cc pc = .ok (.iaload, 1)) (k9 : j_V g κ cells slots (pc + 1) lv (v :: rest) ws) : j_V g κ cells slots pc lv (.int i :: .ref t :: rest) ws :=
  fun H locs ls hP hD hS hl => va_ti C.1 C.2.1 hT hS hin hv hdg (k9 H locs ls hP hD hS hl)
theorem j_gets (C : j_C g κ cc own rm nL) {Cn n d : String} {v : Value} {index : Nat} (hZ : va_Z Cn n d v (kA κ) (ks κ) (ks κ).heap) (hm : Cond.fieldLink own index Cn n d ∈ TB) (hdg : decode cc pc = .ok (.getstatic index, 3)) (k9 : j_V g κ cells slots (pc + 3) lv (v :: rest) ws) : j_V g κ cells slots pc lv rest ws :=
  fun H locs ls hP hD hS hl => va_gets C.1 C.2.1 hZ hS C.2.2.1 (C.2.2.2.1 _ hm) (fun _ h => h) hdg (k9 H locs ls hP hD hS hl)
-- calls
/-- the words of a method that is called -/
def j_Y (y : MethodName) (bytes : ByteArray) (maxL : Nat) (ret : Option FieldType) (n : Nat) : Prop := Cond.code y bytes maxL ret ∈ TB ∧ Cond.initialized y.cls ∈ TB ∧ y.cls ≠ "java/lang/invoke/MethodHandle" ∧ y.cls ≠ "java/lang/invoke/VarHandle" ∧ (parseMethodDescriptor y.desc).map (fun d => d.parameters.length) = some n
theorem j_fit {rm' : Room} {mc ms maxL : Nat} (h : (decide (rm'.cells = mc) && decide (rm'.slots = ms) && decide (rm'.frames + 1 ≤ rm.frames) && decide (8 + (maxL + 11) + rm'.locals ≤ rm.locals)) = true) : rm'.cells = mc ∧ rm'.slots = ms ∧ rm'.frames + 1 ≤ rm.frames ∧ 8 + (maxL + 11) + rm'.locals ≤ rm.locals := by
  simp only [Bool.and_eq_true, decide_eq_true_eq] at h
  exact ⟨h.1.1.1, h.1.1.2, h.1.2, h.2⟩
/-- behind a call, whichever it was -/
theorem j_after {wc wr w0 : va_W} {O : Option Value → va_W → Prop} {mc ms : Nat} {st : List Value} {av : Array Value} {H : Heap} {locs : List Loc} {ls : Array Slot} (hsub : j_Sb w0 (wc ++ wr)) (hP : va_P (jD g) vwCl w0 H) (hD : va_D (kA κ) w0) (hS : va_S (kA κ) (ks κ).heap H locs) (hA : ∀ q : Nat, (ks κ).heap.size ≤ q → kA κ q) (hl : lv_has ls (kn κ) lv)
    (run : va_Run (kp κ) (kl κ) (ke κ) (kR κ) (ks κ) (km κ) (ka κ) (kb κ) (kM κ) (kc κ) H locs cells slots mc ms (F0 (km κ) pc ls st) rest (j_Post g wc H.size O av) (va_A wc H.size))
    (k9 : ∀ (r : Option Value) (w1 : va_W), O r w1 → j_V g κ (cells + mc) (slots + ms) (pc + 3) lv (r.toList ++ rest) (w1 ++ wr)) : W (kp κ) (kl κ) (ke κ) (kR κ) (ks κ) (km κ) (ka κ) (kb κ) (kM κ) (kc κ) H locs cells slots (kQ κ) (F0 (km κ) pc ls st) := by
  have hPs := hsub.P hP
  have hDs := hsub.2 _ hD
  have hFc := j_freeA (j_D_left hDs) hS hA
  intro T hT X
  obtain ⟨v, st₀, t, T', L, h0, X', hL, e1, e2, ⟨⟨r, w1, hv, hO, hP1, hD1⟩, hz, hk⟩, go⟩ := run T hT X
  cases hv
  rw [h0] at hz hk
  rw [← e1] at hP1 hz
  have hk' : ∀ q : Nat, q < H.size → ¬ va_A wc H.size q → T'.heap[q]? = H[q]? := fun q h1 h2 => by rw [e1]; exact hk q h1 h2
  obtain ⟨a1, a2⟩ := j_join hPs hDs hk' hFc hP1 hD1
  have hS' : va_S (kA κ) (ks κ).heap T'.heap (locs ++ L) := ⟨Nat.le_trans hS.1 hz, fun q h1 h2 => by
      rw [hk' q (Nat.lt_of_lt_of_le h1 hS.1) (fun z => h2 (hFc q z))]; exact hS.2.1 q h1 h2, fun q hq => by
      rcases List.mem_append.mp hq with h | h
      · exact hS.2.2 q h
      · exact hFc _ (hL q h)⟩
  obtain ⟨t2, b1, b2⟩ := k9 v w1 hO T'.heap (locs ++ L) ls a1 a2 hS' hl T' rfl X'
  exact ⟨t2, go t2 b1, b2⟩
theorem j_pre {wc wr : va_W} {av : List Value} {H : Heap} {locs : List Loc} {w0 : va_W} (C : j_C g κ cc own rm nL) (hsub : j_Sb w0 (wc ++ wr)) (hP : va_P (jD g) vwCl w0 H) (hD : va_D (kA κ) w0) (hS : va_S (kA κ) (ks κ).heap H locs) : ∀ U : State, U.heap = H → (ks κ).WarmedH U.vm → j_Pre g wc H.size av av.toArray U := by
  intro U hU hW
  have hDs := hsub.2 _ hD
  have hFc := j_freeA (j_D_left hDs) hS C.2.2.2.2.2.2.2.1
  refine ⟨rfl, by rw [hU], ?_, (j_D_left hDs).weaken (fun _ _ _ _ => trivial), C.2.2.2.2.2.2.2.2.go hU hW hS hFc⟩
  rw [hU]
  exact j_P_of fun q hq => j_P_at (hsub.P hP) (List.mem_append_left _ hq)
/-- invokevirtual (a method that isn't overridden) -/
theorem j_callV (C : j_C g κ cc own rm nL) {y : MethodName} {bytes : ByteArray} {maxL n index : Nat} {ret : Option FieldType} {rm' : Room} {wc wr : va_W} {b : Nat} {As : List Value} {O : Option Value → va_W → Prop} {mc ms : Nat} (hM : j_Ct (kl κ) y bytes maxL ret rm' g wc (.ref b :: As) O mc ms) (hY : j_Y y bytes maxL ret n) (hm : Cond.methodLink own index y ∈ TB) (hi : Cond.instanceMethod y ∈ TB) (hs : Cond.selects y.cls y y ∈ TB)
    (hr : (decide (rm'.cells = mc) && decide (rm'.slots = ms) && decide (rm'.frames + 1 ≤ rm.frames) && decide (8 + (maxL + 11) + rm'.locals ≤ rm.locals)) = true) (hf : cells + mc ≤ rm.cells ∧ slots + ms ≤ rm.slots) (hn : As.length = n) {ci q0 : Nat} {q : vw_C} {fs : List Value} (hc : vwCl[ci]? = some q) (hq : q.1 = y.cls) (he : wc[q0]? = some (b, .inr (ci, fs))) (hstk : (rest.map fun v => v.category).sum ≤ 8) (hsub : j_Sb ws (wc ++ wr)) {st : List Value} (hst : st = As.reverse ++ .ref b :: rest) (hdg : decode cc pc = .ok (.invokevirtual index, 3))
    (k9 : ∀ (r : Option Value) (w1 : va_W), O r w1 → j_V g κ (cells + mc) (slots + ms) (pc + 3) lv (r.toList ++ rest) (w1 ++ wr)) : j_V g κ cells slots pc lv st ws := by
  obtain ⟨hx, hb, hown, hts, hml, hn0, hR, hA, hG⟩ := id C
  subst hR
  obtain ⟨r1, r2, r3, r4⟩ := j_fit hr
  obtain ⟨y1, y2, y3, y4, y5⟩ := hY
  intro H locs ls hP hD hS hl
  have hPs : va_P (jD g) vwCl wc H := j_P_of fun q hq => j_P_at (hsub.P hP) (List.mem_append_left _ hq)
  refine j_after (av := (Value.ref b :: As).toArray) hsub hP hD hS hA hl (va_runV (Ts := TB) (own := own) (C := y.cls) (As := As) (rest := rest) ⟨hx, hb, hml, hown, hts⟩ (hM H.size) ⟨⟨r1, r2, r3, r4, pay_in hts (j_goodC y1), List.mem_cons_self, hts _ y1, hts _ y2, ⟨y3, y4⟩, fun sig h => ?_, hts _ hm⟩, hts _ hi, hts _ hs⟩ ⟨j_blind, ?_, j_pre C hsub hP hD hS⟩ rfl hn (by rw [← hn0]; exact hl.1) hst (lv_room hstk) hdg hf) k9
  · rw [h] at y5; exact (Option.some.inj y5).symm
  · rw [← hq]; exact va_recv hG.1 hPs hc he
theorem j_callS (C : j_C g κ cc own rm nL) {y : MethodName} {bytes : ByteArray} {maxL n index : Nat} {ret : Option FieldType} {rm' : Room} {wc wr : va_W} {As : List Value} {O : Option Value → va_W → Prop} {mc ms : Nat} (hM : j_Ct (kl κ) y bytes maxL ret rm' g wc As O mc ms) (hY : j_Y y bytes maxL ret n) (hm : Cond.methodLink own index y ∈ TB) (hi : Cond.static y ∈ TB)
    (hr : (decide (rm'.cells = mc) && decide (rm'.slots = ms) && decide (rm'.frames + 1 ≤ rm.frames) && decide (8 + (maxL + 11) + rm'.locals ≤ rm.locals)) = true) (hf : cells + mc ≤ rm.cells ∧ slots + ms ≤ rm.slots) (hn : As.length = n) (hstk : (rest.map fun v => v.category).sum ≤ 8) (hsub : j_Sb ws (wc ++ wr)) {st : List Value} (hst : st = As.reverse ++ rest) (hdg : decode cc pc = .ok (.invokestatic index, 3))
    (k9 : ∀ (r : Option Value) (w1 : va_W), O r w1 → j_V g κ (cells + mc) (slots + ms) (pc + 3) lv (r.toList ++ rest) (w1 ++ wr)) : j_V g κ cells slots pc lv st ws := by
  obtain ⟨hx, hb, hown, hts, hml, hn0, hR, hA, hG⟩ := id C
  subst hR
  obtain ⟨r1, r2, r3, r4⟩ := j_fit hr
  obtain ⟨y1, y2, y3, y4, y5⟩ := hY
  intro H locs ls hP hD hS hl
  refine j_after (av := As.toArray) hsub hP hD hS hA hl (va_runS (Ts := TB) (own := own) (As := As) (rest := rest) ⟨hx, hb, hml, hown, hts⟩ (hM H.size) ⟨⟨r1, r2, r3, r4, pay_in hts (j_goodC y1), List.mem_cons_self, hts _ y1, hts _ y2, ⟨y3, y4⟩, fun sig h => ?_, hts _ hm⟩, hts _ hi⟩ ⟨j_blind, j_pre C hsub hP hD hS⟩ rfl hn (by rw [← hn0]; exact hl.1) hst (lv_room hstk) hdg hf) k9
  rw [h] at y5; exact (Option.some.inj y5).symm
theorem j_callI (C : j_C g κ cc own rm nL) {y : MethodName} {bytes : ByteArray} {maxL n index : Nat} {rm' : Room} {wc wr : va_W} {b : Nat} {As : List Value} {O : Option Value → va_W → Prop} {mc ms : Nat} (hM : j_Ct (kl κ) y bytes maxL none rm' g wc (.ref b :: As) O mc ms) (hY : j_Y y bytes maxL none n) (hy : y.name = "<init>") (hm : Cond.methodLink own index y ∈ TB) (hi : Cond.instanceMethod y ∈ TB)
    (hr : (decide (rm'.cells = mc) && decide (rm'.slots = ms) && decide (rm'.frames + 1 ≤ rm.frames) && decide (8 + (maxL + 11) + rm'.locals ≤ rm.locals)) = true) (hf : cells + mc ≤ rm.cells ∧ slots + ms ≤ rm.slots) (hn : As.length = n) (hstk : (rest.map fun v => v.category).sum ≤ 8) (hsub : j_Sb ws (wc ++ wr)) {st : List Value} (hst : st = As.reverse ++ .ref b :: rest) (hdg : decode cc pc = .ok (.invokespecial index, 3))
    (k9 : ∀ (r : Option Value) (w1 : va_W), O r w1 → j_V g κ (cells + mc) (slots + ms) (pc + 3) lv (r.toList ++ rest) (w1 ++ wr)) : j_V g κ cells slots pc lv st ws := by
  obtain ⟨hx, hb, hown, hts, hml, hn0, hR, hA, hG⟩ := id C
  subst hR
  obtain ⟨r1, r2, r3, r4⟩ := j_fit hr
  obtain ⟨y1, y2, y3, y4, y5⟩ := hY
  intro H locs ls hP hD hS hl
  refine j_after (av := (Value.ref b :: As).toArray) hsub hP hD hS hA hl (va_runI (Ts := TB) (own := own) (As := As) (rest := rest) ⟨hx, hb, hml, hown, hts⟩ (hM H.size) ⟨⟨r1, r2, r3, r4, pay_in hts (j_goodC y1), List.mem_cons_self, hts _ y1, hts _ y2, ⟨y3, y4⟩, fun sig h => ?_, hts _ hm⟩, hy, hts _ hi⟩ ⟨j_blind, j_pre C hsub hP hD hS⟩ rfl hn (by rw [← hn0]; exact hl.1) hst (lv_room hstk) hdg hf) k9
  rw [h] at y5; exact (Option.some.inj y5).symm
/-- a private static method of a nest mate -/
theorem j_callSN (C : j_C g κ cc own rm nL) {y : MethodName} {host : String} {bytes : ByteArray} {maxL n index : Nat} {ret : Option FieldType} {rm' : Room} {wc wr : va_W} {As : List Value} {O : Option Value → va_W → Prop} {mc ms : Nat} (hM : j_Ct (kl κ) y bytes maxL ret rm' g wc As O mc ms) (hY : j_Y y bytes maxL ret n) (hm : Cond.methodLinkNest own index y host ∈ jN) (hi : Cond.static y ∈ TB)
    (hr : (decide (rm'.cells = mc) && decide (rm'.slots = ms) && decide (rm'.frames + 1 ≤ rm.frames) && decide (8 + (maxL + 11) + rm'.locals ≤ rm.locals)) = true) (hf : cells + mc ≤ rm.cells ∧ slots + ms ≤ rm.slots) (hn : As.length = n) (hstk : (rest.map fun v => v.category).sum ≤ 8) (hsub : j_Sb ws (wc ++ wr)) {st : List Value} (hst : st = As.reverse ++ rest) (hdg : decode cc pc = .ok (.invokestatic index, 3))
    (k9 : ∀ (r : Option Value) (w1 : va_W), O r w1 → j_V g κ (cells + mc) (slots + ms) (pc + 3) lv (r.toList ++ rest) (w1 ++ wr)) : j_V g κ cells slots pc lv st ws := by
  obtain ⟨hx, hb, hown, hts, hml, hn0, hR, hA, hG⟩ := id C
  subst hR
  obtain ⟨r1, r2, r3, r4⟩ := j_fit hr
  obtain ⟨y1, y2, y3, y4, y5⟩ := hY
  intro H locs ls hP hD hS hl
  refine j_after (av := As.toArray) hsub hP hD hS hA hl (va_runSN (Ts := TB) (own := own) (host := host) (As := As) (rest := rest) ⟨hx, hb, hml, hown, hts⟩ (hM H.size) ⟨⟨⟨r1, r2, r3, r4, pay_in hts (j_goodC y1), List.mem_cons_self⟩, hts _ y1, hts _ y2, ⟨y3, y4⟩, fun sig h => ?_, va_Nw.use rfl (hG.2.1 _ hm)⟩, hts _ hi, trivial⟩ ⟨j_blind, j_pre C hsub hP hD hS⟩ rfl hn (by rw [← hn0]; exact hl.1) hst (lv_room hstk) hdg hf) k9
  rw [h] at y5; exact (Option.some.inj y5).symm
/-- a nest mate's private constructor -/
theorem j_callIN (C : j_C g κ cc own rm nL) {y : MethodName} {host : String} {bytes : ByteArray} {maxL n index : Nat} {rm' : Room} {wc wr : va_W} {b : Nat} {As : List Value} {O : Option Value → va_W → Prop} {mc ms : Nat} (hM : j_Ct (kl κ) y bytes maxL none rm' g wc (.ref b :: As) O mc ms) (hY : j_Y y bytes maxL none n) (hy : y.name = "<init>") (hm : Cond.methodLinkNest own index y host ∈ jN) (hi : Cond.instanceMethod y ∈ TB)
    (hr : (decide (rm'.cells = mc) && decide (rm'.slots = ms) && decide (rm'.frames + 1 ≤ rm.frames) && decide (8 + (maxL + 11) + rm'.locals ≤ rm.locals)) = true) (hf : cells + mc ≤ rm.cells ∧ slots + ms ≤ rm.slots) (hn : As.length = n) (hstk : (rest.map fun v => v.category).sum ≤ 8) (hsub : j_Sb ws (wc ++ wr)) {st : List Value} (hst : st = As.reverse ++ .ref b :: rest) (hdg : decode cc pc = .ok (.invokespecial index, 3))
    (k9 : ∀ (r : Option Value) (w1 : va_W), O r w1 → j_V g κ (cells + mc) (slots + ms) (pc + 3) lv (r.toList ++ rest) (w1 ++ wr)) : j_V g κ cells slots pc lv st ws := by
  obtain ⟨hx, hb, hown, hts, hml, hn0, hR, hA, hG⟩ := id C
  subst hR
  obtain ⟨r1, r2, r3, r4⟩ := j_fit hr
  obtain ⟨y1, y2, y3, y4, y5⟩ := hY
  intro H locs ls hP hD hS hl
  refine j_after (av := (Value.ref b :: As).toArray) hsub hP hD hS hA hl (va_runIN (Ts := TB) (own := own) (host := host) (As := As) (rest := rest) ⟨hx, hb, hml, hown, hts⟩ (hM H.size) ⟨⟨⟨r1, r2, r3, r4, pay_in hts (j_goodC y1), List.mem_cons_self⟩, hts _ y1, hts _ y2, ⟨y3, y4⟩, fun sig h => ?_, va_Nw.use rfl (hG.2.1 _ hm)⟩, hy, hts _ hi⟩ ⟨j_blind, j_pre C hsub hP hD hS⟩ rfl hn (by rw [← hn0]; exact hl.1) hst (lv_room hstk) hdg hf) k9
  rw [h] at y5; exact (Option.some.inj y5).symm
/-- a nest mate's private method -/
theorem j_callVN (C : j_C g κ cc own rm nL) {y : MethodName} {host : String} {bytes : ByteArray} {maxL n index : Nat} {ret : Option FieldType} {rm' : Room} {wc wr : va_W} {b : Nat} {As : List Value} {O : Option Value → va_W → Prop} {mc ms : Nat} (hM : j_Ct (kl κ) y bytes maxL ret rm' g wc (.ref b :: As) O mc ms) (hY : j_Y y bytes maxL ret n) (hm : Cond.methodLinkNest own index y host ∈ jN) (hi : Cond.instanceMethod y ∈ TB) (hs : Cond.selects y.cls y y ∈ TB)
    (hr : (decide (rm'.cells = mc) && decide (rm'.slots = ms) && decide (rm'.frames + 1 ≤ rm.frames) && decide (8 + (maxL + 11) + rm'.locals ≤ rm.locals)) = true) (hf : cells + mc ≤ rm.cells ∧ slots + ms ≤ rm.slots) (hn : As.length = n) {ci q0 : Nat} {q : vw_C} {fs : List Value} (hc : vwCl[ci]? = some q) (hq : q.1 = y.cls) (he : wc[q0]? = some (b, .inr (ci, fs))) (hstk : (rest.map fun v => v.category).sum ≤ 8) (hsub : j_Sb ws (wc ++ wr)) {st : List Value} (hst : st = As.reverse ++ .ref b :: rest) (hdg : decode cc pc = .ok (.invokevirtual index, 3))
    (k9 : ∀ (r : Option Value) (w1 : va_W), O r w1 → j_V g κ (cells + mc) (slots + ms) (pc + 3) lv (r.toList ++ rest) (w1 ++ wr)) : j_V g κ cells slots pc lv st ws := by
  obtain ⟨hx, hb, hown, hts, hml, hn0, hR, hA, hG⟩ := id C
  subst hR
  obtain ⟨r1, r2, r3, r4⟩ := j_fit hr
  obtain ⟨y1, y2, y3, y4, y5⟩ := hY
  intro H locs ls hP hD hS hl
  have hPs : va_P (jD g) vwCl wc H := j_P_of fun q hq => j_P_at (hsub.P hP) (List.mem_append_left _ hq)
  refine j_after (av := (Value.ref b :: As).toArray) hsub hP hD hS hA hl (va_runVN (Ts := TB) (own := own) (C := y.cls) (host := host) (As := As) (rest := rest) ⟨hx, hb, hml, hown, hts⟩ (hM H.size) ⟨⟨⟨r1, r2, r3, r4, pay_in hts (j_goodC y1), List.mem_cons_self⟩, hts _ y1, hts _ y2, ⟨y3, y4⟩, fun sig h => ?_, va_Nw.use rfl (hG.2.1 _ hm)⟩, hts _ hi, hts _ hs⟩ ⟨j_blind, ?_, j_pre C hsub hP hD hS⟩ rfl hn (by rw [← hn0]; exact hl.1) hst (lv_room hstk) hdg hf) k9
  · rw [h] at y5; exact (Option.some.inj y5).symm
  · rw [← hq]; exact va_recv hG.1 hPs hc he
end JR
/-- a contract out of the walk of its body -/
theorem j_ct {l : Launch} {y : MethodName} {cc : ByteArray} {nL : Nat} {ret : Option FieldType} {rm : Room} {g : JX} {wc : va_W} {av : List Value} {O : Option Value → va_W → Prop} {mc ms : Nat} (hy : plainName y.cls = true) (hlen : (lg_sl av).length ≤ nL)
    (body : ∀ κ : JK, kl κ = l → j_C g κ cc y.cls rm nL → j_R g κ cc ret O mc ms → (kM κ).name = y.name → j_V g κ 0 0 0 (lv_args 0 av) [] wc) : j_Ct l y cc nL ret rm g wc av O mc ms := by
  intro sz
  refine Met.ofW (cc := cc) (maxL := nL) (ret := ret) hy rfl ?_
  intro p e s m args below meth c s₁ B hml hv
  obtain ⟨rfl, hsz, hP, hD0, hG⟩ := hv
  subst hsz
  have hx := B.exec
  have hb := B.bytes
  have hr := B.returns
  have hts := atoms_spec (ws := .code y cc nL ret :: TB) B.pre
  have hown : s.vm.findClass y.cls = some m.cls := findClass_of_methodNamed B.named
  have hlocks := B.notSynchronized
  have hl := lv_entry av (n := nL) hlen
  rw [lg_entry_eq]
  have hA : ∀ q : Nat, s.heap.size ≤ q → va_A wc s.heap.size q := fun q h => Or.inr h
  refine body (p, l, e, rm, s, m, av.toArray, below, meth, c, MQ below (j_Post g wc s.heap.size O) av.toArray s mc ms (va_A wc s.heap.size), va_A wc s.heap.size, nL) rfl ⟨hx, hb, hown, fun w hw => hts w (List.mem_cons_of_mem _ hw), hml, rfl, rfl, hA, hG⟩ ?_ (name_of_methodNamed B.named B.method).1 s.heap [] _ hP hD0.self va_S.rf hl
  refine ⟨?_, ?_, ?_⟩
  · intro pc lv ws v hdg hn hO H locs ls hP hD hS hl
    obtain ⟨ty, e1, e2⟩ := hn
    subst e1
    exact W.zret (ty := ty) hx hb hr e2 (fun t ht hW => ⟨⟨_, ws, rfl, hO, by rw [ht]; exact hP, hD⟩, hS.F ht⟩) hS.2.2 hdg
  · intro pc lv ws v hdg hn hO H locs ls hP hD hS hl
    subst hn
    exact W.lret hx hb hr (fun t ht hW => ⟨⟨_, ws, rfl, hO, by rw [ht]; exact hP, hD⟩, hS.F ht⟩) hS.2.2 hdg
  · intro pc lv ws hdg hn hO H locs ls hP hD hS hl
    subst hn
    exact W.vret hx hb hr (fun t ht hW => ⟨⟨_, ws, rfl, hO, by rw [ht]; exact hP, hD⟩, hS.F ht⟩) hS.2.2 hdg
section JN
variable {g : JX} {κ : JK} {cc : ByteArray} {own : String} {rm : Room} {nL pc cells slots : Nat} {lv : List (Nat × Value)} {rest : List Value} {ws : va_W}
theorem j_iaddN (C : j_C g κ cc own rm nL) {a b : Nat} (hdg : decode cc pc = .ok (.iadd, 1)) (k9 : j_V g κ cells slots (pc + 1) lv (.int (nI (a + b)) :: rest) ws) : j_V g κ cells slots pc lv (.int (nI b) :: .int (nI a) :: rest) ws := j_iadd C hdg (j_rwi (nI_add a b) k9)
theorem j_isubN (C : j_C g κ cc own rm nL) {a b : Nat} (h : b ≤ a) (hdg : decode cc pc = .ok (.isub, 1)) (k9 : j_V g κ cells slots (pc + 1) lv (.int (nI (a - b)) :: rest) ws) : j_V g κ cells slots pc lv (.int (nI b) :: .int (nI a) :: rest) ws := j_isub C hdg (j_rwi (pk_sub h) k9)
theorem j_imulN (C : j_C g κ cc own rm nL) {a b : Nat} (hdg : decode cc pc = .ok (.imul, 1)) (k9 : j_V g κ cells slots (pc + 1) lv (.int (nI (a * b)) :: rest) ws) : j_V g κ cells slots pc lv (.int (nI b) :: .int (nI a) :: rest) ws := j_imul C hdg (j_rwi (pk_mul a b) k9)
theorem j_idivN (C : j_C g κ cc own rm nL) {a b : Nat} (ha : a < 2 ^ 31) (h0 : 0 < b) (hb : b < 2 ^ 31) (hdg : decode cc pc = .ok (.idiv, 1)) (k9 : j_V g κ cells slots (pc + 1) lv (.int (nI (a / b)) :: rest) ws) : j_V g κ cells slots pc lv (.int (nI b) :: .int (nI a) :: rest) ws := j_idiv C hdg (nI_ne0 h0 hb) (j_rwi (pk_div ha h0 hb) k9)
theorem j_iremN (C : j_C g κ cc own rm nL) {a b : Nat} (ha : a < 2 ^ 31) (h0 : 0 < b) (hb : b < 2 ^ 31) (hdg : decode cc pc = .ok (.irem, 1)) (k9 : j_V g κ cells slots (pc + 1) lv (.int (nI (a % b)) :: rest) ws) : j_V g κ cells slots pc lv (.int (nI b) :: .int (nI a) :: rest) ws := j_irem C hdg (nI_ne0 h0 hb) (j_rwi (pk_rem ha h0 hb) k9)
theorem j_icmp_ltN (C : j_C g κ cc own rm nL) {a b : Nat} (ha : a < 2 ^ 31) (hb : b < 2 ^ 31) {off : Int} {tgt : Nat} (hdg : decode cc pc = .ok (.if_icmp .lt off, 3)) (ht : (pc : Int) + off = (tgt : Int)) (kt : a < b → j_V g κ cells slots tgt lv rest ws) (kf : b ≤ a → j_V g κ cells slots (pc + 3) lv rest ws) : j_V g κ cells slots pc lv (.int (nI b) :: .int (nI a) :: rest) ws :=
  j_icmp_lt C hdg ht (fun h => kt ((nI_ltI ha hb).mp h)) (fun h => kf (Nat.le_of_not_lt fun q => h ((nI_ltI ha hb).mpr q)))
theorem j_icmp_geN (C : j_C g κ cc own rm nL) {a b : Nat} (ha : a < 2 ^ 31) (hb : b < 2 ^ 31) {off : Int} {tgt : Nat} (hdg : decode cc pc = .ok (.if_icmp .ge off, 3)) (ht : (pc : Int) + off = (tgt : Int)) (kt : b ≤ a → j_V g κ cells slots tgt lv rest ws) (kf : a < b → j_V g κ cells slots (pc + 3) lv rest ws) : j_V g κ cells slots pc lv (.int (nI b) :: .int (nI a) :: rest) ws :=
  j_icmp_ge C hdg ht (fun h => kt ((nI_leI hb ha).mp h)) (fun h => kf (Nat.lt_of_not_le fun q => h ((nI_leI hb ha).mpr q)))
theorem j_icmp_gtN (C : j_C g κ cc own rm nL) {a b : Nat} (ha : a < 2 ^ 31) (hb : b < 2 ^ 31) {off : Int} {tgt : Nat} (hdg : decode cc pc = .ok (.if_icmp .gt off, 3)) (ht : (pc : Int) + off = (tgt : Int)) (kt : b < a → j_V g κ cells slots tgt lv rest ws) (kf : a ≤ b → j_V g κ cells slots (pc + 3) lv rest ws) : j_V g κ cells slots pc lv (.int (nI b) :: .int (nI a) :: rest) ws :=
  j_icmp_gt C hdg ht (fun h => kt ((nI_ltI hb ha).mp h)) (fun h => kf (Nat.le_of_not_lt fun q => h ((nI_ltI hb ha).mpr q)))
theorem j_icmp_leN (C : j_C g κ cc own rm nL) {a b : Nat} (ha : a < 2 ^ 31) (hb : b < 2 ^ 31) {off : Int} {tgt : Nat} (hdg : decode cc pc = .ok (.if_icmp .le off, 3)) (ht : (pc : Int) + off = (tgt : Int)) (kt : a ≤ b → j_V g κ cells slots tgt lv rest ws) (kf : b < a → j_V g κ cells slots (pc + 3) lv rest ws) : j_V g κ cells slots pc lv (.int (nI b) :: .int (nI a) :: rest) ws :=
  j_icmp_le C hdg ht (fun h => kt ((nI_leI ha hb).mp h)) (fun h => kf (Nat.lt_of_not_le fun q => h ((nI_leI ha hb).mpr q)))
theorem j_icmp_eqN (C : j_C g κ cc own rm nL) {a b : Nat} (ha : a < 2 ^ 31) (hb : b < 2 ^ 31) {off : Int} {tgt : Nat} (hdg : decode cc pc = .ok (.if_icmp .eq off, 3)) (ht : (pc : Int) + off = (tgt : Int)) (kt : a = b → j_V g κ cells slots tgt lv rest ws) (kf : a ≠ b → j_V g κ cells slots (pc + 3) lv rest ws) : j_V g κ cells slots pc lv (.int (nI b) :: .int (nI a) :: rest) ws :=
  j_icmp_eq C hdg ht (fun h => kt ((nI_eq ha hb).mp h)) (fun h => kf (fun q => h ((nI_eq ha hb).mpr q)))
theorem j_icmp_neN (C : j_C g κ cc own rm nL) {a b : Nat} (ha : a < 2 ^ 31) (hb : b < 2 ^ 31) {off : Int} {tgt : Nat} (hdg : decode cc pc = .ok (.if_icmp .ne off, 3)) (ht : (pc : Int) + off = (tgt : Int)) (kt : a ≠ b → j_V g κ cells slots tgt lv rest ws) (kf : a = b → j_V g κ cells slots (pc + 3) lv rest ws) : j_V g κ cells slots pc lv (.int (nI b) :: .int (nI a) :: rest) ws :=
  j_icmp_ne C hdg ht (fun h => kt (fun q => h ((nI_eq ha hb).mpr q))) (fun h => kf ((nI_eq ha hb).mp h))
theorem j_if_ltN (C : j_C g κ cc own rm nL) {a : Nat} (ha : a < 2 ^ 31) {off : Int} {tgt : Nat} (hdg : decode cc pc = .ok (.ifCond .lt off, 3)) (ht : (pc : Int) + off = (tgt : Int)) (k9 : j_V g κ cells slots (pc + 3) lv rest ws) : j_V g κ cells slots pc lv (.int (nI a) :: rest) ws :=
  j_if_lt C hdg ht (fun h => absurd h (nI_pos ha)) (fun _ => k9)
theorem j_if_geN (C : j_C g κ cc own rm nL) {a : Nat} (ha : a < 2 ^ 31) {off : Int} {tgt : Nat} (hdg : decode cc pc = .ok (.ifCond .ge off, 3)) (ht : (pc : Int) + off = (tgt : Int)) (k9 : j_V g κ cells slots tgt lv rest ws) : j_V g κ cells slots pc lv (.int (nI a) :: rest) ws :=
  j_if_ge C hdg ht (fun _ => k9) (fun h => absurd (nI_pos' ha) h)
theorem j_nI0 {a : Nat} (ha : a < 2 ^ 31) : nI a = 0 ↔ a = 0 := by
  have h := nI_eq (b := 0) ha (by decide)
  rw [nI_0] at h
  exact h
theorem j_if_eqN (C : j_C g κ cc own rm nL) {a : Nat} (ha : a < 2 ^ 31) {off : Int} {tgt : Nat} (hdg : decode cc pc = .ok (.ifCond .eq off, 3)) (ht : (pc : Int) + off = (tgt : Int)) (kt : a = 0 → j_V g κ cells slots tgt lv rest ws) (kf : 0 < a → j_V g κ cells slots (pc + 3) lv rest ws) : j_V g κ cells slots pc lv (.int (nI a) :: rest) ws :=
  j_if_eq C hdg ht (fun h => kt ((j_nI0 ha).mp h)) (fun h => kf (Nat.pos_of_ne_zero fun q => h ((j_nI0 ha).mpr q)))
theorem j_if_neN (C : j_C g κ cc own rm nL) {a : Nat} (ha : a < 2 ^ 31) {off : Int} {tgt : Nat} (hdg : decode cc pc = .ok (.ifCond .ne off, 3)) (ht : (pc : Int) + off = (tgt : Int)) (kt : 0 < a → j_V g κ cells slots tgt lv rest ws) (kf : a = 0 → j_V g κ cells slots (pc + 3) lv rest ws) : j_V g κ cells slots pc lv (.int (nI a) :: rest) ws :=
  j_if_ne C hdg ht (fun h => kt (Nat.pos_of_ne_zero fun q => h ((j_nI0 ha).mpr q))) (fun h => kf ((j_nI0 ha).mp h))
theorem j_if_gtN (C : j_C g κ cc own rm nL) {a : Nat} (ha : a < 2 ^ 31) {off : Int} {tgt : Nat} (hdg : decode cc pc = .ok (.ifCond .gt off, 3)) (ht : (pc : Int) + off = (tgt : Int)) (kt : 0 < a → j_V g κ cells slots tgt lv rest ws) (kf : a = 0 → j_V g κ cells slots (pc + 3) lv rest ws) : j_V g κ cells slots pc lv (.int (nI a) :: rest) ws := by
  refine j_if_gt C hdg ht (fun h => kt ?_) (fun h => kf ?_)
  · rw [← nI_0] at h; exact (nI_ltI (by decide) ha).mp h
  · rw [← nI_0] at h; exact Nat.eq_zero_of_not_pos fun q => h ((nI_ltI (by decide) ha).mpr q)
theorem j_if_leN (C : j_C g κ cc own rm nL) {a : Nat} (ha : a < 2 ^ 31) {off : Int} {tgt : Nat} (hdg : decode cc pc = .ok (.ifCond .le off, 3)) (ht : (pc : Int) + off = (tgt : Int)) (kt : a = 0 → j_V g κ cells slots tgt lv rest ws) (kf : 0 < a → j_V g κ cells slots (pc + 3) lv rest ws) : j_V g κ cells slots pc lv (.int (nI a) :: rest) ws := by
  refine j_if_le C hdg ht (fun h => kt ?_) (fun h => kf ?_)
  · rw [← nI_0] at h; exact Nat.le_zero.mp ((nI_leI ha (by decide)).mp h)
  · rw [← nI_0] at h; exact Nat.lt_of_not_le fun q => h ((nI_leI ha (by decide)).mpr q)
/-- a truth value decides -/
theorem j_if_eqB (C : j_C g κ cc own rm nL) {P : Prop} [Decidable P] {off : Int} {tgt : Nat} (hdg : decode cc pc = .ok (.ifCond .eq off, 3)) (ht : (pc : Int) + off = (tgt : Int)) (kt : ¬ P → j_V g κ cells slots tgt lv rest ws) (kf : P → j_V g κ cells slots (pc + 3) lv rest ws) : j_V g κ cells slots pc lv (.int (if P then (1 : Int32) else 0) :: rest) ws := by
  by_cases h : P
  · rw [if_pos h]; exact j_if_eq C hdg ht (fun q => absurd q (by decide)) (fun _ => kf h)
  · rw [if_neg h]; exact j_if_eq C hdg ht (fun _ => kt h) (fun q => absurd rfl q)
theorem j_if_neB (C : j_C g κ cc own rm nL) {P : Prop} [Decidable P] {off : Int} {tgt : Nat} (hdg : decode cc pc = .ok (.ifCond .ne off, 3)) (ht : (pc : Int) + off = (tgt : Int)) (kt : P → j_V g κ cells slots tgt lv rest ws) (kf : ¬ P → j_V g κ cells slots (pc + 3) lv rest ws) : j_V g κ cells slots pc lv (.int (if P then (1 : Int32) else 0) :: rest) ws := by
  by_cases h : P
  · rw [if_pos h]; exact j_if_ne C hdg ht (fun _ => kt h) (fun q => absurd q (by decide))
  · rw [if_neg h]; exact j_if_ne C hdg ht (fun q => absurd rfl q) (fun _ => kf h)
theorem j_baldN (C : j_C g κ cc own rm nL) (q0 t0 : Nat) {a n : Nat} {cA : ClassId} {f : Nat → Int32} (ha : ws[q0]? = some (a, .inl (cA, n, .inl f))) (ht : (jT g)[t0]? = some (cA, .byte)) {i : Nat} (hi : i < n) (hn : n < 2 ^ 31) (hdg : decode cc pc = .ok (.baload, 1)) (k9 : j_V g κ cells slots (pc + 1) lv (.int (f i) :: rest) ws) : j_V g κ cells slots pc lv (.int (nI i) :: .ref a :: rest) ws :=
  j_bald C q0 t0 ha ht (vp_in_nI hi hn) (by rw [nI_clamp (Nat.lt_trans hi hn)]) hdg k9
theorem j_ialdN (C : j_C g κ cc own rm nL) (q0 t0 : Nat) {a n : Nat} {cA : ClassId} {f : Nat → Int32} (ha : ws[q0]? = some (a, .inl (cA, n, .inl f))) (ht : (jT g)[t0]? = some (cA, .int)) {i : Nat} (hi : i < n) (hn : n < 2 ^ 31) (hdg : decode cc pc = .ok (.iaload, 1)) (k9 : j_V g κ cells slots (pc + 1) lv (.int (f i) :: rest) ws) : j_V g κ cells slots pc lv (.int (nI i) :: .ref a :: rest) ws :=
  j_iald C q0 t0 ha ht (vp_in_nI hi hn) (by rw [nI_clamp (Nat.lt_trans hi hn)]) hdg k9
theorem j_aaldN (C : j_C g κ cc own rm nL) (q0 t0 : Nat) {a n : Nat} {cA : ClassId} {Cn : String} {f : Nat → Option Nat} (ha : ws[q0]? = some (a, .inl (cA, n, .inr (.inr (.inr (.inr f)))))) (ht : (jT g)[t0]? = some (cA, .object Cn)) {i b : Nat} (hi : i < n) (hn : n < 2 ^ 31) (hb : f i = some b) (hdg : decode cc pc = .ok (.aaload, 1)) (k9 : j_V g κ cells slots (pc + 1) lv (.ref b :: rest) ws) : j_V g κ cells slots pc lv (.int (nI i) :: .ref a :: rest) ws :=
  j_aald C q0 t0 ha ht (vp_in_nI hi hn) (by rw [nI_clamp (Nat.lt_trans hi hn), hb]; rfl) hdg k9
theorem j_bastN (C : j_C g κ cc own rm nL) (q0 t0 : Nat) {a n : Nat} {cA : ClassId} {f : Nat → Int32} (ha : ws[q0]? = some (a, .inl (cA, n, .inl f))) (ht : (jT g)[t0]? = some (cA, .byte)) {i : Nat} {x y : Int32} (hi : i < n) (hn : n < 2 ^ 31) (hy : x.toInt8.toInt32 = y) {ws' : va_W} (hw : ws.set q0 (a, .inl (cA, n, .inl (upd f i y))) = ws') (hdg : decode cc pc = .ok (.bastore, 1)) (k9 : j_V g κ cells slots (pc + 1) lv rest ws') : j_V g κ cells slots pc lv (.int x :: .int (nI i) :: .ref a :: rest) ws :=
  j_bast C q0 t0 ha ht (vp_in_nI hi hn) (by rw [nI_clamp (Nat.lt_trans hi hn), vp_nar_byte, hy]; exact hw) hdg k9
theorem j_iastN (C : j_C g κ cc own rm nL) (q0 t0 : Nat) {a n : Nat} {cA : ClassId} {f : Nat → Int32} (ha : ws[q0]? = some (a, .inl (cA, n, .inl f))) (ht : (jT g)[t0]? = some (cA, .int)) {i : Nat} {x : Int32} (hi : i < n) (hn : n < 2 ^ 31) {ws' : va_W} (hw : ws.set q0 (a, .inl (cA, n, .inl (upd f i x))) = ws') (hdg : decode cc pc = .ok (.iastore, 1)) (k9 : j_V g κ cells slots (pc + 1) lv rest ws') : j_V g κ cells slots pc lv (.int x :: .int (nI i) :: .ref a :: rest) ws :=
  j_iast C q0 t0 ha ht (vp_in_nI hi hn) (by rw [nI_clamp (Nat.lt_trans hi hn)]; exact hw) hdg k9
theorem j_inc (a n : Nat) : nI a + Int32.ofInt (n : Int) = nI (a + n) := by
  rw [← nI_add]; rfl
end JN
end
section
abbrev b_Rea_init : ByteArray := prog_4_method_1_code
def y_Rea_init : MethodName := ⟨R_Rea, "<init>", "(LWireDesk$Text;)V"⟩
theorem d_Rea_init_0 : decode b_Rea_init 0 = .ok (.aload_n 0, 1) := by decide +kernel
theorem d_Rea_init_1 : decode b_Rea_init 1 = .ok (.invokespecial 3, 3) := by decide +kernel
theorem d_Rea_init_4 : decode b_Rea_init 4 = .ok (.aload_n 0, 1) := by decide +kernel
theorem d_Rea_init_5 : decode b_Rea_init 5 = .ok (.iconst 0, 1) := by decide +kernel
theorem d_Rea_init_6 : decode b_Rea_init 6 = .ok (.putfield 9, 3) := by decide +kernel
theorem d_Rea_init_9 : decode b_Rea_init 9 = .ok (.aload_n 0, 1) := by decide +kernel
theorem d_Rea_init_10 : decode b_Rea_init 10 = .ok (.iconst 0, 1) := by decide +kernel
theorem d_Rea_init_11 : decode b_Rea_init 11 = .ok (.putfield 15, 3) := by decide +kernel
theorem d_Rea_init_14 : decode b_Rea_init 14 = .ok (.aload_n 0, 1) := by decide +kernel
theorem d_Rea_init_15 : decode b_Rea_init 15 = .ok (.iconst (-1), 1) := by decide +kernel
theorem d_Rea_init_16 : decode b_Rea_init 16 = .ok (.putfield 18, 3) := by decide +kernel
theorem d_Rea_init_19 : decode b_Rea_init 19 = .ok (.aload_n 0, 1) := by decide +kernel
theorem d_Rea_init_20 : decode b_Rea_init 20 = .ok (.aload_n 1, 1) := by decide +kernel
theorem d_Rea_init_21 : decode b_Rea_init 21 = .ok (.putfield 21, 3) := by decide +kernel
theorem d_Rea_init_24 : decode b_Rea_init 24 = .ok (.return_, 1) := by decide +kernel
abbrev b_Rea_begin : ByteArray := prog_4_method_2_code
def y_Rea_begin : MethodName := ⟨R_Rea, "begin", "()V"⟩
theorem d_Rea_begin_0 : decode b_Rea_begin 0 = .ok (.aload_n 0, 1) := by decide +kernel
theorem d_Rea_begin_1 : decode b_Rea_begin 1 = .ok (.iconst 0, 1) := by decide +kernel
theorem d_Rea_begin_2 : decode b_Rea_begin 2 = .ok (.putfield 9, 3) := by decide +kernel
theorem d_Rea_begin_5 : decode b_Rea_begin 5 = .ok (.aload_n 0, 1) := by decide +kernel
theorem d_Rea_begin_6 : decode b_Rea_begin 6 = .ok (.iconst 0, 1) := by decide +kernel
theorem d_Rea_begin_7 : decode b_Rea_begin 7 = .ok (.putfield 15, 3) := by decide +kernel
theorem d_Rea_begin_10 : decode b_Rea_begin 10 = .ok (.aload_n 0, 1) := by decide +kernel
theorem d_Rea_begin_11 : decode b_Rea_begin 11 = .ok (.iconst (-1), 1) := by decide +kernel
theorem d_Rea_begin_12 : decode b_Rea_begin 12 = .ok (.putfield 18, 3) := by decide +kernel
theorem d_Rea_begin_15 : decode b_Rea_begin 15 = .ok (.return_, 1) := by decide +kernel
abbrev b_Rea_finish : ByteArray := prog_4_method_3_code
def y_Rea_finish : MethodName := ⟨R_Rea, "finish", "()V"⟩
theorem d_Rea_finish_0 : decode b_Rea_finish 0 = .ok (.aload_n 0, 1) := by decide +kernel
theorem d_Rea_finish_1 : decode b_Rea_finish 1 = .ok (.getfield 9, 3) := by decide +kernel
theorem d_Rea_finish_4 : decode b_Rea_finish 4 = .ok (.aload_n 0, 1) := by decide +kernel
theorem d_Rea_finish_5 : decode b_Rea_finish 5 = .ok (.getfield 21, 3) := by decide +kernel
theorem d_Rea_finish_8 : decode b_Rea_finish 8 = .ok (.getfield 25, 3) := by decide +kernel
theorem d_Rea_finish_11 : decode b_Rea_finish 11 = .ok (.if_icmp .ge 12, 3) := by decide +kernel
theorem d_Rea_finish_14 : decode b_Rea_finish 14 = .ok (.aload_n 0, 1) := by decide +kernel
theorem d_Rea_finish_15 : decode b_Rea_finish 15 = .ok (.iconst 4, 1) := by decide +kernel
theorem d_Rea_finish_16 : decode b_Rea_finish 16 = .ok (.aload_n 0, 1) := by decide +kernel
theorem d_Rea_finish_17 : decode b_Rea_finish 17 = .ok (.getfield 9, 3) := by decide +kernel
theorem d_Rea_finish_20 : decode b_Rea_finish 20 = .ok (.invokevirtual 30, 3) := by decide +kernel
theorem d_Rea_finish_23 : decode b_Rea_finish 23 = .ok (.return_, 1) := by decide +kernel
abbrev b_Rea_takeBlock : ByteArray := prog_4_method_4_code
def y_Rea_takeBlock : MethodName := ⟨R_Rea, "takeBlock", "([LWireDesk$Transaction;)I"⟩
theorem d_Rea_takeBlock_0 : decode b_Rea_takeBlock 0 = .ok (.aload_n 0, 1) := by decide +kernel
theorem d_Rea_takeBlock_1 : decode b_Rea_takeBlock 1 = .ok (.bipush 80, 2) := by decide +kernel
theorem d_Rea_takeBlock_3 : decode b_Rea_takeBlock 3 = .ok (.invokevirtual 34, 3) := by decide +kernel
theorem d_Rea_takeBlock_6 : decode b_Rea_takeBlock 6 = .ok (.aload_n 0, 1) := by decide +kernel
theorem d_Rea_takeBlock_7 : decode b_Rea_takeBlock 7 = .ok (.bipush 12, 2) := by decide +kernel
theorem d_Rea_takeBlock_9 : decode b_Rea_takeBlock 9 = .ok (.invokevirtual 38, 3) := by decide +kernel
theorem d_Rea_takeBlock_12 : decode b_Rea_takeBlock 12 = .ok (.istore_n 2, 1) := by decide +kernel
theorem d_Rea_takeBlock_13 : decode b_Rea_takeBlock 13 = .ok (.iconst 0, 1) := by decide +kernel
theorem d_Rea_takeBlock_14 : decode b_Rea_takeBlock 14 = .ok (.istore_n 3, 1) := by decide +kernel
theorem d_Rea_takeBlock_15 : decode b_Rea_takeBlock 15 = .ok (.iload_n 3, 1) := by decide +kernel
theorem d_Rea_takeBlock_16 : decode b_Rea_takeBlock 16 = .ok (.iload_n 2, 1) := by decide +kernel
theorem d_Rea_takeBlock_17 : decode b_Rea_takeBlock 17 = .ok (.if_icmp .ge 29, 3) := by decide +kernel
theorem d_Rea_takeBlock_20 : decode b_Rea_takeBlock 20 = .ok (.iload_n 3, 1) := by decide +kernel
theorem d_Rea_takeBlock_21 : decode b_Rea_takeBlock 21 = .ok (.aload_n 1, 1) := by decide +kernel
theorem d_Rea_takeBlock_22 : decode b_Rea_takeBlock 22 = .ok (.arraylength, 1) := by decide +kernel
theorem d_Rea_takeBlock_23 : decode b_Rea_takeBlock 23 = .ok (.if_icmp .ge 23, 3) := by decide +kernel
theorem d_Rea_takeBlock_26 : decode b_Rea_takeBlock 26 = .ok (.aload_n 0, 1) := by decide +kernel
theorem d_Rea_takeBlock_27 : decode b_Rea_takeBlock 27 = .ok (.getfield 15, 3) := by decide +kernel
theorem d_Rea_takeBlock_30 : decode b_Rea_takeBlock 30 = .ok (.ifCond .ne 16, 3) := by decide +kernel
theorem d_Rea_takeBlock_33 : decode b_Rea_takeBlock 33 = .ok (.aload_n 0, 1) := by decide +kernel
theorem d_Rea_takeBlock_34 : decode b_Rea_takeBlock 34 = .ok (.aload_n 1, 1) := by decide +kernel
theorem d_Rea_takeBlock_35 : decode b_Rea_takeBlock 35 = .ok (.iload_n 3, 1) := by decide +kernel
theorem d_Rea_takeBlock_36 : decode b_Rea_takeBlock 36 = .ok (.aaload, 1) := by decide +kernel
theorem d_Rea_takeBlock_37 : decode b_Rea_takeBlock 37 = .ok (.invokevirtual 42, 3) := by decide +kernel
theorem d_Rea_takeBlock_40 : decode b_Rea_takeBlock 40 = .ok (.iinc 3 1, 3) := by decide +kernel
theorem d_Rea_takeBlock_43 : decode b_Rea_takeBlock 43 = .ok (.goto (-28), 3) := by decide +kernel
theorem d_Rea_takeBlock_46 : decode b_Rea_takeBlock 46 = .ok (.iload_n 2, 1) := by decide +kernel
theorem d_Rea_takeBlock_47 : decode b_Rea_takeBlock 47 = .ok (.ireturn, 1) := by decide +kernel
abbrev b_Rea_takeTransaction : ByteArray := prog_4_method_5_code
def y_Rea_takeTransaction : MethodName := ⟨R_Rea, "takeTransaction", "(LWireDesk$Transaction;)V"⟩
theorem d_Rea_takeTransaction_0 : decode b_Rea_takeTransaction 0 = .ok (.aload_n 1, 1) := by decide +kernel
theorem d_Rea_takeTransaction_1 : decode b_Rea_takeTransaction 1 = .ok (.aload_n 0, 1) := by decide +kernel
theorem d_Rea_takeTransaction_2 : decode b_Rea_takeTransaction 2 = .ok (.getfield 9, 3) := by decide +kernel
theorem d_Rea_takeTransaction_5 : decode b_Rea_takeTransaction 5 = .ok (.putfield 46, 3) := by decide +kernel
theorem d_Rea_takeTransaction_8 : decode b_Rea_takeTransaction 8 = .ok (.aload_n 0, 1) := by decide +kernel
theorem d_Rea_takeTransaction_9 : decode b_Rea_takeTransaction 9 = .ok (.iconst 4, 1) := by decide +kernel
theorem d_Rea_takeTransaction_10 : decode b_Rea_takeTransaction 10 = .ok (.invokevirtual 34, 3) := by decide +kernel
theorem d_Rea_takeTransaction_13 : decode b_Rea_takeTransaction 13 = .ok (.aload_n 1, 1) := by decide +kernel
theorem d_Rea_takeTransaction_14 : decode b_Rea_takeTransaction 14 = .ok (.aload_n 0, 1) := by decide +kernel
theorem d_Rea_takeTransaction_15 : decode b_Rea_takeTransaction 15 = .ok (.bipush 8, 2) := by decide +kernel
theorem d_Rea_takeTransaction_17 : decode b_Rea_takeTransaction 17 = .ok (.invokevirtual 38, 3) := by decide +kernel
theorem d_Rea_takeTransaction_20 : decode b_Rea_takeTransaction 20 = .ok (.putfield 51, 3) := by decide +kernel
theorem d_Rea_takeTransaction_23 : decode b_Rea_takeTransaction 23 = .ok (.iconst 0, 1) := by decide +kernel
theorem d_Rea_takeTransaction_24 : decode b_Rea_takeTransaction 24 = .ok (.istore_n 2, 1) := by decide +kernel
theorem d_Rea_takeTransaction_25 : decode b_Rea_takeTransaction 25 = .ok (.iload_n 2, 1) := by decide +kernel
theorem d_Rea_takeTransaction_26 : decode b_Rea_takeTransaction 26 = .ok (.aload_n 1, 1) := by decide +kernel
theorem d_Rea_takeTransaction_27 : decode b_Rea_takeTransaction 27 = .ok (.getfield 51, 3) := by decide +kernel
theorem d_Rea_takeTransaction_30 : decode b_Rea_takeTransaction 30 = .ok (.if_icmp .ge 21, 3) := by decide +kernel
theorem d_Rea_takeTransaction_33 : decode b_Rea_takeTransaction 33 = .ok (.iload_n 2, 1) := by decide +kernel
theorem d_Rea_takeTransaction_34 : decode b_Rea_takeTransaction 34 = .ok (.bipush 8, 2) := by decide +kernel
theorem d_Rea_takeTransaction_36 : decode b_Rea_takeTransaction 36 = .ok (.if_icmp .ge 15, 3) := by decide +kernel
theorem d_Rea_takeTransaction_39 : decode b_Rea_takeTransaction 39 = .ok (.aload_n 0, 1) := by decide +kernel
theorem d_Rea_takeTransaction_40 : decode b_Rea_takeTransaction 40 = .ok (.aload_n 1, 1) := by decide +kernel
theorem d_Rea_takeTransaction_41 : decode b_Rea_takeTransaction 41 = .ok (.iload_n 2, 1) := by decide +kernel
theorem d_Rea_takeTransaction_42 : decode b_Rea_takeTransaction 42 = .ok (.invokevirtual 54, 3) := by decide +kernel
theorem d_Rea_takeTransaction_45 : decode b_Rea_takeTransaction 45 = .ok (.iinc 2 1, 3) := by decide +kernel
theorem d_Rea_takeTransaction_48 : decode b_Rea_takeTransaction 48 = .ok (.goto (-23), 3) := by decide +kernel
theorem d_Rea_takeTransaction_51 : decode b_Rea_takeTransaction 51 = .ok (.aload_n 1, 1) := by decide +kernel
theorem d_Rea_takeTransaction_52 : decode b_Rea_takeTransaction 52 = .ok (.aload_n 0, 1) := by decide +kernel
theorem d_Rea_takeTransaction_53 : decode b_Rea_takeTransaction 53 = .ok (.bipush 8, 2) := by decide +kernel
theorem d_Rea_takeTransaction_55 : decode b_Rea_takeTransaction 55 = .ok (.invokevirtual 38, 3) := by decide +kernel
theorem d_Rea_takeTransaction_58 : decode b_Rea_takeTransaction 58 = .ok (.putfield 58, 3) := by decide +kernel
theorem d_Rea_takeTransaction_61 : decode b_Rea_takeTransaction 61 = .ok (.iconst 0, 1) := by decide +kernel
theorem d_Rea_takeTransaction_62 : decode b_Rea_takeTransaction 62 = .ok (.istore_n 2, 1) := by decide +kernel
theorem d_Rea_takeTransaction_63 : decode b_Rea_takeTransaction 63 = .ok (.iload_n 2, 1) := by decide +kernel
theorem d_Rea_takeTransaction_64 : decode b_Rea_takeTransaction 64 = .ok (.aload_n 1, 1) := by decide +kernel
theorem d_Rea_takeTransaction_65 : decode b_Rea_takeTransaction 65 = .ok (.getfield 58, 3) := by decide +kernel
theorem d_Rea_takeTransaction_68 : decode b_Rea_takeTransaction 68 = .ok (.if_icmp .ge 21, 3) := by decide +kernel
theorem d_Rea_takeTransaction_71 : decode b_Rea_takeTransaction 71 = .ok (.iload_n 2, 1) := by decide +kernel
theorem d_Rea_takeTransaction_72 : decode b_Rea_takeTransaction 72 = .ok (.bipush 8, 2) := by decide +kernel
theorem d_Rea_takeTransaction_74 : decode b_Rea_takeTransaction 74 = .ok (.if_icmp .ge 15, 3) := by decide +kernel
theorem d_Rea_takeTransaction_77 : decode b_Rea_takeTransaction 77 = .ok (.aload_n 0, 1) := by decide +kernel
theorem d_Rea_takeTransaction_78 : decode b_Rea_takeTransaction 78 = .ok (.aload_n 1, 1) := by decide +kernel
theorem d_Rea_takeTransaction_79 : decode b_Rea_takeTransaction 79 = .ok (.iload_n 2, 1) := by decide +kernel
theorem d_Rea_takeTransaction_80 : decode b_Rea_takeTransaction 80 = .ok (.invokevirtual 61, 3) := by decide +kernel
theorem d_Rea_takeTransaction_83 : decode b_Rea_takeTransaction 83 = .ok (.iinc 2 1, 3) := by decide +kernel
theorem d_Rea_takeTransaction_86 : decode b_Rea_takeTransaction 86 = .ok (.goto (-23), 3) := by decide +kernel
theorem d_Rea_takeTransaction_89 : decode b_Rea_takeTransaction 89 = .ok (.aload_n 0, 1) := by decide +kernel
theorem d_Rea_takeTransaction_90 : decode b_Rea_takeTransaction 90 = .ok (.iconst 4, 1) := by decide +kernel
theorem d_Rea_takeTransaction_91 : decode b_Rea_takeTransaction 91 = .ok (.invokevirtual 34, 3) := by decide +kernel
theorem d_Rea_takeTransaction_94 : decode b_Rea_takeTransaction 94 = .ok (.aload_n 1, 1) := by decide +kernel
theorem d_Rea_takeTransaction_95 : decode b_Rea_takeTransaction 95 = .ok (.aload_n 0, 1) := by decide +kernel
theorem d_Rea_takeTransaction_96 : decode b_Rea_takeTransaction 96 = .ok (.getfield 9, 3) := by decide +kernel
theorem d_Rea_takeTransaction_99 : decode b_Rea_takeTransaction 99 = .ok (.putfield 64, 3) := by decide +kernel
theorem d_Rea_takeTransaction_102 : decode b_Rea_takeTransaction 102 = .ok (.return_, 1) := by decide +kernel
abbrev b_Rea_takeInput : ByteArray := prog_4_method_6_code
def y_Rea_takeInput : MethodName := ⟨R_Rea, "takeInput", "(LWireDesk$Transaction;I)V"⟩
theorem d_Rea_takeInput_0 : decode b_Rea_takeInput 0 = .ok (.aload_n 1, 1) := by decide +kernel
theorem d_Rea_takeInput_1 : decode b_Rea_takeInput 1 = .ok (.getfield 67, 3) := by decide +kernel
theorem d_Rea_takeInput_4 : decode b_Rea_takeInput 4 = .ok (.iload_n 2, 1) := by decide +kernel
theorem d_Rea_takeInput_5 : decode b_Rea_takeInput 5 = .ok (.aload_n 0, 1) := by decide +kernel
theorem d_Rea_takeInput_6 : decode b_Rea_takeInput 6 = .ok (.getfield 9, 3) := by decide +kernel
theorem d_Rea_takeInput_9 : decode b_Rea_takeInput 9 = .ok (.iastore, 1) := by decide +kernel
theorem d_Rea_takeInput_10 : decode b_Rea_takeInput 10 = .ok (.aload_n 0, 1) := by decide +kernel
theorem d_Rea_takeInput_11 : decode b_Rea_takeInput 11 = .ok (.bipush 36, 2) := by decide +kernel
theorem d_Rea_takeInput_13 : decode b_Rea_takeInput 13 = .ok (.invokevirtual 34, 3) := by decide +kernel
theorem d_Rea_takeInput_16 : decode b_Rea_takeInput 16 = .ok (.aload_n 0, 1) := by decide +kernel
theorem d_Rea_takeInput_17 : decode b_Rea_takeInput 17 = .ok (.sipush 200, 3) := by decide +kernel
theorem d_Rea_takeInput_20 : decode b_Rea_takeInput 20 = .ok (.invokevirtual 38, 3) := by decide +kernel
theorem d_Rea_takeInput_23 : decode b_Rea_takeInput 23 = .ok (.istore_n 3, 1) := by decide +kernel
theorem d_Rea_takeInput_24 : decode b_Rea_takeInput 24 = .ok (.aload_n 1, 1) := by decide +kernel
theorem d_Rea_takeInput_25 : decode b_Rea_takeInput 25 = .ok (.getfield 71, 3) := by decide +kernel
theorem d_Rea_takeInput_28 : decode b_Rea_takeInput 28 = .ok (.iload_n 2, 1) := by decide +kernel
theorem d_Rea_takeInput_29 : decode b_Rea_takeInput 29 = .ok (.aload_n 0, 1) := by decide +kernel
theorem d_Rea_takeInput_30 : decode b_Rea_takeInput 30 = .ok (.getfield 9, 3) := by decide +kernel
theorem d_Rea_takeInput_33 : decode b_Rea_takeInput 33 = .ok (.iastore, 1) := by decide +kernel
theorem d_Rea_takeInput_34 : decode b_Rea_takeInput 34 = .ok (.aload_n 1, 1) := by decide +kernel
theorem d_Rea_takeInput_35 : decode b_Rea_takeInput 35 = .ok (.getfield 74, 3) := by decide +kernel
theorem d_Rea_takeInput_38 : decode b_Rea_takeInput 38 = .ok (.iload_n 2, 1) := by decide +kernel
theorem d_Rea_takeInput_39 : decode b_Rea_takeInput 39 = .ok (.iload_n 3, 1) := by decide +kernel
theorem d_Rea_takeInput_40 : decode b_Rea_takeInput 40 = .ok (.iastore, 1) := by decide +kernel
theorem d_Rea_takeInput_41 : decode b_Rea_takeInput 41 = .ok (.aload_n 0, 1) := by decide +kernel
theorem d_Rea_takeInput_42 : decode b_Rea_takeInput 42 = .ok (.iload_n 3, 1) := by decide +kernel
theorem d_Rea_takeInput_43 : decode b_Rea_takeInput 43 = .ok (.iconst 4, 1) := by decide +kernel
theorem d_Rea_takeInput_44 : decode b_Rea_takeInput 44 = .ok (.iadd, 1) := by decide +kernel
theorem d_Rea_takeInput_45 : decode b_Rea_takeInput 45 = .ok (.invokevirtual 34, 3) := by decide +kernel
theorem d_Rea_takeInput_48 : decode b_Rea_takeInput 48 = .ok (.return_, 1) := by decide +kernel
abbrev b_Rea_takeOutput : ByteArray := prog_4_method_7_code
def y_Rea_takeOutput : MethodName := ⟨R_Rea, "takeOutput", "(LWireDesk$Transaction;I)V"⟩
theorem d_Rea_takeOutput_0 : decode b_Rea_takeOutput 0 = .ok (.aload_n 1, 1) := by decide +kernel
theorem d_Rea_takeOutput_1 : decode b_Rea_takeOutput 1 = .ok (.getfield 77, 3) := by decide +kernel
theorem d_Rea_takeOutput_4 : decode b_Rea_takeOutput 4 = .ok (.iload_n 2, 1) := by decide +kernel
theorem d_Rea_takeOutput_5 : decode b_Rea_takeOutput 5 = .ok (.aload_n 0, 1) := by decide +kernel
theorem d_Rea_takeOutput_6 : decode b_Rea_takeOutput 6 = .ok (.getfield 9, 3) := by decide +kernel
theorem d_Rea_takeOutput_9 : decode b_Rea_takeOutput 9 = .ok (.iastore, 1) := by decide +kernel
theorem d_Rea_takeOutput_10 : decode b_Rea_takeOutput 10 = .ok (.aload_n 0, 1) := by decide +kernel
theorem d_Rea_takeOutput_11 : decode b_Rea_takeOutput 11 = .ok (.bipush 8, 2) := by decide +kernel
theorem d_Rea_takeOutput_13 : decode b_Rea_takeOutput 13 = .ok (.invokevirtual 34, 3) := by decide +kernel
theorem d_Rea_takeOutput_16 : decode b_Rea_takeOutput 16 = .ok (.aload_n 0, 1) := by decide +kernel
theorem d_Rea_takeOutput_17 : decode b_Rea_takeOutput 17 = .ok (.sipush 200, 3) := by decide +kernel
theorem d_Rea_takeOutput_20 : decode b_Rea_takeOutput 20 = .ok (.invokevirtual 38, 3) := by decide +kernel
theorem d_Rea_takeOutput_23 : decode b_Rea_takeOutput 23 = .ok (.istore_n 3, 1) := by decide +kernel
theorem d_Rea_takeOutput_24 : decode b_Rea_takeOutput 24 = .ok (.aload_n 1, 1) := by decide +kernel
theorem d_Rea_takeOutput_25 : decode b_Rea_takeOutput 25 = .ok (.getfield 80, 3) := by decide +kernel
theorem d_Rea_takeOutput_28 : decode b_Rea_takeOutput 28 = .ok (.iload_n 2, 1) := by decide +kernel
theorem d_Rea_takeOutput_29 : decode b_Rea_takeOutput 29 = .ok (.aload_n 0, 1) := by decide +kernel
theorem d_Rea_takeOutput_30 : decode b_Rea_takeOutput 30 = .ok (.getfield 9, 3) := by decide +kernel
theorem d_Rea_takeOutput_33 : decode b_Rea_takeOutput 33 = .ok (.iastore, 1) := by decide +kernel
theorem d_Rea_takeOutput_34 : decode b_Rea_takeOutput 34 = .ok (.aload_n 1, 1) := by decide +kernel
theorem d_Rea_takeOutput_35 : decode b_Rea_takeOutput 35 = .ok (.getfield 83, 3) := by decide +kernel
theorem d_Rea_takeOutput_38 : decode b_Rea_takeOutput 38 = .ok (.iload_n 2, 1) := by decide +kernel
theorem d_Rea_takeOutput_39 : decode b_Rea_takeOutput 39 = .ok (.iload_n 3, 1) := by decide +kernel
theorem d_Rea_takeOutput_40 : decode b_Rea_takeOutput 40 = .ok (.iastore, 1) := by decide +kernel
theorem d_Rea_takeOutput_41 : decode b_Rea_takeOutput 41 = .ok (.aload_n 0, 1) := by decide +kernel
theorem d_Rea_takeOutput_42 : decode b_Rea_takeOutput 42 = .ok (.iload_n 3, 1) := by decide +kernel
theorem d_Rea_takeOutput_43 : decode b_Rea_takeOutput 43 = .ok (.invokevirtual 34, 3) := by decide +kernel
theorem d_Rea_takeOutput_46 : decode b_Rea_takeOutput 46 = .ok (.return_, 1) := by decide +kernel
abbrev b_Rea_skip : ByteArray := prog_4_method_8_code
def y_Rea_skip : MethodName := ⟨R_Rea, "skip", "(I)V"⟩
theorem d_Rea_skip_0 : decode b_Rea_skip 0 = .ok (.aload_n 0, 1) := by decide +kernel
theorem d_Rea_skip_1 : decode b_Rea_skip 1 = .ok (.getfield 15, 3) := by decide +kernel
theorem d_Rea_skip_4 : decode b_Rea_skip 4 = .ok (.ifCond .eq 4, 3) := by decide +kernel
theorem d_Rea_skip_7 : decode b_Rea_skip 7 = .ok (.return_, 1) := by decide +kernel
theorem d_Rea_skip_8 : decode b_Rea_skip 8 = .ok (.iload_n 1, 1) := by decide +kernel
theorem d_Rea_skip_9 : decode b_Rea_skip 9 = .ok (.aload_n 0, 1) := by decide +kernel
theorem d_Rea_skip_10 : decode b_Rea_skip 10 = .ok (.getfield 21, 3) := by decide +kernel
theorem d_Rea_skip_13 : decode b_Rea_skip 13 = .ok (.getfield 25, 3) := by decide +kernel
theorem d_Rea_skip_16 : decode b_Rea_skip 16 = .ok (.aload_n 0, 1) := by decide +kernel
theorem d_Rea_skip_17 : decode b_Rea_skip 17 = .ok (.getfield 9, 3) := by decide +kernel
theorem d_Rea_skip_20 : decode b_Rea_skip 20 = .ok (.isub, 1) := by decide +kernel
theorem d_Rea_skip_21 : decode b_Rea_skip 21 = .ok (.if_icmp .le 16, 3) := by decide +kernel
theorem d_Rea_skip_24 : decode b_Rea_skip 24 = .ok (.aload_n 0, 1) := by decide +kernel
theorem d_Rea_skip_25 : decode b_Rea_skip 25 = .ok (.iconst 1, 1) := by decide +kernel
theorem d_Rea_skip_26 : decode b_Rea_skip 26 = .ok (.aload_n 0, 1) := by decide +kernel
theorem d_Rea_skip_27 : decode b_Rea_skip 27 = .ok (.getfield 21, 3) := by decide +kernel
theorem d_Rea_skip_30 : decode b_Rea_skip 30 = .ok (.getfield 25, 3) := by decide +kernel
theorem d_Rea_skip_33 : decode b_Rea_skip 33 = .ok (.invokevirtual 30, 3) := by decide +kernel
theorem d_Rea_skip_36 : decode b_Rea_skip 36 = .ok (.return_, 1) := by decide +kernel
theorem d_Rea_skip_37 : decode b_Rea_skip 37 = .ok (.aload_n 0, 1) := by decide +kernel
theorem d_Rea_skip_38 : decode b_Rea_skip 38 = .ok (.dup, 1) := by decide +kernel
theorem d_Rea_skip_39 : decode b_Rea_skip 39 = .ok (.getfield 9, 3) := by decide +kernel
theorem d_Rea_skip_42 : decode b_Rea_skip 42 = .ok (.iload_n 1, 1) := by decide +kernel
theorem d_Rea_skip_43 : decode b_Rea_skip 43 = .ok (.iadd, 1) := by decide +kernel
theorem d_Rea_skip_44 : decode b_Rea_skip 44 = .ok (.putfield 9, 3) := by decide +kernel
theorem d_Rea_skip_47 : decode b_Rea_skip 47 = .ok (.return_, 1) := by decide +kernel
abbrev b_Rea_takeSize : ByteArray := prog_4_method_9_code
def y_Rea_takeSize : MethodName := ⟨R_Rea, "takeSize", "(I)I"⟩
theorem d_Rea_takeSize_0 : decode b_Rea_takeSize 0 = .ok (.aload_n 0, 1) := by decide +kernel
theorem d_Rea_takeSize_1 : decode b_Rea_takeSize 1 = .ok (.getfield 9, 3) := by decide +kernel
theorem d_Rea_takeSize_4 : decode b_Rea_takeSize 4 = .ok (.istore_n 2, 1) := by decide +kernel
theorem d_Rea_takeSize_5 : decode b_Rea_takeSize 5 = .ok (.aload_n 0, 1) := by decide +kernel
theorem d_Rea_takeSize_6 : decode b_Rea_takeSize 6 = .ok (.iconst 1, 1) := by decide +kernel
theorem d_Rea_takeSize_7 : decode b_Rea_takeSize 7 = .ok (.invokevirtual 34, 3) := by decide +kernel
theorem d_Rea_takeSize_10 : decode b_Rea_takeSize 10 = .ok (.aload_n 0, 1) := by decide +kernel
theorem d_Rea_takeSize_11 : decode b_Rea_takeSize 11 = .ok (.getfield 15, 3) := by decide +kernel
theorem d_Rea_takeSize_14 : decode b_Rea_takeSize 14 = .ok (.ifCond .eq 5, 3) := by decide +kernel
theorem d_Rea_takeSize_17 : decode b_Rea_takeSize 17 = .ok (.iconst 0, 1) := by decide +kernel
theorem d_Rea_takeSize_18 : decode b_Rea_takeSize 18 = .ok (.ireturn, 1) := by decide +kernel
theorem d_Rea_takeSize_19 : decode b_Rea_takeSize 19 = .ok (.aload_n 0, 1) := by decide +kernel
theorem d_Rea_takeSize_20 : decode b_Rea_takeSize 20 = .ok (.getfield 21, 3) := by decide +kernel
theorem d_Rea_takeSize_23 : decode b_Rea_takeSize 23 = .ok (.iload_n 2, 1) := by decide +kernel
theorem d_Rea_takeSize_24 : decode b_Rea_takeSize 24 = .ok (.invokevirtual 86, 3) := by decide +kernel
theorem d_Rea_takeSize_27 : decode b_Rea_takeSize 27 = .ok (.istore_n 3, 1) := by decide +kernel
theorem d_Rea_takeSize_28 : decode b_Rea_takeSize 28 = .ok (.iload_n 3, 1) := by decide +kernel
theorem d_Rea_takeSize_29 : decode b_Rea_takeSize 29 = .ok (.invokestatic 89, 3) := by decide +kernel
theorem d_Rea_takeSize_32 : decode b_Rea_takeSize 32 = .ok (.istore 4, 2) := by decide +kernel
theorem d_Rea_takeSize_34 : decode b_Rea_takeSize 34 = .ok (.aload_n 0, 1) := by decide +kernel
theorem d_Rea_takeSize_35 : decode b_Rea_takeSize 35 = .ok (.iload 4, 2) := by decide +kernel
theorem d_Rea_takeSize_37 : decode b_Rea_takeSize 37 = .ok (.invokevirtual 34, 3) := by decide +kernel
theorem d_Rea_takeSize_40 : decode b_Rea_takeSize 40 = .ok (.aload_n 0, 1) := by decide +kernel
theorem d_Rea_takeSize_41 : decode b_Rea_takeSize 41 = .ok (.getfield 15, 3) := by decide +kernel
theorem d_Rea_takeSize_44 : decode b_Rea_takeSize 44 = .ok (.ifCond .eq 5, 3) := by decide +kernel
theorem d_Rea_takeSize_47 : decode b_Rea_takeSize 47 = .ok (.iconst 0, 1) := by decide +kernel
theorem d_Rea_takeSize_48 : decode b_Rea_takeSize 48 = .ok (.ireturn, 1) := by decide +kernel
theorem d_Rea_takeSize_49 : decode b_Rea_takeSize 49 = .ok (.iload 4, 2) := by decide +kernel
theorem d_Rea_takeSize_51 : decode b_Rea_takeSize 51 = .ok (.ifCond .ne 8, 3) := by decide +kernel
theorem d_Rea_takeSize_54 : decode b_Rea_takeSize 54 = .ok (.iload_n 3, 1) := by decide +kernel
theorem d_Rea_takeSize_55 : decode b_Rea_takeSize 55 = .ok (.i2l, 1) := by decide +kernel
theorem d_Rea_takeSize_56 : decode b_Rea_takeSize 56 = .ok (.goto 15, 3) := by decide +kernel
theorem d_Rea_takeSize_59 : decode b_Rea_takeSize 59 = .ok (.aload_n 0, 1) := by decide +kernel
theorem d_Rea_takeSize_60 : decode b_Rea_takeSize 60 = .ok (.getfield 21, 3) := by decide +kernel
theorem d_Rea_takeSize_63 : decode b_Rea_takeSize 63 = .ok (.iload_n 2, 1) := by decide +kernel
theorem d_Rea_takeSize_64 : decode b_Rea_takeSize 64 = .ok (.iconst 1, 1) := by decide +kernel
theorem d_Rea_takeSize_65 : decode b_Rea_takeSize 65 = .ok (.iadd, 1) := by decide +kernel
theorem d_Rea_takeSize_66 : decode b_Rea_takeSize 66 = .ok (.iload 4, 2) := by decide +kernel
theorem d_Rea_takeSize_68 : decode b_Rea_takeSize 68 = .ok (.invokevirtual 92, 3) := by decide +kernel
theorem d_Rea_takeSize_71 : decode b_Rea_takeSize 71 = .ok (.lstore 5, 2) := by decide +kernel
theorem d_Rea_takeSize_73 : decode b_Rea_takeSize 73 = .ok (.lload 5, 2) := by decide +kernel
theorem d_Rea_takeSize_75 : decode b_Rea_takeSize 75 = .ok (.invokestatic 96, 3) := by decide +kernel
theorem d_Rea_takeSize_78 : decode b_Rea_takeSize 78 = .ok (.iload 4, 2) := by decide +kernel
theorem d_Rea_takeSize_80 : decode b_Rea_takeSize 80 = .ok (.if_icmp .ge 11, 3) := by decide +kernel
theorem d_Rea_takeSize_83 : decode b_Rea_takeSize 83 = .ok (.aload_n 0, 1) := by decide +kernel
theorem d_Rea_takeSize_84 : decode b_Rea_takeSize 84 = .ok (.iconst 2, 1) := by decide +kernel
theorem d_Rea_takeSize_85 : decode b_Rea_takeSize 85 = .ok (.iload_n 2, 1) := by decide +kernel
theorem d_Rea_takeSize_86 : decode b_Rea_takeSize 86 = .ok (.invokevirtual 30, 3) := by decide +kernel
theorem d_Rea_takeSize_89 : decode b_Rea_takeSize 89 = .ok (.iconst 0, 1) := by decide +kernel
theorem d_Rea_takeSize_90 : decode b_Rea_takeSize 90 = .ok (.ireturn, 1) := by decide +kernel
theorem d_Rea_takeSize_91 : decode b_Rea_takeSize 91 = .ok (.lload 5, 2) := by decide +kernel
theorem d_Rea_takeSize_93 : decode b_Rea_takeSize 93 = .ok (.lconst 0, 1) := by decide +kernel
theorem d_Rea_takeSize_94 : decode b_Rea_takeSize 94 = .ok (.lcmp, 1) := by decide +kernel
theorem d_Rea_takeSize_95 : decode b_Rea_takeSize 95 = .ok (.ifCond .lt 11, 3) := by decide +kernel
theorem d_Rea_takeSize_98 : decode b_Rea_takeSize 98 = .ok (.lload 5, 2) := by decide +kernel
theorem d_Rea_takeSize_100 : decode b_Rea_takeSize 100 = .ok (.iload_n 1, 1) := by decide +kernel
theorem d_Rea_takeSize_101 : decode b_Rea_takeSize 101 = .ok (.i2l, 1) := by decide +kernel
theorem d_Rea_takeSize_102 : decode b_Rea_takeSize 102 = .ok (.lcmp, 1) := by decide +kernel
theorem d_Rea_takeSize_103 : decode b_Rea_takeSize 103 = .ok (.ifCond .le 11, 3) := by decide +kernel
theorem d_Rea_takeSize_106 : decode b_Rea_takeSize 106 = .ok (.aload_n 0, 1) := by decide +kernel
theorem d_Rea_takeSize_107 : decode b_Rea_takeSize 107 = .ok (.iconst 3, 1) := by decide +kernel
theorem d_Rea_takeSize_108 : decode b_Rea_takeSize 108 = .ok (.iload_n 2, 1) := by decide +kernel
theorem d_Rea_takeSize_109 : decode b_Rea_takeSize 109 = .ok (.invokevirtual 30, 3) := by decide +kernel
theorem d_Rea_takeSize_112 : decode b_Rea_takeSize 112 = .ok (.iconst 0, 1) := by decide +kernel
theorem d_Rea_takeSize_113 : decode b_Rea_takeSize 113 = .ok (.ireturn, 1) := by decide +kernel
theorem d_Rea_takeSize_114 : decode b_Rea_takeSize 114 = .ok (.lload 5, 2) := by decide +kernel
theorem d_Rea_takeSize_116 : decode b_Rea_takeSize 116 = .ok (.l2i, 1) := by decide +kernel
theorem d_Rea_takeSize_117 : decode b_Rea_takeSize 117 = .ok (.ireturn, 1) := by decide +kernel
abbrev b_Rea_fail : ByteArray := prog_4_method_10_code
def y_Rea_fail : MethodName := ⟨R_Rea, "fail", "(II)V"⟩
theorem d_Rea_fail_0 : decode b_Rea_fail 0 = .ok (.aload_n 0, 1) := by decide +kernel
theorem d_Rea_fail_1 : decode b_Rea_fail 1 = .ok (.getfield 15, 3) := by decide +kernel
theorem d_Rea_fail_4 : decode b_Rea_fail 4 = .ok (.ifCond .ne 13, 3) := by decide +kernel
theorem d_Rea_fail_7 : decode b_Rea_fail 7 = .ok (.aload_n 0, 1) := by decide +kernel
theorem d_Rea_fail_8 : decode b_Rea_fail 8 = .ok (.iload_n 1, 1) := by decide +kernel
theorem d_Rea_fail_9 : decode b_Rea_fail 9 = .ok (.putfield 15, 3) := by decide +kernel
theorem d_Rea_fail_12 : decode b_Rea_fail 12 = .ok (.aload_n 0, 1) := by decide +kernel
theorem d_Rea_fail_13 : decode b_Rea_fail 13 = .ok (.iload_n 2, 1) := by decide +kernel
theorem d_Rea_fail_14 : decode b_Rea_fail 14 = .ok (.putfield 18, 3) := by decide +kernel
theorem d_Rea_fail_17 : decode b_Rea_fail 17 = .ok (.return_, 1) := by decide +kernel
abbrev b_Txt_init : ByteArray := prog_5_method_1_code
def y_Txt_init : MethodName := ⟨R_Txt, "<init>", "()V"⟩
theorem d_Txt_init_0 : decode b_Txt_init 0 = .ok (.aload_n 0, 1) := by decide +kernel
theorem d_Txt_init_1 : decode b_Txt_init 1 = .ok (.invokespecial 3, 3) := by decide +kernel
theorem d_Txt_init_4 : decode b_Txt_init 4 = .ok (.aload_n 0, 1) := by decide +kernel
theorem d_Txt_init_5 : decode b_Txt_init 5 = .ok (.sipush 2000, 3) := by decide +kernel
theorem d_Txt_init_8 : decode b_Txt_init 8 = .ok (.newarray .byte, 2) := by decide +kernel
theorem d_Txt_init_10 : decode b_Txt_init 10 = .ok (.putfield 9, 3) := by decide +kernel
theorem d_Txt_init_13 : decode b_Txt_init 13 = .ok (.aload_n 0, 1) := by decide +kernel
theorem d_Txt_init_14 : decode b_Txt_init 14 = .ok (.iconst 0, 1) := by decide +kernel
theorem d_Txt_init_15 : decode b_Txt_init 15 = .ok (.putfield 15, 3) := by decide +kernel
theorem d_Txt_init_18 : decode b_Txt_init 18 = .ok (.return_, 1) := by decide +kernel
abbrev b_Txt_clear : ByteArray := prog_5_method_2_code
def y_Txt_clear : MethodName := ⟨R_Txt, "clear", "()V"⟩
theorem d_Txt_clear_0 : decode b_Txt_clear 0 = .ok (.aload_n 0, 1) := by decide +kernel
theorem d_Txt_clear_1 : decode b_Txt_clear 1 = .ok (.iconst 0, 1) := by decide +kernel
theorem d_Txt_clear_2 : decode b_Txt_clear 2 = .ok (.putfield 15, 3) := by decide +kernel
theorem d_Txt_clear_5 : decode b_Txt_clear 5 = .ok (.return_, 1) := by decide +kernel
abbrev b_Txt_copy : ByteArray := prog_5_method_3_code
def y_Txt_copy : MethodName := ⟨R_Txt, "copy", "(LWireDesk$Text;)V"⟩
theorem d_Txt_copy_0 : decode b_Txt_copy 0 = .ok (.iconst 0, 1) := by decide +kernel
theorem d_Txt_copy_1 : decode b_Txt_copy 1 = .ok (.istore_n 2, 1) := by decide +kernel
theorem d_Txt_copy_2 : decode b_Txt_copy 2 = .ok (.iload_n 2, 1) := by decide +kernel
theorem d_Txt_copy_3 : decode b_Txt_copy 3 = .ok (.aload_n 1, 1) := by decide +kernel
theorem d_Txt_copy_4 : decode b_Txt_copy 4 = .ok (.getfield 15, 3) := by decide +kernel
theorem d_Txt_copy_7 : decode b_Txt_copy 7 = .ok (.if_icmp .ge 28, 3) := by decide +kernel
theorem d_Txt_copy_10 : decode b_Txt_copy 10 = .ok (.iload_n 2, 1) := by decide +kernel
theorem d_Txt_copy_11 : decode b_Txt_copy 11 = .ok (.sipush 2000, 3) := by decide +kernel
theorem d_Txt_copy_14 : decode b_Txt_copy 14 = .ok (.if_icmp .ge 21, 3) := by decide +kernel
theorem d_Txt_copy_17 : decode b_Txt_copy 17 = .ok (.aload_n 0, 1) := by decide +kernel
theorem d_Txt_copy_18 : decode b_Txt_copy 18 = .ok (.getfield 9, 3) := by decide +kernel
theorem d_Txt_copy_21 : decode b_Txt_copy 21 = .ok (.iload_n 2, 1) := by decide +kernel
theorem d_Txt_copy_22 : decode b_Txt_copy 22 = .ok (.aload_n 1, 1) := by decide +kernel
theorem d_Txt_copy_23 : decode b_Txt_copy 23 = .ok (.getfield 9, 3) := by decide +kernel
theorem d_Txt_copy_26 : decode b_Txt_copy 26 = .ok (.iload_n 2, 1) := by decide +kernel
theorem d_Txt_copy_27 : decode b_Txt_copy 27 = .ok (.baload, 1) := by decide +kernel
theorem d_Txt_copy_28 : decode b_Txt_copy 28 = .ok (.bastore, 1) := by decide +kernel
theorem d_Txt_copy_29 : decode b_Txt_copy 29 = .ok (.iinc 2 1, 3) := by decide +kernel
theorem d_Txt_copy_32 : decode b_Txt_copy 32 = .ok (.goto (-30), 3) := by decide +kernel
theorem d_Txt_copy_35 : decode b_Txt_copy 35 = .ok (.aload_n 0, 1) := by decide +kernel
theorem d_Txt_copy_36 : decode b_Txt_copy 36 = .ok (.aload_n 1, 1) := by decide +kernel
theorem d_Txt_copy_37 : decode b_Txt_copy 37 = .ok (.getfield 15, 3) := by decide +kernel
theorem d_Txt_copy_40 : decode b_Txt_copy 40 = .ok (.putfield 15, 3) := by decide +kernel
theorem d_Txt_copy_43 : decode b_Txt_copy 43 = .ok (.return_, 1) := by decide +kernel
abbrev b_Txt_hasRoom : ByteArray := prog_5_method_4_code
def y_Txt_hasRoom : MethodName := ⟨R_Txt, "hasRoom", "(I)Z"⟩
theorem d_Txt_hasRoom_0 : decode b_Txt_hasRoom 0 = .ok (.iload_n 1, 1) := by decide +kernel
theorem d_Txt_hasRoom_1 : decode b_Txt_hasRoom 1 = .ok (.ifCond .lt 19, 3) := by decide +kernel
theorem d_Txt_hasRoom_4 : decode b_Txt_hasRoom 4 = .ok (.iload_n 1, 1) := by decide +kernel
theorem d_Txt_hasRoom_5 : decode b_Txt_hasRoom 5 = .ok (.sipush 2000, 3) := by decide +kernel
theorem d_Txt_hasRoom_8 : decode b_Txt_hasRoom 8 = .ok (.aload_n 0, 1) := by decide +kernel
theorem d_Txt_hasRoom_9 : decode b_Txt_hasRoom 9 = .ok (.getfield 15, 3) := by decide +kernel
theorem d_Txt_hasRoom_12 : decode b_Txt_hasRoom 12 = .ok (.isub, 1) := by decide +kernel
theorem d_Txt_hasRoom_13 : decode b_Txt_hasRoom 13 = .ok (.if_icmp .gt 7, 3) := by decide +kernel
theorem d_Txt_hasRoom_16 : decode b_Txt_hasRoom 16 = .ok (.iconst 1, 1) := by decide +kernel
theorem d_Txt_hasRoom_17 : decode b_Txt_hasRoom 17 = .ok (.goto 4, 3) := by decide +kernel
theorem d_Txt_hasRoom_20 : decode b_Txt_hasRoom 20 = .ok (.iconst 0, 1) := by decide +kernel
theorem d_Txt_hasRoom_21 : decode b_Txt_hasRoom 21 = .ok (.ireturn, 1) := by decide +kernel
abbrev b_Txt_addHighFirst : ByteArray := prog_5_method_5_code
def y_Txt_addHighFirst : MethodName := ⟨R_Txt, "addHighFirst", "(JI)V"⟩
theorem d_Txt_addHighFirst_0 : decode b_Txt_addHighFirst 0 = .ok (.iload_n 3, 1) := by decide +kernel
theorem d_Txt_addHighFirst_1 : decode b_Txt_addHighFirst 1 = .ok (.iconst 1, 1) := by decide +kernel
theorem d_Txt_addHighFirst_2 : decode b_Txt_addHighFirst 2 = .ok (.isub, 1) := by decide +kernel
theorem d_Txt_addHighFirst_3 : decode b_Txt_addHighFirst 3 = .ok (.istore 4, 2) := by decide +kernel
theorem d_Txt_addHighFirst_5 : decode b_Txt_addHighFirst 5 = .ok (.iload 4, 2) := by decide +kernel
theorem d_Txt_addHighFirst_7 : decode b_Txt_addHighFirst 7 = .ok (.ifCond .lt 22, 3) := by decide +kernel
theorem d_Txt_addHighFirst_10 : decode b_Txt_addHighFirst 10 = .ok (.aload_n 0, 1) := by decide +kernel
theorem d_Txt_addHighFirst_11 : decode b_Txt_addHighFirst 11 = .ok (.lload_n 1, 1) := by decide +kernel
theorem d_Txt_addHighFirst_12 : decode b_Txt_addHighFirst 12 = .ok (.bipush 8, 2) := by decide +kernel
theorem d_Txt_addHighFirst_14 : decode b_Txt_addHighFirst 14 = .ok (.iload 4, 2) := by decide +kernel
theorem d_Txt_addHighFirst_16 : decode b_Txt_addHighFirst 16 = .ok (.imul, 1) := by decide +kernel
theorem d_Txt_addHighFirst_17 : decode b_Txt_addHighFirst 17 = .ok (.lushr, 1) := by decide +kernel
theorem d_Txt_addHighFirst_18 : decode b_Txt_addHighFirst 18 = .ok (.l2i, 1) := by decide +kernel
theorem d_Txt_addHighFirst_19 : decode b_Txt_addHighFirst 19 = .ok (.i2b, 1) := by decide +kernel
theorem d_Txt_addHighFirst_20 : decode b_Txt_addHighFirst 20 = .ok (.invokevirtual 19, 3) := by decide +kernel
theorem d_Txt_addHighFirst_23 : decode b_Txt_addHighFirst 23 = .ok (.iinc 4 (-1), 3) := by decide +kernel
theorem d_Txt_addHighFirst_26 : decode b_Txt_addHighFirst 26 = .ok (.goto (-21), 3) := by decide +kernel
theorem d_Txt_addHighFirst_29 : decode b_Txt_addHighFirst 29 = .ok (.return_, 1) := by decide +kernel
abbrev b_Txt_addLowFirst : ByteArray := prog_5_method_6_code
def y_Txt_addLowFirst : MethodName := ⟨R_Txt, "addLowFirst", "(JI)V"⟩
theorem d_Txt_addLowFirst_0 : decode b_Txt_addLowFirst 0 = .ok (.iconst 0, 1) := by decide +kernel
theorem d_Txt_addLowFirst_1 : decode b_Txt_addLowFirst 1 = .ok (.istore 4, 2) := by decide +kernel
theorem d_Txt_addLowFirst_3 : decode b_Txt_addLowFirst 3 = .ok (.iload 4, 2) := by decide +kernel
theorem d_Txt_addLowFirst_5 : decode b_Txt_addLowFirst 5 = .ok (.iload_n 3, 1) := by decide +kernel
theorem d_Txt_addLowFirst_6 : decode b_Txt_addLowFirst 6 = .ok (.if_icmp .ge 22, 3) := by decide +kernel
theorem d_Txt_addLowFirst_9 : decode b_Txt_addLowFirst 9 = .ok (.aload_n 0, 1) := by decide +kernel
theorem d_Txt_addLowFirst_10 : decode b_Txt_addLowFirst 10 = .ok (.lload_n 1, 1) := by decide +kernel
theorem d_Txt_addLowFirst_11 : decode b_Txt_addLowFirst 11 = .ok (.bipush 8, 2) := by decide +kernel
theorem d_Txt_addLowFirst_13 : decode b_Txt_addLowFirst 13 = .ok (.iload 4, 2) := by decide +kernel
theorem d_Txt_addLowFirst_15 : decode b_Txt_addLowFirst 15 = .ok (.imul, 1) := by decide +kernel
theorem d_Txt_addLowFirst_16 : decode b_Txt_addLowFirst 16 = .ok (.lushr, 1) := by decide +kernel
theorem d_Txt_addLowFirst_17 : decode b_Txt_addLowFirst 17 = .ok (.l2i, 1) := by decide +kernel
theorem d_Txt_addLowFirst_18 : decode b_Txt_addLowFirst 18 = .ok (.i2b, 1) := by decide +kernel
theorem d_Txt_addLowFirst_19 : decode b_Txt_addLowFirst 19 = .ok (.invokevirtual 19, 3) := by decide +kernel
theorem d_Txt_addLowFirst_22 : decode b_Txt_addLowFirst 22 = .ok (.iinc 4 1, 3) := by decide +kernel
theorem d_Txt_addLowFirst_25 : decode b_Txt_addLowFirst 25 = .ok (.goto (-22), 3) := by decide +kernel
theorem d_Txt_addLowFirst_28 : decode b_Txt_addLowFirst 28 = .ok (.return_, 1) := by decide +kernel
abbrev b_Txt_add : ByteArray := prog_5_method_7_code
def y_Txt_add : MethodName := ⟨R_Txt, "add", "(B)V"⟩
theorem d_Txt_add_0 : decode b_Txt_add 0 = .ok (.aload_n 0, 1) := by decide +kernel
theorem d_Txt_add_1 : decode b_Txt_add 1 = .ok (.getfield 15, 3) := by decide +kernel
theorem d_Txt_add_4 : decode b_Txt_add 4 = .ok (.ifCond .lt 33, 3) := by decide +kernel
theorem d_Txt_add_7 : decode b_Txt_add 7 = .ok (.aload_n 0, 1) := by decide +kernel
theorem d_Txt_add_8 : decode b_Txt_add 8 = .ok (.getfield 15, 3) := by decide +kernel
theorem d_Txt_add_11 : decode b_Txt_add 11 = .ok (.sipush 2000, 3) := by decide +kernel
theorem d_Txt_add_14 : decode b_Txt_add 14 = .ok (.if_icmp .ge 23, 3) := by decide +kernel
theorem d_Txt_add_17 : decode b_Txt_add 17 = .ok (.aload_n 0, 1) := by decide +kernel
theorem d_Txt_add_18 : decode b_Txt_add 18 = .ok (.getfield 9, 3) := by decide +kernel
theorem d_Txt_add_21 : decode b_Txt_add 21 = .ok (.aload_n 0, 1) := by decide +kernel
theorem d_Txt_add_22 : decode b_Txt_add 22 = .ok (.getfield 15, 3) := by decide +kernel
theorem d_Txt_add_25 : decode b_Txt_add 25 = .ok (.iload_n 1, 1) := by decide +kernel
theorem d_Txt_add_26 : decode b_Txt_add 26 = .ok (.bastore, 1) := by decide +kernel
theorem d_Txt_add_27 : decode b_Txt_add 27 = .ok (.aload_n 0, 1) := by decide +kernel
theorem d_Txt_add_28 : decode b_Txt_add 28 = .ok (.dup, 1) := by decide +kernel
theorem d_Txt_add_29 : decode b_Txt_add 29 = .ok (.getfield 15, 3) := by decide +kernel
theorem d_Txt_add_32 : decode b_Txt_add 32 = .ok (.iconst 1, 1) := by decide +kernel
theorem d_Txt_add_33 : decode b_Txt_add 33 = .ok (.iadd, 1) := by decide +kernel
theorem d_Txt_add_34 : decode b_Txt_add 34 = .ok (.putfield 15, 3) := by decide +kernel
theorem d_Txt_add_37 : decode b_Txt_add 37 = .ok (.return_, 1) := by decide +kernel
abbrev b_Txt_at : ByteArray := prog_5_method_8_code
def y_Txt_at : MethodName := ⟨R_Txt, "at", "(I)I"⟩
theorem d_Txt_at_0 : decode b_Txt_at 0 = .ok (.iload_n 1, 1) := by decide +kernel
theorem d_Txt_at_1 : decode b_Txt_at 1 = .ok (.ifCond .lt 24, 3) := by decide +kernel
theorem d_Txt_at_4 : decode b_Txt_at 4 = .ok (.iload_n 1, 1) := by decide +kernel
theorem d_Txt_at_5 : decode b_Txt_at 5 = .ok (.aload_n 0, 1) := by decide +kernel
theorem d_Txt_at_6 : decode b_Txt_at 6 = .ok (.getfield 15, 3) := by decide +kernel
theorem d_Txt_at_9 : decode b_Txt_at 9 = .ok (.if_icmp .ge 16, 3) := by decide +kernel
theorem d_Txt_at_12 : decode b_Txt_at 12 = .ok (.aload_n 0, 1) := by decide +kernel
theorem d_Txt_at_13 : decode b_Txt_at 13 = .ok (.getfield 9, 3) := by decide +kernel
theorem d_Txt_at_16 : decode b_Txt_at 16 = .ok (.iload_n 1, 1) := by decide +kernel
theorem d_Txt_at_17 : decode b_Txt_at 17 = .ok (.baload, 1) := by decide +kernel
theorem d_Txt_at_18 : decode b_Txt_at 18 = .ok (.sipush 255, 3) := by decide +kernel
theorem d_Txt_at_21 : decode b_Txt_at 21 = .ok (.iand, 1) := by decide +kernel
theorem d_Txt_at_22 : decode b_Txt_at 22 = .ok (.goto 4, 3) := by decide +kernel
theorem d_Txt_at_25 : decode b_Txt_at 25 = .ok (.iconst (-1), 1) := by decide +kernel
theorem d_Txt_at_26 : decode b_Txt_at 26 = .ok (.ireturn, 1) := by decide +kernel
abbrev b_Txt_lowFirst : ByteArray := prog_5_method_9_code
def y_Txt_lowFirst : MethodName := ⟨R_Txt, "lowFirst", "(II)J"⟩
theorem d_Txt_lowFirst_0 : decode b_Txt_lowFirst 0 = .ok (.iload_n 1, 1) := by decide +kernel
theorem d_Txt_lowFirst_1 : decode b_Txt_lowFirst 1 = .ok (.ifCond .lt 17, 3) := by decide +kernel
theorem d_Txt_lowFirst_4 : decode b_Txt_lowFirst 4 = .ok (.iload_n 2, 1) := by decide +kernel
theorem d_Txt_lowFirst_5 : decode b_Txt_lowFirst 5 = .ok (.ifCond .lt 13, 3) := by decide +kernel
theorem d_Txt_lowFirst_8 : decode b_Txt_lowFirst 8 = .ok (.iload_n 1, 1) := by decide +kernel
theorem d_Txt_lowFirst_9 : decode b_Txt_lowFirst 9 = .ok (.aload_n 0, 1) := by decide +kernel
theorem d_Txt_lowFirst_10 : decode b_Txt_lowFirst 10 = .ok (.getfield 15, 3) := by decide +kernel
theorem d_Txt_lowFirst_13 : decode b_Txt_lowFirst 13 = .ok (.iload_n 2, 1) := by decide +kernel
theorem d_Txt_lowFirst_14 : decode b_Txt_lowFirst 14 = .ok (.isub, 1) := by decide +kernel
theorem d_Txt_lowFirst_15 : decode b_Txt_lowFirst 15 = .ok (.if_icmp .le 7, 3) := by decide +kernel
theorem d_Txt_lowFirst_18 : decode b_Txt_lowFirst 18 = .ok (.ldc2_w 23, 3) := by decide +kernel
theorem d_Txt_lowFirst_21 : decode b_Txt_lowFirst 21 = .ok (.lreturn, 1) := by decide +kernel
theorem d_Txt_lowFirst_22 : decode b_Txt_lowFirst 22 = .ok (.lconst 0, 1) := by decide +kernel
theorem d_Txt_lowFirst_23 : decode b_Txt_lowFirst 23 = .ok (.lstore_n 3, 1) := by decide +kernel
theorem d_Txt_lowFirst_24 : decode b_Txt_lowFirst 24 = .ok (.iload_n 2, 1) := by decide +kernel
theorem d_Txt_lowFirst_25 : decode b_Txt_lowFirst 25 = .ok (.iconst 1, 1) := by decide +kernel
theorem d_Txt_lowFirst_26 : decode b_Txt_lowFirst 26 = .ok (.isub, 1) := by decide +kernel
theorem d_Txt_lowFirst_27 : decode b_Txt_lowFirst 27 = .ok (.istore 5, 2) := by decide +kernel
theorem d_Txt_lowFirst_29 : decode b_Txt_lowFirst 29 = .ok (.iload 5, 2) := by decide +kernel
theorem d_Txt_lowFirst_31 : decode b_Txt_lowFirst 31 = .ok (.ifCond .lt 29, 3) := by decide +kernel
theorem d_Txt_lowFirst_34 : decode b_Txt_lowFirst 34 = .ok (.lload_n 3, 1) := by decide +kernel
theorem d_Txt_lowFirst_35 : decode b_Txt_lowFirst 35 = .ok (.bipush 8, 2) := by decide +kernel
theorem d_Txt_lowFirst_37 : decode b_Txt_lowFirst 37 = .ok (.lshl, 1) := by decide +kernel
theorem d_Txt_lowFirst_38 : decode b_Txt_lowFirst 38 = .ok (.aload_n 0, 1) := by decide +kernel
theorem d_Txt_lowFirst_39 : decode b_Txt_lowFirst 39 = .ok (.getfield 9, 3) := by decide +kernel
theorem d_Txt_lowFirst_42 : decode b_Txt_lowFirst 42 = .ok (.iload_n 1, 1) := by decide +kernel
theorem d_Txt_lowFirst_43 : decode b_Txt_lowFirst 43 = .ok (.iload 5, 2) := by decide +kernel
theorem d_Txt_lowFirst_45 : decode b_Txt_lowFirst 45 = .ok (.iadd, 1) := by decide +kernel
theorem d_Txt_lowFirst_46 : decode b_Txt_lowFirst 46 = .ok (.baload, 1) := by decide +kernel
theorem d_Txt_lowFirst_47 : decode b_Txt_lowFirst 47 = .ok (.sipush 255, 3) := by decide +kernel
theorem d_Txt_lowFirst_50 : decode b_Txt_lowFirst 50 = .ok (.iand, 1) := by decide +kernel
theorem d_Txt_lowFirst_51 : decode b_Txt_lowFirst 51 = .ok (.i2l, 1) := by decide +kernel
theorem d_Txt_lowFirst_52 : decode b_Txt_lowFirst 52 = .ok (.lor, 1) := by decide +kernel
theorem d_Txt_lowFirst_53 : decode b_Txt_lowFirst 53 = .ok (.lstore_n 3, 1) := by decide +kernel
theorem d_Txt_lowFirst_54 : decode b_Txt_lowFirst 54 = .ok (.iinc 5 (-1), 3) := by decide +kernel
theorem d_Txt_lowFirst_57 : decode b_Txt_lowFirst 57 = .ok (.goto (-28), 3) := by decide +kernel
theorem d_Txt_lowFirst_60 : decode b_Txt_lowFirst 60 = .ok (.lload_n 3, 1) := by decide +kernel
theorem d_Txt_lowFirst_61 : decode b_Txt_lowFirst 61 = .ok (.lreturn, 1) := by decide +kernel
abbrev b_Tra_init : ByteArray := prog_6_method_1_code
def y_Tra_init : MethodName := ⟨R_Tra, "<init>", "()V"⟩
theorem d_Tra_init_0 : decode b_Tra_init 0 = .ok (.aload_n 0, 1) := by decide +kernel
theorem d_Tra_init_1 : decode b_Tra_init 1 = .ok (.invokespecial 3, 3) := by decide +kernel
theorem d_Tra_init_4 : decode b_Tra_init 4 = .ok (.aload_n 0, 1) := by decide +kernel
theorem d_Tra_init_5 : decode b_Tra_init 5 = .ok (.iconst 0, 1) := by decide +kernel
theorem d_Tra_init_6 : decode b_Tra_init 6 = .ok (.putfield 9, 3) := by decide +kernel
theorem d_Tra_init_9 : decode b_Tra_init 9 = .ok (.aload_n 0, 1) := by decide +kernel
theorem d_Tra_init_10 : decode b_Tra_init 10 = .ok (.iconst 0, 1) := by decide +kernel
theorem d_Tra_init_11 : decode b_Tra_init 11 = .ok (.putfield 15, 3) := by decide +kernel
theorem d_Tra_init_14 : decode b_Tra_init 14 = .ok (.aload_n 0, 1) := by decide +kernel
theorem d_Tra_init_15 : decode b_Tra_init 15 = .ok (.iconst 0, 1) := by decide +kernel
theorem d_Tra_init_16 : decode b_Tra_init 16 = .ok (.putfield 18, 3) := by decide +kernel
theorem d_Tra_init_19 : decode b_Tra_init 19 = .ok (.aload_n 0, 1) := by decide +kernel
theorem d_Tra_init_20 : decode b_Tra_init 20 = .ok (.iconst 0, 1) := by decide +kernel
theorem d_Tra_init_21 : decode b_Tra_init 21 = .ok (.putfield 21, 3) := by decide +kernel
theorem d_Tra_init_24 : decode b_Tra_init 24 = .ok (.aload_n 0, 1) := by decide +kernel
theorem d_Tra_init_25 : decode b_Tra_init 25 = .ok (.bipush 8, 2) := by decide +kernel
theorem d_Tra_init_27 : decode b_Tra_init 27 = .ok (.newarray .int, 2) := by decide +kernel
theorem d_Tra_init_29 : decode b_Tra_init 29 = .ok (.putfield 24, 3) := by decide +kernel
theorem d_Tra_init_32 : decode b_Tra_init 32 = .ok (.aload_n 0, 1) := by decide +kernel
theorem d_Tra_init_33 : decode b_Tra_init 33 = .ok (.bipush 8, 2) := by decide +kernel
theorem d_Tra_init_35 : decode b_Tra_init 35 = .ok (.newarray .int, 2) := by decide +kernel
theorem d_Tra_init_37 : decode b_Tra_init 37 = .ok (.putfield 28, 3) := by decide +kernel
theorem d_Tra_init_40 : decode b_Tra_init 40 = .ok (.aload_n 0, 1) := by decide +kernel
theorem d_Tra_init_41 : decode b_Tra_init 41 = .ok (.bipush 8, 2) := by decide +kernel
theorem d_Tra_init_43 : decode b_Tra_init 43 = .ok (.newarray .int, 2) := by decide +kernel
theorem d_Tra_init_45 : decode b_Tra_init 45 = .ok (.putfield 31, 3) := by decide +kernel
theorem d_Tra_init_48 : decode b_Tra_init 48 = .ok (.aload_n 0, 1) := by decide +kernel
theorem d_Tra_init_49 : decode b_Tra_init 49 = .ok (.bipush 8, 2) := by decide +kernel
theorem d_Tra_init_51 : decode b_Tra_init 51 = .ok (.newarray .int, 2) := by decide +kernel
theorem d_Tra_init_53 : decode b_Tra_init 53 = .ok (.putfield 34, 3) := by decide +kernel
theorem d_Tra_init_56 : decode b_Tra_init 56 = .ok (.aload_n 0, 1) := by decide +kernel
theorem d_Tra_init_57 : decode b_Tra_init 57 = .ok (.bipush 8, 2) := by decide +kernel
theorem d_Tra_init_59 : decode b_Tra_init 59 = .ok (.newarray .int, 2) := by decide +kernel
theorem d_Tra_init_61 : decode b_Tra_init 61 = .ok (.putfield 37, 3) := by decide +kernel
theorem d_Tra_init_64 : decode b_Tra_init 64 = .ok (.aload_n 0, 1) := by decide +kernel
theorem d_Tra_init_65 : decode b_Tra_init 65 = .ok (.bipush 8, 2) := by decide +kernel
theorem d_Tra_init_67 : decode b_Tra_init 67 = .ok (.newarray .int, 2) := by decide +kernel
theorem d_Tra_init_69 : decode b_Tra_init 69 = .ok (.putfield 40, 3) := by decide +kernel
theorem d_Tra_init_72 : decode b_Tra_init 72 = .ok (.return_, 1) := by decide +kernel
end
section
abbrev b_Row_init : ByteArray := prog_2_method_1_code
def y_Row_init : MethodName := ⟨R_Row, "<init>", "()V"⟩
theorem d_Row_init_0 : decode b_Row_init 0 = .ok (.aload_n 0, 1) := by decide +kernel
theorem d_Row_init_1 : decode b_Row_init 1 = .ok (.invokespecial 3, 3) := by decide +kernel
theorem d_Row_init_4 : decode b_Row_init 4 = .ok (.aload_n 0, 1) := by decide +kernel
theorem d_Row_init_5 : decode b_Row_init 5 = .ok (.sipush 384, 3) := by decide +kernel
theorem d_Row_init_8 : decode b_Row_init 8 = .ok (.newarray .byte, 2) := by decide +kernel
theorem d_Row_init_10 : decode b_Row_init 10 = .ok (.putfield 9, 3) := by decide +kernel
theorem d_Row_init_13 : decode b_Row_init 13 = .ok (.aload_n 0, 1) := by decide +kernel
theorem d_Row_init_14 : decode b_Row_init 14 = .ok (.iconst 0, 1) := by decide +kernel
theorem d_Row_init_15 : decode b_Row_init 15 = .ok (.putfield 15, 3) := by decide +kernel
theorem d_Row_init_18 : decode b_Row_init 18 = .ok (.return_, 1) := by decide +kernel
abbrev b_Row_putTogether : ByteArray := prog_2_method_2_code
def y_Row_putTogether : MethodName := ⟨R_Row, "putTogether", "([BILWireDesk$Namer;)V"⟩
theorem d_Row_putTogether_0 : decode b_Row_putTogether 0 = .ok (.aload_n 0, 1) := by decide +kernel
theorem d_Row_putTogether_1 : decode b_Row_putTogether 1 = .ok (.iconst 0, 1) := by decide +kernel
theorem d_Row_putTogether_2 : decode b_Row_putTogether 2 = .ok (.putfield 15, 3) := by decide +kernel
theorem d_Row_putTogether_5 : decode b_Row_putTogether 5 = .ok (.iconst 0, 1) := by decide +kernel
theorem d_Row_putTogether_6 : decode b_Row_putTogether 6 = .ok (.istore 4, 2) := by decide +kernel
theorem d_Row_putTogether_8 : decode b_Row_putTogether 8 = .ok (.iload 4, 2) := by decide +kernel
theorem d_Row_putTogether_10 : decode b_Row_putTogether 10 = .ok (.bipush 32, 2) := by decide +kernel
theorem d_Row_putTogether_12 : decode b_Row_putTogether 12 = .ok (.if_icmp .ge 17, 3) := by decide +kernel
theorem d_Row_putTogether_15 : decode b_Row_putTogether 15 = .ok (.aload_n 0, 1) := by decide +kernel
theorem d_Row_putTogether_16 : decode b_Row_putTogether 16 = .ok (.getfield 9, 3) := by decide +kernel
theorem d_Row_putTogether_19 : decode b_Row_putTogether 19 = .ok (.iload 4, 2) := by decide +kernel
theorem d_Row_putTogether_21 : decode b_Row_putTogether 21 = .ok (.iconst 0, 1) := by decide +kernel
theorem d_Row_putTogether_22 : decode b_Row_putTogether 22 = .ok (.bastore, 1) := by decide +kernel
theorem d_Row_putTogether_23 : decode b_Row_putTogether 23 = .ok (.iinc 4 1, 3) := by decide +kernel
theorem d_Row_putTogether_26 : decode b_Row_putTogether 26 = .ok (.goto (-18), 3) := by decide +kernel
theorem d_Row_putTogether_29 : decode b_Row_putTogether 29 = .ok (.iconst 0, 1) := by decide +kernel
theorem d_Row_putTogether_30 : decode b_Row_putTogether 30 = .ok (.istore 4, 2) := by decide +kernel
theorem d_Row_putTogether_32 : decode b_Row_putTogether 32 = .ok (.iload 4, 2) := by decide +kernel
theorem d_Row_putTogether_34 : decode b_Row_putTogether 34 = .ok (.iload_n 2, 1) := by decide +kernel
theorem d_Row_putTogether_35 : decode b_Row_putTogether 35 = .ok (.bipush 32, 2) := by decide +kernel
theorem d_Row_putTogether_37 : decode b_Row_putTogether 37 = .ok (.imul, 1) := by decide +kernel
theorem d_Row_putTogether_38 : decode b_Row_putTogether 38 = .ok (.if_icmp .ge 37, 3) := by decide +kernel
theorem d_Row_putTogether_41 : decode b_Row_putTogether 41 = .ok (.iload 4, 2) := by decide +kernel
theorem d_Row_putTogether_43 : decode b_Row_putTogether 43 = .ok (.aload_n 0, 1) := by decide +kernel
theorem d_Row_putTogether_44 : decode b_Row_putTogether 44 = .ok (.getfield 9, 3) := by decide +kernel
theorem d_Row_putTogether_47 : decode b_Row_putTogether 47 = .ok (.arraylength, 1) := by decide +kernel
theorem d_Row_putTogether_48 : decode b_Row_putTogether 48 = .ok (.if_icmp .ge 27, 3) := by decide +kernel
theorem d_Row_putTogether_51 : decode b_Row_putTogether 51 = .ok (.iload 4, 2) := by decide +kernel
theorem d_Row_putTogether_53 : decode b_Row_putTogether 53 = .ok (.aload_n 1, 1) := by decide +kernel
theorem d_Row_putTogether_54 : decode b_Row_putTogether 54 = .ok (.arraylength, 1) := by decide +kernel
theorem d_Row_putTogether_55 : decode b_Row_putTogether 55 = .ok (.if_icmp .ge 20, 3) := by decide +kernel
theorem d_Row_putTogether_58 : decode b_Row_putTogether 58 = .ok (.aload_n 0, 1) := by decide +kernel
theorem d_Row_putTogether_59 : decode b_Row_putTogether 59 = .ok (.getfield 9, 3) := by decide +kernel
theorem d_Row_putTogether_62 : decode b_Row_putTogether 62 = .ok (.iload 4, 2) := by decide +kernel
theorem d_Row_putTogether_64 : decode b_Row_putTogether 64 = .ok (.aload_n 1, 1) := by decide +kernel
theorem d_Row_putTogether_65 : decode b_Row_putTogether 65 = .ok (.iload 4, 2) := by decide +kernel
theorem d_Row_putTogether_67 : decode b_Row_putTogether 67 = .ok (.baload, 1) := by decide +kernel
theorem d_Row_putTogether_68 : decode b_Row_putTogether 68 = .ok (.bastore, 1) := by decide +kernel
theorem d_Row_putTogether_69 : decode b_Row_putTogether 69 = .ok (.iinc 4 1, 3) := by decide +kernel
theorem d_Row_putTogether_72 : decode b_Row_putTogether 72 = .ok (.goto (-40), 3) := by decide +kernel
theorem d_Row_putTogether_75 : decode b_Row_putTogether 75 = .ok (.iload_n 2, 1) := by decide +kernel
theorem d_Row_putTogether_76 : decode b_Row_putTogether 76 = .ok (.istore 4, 2) := by decide +kernel
theorem d_Row_putTogether_78 : decode b_Row_putTogether 78 = .ok (.iload 4, 2) := by decide +kernel
theorem d_Row_putTogether_80 : decode b_Row_putTogether 80 = .ok (.iconst 1, 1) := by decide +kernel
theorem d_Row_putTogether_81 : decode b_Row_putTogether 81 = .ok (.if_icmp .le 21, 3) := by decide +kernel
theorem d_Row_putTogether_84 : decode b_Row_putTogether 84 = .ok (.aload_n 0, 1) := by decide +kernel
theorem d_Row_putTogether_85 : decode b_Row_putTogether 85 = .ok (.iload 4, 2) := by decide +kernel
theorem d_Row_putTogether_87 : decode b_Row_putTogether 87 = .ok (.aload_n 3, 1) := by decide +kernel
theorem d_Row_putTogether_88 : decode b_Row_putTogether 88 = .ok (.invokevirtual 19, 3) := by decide +kernel
theorem d_Row_putTogether_91 : decode b_Row_putTogether 91 = .ok (.iload 4, 2) := by decide +kernel
theorem d_Row_putTogether_93 : decode b_Row_putTogether 93 = .ok (.iconst 1, 1) := by decide +kernel
theorem d_Row_putTogether_94 : decode b_Row_putTogether 94 = .ok (.iadd, 1) := by decide +kernel
theorem d_Row_putTogether_95 : decode b_Row_putTogether 95 = .ok (.iconst 2, 1) := by decide +kernel
theorem d_Row_putTogether_96 : decode b_Row_putTogether 96 = .ok (.idiv, 1) := by decide +kernel
theorem d_Row_putTogether_97 : decode b_Row_putTogether 97 = .ok (.istore 4, 2) := by decide +kernel
theorem d_Row_putTogether_99 : decode b_Row_putTogether 99 = .ok (.goto (-21), 3) := by decide +kernel
theorem d_Row_putTogether_102 : decode b_Row_putTogether 102 = .ok (.return_, 1) := by decide +kernel
abbrev b_Row_putPairsTogether : ByteArray := prog_2_method_3_code
def y_Row_putPairsTogether : MethodName := ⟨R_Row, "putPairsTogether", "(ILWireDesk$Namer;)V"⟩
theorem d_Row_putPairsTogether_0 : decode b_Row_putPairsTogether 0 = .ok (.iload_n 1, 1) := by decide +kernel
theorem d_Row_putPairsTogether_1 : decode b_Row_putPairsTogether 1 = .ok (.iconst 1, 1) := by decide +kernel
theorem d_Row_putPairsTogether_2 : decode b_Row_putPairsTogether 2 = .ok (.iadd, 1) := by decide +kernel
theorem d_Row_putPairsTogether_3 : decode b_Row_putPairsTogether 3 = .ok (.iconst 2, 1) := by decide +kernel
theorem d_Row_putPairsTogether_4 : decode b_Row_putPairsTogether 4 = .ok (.idiv, 1) := by decide +kernel
theorem d_Row_putPairsTogether_5 : decode b_Row_putPairsTogether 5 = .ok (.istore_n 3, 1) := by decide +kernel
theorem d_Row_putPairsTogether_6 : decode b_Row_putPairsTogether 6 = .ok (.iconst 0, 1) := by decide +kernel
theorem d_Row_putPairsTogether_7 : decode b_Row_putPairsTogether 7 = .ok (.istore 4, 2) := by decide +kernel
theorem d_Row_putPairsTogether_9 : decode b_Row_putPairsTogether 9 = .ok (.iload 4, 2) := by decide +kernel
theorem d_Row_putPairsTogether_11 : decode b_Row_putPairsTogether 11 = .ok (.iload_n 3, 1) := by decide +kernel
theorem d_Row_putPairsTogether_12 : decode b_Row_putPairsTogether 12 = .ok (.if_icmp .ge 70, 3) := by decide +kernel
theorem d_Row_putPairsTogether_15 : decode b_Row_putPairsTogether 15 = .ok (.iconst 2, 1) := by decide +kernel
theorem d_Row_putPairsTogether_16 : decode b_Row_putPairsTogether 16 = .ok (.iload 4, 2) := by decide +kernel
theorem d_Row_putPairsTogether_18 : decode b_Row_putPairsTogether 18 = .ok (.imul, 1) := by decide +kernel
theorem d_Row_putPairsTogether_19 : decode b_Row_putPairsTogether 19 = .ok (.istore 5, 2) := by decide +kernel
theorem d_Row_putPairsTogether_21 : decode b_Row_putPairsTogether 21 = .ok (.iload 5, 2) := by decide +kernel
theorem d_Row_putPairsTogether_23 : decode b_Row_putPairsTogether 23 = .ok (.iconst 1, 1) := by decide +kernel
theorem d_Row_putPairsTogether_24 : decode b_Row_putPairsTogether 24 = .ok (.iadd, 1) := by decide +kernel
theorem d_Row_putPairsTogether_25 : decode b_Row_putPairsTogether 25 = .ok (.iload_n 1, 1) := by decide +kernel
theorem d_Row_putPairsTogether_26 : decode b_Row_putPairsTogether 26 = .ok (.if_icmp .ne 12, 3) := by decide +kernel
theorem d_Row_putPairsTogether_29 : decode b_Row_putPairsTogether 29 = .ok (.aload_n 0, 1) := by decide +kernel
theorem d_Row_putPairsTogether_30 : decode b_Row_putPairsTogether 30 = .ok (.iload 5, 2) := by decide +kernel
theorem d_Row_putPairsTogether_32 : decode b_Row_putPairsTogether 32 = .ok (.invokevirtual 23, 3) := by decide +kernel
theorem d_Row_putPairsTogether_35 : decode b_Row_putPairsTogether 35 = .ok (.goto 17, 3) := by decide +kernel
theorem d_Row_putPairsTogether_38 : decode b_Row_putPairsTogether 38 = .ok (.aload_n 0, 1) := by decide +kernel
theorem d_Row_putPairsTogether_39 : decode b_Row_putPairsTogether 39 = .ok (.iload 5, 2) := by decide +kernel
theorem d_Row_putPairsTogether_41 : decode b_Row_putPairsTogether 41 = .ok (.invokevirtual 27, 3) := by decide +kernel
theorem d_Row_putPairsTogether_44 : decode b_Row_putPairsTogether 44 = .ok (.ifCond .eq 8, 3) := by decide +kernel
theorem d_Row_putPairsTogether_47 : decode b_Row_putPairsTogether 47 = .ok (.aload_n 0, 1) := by decide +kernel
theorem d_Row_putPairsTogether_48 : decode b_Row_putPairsTogether 48 = .ok (.iconst 1, 1) := by decide +kernel
theorem d_Row_putPairsTogether_49 : decode b_Row_putPairsTogether 49 = .ok (.putfield 15, 3) := by decide +kernel
theorem d_Row_putPairsTogether_52 : decode b_Row_putPairsTogether 52 = .ok (.aload_n 2, 1) := by decide +kernel
theorem d_Row_putPairsTogether_53 : decode b_Row_putPairsTogether 53 = .ok (.aload_n 0, 1) := by decide +kernel
theorem d_Row_putPairsTogether_54 : decode b_Row_putPairsTogether 54 = .ok (.getfield 9, 3) := by decide +kernel
theorem d_Row_putPairsTogether_57 : decode b_Row_putPairsTogether 57 = .ok (.iload 5, 2) := by decide +kernel
theorem d_Row_putPairsTogether_59 : decode b_Row_putPairsTogether 59 = .ok (.bipush 32, 2) := by decide +kernel
theorem d_Row_putPairsTogether_61 : decode b_Row_putPairsTogether 61 = .ok (.imul, 1) := by decide +kernel
theorem d_Row_putPairsTogether_62 : decode b_Row_putPairsTogether 62 = .ok (.bipush 64, 2) := by decide +kernel
theorem d_Row_putPairsTogether_64 : decode b_Row_putPairsTogether 64 = .ok (.aload_n 0, 1) := by decide +kernel
theorem d_Row_putPairsTogether_65 : decode b_Row_putPairsTogether 65 = .ok (.getfield 9, 3) := by decide +kernel
theorem d_Row_putPairsTogether_68 : decode b_Row_putPairsTogether 68 = .ok (.iload 4, 2) := by decide +kernel
theorem d_Row_putPairsTogether_70 : decode b_Row_putPairsTogether 70 = .ok (.bipush 32, 2) := by decide +kernel
theorem d_Row_putPairsTogether_72 : decode b_Row_putPairsTogether 72 = .ok (.imul, 1) := by decide +kernel
theorem d_Row_putPairsTogether_73 : decode b_Row_putPairsTogether 73 = .ok (.invokevirtual 31, 3) := by decide +kernel
theorem d_Row_putPairsTogether_76 : decode b_Row_putPairsTogether 76 = .ok (.iinc 4 1, 3) := by decide +kernel
theorem d_Row_putPairsTogether_79 : decode b_Row_putPairsTogether 79 = .ok (.goto (-70), 3) := by decide +kernel
theorem d_Row_putPairsTogether_82 : decode b_Row_putPairsTogether 82 = .ok (.return_, 1) := by decide +kernel
abbrev b_Row_repeat : ByteArray := prog_2_method_4_code
def y_Row_repeat : MethodName := ⟨R_Row, "repeat", "(I)V"⟩
theorem d_Row_repeat_0 : decode b_Row_repeat 0 = .ok (.iload_n 1, 1) := by decide +kernel
theorem d_Row_repeat_1 : decode b_Row_repeat 1 = .ok (.bipush 32, 2) := by decide +kernel
theorem d_Row_repeat_3 : decode b_Row_repeat 3 = .ok (.imul, 1) := by decide +kernel
theorem d_Row_repeat_4 : decode b_Row_repeat 4 = .ok (.istore_n 2, 1) := by decide +kernel
theorem d_Row_repeat_5 : decode b_Row_repeat 5 = .ok (.iload_n 2, 1) := by decide +kernel
theorem d_Row_repeat_6 : decode b_Row_repeat 6 = .ok (.ifCond .lt 15, 3) := by decide +kernel
theorem d_Row_repeat_9 : decode b_Row_repeat 9 = .ok (.iload_n 2, 1) := by decide +kernel
theorem d_Row_repeat_10 : decode b_Row_repeat 10 = .ok (.aload_n 0, 1) := by decide +kernel
theorem d_Row_repeat_11 : decode b_Row_repeat 11 = .ok (.getfield 9, 3) := by decide +kernel
theorem d_Row_repeat_14 : decode b_Row_repeat 14 = .ok (.arraylength, 1) := by decide +kernel
theorem d_Row_repeat_15 : decode b_Row_repeat 15 = .ok (.bipush 64, 2) := by decide +kernel
theorem d_Row_repeat_17 : decode b_Row_repeat 17 = .ok (.isub, 1) := by decide +kernel
theorem d_Row_repeat_18 : decode b_Row_repeat 18 = .ok (.if_icmp .le 4, 3) := by decide +kernel
theorem d_Row_repeat_21 : decode b_Row_repeat 21 = .ok (.return_, 1) := by decide +kernel
theorem d_Row_repeat_22 : decode b_Row_repeat 22 = .ok (.iconst 0, 1) := by decide +kernel
theorem d_Row_repeat_23 : decode b_Row_repeat 23 = .ok (.istore_n 3, 1) := by decide +kernel
theorem d_Row_repeat_24 : decode b_Row_repeat 24 = .ok (.iload_n 3, 1) := by decide +kernel
theorem d_Row_repeat_25 : decode b_Row_repeat 25 = .ok (.bipush 32, 2) := by decide +kernel
theorem d_Row_repeat_27 : decode b_Row_repeat 27 = .ok (.if_icmp .ge 28, 3) := by decide +kernel
theorem d_Row_repeat_30 : decode b_Row_repeat 30 = .ok (.aload_n 0, 1) := by decide +kernel
theorem d_Row_repeat_31 : decode b_Row_repeat 31 = .ok (.getfield 9, 3) := by decide +kernel
theorem d_Row_repeat_34 : decode b_Row_repeat 34 = .ok (.iload_n 2, 1) := by decide +kernel
theorem d_Row_repeat_35 : decode b_Row_repeat 35 = .ok (.bipush 32, 2) := by decide +kernel
theorem d_Row_repeat_37 : decode b_Row_repeat 37 = .ok (.iadd, 1) := by decide +kernel
theorem d_Row_repeat_38 : decode b_Row_repeat 38 = .ok (.iload_n 3, 1) := by decide +kernel
theorem d_Row_repeat_39 : decode b_Row_repeat 39 = .ok (.iadd, 1) := by decide +kernel
theorem d_Row_repeat_40 : decode b_Row_repeat 40 = .ok (.aload_n 0, 1) := by decide +kernel
theorem d_Row_repeat_41 : decode b_Row_repeat 41 = .ok (.getfield 9, 3) := by decide +kernel
theorem d_Row_repeat_44 : decode b_Row_repeat 44 = .ok (.iload_n 2, 1) := by decide +kernel
theorem d_Row_repeat_45 : decode b_Row_repeat 45 = .ok (.iload_n 3, 1) := by decide +kernel
theorem d_Row_repeat_46 : decode b_Row_repeat 46 = .ok (.iadd, 1) := by decide +kernel
theorem d_Row_repeat_47 : decode b_Row_repeat 47 = .ok (.baload, 1) := by decide +kernel
theorem d_Row_repeat_48 : decode b_Row_repeat 48 = .ok (.bastore, 1) := by decide +kernel
theorem d_Row_repeat_49 : decode b_Row_repeat 49 = .ok (.iinc 3 1, 3) := by decide +kernel
theorem d_Row_repeat_52 : decode b_Row_repeat 52 = .ok (.goto (-28), 3) := by decide +kernel
theorem d_Row_repeat_55 : decode b_Row_repeat 55 = .ok (.return_, 1) := by decide +kernel
abbrev b_Row_alike : ByteArray := prog_2_method_5_code
def y_Row_alike : MethodName := ⟨R_Row, "alike", "(I)Z"⟩
theorem d_Row_alike_0 : decode b_Row_alike 0 = .ok (.iload_n 1, 1) := by decide +kernel
theorem d_Row_alike_1 : decode b_Row_alike 1 = .ok (.bipush 32, 2) := by decide +kernel
theorem d_Row_alike_3 : decode b_Row_alike 3 = .ok (.imul, 1) := by decide +kernel
theorem d_Row_alike_4 : decode b_Row_alike 4 = .ok (.istore_n 2, 1) := by decide +kernel
theorem d_Row_alike_5 : decode b_Row_alike 5 = .ok (.iload_n 2, 1) := by decide +kernel
theorem d_Row_alike_6 : decode b_Row_alike 6 = .ok (.ifCond .lt 15, 3) := by decide +kernel
theorem d_Row_alike_9 : decode b_Row_alike 9 = .ok (.iload_n 2, 1) := by decide +kernel
theorem d_Row_alike_10 : decode b_Row_alike 10 = .ok (.aload_n 0, 1) := by decide +kernel
theorem d_Row_alike_11 : decode b_Row_alike 11 = .ok (.getfield 9, 3) := by decide +kernel
theorem d_Row_alike_14 : decode b_Row_alike 14 = .ok (.arraylength, 1) := by decide +kernel
theorem d_Row_alike_15 : decode b_Row_alike 15 = .ok (.bipush 64, 2) := by decide +kernel
theorem d_Row_alike_17 : decode b_Row_alike 17 = .ok (.isub, 1) := by decide +kernel
theorem d_Row_alike_18 : decode b_Row_alike 18 = .ok (.if_icmp .le 5, 3) := by decide +kernel
theorem d_Row_alike_21 : decode b_Row_alike 21 = .ok (.iconst 0, 1) := by decide +kernel
theorem d_Row_alike_22 : decode b_Row_alike 22 = .ok (.ireturn, 1) := by decide +kernel
theorem d_Row_alike_23 : decode b_Row_alike 23 = .ok (.iconst 0, 1) := by decide +kernel
theorem d_Row_alike_24 : decode b_Row_alike 24 = .ok (.istore_n 3, 1) := by decide +kernel
theorem d_Row_alike_25 : decode b_Row_alike 25 = .ok (.iload_n 3, 1) := by decide +kernel
theorem d_Row_alike_26 : decode b_Row_alike 26 = .ok (.bipush 32, 2) := by decide +kernel
theorem d_Row_alike_28 : decode b_Row_alike 28 = .ok (.if_icmp .ge 33, 3) := by decide +kernel
theorem d_Row_alike_31 : decode b_Row_alike 31 = .ok (.aload_n 0, 1) := by decide +kernel
theorem d_Row_alike_32 : decode b_Row_alike 32 = .ok (.getfield 9, 3) := by decide +kernel
theorem d_Row_alike_35 : decode b_Row_alike 35 = .ok (.iload_n 2, 1) := by decide +kernel
theorem d_Row_alike_36 : decode b_Row_alike 36 = .ok (.iload_n 3, 1) := by decide +kernel
theorem d_Row_alike_37 : decode b_Row_alike 37 = .ok (.iadd, 1) := by decide +kernel
theorem d_Row_alike_38 : decode b_Row_alike 38 = .ok (.baload, 1) := by decide +kernel
theorem d_Row_alike_39 : decode b_Row_alike 39 = .ok (.aload_n 0, 1) := by decide +kernel
theorem d_Row_alike_40 : decode b_Row_alike 40 = .ok (.getfield 9, 3) := by decide +kernel
theorem d_Row_alike_43 : decode b_Row_alike 43 = .ok (.iload_n 2, 1) := by decide +kernel
theorem d_Row_alike_44 : decode b_Row_alike 44 = .ok (.bipush 32, 2) := by decide +kernel
theorem d_Row_alike_46 : decode b_Row_alike 46 = .ok (.iadd, 1) := by decide +kernel
theorem d_Row_alike_47 : decode b_Row_alike 47 = .ok (.iload_n 3, 1) := by decide +kernel
theorem d_Row_alike_48 : decode b_Row_alike 48 = .ok (.iadd, 1) := by decide +kernel
theorem d_Row_alike_49 : decode b_Row_alike 49 = .ok (.baload, 1) := by decide +kernel
theorem d_Row_alike_50 : decode b_Row_alike 50 = .ok (.if_icmp .eq 5, 3) := by decide +kernel
theorem d_Row_alike_53 : decode b_Row_alike 53 = .ok (.iconst 0, 1) := by decide +kernel
theorem d_Row_alike_54 : decode b_Row_alike 54 = .ok (.ireturn, 1) := by decide +kernel
theorem d_Row_alike_55 : decode b_Row_alike 55 = .ok (.iinc 3 1, 3) := by decide +kernel
theorem d_Row_alike_58 : decode b_Row_alike 58 = .ok (.goto (-33), 3) := by decide +kernel
theorem d_Row_alike_61 : decode b_Row_alike 61 = .ok (.iconst 1, 1) := by decide +kernel
theorem d_Row_alike_62 : decode b_Row_alike 62 = .ok (.ireturn, 1) := by decide +kernel
abbrev b_Nam_init : ByteArray := prog_3_method_1_code
def y_Nam_init : MethodName := ⟨R_Nam, "<init>", "()V"⟩
theorem d_Nam_init_0 : decode b_Nam_init 0 = .ok (.aload_n 0, 1) := by decide +kernel
theorem d_Nam_init_1 : decode b_Nam_init 1 = .ok (.invokespecial 3, 3) := by decide +kernel
theorem d_Nam_init_4 : decode b_Nam_init 4 = .ok (.aload_n 0, 1) := by decide +kernel
theorem d_Nam_init_5 : decode b_Nam_init 5 = .ok (.bipush 8, 2) := by decide +kernel
theorem d_Nam_init_7 : decode b_Nam_init 7 = .ok (.newarray .int, 2) := by decide +kernel
theorem d_Nam_init_9 : decode b_Nam_init 9 = .ok (.putfield 9, 3) := by decide +kernel
theorem d_Nam_init_12 : decode b_Nam_init 12 = .ok (.aload_n 0, 1) := by decide +kernel
theorem d_Nam_init_13 : decode b_Nam_init 13 = .ok (.bipush 64, 2) := by decide +kernel
theorem d_Nam_init_15 : decode b_Nam_init 15 = .ok (.newarray .int, 2) := by decide +kernel
theorem d_Nam_init_17 : decode b_Nam_init 17 = .ok (.putfield 15, 3) := by decide +kernel
theorem d_Nam_init_20 : decode b_Nam_init 20 = .ok (.aload_n 0, 1) := by decide +kernel
theorem d_Nam_init_21 : decode b_Nam_init 21 = .ok (.bipush 32, 2) := by decide +kernel
theorem d_Nam_init_23 : decode b_Nam_init 23 = .ok (.newarray .byte, 2) := by decide +kernel
theorem d_Nam_init_25 : decode b_Nam_init 25 = .ok (.putfield 18, 3) := by decide +kernel
theorem d_Nam_init_28 : decode b_Nam_init 28 = .ok (.return_, 1) := by decide +kernel
abbrev b_Nam_writeName : ByteArray := prog_3_method_2_code
def y_Nam_writeName : MethodName := ⟨R_Nam, "writeName", "([BII[BI)V"⟩
theorem d_Nam_writeName_0 : decode b_Nam_writeName 0 = .ok (.iload_n 2, 1) := by decide +kernel
theorem d_Nam_writeName_1 : decode b_Nam_writeName 1 = .ok (.ifCond .lt 15, 3) := by decide +kernel
theorem d_Nam_writeName_4 : decode b_Nam_writeName 4 = .ok (.iload_n 3, 1) := by decide +kernel
theorem d_Nam_writeName_5 : decode b_Nam_writeName 5 = .ok (.ifCond .lt 11, 3) := by decide +kernel
theorem d_Nam_writeName_8 : decode b_Nam_writeName 8 = .ok (.iload_n 2, 1) := by decide +kernel
theorem d_Nam_writeName_9 : decode b_Nam_writeName 9 = .ok (.aload_n 1, 1) := by decide +kernel
theorem d_Nam_writeName_10 : decode b_Nam_writeName 10 = .ok (.arraylength, 1) := by decide +kernel
theorem d_Nam_writeName_11 : decode b_Nam_writeName 11 = .ok (.iload_n 3, 1) := by decide +kernel
theorem d_Nam_writeName_12 : decode b_Nam_writeName 12 = .ok (.isub, 1) := by decide +kernel
theorem d_Nam_writeName_13 : decode b_Nam_writeName 13 = .ok (.if_icmp .le 4, 3) := by decide +kernel
theorem d_Nam_writeName_16 : decode b_Nam_writeName 16 = .ok (.return_, 1) := by decide +kernel
theorem d_Nam_writeName_17 : decode b_Nam_writeName 17 = .ok (.aload_n 0, 1) := by decide +kernel
theorem d_Nam_writeName_18 : decode b_Nam_writeName 18 = .ok (.aload_n 1, 1) := by decide +kernel
theorem d_Nam_writeName_19 : decode b_Nam_writeName 19 = .ok (.iload_n 2, 1) := by decide +kernel
theorem d_Nam_writeName_20 : decode b_Nam_writeName 20 = .ok (.iload_n 3, 1) := by decide +kernel
theorem d_Nam_writeName_21 : decode b_Nam_writeName 21 = .ok (.invokevirtual 22, 3) := by decide +kernel
theorem d_Nam_writeName_24 : decode b_Nam_writeName 24 = .ok (.aload_n 0, 1) := by decide +kernel
theorem d_Nam_writeName_25 : decode b_Nam_writeName 25 = .ok (.aload_n 0, 1) := by decide +kernel
theorem d_Nam_writeName_26 : decode b_Nam_writeName 26 = .ok (.getfield 18, 3) := by decide +kernel
theorem d_Nam_writeName_29 : decode b_Nam_writeName 29 = .ok (.iconst 0, 1) := by decide +kernel
theorem d_Nam_writeName_30 : decode b_Nam_writeName 30 = .ok (.invokevirtual 26, 3) := by decide +kernel
theorem d_Nam_writeName_33 : decode b_Nam_writeName 33 = .ok (.aload_n 0, 1) := by decide +kernel
theorem d_Nam_writeName_34 : decode b_Nam_writeName 34 = .ok (.aload_n 0, 1) := by decide +kernel
theorem d_Nam_writeName_35 : decode b_Nam_writeName 35 = .ok (.getfield 18, 3) := by decide +kernel
theorem d_Nam_writeName_38 : decode b_Nam_writeName 38 = .ok (.iconst 0, 1) := by decide +kernel
theorem d_Nam_writeName_39 : decode b_Nam_writeName 39 = .ok (.bipush 32, 2) := by decide +kernel
theorem d_Nam_writeName_41 : decode b_Nam_writeName 41 = .ok (.invokevirtual 22, 3) := by decide +kernel
theorem d_Nam_writeName_44 : decode b_Nam_writeName 44 = .ok (.aload_n 0, 1) := by decide +kernel
theorem d_Nam_writeName_45 : decode b_Nam_writeName 45 = .ok (.aload 4, 2) := by decide +kernel
theorem d_Nam_writeName_47 : decode b_Nam_writeName 47 = .ok (.iload 5, 2) := by decide +kernel
theorem d_Nam_writeName_49 : decode b_Nam_writeName 49 = .ok (.invokevirtual 26, 3) := by decide +kernel
theorem d_Nam_writeName_52 : decode b_Nam_writeName 52 = .ok (.return_, 1) := by decide +kernel
abbrev b_Nam_digest : ByteArray := prog_3_method_3_code
def y_Nam_digest : MethodName := ⟨R_Nam, "digest", "([BII)V"⟩
theorem d_Nam_digest_0 : decode b_Nam_digest 0 = .ok (.iconst 0, 1) := by decide +kernel
theorem d_Nam_digest_1 : decode b_Nam_digest 1 = .ok (.istore 4, 2) := by decide +kernel
theorem d_Nam_digest_3 : decode b_Nam_digest 3 = .ok (.iload 4, 2) := by decide +kernel
theorem d_Nam_digest_5 : decode b_Nam_digest 5 = .ok (.bipush 8, 2) := by decide +kernel
theorem d_Nam_digest_7 : decode b_Nam_digest 7 = .ok (.if_icmp .ge 22, 3) := by decide +kernel
theorem d_Nam_digest_10 : decode b_Nam_digest 10 = .ok (.aload_n 0, 1) := by decide +kernel
theorem d_Nam_digest_11 : decode b_Nam_digest 11 = .ok (.getfield 9, 3) := by decide +kernel
theorem d_Nam_digest_14 : decode b_Nam_digest 14 = .ok (.iload 4, 2) := by decide +kernel
theorem d_Nam_digest_16 : decode b_Nam_digest 16 = .ok (.getstatic 30, 3) := by decide +kernel
theorem d_Nam_digest_19 : decode b_Nam_digest 19 = .ok (.iload 4, 2) := by decide +kernel
theorem d_Nam_digest_21 : decode b_Nam_digest 21 = .ok (.iaload, 1) := by decide +kernel
theorem d_Nam_digest_22 : decode b_Nam_digest 22 = .ok (.iastore, 1) := by decide +kernel
theorem d_Nam_digest_23 : decode b_Nam_digest 23 = .ok (.iinc 4 1, 3) := by decide +kernel
theorem d_Nam_digest_26 : decode b_Nam_digest 26 = .ok (.goto (-23), 3) := by decide +kernel
theorem d_Nam_digest_29 : decode b_Nam_digest 29 = .ok (.iload_n 3, 1) := by decide +kernel
theorem d_Nam_digest_30 : decode b_Nam_digest 30 = .ok (.bipush 8, 2) := by decide +kernel
theorem d_Nam_digest_32 : decode b_Nam_digest 32 = .ok (.iadd, 1) := by decide +kernel
theorem d_Nam_digest_33 : decode b_Nam_digest 33 = .ok (.bipush 64, 2) := by decide +kernel
theorem d_Nam_digest_35 : decode b_Nam_digest 35 = .ok (.idiv, 1) := by decide +kernel
theorem d_Nam_digest_36 : decode b_Nam_digest 36 = .ok (.iconst 1, 1) := by decide +kernel
theorem d_Nam_digest_37 : decode b_Nam_digest 37 = .ok (.iadd, 1) := by decide +kernel
theorem d_Nam_digest_38 : decode b_Nam_digest 38 = .ok (.istore 4, 2) := by decide +kernel
theorem d_Nam_digest_40 : decode b_Nam_digest 40 = .ok (.iconst 0, 1) := by decide +kernel
theorem d_Nam_digest_41 : decode b_Nam_digest 41 = .ok (.istore 5, 2) := by decide +kernel
theorem d_Nam_digest_43 : decode b_Nam_digest 43 = .ok (.iload 5, 2) := by decide +kernel
theorem d_Nam_digest_45 : decode b_Nam_digest 45 = .ok (.iload 4, 2) := by decide +kernel
theorem d_Nam_digest_47 : decode b_Nam_digest 47 = .ok (.if_icmp .ge 73, 3) := by decide +kernel
theorem d_Nam_digest_50 : decode b_Nam_digest 50 = .ok (.iconst 0, 1) := by decide +kernel
theorem d_Nam_digest_51 : decode b_Nam_digest 51 = .ok (.istore 6, 2) := by decide +kernel
theorem d_Nam_digest_53 : decode b_Nam_digest 53 = .ok (.iload 6, 2) := by decide +kernel
theorem d_Nam_digest_55 : decode b_Nam_digest 55 = .ok (.bipush 64, 2) := by decide +kernel
theorem d_Nam_digest_57 : decode b_Nam_digest 57 = .ok (.if_icmp .ge 49, 3) := by decide +kernel
theorem d_Nam_digest_60 : decode b_Nam_digest 60 = .ok (.aload_n 1, 1) := by decide +kernel
theorem d_Nam_digest_61 : decode b_Nam_digest 61 = .ok (.iload_n 2, 1) := by decide +kernel
theorem d_Nam_digest_62 : decode b_Nam_digest 62 = .ok (.iload_n 3, 1) := by decide +kernel
theorem d_Nam_digest_63 : decode b_Nam_digest 63 = .ok (.iload 5, 2) := by decide +kernel
theorem d_Nam_digest_65 : decode b_Nam_digest 65 = .ok (.bipush 64, 2) := by decide +kernel
theorem d_Nam_digest_67 : decode b_Nam_digest 67 = .ok (.imul, 1) := by decide +kernel
theorem d_Nam_digest_68 : decode b_Nam_digest 68 = .ok (.iload 6, 2) := by decide +kernel
theorem d_Nam_digest_70 : decode b_Nam_digest 70 = .ok (.iadd, 1) := by decide +kernel
theorem d_Nam_digest_71 : decode b_Nam_digest 71 = .ok (.invokestatic 33, 3) := by decide +kernel
theorem d_Nam_digest_74 : decode b_Nam_digest 74 = .ok (.istore 7, 2) := by decide +kernel
theorem d_Nam_digest_76 : decode b_Nam_digest 76 = .ok (.aload_n 0, 1) := by decide +kernel
theorem d_Nam_digest_77 : decode b_Nam_digest 77 = .ok (.getfield 15, 3) := by decide +kernel
theorem d_Nam_digest_80 : decode b_Nam_digest 80 = .ok (.iload 6, 2) := by decide +kernel
theorem d_Nam_digest_82 : decode b_Nam_digest 82 = .ok (.iconst 4, 1) := by decide +kernel
theorem d_Nam_digest_83 : decode b_Nam_digest 83 = .ok (.idiv, 1) := by decide +kernel
theorem d_Nam_digest_84 : decode b_Nam_digest 84 = .ok (.aload_n 0, 1) := by decide +kernel
theorem d_Nam_digest_85 : decode b_Nam_digest 85 = .ok (.getfield 15, 3) := by decide +kernel
theorem d_Nam_digest_88 : decode b_Nam_digest 88 = .ok (.iload 6, 2) := by decide +kernel
theorem d_Nam_digest_90 : decode b_Nam_digest 90 = .ok (.iconst 4, 1) := by decide +kernel
theorem d_Nam_digest_91 : decode b_Nam_digest 91 = .ok (.idiv, 1) := by decide +kernel
theorem d_Nam_digest_92 : decode b_Nam_digest 92 = .ok (.iaload, 1) := by decide +kernel
theorem d_Nam_digest_93 : decode b_Nam_digest 93 = .ok (.bipush 8, 2) := by decide +kernel
theorem d_Nam_digest_95 : decode b_Nam_digest 95 = .ok (.ishl, 1) := by decide +kernel
theorem d_Nam_digest_96 : decode b_Nam_digest 96 = .ok (.iload 7, 2) := by decide +kernel
theorem d_Nam_digest_98 : decode b_Nam_digest 98 = .ok (.ior, 1) := by decide +kernel
theorem d_Nam_digest_99 : decode b_Nam_digest 99 = .ok (.iastore, 1) := by decide +kernel
theorem d_Nam_digest_100 : decode b_Nam_digest 100 = .ok (.iinc 6 1, 3) := by decide +kernel
theorem d_Nam_digest_103 : decode b_Nam_digest 103 = .ok (.goto (-50), 3) := by decide +kernel
theorem d_Nam_digest_106 : decode b_Nam_digest 106 = .ok (.aload_n 0, 1) := by decide +kernel
theorem d_Nam_digest_107 : decode b_Nam_digest 107 = .ok (.invokevirtual 37, 3) := by decide +kernel
theorem d_Nam_digest_110 : decode b_Nam_digest 110 = .ok (.aload_n 0, 1) := by decide +kernel
theorem d_Nam_digest_111 : decode b_Nam_digest 111 = .ok (.invokevirtual 40, 3) := by decide +kernel
theorem d_Nam_digest_114 : decode b_Nam_digest 114 = .ok (.iinc 5 1, 3) := by decide +kernel
theorem d_Nam_digest_117 : decode b_Nam_digest 117 = .ok (.goto (-74), 3) := by decide +kernel
theorem d_Nam_digest_120 : decode b_Nam_digest 120 = .ok (.return_, 1) := by decide +kernel
abbrev b_Nam_paddedByte : ByteArray := prog_3_method_4_code
def y_Nam_paddedByte : MethodName := ⟨R_Nam, "paddedByte", "([BIII)I"⟩
theorem d_Nam_paddedByte_0 : decode b_Nam_paddedByte 0 = .ok (.iload_n 3, 1) := by decide +kernel
theorem d_Nam_paddedByte_1 : decode b_Nam_paddedByte 1 = .ok (.iload_n 2, 1) := by decide +kernel
theorem d_Nam_paddedByte_2 : decode b_Nam_paddedByte 2 = .ok (.if_icmp .ge 13, 3) := by decide +kernel
theorem d_Nam_paddedByte_5 : decode b_Nam_paddedByte 5 = .ok (.aload_n 0, 1) := by decide +kernel
theorem d_Nam_paddedByte_6 : decode b_Nam_paddedByte 6 = .ok (.iload_n 1, 1) := by decide +kernel
theorem d_Nam_paddedByte_7 : decode b_Nam_paddedByte 7 = .ok (.iload_n 3, 1) := by decide +kernel
theorem d_Nam_paddedByte_8 : decode b_Nam_paddedByte 8 = .ok (.iadd, 1) := by decide +kernel
theorem d_Nam_paddedByte_9 : decode b_Nam_paddedByte 9 = .ok (.baload, 1) := by decide +kernel
theorem d_Nam_paddedByte_10 : decode b_Nam_paddedByte 10 = .ok (.sipush 255, 3) := by decide +kernel
theorem d_Nam_paddedByte_13 : decode b_Nam_paddedByte 13 = .ok (.iand, 1) := by decide +kernel
theorem d_Nam_paddedByte_14 : decode b_Nam_paddedByte 14 = .ok (.ireturn, 1) := by decide +kernel
theorem d_Nam_paddedByte_15 : decode b_Nam_paddedByte 15 = .ok (.iload_n 3, 1) := by decide +kernel
theorem d_Nam_paddedByte_16 : decode b_Nam_paddedByte 16 = .ok (.iload_n 2, 1) := by decide +kernel
theorem d_Nam_paddedByte_17 : decode b_Nam_paddedByte 17 = .ok (.if_icmp .ne 7, 3) := by decide +kernel
theorem d_Nam_paddedByte_20 : decode b_Nam_paddedByte 20 = .ok (.sipush 128, 3) := by decide +kernel
theorem d_Nam_paddedByte_23 : decode b_Nam_paddedByte 23 = .ok (.ireturn, 1) := by decide +kernel
theorem d_Nam_paddedByte_24 : decode b_Nam_paddedByte 24 = .ok (.iload_n 2, 1) := by decide +kernel
theorem d_Nam_paddedByte_25 : decode b_Nam_paddedByte 25 = .ok (.bipush 8, 2) := by decide +kernel
theorem d_Nam_paddedByte_27 : decode b_Nam_paddedByte 27 = .ok (.iadd, 1) := by decide +kernel
theorem d_Nam_paddedByte_28 : decode b_Nam_paddedByte 28 = .ok (.bipush 64, 2) := by decide +kernel
theorem d_Nam_paddedByte_30 : decode b_Nam_paddedByte 30 = .ok (.idiv, 1) := by decide +kernel
theorem d_Nam_paddedByte_31 : decode b_Nam_paddedByte 31 = .ok (.iconst 1, 1) := by decide +kernel
theorem d_Nam_paddedByte_32 : decode b_Nam_paddedByte 32 = .ok (.iadd, 1) := by decide +kernel
theorem d_Nam_paddedByte_33 : decode b_Nam_paddedByte 33 = .ok (.bipush 64, 2) := by decide +kernel
theorem d_Nam_paddedByte_35 : decode b_Nam_paddedByte 35 = .ok (.imul, 1) := by decide +kernel
theorem d_Nam_paddedByte_36 : decode b_Nam_paddedByte 36 = .ok (.iconst 1, 1) := by decide +kernel
theorem d_Nam_paddedByte_37 : decode b_Nam_paddedByte 37 = .ok (.isub, 1) := by decide +kernel
theorem d_Nam_paddedByte_38 : decode b_Nam_paddedByte 38 = .ok (.istore 4, 2) := by decide +kernel
theorem d_Nam_paddedByte_40 : decode b_Nam_paddedByte 40 = .ok (.iload_n 3, 1) := by decide +kernel
theorem d_Nam_paddedByte_41 : decode b_Nam_paddedByte 41 = .ok (.iload 4, 2) := by decide +kernel
theorem d_Nam_paddedByte_43 : decode b_Nam_paddedByte 43 = .ok (.iconst 4, 1) := by decide +kernel
theorem d_Nam_paddedByte_44 : decode b_Nam_paddedByte 44 = .ok (.isub, 1) := by decide +kernel
theorem d_Nam_paddedByte_45 : decode b_Nam_paddedByte 45 = .ok (.if_icmp .le 22, 3) := by decide +kernel
theorem d_Nam_paddedByte_48 : decode b_Nam_paddedByte 48 = .ok (.iload_n 2, 1) := by decide +kernel
theorem d_Nam_paddedByte_49 : decode b_Nam_paddedByte 49 = .ok (.bipush 8, 2) := by decide +kernel
theorem d_Nam_paddedByte_51 : decode b_Nam_paddedByte 51 = .ok (.imul, 1) := by decide +kernel
theorem d_Nam_paddedByte_52 : decode b_Nam_paddedByte 52 = .ok (.bipush 8, 2) := by decide +kernel
theorem d_Nam_paddedByte_54 : decode b_Nam_paddedByte 54 = .ok (.iload 4, 2) := by decide +kernel
theorem d_Nam_paddedByte_56 : decode b_Nam_paddedByte 56 = .ok (.iload_n 3, 1) := by decide +kernel
theorem d_Nam_paddedByte_57 : decode b_Nam_paddedByte 57 = .ok (.isub, 1) := by decide +kernel
theorem d_Nam_paddedByte_58 : decode b_Nam_paddedByte 58 = .ok (.imul, 1) := by decide +kernel
theorem d_Nam_paddedByte_59 : decode b_Nam_paddedByte 59 = .ok (.iushr, 1) := by decide +kernel
theorem d_Nam_paddedByte_60 : decode b_Nam_paddedByte 60 = .ok (.sipush 255, 3) := by decide +kernel
theorem d_Nam_paddedByte_63 : decode b_Nam_paddedByte 63 = .ok (.iand, 1) := by decide +kernel
theorem d_Nam_paddedByte_64 : decode b_Nam_paddedByte 64 = .ok (.goto 4, 3) := by decide +kernel
theorem d_Nam_paddedByte_67 : decode b_Nam_paddedByte 67 = .ok (.iconst 0, 1) := by decide +kernel
theorem d_Nam_paddedByte_68 : decode b_Nam_paddedByte 68 = .ok (.ireturn, 1) := by decide +kernel
abbrev b_Nam_stretchSchedule : ByteArray := prog_3_method_5_code
def y_Nam_stretchSchedule : MethodName := ⟨R_Nam, "stretchSchedule", "()V"⟩
theorem d_Nam_stretchSchedule_0 : decode b_Nam_stretchSchedule 0 = .ok (.bipush 16, 2) := by decide +kernel
theorem d_Nam_stretchSchedule_2 : decode b_Nam_stretchSchedule 2 = .ok (.istore_n 1, 1) := by decide +kernel
theorem d_Nam_stretchSchedule_3 : decode b_Nam_stretchSchedule 3 = .ok (.iload_n 1, 1) := by decide +kernel
theorem d_Nam_stretchSchedule_4 : decode b_Nam_stretchSchedule 4 = .ok (.bipush 64, 2) := by decide +kernel
theorem d_Nam_stretchSchedule_6 : decode b_Nam_stretchSchedule 6 = .ok (.if_icmp .ge 98, 3) := by decide +kernel
theorem d_Nam_stretchSchedule_9 : decode b_Nam_stretchSchedule 9 = .ok (.aload_n 0, 1) := by decide +kernel
theorem d_Nam_stretchSchedule_10 : decode b_Nam_stretchSchedule 10 = .ok (.getfield 15, 3) := by decide +kernel
theorem d_Nam_stretchSchedule_13 : decode b_Nam_stretchSchedule 13 = .ok (.iload_n 1, 1) := by decide +kernel
theorem d_Nam_stretchSchedule_14 : decode b_Nam_stretchSchedule 14 = .ok (.iconst 2, 1) := by decide +kernel
theorem d_Nam_stretchSchedule_15 : decode b_Nam_stretchSchedule 15 = .ok (.isub, 1) := by decide +kernel
theorem d_Nam_stretchSchedule_16 : decode b_Nam_stretchSchedule 16 = .ok (.iaload, 1) := by decide +kernel
theorem d_Nam_stretchSchedule_17 : decode b_Nam_stretchSchedule 17 = .ok (.istore_n 2, 1) := by decide +kernel
theorem d_Nam_stretchSchedule_18 : decode b_Nam_stretchSchedule 18 = .ok (.aload_n 0, 1) := by decide +kernel
theorem d_Nam_stretchSchedule_19 : decode b_Nam_stretchSchedule 19 = .ok (.getfield 15, 3) := by decide +kernel
theorem d_Nam_stretchSchedule_22 : decode b_Nam_stretchSchedule 22 = .ok (.iload_n 1, 1) := by decide +kernel
theorem d_Nam_stretchSchedule_23 : decode b_Nam_stretchSchedule 23 = .ok (.bipush 15, 2) := by decide +kernel
theorem d_Nam_stretchSchedule_25 : decode b_Nam_stretchSchedule 25 = .ok (.isub, 1) := by decide +kernel
theorem d_Nam_stretchSchedule_26 : decode b_Nam_stretchSchedule 26 = .ok (.iaload, 1) := by decide +kernel
theorem d_Nam_stretchSchedule_27 : decode b_Nam_stretchSchedule 27 = .ok (.istore_n 3, 1) := by decide +kernel
theorem d_Nam_stretchSchedule_28 : decode b_Nam_stretchSchedule 28 = .ok (.iload_n 2, 1) := by decide +kernel
theorem d_Nam_stretchSchedule_29 : decode b_Nam_stretchSchedule 29 = .ok (.bipush 17, 2) := by decide +kernel
theorem d_Nam_stretchSchedule_31 : decode b_Nam_stretchSchedule 31 = .ok (.invokestatic 43, 3) := by decide +kernel
theorem d_Nam_stretchSchedule_34 : decode b_Nam_stretchSchedule 34 = .ok (.iload_n 2, 1) := by decide +kernel
theorem d_Nam_stretchSchedule_35 : decode b_Nam_stretchSchedule 35 = .ok (.bipush 19, 2) := by decide +kernel
theorem d_Nam_stretchSchedule_37 : decode b_Nam_stretchSchedule 37 = .ok (.invokestatic 43, 3) := by decide +kernel
theorem d_Nam_stretchSchedule_40 : decode b_Nam_stretchSchedule 40 = .ok (.ixor, 1) := by decide +kernel
theorem d_Nam_stretchSchedule_41 : decode b_Nam_stretchSchedule 41 = .ok (.iload_n 2, 1) := by decide +kernel
theorem d_Nam_stretchSchedule_42 : decode b_Nam_stretchSchedule 42 = .ok (.bipush 10, 2) := by decide +kernel
theorem d_Nam_stretchSchedule_44 : decode b_Nam_stretchSchedule 44 = .ok (.iushr, 1) := by decide +kernel
theorem d_Nam_stretchSchedule_45 : decode b_Nam_stretchSchedule 45 = .ok (.ixor, 1) := by decide +kernel
theorem d_Nam_stretchSchedule_46 : decode b_Nam_stretchSchedule 46 = .ok (.istore 4, 2) := by decide +kernel
theorem d_Nam_stretchSchedule_48 : decode b_Nam_stretchSchedule 48 = .ok (.iload_n 3, 1) := by decide +kernel
theorem d_Nam_stretchSchedule_49 : decode b_Nam_stretchSchedule 49 = .ok (.bipush 7, 2) := by decide +kernel
theorem d_Nam_stretchSchedule_51 : decode b_Nam_stretchSchedule 51 = .ok (.invokestatic 43, 3) := by decide +kernel
theorem d_Nam_stretchSchedule_54 : decode b_Nam_stretchSchedule 54 = .ok (.iload_n 3, 1) := by decide +kernel
theorem d_Nam_stretchSchedule_55 : decode b_Nam_stretchSchedule 55 = .ok (.bipush 18, 2) := by decide +kernel
theorem d_Nam_stretchSchedule_57 : decode b_Nam_stretchSchedule 57 = .ok (.invokestatic 43, 3) := by decide +kernel
theorem d_Nam_stretchSchedule_60 : decode b_Nam_stretchSchedule 60 = .ok (.ixor, 1) := by decide +kernel
theorem d_Nam_stretchSchedule_61 : decode b_Nam_stretchSchedule 61 = .ok (.iload_n 3, 1) := by decide +kernel
theorem d_Nam_stretchSchedule_62 : decode b_Nam_stretchSchedule 62 = .ok (.iconst 3, 1) := by decide +kernel
theorem d_Nam_stretchSchedule_63 : decode b_Nam_stretchSchedule 63 = .ok (.iushr, 1) := by decide +kernel
theorem d_Nam_stretchSchedule_64 : decode b_Nam_stretchSchedule 64 = .ok (.ixor, 1) := by decide +kernel
theorem d_Nam_stretchSchedule_65 : decode b_Nam_stretchSchedule 65 = .ok (.istore 5, 2) := by decide +kernel
theorem d_Nam_stretchSchedule_67 : decode b_Nam_stretchSchedule 67 = .ok (.aload_n 0, 1) := by decide +kernel
theorem d_Nam_stretchSchedule_68 : decode b_Nam_stretchSchedule 68 = .ok (.getfield 15, 3) := by decide +kernel
theorem d_Nam_stretchSchedule_71 : decode b_Nam_stretchSchedule 71 = .ok (.iload_n 1, 1) := by decide +kernel
theorem d_Nam_stretchSchedule_72 : decode b_Nam_stretchSchedule 72 = .ok (.iload 4, 2) := by decide +kernel
theorem d_Nam_stretchSchedule_74 : decode b_Nam_stretchSchedule 74 = .ok (.aload_n 0, 1) := by decide +kernel
theorem d_Nam_stretchSchedule_75 : decode b_Nam_stretchSchedule 75 = .ok (.getfield 15, 3) := by decide +kernel
theorem d_Nam_stretchSchedule_78 : decode b_Nam_stretchSchedule 78 = .ok (.iload_n 1, 1) := by decide +kernel
theorem d_Nam_stretchSchedule_79 : decode b_Nam_stretchSchedule 79 = .ok (.bipush 7, 2) := by decide +kernel
theorem d_Nam_stretchSchedule_81 : decode b_Nam_stretchSchedule 81 = .ok (.isub, 1) := by decide +kernel
theorem d_Nam_stretchSchedule_82 : decode b_Nam_stretchSchedule 82 = .ok (.iaload, 1) := by decide +kernel
theorem d_Nam_stretchSchedule_83 : decode b_Nam_stretchSchedule 83 = .ok (.iadd, 1) := by decide +kernel
theorem d_Nam_stretchSchedule_84 : decode b_Nam_stretchSchedule 84 = .ok (.iload 5, 2) := by decide +kernel
theorem d_Nam_stretchSchedule_86 : decode b_Nam_stretchSchedule 86 = .ok (.iadd, 1) := by decide +kernel
theorem d_Nam_stretchSchedule_87 : decode b_Nam_stretchSchedule 87 = .ok (.aload_n 0, 1) := by decide +kernel
theorem d_Nam_stretchSchedule_88 : decode b_Nam_stretchSchedule 88 = .ok (.getfield 15, 3) := by decide +kernel
theorem d_Nam_stretchSchedule_91 : decode b_Nam_stretchSchedule 91 = .ok (.iload_n 1, 1) := by decide +kernel
theorem d_Nam_stretchSchedule_92 : decode b_Nam_stretchSchedule 92 = .ok (.bipush 16, 2) := by decide +kernel
theorem d_Nam_stretchSchedule_94 : decode b_Nam_stretchSchedule 94 = .ok (.isub, 1) := by decide +kernel
theorem d_Nam_stretchSchedule_95 : decode b_Nam_stretchSchedule 95 = .ok (.iaload, 1) := by decide +kernel
theorem d_Nam_stretchSchedule_96 : decode b_Nam_stretchSchedule 96 = .ok (.iadd, 1) := by decide +kernel
theorem d_Nam_stretchSchedule_97 : decode b_Nam_stretchSchedule 97 = .ok (.iastore, 1) := by decide +kernel
theorem d_Nam_stretchSchedule_98 : decode b_Nam_stretchSchedule 98 = .ok (.iinc 1 1, 3) := by decide +kernel
theorem d_Nam_stretchSchedule_101 : decode b_Nam_stretchSchedule 101 = .ok (.goto (-98), 3) := by decide +kernel
theorem d_Nam_stretchSchedule_104 : decode b_Nam_stretchSchedule 104 = .ok (.return_, 1) := by decide +kernel
abbrev b_Nam_mixChunk : ByteArray := prog_3_method_6_code
def y_Nam_mixChunk : MethodName := ⟨R_Nam, "mixChunk", "()V"⟩
theorem d_Nam_mixChunk_0 : decode b_Nam_mixChunk 0 = .ok (.aload_n 0, 1) := by decide +kernel
theorem d_Nam_mixChunk_1 : decode b_Nam_mixChunk 1 = .ok (.getfield 9, 3) := by decide +kernel
theorem d_Nam_mixChunk_4 : decode b_Nam_mixChunk 4 = .ok (.iconst 0, 1) := by decide +kernel
theorem d_Nam_mixChunk_5 : decode b_Nam_mixChunk 5 = .ok (.iaload, 1) := by decide +kernel
theorem d_Nam_mixChunk_6 : decode b_Nam_mixChunk 6 = .ok (.istore_n 1, 1) := by decide +kernel
theorem d_Nam_mixChunk_7 : decode b_Nam_mixChunk 7 = .ok (.aload_n 0, 1) := by decide +kernel
theorem d_Nam_mixChunk_8 : decode b_Nam_mixChunk 8 = .ok (.getfield 9, 3) := by decide +kernel
theorem d_Nam_mixChunk_11 : decode b_Nam_mixChunk 11 = .ok (.iconst 1, 1) := by decide +kernel
theorem d_Nam_mixChunk_12 : decode b_Nam_mixChunk 12 = .ok (.iaload, 1) := by decide +kernel
theorem d_Nam_mixChunk_13 : decode b_Nam_mixChunk 13 = .ok (.istore_n 2, 1) := by decide +kernel
theorem d_Nam_mixChunk_14 : decode b_Nam_mixChunk 14 = .ok (.aload_n 0, 1) := by decide +kernel
theorem d_Nam_mixChunk_15 : decode b_Nam_mixChunk 15 = .ok (.getfield 9, 3) := by decide +kernel
theorem d_Nam_mixChunk_18 : decode b_Nam_mixChunk 18 = .ok (.iconst 2, 1) := by decide +kernel
theorem d_Nam_mixChunk_19 : decode b_Nam_mixChunk 19 = .ok (.iaload, 1) := by decide +kernel
theorem d_Nam_mixChunk_20 : decode b_Nam_mixChunk 20 = .ok (.istore_n 3, 1) := by decide +kernel
theorem d_Nam_mixChunk_21 : decode b_Nam_mixChunk 21 = .ok (.aload_n 0, 1) := by decide +kernel
theorem d_Nam_mixChunk_22 : decode b_Nam_mixChunk 22 = .ok (.getfield 9, 3) := by decide +kernel
theorem d_Nam_mixChunk_25 : decode b_Nam_mixChunk 25 = .ok (.iconst 3, 1) := by decide +kernel
theorem d_Nam_mixChunk_26 : decode b_Nam_mixChunk 26 = .ok (.iaload, 1) := by decide +kernel
theorem d_Nam_mixChunk_27 : decode b_Nam_mixChunk 27 = .ok (.istore 4, 2) := by decide +kernel
theorem d_Nam_mixChunk_29 : decode b_Nam_mixChunk 29 = .ok (.aload_n 0, 1) := by decide +kernel
theorem d_Nam_mixChunk_30 : decode b_Nam_mixChunk 30 = .ok (.getfield 9, 3) := by decide +kernel
theorem d_Nam_mixChunk_33 : decode b_Nam_mixChunk 33 = .ok (.iconst 4, 1) := by decide +kernel
theorem d_Nam_mixChunk_34 : decode b_Nam_mixChunk 34 = .ok (.iaload, 1) := by decide +kernel
theorem d_Nam_mixChunk_35 : decode b_Nam_mixChunk 35 = .ok (.istore 5, 2) := by decide +kernel
theorem d_Nam_mixChunk_37 : decode b_Nam_mixChunk 37 = .ok (.aload_n 0, 1) := by decide +kernel
theorem d_Nam_mixChunk_38 : decode b_Nam_mixChunk 38 = .ok (.getfield 9, 3) := by decide +kernel
theorem d_Nam_mixChunk_41 : decode b_Nam_mixChunk 41 = .ok (.iconst 5, 1) := by decide +kernel
theorem d_Nam_mixChunk_42 : decode b_Nam_mixChunk 42 = .ok (.iaload, 1) := by decide +kernel
theorem d_Nam_mixChunk_43 : decode b_Nam_mixChunk 43 = .ok (.istore 6, 2) := by decide +kernel
theorem d_Nam_mixChunk_45 : decode b_Nam_mixChunk 45 = .ok (.aload_n 0, 1) := by decide +kernel
theorem d_Nam_mixChunk_46 : decode b_Nam_mixChunk 46 = .ok (.getfield 9, 3) := by decide +kernel
theorem d_Nam_mixChunk_49 : decode b_Nam_mixChunk 49 = .ok (.bipush 6, 2) := by decide +kernel
theorem d_Nam_mixChunk_51 : decode b_Nam_mixChunk 51 = .ok (.iaload, 1) := by decide +kernel
theorem d_Nam_mixChunk_52 : decode b_Nam_mixChunk 52 = .ok (.istore 7, 2) := by decide +kernel
theorem d_Nam_mixChunk_54 : decode b_Nam_mixChunk 54 = .ok (.aload_n 0, 1) := by decide +kernel
theorem d_Nam_mixChunk_55 : decode b_Nam_mixChunk 55 = .ok (.getfield 9, 3) := by decide +kernel
theorem d_Nam_mixChunk_58 : decode b_Nam_mixChunk 58 = .ok (.bipush 7, 2) := by decide +kernel
theorem d_Nam_mixChunk_60 : decode b_Nam_mixChunk 60 = .ok (.iaload, 1) := by decide +kernel
theorem d_Nam_mixChunk_61 : decode b_Nam_mixChunk 61 = .ok (.istore 8, 2) := by decide +kernel
theorem d_Nam_mixChunk_63 : decode b_Nam_mixChunk 63 = .ok (.iconst 0, 1) := by decide +kernel
theorem d_Nam_mixChunk_64 : decode b_Nam_mixChunk 64 = .ok (.istore 9, 2) := by decide +kernel
theorem d_Nam_mixChunk_66 : decode b_Nam_mixChunk 66 = .ok (.iload 9, 2) := by decide +kernel
theorem d_Nam_mixChunk_68 : decode b_Nam_mixChunk 68 = .ok (.bipush 64, 2) := by decide +kernel
theorem d_Nam_mixChunk_70 : decode b_Nam_mixChunk 70 = .ok (.if_icmp .ge 143, 3) := by decide +kernel
theorem d_Nam_mixChunk_73 : decode b_Nam_mixChunk 73 = .ok (.iload 5, 2) := by decide +kernel
theorem d_Nam_mixChunk_75 : decode b_Nam_mixChunk 75 = .ok (.iload 6, 2) := by decide +kernel
theorem d_Nam_mixChunk_77 : decode b_Nam_mixChunk 77 = .ok (.iand, 1) := by decide +kernel
theorem d_Nam_mixChunk_78 : decode b_Nam_mixChunk 78 = .ok (.iload 5, 2) := by decide +kernel
theorem d_Nam_mixChunk_80 : decode b_Nam_mixChunk 80 = .ok (.iconst (-1), 1) := by decide +kernel
theorem d_Nam_mixChunk_81 : decode b_Nam_mixChunk 81 = .ok (.ixor, 1) := by decide +kernel
theorem d_Nam_mixChunk_82 : decode b_Nam_mixChunk 82 = .ok (.iload 7, 2) := by decide +kernel
theorem d_Nam_mixChunk_84 : decode b_Nam_mixChunk 84 = .ok (.iand, 1) := by decide +kernel
theorem d_Nam_mixChunk_85 : decode b_Nam_mixChunk 85 = .ok (.ixor, 1) := by decide +kernel
theorem d_Nam_mixChunk_86 : decode b_Nam_mixChunk 86 = .ok (.istore 10, 2) := by decide +kernel
theorem d_Nam_mixChunk_88 : decode b_Nam_mixChunk 88 = .ok (.iload_n 1, 1) := by decide +kernel
theorem d_Nam_mixChunk_89 : decode b_Nam_mixChunk 89 = .ok (.iload_n 2, 1) := by decide +kernel
theorem d_Nam_mixChunk_90 : decode b_Nam_mixChunk 90 = .ok (.iand, 1) := by decide +kernel
theorem d_Nam_mixChunk_91 : decode b_Nam_mixChunk 91 = .ok (.iload_n 1, 1) := by decide +kernel
theorem d_Nam_mixChunk_92 : decode b_Nam_mixChunk 92 = .ok (.iload_n 3, 1) := by decide +kernel
theorem d_Nam_mixChunk_93 : decode b_Nam_mixChunk 93 = .ok (.iand, 1) := by decide +kernel
theorem d_Nam_mixChunk_94 : decode b_Nam_mixChunk 94 = .ok (.ixor, 1) := by decide +kernel
theorem d_Nam_mixChunk_95 : decode b_Nam_mixChunk 95 = .ok (.iload_n 2, 1) := by decide +kernel
theorem d_Nam_mixChunk_96 : decode b_Nam_mixChunk 96 = .ok (.iload_n 3, 1) := by decide +kernel
theorem d_Nam_mixChunk_97 : decode b_Nam_mixChunk 97 = .ok (.iand, 1) := by decide +kernel
theorem d_Nam_mixChunk_98 : decode b_Nam_mixChunk 98 = .ok (.ixor, 1) := by decide +kernel
theorem d_Nam_mixChunk_99 : decode b_Nam_mixChunk 99 = .ok (.istore 11, 2) := by decide +kernel
theorem d_Nam_mixChunk_101 : decode b_Nam_mixChunk 101 = .ok (.iload 5, 2) := by decide +kernel
theorem d_Nam_mixChunk_103 : decode b_Nam_mixChunk 103 = .ok (.bipush 6, 2) := by decide +kernel
theorem d_Nam_mixChunk_105 : decode b_Nam_mixChunk 105 = .ok (.invokestatic 43, 3) := by decide +kernel
theorem d_Nam_mixChunk_108 : decode b_Nam_mixChunk 108 = .ok (.iload 5, 2) := by decide +kernel
theorem d_Nam_mixChunk_110 : decode b_Nam_mixChunk 110 = .ok (.bipush 11, 2) := by decide +kernel
theorem d_Nam_mixChunk_112 : decode b_Nam_mixChunk 112 = .ok (.invokestatic 43, 3) := by decide +kernel
theorem d_Nam_mixChunk_115 : decode b_Nam_mixChunk 115 = .ok (.ixor, 1) := by decide +kernel
theorem d_Nam_mixChunk_116 : decode b_Nam_mixChunk 116 = .ok (.iload 5, 2) := by decide +kernel
theorem d_Nam_mixChunk_118 : decode b_Nam_mixChunk 118 = .ok (.bipush 25, 2) := by decide +kernel
theorem d_Nam_mixChunk_120 : decode b_Nam_mixChunk 120 = .ok (.invokestatic 43, 3) := by decide +kernel
theorem d_Nam_mixChunk_123 : decode b_Nam_mixChunk 123 = .ok (.ixor, 1) := by decide +kernel
theorem d_Nam_mixChunk_124 : decode b_Nam_mixChunk 124 = .ok (.istore 12, 2) := by decide +kernel
theorem d_Nam_mixChunk_126 : decode b_Nam_mixChunk 126 = .ok (.iload_n 1, 1) := by decide +kernel
theorem d_Nam_mixChunk_127 : decode b_Nam_mixChunk 127 = .ok (.iconst 2, 1) := by decide +kernel
theorem d_Nam_mixChunk_128 : decode b_Nam_mixChunk 128 = .ok (.invokestatic 43, 3) := by decide +kernel
theorem d_Nam_mixChunk_131 : decode b_Nam_mixChunk 131 = .ok (.iload_n 1, 1) := by decide +kernel
theorem d_Nam_mixChunk_132 : decode b_Nam_mixChunk 132 = .ok (.bipush 13, 2) := by decide +kernel
theorem d_Nam_mixChunk_134 : decode b_Nam_mixChunk 134 = .ok (.invokestatic 43, 3) := by decide +kernel
theorem d_Nam_mixChunk_137 : decode b_Nam_mixChunk 137 = .ok (.ixor, 1) := by decide +kernel
theorem d_Nam_mixChunk_138 : decode b_Nam_mixChunk 138 = .ok (.iload_n 1, 1) := by decide +kernel
theorem d_Nam_mixChunk_139 : decode b_Nam_mixChunk 139 = .ok (.bipush 22, 2) := by decide +kernel
theorem d_Nam_mixChunk_141 : decode b_Nam_mixChunk 141 = .ok (.invokestatic 43, 3) := by decide +kernel
theorem d_Nam_mixChunk_144 : decode b_Nam_mixChunk 144 = .ok (.ixor, 1) := by decide +kernel
theorem d_Nam_mixChunk_145 : decode b_Nam_mixChunk 145 = .ok (.istore 13, 2) := by decide +kernel
theorem d_Nam_mixChunk_147 : decode b_Nam_mixChunk 147 = .ok (.iload 8, 2) := by decide +kernel
theorem d_Nam_mixChunk_149 : decode b_Nam_mixChunk 149 = .ok (.iload 12, 2) := by decide +kernel
theorem d_Nam_mixChunk_151 : decode b_Nam_mixChunk 151 = .ok (.iadd, 1) := by decide +kernel
theorem d_Nam_mixChunk_152 : decode b_Nam_mixChunk 152 = .ok (.iload 10, 2) := by decide +kernel
theorem d_Nam_mixChunk_154 : decode b_Nam_mixChunk 154 = .ok (.iadd, 1) := by decide +kernel
theorem d_Nam_mixChunk_155 : decode b_Nam_mixChunk 155 = .ok (.getstatic 47, 3) := by decide +kernel
theorem d_Nam_mixChunk_158 : decode b_Nam_mixChunk 158 = .ok (.iload 9, 2) := by decide +kernel
theorem d_Nam_mixChunk_160 : decode b_Nam_mixChunk 160 = .ok (.iaload, 1) := by decide +kernel
theorem d_Nam_mixChunk_161 : decode b_Nam_mixChunk 161 = .ok (.iadd, 1) := by decide +kernel
theorem d_Nam_mixChunk_162 : decode b_Nam_mixChunk 162 = .ok (.aload_n 0, 1) := by decide +kernel
theorem d_Nam_mixChunk_163 : decode b_Nam_mixChunk 163 = .ok (.getfield 15, 3) := by decide +kernel
theorem d_Nam_mixChunk_166 : decode b_Nam_mixChunk 166 = .ok (.iload 9, 2) := by decide +kernel
theorem d_Nam_mixChunk_168 : decode b_Nam_mixChunk 168 = .ok (.iaload, 1) := by decide +kernel
theorem d_Nam_mixChunk_169 : decode b_Nam_mixChunk 169 = .ok (.iadd, 1) := by decide +kernel
theorem d_Nam_mixChunk_170 : decode b_Nam_mixChunk 170 = .ok (.istore 14, 2) := by decide +kernel
theorem d_Nam_mixChunk_172 : decode b_Nam_mixChunk 172 = .ok (.iload 7, 2) := by decide +kernel
theorem d_Nam_mixChunk_174 : decode b_Nam_mixChunk 174 = .ok (.istore 8, 2) := by decide +kernel
theorem d_Nam_mixChunk_176 : decode b_Nam_mixChunk 176 = .ok (.iload 6, 2) := by decide +kernel
theorem d_Nam_mixChunk_178 : decode b_Nam_mixChunk 178 = .ok (.istore 7, 2) := by decide +kernel
theorem d_Nam_mixChunk_180 : decode b_Nam_mixChunk 180 = .ok (.iload 5, 2) := by decide +kernel
theorem d_Nam_mixChunk_182 : decode b_Nam_mixChunk 182 = .ok (.istore 6, 2) := by decide +kernel
theorem d_Nam_mixChunk_184 : decode b_Nam_mixChunk 184 = .ok (.iload 4, 2) := by decide +kernel
theorem d_Nam_mixChunk_186 : decode b_Nam_mixChunk 186 = .ok (.iload 14, 2) := by decide +kernel
theorem d_Nam_mixChunk_188 : decode b_Nam_mixChunk 188 = .ok (.iadd, 1) := by decide +kernel
theorem d_Nam_mixChunk_189 : decode b_Nam_mixChunk 189 = .ok (.istore 5, 2) := by decide +kernel
theorem d_Nam_mixChunk_191 : decode b_Nam_mixChunk 191 = .ok (.iload_n 3, 1) := by decide +kernel
theorem d_Nam_mixChunk_192 : decode b_Nam_mixChunk 192 = .ok (.istore 4, 2) := by decide +kernel
theorem d_Nam_mixChunk_194 : decode b_Nam_mixChunk 194 = .ok (.iload_n 2, 1) := by decide +kernel
theorem d_Nam_mixChunk_195 : decode b_Nam_mixChunk 195 = .ok (.istore_n 3, 1) := by decide +kernel
theorem d_Nam_mixChunk_196 : decode b_Nam_mixChunk 196 = .ok (.iload_n 1, 1) := by decide +kernel
theorem d_Nam_mixChunk_197 : decode b_Nam_mixChunk 197 = .ok (.istore_n 2, 1) := by decide +kernel
theorem d_Nam_mixChunk_198 : decode b_Nam_mixChunk 198 = .ok (.iload 14, 2) := by decide +kernel
theorem d_Nam_mixChunk_200 : decode b_Nam_mixChunk 200 = .ok (.iload 13, 2) := by decide +kernel
theorem d_Nam_mixChunk_202 : decode b_Nam_mixChunk 202 = .ok (.iadd, 1) := by decide +kernel
theorem d_Nam_mixChunk_203 : decode b_Nam_mixChunk 203 = .ok (.iload 11, 2) := by decide +kernel
theorem d_Nam_mixChunk_205 : decode b_Nam_mixChunk 205 = .ok (.iadd, 1) := by decide +kernel
theorem d_Nam_mixChunk_206 : decode b_Nam_mixChunk 206 = .ok (.istore_n 1, 1) := by decide +kernel
theorem d_Nam_mixChunk_207 : decode b_Nam_mixChunk 207 = .ok (.iinc 9 1, 3) := by decide +kernel
theorem d_Nam_mixChunk_210 : decode b_Nam_mixChunk 210 = .ok (.goto (-144), 3) := by decide +kernel
theorem d_Nam_mixChunk_213 : decode b_Nam_mixChunk 213 = .ok (.aload_n 0, 1) := by decide +kernel
theorem d_Nam_mixChunk_214 : decode b_Nam_mixChunk 214 = .ok (.getfield 9, 3) := by decide +kernel
theorem d_Nam_mixChunk_217 : decode b_Nam_mixChunk 217 = .ok (.iconst 0, 1) := by decide +kernel
theorem d_Nam_mixChunk_218 : decode b_Nam_mixChunk 218 = .ok (.dup2, 1) := by decide +kernel
theorem d_Nam_mixChunk_219 : decode b_Nam_mixChunk 219 = .ok (.iaload, 1) := by decide +kernel
theorem d_Nam_mixChunk_220 : decode b_Nam_mixChunk 220 = .ok (.iload_n 1, 1) := by decide +kernel
theorem d_Nam_mixChunk_221 : decode b_Nam_mixChunk 221 = .ok (.iadd, 1) := by decide +kernel
theorem d_Nam_mixChunk_222 : decode b_Nam_mixChunk 222 = .ok (.iastore, 1) := by decide +kernel
theorem d_Nam_mixChunk_223 : decode b_Nam_mixChunk 223 = .ok (.aload_n 0, 1) := by decide +kernel
theorem d_Nam_mixChunk_224 : decode b_Nam_mixChunk 224 = .ok (.getfield 9, 3) := by decide +kernel
theorem d_Nam_mixChunk_227 : decode b_Nam_mixChunk 227 = .ok (.iconst 1, 1) := by decide +kernel
theorem d_Nam_mixChunk_228 : decode b_Nam_mixChunk 228 = .ok (.dup2, 1) := by decide +kernel
theorem d_Nam_mixChunk_229 : decode b_Nam_mixChunk 229 = .ok (.iaload, 1) := by decide +kernel
theorem d_Nam_mixChunk_230 : decode b_Nam_mixChunk 230 = .ok (.iload_n 2, 1) := by decide +kernel
theorem d_Nam_mixChunk_231 : decode b_Nam_mixChunk 231 = .ok (.iadd, 1) := by decide +kernel
theorem d_Nam_mixChunk_232 : decode b_Nam_mixChunk 232 = .ok (.iastore, 1) := by decide +kernel
theorem d_Nam_mixChunk_233 : decode b_Nam_mixChunk 233 = .ok (.aload_n 0, 1) := by decide +kernel
theorem d_Nam_mixChunk_234 : decode b_Nam_mixChunk 234 = .ok (.getfield 9, 3) := by decide +kernel
theorem d_Nam_mixChunk_237 : decode b_Nam_mixChunk 237 = .ok (.iconst 2, 1) := by decide +kernel
theorem d_Nam_mixChunk_238 : decode b_Nam_mixChunk 238 = .ok (.dup2, 1) := by decide +kernel
theorem d_Nam_mixChunk_239 : decode b_Nam_mixChunk 239 = .ok (.iaload, 1) := by decide +kernel
theorem d_Nam_mixChunk_240 : decode b_Nam_mixChunk 240 = .ok (.iload_n 3, 1) := by decide +kernel
theorem d_Nam_mixChunk_241 : decode b_Nam_mixChunk 241 = .ok (.iadd, 1) := by decide +kernel
theorem d_Nam_mixChunk_242 : decode b_Nam_mixChunk 242 = .ok (.iastore, 1) := by decide +kernel
theorem d_Nam_mixChunk_243 : decode b_Nam_mixChunk 243 = .ok (.aload_n 0, 1) := by decide +kernel
theorem d_Nam_mixChunk_244 : decode b_Nam_mixChunk 244 = .ok (.getfield 9, 3) := by decide +kernel
theorem d_Nam_mixChunk_247 : decode b_Nam_mixChunk 247 = .ok (.iconst 3, 1) := by decide +kernel
theorem d_Nam_mixChunk_248 : decode b_Nam_mixChunk 248 = .ok (.dup2, 1) := by decide +kernel
theorem d_Nam_mixChunk_249 : decode b_Nam_mixChunk 249 = .ok (.iaload, 1) := by decide +kernel
theorem d_Nam_mixChunk_250 : decode b_Nam_mixChunk 250 = .ok (.iload 4, 2) := by decide +kernel
theorem d_Nam_mixChunk_252 : decode b_Nam_mixChunk 252 = .ok (.iadd, 1) := by decide +kernel
theorem d_Nam_mixChunk_253 : decode b_Nam_mixChunk 253 = .ok (.iastore, 1) := by decide +kernel
theorem d_Nam_mixChunk_254 : decode b_Nam_mixChunk 254 = .ok (.aload_n 0, 1) := by decide +kernel
theorem d_Nam_mixChunk_255 : decode b_Nam_mixChunk 255 = .ok (.getfield 9, 3) := by decide +kernel
theorem d_Nam_mixChunk_258 : decode b_Nam_mixChunk 258 = .ok (.iconst 4, 1) := by decide +kernel
theorem d_Nam_mixChunk_259 : decode b_Nam_mixChunk 259 = .ok (.dup2, 1) := by decide +kernel
theorem d_Nam_mixChunk_260 : decode b_Nam_mixChunk 260 = .ok (.iaload, 1) := by decide +kernel
theorem d_Nam_mixChunk_261 : decode b_Nam_mixChunk 261 = .ok (.iload 5, 2) := by decide +kernel
theorem d_Nam_mixChunk_263 : decode b_Nam_mixChunk 263 = .ok (.iadd, 1) := by decide +kernel
theorem d_Nam_mixChunk_264 : decode b_Nam_mixChunk 264 = .ok (.iastore, 1) := by decide +kernel
theorem d_Nam_mixChunk_265 : decode b_Nam_mixChunk 265 = .ok (.aload_n 0, 1) := by decide +kernel
theorem d_Nam_mixChunk_266 : decode b_Nam_mixChunk 266 = .ok (.getfield 9, 3) := by decide +kernel
theorem d_Nam_mixChunk_269 : decode b_Nam_mixChunk 269 = .ok (.iconst 5, 1) := by decide +kernel
theorem d_Nam_mixChunk_270 : decode b_Nam_mixChunk 270 = .ok (.dup2, 1) := by decide +kernel
theorem d_Nam_mixChunk_271 : decode b_Nam_mixChunk 271 = .ok (.iaload, 1) := by decide +kernel
theorem d_Nam_mixChunk_272 : decode b_Nam_mixChunk 272 = .ok (.iload 6, 2) := by decide +kernel
theorem d_Nam_mixChunk_274 : decode b_Nam_mixChunk 274 = .ok (.iadd, 1) := by decide +kernel
theorem d_Nam_mixChunk_275 : decode b_Nam_mixChunk 275 = .ok (.iastore, 1) := by decide +kernel
theorem d_Nam_mixChunk_276 : decode b_Nam_mixChunk 276 = .ok (.aload_n 0, 1) := by decide +kernel
theorem d_Nam_mixChunk_277 : decode b_Nam_mixChunk 277 = .ok (.getfield 9, 3) := by decide +kernel
theorem d_Nam_mixChunk_280 : decode b_Nam_mixChunk 280 = .ok (.bipush 6, 2) := by decide +kernel
theorem d_Nam_mixChunk_282 : decode b_Nam_mixChunk 282 = .ok (.dup2, 1) := by decide +kernel
theorem d_Nam_mixChunk_283 : decode b_Nam_mixChunk 283 = .ok (.iaload, 1) := by decide +kernel
theorem d_Nam_mixChunk_284 : decode b_Nam_mixChunk 284 = .ok (.iload 7, 2) := by decide +kernel
theorem d_Nam_mixChunk_286 : decode b_Nam_mixChunk 286 = .ok (.iadd, 1) := by decide +kernel
theorem d_Nam_mixChunk_287 : decode b_Nam_mixChunk 287 = .ok (.iastore, 1) := by decide +kernel
theorem d_Nam_mixChunk_288 : decode b_Nam_mixChunk 288 = .ok (.aload_n 0, 1) := by decide +kernel
theorem d_Nam_mixChunk_289 : decode b_Nam_mixChunk 289 = .ok (.getfield 9, 3) := by decide +kernel
theorem d_Nam_mixChunk_292 : decode b_Nam_mixChunk 292 = .ok (.bipush 7, 2) := by decide +kernel
theorem d_Nam_mixChunk_294 : decode b_Nam_mixChunk 294 = .ok (.dup2, 1) := by decide +kernel
theorem d_Nam_mixChunk_295 : decode b_Nam_mixChunk 295 = .ok (.iaload, 1) := by decide +kernel
theorem d_Nam_mixChunk_296 : decode b_Nam_mixChunk 296 = .ok (.iload 8, 2) := by decide +kernel
theorem d_Nam_mixChunk_298 : decode b_Nam_mixChunk 298 = .ok (.iadd, 1) := by decide +kernel
theorem d_Nam_mixChunk_299 : decode b_Nam_mixChunk 299 = .ok (.iastore, 1) := by decide +kernel
theorem d_Nam_mixChunk_300 : decode b_Nam_mixChunk 300 = .ok (.return_, 1) := by decide +kernel
abbrev b_Nam_turn : ByteArray := prog_3_method_7_code
def y_Nam_turn : MethodName := ⟨R_Nam, "turn", "(II)I"⟩
theorem d_Nam_turn_0 : decode b_Nam_turn 0 = .ok (.iload_n 0, 1) := by decide +kernel
theorem d_Nam_turn_1 : decode b_Nam_turn 1 = .ok (.iload_n 1, 1) := by decide +kernel
theorem d_Nam_turn_2 : decode b_Nam_turn 2 = .ok (.iushr, 1) := by decide +kernel
theorem d_Nam_turn_3 : decode b_Nam_turn 3 = .ok (.iload_n 0, 1) := by decide +kernel
theorem d_Nam_turn_4 : decode b_Nam_turn 4 = .ok (.bipush 32, 2) := by decide +kernel
theorem d_Nam_turn_6 : decode b_Nam_turn 6 = .ok (.iload_n 1, 1) := by decide +kernel
theorem d_Nam_turn_7 : decode b_Nam_turn 7 = .ok (.isub, 1) := by decide +kernel
theorem d_Nam_turn_8 : decode b_Nam_turn 8 = .ok (.ishl, 1) := by decide +kernel
theorem d_Nam_turn_9 : decode b_Nam_turn 9 = .ok (.ior, 1) := by decide +kernel
theorem d_Nam_turn_10 : decode b_Nam_turn 10 = .ok (.ireturn, 1) := by decide +kernel
abbrev b_Nam_writeState : ByteArray := prog_3_method_8_code
def y_Nam_writeState : MethodName := ⟨R_Nam, "writeState", "([BI)V"⟩
theorem d_Nam_writeState_0 : decode b_Nam_writeState 0 = .ok (.iload_n 2, 1) := by decide +kernel
theorem d_Nam_writeState_1 : decode b_Nam_writeState 1 = .ok (.ifCond .lt 12, 3) := by decide +kernel
theorem d_Nam_writeState_4 : decode b_Nam_writeState 4 = .ok (.iload_n 2, 1) := by decide +kernel
theorem d_Nam_writeState_5 : decode b_Nam_writeState 5 = .ok (.aload_n 1, 1) := by decide +kernel
theorem d_Nam_writeState_6 : decode b_Nam_writeState 6 = .ok (.arraylength, 1) := by decide +kernel
theorem d_Nam_writeState_7 : decode b_Nam_writeState 7 = .ok (.bipush 32, 2) := by decide +kernel
theorem d_Nam_writeState_9 : decode b_Nam_writeState 9 = .ok (.isub, 1) := by decide +kernel
theorem d_Nam_writeState_10 : decode b_Nam_writeState 10 = .ok (.if_icmp .le 4, 3) := by decide +kernel
theorem d_Nam_writeState_13 : decode b_Nam_writeState 13 = .ok (.return_, 1) := by decide +kernel
theorem d_Nam_writeState_14 : decode b_Nam_writeState 14 = .ok (.iconst 0, 1) := by decide +kernel
theorem d_Nam_writeState_15 : decode b_Nam_writeState 15 = .ok (.istore_n 3, 1) := by decide +kernel
theorem d_Nam_writeState_16 : decode b_Nam_writeState 16 = .ok (.iload_n 3, 1) := by decide +kernel
theorem d_Nam_writeState_17 : decode b_Nam_writeState 17 = .ok (.bipush 32, 2) := by decide +kernel
theorem d_Nam_writeState_19 : decode b_Nam_writeState 19 = .ok (.if_icmp .ge 33, 3) := by decide +kernel
theorem d_Nam_writeState_22 : decode b_Nam_writeState 22 = .ok (.aload_n 1, 1) := by decide +kernel
theorem d_Nam_writeState_23 : decode b_Nam_writeState 23 = .ok (.iload_n 2, 1) := by decide +kernel
theorem d_Nam_writeState_24 : decode b_Nam_writeState 24 = .ok (.iload_n 3, 1) := by decide +kernel
theorem d_Nam_writeState_25 : decode b_Nam_writeState 25 = .ok (.iadd, 1) := by decide +kernel
theorem d_Nam_writeState_26 : decode b_Nam_writeState 26 = .ok (.aload_n 0, 1) := by decide +kernel
theorem d_Nam_writeState_27 : decode b_Nam_writeState 27 = .ok (.getfield 9, 3) := by decide +kernel
theorem d_Nam_writeState_30 : decode b_Nam_writeState 30 = .ok (.iload_n 3, 1) := by decide +kernel
theorem d_Nam_writeState_31 : decode b_Nam_writeState 31 = .ok (.iconst 4, 1) := by decide +kernel
theorem d_Nam_writeState_32 : decode b_Nam_writeState 32 = .ok (.idiv, 1) := by decide +kernel
theorem d_Nam_writeState_33 : decode b_Nam_writeState 33 = .ok (.iaload, 1) := by decide +kernel
theorem d_Nam_writeState_34 : decode b_Nam_writeState 34 = .ok (.bipush 24, 2) := by decide +kernel
theorem d_Nam_writeState_36 : decode b_Nam_writeState 36 = .ok (.bipush 8, 2) := by decide +kernel
theorem d_Nam_writeState_38 : decode b_Nam_writeState 38 = .ok (.iload_n 3, 1) := by decide +kernel
theorem d_Nam_writeState_39 : decode b_Nam_writeState 39 = .ok (.iconst 4, 1) := by decide +kernel
theorem d_Nam_writeState_40 : decode b_Nam_writeState 40 = .ok (.irem, 1) := by decide +kernel
theorem d_Nam_writeState_41 : decode b_Nam_writeState 41 = .ok (.imul, 1) := by decide +kernel
theorem d_Nam_writeState_42 : decode b_Nam_writeState 42 = .ok (.isub, 1) := by decide +kernel
theorem d_Nam_writeState_43 : decode b_Nam_writeState 43 = .ok (.iushr, 1) := by decide +kernel
theorem d_Nam_writeState_44 : decode b_Nam_writeState 44 = .ok (.i2b, 1) := by decide +kernel
theorem d_Nam_writeState_45 : decode b_Nam_writeState 45 = .ok (.bastore, 1) := by decide +kernel
theorem d_Nam_writeState_46 : decode b_Nam_writeState 46 = .ok (.iinc 3 1, 3) := by decide +kernel
theorem d_Nam_writeState_49 : decode b_Nam_writeState 49 = .ok (.goto (-33), 3) := by decide +kernel
theorem d_Nam_writeState_52 : decode b_Nam_writeState 52 = .ok (.return_, 1) := by decide +kernel
end
section
abbrev b_Dsk_init : ByteArray := prog_1_method_1_code
def y_Dsk_init : MethodName := ⟨R_Dsk, "<init>", "()V"⟩
theorem d_Dsk_init_0 : decode b_Dsk_init 0 = .ok (.aload_n 0, 1) := by decide +kernel
theorem d_Dsk_init_1 : decode b_Dsk_init 1 = .ok (.invokespecial 1, 3) := by decide +kernel
theorem d_Dsk_init_4 : decode b_Dsk_init 4 = .ok (.aload_n 0, 1) := by decide +kernel
theorem d_Dsk_init_5 : decode b_Dsk_init 5 = .ok (.new 7, 3) := by decide +kernel
theorem d_Dsk_init_8 : decode b_Dsk_init 8 = .ok (.dup, 1) := by decide +kernel
theorem d_Dsk_init_9 : decode b_Dsk_init 9 = .ok (.invokespecial 9, 3) := by decide +kernel
theorem d_Dsk_init_12 : decode b_Dsk_init 12 = .ok (.putfield 10, 3) := by decide +kernel
theorem d_Dsk_init_15 : decode b_Dsk_init 15 = .ok (.aload_n 0, 1) := by decide +kernel
theorem d_Dsk_init_16 : decode b_Dsk_init 16 = .ok (.new 7, 3) := by decide +kernel
theorem d_Dsk_init_19 : decode b_Dsk_init 19 = .ok (.dup, 1) := by decide +kernel
theorem d_Dsk_init_20 : decode b_Dsk_init 20 = .ok (.invokespecial 9, 3) := by decide +kernel
theorem d_Dsk_init_23 : decode b_Dsk_init 23 = .ok (.putfield 16, 3) := by decide +kernel
theorem d_Dsk_init_26 : decode b_Dsk_init 26 = .ok (.aload_n 0, 1) := by decide +kernel
theorem d_Dsk_init_27 : decode b_Dsk_init 27 = .ok (.new 19, 3) := by decide +kernel
theorem d_Dsk_init_30 : decode b_Dsk_init 30 = .ok (.dup, 1) := by decide +kernel
theorem d_Dsk_init_31 : decode b_Dsk_init 31 = .ok (.aload_n 0, 1) := by decide +kernel
theorem d_Dsk_init_32 : decode b_Dsk_init 32 = .ok (.getfield 16, 3) := by decide +kernel
theorem d_Dsk_init_35 : decode b_Dsk_init 35 = .ok (.invokespecial 21, 3) := by decide +kernel
theorem d_Dsk_init_38 : decode b_Dsk_init 38 = .ok (.putfield 24, 3) := by decide +kernel
theorem d_Dsk_init_41 : decode b_Dsk_init 41 = .ok (.aload_n 0, 1) := by decide +kernel
theorem d_Dsk_init_42 : decode b_Dsk_init 42 = .ok (.new 28, 3) := by decide +kernel
theorem d_Dsk_init_45 : decode b_Dsk_init 45 = .ok (.dup, 1) := by decide +kernel
theorem d_Dsk_init_46 : decode b_Dsk_init 46 = .ok (.invokespecial 30, 3) := by decide +kernel
theorem d_Dsk_init_49 : decode b_Dsk_init 49 = .ok (.putfield 31, 3) := by decide +kernel
theorem d_Dsk_init_52 : decode b_Dsk_init 52 = .ok (.aload_n 0, 1) := by decide +kernel
theorem d_Dsk_init_53 : decode b_Dsk_init 53 = .ok (.bipush 12, 2) := by decide +kernel
theorem d_Dsk_init_55 : decode b_Dsk_init 55 = .ok (.anewarray 35, 3) := by decide +kernel
theorem d_Dsk_init_58 : decode b_Dsk_init 58 = .ok (.putfield 37, 3) := by decide +kernel
theorem d_Dsk_init_61 : decode b_Dsk_init 61 = .ok (.aload_n 0, 1) := by decide +kernel
theorem d_Dsk_init_62 : decode b_Dsk_init 62 = .ok (.iconst 0, 1) := by decide +kernel
theorem d_Dsk_init_63 : decode b_Dsk_init 63 = .ok (.putfield 41, 3) := by decide +kernel
theorem d_Dsk_init_66 : decode b_Dsk_init 66 = .ok (.aload_n 0, 1) := by decide +kernel
theorem d_Dsk_init_67 : decode b_Dsk_init 67 = .ok (.iconst 0, 1) := by decide +kernel
theorem d_Dsk_init_68 : decode b_Dsk_init 68 = .ok (.putfield 45, 3) := by decide +kernel
theorem d_Dsk_init_71 : decode b_Dsk_init 71 = .ok (.aload_n 0, 1) := by decide +kernel
theorem d_Dsk_init_72 : decode b_Dsk_init 72 = .ok (.iconst (-1), 1) := by decide +kernel
theorem d_Dsk_init_73 : decode b_Dsk_init 73 = .ok (.putfield 49, 3) := by decide +kernel
theorem d_Dsk_init_76 : decode b_Dsk_init 76 = .ok (.aload_n 0, 1) := by decide +kernel
theorem d_Dsk_init_77 : decode b_Dsk_init 77 = .ok (.sipush 384, 3) := by decide +kernel
theorem d_Dsk_init_80 : decode b_Dsk_init 80 = .ok (.newarray .byte, 2) := by decide +kernel
theorem d_Dsk_init_82 : decode b_Dsk_init 82 = .ok (.putfield 52, 3) := by decide +kernel
theorem d_Dsk_init_85 : decode b_Dsk_init 85 = .ok (.aload_n 0, 1) := by decide +kernel
theorem d_Dsk_init_86 : decode b_Dsk_init 86 = .ok (.bipush 32, 2) := by decide +kernel
theorem d_Dsk_init_88 : decode b_Dsk_init 88 = .ok (.newarray .byte, 2) := by decide +kernel
theorem d_Dsk_init_90 : decode b_Dsk_init 90 = .ok (.putfield 56, 3) := by decide +kernel
theorem d_Dsk_init_93 : decode b_Dsk_init 93 = .ok (.aload_n 0, 1) := by decide +kernel
theorem d_Dsk_init_94 : decode b_Dsk_init 94 = .ok (.new 59, 3) := by decide +kernel
theorem d_Dsk_init_97 : decode b_Dsk_init 97 = .ok (.dup, 1) := by decide +kernel
theorem d_Dsk_init_98 : decode b_Dsk_init 98 = .ok (.invokespecial 61, 3) := by decide +kernel
theorem d_Dsk_init_101 : decode b_Dsk_init 101 = .ok (.putfield 62, 3) := by decide +kernel
theorem d_Dsk_init_104 : decode b_Dsk_init 104 = .ok (.iconst 0, 1) := by decide +kernel
theorem d_Dsk_init_105 : decode b_Dsk_init 105 = .ok (.istore_n 1, 1) := by decide +kernel
theorem d_Dsk_init_106 : decode b_Dsk_init 106 = .ok (.iload_n 1, 1) := by decide +kernel
theorem d_Dsk_init_107 : decode b_Dsk_init 107 = .ok (.bipush 12, 2) := by decide +kernel
theorem d_Dsk_init_109 : decode b_Dsk_init 109 = .ok (.if_icmp .ge 22, 3) := by decide +kernel
theorem d_Dsk_init_112 : decode b_Dsk_init 112 = .ok (.aload_n 0, 1) := by decide +kernel
theorem d_Dsk_init_113 : decode b_Dsk_init 113 = .ok (.getfield 37, 3) := by decide +kernel
theorem d_Dsk_init_116 : decode b_Dsk_init 116 = .ok (.iload_n 1, 1) := by decide +kernel
theorem d_Dsk_init_117 : decode b_Dsk_init 117 = .ok (.new 35, 3) := by decide +kernel
theorem d_Dsk_init_120 : decode b_Dsk_init 120 = .ok (.dup, 1) := by decide +kernel
theorem d_Dsk_init_121 : decode b_Dsk_init 121 = .ok (.invokespecial 66, 3) := by decide +kernel
theorem d_Dsk_init_124 : decode b_Dsk_init 124 = .ok (.aastore, 1) := by decide +kernel
theorem d_Dsk_init_125 : decode b_Dsk_init 125 = .ok (.iinc 1 1, 3) := by decide +kernel
theorem d_Dsk_init_128 : decode b_Dsk_init 128 = .ok (.goto (-22), 3) := by decide +kernel
theorem d_Dsk_init_131 : decode b_Dsk_init 131 = .ok (.return_, 1) := by decide +kernel
abbrev b_Dsk_put : ByteArray := prog_1_method_2_code
def y_Dsk_put : MethodName := ⟨R_Dsk, "put", "(JI)Z"⟩
theorem d_Dsk_put_0 : decode b_Dsk_put 0 = .ok (.iload_n 3, 1) := by decide +kernel
theorem d_Dsk_put_1 : decode b_Dsk_put 1 = .ok (.iconst 1, 1) := by decide +kernel
theorem d_Dsk_put_2 : decode b_Dsk_put 2 = .ok (.if_icmp .lt 20, 3) := by decide +kernel
theorem d_Dsk_put_5 : decode b_Dsk_put 5 = .ok (.iload_n 3, 1) := by decide +kernel
theorem d_Dsk_put_6 : decode b_Dsk_put 6 = .ok (.bipush 8, 2) := by decide +kernel
theorem d_Dsk_put_8 : decode b_Dsk_put 8 = .ok (.if_icmp .gt 14, 3) := by decide +kernel
theorem d_Dsk_put_11 : decode b_Dsk_put 11 = .ok (.aload_n 0, 1) := by decide +kernel
theorem d_Dsk_put_12 : decode b_Dsk_put 12 = .ok (.getfield 10, 3) := by decide +kernel
theorem d_Dsk_put_15 : decode b_Dsk_put 15 = .ok (.iload_n 3, 1) := by decide +kernel
theorem d_Dsk_put_16 : decode b_Dsk_put 16 = .ok (.invokevirtual 67, 3) := by decide +kernel
theorem d_Dsk_put_19 : decode b_Dsk_put 19 = .ok (.ifCond .ne 5, 3) := by decide +kernel
theorem d_Dsk_put_22 : decode b_Dsk_put 22 = .ok (.iconst 0, 1) := by decide +kernel
theorem d_Dsk_put_23 : decode b_Dsk_put 23 = .ok (.ireturn, 1) := by decide +kernel
theorem d_Dsk_put_24 : decode b_Dsk_put 24 = .ok (.aload_n 0, 1) := by decide +kernel
theorem d_Dsk_put_25 : decode b_Dsk_put 25 = .ok (.getfield 10, 3) := by decide +kernel
theorem d_Dsk_put_28 : decode b_Dsk_put 28 = .ok (.lload_n 1, 1) := by decide +kernel
theorem d_Dsk_put_29 : decode b_Dsk_put 29 = .ok (.iload_n 3, 1) := by decide +kernel
theorem d_Dsk_put_30 : decode b_Dsk_put 30 = .ok (.invokevirtual 71, 3) := by decide +kernel
theorem d_Dsk_put_33 : decode b_Dsk_put 33 = .ok (.iconst 1, 1) := by decide +kernel
theorem d_Dsk_put_34 : decode b_Dsk_put 34 = .ok (.ireturn, 1) := by decide +kernel
abbrev b_Dsk_low : ByteArray := prog_1_method_3_code
def y_Dsk_low : MethodName := ⟨R_Dsk, "low", "(JI)Z"⟩
theorem d_Dsk_low_0 : decode b_Dsk_low 0 = .ok (.iload_n 3, 1) := by decide +kernel
theorem d_Dsk_low_1 : decode b_Dsk_low 1 = .ok (.iconst 1, 1) := by decide +kernel
theorem d_Dsk_low_2 : decode b_Dsk_low 2 = .ok (.if_icmp .lt 20, 3) := by decide +kernel
theorem d_Dsk_low_5 : decode b_Dsk_low 5 = .ok (.iload_n 3, 1) := by decide +kernel
theorem d_Dsk_low_6 : decode b_Dsk_low 6 = .ok (.bipush 8, 2) := by decide +kernel
theorem d_Dsk_low_8 : decode b_Dsk_low 8 = .ok (.if_icmp .gt 14, 3) := by decide +kernel
theorem d_Dsk_low_11 : decode b_Dsk_low 11 = .ok (.aload_n 0, 1) := by decide +kernel
theorem d_Dsk_low_12 : decode b_Dsk_low 12 = .ok (.getfield 10, 3) := by decide +kernel
theorem d_Dsk_low_15 : decode b_Dsk_low 15 = .ok (.iload_n 3, 1) := by decide +kernel
theorem d_Dsk_low_16 : decode b_Dsk_low 16 = .ok (.invokevirtual 67, 3) := by decide +kernel
theorem d_Dsk_low_19 : decode b_Dsk_low 19 = .ok (.ifCond .ne 5, 3) := by decide +kernel
theorem d_Dsk_low_22 : decode b_Dsk_low 22 = .ok (.iconst 0, 1) := by decide +kernel
theorem d_Dsk_low_23 : decode b_Dsk_low 23 = .ok (.ireturn, 1) := by decide +kernel
theorem d_Dsk_low_24 : decode b_Dsk_low 24 = .ok (.aload_n 0, 1) := by decide +kernel
theorem d_Dsk_low_25 : decode b_Dsk_low 25 = .ok (.getfield 10, 3) := by decide +kernel
theorem d_Dsk_low_28 : decode b_Dsk_low 28 = .ok (.lload_n 1, 1) := by decide +kernel
theorem d_Dsk_low_29 : decode b_Dsk_low 29 = .ok (.iload_n 3, 1) := by decide +kernel
theorem d_Dsk_low_30 : decode b_Dsk_low 30 = .ok (.invokevirtual 75, 3) := by decide +kernel
theorem d_Dsk_low_33 : decode b_Dsk_low 33 = .ok (.iconst 1, 1) := by decide +kernel
theorem d_Dsk_low_34 : decode b_Dsk_low 34 = .ok (.ireturn, 1) := by decide +kernel
abbrev b_Dsk_compact : ByteArray := prog_1_method_4_code
def y_Dsk_compact : MethodName := ⟨R_Dsk, "compact", "(J)Z"⟩
theorem d_Dsk_compact_0 : decode b_Dsk_compact 0 = .ok (.lload_n 1, 1) := by decide +kernel
theorem d_Dsk_compact_1 : decode b_Dsk_compact 1 = .ok (.invokestatic 78, 3) := by decide +kernel
theorem d_Dsk_compact_4 : decode b_Dsk_compact 4 = .ok (.istore_n 3, 1) := by decide +kernel
theorem d_Dsk_compact_5 : decode b_Dsk_compact 5 = .ok (.aload_n 0, 1) := by decide +kernel
theorem d_Dsk_compact_6 : decode b_Dsk_compact 6 = .ok (.getfield 10, 3) := by decide +kernel
theorem d_Dsk_compact_9 : decode b_Dsk_compact 9 = .ok (.iconst 1, 1) := by decide +kernel
theorem d_Dsk_compact_10 : decode b_Dsk_compact 10 = .ok (.iload_n 3, 1) := by decide +kernel
theorem d_Dsk_compact_11 : decode b_Dsk_compact 11 = .ok (.iadd, 1) := by decide +kernel
theorem d_Dsk_compact_12 : decode b_Dsk_compact 12 = .ok (.invokevirtual 67, 3) := by decide +kernel
theorem d_Dsk_compact_15 : decode b_Dsk_compact 15 = .ok (.ifCond .ne 5, 3) := by decide +kernel
theorem d_Dsk_compact_18 : decode b_Dsk_compact 18 = .ok (.iconst 0, 1) := by decide +kernel
theorem d_Dsk_compact_19 : decode b_Dsk_compact 19 = .ok (.ireturn, 1) := by decide +kernel
theorem d_Dsk_compact_20 : decode b_Dsk_compact 20 = .ok (.iload_n 3, 1) := by decide +kernel
theorem d_Dsk_compact_21 : decode b_Dsk_compact 21 = .ok (.ifCond .le 28, 3) := by decide +kernel
theorem d_Dsk_compact_24 : decode b_Dsk_compact 24 = .ok (.aload_n 0, 1) := by decide +kernel
theorem d_Dsk_compact_25 : decode b_Dsk_compact 25 = .ok (.getfield 10, 3) := by decide +kernel
theorem d_Dsk_compact_28 : decode b_Dsk_compact 28 = .ok (.iload_n 3, 1) := by decide +kernel
theorem d_Dsk_compact_29 : decode b_Dsk_compact 29 = .ok (.invokestatic 82, 3) := by decide +kernel
theorem d_Dsk_compact_32 : decode b_Dsk_compact 32 = .ok (.i2l, 1) := by decide +kernel
theorem d_Dsk_compact_33 : decode b_Dsk_compact 33 = .ok (.iconst 1, 1) := by decide +kernel
theorem d_Dsk_compact_34 : decode b_Dsk_compact 34 = .ok (.invokevirtual 75, 3) := by decide +kernel
theorem d_Dsk_compact_37 : decode b_Dsk_compact 37 = .ok (.aload_n 0, 1) := by decide +kernel
theorem d_Dsk_compact_38 : decode b_Dsk_compact 38 = .ok (.getfield 10, 3) := by decide +kernel
theorem d_Dsk_compact_41 : decode b_Dsk_compact 41 = .ok (.lload_n 1, 1) := by decide +kernel
theorem d_Dsk_compact_42 : decode b_Dsk_compact 42 = .ok (.iload_n 3, 1) := by decide +kernel
theorem d_Dsk_compact_43 : decode b_Dsk_compact 43 = .ok (.invokevirtual 75, 3) := by decide +kernel
theorem d_Dsk_compact_46 : decode b_Dsk_compact 46 = .ok (.goto 12, 3) := by decide +kernel
theorem d_Dsk_compact_49 : decode b_Dsk_compact 49 = .ok (.aload_n 0, 1) := by decide +kernel
theorem d_Dsk_compact_50 : decode b_Dsk_compact 50 = .ok (.getfield 10, 3) := by decide +kernel
theorem d_Dsk_compact_53 : decode b_Dsk_compact 53 = .ok (.lload_n 1, 1) := by decide +kernel
theorem d_Dsk_compact_54 : decode b_Dsk_compact 54 = .ok (.iconst 1, 1) := by decide +kernel
theorem d_Dsk_compact_55 : decode b_Dsk_compact 55 = .ok (.invokevirtual 75, 3) := by decide +kernel
theorem d_Dsk_compact_58 : decode b_Dsk_compact 58 = .ok (.iconst 1, 1) := by decide +kernel
theorem d_Dsk_compact_59 : decode b_Dsk_compact 59 = .ok (.ireturn, 1) := by decide +kernel
abbrev b_Dsk_read : ByteArray := prog_1_method_5_code
def y_Dsk_read : MethodName := ⟨R_Dsk, "read", "(Z)I"⟩
theorem d_Dsk_read_0 : decode b_Dsk_read 0 = .ok (.aload_n 0, 1) := by decide +kernel
theorem d_Dsk_read_1 : decode b_Dsk_read 1 = .ok (.getfield 16, 3) := by decide +kernel
theorem d_Dsk_read_4 : decode b_Dsk_read 4 = .ok (.aload_n 0, 1) := by decide +kernel
theorem d_Dsk_read_5 : decode b_Dsk_read 5 = .ok (.getfield 10, 3) := by decide +kernel
theorem d_Dsk_read_8 : decode b_Dsk_read 8 = .ok (.invokevirtual 86, 3) := by decide +kernel
theorem d_Dsk_read_11 : decode b_Dsk_read 11 = .ok (.aload_n 0, 1) := by decide +kernel
theorem d_Dsk_read_12 : decode b_Dsk_read 12 = .ok (.getfield 10, 3) := by decide +kernel
theorem d_Dsk_read_15 : decode b_Dsk_read 15 = .ok (.invokevirtual 89, 3) := by decide +kernel
theorem d_Dsk_read_18 : decode b_Dsk_read 18 = .ok (.aload_n 0, 1) := by decide +kernel
theorem d_Dsk_read_19 : decode b_Dsk_read 19 = .ok (.getfield 24, 3) := by decide +kernel
theorem d_Dsk_read_22 : decode b_Dsk_read 22 = .ok (.invokevirtual 92, 3) := by decide +kernel
theorem d_Dsk_read_25 : decode b_Dsk_read 25 = .ok (.iconst 1, 1) := by decide +kernel
theorem d_Dsk_read_26 : decode b_Dsk_read 26 = .ok (.istore_n 2, 1) := by decide +kernel
theorem d_Dsk_read_27 : decode b_Dsk_read 27 = .ok (.iload_n 1, 1) := by decide +kernel
theorem d_Dsk_read_28 : decode b_Dsk_read 28 = .ok (.ifCond .eq 18, 3) := by decide +kernel
theorem d_Dsk_read_31 : decode b_Dsk_read 31 = .ok (.aload_n 0, 1) := by decide +kernel
theorem d_Dsk_read_32 : decode b_Dsk_read 32 = .ok (.getfield 24, 3) := by decide +kernel
theorem d_Dsk_read_35 : decode b_Dsk_read 35 = .ok (.aload_n 0, 1) := by decide +kernel
theorem d_Dsk_read_36 : decode b_Dsk_read 36 = .ok (.getfield 37, 3) := by decide +kernel
theorem d_Dsk_read_39 : decode b_Dsk_read 39 = .ok (.invokevirtual 95, 3) := by decide +kernel
theorem d_Dsk_read_42 : decode b_Dsk_read 42 = .ok (.istore_n 2, 1) := by decide +kernel
theorem d_Dsk_read_43 : decode b_Dsk_read 43 = .ok (.goto 16, 3) := by decide +kernel
theorem d_Dsk_read_46 : decode b_Dsk_read 46 = .ok (.aload_n 0, 1) := by decide +kernel
theorem d_Dsk_read_47 : decode b_Dsk_read 47 = .ok (.getfield 24, 3) := by decide +kernel
theorem d_Dsk_read_50 : decode b_Dsk_read 50 = .ok (.aload_n 0, 1) := by decide +kernel
theorem d_Dsk_read_51 : decode b_Dsk_read 51 = .ok (.getfield 37, 3) := by decide +kernel
theorem d_Dsk_read_54 : decode b_Dsk_read 54 = .ok (.iconst 0, 1) := by decide +kernel
theorem d_Dsk_read_55 : decode b_Dsk_read 55 = .ok (.aaload, 1) := by decide +kernel
theorem d_Dsk_read_56 : decode b_Dsk_read 56 = .ok (.invokevirtual 99, 3) := by decide +kernel
theorem d_Dsk_read_59 : decode b_Dsk_read 59 = .ok (.aload_n 0, 1) := by decide +kernel
theorem d_Dsk_read_60 : decode b_Dsk_read 60 = .ok (.getfield 24, 3) := by decide +kernel
theorem d_Dsk_read_63 : decode b_Dsk_read 63 = .ok (.invokevirtual 103, 3) := by decide +kernel
theorem d_Dsk_read_66 : decode b_Dsk_read 66 = .ok (.aload_n 0, 1) := by decide +kernel
theorem d_Dsk_read_67 : decode b_Dsk_read 67 = .ok (.aload_n 0, 1) := by decide +kernel
theorem d_Dsk_read_68 : decode b_Dsk_read 68 = .ok (.getfield 24, 3) := by decide +kernel
theorem d_Dsk_read_71 : decode b_Dsk_read 71 = .ok (.getfield 106, 3) := by decide +kernel
theorem d_Dsk_read_74 : decode b_Dsk_read 74 = .ok (.putfield 49, 3) := by decide +kernel
theorem d_Dsk_read_77 : decode b_Dsk_read 77 = .ok (.aload_n 0, 1) := by decide +kernel
theorem d_Dsk_read_78 : decode b_Dsk_read 78 = .ok (.getfield 24, 3) := by decide +kernel
theorem d_Dsk_read_81 : decode b_Dsk_read 81 = .ok (.getfield 107, 3) := by decide +kernel
theorem d_Dsk_read_84 : decode b_Dsk_read 84 = .ok (.ifCond .eq 17, 3) := by decide +kernel
theorem d_Dsk_read_87 : decode b_Dsk_read 87 = .ok (.aload_n 0, 1) := by decide +kernel
theorem d_Dsk_read_88 : decode b_Dsk_read 88 = .ok (.invokevirtual 110, 3) := by decide +kernel
theorem d_Dsk_read_91 : decode b_Dsk_read 91 = .ok (.iconst (-1), 1) := by decide +kernel
theorem d_Dsk_read_92 : decode b_Dsk_read 92 = .ok (.aload_n 0, 1) := by decide +kernel
theorem d_Dsk_read_93 : decode b_Dsk_read 93 = .ok (.getfield 24, 3) := by decide +kernel
theorem d_Dsk_read_96 : decode b_Dsk_read 96 = .ok (.getfield 107, 3) := by decide +kernel
theorem d_Dsk_read_99 : decode b_Dsk_read 99 = .ok (.isub, 1) := by decide +kernel
theorem d_Dsk_read_100 : decode b_Dsk_read 100 = .ok (.ireturn, 1) := by decide +kernel
theorem d_Dsk_read_101 : decode b_Dsk_read 101 = .ok (.aload_n 0, 1) := by decide +kernel
theorem d_Dsk_read_102 : decode b_Dsk_read 102 = .ok (.iload_n 2, 1) := by decide +kernel
theorem d_Dsk_read_103 : decode b_Dsk_read 103 = .ok (.putfield 41, 3) := by decide +kernel
theorem d_Dsk_read_106 : decode b_Dsk_read 106 = .ok (.aload_n 0, 1) := by decide +kernel
theorem d_Dsk_read_107 : decode b_Dsk_read 107 = .ok (.iload_n 1, 1) := by decide +kernel
theorem d_Dsk_read_108 : decode b_Dsk_read 108 = .ok (.putfield 45, 3) := by decide +kernel
theorem d_Dsk_read_111 : decode b_Dsk_read 111 = .ok (.aload_n 0, 1) := by decide +kernel
theorem d_Dsk_read_112 : decode b_Dsk_read 112 = .ok (.invokevirtual 113, 3) := by decide +kernel
theorem d_Dsk_read_115 : decode b_Dsk_read 115 = .ok (.iload_n 1, 1) := by decide +kernel
theorem d_Dsk_read_116 : decode b_Dsk_read 116 = .ok (.ifCond .eq 44, 3) := by decide +kernel
theorem d_Dsk_read_119 : decode b_Dsk_read 119 = .ok (.aload_n 0, 1) := by decide +kernel
theorem d_Dsk_read_120 : decode b_Dsk_read 120 = .ok (.getfield 31, 3) := by decide +kernel
theorem d_Dsk_read_123 : decode b_Dsk_read 123 = .ok (.aload_n 0, 1) := by decide +kernel
theorem d_Dsk_read_124 : decode b_Dsk_read 124 = .ok (.getfield 16, 3) := by decide +kernel
theorem d_Dsk_read_127 : decode b_Dsk_read 127 = .ok (.getfield 116, 3) := by decide +kernel
theorem d_Dsk_read_130 : decode b_Dsk_read 130 = .ok (.iconst 0, 1) := by decide +kernel
theorem d_Dsk_read_131 : decode b_Dsk_read 131 = .ok (.bipush 80, 2) := by decide +kernel
theorem d_Dsk_read_133 : decode b_Dsk_read 133 = .ok (.aload_n 0, 1) := by decide +kernel
theorem d_Dsk_read_134 : decode b_Dsk_read 134 = .ok (.getfield 56, 3) := by decide +kernel
theorem d_Dsk_read_137 : decode b_Dsk_read 137 = .ok (.iconst 0, 1) := by decide +kernel
theorem d_Dsk_read_138 : decode b_Dsk_read 138 = .ok (.invokevirtual 119, 3) := by decide +kernel
theorem d_Dsk_read_141 : decode b_Dsk_read 141 = .ok (.aload_n 0, 1) := by decide +kernel
theorem d_Dsk_read_142 : decode b_Dsk_read 142 = .ok (.getfield 62, 3) := by decide +kernel
theorem d_Dsk_read_145 : decode b_Dsk_read 145 = .ok (.aload_n 0, 1) := by decide +kernel
theorem d_Dsk_read_146 : decode b_Dsk_read 146 = .ok (.getfield 52, 3) := by decide +kernel
theorem d_Dsk_read_149 : decode b_Dsk_read 149 = .ok (.aload_n 0, 1) := by decide +kernel
theorem d_Dsk_read_150 : decode b_Dsk_read 150 = .ok (.getfield 41, 3) := by decide +kernel
theorem d_Dsk_read_153 : decode b_Dsk_read 153 = .ok (.aload_n 0, 1) := by decide +kernel
theorem d_Dsk_read_154 : decode b_Dsk_read 154 = .ok (.getfield 31, 3) := by decide +kernel
theorem d_Dsk_read_157 : decode b_Dsk_read 157 = .ok (.invokevirtual 123, 3) := by decide +kernel
theorem d_Dsk_read_160 : decode b_Dsk_read 160 = .ok (.iload_n 2, 1) := by decide +kernel
theorem d_Dsk_read_161 : decode b_Dsk_read 161 = .ok (.ireturn, 1) := by decide +kernel
abbrev b_Dsk_place : ByteArray := prog_1_method_6_code
def y_Dsk_place : MethodName := ⟨R_Dsk, "place", "()I"⟩
theorem d_Dsk_place_0 : decode b_Dsk_place 0 = .ok (.aload_n 0, 1) := by decide +kernel
theorem d_Dsk_place_1 : decode b_Dsk_place 1 = .ok (.getfield 49, 3) := by decide +kernel
theorem d_Dsk_place_4 : decode b_Dsk_place 4 = .ok (.ireturn, 1) := by decide +kernel
abbrev b_Dsk_byteOf : ByteArray := prog_1_method_7_code
def y_Dsk_byteOf : MethodName := ⟨R_Dsk, "byteOf", "(I)I"⟩
theorem d_Dsk_byteOf_0 : decode b_Dsk_byteOf 0 = .ok (.aload_n 0, 1) := by decide +kernel
theorem d_Dsk_byteOf_1 : decode b_Dsk_byteOf 1 = .ok (.getfield 16, 3) := by decide +kernel
theorem d_Dsk_byteOf_4 : decode b_Dsk_byteOf 4 = .ok (.iload_n 1, 1) := by decide +kernel
theorem d_Dsk_byteOf_5 : decode b_Dsk_byteOf 5 = .ok (.invokevirtual 127, 3) := by decide +kernel
theorem d_Dsk_byteOf_8 : decode b_Dsk_byteOf 8 = .ok (.ireturn, 1) := by decide +kernel
abbrev b_Dsk_head : ByteArray := prog_1_method_8_code
def y_Dsk_head : MethodName := ⟨R_Dsk, "head", "(I)J"⟩
theorem d_Dsk_head_0 : decode b_Dsk_head 0 = .ok (.aload_n 0, 1) := by decide +kernel
theorem d_Dsk_head_1 : decode b_Dsk_head 1 = .ok (.getfield 45, 3) := by decide +kernel
theorem d_Dsk_head_4 : decode b_Dsk_head 4 = .ok (.ifCond .ne 7, 3) := by decide +kernel
theorem d_Dsk_head_7 : decode b_Dsk_head 7 = .ok (.ldc2_w 130, 3) := by decide +kernel
theorem d_Dsk_head_10 : decode b_Dsk_head 10 = .ok (.lreturn, 1) := by decide +kernel
theorem d_Dsk_head_11 : decode b_Dsk_head 11 = .ok (.iload_n 1, 1) := by decide +kernel
theorem d_Dsk_head_12 : decode b_Dsk_head 12 = .ok (.tableswitch 75 0 3 #[32, 42, 53, 64], 32) := by decide +kernel
theorem d_Dsk_head_44 : decode b_Dsk_head 44 = .ok (.aload_n 0, 1) := by decide +kernel
theorem d_Dsk_head_45 : decode b_Dsk_head 45 = .ok (.getfield 16, 3) := by decide +kernel
theorem d_Dsk_head_48 : decode b_Dsk_head 48 = .ok (.iconst 0, 1) := by decide +kernel
theorem d_Dsk_head_49 : decode b_Dsk_head 49 = .ok (.iconst 4, 1) := by decide +kernel
theorem d_Dsk_head_50 : decode b_Dsk_head 50 = .ok (.invokevirtual 132, 3) := by decide +kernel
theorem d_Dsk_head_53 : decode b_Dsk_head 53 = .ok (.lreturn, 1) := by decide +kernel
theorem d_Dsk_head_54 : decode b_Dsk_head 54 = .ok (.aload_n 0, 1) := by decide +kernel
theorem d_Dsk_head_55 : decode b_Dsk_head 55 = .ok (.getfield 16, 3) := by decide +kernel
theorem d_Dsk_head_58 : decode b_Dsk_head 58 = .ok (.bipush 68, 2) := by decide +kernel
theorem d_Dsk_head_60 : decode b_Dsk_head 60 = .ok (.iconst 4, 1) := by decide +kernel
theorem d_Dsk_head_61 : decode b_Dsk_head 61 = .ok (.invokevirtual 132, 3) := by decide +kernel
theorem d_Dsk_head_64 : decode b_Dsk_head 64 = .ok (.lreturn, 1) := by decide +kernel
theorem d_Dsk_head_65 : decode b_Dsk_head 65 = .ok (.aload_n 0, 1) := by decide +kernel
theorem d_Dsk_head_66 : decode b_Dsk_head 66 = .ok (.getfield 16, 3) := by decide +kernel
theorem d_Dsk_head_69 : decode b_Dsk_head 69 = .ok (.bipush 72, 2) := by decide +kernel
theorem d_Dsk_head_71 : decode b_Dsk_head 71 = .ok (.iconst 4, 1) := by decide +kernel
theorem d_Dsk_head_72 : decode b_Dsk_head 72 = .ok (.invokevirtual 132, 3) := by decide +kernel
theorem d_Dsk_head_75 : decode b_Dsk_head 75 = .ok (.lreturn, 1) := by decide +kernel
theorem d_Dsk_head_76 : decode b_Dsk_head 76 = .ok (.aload_n 0, 1) := by decide +kernel
theorem d_Dsk_head_77 : decode b_Dsk_head 77 = .ok (.getfield 16, 3) := by decide +kernel
theorem d_Dsk_head_80 : decode b_Dsk_head 80 = .ok (.bipush 76, 2) := by decide +kernel
theorem d_Dsk_head_82 : decode b_Dsk_head 82 = .ok (.iconst 4, 1) := by decide +kernel
theorem d_Dsk_head_83 : decode b_Dsk_head 83 = .ok (.invokevirtual 132, 3) := by decide +kernel
theorem d_Dsk_head_86 : decode b_Dsk_head 86 = .ok (.lreturn, 1) := by decide +kernel
theorem d_Dsk_head_87 : decode b_Dsk_head 87 = .ok (.ldc2_w 130, 3) := by decide +kernel
theorem d_Dsk_head_90 : decode b_Dsk_head 90 = .ok (.lreturn, 1) := by decide +kernel
abbrev b_Dsk_look : ByteArray := prog_1_method_9_code
def y_Dsk_look : MethodName := ⟨R_Dsk, "look", "(II)J"⟩
theorem d_Dsk_look_0 : decode b_Dsk_look 0 = .ok (.aload_n 0, 1) := by decide +kernel
theorem d_Dsk_look_1 : decode b_Dsk_look 1 = .ok (.iload_n 1, 1) := by decide +kernel
theorem d_Dsk_look_2 : decode b_Dsk_look 2 = .ok (.invokevirtual 136, 3) := by decide +kernel
theorem d_Dsk_look_5 : decode b_Dsk_look 5 = .ok (.ifCond .ne 7, 3) := by decide +kernel
theorem d_Dsk_look_8 : decode b_Dsk_look 8 = .ok (.ldc2_w 130, 3) := by decide +kernel
theorem d_Dsk_look_11 : decode b_Dsk_look 11 = .ok (.lreturn, 1) := by decide +kernel
theorem d_Dsk_look_12 : decode b_Dsk_look 12 = .ok (.aload_n 0, 1) := by decide +kernel
theorem d_Dsk_look_13 : decode b_Dsk_look 13 = .ok (.getfield 37, 3) := by decide +kernel
theorem d_Dsk_look_16 : decode b_Dsk_look 16 = .ok (.iload_n 1, 1) := by decide +kernel
theorem d_Dsk_look_17 : decode b_Dsk_look 17 = .ok (.aaload, 1) := by decide +kernel
theorem d_Dsk_look_18 : decode b_Dsk_look 18 = .ok (.astore_n 3, 1) := by decide +kernel
theorem d_Dsk_look_19 : decode b_Dsk_look 19 = .ok (.iload_n 2, 1) := by decide +kernel
theorem d_Dsk_look_20 : decode b_Dsk_look 20 = .ok (.tableswitch 97 0 5 #[40, 53, 59, 65, 80, 86], 40) := by decide +kernel
theorem d_Dsk_look_60 : decode b_Dsk_look 60 = .ok (.aload_n 0, 1) := by decide +kernel
theorem d_Dsk_look_61 : decode b_Dsk_look 61 = .ok (.getfield 16, 3) := by decide +kernel
theorem d_Dsk_look_64 : decode b_Dsk_look 64 = .ok (.aload_n 3, 1) := by decide +kernel
theorem d_Dsk_look_65 : decode b_Dsk_look 65 = .ok (.getfield 139, 3) := by decide +kernel
theorem d_Dsk_look_68 : decode b_Dsk_look 68 = .ok (.iconst 4, 1) := by decide +kernel
theorem d_Dsk_look_69 : decode b_Dsk_look 69 = .ok (.invokevirtual 132, 3) := by decide +kernel
theorem d_Dsk_look_72 : decode b_Dsk_look 72 = .ok (.lreturn, 1) := by decide +kernel
theorem d_Dsk_look_73 : decode b_Dsk_look 73 = .ok (.aload_n 3, 1) := by decide +kernel
theorem d_Dsk_look_74 : decode b_Dsk_look 74 = .ok (.getfield 141, 3) := by decide +kernel
theorem d_Dsk_look_77 : decode b_Dsk_look 77 = .ok (.i2l, 1) := by decide +kernel
theorem d_Dsk_look_78 : decode b_Dsk_look 78 = .ok (.lreturn, 1) := by decide +kernel
theorem d_Dsk_look_79 : decode b_Dsk_look 79 = .ok (.aload_n 3, 1) := by decide +kernel
theorem d_Dsk_look_80 : decode b_Dsk_look 80 = .ok (.getfield 144, 3) := by decide +kernel
theorem d_Dsk_look_83 : decode b_Dsk_look 83 = .ok (.i2l, 1) := by decide +kernel
theorem d_Dsk_look_84 : decode b_Dsk_look 84 = .ok (.lreturn, 1) := by decide +kernel
theorem d_Dsk_look_85 : decode b_Dsk_look 85 = .ok (.aload_n 0, 1) := by decide +kernel
theorem d_Dsk_look_86 : decode b_Dsk_look 86 = .ok (.getfield 16, 3) := by decide +kernel
theorem d_Dsk_look_89 : decode b_Dsk_look 89 = .ok (.aload_n 3, 1) := by decide +kernel
theorem d_Dsk_look_90 : decode b_Dsk_look 90 = .ok (.getfield 147, 3) := by decide +kernel
theorem d_Dsk_look_93 : decode b_Dsk_look 93 = .ok (.iconst 4, 1) := by decide +kernel
theorem d_Dsk_look_94 : decode b_Dsk_look 94 = .ok (.isub, 1) := by decide +kernel
theorem d_Dsk_look_95 : decode b_Dsk_look 95 = .ok (.iconst 4, 1) := by decide +kernel
theorem d_Dsk_look_96 : decode b_Dsk_look 96 = .ok (.invokevirtual 132, 3) := by decide +kernel
theorem d_Dsk_look_99 : decode b_Dsk_look 99 = .ok (.lreturn, 1) := by decide +kernel
theorem d_Dsk_look_100 : decode b_Dsk_look 100 = .ok (.aload_n 3, 1) := by decide +kernel
theorem d_Dsk_look_101 : decode b_Dsk_look 101 = .ok (.getfield 139, 3) := by decide +kernel
theorem d_Dsk_look_104 : decode b_Dsk_look 104 = .ok (.i2l, 1) := by decide +kernel
theorem d_Dsk_look_105 : decode b_Dsk_look 105 = .ok (.lreturn, 1) := by decide +kernel
theorem d_Dsk_look_106 : decode b_Dsk_look 106 = .ok (.aload_n 3, 1) := by decide +kernel
theorem d_Dsk_look_107 : decode b_Dsk_look 107 = .ok (.getfield 147, 3) := by decide +kernel
theorem d_Dsk_look_110 : decode b_Dsk_look 110 = .ok (.aload_n 3, 1) := by decide +kernel
theorem d_Dsk_look_111 : decode b_Dsk_look 111 = .ok (.getfield 139, 3) := by decide +kernel
theorem d_Dsk_look_114 : decode b_Dsk_look 114 = .ok (.isub, 1) := by decide +kernel
theorem d_Dsk_look_115 : decode b_Dsk_look 115 = .ok (.i2l, 1) := by decide +kernel
theorem d_Dsk_look_116 : decode b_Dsk_look 116 = .ok (.lreturn, 1) := by decide +kernel
theorem d_Dsk_look_117 : decode b_Dsk_look 117 = .ok (.ldc2_w 130, 3) := by decide +kernel
theorem d_Dsk_look_120 : decode b_Dsk_look 120 = .ok (.lreturn, 1) := by decide +kernel
abbrev b_Dsk_input : ByteArray := prog_1_method_10_code
def y_Dsk_input : MethodName := ⟨R_Dsk, "input", "(III)J"⟩
theorem d_Dsk_input_0 : decode b_Dsk_input 0 = .ok (.aload_n 0, 1) := by decide +kernel
theorem d_Dsk_input_1 : decode b_Dsk_input 1 = .ok (.iload_n 1, 1) := by decide +kernel
theorem d_Dsk_input_2 : decode b_Dsk_input 2 = .ok (.invokevirtual 136, 3) := by decide +kernel
theorem d_Dsk_input_5 : decode b_Dsk_input 5 = .ok (.ifCond .eq 20, 3) := by decide +kernel
theorem d_Dsk_input_8 : decode b_Dsk_input 8 = .ok (.iload_n 2, 1) := by decide +kernel
theorem d_Dsk_input_9 : decode b_Dsk_input 9 = .ok (.ifCond .lt 16, 3) := by decide +kernel
theorem d_Dsk_input_12 : decode b_Dsk_input 12 = .ok (.iload_n 2, 1) := by decide +kernel
theorem d_Dsk_input_13 : decode b_Dsk_input 13 = .ok (.aload_n 0, 1) := by decide +kernel
theorem d_Dsk_input_14 : decode b_Dsk_input 14 = .ok (.getfield 37, 3) := by decide +kernel
theorem d_Dsk_input_17 : decode b_Dsk_input 17 = .ok (.iload_n 1, 1) := by decide +kernel
theorem d_Dsk_input_18 : decode b_Dsk_input 18 = .ok (.aaload, 1) := by decide +kernel
theorem d_Dsk_input_19 : decode b_Dsk_input 19 = .ok (.getfield 141, 3) := by decide +kernel
theorem d_Dsk_input_22 : decode b_Dsk_input 22 = .ok (.if_icmp .lt 7, 3) := by decide +kernel
theorem d_Dsk_input_25 : decode b_Dsk_input 25 = .ok (.ldc2_w 130, 3) := by decide +kernel
theorem d_Dsk_input_28 : decode b_Dsk_input 28 = .ok (.lreturn, 1) := by decide +kernel
theorem d_Dsk_input_29 : decode b_Dsk_input 29 = .ok (.aload_n 0, 1) := by decide +kernel
theorem d_Dsk_input_30 : decode b_Dsk_input 30 = .ok (.getfield 37, 3) := by decide +kernel
theorem d_Dsk_input_33 : decode b_Dsk_input 33 = .ok (.iload_n 1, 1) := by decide +kernel
theorem d_Dsk_input_34 : decode b_Dsk_input 34 = .ok (.aaload, 1) := by decide +kernel
theorem d_Dsk_input_35 : decode b_Dsk_input 35 = .ok (.astore 4, 2) := by decide +kernel
theorem d_Dsk_input_37 : decode b_Dsk_input 37 = .ok (.aload 4, 2) := by decide +kernel
theorem d_Dsk_input_39 : decode b_Dsk_input 39 = .ok (.getfield 150, 3) := by decide +kernel
theorem d_Dsk_input_42 : decode b_Dsk_input 42 = .ok (.iload_n 2, 1) := by decide +kernel
theorem d_Dsk_input_43 : decode b_Dsk_input 43 = .ok (.iaload, 1) := by decide +kernel
theorem d_Dsk_input_44 : decode b_Dsk_input 44 = .ok (.istore 5, 2) := by decide +kernel
theorem d_Dsk_input_46 : decode b_Dsk_input 46 = .ok (.aload 4, 2) := by decide +kernel
theorem d_Dsk_input_48 : decode b_Dsk_input 48 = .ok (.getfield 154, 3) := by decide +kernel
theorem d_Dsk_input_51 : decode b_Dsk_input 51 = .ok (.iload_n 2, 1) := by decide +kernel
theorem d_Dsk_input_52 : decode b_Dsk_input 52 = .ok (.iaload, 1) := by decide +kernel
theorem d_Dsk_input_53 : decode b_Dsk_input 53 = .ok (.istore 6, 2) := by decide +kernel
theorem d_Dsk_input_55 : decode b_Dsk_input 55 = .ok (.aload 4, 2) := by decide +kernel
theorem d_Dsk_input_57 : decode b_Dsk_input 57 = .ok (.getfield 157, 3) := by decide +kernel
theorem d_Dsk_input_60 : decode b_Dsk_input 60 = .ok (.iload_n 2, 1) := by decide +kernel
theorem d_Dsk_input_61 : decode b_Dsk_input 61 = .ok (.iaload, 1) := by decide +kernel
theorem d_Dsk_input_62 : decode b_Dsk_input 62 = .ok (.istore 7, 2) := by decide +kernel
theorem d_Dsk_input_64 : decode b_Dsk_input 64 = .ok (.iload_n 3, 1) := by decide +kernel
theorem d_Dsk_input_65 : decode b_Dsk_input 65 = .ok (.tableswitch 75 0 4 #[35, 39, 53, 57, 61], 35) := by decide +kernel
theorem d_Dsk_input_100 : decode b_Dsk_input 100 = .ok (.iload 5, 2) := by decide +kernel
theorem d_Dsk_input_102 : decode b_Dsk_input 102 = .ok (.i2l, 1) := by decide +kernel
theorem d_Dsk_input_103 : decode b_Dsk_input 103 = .ok (.lreturn, 1) := by decide +kernel
theorem d_Dsk_input_104 : decode b_Dsk_input 104 = .ok (.aload_n 0, 1) := by decide +kernel
theorem d_Dsk_input_105 : decode b_Dsk_input 105 = .ok (.getfield 16, 3) := by decide +kernel
theorem d_Dsk_input_108 : decode b_Dsk_input 108 = .ok (.iload 5, 2) := by decide +kernel
theorem d_Dsk_input_110 : decode b_Dsk_input 110 = .ok (.bipush 32, 2) := by decide +kernel
theorem d_Dsk_input_112 : decode b_Dsk_input 112 = .ok (.iadd, 1) := by decide +kernel
theorem d_Dsk_input_113 : decode b_Dsk_input 113 = .ok (.iconst 4, 1) := by decide +kernel
theorem d_Dsk_input_114 : decode b_Dsk_input 114 = .ok (.invokevirtual 132, 3) := by decide +kernel
theorem d_Dsk_input_117 : decode b_Dsk_input 117 = .ok (.lreturn, 1) := by decide +kernel
theorem d_Dsk_input_118 : decode b_Dsk_input 118 = .ok (.iload 6, 2) := by decide +kernel
theorem d_Dsk_input_120 : decode b_Dsk_input 120 = .ok (.i2l, 1) := by decide +kernel
theorem d_Dsk_input_121 : decode b_Dsk_input 121 = .ok (.lreturn, 1) := by decide +kernel
theorem d_Dsk_input_122 : decode b_Dsk_input 122 = .ok (.iload 7, 2) := by decide +kernel
theorem d_Dsk_input_124 : decode b_Dsk_input 124 = .ok (.i2l, 1) := by decide +kernel
theorem d_Dsk_input_125 : decode b_Dsk_input 125 = .ok (.lreturn, 1) := by decide +kernel
theorem d_Dsk_input_126 : decode b_Dsk_input 126 = .ok (.aload_n 0, 1) := by decide +kernel
theorem d_Dsk_input_127 : decode b_Dsk_input 127 = .ok (.getfield 16, 3) := by decide +kernel
theorem d_Dsk_input_130 : decode b_Dsk_input 130 = .ok (.iload 6, 2) := by decide +kernel
theorem d_Dsk_input_132 : decode b_Dsk_input 132 = .ok (.iload 7, 2) := by decide +kernel
theorem d_Dsk_input_134 : decode b_Dsk_input 134 = .ok (.iadd, 1) := by decide +kernel
theorem d_Dsk_input_135 : decode b_Dsk_input 135 = .ok (.iconst 4, 1) := by decide +kernel
theorem d_Dsk_input_136 : decode b_Dsk_input 136 = .ok (.invokevirtual 132, 3) := by decide +kernel
theorem d_Dsk_input_139 : decode b_Dsk_input 139 = .ok (.lreturn, 1) := by decide +kernel
theorem d_Dsk_input_140 : decode b_Dsk_input 140 = .ok (.ldc2_w 130, 3) := by decide +kernel
theorem d_Dsk_input_143 : decode b_Dsk_input 143 = .ok (.lreturn, 1) := by decide +kernel
abbrev b_Dsk_output : ByteArray := prog_1_method_11_code
def y_Dsk_output : MethodName := ⟨R_Dsk, "output", "(III)J"⟩
theorem d_Dsk_output_0 : decode b_Dsk_output 0 = .ok (.aload_n 0, 1) := by decide +kernel
theorem d_Dsk_output_1 : decode b_Dsk_output 1 = .ok (.iload_n 1, 1) := by decide +kernel
theorem d_Dsk_output_2 : decode b_Dsk_output 2 = .ok (.invokevirtual 136, 3) := by decide +kernel
theorem d_Dsk_output_5 : decode b_Dsk_output 5 = .ok (.ifCond .eq 20, 3) := by decide +kernel
theorem d_Dsk_output_8 : decode b_Dsk_output 8 = .ok (.iload_n 2, 1) := by decide +kernel
theorem d_Dsk_output_9 : decode b_Dsk_output 9 = .ok (.ifCond .lt 16, 3) := by decide +kernel
theorem d_Dsk_output_12 : decode b_Dsk_output 12 = .ok (.iload_n 2, 1) := by decide +kernel
theorem d_Dsk_output_13 : decode b_Dsk_output 13 = .ok (.aload_n 0, 1) := by decide +kernel
theorem d_Dsk_output_14 : decode b_Dsk_output 14 = .ok (.getfield 37, 3) := by decide +kernel
theorem d_Dsk_output_17 : decode b_Dsk_output 17 = .ok (.iload_n 1, 1) := by decide +kernel
theorem d_Dsk_output_18 : decode b_Dsk_output 18 = .ok (.aaload, 1) := by decide +kernel
theorem d_Dsk_output_19 : decode b_Dsk_output 19 = .ok (.getfield 144, 3) := by decide +kernel
theorem d_Dsk_output_22 : decode b_Dsk_output 22 = .ok (.if_icmp .lt 7, 3) := by decide +kernel
theorem d_Dsk_output_25 : decode b_Dsk_output 25 = .ok (.ldc2_w 130, 3) := by decide +kernel
theorem d_Dsk_output_28 : decode b_Dsk_output 28 = .ok (.lreturn, 1) := by decide +kernel
theorem d_Dsk_output_29 : decode b_Dsk_output 29 = .ok (.aload_n 0, 1) := by decide +kernel
theorem d_Dsk_output_30 : decode b_Dsk_output 30 = .ok (.getfield 37, 3) := by decide +kernel
theorem d_Dsk_output_33 : decode b_Dsk_output 33 = .ok (.iload_n 1, 1) := by decide +kernel
theorem d_Dsk_output_34 : decode b_Dsk_output 34 = .ok (.aaload, 1) := by decide +kernel
theorem d_Dsk_output_35 : decode b_Dsk_output 35 = .ok (.astore 4, 2) := by decide +kernel
theorem d_Dsk_output_37 : decode b_Dsk_output 37 = .ok (.iload_n 3, 1) := by decide +kernel
theorem d_Dsk_output_38 : decode b_Dsk_output 38 = .ok (.tableswitch 61 0 2 #[26, 43, 52], 26) := by decide +kernel
theorem d_Dsk_output_64 : decode b_Dsk_output 64 = .ok (.aload_n 0, 1) := by decide +kernel
theorem d_Dsk_output_65 : decode b_Dsk_output 65 = .ok (.getfield 16, 3) := by decide +kernel
theorem d_Dsk_output_68 : decode b_Dsk_output 68 = .ok (.aload 4, 2) := by decide +kernel
theorem d_Dsk_output_70 : decode b_Dsk_output 70 = .ok (.getfield 160, 3) := by decide +kernel
theorem d_Dsk_output_73 : decode b_Dsk_output 73 = .ok (.iload_n 2, 1) := by decide +kernel
theorem d_Dsk_output_74 : decode b_Dsk_output 74 = .ok (.iaload, 1) := by decide +kernel
theorem d_Dsk_output_75 : decode b_Dsk_output 75 = .ok (.bipush 8, 2) := by decide +kernel
theorem d_Dsk_output_77 : decode b_Dsk_output 77 = .ok (.invokevirtual 132, 3) := by decide +kernel
theorem d_Dsk_output_80 : decode b_Dsk_output 80 = .ok (.lreturn, 1) := by decide +kernel
theorem d_Dsk_output_81 : decode b_Dsk_output 81 = .ok (.aload 4, 2) := by decide +kernel
theorem d_Dsk_output_83 : decode b_Dsk_output 83 = .ok (.getfield 163, 3) := by decide +kernel
theorem d_Dsk_output_86 : decode b_Dsk_output 86 = .ok (.iload_n 2, 1) := by decide +kernel
theorem d_Dsk_output_87 : decode b_Dsk_output 87 = .ok (.iaload, 1) := by decide +kernel
theorem d_Dsk_output_88 : decode b_Dsk_output 88 = .ok (.i2l, 1) := by decide +kernel
theorem d_Dsk_output_89 : decode b_Dsk_output 89 = .ok (.lreturn, 1) := by decide +kernel
theorem d_Dsk_output_90 : decode b_Dsk_output 90 = .ok (.aload 4, 2) := by decide +kernel
theorem d_Dsk_output_92 : decode b_Dsk_output 92 = .ok (.getfield 166, 3) := by decide +kernel
theorem d_Dsk_output_95 : decode b_Dsk_output 95 = .ok (.iload_n 2, 1) := by decide +kernel
theorem d_Dsk_output_96 : decode b_Dsk_output 96 = .ok (.iaload, 1) := by decide +kernel
theorem d_Dsk_output_97 : decode b_Dsk_output 97 = .ok (.i2l, 1) := by decide +kernel
theorem d_Dsk_output_98 : decode b_Dsk_output 98 = .ok (.lreturn, 1) := by decide +kernel
theorem d_Dsk_output_99 : decode b_Dsk_output 99 = .ok (.ldc2_w 130, 3) := by decide +kernel
theorem d_Dsk_output_102 : decode b_Dsk_output 102 = .ok (.lreturn, 1) := by decide +kernel
abbrev b_Dsk_name : ByteArray := prog_1_method_12_code
def y_Dsk_name : MethodName := ⟨R_Dsk, "name", "(II)J"⟩
theorem d_Dsk_name_0 : decode b_Dsk_name 0 = .ok (.iload_n 2, 1) := by decide +kernel
theorem d_Dsk_name_1 : decode b_Dsk_name 1 = .ok (.ifCond .lt 8, 3) := by decide +kernel
theorem d_Dsk_name_4 : decode b_Dsk_name 4 = .ok (.iload_n 2, 1) := by decide +kernel
theorem d_Dsk_name_5 : decode b_Dsk_name 5 = .ok (.iconst 3, 1) := by decide +kernel
theorem d_Dsk_name_6 : decode b_Dsk_name 6 = .ok (.if_icmp .le 5, 3) := by decide +kernel
theorem d_Dsk_name_9 : decode b_Dsk_name 9 = .ok (.lconst 0, 1) := by decide +kernel
theorem d_Dsk_name_10 : decode b_Dsk_name 10 = .ok (.lreturn, 1) := by decide +kernel
theorem d_Dsk_name_11 : decode b_Dsk_name 11 = .ok (.aload_n 0, 1) := by decide +kernel
theorem d_Dsk_name_12 : decode b_Dsk_name 12 = .ok (.iload_n 1, 1) := by decide +kernel
theorem d_Dsk_name_13 : decode b_Dsk_name 13 = .ok (.invokevirtual 136, 3) := by decide +kernel
theorem d_Dsk_name_16 : decode b_Dsk_name 16 = .ok (.ifCond .eq 20, 3) := by decide +kernel
theorem d_Dsk_name_19 : decode b_Dsk_name 19 = .ok (.aload_n 0, 1) := by decide +kernel
theorem d_Dsk_name_20 : decode b_Dsk_name 20 = .ok (.getfield 52, 3) := by decide +kernel
theorem d_Dsk_name_23 : decode b_Dsk_name 23 = .ok (.iload_n 1, 1) := by decide +kernel
theorem d_Dsk_name_24 : decode b_Dsk_name 24 = .ok (.bipush 32, 2) := by decide +kernel
theorem d_Dsk_name_26 : decode b_Dsk_name 26 = .ok (.imul, 1) := by decide +kernel
theorem d_Dsk_name_27 : decode b_Dsk_name 27 = .ok (.bipush 8, 2) := by decide +kernel
theorem d_Dsk_name_29 : decode b_Dsk_name 29 = .ok (.iload_n 2, 1) := by decide +kernel
theorem d_Dsk_name_30 : decode b_Dsk_name 30 = .ok (.imul, 1) := by decide +kernel
theorem d_Dsk_name_31 : decode b_Dsk_name 31 = .ok (.iadd, 1) := by decide +kernel
theorem d_Dsk_name_32 : decode b_Dsk_name 32 = .ok (.invokestatic 169, 3) := by decide +kernel
theorem d_Dsk_name_35 : decode b_Dsk_name 35 = .ok (.lreturn, 1) := by decide +kernel
theorem d_Dsk_name_36 : decode b_Dsk_name 36 = .ok (.aload_n 0, 1) := by decide +kernel
theorem d_Dsk_name_37 : decode b_Dsk_name 37 = .ok (.getfield 45, 3) := by decide +kernel
theorem d_Dsk_name_40 : decode b_Dsk_name 40 = .ok (.ifCond .ne 5, 3) := by decide +kernel
theorem d_Dsk_name_43 : decode b_Dsk_name 43 = .ok (.lconst 0, 1) := by decide +kernel
theorem d_Dsk_name_44 : decode b_Dsk_name 44 = .ok (.lreturn, 1) := by decide +kernel
theorem d_Dsk_name_45 : decode b_Dsk_name 45 = .ok (.iload_n 1, 1) := by decide +kernel
theorem d_Dsk_name_46 : decode b_Dsk_name 46 = .ok (.tableswitch 71 (-3) (-1) #[56, 38, 26], 26) := by decide +kernel
theorem d_Dsk_name_72 : decode b_Dsk_name 72 = .ok (.aload_n 0, 1) := by decide +kernel
theorem d_Dsk_name_73 : decode b_Dsk_name 73 = .ok (.getfield 56, 3) := by decide +kernel
theorem d_Dsk_name_76 : decode b_Dsk_name 76 = .ok (.bipush 8, 2) := by decide +kernel
theorem d_Dsk_name_78 : decode b_Dsk_name 78 = .ok (.iload_n 2, 1) := by decide +kernel
theorem d_Dsk_name_79 : decode b_Dsk_name 79 = .ok (.imul, 1) := by decide +kernel
theorem d_Dsk_name_80 : decode b_Dsk_name 80 = .ok (.invokestatic 169, 3) := by decide +kernel
theorem d_Dsk_name_83 : decode b_Dsk_name 83 = .ok (.lreturn, 1) := by decide +kernel
theorem d_Dsk_name_84 : decode b_Dsk_name 84 = .ok (.aload_n 0, 1) := by decide +kernel
theorem d_Dsk_name_85 : decode b_Dsk_name 85 = .ok (.getfield 16, 3) := by decide +kernel
theorem d_Dsk_name_88 : decode b_Dsk_name 88 = .ok (.getfield 116, 3) := by decide +kernel
theorem d_Dsk_name_91 : decode b_Dsk_name 91 = .ok (.bipush 36, 2) := by decide +kernel
theorem d_Dsk_name_93 : decode b_Dsk_name 93 = .ok (.bipush 8, 2) := by decide +kernel
theorem d_Dsk_name_95 : decode b_Dsk_name 95 = .ok (.iload_n 2, 1) := by decide +kernel
theorem d_Dsk_name_96 : decode b_Dsk_name 96 = .ok (.imul, 1) := by decide +kernel
theorem d_Dsk_name_97 : decode b_Dsk_name 97 = .ok (.iadd, 1) := by decide +kernel
theorem d_Dsk_name_98 : decode b_Dsk_name 98 = .ok (.invokestatic 169, 3) := by decide +kernel
theorem d_Dsk_name_101 : decode b_Dsk_name 101 = .ok (.lreturn, 1) := by decide +kernel
theorem d_Dsk_name_102 : decode b_Dsk_name 102 = .ok (.aload_n 0, 1) := by decide +kernel
theorem d_Dsk_name_103 : decode b_Dsk_name 103 = .ok (.getfield 62, 3) := by decide +kernel
theorem d_Dsk_name_106 : decode b_Dsk_name 106 = .ok (.getfield 173, 3) := by decide +kernel
theorem d_Dsk_name_109 : decode b_Dsk_name 109 = .ok (.bipush 8, 2) := by decide +kernel
theorem d_Dsk_name_111 : decode b_Dsk_name 111 = .ok (.iload_n 2, 1) := by decide +kernel
theorem d_Dsk_name_112 : decode b_Dsk_name 112 = .ok (.imul, 1) := by decide +kernel
theorem d_Dsk_name_113 : decode b_Dsk_name 113 = .ok (.invokestatic 169, 3) := by decide +kernel
theorem d_Dsk_name_116 : decode b_Dsk_name 116 = .ok (.lreturn, 1) := by decide +kernel
theorem d_Dsk_name_117 : decode b_Dsk_name 117 = .ok (.lconst 0, 1) := by decide +kernel
theorem d_Dsk_name_118 : decode b_Dsk_name 118 = .ok (.lreturn, 1) := by decide +kernel
abbrev b_Dsk_isDoubtful : ByteArray := prog_1_method_13_code
def y_Dsk_isDoubtful : MethodName := ⟨R_Dsk, "isDoubtful", "()Z"⟩
theorem d_Dsk_isDoubtful_0 : decode b_Dsk_isDoubtful 0 = .ok (.aload_n 0, 1) := by decide +kernel
theorem d_Dsk_isDoubtful_1 : decode b_Dsk_isDoubtful 1 = .ok (.getfield 45, 3) := by decide +kernel
theorem d_Dsk_isDoubtful_4 : decode b_Dsk_isDoubtful 4 = .ok (.ifCond .eq 17, 3) := by decide +kernel
theorem d_Dsk_isDoubtful_7 : decode b_Dsk_isDoubtful 7 = .ok (.aload_n 0, 1) := by decide +kernel
theorem d_Dsk_isDoubtful_8 : decode b_Dsk_isDoubtful 8 = .ok (.getfield 62, 3) := by decide +kernel
theorem d_Dsk_isDoubtful_11 : decode b_Dsk_isDoubtful 11 = .ok (.getfield 176, 3) := by decide +kernel
theorem d_Dsk_isDoubtful_14 : decode b_Dsk_isDoubtful 14 = .ok (.ifCond .eq 7, 3) := by decide +kernel
theorem d_Dsk_isDoubtful_17 : decode b_Dsk_isDoubtful 17 = .ok (.iconst 1, 1) := by decide +kernel
theorem d_Dsk_isDoubtful_18 : decode b_Dsk_isDoubtful 18 = .ok (.goto 4, 3) := by decide +kernel
theorem d_Dsk_isDoubtful_21 : decode b_Dsk_isDoubtful 21 = .ok (.iconst 0, 1) := by decide +kernel
theorem d_Dsk_isDoubtful_22 : decode b_Dsk_isDoubtful 22 = .ok (.ireturn, 1) := by decide +kernel
abbrev b_Dsk_forget : ByteArray := prog_1_method_14_code
def y_Dsk_forget : MethodName := ⟨R_Dsk, "forget", "()V"⟩
theorem d_Dsk_forget_0 : decode b_Dsk_forget 0 = .ok (.aload_n 0, 1) := by decide +kernel
theorem d_Dsk_forget_1 : decode b_Dsk_forget 1 = .ok (.getfield 16, 3) := by decide +kernel
theorem d_Dsk_forget_4 : decode b_Dsk_forget 4 = .ok (.invokevirtual 89, 3) := by decide +kernel
theorem d_Dsk_forget_7 : decode b_Dsk_forget 7 = .ok (.aload_n 0, 1) := by decide +kernel
theorem d_Dsk_forget_8 : decode b_Dsk_forget 8 = .ok (.iconst 0, 1) := by decide +kernel
theorem d_Dsk_forget_9 : decode b_Dsk_forget 9 = .ok (.putfield 41, 3) := by decide +kernel
theorem d_Dsk_forget_12 : decode b_Dsk_forget 12 = .ok (.aload_n 0, 1) := by decide +kernel
theorem d_Dsk_forget_13 : decode b_Dsk_forget 13 = .ok (.iconst 0, 1) := by decide +kernel
theorem d_Dsk_forget_14 : decode b_Dsk_forget 14 = .ok (.putfield 45, 3) := by decide +kernel
theorem d_Dsk_forget_17 : decode b_Dsk_forget 17 = .ok (.return_, 1) := by decide +kernel
abbrev b_Dsk_hasTransaction : ByteArray := prog_1_method_15_code
def y_Dsk_hasTransaction : MethodName := ⟨R_Dsk, "hasTransaction", "(I)Z"⟩
theorem d_Dsk_hasTransaction_0 : decode b_Dsk_hasTransaction 0 = .ok (.iload_n 1, 1) := by decide +kernel
theorem d_Dsk_hasTransaction_1 : decode b_Dsk_hasTransaction 1 = .ok (.ifCond .lt 21, 3) := by decide +kernel
theorem d_Dsk_hasTransaction_4 : decode b_Dsk_hasTransaction 4 = .ok (.iload_n 1, 1) := by decide +kernel
theorem d_Dsk_hasTransaction_5 : decode b_Dsk_hasTransaction 5 = .ok (.aload_n 0, 1) := by decide +kernel
theorem d_Dsk_hasTransaction_6 : decode b_Dsk_hasTransaction 6 = .ok (.getfield 41, 3) := by decide +kernel
theorem d_Dsk_hasTransaction_9 : decode b_Dsk_hasTransaction 9 = .ok (.if_icmp .ge 13, 3) := by decide +kernel
theorem d_Dsk_hasTransaction_12 : decode b_Dsk_hasTransaction 12 = .ok (.iload_n 1, 1) := by decide +kernel
theorem d_Dsk_hasTransaction_13 : decode b_Dsk_hasTransaction 13 = .ok (.bipush 12, 2) := by decide +kernel
theorem d_Dsk_hasTransaction_15 : decode b_Dsk_hasTransaction 15 = .ok (.if_icmp .ge 7, 3) := by decide +kernel
theorem d_Dsk_hasTransaction_18 : decode b_Dsk_hasTransaction 18 = .ok (.iconst 1, 1) := by decide +kernel
theorem d_Dsk_hasTransaction_19 : decode b_Dsk_hasTransaction 19 = .ok (.goto 4, 3) := by decide +kernel
theorem d_Dsk_hasTransaction_22 : decode b_Dsk_hasTransaction 22 = .ok (.iconst 0, 1) := by decide +kernel
theorem d_Dsk_hasTransaction_23 : decode b_Dsk_hasTransaction 23 = .ok (.ireturn, 1) := by decide +kernel
abbrev b_Dsk_nameTransactions : ByteArray := prog_1_method_16_code
def y_Dsk_nameTransactions : MethodName := ⟨R_Dsk, "nameTransactions", "()V"⟩
theorem d_Dsk_nameTransactions_0 : decode b_Dsk_nameTransactions 0 = .ok (.iconst 0, 1) := by decide +kernel
theorem d_Dsk_nameTransactions_1 : decode b_Dsk_nameTransactions 1 = .ok (.istore_n 1, 1) := by decide +kernel
theorem d_Dsk_nameTransactions_2 : decode b_Dsk_nameTransactions 2 = .ok (.iload_n 1, 1) := by decide +kernel
theorem d_Dsk_nameTransactions_3 : decode b_Dsk_nameTransactions 3 = .ok (.aload_n 0, 1) := by decide +kernel
theorem d_Dsk_nameTransactions_4 : decode b_Dsk_nameTransactions 4 = .ok (.getfield 41, 3) := by decide +kernel
theorem d_Dsk_nameTransactions_7 : decode b_Dsk_nameTransactions 7 = .ok (.if_icmp .ge 61, 3) := by decide +kernel
theorem d_Dsk_nameTransactions_10 : decode b_Dsk_nameTransactions 10 = .ok (.iload_n 1, 1) := by decide +kernel
theorem d_Dsk_nameTransactions_11 : decode b_Dsk_nameTransactions 11 = .ok (.bipush 12, 2) := by decide +kernel
theorem d_Dsk_nameTransactions_13 : decode b_Dsk_nameTransactions 13 = .ok (.if_icmp .ge 55, 3) := by decide +kernel
theorem d_Dsk_nameTransactions_16 : decode b_Dsk_nameTransactions 16 = .ok (.aload_n 0, 1) := by decide +kernel
theorem d_Dsk_nameTransactions_17 : decode b_Dsk_nameTransactions 17 = .ok (.getfield 37, 3) := by decide +kernel
theorem d_Dsk_nameTransactions_20 : decode b_Dsk_nameTransactions 20 = .ok (.iload_n 1, 1) := by decide +kernel
theorem d_Dsk_nameTransactions_21 : decode b_Dsk_nameTransactions 21 = .ok (.aaload, 1) := by decide +kernel
theorem d_Dsk_nameTransactions_22 : decode b_Dsk_nameTransactions 22 = .ok (.getfield 139, 3) := by decide +kernel
theorem d_Dsk_nameTransactions_25 : decode b_Dsk_nameTransactions 25 = .ok (.istore_n 2, 1) := by decide +kernel
theorem d_Dsk_nameTransactions_26 : decode b_Dsk_nameTransactions 26 = .ok (.aload_n 0, 1) := by decide +kernel
theorem d_Dsk_nameTransactions_27 : decode b_Dsk_nameTransactions 27 = .ok (.getfield 37, 3) := by decide +kernel
theorem d_Dsk_nameTransactions_30 : decode b_Dsk_nameTransactions 30 = .ok (.iload_n 1, 1) := by decide +kernel
theorem d_Dsk_nameTransactions_31 : decode b_Dsk_nameTransactions 31 = .ok (.aaload, 1) := by decide +kernel
theorem d_Dsk_nameTransactions_32 : decode b_Dsk_nameTransactions 32 = .ok (.getfield 147, 3) := by decide +kernel
theorem d_Dsk_nameTransactions_35 : decode b_Dsk_nameTransactions 35 = .ok (.iload_n 2, 1) := by decide +kernel
theorem d_Dsk_nameTransactions_36 : decode b_Dsk_nameTransactions 36 = .ok (.isub, 1) := by decide +kernel
theorem d_Dsk_nameTransactions_37 : decode b_Dsk_nameTransactions 37 = .ok (.istore_n 3, 1) := by decide +kernel
theorem d_Dsk_nameTransactions_38 : decode b_Dsk_nameTransactions 38 = .ok (.aload_n 0, 1) := by decide +kernel
theorem d_Dsk_nameTransactions_39 : decode b_Dsk_nameTransactions 39 = .ok (.getfield 31, 3) := by decide +kernel
theorem d_Dsk_nameTransactions_42 : decode b_Dsk_nameTransactions 42 = .ok (.aload_n 0, 1) := by decide +kernel
theorem d_Dsk_nameTransactions_43 : decode b_Dsk_nameTransactions 43 = .ok (.getfield 16, 3) := by decide +kernel
theorem d_Dsk_nameTransactions_46 : decode b_Dsk_nameTransactions 46 = .ok (.getfield 116, 3) := by decide +kernel
theorem d_Dsk_nameTransactions_49 : decode b_Dsk_nameTransactions 49 = .ok (.iload_n 2, 1) := by decide +kernel
theorem d_Dsk_nameTransactions_50 : decode b_Dsk_nameTransactions 50 = .ok (.iload_n 3, 1) := by decide +kernel
theorem d_Dsk_nameTransactions_51 : decode b_Dsk_nameTransactions 51 = .ok (.aload_n 0, 1) := by decide +kernel
theorem d_Dsk_nameTransactions_52 : decode b_Dsk_nameTransactions 52 = .ok (.getfield 52, 3) := by decide +kernel
theorem d_Dsk_nameTransactions_55 : decode b_Dsk_nameTransactions 55 = .ok (.iload_n 1, 1) := by decide +kernel
theorem d_Dsk_nameTransactions_56 : decode b_Dsk_nameTransactions 56 = .ok (.bipush 32, 2) := by decide +kernel
theorem d_Dsk_nameTransactions_58 : decode b_Dsk_nameTransactions 58 = .ok (.imul, 1) := by decide +kernel
theorem d_Dsk_nameTransactions_59 : decode b_Dsk_nameTransactions 59 = .ok (.invokevirtual 119, 3) := by decide +kernel
theorem d_Dsk_nameTransactions_62 : decode b_Dsk_nameTransactions 62 = .ok (.iinc 1 1, 3) := by decide +kernel
theorem d_Dsk_nameTransactions_65 : decode b_Dsk_nameTransactions 65 = .ok (.goto (-63), 3) := by decide +kernel
theorem d_Dsk_nameTransactions_68 : decode b_Dsk_nameTransactions 68 = .ok (.return_, 1) := by decide +kernel
abbrev b_Dsk_eightBytes : ByteArray := prog_1_method_17_code
def y_Dsk_eightBytes : MethodName := ⟨R_Dsk, "eightBytes", "([BI)J"⟩
theorem d_Dsk_eightBytes_0 : decode b_Dsk_eightBytes 0 = .ok (.iload_n 1, 1) := by decide +kernel
theorem d_Dsk_eightBytes_1 : decode b_Dsk_eightBytes 1 = .ok (.ifCond .lt 12, 3) := by decide +kernel
theorem d_Dsk_eightBytes_4 : decode b_Dsk_eightBytes 4 = .ok (.iload_n 1, 1) := by decide +kernel
theorem d_Dsk_eightBytes_5 : decode b_Dsk_eightBytes 5 = .ok (.aload_n 0, 1) := by decide +kernel
theorem d_Dsk_eightBytes_6 : decode b_Dsk_eightBytes 6 = .ok (.arraylength, 1) := by decide +kernel
theorem d_Dsk_eightBytes_7 : decode b_Dsk_eightBytes 7 = .ok (.bipush 8, 2) := by decide +kernel
theorem d_Dsk_eightBytes_9 : decode b_Dsk_eightBytes 9 = .ok (.isub, 1) := by decide +kernel
theorem d_Dsk_eightBytes_10 : decode b_Dsk_eightBytes 10 = .ok (.if_icmp .le 5, 3) := by decide +kernel
theorem d_Dsk_eightBytes_13 : decode b_Dsk_eightBytes 13 = .ok (.lconst 0, 1) := by decide +kernel
theorem d_Dsk_eightBytes_14 : decode b_Dsk_eightBytes 14 = .ok (.lreturn, 1) := by decide +kernel
theorem d_Dsk_eightBytes_15 : decode b_Dsk_eightBytes 15 = .ok (.lconst 0, 1) := by decide +kernel
theorem d_Dsk_eightBytes_16 : decode b_Dsk_eightBytes 16 = .ok (.lstore_n 2, 1) := by decide +kernel
theorem d_Dsk_eightBytes_17 : decode b_Dsk_eightBytes 17 = .ok (.iconst 0, 1) := by decide +kernel
theorem d_Dsk_eightBytes_18 : decode b_Dsk_eightBytes 18 = .ok (.istore 4, 2) := by decide +kernel
theorem d_Dsk_eightBytes_20 : decode b_Dsk_eightBytes 20 = .ok (.iload 4, 2) := by decide +kernel
theorem d_Dsk_eightBytes_22 : decode b_Dsk_eightBytes 22 = .ok (.bipush 8, 2) := by decide +kernel
theorem d_Dsk_eightBytes_24 : decode b_Dsk_eightBytes 24 = .ok (.if_icmp .ge 26, 3) := by decide +kernel
theorem d_Dsk_eightBytes_27 : decode b_Dsk_eightBytes 27 = .ok (.lload_n 2, 1) := by decide +kernel
theorem d_Dsk_eightBytes_28 : decode b_Dsk_eightBytes 28 = .ok (.bipush 8, 2) := by decide +kernel
theorem d_Dsk_eightBytes_30 : decode b_Dsk_eightBytes 30 = .ok (.lshl, 1) := by decide +kernel
theorem d_Dsk_eightBytes_31 : decode b_Dsk_eightBytes 31 = .ok (.aload_n 0, 1) := by decide +kernel
theorem d_Dsk_eightBytes_32 : decode b_Dsk_eightBytes 32 = .ok (.iload_n 1, 1) := by decide +kernel
theorem d_Dsk_eightBytes_33 : decode b_Dsk_eightBytes 33 = .ok (.iload 4, 2) := by decide +kernel
theorem d_Dsk_eightBytes_35 : decode b_Dsk_eightBytes 35 = .ok (.iadd, 1) := by decide +kernel
theorem d_Dsk_eightBytes_36 : decode b_Dsk_eightBytes 36 = .ok (.baload, 1) := by decide +kernel
theorem d_Dsk_eightBytes_37 : decode b_Dsk_eightBytes 37 = .ok (.sipush 255, 3) := by decide +kernel
theorem d_Dsk_eightBytes_40 : decode b_Dsk_eightBytes 40 = .ok (.iand, 1) := by decide +kernel
theorem d_Dsk_eightBytes_41 : decode b_Dsk_eightBytes 41 = .ok (.i2l, 1) := by decide +kernel
theorem d_Dsk_eightBytes_42 : decode b_Dsk_eightBytes 42 = .ok (.lor, 1) := by decide +kernel
theorem d_Dsk_eightBytes_43 : decode b_Dsk_eightBytes 43 = .ok (.lstore_n 2, 1) := by decide +kernel
theorem d_Dsk_eightBytes_44 : decode b_Dsk_eightBytes 44 = .ok (.iinc 4 1, 3) := by decide +kernel
theorem d_Dsk_eightBytes_47 : decode b_Dsk_eightBytes 47 = .ok (.goto (-27), 3) := by decide +kernel
theorem d_Dsk_eightBytes_50 : decode b_Dsk_eightBytes 50 = .ok (.lload_n 2, 1) := by decide +kernel
theorem d_Dsk_eightBytes_51 : decode b_Dsk_eightBytes 51 = .ok (.lreturn, 1) := by decide +kernel
abbrev b_Dsk_widthOfSize : ByteArray := prog_1_method_18_code
def y_Dsk_widthOfSize : MethodName := ⟨R_Dsk, "widthOfSize", "(J)I"⟩
theorem d_Dsk_widthOfSize_0 : decode b_Dsk_widthOfSize 0 = .ok (.lload_n 0, 1) := by decide +kernel
theorem d_Dsk_widthOfSize_1 : decode b_Dsk_widthOfSize 1 = .ok (.bipush 32, 2) := by decide +kernel
theorem d_Dsk_widthOfSize_3 : decode b_Dsk_widthOfSize 3 = .ok (.lushr, 1) := by decide +kernel
theorem d_Dsk_widthOfSize_4 : decode b_Dsk_widthOfSize 4 = .ok (.lconst 0, 1) := by decide +kernel
theorem d_Dsk_widthOfSize_5 : decode b_Dsk_widthOfSize 5 = .ok (.lcmp, 1) := by decide +kernel
theorem d_Dsk_widthOfSize_6 : decode b_Dsk_widthOfSize 6 = .ok (.ifCond .eq 6, 3) := by decide +kernel
theorem d_Dsk_widthOfSize_9 : decode b_Dsk_widthOfSize 9 = .ok (.bipush 8, 2) := by decide +kernel
theorem d_Dsk_widthOfSize_11 : decode b_Dsk_widthOfSize 11 = .ok (.ireturn, 1) := by decide +kernel
theorem d_Dsk_widthOfSize_12 : decode b_Dsk_widthOfSize 12 = .ok (.lload_n 0, 1) := by decide +kernel
theorem d_Dsk_widthOfSize_13 : decode b_Dsk_widthOfSize 13 = .ok (.bipush 16, 2) := by decide +kernel
theorem d_Dsk_widthOfSize_15 : decode b_Dsk_widthOfSize 15 = .ok (.lushr, 1) := by decide +kernel
theorem d_Dsk_widthOfSize_16 : decode b_Dsk_widthOfSize 16 = .ok (.lconst 0, 1) := by decide +kernel
theorem d_Dsk_widthOfSize_17 : decode b_Dsk_widthOfSize 17 = .ok (.lcmp, 1) := by decide +kernel
theorem d_Dsk_widthOfSize_18 : decode b_Dsk_widthOfSize 18 = .ok (.ifCond .eq 5, 3) := by decide +kernel
theorem d_Dsk_widthOfSize_21 : decode b_Dsk_widthOfSize 21 = .ok (.iconst 4, 1) := by decide +kernel
theorem d_Dsk_widthOfSize_22 : decode b_Dsk_widthOfSize 22 = .ok (.ireturn, 1) := by decide +kernel
theorem d_Dsk_widthOfSize_23 : decode b_Dsk_widthOfSize 23 = .ok (.lload_n 0, 1) := by decide +kernel
theorem d_Dsk_widthOfSize_24 : decode b_Dsk_widthOfSize 24 = .ok (.ldc2_w 179, 3) := by decide +kernel
theorem d_Dsk_widthOfSize_27 : decode b_Dsk_widthOfSize 27 = .ok (.lcmp, 1) := by decide +kernel
theorem d_Dsk_widthOfSize_28 : decode b_Dsk_widthOfSize 28 = .ok (.ifCond .ge 7, 3) := by decide +kernel
theorem d_Dsk_widthOfSize_31 : decode b_Dsk_widthOfSize 31 = .ok (.iconst 0, 1) := by decide +kernel
theorem d_Dsk_widthOfSize_32 : decode b_Dsk_widthOfSize 32 = .ok (.goto 4, 3) := by decide +kernel
theorem d_Dsk_widthOfSize_35 : decode b_Dsk_widthOfSize 35 = .ok (.iconst 2, 1) := by decide +kernel
theorem d_Dsk_widthOfSize_36 : decode b_Dsk_widthOfSize 36 = .ok (.ireturn, 1) := by decide +kernel
abbrev b_Dsk_markOfWidth : ByteArray := prog_1_method_19_code
def y_Dsk_markOfWidth : MethodName := ⟨R_Dsk, "markOfWidth", "(I)I"⟩
theorem d_Dsk_markOfWidth_0 : decode b_Dsk_markOfWidth 0 = .ok (.iload_n 0, 1) := by decide +kernel
theorem d_Dsk_markOfWidth_1 : decode b_Dsk_markOfWidth 1 = .ok (.bipush 8, 2) := by decide +kernel
theorem d_Dsk_markOfWidth_3 : decode b_Dsk_markOfWidth 3 = .ok (.if_icmp .ne 7, 3) := by decide +kernel
theorem d_Dsk_markOfWidth_6 : decode b_Dsk_markOfWidth 6 = .ok (.sipush 255, 3) := by decide +kernel
theorem d_Dsk_markOfWidth_9 : decode b_Dsk_markOfWidth 9 = .ok (.ireturn, 1) := by decide +kernel
theorem d_Dsk_markOfWidth_10 : decode b_Dsk_markOfWidth 10 = .ok (.iload_n 0, 1) := by decide +kernel
theorem d_Dsk_markOfWidth_11 : decode b_Dsk_markOfWidth 11 = .ok (.iconst 4, 1) := by decide +kernel
theorem d_Dsk_markOfWidth_12 : decode b_Dsk_markOfWidth 12 = .ok (.if_icmp .ne 9, 3) := by decide +kernel
theorem d_Dsk_markOfWidth_15 : decode b_Dsk_markOfWidth 15 = .ok (.sipush 254, 3) := by decide +kernel
theorem d_Dsk_markOfWidth_18 : decode b_Dsk_markOfWidth 18 = .ok (.goto 6, 3) := by decide +kernel
theorem d_Dsk_markOfWidth_21 : decode b_Dsk_markOfWidth 21 = .ok (.sipush 253, 3) := by decide +kernel
theorem d_Dsk_markOfWidth_24 : decode b_Dsk_markOfWidth 24 = .ok (.ireturn, 1) := by decide +kernel
abbrev b_Dsk_widthOfMark : ByteArray := prog_1_method_20_code
def y_Dsk_widthOfMark : MethodName := ⟨R_Dsk, "widthOfMark", "(I)I"⟩
theorem d_Dsk_widthOfMark_0 : decode b_Dsk_widthOfMark 0 = .ok (.iload_n 0, 1) := by decide +kernel
theorem d_Dsk_widthOfMark_1 : decode b_Dsk_widthOfMark 1 = .ok (.tableswitch 34 253 255 #[27, 29, 31], 27) := by decide +kernel
theorem d_Dsk_widthOfMark_28 : decode b_Dsk_widthOfMark 28 = .ok (.iconst 2, 1) := by decide +kernel
theorem d_Dsk_widthOfMark_29 : decode b_Dsk_widthOfMark 29 = .ok (.ireturn, 1) := by decide +kernel
theorem d_Dsk_widthOfMark_30 : decode b_Dsk_widthOfMark 30 = .ok (.iconst 4, 1) := by decide +kernel
theorem d_Dsk_widthOfMark_31 : decode b_Dsk_widthOfMark 31 = .ok (.ireturn, 1) := by decide +kernel
theorem d_Dsk_widthOfMark_32 : decode b_Dsk_widthOfMark 32 = .ok (.bipush 8, 2) := by decide +kernel
theorem d_Dsk_widthOfMark_34 : decode b_Dsk_widthOfMark 34 = .ok (.ireturn, 1) := by decide +kernel
theorem d_Dsk_widthOfMark_35 : decode b_Dsk_widthOfMark 35 = .ok (.iconst 0, 1) := by decide +kernel
theorem d_Dsk_widthOfMark_36 : decode b_Dsk_widthOfMark 36 = .ok (.ireturn, 1) := by decide +kernel
end
section
abbrev b_Mod_init : ByteArray := prog_8_method_1_code
def y_Mod_init : MethodName := ⟨R_Mod, "<init>", "()V"⟩
theorem d_Mod_init_0 : decode b_Mod_init 0 = .ok (.aload_n 0, 1) := by decide +kernel
theorem d_Mod_init_1 : decode b_Mod_init 1 = .ok (.invokespecial 1, 3) := by decide +kernel
theorem d_Mod_init_4 : decode b_Mod_init 4 = .ok (.aload_n 0, 1) := by decide +kernel
theorem d_Mod_init_5 : decode b_Mod_init 5 = .ok (.sipush 2000, 3) := by decide +kernel
theorem d_Mod_init_8 : decode b_Mod_init 8 = .ok (.newarray .int, 2) := by decide +kernel
theorem d_Mod_init_10 : decode b_Mod_init 10 = .ok (.putfield 7, 3) := by decide +kernel
theorem d_Mod_init_13 : decode b_Mod_init 13 = .ok (.aload_n 0, 1) := by decide +kernel
theorem d_Mod_init_14 : decode b_Mod_init 14 = .ok (.sipush 2000, 3) := by decide +kernel
theorem d_Mod_init_17 : decode b_Mod_init 17 = .ok (.newarray .int, 2) := by decide +kernel
theorem d_Mod_init_19 : decode b_Mod_init 19 = .ok (.putfield 13, 3) := by decide +kernel
theorem d_Mod_init_22 : decode b_Mod_init 22 = .ok (.aload_n 0, 1) := by decide +kernel
theorem d_Mod_init_23 : decode b_Mod_init 23 = .ok (.iconst (-1), 1) := by decide +kernel
theorem d_Mod_init_24 : decode b_Mod_init 24 = .ok (.putfield 16, 3) := by decide +kernel
theorem d_Mod_init_27 : decode b_Mod_init 27 = .ok (.aload_n 0, 1) := by decide +kernel
theorem d_Mod_init_28 : decode b_Mod_init 28 = .ok (.bipush 12, 2) := by decide +kernel
theorem d_Mod_init_30 : decode b_Mod_init 30 = .ok (.newarray .int, 2) := by decide +kernel
theorem d_Mod_init_32 : decode b_Mod_init 32 = .ok (.putfield 20, 3) := by decide +kernel
theorem d_Mod_init_35 : decode b_Mod_init 35 = .ok (.aload_n 0, 1) := by decide +kernel
theorem d_Mod_init_36 : decode b_Mod_init 36 = .ok (.bipush 12, 2) := by decide +kernel
theorem d_Mod_init_38 : decode b_Mod_init 38 = .ok (.newarray .int, 2) := by decide +kernel
theorem d_Mod_init_40 : decode b_Mod_init 40 = .ok (.putfield 23, 3) := by decide +kernel
theorem d_Mod_init_43 : decode b_Mod_init 43 = .ok (.aload_n 0, 1) := by decide +kernel
theorem d_Mod_init_44 : decode b_Mod_init 44 = .ok (.bipush 12, 2) := by decide +kernel
theorem d_Mod_init_46 : decode b_Mod_init 46 = .ok (.newarray .int, 2) := by decide +kernel
theorem d_Mod_init_48 : decode b_Mod_init 48 = .ok (.putfield 26, 3) := by decide +kernel
theorem d_Mod_init_51 : decode b_Mod_init 51 = .ok (.aload_n 0, 1) := by decide +kernel
theorem d_Mod_init_52 : decode b_Mod_init 52 = .ok (.bipush 12, 2) := by decide +kernel
theorem d_Mod_init_54 : decode b_Mod_init 54 = .ok (.newarray .int, 2) := by decide +kernel
theorem d_Mod_init_56 : decode b_Mod_init 56 = .ok (.putfield 29, 3) := by decide +kernel
theorem d_Mod_init_59 : decode b_Mod_init 59 = .ok (.aload_n 0, 1) := by decide +kernel
theorem d_Mod_init_60 : decode b_Mod_init 60 = .ok (.bipush 96, 2) := by decide +kernel
theorem d_Mod_init_62 : decode b_Mod_init 62 = .ok (.newarray .int, 2) := by decide +kernel
theorem d_Mod_init_64 : decode b_Mod_init 64 = .ok (.putfield 32, 3) := by decide +kernel
theorem d_Mod_init_67 : decode b_Mod_init 67 = .ok (.aload_n 0, 1) := by decide +kernel
theorem d_Mod_init_68 : decode b_Mod_init 68 = .ok (.bipush 96, 2) := by decide +kernel
theorem d_Mod_init_70 : decode b_Mod_init 70 = .ok (.newarray .int, 2) := by decide +kernel
theorem d_Mod_init_72 : decode b_Mod_init 72 = .ok (.putfield 35, 3) := by decide +kernel
theorem d_Mod_init_75 : decode b_Mod_init 75 = .ok (.aload_n 0, 1) := by decide +kernel
theorem d_Mod_init_76 : decode b_Mod_init 76 = .ok (.bipush 96, 2) := by decide +kernel
theorem d_Mod_init_78 : decode b_Mod_init 78 = .ok (.newarray .int, 2) := by decide +kernel
theorem d_Mod_init_80 : decode b_Mod_init 80 = .ok (.putfield 38, 3) := by decide +kernel
theorem d_Mod_init_83 : decode b_Mod_init 83 = .ok (.aload_n 0, 1) := by decide +kernel
theorem d_Mod_init_84 : decode b_Mod_init 84 = .ok (.bipush 96, 2) := by decide +kernel
theorem d_Mod_init_86 : decode b_Mod_init 86 = .ok (.newarray .int, 2) := by decide +kernel
theorem d_Mod_init_88 : decode b_Mod_init 88 = .ok (.putfield 41, 3) := by decide +kernel
theorem d_Mod_init_91 : decode b_Mod_init 91 = .ok (.aload_n 0, 1) := by decide +kernel
theorem d_Mod_init_92 : decode b_Mod_init 92 = .ok (.bipush 96, 2) := by decide +kernel
theorem d_Mod_init_94 : decode b_Mod_init 94 = .ok (.newarray .int, 2) := by decide +kernel
theorem d_Mod_init_96 : decode b_Mod_init 96 = .ok (.putfield 44, 3) := by decide +kernel
theorem d_Mod_init_99 : decode b_Mod_init 99 = .ok (.aload_n 0, 1) := by decide +kernel
theorem d_Mod_init_100 : decode b_Mod_init 100 = .ok (.bipush 96, 2) := by decide +kernel
theorem d_Mod_init_102 : decode b_Mod_init 102 = .ok (.newarray .int, 2) := by decide +kernel
theorem d_Mod_init_104 : decode b_Mod_init 104 = .ok (.putfield 47, 3) := by decide +kernel
theorem d_Mod_init_107 : decode b_Mod_init 107 = .ok (.aload_n 0, 1) := by decide +kernel
theorem d_Mod_init_108 : decode b_Mod_init 108 = .ok (.sipush 416, 3) := by decide +kernel
theorem d_Mod_init_111 : decode b_Mod_init 111 = .ok (.newarray .int, 2) := by decide +kernel
theorem d_Mod_init_113 : decode b_Mod_init 113 = .ok (.putfield 50, 3) := by decide +kernel
theorem d_Mod_init_116 : decode b_Mod_init 116 = .ok (.aload_n 0, 1) := by decide +kernel
theorem d_Mod_init_117 : decode b_Mod_init 117 = .ok (.sipush 384, 3) := by decide +kernel
theorem d_Mod_init_120 : decode b_Mod_init 120 = .ok (.newarray .int, 2) := by decide +kernel
theorem d_Mod_init_122 : decode b_Mod_init 122 = .ok (.putfield 53, 3) := by decide +kernel
theorem d_Mod_init_125 : decode b_Mod_init 125 = .ok (.aload_n 0, 1) := by decide +kernel
theorem d_Mod_init_126 : decode b_Mod_init 126 = .ok (.bipush 32, 2) := by decide +kernel
theorem d_Mod_init_128 : decode b_Mod_init 128 = .ok (.newarray .int, 2) := by decide +kernel
theorem d_Mod_init_130 : decode b_Mod_init 130 = .ok (.putfield 56, 3) := by decide +kernel
theorem d_Mod_init_133 : decode b_Mod_init 133 = .ok (.aload_n 0, 1) := by decide +kernel
theorem d_Mod_init_134 : decode b_Mod_init 134 = .ok (.sipush 2112, 3) := by decide +kernel
theorem d_Mod_init_137 : decode b_Mod_init 137 = .ok (.newarray .int, 2) := by decide +kernel
theorem d_Mod_init_139 : decode b_Mod_init 139 = .ok (.putfield 59, 3) := by decide +kernel
theorem d_Mod_init_142 : decode b_Mod_init 142 = .ok (.aload_n 0, 1) := by decide +kernel
theorem d_Mod_init_143 : decode b_Mod_init 143 = .ok (.bipush 32, 2) := by decide +kernel
theorem d_Mod_init_145 : decode b_Mod_init 145 = .ok (.newarray .int, 2) := by decide +kernel
theorem d_Mod_init_147 : decode b_Mod_init 147 = .ok (.putfield 62, 3) := by decide +kernel
theorem d_Mod_init_150 : decode b_Mod_init 150 = .ok (.aload_n 0, 1) := by decide +kernel
theorem d_Mod_init_151 : decode b_Mod_init 151 = .ok (.bipush 64, 2) := by decide +kernel
theorem d_Mod_init_153 : decode b_Mod_init 153 = .ok (.newarray .long, 2) := by decide +kernel
theorem d_Mod_init_155 : decode b_Mod_init 155 = .ok (.putfield 65, 3) := by decide +kernel
theorem d_Mod_init_158 : decode b_Mod_init 158 = .ok (.aload_n 0, 1) := by decide +kernel
theorem d_Mod_init_159 : decode b_Mod_init 159 = .ok (.bipush 8, 2) := by decide +kernel
theorem d_Mod_init_161 : decode b_Mod_init 161 = .ok (.newarray .long, 2) := by decide +kernel
theorem d_Mod_init_163 : decode b_Mod_init 163 = .ok (.putfield 69, 3) := by decide +kernel
theorem d_Mod_init_166 : decode b_Mod_init 166 = .ok (.aload_n 0, 1) := by decide +kernel
theorem d_Mod_init_167 : decode b_Mod_init 167 = .ok (.bipush 64, 2) := by decide +kernel
theorem d_Mod_init_169 : decode b_Mod_init 169 = .ok (.newarray .long, 2) := by decide +kernel
theorem d_Mod_init_171 : decode b_Mod_init 171 = .ok (.putfield 72, 3) := by decide +kernel
theorem d_Mod_init_174 : decode b_Mod_init 174 = .ok (.aload_n 0, 1) := by decide +kernel
theorem d_Mod_init_175 : decode b_Mod_init 175 = .ok (.bipush 8, 2) := by decide +kernel
theorem d_Mod_init_177 : decode b_Mod_init 177 = .ok (.newarray .long, 2) := by decide +kernel
theorem d_Mod_init_179 : decode b_Mod_init 179 = .ok (.putfield 75, 3) := by decide +kernel
theorem d_Mod_init_182 : decode b_Mod_init 182 = .ok (.aload_n 0, 1) := by decide +kernel
theorem d_Mod_init_183 : decode b_Mod_init 183 = .ok (.bipush 10, 2) := by decide +kernel
theorem d_Mod_init_185 : decode b_Mod_init 185 = .ok (.newarray .long, 2) := by decide +kernel
theorem d_Mod_init_187 : decode b_Mod_init 187 = .ok (.putfield 78, 3) := by decide +kernel
theorem d_Mod_init_190 : decode b_Mod_init 190 = .ok (.aload_n 0, 1) := by decide +kernel
theorem d_Mod_init_191 : decode b_Mod_init 191 = .ok (.bipush 10, 2) := by decide +kernel
theorem d_Mod_init_193 : decode b_Mod_init 193 = .ok (.newarray .long, 2) := by decide +kernel
theorem d_Mod_init_195 : decode b_Mod_init 195 = .ok (.putfield 81, 3) := by decide +kernel
theorem d_Mod_init_198 : decode b_Mod_init 198 = .ok (.iconst 1, 1) := by decide +kernel
theorem d_Mod_init_199 : decode b_Mod_init 199 = .ok (.istore_n 1, 1) := by decide +kernel
theorem d_Mod_init_200 : decode b_Mod_init 200 = .ok (.iconst 0, 1) := by decide +kernel
theorem d_Mod_init_201 : decode b_Mod_init 201 = .ok (.istore_n 2, 1) := by decide +kernel
theorem d_Mod_init_202 : decode b_Mod_init 202 = .ok (.iload_n 2, 1) := by decide +kernel
theorem d_Mod_init_203 : decode b_Mod_init 203 = .ok (.bipush 64, 2) := by decide +kernel
theorem d_Mod_init_205 : decode b_Mod_init 205 = .ok (.if_icmp .ge 65, 3) := by decide +kernel
theorem d_Mod_init_208 : decode b_Mod_init 208 = .ok (.iload_n 1, 1) := by decide +kernel
theorem d_Mod_init_209 : decode b_Mod_init 209 = .ok (.iconst 1, 1) := by decide +kernel
theorem d_Mod_init_210 : decode b_Mod_init 210 = .ok (.iadd, 1) := by decide +kernel
theorem d_Mod_init_211 : decode b_Mod_init 211 = .ok (.istore_n 1, 1) := by decide +kernel
theorem d_Mod_init_212 : decode b_Mod_init 212 = .ok (.iload_n 1, 1) := by decide +kernel
theorem d_Mod_init_213 : decode b_Mod_init 213 = .ok (.invokestatic 84, 3) := by decide +kernel
theorem d_Mod_init_216 : decode b_Mod_init 216 = .ok (.ifCond .ne 10, 3) := by decide +kernel
theorem d_Mod_init_219 : decode b_Mod_init 219 = .ok (.iload_n 1, 1) := by decide +kernel
theorem d_Mod_init_220 : decode b_Mod_init 220 = .ok (.iconst 1, 1) := by decide +kernel
theorem d_Mod_init_221 : decode b_Mod_init 221 = .ok (.iadd, 1) := by decide +kernel
theorem d_Mod_init_222 : decode b_Mod_init 222 = .ok (.istore_n 1, 1) := by decide +kernel
theorem d_Mod_init_223 : decode b_Mod_init 223 = .ok (.goto (-11), 3) := by decide +kernel
theorem d_Mod_init_226 : decode b_Mod_init 226 = .ok (.aload_n 0, 1) := by decide +kernel
theorem d_Mod_init_227 : decode b_Mod_init 227 = .ok (.getfield 65, 3) := by decide +kernel
theorem d_Mod_init_230 : decode b_Mod_init 230 = .ok (.iload_n 2, 1) := by decide +kernel
theorem d_Mod_init_231 : decode b_Mod_init 231 = .ok (.aload_n 0, 1) := by decide +kernel
theorem d_Mod_init_232 : decode b_Mod_init 232 = .ok (.iload_n 1, 1) := by decide +kernel
theorem d_Mod_init_233 : decode b_Mod_init 233 = .ok (.iconst 3, 1) := by decide +kernel
theorem d_Mod_init_234 : decode b_Mod_init 234 = .ok (.invokevirtual 88, 3) := by decide +kernel
theorem d_Mod_init_237 : decode b_Mod_init 237 = .ok (.ldc2_w 92, 3) := by decide +kernel
theorem d_Mod_init_240 : decode b_Mod_init 240 = .ok (.lrem, 1) := by decide +kernel
theorem d_Mod_init_241 : decode b_Mod_init 241 = .ok (.lastore, 1) := by decide +kernel
theorem d_Mod_init_242 : decode b_Mod_init 242 = .ok (.iload_n 2, 1) := by decide +kernel
theorem d_Mod_init_243 : decode b_Mod_init 243 = .ok (.bipush 8, 2) := by decide +kernel
theorem d_Mod_init_245 : decode b_Mod_init 245 = .ok (.if_icmp .ge 19, 3) := by decide +kernel
theorem d_Mod_init_248 : decode b_Mod_init 248 = .ok (.aload_n 0, 1) := by decide +kernel
theorem d_Mod_init_249 : decode b_Mod_init 249 = .ok (.getfield 69, 3) := by decide +kernel
theorem d_Mod_init_252 : decode b_Mod_init 252 = .ok (.iload_n 2, 1) := by decide +kernel
theorem d_Mod_init_253 : decode b_Mod_init 253 = .ok (.aload_n 0, 1) := by decide +kernel
theorem d_Mod_init_254 : decode b_Mod_init 254 = .ok (.iload_n 1, 1) := by decide +kernel
theorem d_Mod_init_255 : decode b_Mod_init 255 = .ok (.iconst 2, 1) := by decide +kernel
theorem d_Mod_init_256 : decode b_Mod_init 256 = .ok (.invokevirtual 88, 3) := by decide +kernel
theorem d_Mod_init_259 : decode b_Mod_init 259 = .ok (.ldc2_w 92, 3) := by decide +kernel
theorem d_Mod_init_262 : decode b_Mod_init 262 = .ok (.lrem, 1) := by decide +kernel
theorem d_Mod_init_263 : decode b_Mod_init 263 = .ok (.lastore, 1) := by decide +kernel
theorem d_Mod_init_264 : decode b_Mod_init 264 = .ok (.iinc 2 1, 3) := by decide +kernel
theorem d_Mod_init_267 : decode b_Mod_init 267 = .ok (.goto (-65), 3) := by decide +kernel
theorem d_Mod_init_270 : decode b_Mod_init 270 = .ok (.return_, 1) := by decide +kernel
abbrev b_Mod_isPrime : ByteArray := prog_8_method_2_code
def y_Mod_isPrime : MethodName := ⟨R_Mod, "isPrime", "(I)Z"⟩
theorem d_Mod_isPrime_0 : decode b_Mod_isPrime 0 = .ok (.iconst 2, 1) := by decide +kernel
theorem d_Mod_isPrime_1 : decode b_Mod_isPrime 1 = .ok (.istore_n 1, 1) := by decide +kernel
theorem d_Mod_isPrime_2 : decode b_Mod_isPrime 2 = .ok (.iload_n 1, 1) := by decide +kernel
theorem d_Mod_isPrime_3 : decode b_Mod_isPrime 3 = .ok (.iload_n 1, 1) := by decide +kernel
theorem d_Mod_isPrime_4 : decode b_Mod_isPrime 4 = .ok (.imul, 1) := by decide +kernel
theorem d_Mod_isPrime_5 : decode b_Mod_isPrime 5 = .ok (.iload_n 0, 1) := by decide +kernel
theorem d_Mod_isPrime_6 : decode b_Mod_isPrime 6 = .ok (.if_icmp .gt 17, 3) := by decide +kernel
theorem d_Mod_isPrime_9 : decode b_Mod_isPrime 9 = .ok (.iload_n 0, 1) := by decide +kernel
theorem d_Mod_isPrime_10 : decode b_Mod_isPrime 10 = .ok (.iload_n 1, 1) := by decide +kernel
theorem d_Mod_isPrime_11 : decode b_Mod_isPrime 11 = .ok (.irem, 1) := by decide +kernel
theorem d_Mod_isPrime_12 : decode b_Mod_isPrime 12 = .ok (.ifCond .ne 5, 3) := by decide +kernel
theorem d_Mod_isPrime_15 : decode b_Mod_isPrime 15 = .ok (.iconst 0, 1) := by decide +kernel
theorem d_Mod_isPrime_16 : decode b_Mod_isPrime 16 = .ok (.ireturn, 1) := by decide +kernel
theorem d_Mod_isPrime_17 : decode b_Mod_isPrime 17 = .ok (.iinc 1 1, 3) := by decide +kernel
theorem d_Mod_isPrime_20 : decode b_Mod_isPrime 20 = .ok (.goto (-18), 3) := by decide +kernel
theorem d_Mod_isPrime_23 : decode b_Mod_isPrime 23 = .ok (.iconst 1, 1) := by decide +kernel
theorem d_Mod_isPrime_24 : decode b_Mod_isPrime 24 = .ok (.ireturn, 1) := by decide +kernel
abbrev b_Mod_rootOf : ByteArray := prog_8_method_3_code
def y_Mod_rootOf : MethodName := ⟨R_Mod, "rootOf", "(II)J"⟩
theorem d_Mod_rootOf_0 : decode b_Mod_rootOf 0 = .ok (.lconst 0, 1) := by decide +kernel
theorem d_Mod_rootOf_1 : decode b_Mod_rootOf 1 = .ok (.lstore_n 3, 1) := by decide +kernel
theorem d_Mod_rootOf_2 : decode b_Mod_rootOf 2 = .ok (.bipush 36, 2) := by decide +kernel
theorem d_Mod_rootOf_4 : decode b_Mod_rootOf 4 = .ok (.istore 5, 2) := by decide +kernel
theorem d_Mod_rootOf_6 : decode b_Mod_rootOf 6 = .ok (.iload 5, 2) := by decide +kernel
theorem d_Mod_rootOf_8 : decode b_Mod_rootOf 8 = .ok (.ifCond .lt 31, 3) := by decide +kernel
theorem d_Mod_rootOf_11 : decode b_Mod_rootOf 11 = .ok (.aload_n 0, 1) := by decide +kernel
theorem d_Mod_rootOf_12 : decode b_Mod_rootOf 12 = .ok (.lload_n 3, 1) := by decide +kernel
theorem d_Mod_rootOf_13 : decode b_Mod_rootOf 13 = .ok (.lconst 1, 1) := by decide +kernel
theorem d_Mod_rootOf_14 : decode b_Mod_rootOf 14 = .ok (.iload 5, 2) := by decide +kernel
theorem d_Mod_rootOf_16 : decode b_Mod_rootOf 16 = .ok (.lshl, 1) := by decide +kernel
theorem d_Mod_rootOf_17 : decode b_Mod_rootOf 17 = .ok (.ladd, 1) := by decide +kernel
theorem d_Mod_rootOf_18 : decode b_Mod_rootOf 18 = .ok (.iload_n 1, 1) := by decide +kernel
theorem d_Mod_rootOf_19 : decode b_Mod_rootOf 19 = .ok (.iload_n 2, 1) := by decide +kernel
theorem d_Mod_rootOf_20 : decode b_Mod_rootOf 20 = .ok (.invokevirtual 94, 3) := by decide +kernel
theorem d_Mod_rootOf_23 : decode b_Mod_rootOf 23 = .ok (.ifCond .eq 10, 3) := by decide +kernel
theorem d_Mod_rootOf_26 : decode b_Mod_rootOf 26 = .ok (.lload_n 3, 1) := by decide +kernel
theorem d_Mod_rootOf_27 : decode b_Mod_rootOf 27 = .ok (.lconst 1, 1) := by decide +kernel
theorem d_Mod_rootOf_28 : decode b_Mod_rootOf 28 = .ok (.iload 5, 2) := by decide +kernel
theorem d_Mod_rootOf_30 : decode b_Mod_rootOf 30 = .ok (.lshl, 1) := by decide +kernel
theorem d_Mod_rootOf_31 : decode b_Mod_rootOf 31 = .ok (.ladd, 1) := by decide +kernel
theorem d_Mod_rootOf_32 : decode b_Mod_rootOf 32 = .ok (.lstore_n 3, 1) := by decide +kernel
theorem d_Mod_rootOf_33 : decode b_Mod_rootOf 33 = .ok (.iinc 5 (-1), 3) := by decide +kernel
theorem d_Mod_rootOf_36 : decode b_Mod_rootOf 36 = .ok (.goto (-30), 3) := by decide +kernel
theorem d_Mod_rootOf_39 : decode b_Mod_rootOf 39 = .ok (.lload_n 3, 1) := by decide +kernel
theorem d_Mod_rootOf_40 : decode b_Mod_rootOf 40 = .ok (.lreturn, 1) := by decide +kernel
abbrev b_Mod_fits : ByteArray := prog_8_method_4_code
def y_Mod_fits : MethodName := ⟨R_Mod, "fits", "(JII)Z"⟩
theorem d_Mod_fits_0 : decode b_Mod_fits 0 = .ok (.iconst 0, 1) := by decide +kernel
theorem d_Mod_fits_1 : decode b_Mod_fits 1 = .ok (.istore 5, 2) := by decide +kernel
theorem d_Mod_fits_3 : decode b_Mod_fits 3 = .ok (.iload 5, 2) := by decide +kernel
theorem d_Mod_fits_5 : decode b_Mod_fits 5 = .ok (.bipush 10, 2) := by decide +kernel
theorem d_Mod_fits_7 : decode b_Mod_fits 7 = .ok (.if_icmp .ge 17, 3) := by decide +kernel
theorem d_Mod_fits_10 : decode b_Mod_fits 10 = .ok (.aload_n 0, 1) := by decide +kernel
theorem d_Mod_fits_11 : decode b_Mod_fits 11 = .ok (.getfield 78, 3) := by decide +kernel
theorem d_Mod_fits_14 : decode b_Mod_fits 14 = .ok (.iload 5, 2) := by decide +kernel
theorem d_Mod_fits_16 : decode b_Mod_fits 16 = .ok (.lconst 0, 1) := by decide +kernel
theorem d_Mod_fits_17 : decode b_Mod_fits 17 = .ok (.lastore, 1) := by decide +kernel
theorem d_Mod_fits_18 : decode b_Mod_fits 18 = .ok (.iinc 5 1, 3) := by decide +kernel
theorem d_Mod_fits_21 : decode b_Mod_fits 21 = .ok (.goto (-18), 3) := by decide +kernel
theorem d_Mod_fits_24 : decode b_Mod_fits 24 = .ok (.aload_n 0, 1) := by decide +kernel
theorem d_Mod_fits_25 : decode b_Mod_fits 25 = .ok (.getfield 78, 3) := by decide +kernel
theorem d_Mod_fits_28 : decode b_Mod_fits 28 = .ok (.iconst 0, 1) := by decide +kernel
theorem d_Mod_fits_29 : decode b_Mod_fits 29 = .ok (.lconst 1, 1) := by decide +kernel
theorem d_Mod_fits_30 : decode b_Mod_fits 30 = .ok (.lastore, 1) := by decide +kernel
theorem d_Mod_fits_31 : decode b_Mod_fits 31 = .ok (.iconst 0, 1) := by decide +kernel
theorem d_Mod_fits_32 : decode b_Mod_fits 32 = .ok (.istore 5, 2) := by decide +kernel
theorem d_Mod_fits_34 : decode b_Mod_fits 34 = .ok (.iload 5, 2) := by decide +kernel
theorem d_Mod_fits_36 : decode b_Mod_fits 36 = .ok (.iload 4, 2) := by decide +kernel
theorem d_Mod_fits_38 : decode b_Mod_fits 38 = .ok (.if_icmp .ge 166, 3) := by decide +kernel
theorem d_Mod_fits_41 : decode b_Mod_fits 41 = .ok (.iconst 0, 1) := by decide +kernel
theorem d_Mod_fits_42 : decode b_Mod_fits 42 = .ok (.istore 6, 2) := by decide +kernel
theorem d_Mod_fits_44 : decode b_Mod_fits 44 = .ok (.iload 6, 2) := by decide +kernel
theorem d_Mod_fits_46 : decode b_Mod_fits 46 = .ok (.bipush 10, 2) := by decide +kernel
theorem d_Mod_fits_48 : decode b_Mod_fits 48 = .ok (.if_icmp .ge 17, 3) := by decide +kernel
theorem d_Mod_fits_51 : decode b_Mod_fits 51 = .ok (.aload_n 0, 1) := by decide +kernel
theorem d_Mod_fits_52 : decode b_Mod_fits 52 = .ok (.getfield 81, 3) := by decide +kernel
theorem d_Mod_fits_55 : decode b_Mod_fits 55 = .ok (.iload 6, 2) := by decide +kernel
theorem d_Mod_fits_57 : decode b_Mod_fits 57 = .ok (.lconst 0, 1) := by decide +kernel
theorem d_Mod_fits_58 : decode b_Mod_fits 58 = .ok (.lastore, 1) := by decide +kernel
theorem d_Mod_fits_59 : decode b_Mod_fits 59 = .ok (.iinc 6 1, 3) := by decide +kernel
theorem d_Mod_fits_62 : decode b_Mod_fits 62 = .ok (.goto (-18), 3) := by decide +kernel
theorem d_Mod_fits_65 : decode b_Mod_fits 65 = .ok (.iconst 0, 1) := by decide +kernel
theorem d_Mod_fits_66 : decode b_Mod_fits 66 = .ok (.istore 6, 2) := by decide +kernel
theorem d_Mod_fits_68 : decode b_Mod_fits 68 = .ok (.iload 6, 2) := by decide +kernel
theorem d_Mod_fits_70 : decode b_Mod_fits 70 = .ok (.bipush 10, 2) := by decide +kernel
theorem d_Mod_fits_72 : decode b_Mod_fits 72 = .ok (.if_icmp .ge 74, 3) := by decide +kernel
theorem d_Mod_fits_75 : decode b_Mod_fits 75 = .ok (.iconst 0, 1) := by decide +kernel
theorem d_Mod_fits_76 : decode b_Mod_fits 76 = .ok (.istore 7, 2) := by decide +kernel
theorem d_Mod_fits_78 : decode b_Mod_fits 78 = .ok (.iload 7, 2) := by decide +kernel
theorem d_Mod_fits_80 : decode b_Mod_fits 80 = .ok (.iconst 3, 1) := by decide +kernel
theorem d_Mod_fits_81 : decode b_Mod_fits 81 = .ok (.if_icmp .ge 59, 3) := by decide +kernel
theorem d_Mod_fits_84 : decode b_Mod_fits 84 = .ok (.iload 6, 2) := by decide +kernel
theorem d_Mod_fits_86 : decode b_Mod_fits 86 = .ok (.iload 7, 2) := by decide +kernel
theorem d_Mod_fits_88 : decode b_Mod_fits 88 = .ok (.iadd, 1) := by decide +kernel
theorem d_Mod_fits_89 : decode b_Mod_fits 89 = .ok (.bipush 10, 2) := by decide +kernel
theorem d_Mod_fits_91 : decode b_Mod_fits 91 = .ok (.if_icmp .ge 49, 3) := by decide +kernel
theorem d_Mod_fits_94 : decode b_Mod_fits 94 = .ok (.aload_n 0, 1) := by decide +kernel
theorem d_Mod_fits_95 : decode b_Mod_fits 95 = .ok (.getfield 81, 3) := by decide +kernel
theorem d_Mod_fits_98 : decode b_Mod_fits 98 = .ok (.iload 6, 2) := by decide +kernel
theorem d_Mod_fits_100 : decode b_Mod_fits 100 = .ok (.iload 7, 2) := by decide +kernel
theorem d_Mod_fits_102 : decode b_Mod_fits 102 = .ok (.iadd, 1) := by decide +kernel
theorem d_Mod_fits_103 : decode b_Mod_fits 103 = .ok (.aload_n 0, 1) := by decide +kernel
theorem d_Mod_fits_104 : decode b_Mod_fits 104 = .ok (.getfield 81, 3) := by decide +kernel
theorem d_Mod_fits_107 : decode b_Mod_fits 107 = .ok (.iload 6, 2) := by decide +kernel
theorem d_Mod_fits_109 : decode b_Mod_fits 109 = .ok (.iload 7, 2) := by decide +kernel
theorem d_Mod_fits_111 : decode b_Mod_fits 111 = .ok (.iadd, 1) := by decide +kernel
theorem d_Mod_fits_112 : decode b_Mod_fits 112 = .ok (.laload, 1) := by decide +kernel
theorem d_Mod_fits_113 : decode b_Mod_fits 113 = .ok (.aload_n 0, 1) := by decide +kernel
theorem d_Mod_fits_114 : decode b_Mod_fits 114 = .ok (.getfield 78, 3) := by decide +kernel
theorem d_Mod_fits_117 : decode b_Mod_fits 117 = .ok (.iload 6, 2) := by decide +kernel
theorem d_Mod_fits_119 : decode b_Mod_fits 119 = .ok (.laload, 1) := by decide +kernel
theorem d_Mod_fits_120 : decode b_Mod_fits 120 = .ok (.lload_n 1, 1) := by decide +kernel
theorem d_Mod_fits_121 : decode b_Mod_fits 121 = .ok (.bipush 16, 2) := by decide +kernel
theorem d_Mod_fits_123 : decode b_Mod_fits 123 = .ok (.iload 7, 2) := by decide +kernel
theorem d_Mod_fits_125 : decode b_Mod_fits 125 = .ok (.imul, 1) := by decide +kernel
theorem d_Mod_fits_126 : decode b_Mod_fits 126 = .ok (.lshr, 1) := by decide +kernel
theorem d_Mod_fits_127 : decode b_Mod_fits 127 = .ok (.ldc2_w 98, 3) := by decide +kernel
theorem d_Mod_fits_130 : decode b_Mod_fits 130 = .ok (.land, 1) := by decide +kernel
theorem d_Mod_fits_131 : decode b_Mod_fits 131 = .ok (.lmul, 1) := by decide +kernel
theorem d_Mod_fits_132 : decode b_Mod_fits 132 = .ok (.ladd, 1) := by decide +kernel
theorem d_Mod_fits_133 : decode b_Mod_fits 133 = .ok (.lastore, 1) := by decide +kernel
theorem d_Mod_fits_134 : decode b_Mod_fits 134 = .ok (.iinc 7 1, 3) := by decide +kernel
theorem d_Mod_fits_137 : decode b_Mod_fits 137 = .ok (.goto (-59), 3) := by decide +kernel
theorem d_Mod_fits_140 : decode b_Mod_fits 140 = .ok (.iinc 6 1, 3) := by decide +kernel
theorem d_Mod_fits_143 : decode b_Mod_fits 143 = .ok (.goto (-75), 3) := by decide +kernel
theorem d_Mod_fits_146 : decode b_Mod_fits 146 = .ok (.lconst 0, 1) := by decide +kernel
theorem d_Mod_fits_147 : decode b_Mod_fits 147 = .ok (.lstore 6, 2) := by decide +kernel
theorem d_Mod_fits_149 : decode b_Mod_fits 149 = .ok (.iconst 0, 1) := by decide +kernel
theorem d_Mod_fits_150 : decode b_Mod_fits 150 = .ok (.istore 8, 2) := by decide +kernel
theorem d_Mod_fits_152 : decode b_Mod_fits 152 = .ok (.iload 8, 2) := by decide +kernel
theorem d_Mod_fits_154 : decode b_Mod_fits 154 = .ok (.bipush 10, 2) := by decide +kernel
theorem d_Mod_fits_156 : decode b_Mod_fits 156 = .ok (.if_icmp .ge 42, 3) := by decide +kernel
theorem d_Mod_fits_159 : decode b_Mod_fits 159 = .ok (.lload 6, 2) := by decide +kernel
theorem d_Mod_fits_161 : decode b_Mod_fits 161 = .ok (.aload_n 0, 1) := by decide +kernel
theorem d_Mod_fits_162 : decode b_Mod_fits 162 = .ok (.getfield 81, 3) := by decide +kernel
theorem d_Mod_fits_165 : decode b_Mod_fits 165 = .ok (.iload 8, 2) := by decide +kernel
theorem d_Mod_fits_167 : decode b_Mod_fits 167 = .ok (.laload, 1) := by decide +kernel
theorem d_Mod_fits_168 : decode b_Mod_fits 168 = .ok (.ladd, 1) := by decide +kernel
theorem d_Mod_fits_169 : decode b_Mod_fits 169 = .ok (.lstore 6, 2) := by decide +kernel
theorem d_Mod_fits_171 : decode b_Mod_fits 171 = .ok (.aload_n 0, 1) := by decide +kernel
theorem d_Mod_fits_172 : decode b_Mod_fits 172 = .ok (.getfield 78, 3) := by decide +kernel
theorem d_Mod_fits_175 : decode b_Mod_fits 175 = .ok (.iload 8, 2) := by decide +kernel
theorem d_Mod_fits_177 : decode b_Mod_fits 177 = .ok (.lload 6, 2) := by decide +kernel
theorem d_Mod_fits_179 : decode b_Mod_fits 179 = .ok (.ldc2_w 100, 3) := by decide +kernel
theorem d_Mod_fits_182 : decode b_Mod_fits 182 = .ok (.lrem, 1) := by decide +kernel
theorem d_Mod_fits_183 : decode b_Mod_fits 183 = .ok (.lastore, 1) := by decide +kernel
theorem d_Mod_fits_184 : decode b_Mod_fits 184 = .ok (.lload 6, 2) := by decide +kernel
theorem d_Mod_fits_186 : decode b_Mod_fits 186 = .ok (.ldc2_w 100, 3) := by decide +kernel
theorem d_Mod_fits_189 : decode b_Mod_fits 189 = .ok (.ldiv, 1) := by decide +kernel
theorem d_Mod_fits_190 : decode b_Mod_fits 190 = .ok (.lstore 6, 2) := by decide +kernel
theorem d_Mod_fits_192 : decode b_Mod_fits 192 = .ok (.iinc 8 1, 3) := by decide +kernel
theorem d_Mod_fits_195 : decode b_Mod_fits 195 = .ok (.goto (-43), 3) := by decide +kernel
theorem d_Mod_fits_198 : decode b_Mod_fits 198 = .ok (.iinc 5 1, 3) := by decide +kernel
theorem d_Mod_fits_201 : decode b_Mod_fits 201 = .ok (.goto (-167), 3) := by decide +kernel
theorem d_Mod_fits_204 : decode b_Mod_fits 204 = .ok (.iconst 2, 1) := by decide +kernel
theorem d_Mod_fits_205 : decode b_Mod_fits 205 = .ok (.iload 4, 2) := by decide +kernel
theorem d_Mod_fits_207 : decode b_Mod_fits 207 = .ok (.imul, 1) := by decide +kernel
theorem d_Mod_fits_208 : decode b_Mod_fits 208 = .ok (.istore 5, 2) := by decide +kernel
theorem d_Mod_fits_210 : decode b_Mod_fits 210 = .ok (.bipush 9, 2) := by decide +kernel
theorem d_Mod_fits_212 : decode b_Mod_fits 212 = .ok (.istore 6, 2) := by decide +kernel
theorem d_Mod_fits_214 : decode b_Mod_fits 214 = .ok (.iload 6, 2) := by decide +kernel
theorem d_Mod_fits_216 : decode b_Mod_fits 216 = .ok (.ifCond .lt 56, 3) := by decide +kernel
theorem d_Mod_fits_219 : decode b_Mod_fits 219 = .ok (.iload 6, 2) := by decide +kernel
theorem d_Mod_fits_221 : decode b_Mod_fits 221 = .ok (.iload 5, 2) := by decide +kernel
theorem d_Mod_fits_223 : decode b_Mod_fits 223 = .ok (.if_icmp .ne 8, 3) := by decide +kernel
theorem d_Mod_fits_226 : decode b_Mod_fits 226 = .ok (.iload_n 3, 1) := by decide +kernel
theorem d_Mod_fits_227 : decode b_Mod_fits 227 = .ok (.i2l, 1) := by decide +kernel
theorem d_Mod_fits_228 : decode b_Mod_fits 228 = .ok (.goto 4, 3) := by decide +kernel
theorem d_Mod_fits_231 : decode b_Mod_fits 231 = .ok (.lconst 0, 1) := by decide +kernel
theorem d_Mod_fits_232 : decode b_Mod_fits 232 = .ok (.lstore 7, 2) := by decide +kernel
theorem d_Mod_fits_234 : decode b_Mod_fits 234 = .ok (.aload_n 0, 1) := by decide +kernel
theorem d_Mod_fits_235 : decode b_Mod_fits 235 = .ok (.getfield 78, 3) := by decide +kernel
theorem d_Mod_fits_238 : decode b_Mod_fits 238 = .ok (.iload 6, 2) := by decide +kernel
theorem d_Mod_fits_240 : decode b_Mod_fits 240 = .ok (.laload, 1) := by decide +kernel
theorem d_Mod_fits_241 : decode b_Mod_fits 241 = .ok (.lload 7, 2) := by decide +kernel
theorem d_Mod_fits_243 : decode b_Mod_fits 243 = .ok (.lcmp, 1) := by decide +kernel
theorem d_Mod_fits_244 : decode b_Mod_fits 244 = .ok (.ifCond .eq 22, 3) := by decide +kernel
theorem d_Mod_fits_247 : decode b_Mod_fits 247 = .ok (.aload_n 0, 1) := by decide +kernel
theorem d_Mod_fits_248 : decode b_Mod_fits 248 = .ok (.getfield 78, 3) := by decide +kernel
theorem d_Mod_fits_251 : decode b_Mod_fits 251 = .ok (.iload 6, 2) := by decide +kernel
theorem d_Mod_fits_253 : decode b_Mod_fits 253 = .ok (.laload, 1) := by decide +kernel
theorem d_Mod_fits_254 : decode b_Mod_fits 254 = .ok (.lload 7, 2) := by decide +kernel
theorem d_Mod_fits_256 : decode b_Mod_fits 256 = .ok (.lcmp, 1) := by decide +kernel
theorem d_Mod_fits_257 : decode b_Mod_fits 257 = .ok (.ifCond .ge 7, 3) := by decide +kernel
theorem d_Mod_fits_260 : decode b_Mod_fits 260 = .ok (.iconst 1, 1) := by decide +kernel
theorem d_Mod_fits_261 : decode b_Mod_fits 261 = .ok (.goto 4, 3) := by decide +kernel
theorem d_Mod_fits_264 : decode b_Mod_fits 264 = .ok (.iconst 0, 1) := by decide +kernel
theorem d_Mod_fits_265 : decode b_Mod_fits 265 = .ok (.ireturn, 1) := by decide +kernel
theorem d_Mod_fits_266 : decode b_Mod_fits 266 = .ok (.iinc 6 (-1), 3) := by decide +kernel
theorem d_Mod_fits_269 : decode b_Mod_fits 269 = .ok (.goto (-55), 3) := by decide +kernel
theorem d_Mod_fits_272 : decode b_Mod_fits 272 = .ok (.iconst 1, 1) := by decide +kernel
theorem d_Mod_fits_273 : decode b_Mod_fits 273 = .ok (.ireturn, 1) := by decide +kernel
abbrev b_Mod_turn : ByteArray := prog_8_method_5_code
def y_Mod_turn : MethodName := ⟨R_Mod, "turn", "(JI)J"⟩
theorem d_Mod_turn_0 : decode b_Mod_turn 0 = .ok (.lload_n 0, 1) := by decide +kernel
theorem d_Mod_turn_1 : decode b_Mod_turn 1 = .ok (.lconst 1, 1) := by decide +kernel
theorem d_Mod_turn_2 : decode b_Mod_turn 2 = .ok (.iload_n 2, 1) := by decide +kernel
theorem d_Mod_turn_3 : decode b_Mod_turn 3 = .ok (.lshl, 1) := by decide +kernel
theorem d_Mod_turn_4 : decode b_Mod_turn 4 = .ok (.lmul, 1) := by decide +kernel
theorem d_Mod_turn_5 : decode b_Mod_turn 5 = .ok (.ldc2_w 92, 3) := by decide +kernel
theorem d_Mod_turn_8 : decode b_Mod_turn 8 = .ok (.lrem, 1) := by decide +kernel
theorem d_Mod_turn_9 : decode b_Mod_turn 9 = .ok (.lload_n 0, 1) := by decide +kernel
theorem d_Mod_turn_10 : decode b_Mod_turn 10 = .ok (.lconst 1, 1) := by decide +kernel
theorem d_Mod_turn_11 : decode b_Mod_turn 11 = .ok (.bipush 32, 2) := by decide +kernel
theorem d_Mod_turn_13 : decode b_Mod_turn 13 = .ok (.iload_n 2, 1) := by decide +kernel
theorem d_Mod_turn_14 : decode b_Mod_turn 14 = .ok (.isub, 1) := by decide +kernel
theorem d_Mod_turn_15 : decode b_Mod_turn 15 = .ok (.lshl, 1) := by decide +kernel
theorem d_Mod_turn_16 : decode b_Mod_turn 16 = .ok (.ldiv, 1) := by decide +kernel
theorem d_Mod_turn_17 : decode b_Mod_turn 17 = .ok (.ladd, 1) := by decide +kernel
theorem d_Mod_turn_18 : decode b_Mod_turn 18 = .ok (.lreturn, 1) := by decide +kernel
abbrev b_Mod_not : ByteArray := prog_8_method_6_code
def y_Mod_not : MethodName := ⟨R_Mod, "not", "(J)J"⟩
theorem d_Mod_not_0 : decode b_Mod_not 0 = .ok (.ldc2_w 102, 3) := by decide +kernel
theorem d_Mod_not_3 : decode b_Mod_not 3 = .ok (.lload_n 0, 1) := by decide +kernel
theorem d_Mod_not_4 : decode b_Mod_not 4 = .ok (.lsub, 1) := by decide +kernel
theorem d_Mod_not_5 : decode b_Mod_not 5 = .ok (.lreturn, 1) := by decide +kernel
abbrev b_Mod_digestOf : ByteArray := prog_8_method_7_code
def y_Mod_digestOf : MethodName := ⟨R_Mod, "digestOf", "(I)V"⟩
theorem d_Mod_digestOf_0 : decode b_Mod_digestOf 0 = .ok (.iload_n 1, 1) := by decide +kernel
theorem d_Mod_digestOf_1 : decode b_Mod_digestOf 1 = .ok (.istore_n 2, 1) := by decide +kernel
theorem d_Mod_digestOf_2 : decode b_Mod_digestOf 2 = .ok (.aload_n 0, 1) := by decide +kernel
theorem d_Mod_digestOf_3 : decode b_Mod_digestOf 3 = .ok (.getfield 59, 3) := by decide +kernel
theorem d_Mod_digestOf_6 : decode b_Mod_digestOf 6 = .ok (.iload_n 2, 1) := by decide +kernel
theorem d_Mod_digestOf_7 : decode b_Mod_digestOf 7 = .ok (.sipush 128, 3) := by decide +kernel
theorem d_Mod_digestOf_10 : decode b_Mod_digestOf 10 = .ok (.iastore, 1) := by decide +kernel
theorem d_Mod_digestOf_11 : decode b_Mod_digestOf 11 = .ok (.iload_n 2, 1) := by decide +kernel
theorem d_Mod_digestOf_12 : decode b_Mod_digestOf 12 = .ok (.iconst 1, 1) := by decide +kernel
theorem d_Mod_digestOf_13 : decode b_Mod_digestOf 13 = .ok (.iadd, 1) := by decide +kernel
theorem d_Mod_digestOf_14 : decode b_Mod_digestOf 14 = .ok (.istore_n 2, 1) := by decide +kernel
theorem d_Mod_digestOf_15 : decode b_Mod_digestOf 15 = .ok (.iload_n 2, 1) := by decide +kernel
theorem d_Mod_digestOf_16 : decode b_Mod_digestOf 16 = .ok (.bipush 64, 2) := by decide +kernel
theorem d_Mod_digestOf_18 : decode b_Mod_digestOf 18 = .ok (.irem, 1) := by decide +kernel
theorem d_Mod_digestOf_19 : decode b_Mod_digestOf 19 = .ok (.bipush 56, 2) := by decide +kernel
theorem d_Mod_digestOf_21 : decode b_Mod_digestOf 21 = .ok (.if_icmp .eq 17, 3) := by decide +kernel
theorem d_Mod_digestOf_24 : decode b_Mod_digestOf 24 = .ok (.aload_n 0, 1) := by decide +kernel
theorem d_Mod_digestOf_25 : decode b_Mod_digestOf 25 = .ok (.getfield 59, 3) := by decide +kernel
theorem d_Mod_digestOf_28 : decode b_Mod_digestOf 28 = .ok (.iload_n 2, 1) := by decide +kernel
theorem d_Mod_digestOf_29 : decode b_Mod_digestOf 29 = .ok (.iconst 0, 1) := by decide +kernel
theorem d_Mod_digestOf_30 : decode b_Mod_digestOf 30 = .ok (.iastore, 1) := by decide +kernel
theorem d_Mod_digestOf_31 : decode b_Mod_digestOf 31 = .ok (.iload_n 2, 1) := by decide +kernel
theorem d_Mod_digestOf_32 : decode b_Mod_digestOf 32 = .ok (.iconst 1, 1) := by decide +kernel
theorem d_Mod_digestOf_33 : decode b_Mod_digestOf 33 = .ok (.iadd, 1) := by decide +kernel
theorem d_Mod_digestOf_34 : decode b_Mod_digestOf 34 = .ok (.istore_n 2, 1) := by decide +kernel
theorem d_Mod_digestOf_35 : decode b_Mod_digestOf 35 = .ok (.goto (-20), 3) := by decide +kernel
theorem d_Mod_digestOf_38 : decode b_Mod_digestOf 38 = .ok (.iconst 0, 1) := by decide +kernel
theorem d_Mod_digestOf_39 : decode b_Mod_digestOf 39 = .ok (.istore_n 3, 1) := by decide +kernel
theorem d_Mod_digestOf_40 : decode b_Mod_digestOf 40 = .ok (.iload_n 3, 1) := by decide +kernel
theorem d_Mod_digestOf_41 : decode b_Mod_digestOf 41 = .ok (.bipush 8, 2) := by decide +kernel
theorem d_Mod_digestOf_43 : decode b_Mod_digestOf 43 = .ok (.if_icmp .ge 36, 3) := by decide +kernel
theorem d_Mod_digestOf_46 : decode b_Mod_digestOf 46 = .ok (.aload_n 0, 1) := by decide +kernel
theorem d_Mod_digestOf_47 : decode b_Mod_digestOf 47 = .ok (.getfield 59, 3) := by decide +kernel
theorem d_Mod_digestOf_50 : decode b_Mod_digestOf 50 = .ok (.iload_n 2, 1) := by decide +kernel
theorem d_Mod_digestOf_51 : decode b_Mod_digestOf 51 = .ok (.iload_n 3, 1) := by decide +kernel
theorem d_Mod_digestOf_52 : decode b_Mod_digestOf 52 = .ok (.iadd, 1) := by decide +kernel
theorem d_Mod_digestOf_53 : decode b_Mod_digestOf 53 = .ok (.ldc2_w 104, 3) := by decide +kernel
theorem d_Mod_digestOf_56 : decode b_Mod_digestOf 56 = .ok (.iload_n 1, 1) := by decide +kernel
theorem d_Mod_digestOf_57 : decode b_Mod_digestOf 57 = .ok (.i2l, 1) := by decide +kernel
theorem d_Mod_digestOf_58 : decode b_Mod_digestOf 58 = .ok (.lmul, 1) := by decide +kernel
theorem d_Mod_digestOf_59 : decode b_Mod_digestOf 59 = .ok (.bipush 56, 2) := by decide +kernel
theorem d_Mod_digestOf_61 : decode b_Mod_digestOf 61 = .ok (.bipush 8, 2) := by decide +kernel
theorem d_Mod_digestOf_63 : decode b_Mod_digestOf 63 = .ok (.iload_n 3, 1) := by decide +kernel
theorem d_Mod_digestOf_64 : decode b_Mod_digestOf 64 = .ok (.imul, 1) := by decide +kernel
theorem d_Mod_digestOf_65 : decode b_Mod_digestOf 65 = .ok (.isub, 1) := by decide +kernel
theorem d_Mod_digestOf_66 : decode b_Mod_digestOf 66 = .ok (.lshr, 1) := by decide +kernel
theorem d_Mod_digestOf_67 : decode b_Mod_digestOf 67 = .ok (.ldc2_w 106, 3) := by decide +kernel
theorem d_Mod_digestOf_70 : decode b_Mod_digestOf 70 = .ok (.land, 1) := by decide +kernel
theorem d_Mod_digestOf_71 : decode b_Mod_digestOf 71 = .ok (.l2i, 1) := by decide +kernel
theorem d_Mod_digestOf_72 : decode b_Mod_digestOf 72 = .ok (.iastore, 1) := by decide +kernel
theorem d_Mod_digestOf_73 : decode b_Mod_digestOf 73 = .ok (.iinc 3 1, 3) := by decide +kernel
theorem d_Mod_digestOf_76 : decode b_Mod_digestOf 76 = .ok (.goto (-36), 3) := by decide +kernel
theorem d_Mod_digestOf_79 : decode b_Mod_digestOf 79 = .ok (.iload_n 2, 1) := by decide +kernel
theorem d_Mod_digestOf_80 : decode b_Mod_digestOf 80 = .ok (.bipush 8, 2) := by decide +kernel
theorem d_Mod_digestOf_82 : decode b_Mod_digestOf 82 = .ok (.iadd, 1) := by decide +kernel
theorem d_Mod_digestOf_83 : decode b_Mod_digestOf 83 = .ok (.istore_n 2, 1) := by decide +kernel
theorem d_Mod_digestOf_84 : decode b_Mod_digestOf 84 = .ok (.iconst 0, 1) := by decide +kernel
theorem d_Mod_digestOf_85 : decode b_Mod_digestOf 85 = .ok (.istore_n 3, 1) := by decide +kernel
theorem d_Mod_digestOf_86 : decode b_Mod_digestOf 86 = .ok (.iload_n 3, 1) := by decide +kernel
theorem d_Mod_digestOf_87 : decode b_Mod_digestOf 87 = .ok (.bipush 8, 2) := by decide +kernel
theorem d_Mod_digestOf_89 : decode b_Mod_digestOf 89 = .ok (.if_icmp .ge 21, 3) := by decide +kernel
theorem d_Mod_digestOf_92 : decode b_Mod_digestOf 92 = .ok (.aload_n 0, 1) := by decide +kernel
theorem d_Mod_digestOf_93 : decode b_Mod_digestOf 93 = .ok (.getfield 75, 3) := by decide +kernel
theorem d_Mod_digestOf_96 : decode b_Mod_digestOf 96 = .ok (.iload_n 3, 1) := by decide +kernel
theorem d_Mod_digestOf_97 : decode b_Mod_digestOf 97 = .ok (.aload_n 0, 1) := by decide +kernel
theorem d_Mod_digestOf_98 : decode b_Mod_digestOf 98 = .ok (.getfield 69, 3) := by decide +kernel
theorem d_Mod_digestOf_101 : decode b_Mod_digestOf 101 = .ok (.iload_n 3, 1) := by decide +kernel
theorem d_Mod_digestOf_102 : decode b_Mod_digestOf 102 = .ok (.laload, 1) := by decide +kernel
theorem d_Mod_digestOf_103 : decode b_Mod_digestOf 103 = .ok (.lastore, 1) := by decide +kernel
theorem d_Mod_digestOf_104 : decode b_Mod_digestOf 104 = .ok (.iinc 3 1, 3) := by decide +kernel
theorem d_Mod_digestOf_107 : decode b_Mod_digestOf 107 = .ok (.goto (-21), 3) := by decide +kernel
theorem d_Mod_digestOf_110 : decode b_Mod_digestOf 110 = .ok (.iconst 0, 1) := by decide +kernel
theorem d_Mod_digestOf_111 : decode b_Mod_digestOf 111 = .ok (.istore_n 3, 1) := by decide +kernel
theorem d_Mod_digestOf_112 : decode b_Mod_digestOf 112 = .ok (.iload_n 3, 1) := by decide +kernel
theorem d_Mod_digestOf_113 : decode b_Mod_digestOf 113 = .ok (.iload_n 2, 1) := by decide +kernel
theorem d_Mod_digestOf_114 : decode b_Mod_digestOf 114 = .ok (.if_icmp .ge 16, 3) := by decide +kernel
theorem d_Mod_digestOf_117 : decode b_Mod_digestOf 117 = .ok (.aload_n 0, 1) := by decide +kernel
theorem d_Mod_digestOf_118 : decode b_Mod_digestOf 118 = .ok (.iload_n 3, 1) := by decide +kernel
theorem d_Mod_digestOf_119 : decode b_Mod_digestOf 119 = .ok (.invokevirtual 108, 3) := by decide +kernel
theorem d_Mod_digestOf_122 : decode b_Mod_digestOf 122 = .ok (.iload_n 3, 1) := by decide +kernel
theorem d_Mod_digestOf_123 : decode b_Mod_digestOf 123 = .ok (.bipush 64, 2) := by decide +kernel
theorem d_Mod_digestOf_125 : decode b_Mod_digestOf 125 = .ok (.iadd, 1) := by decide +kernel
theorem d_Mod_digestOf_126 : decode b_Mod_digestOf 126 = .ok (.istore_n 3, 1) := by decide +kernel
theorem d_Mod_digestOf_127 : decode b_Mod_digestOf 127 = .ok (.goto (-15), 3) := by decide +kernel
theorem d_Mod_digestOf_130 : decode b_Mod_digestOf 130 = .ok (.iconst 0, 1) := by decide +kernel
theorem d_Mod_digestOf_131 : decode b_Mod_digestOf 131 = .ok (.istore_n 3, 1) := by decide +kernel
theorem d_Mod_digestOf_132 : decode b_Mod_digestOf 132 = .ok (.iload_n 3, 1) := by decide +kernel
theorem d_Mod_digestOf_133 : decode b_Mod_digestOf 133 = .ok (.bipush 32, 2) := by decide +kernel
theorem d_Mod_digestOf_135 : decode b_Mod_digestOf 135 = .ok (.if_icmp .ge 38, 3) := by decide +kernel
theorem d_Mod_digestOf_138 : decode b_Mod_digestOf 138 = .ok (.aload_n 0, 1) := by decide +kernel
theorem d_Mod_digestOf_139 : decode b_Mod_digestOf 139 = .ok (.getfield 62, 3) := by decide +kernel
theorem d_Mod_digestOf_142 : decode b_Mod_digestOf 142 = .ok (.iload_n 3, 1) := by decide +kernel
theorem d_Mod_digestOf_143 : decode b_Mod_digestOf 143 = .ok (.aload_n 0, 1) := by decide +kernel
theorem d_Mod_digestOf_144 : decode b_Mod_digestOf 144 = .ok (.getfield 75, 3) := by decide +kernel
theorem d_Mod_digestOf_147 : decode b_Mod_digestOf 147 = .ok (.iload_n 3, 1) := by decide +kernel
theorem d_Mod_digestOf_148 : decode b_Mod_digestOf 148 = .ok (.iconst 4, 1) := by decide +kernel
theorem d_Mod_digestOf_149 : decode b_Mod_digestOf 149 = .ok (.idiv, 1) := by decide +kernel
theorem d_Mod_digestOf_150 : decode b_Mod_digestOf 150 = .ok (.laload, 1) := by decide +kernel
theorem d_Mod_digestOf_151 : decode b_Mod_digestOf 151 = .ok (.bipush 24, 2) := by decide +kernel
theorem d_Mod_digestOf_153 : decode b_Mod_digestOf 153 = .ok (.bipush 8, 2) := by decide +kernel
theorem d_Mod_digestOf_155 : decode b_Mod_digestOf 155 = .ok (.iload_n 3, 1) := by decide +kernel
theorem d_Mod_digestOf_156 : decode b_Mod_digestOf 156 = .ok (.iconst 4, 1) := by decide +kernel
theorem d_Mod_digestOf_157 : decode b_Mod_digestOf 157 = .ok (.irem, 1) := by decide +kernel
theorem d_Mod_digestOf_158 : decode b_Mod_digestOf 158 = .ok (.imul, 1) := by decide +kernel
theorem d_Mod_digestOf_159 : decode b_Mod_digestOf 159 = .ok (.isub, 1) := by decide +kernel
theorem d_Mod_digestOf_160 : decode b_Mod_digestOf 160 = .ok (.lshr, 1) := by decide +kernel
theorem d_Mod_digestOf_161 : decode b_Mod_digestOf 161 = .ok (.ldc2_w 106, 3) := by decide +kernel
theorem d_Mod_digestOf_164 : decode b_Mod_digestOf 164 = .ok (.land, 1) := by decide +kernel
theorem d_Mod_digestOf_165 : decode b_Mod_digestOf 165 = .ok (.l2i, 1) := by decide +kernel
theorem d_Mod_digestOf_166 : decode b_Mod_digestOf 166 = .ok (.iastore, 1) := by decide +kernel
theorem d_Mod_digestOf_167 : decode b_Mod_digestOf 167 = .ok (.iinc 3 1, 3) := by decide +kernel
theorem d_Mod_digestOf_170 : decode b_Mod_digestOf 170 = .ok (.goto (-38), 3) := by decide +kernel
theorem d_Mod_digestOf_173 : decode b_Mod_digestOf 173 = .ok (.return_, 1) := by decide +kernel
abbrev b_Mod_block : ByteArray := prog_8_method_8_code
def y_Mod_block : MethodName := ⟨R_Mod, "block", "(I)V"⟩
theorem d_Mod_block_0 : decode b_Mod_block 0 = .ok (.iconst 0, 1) := by decide +kernel
theorem d_Mod_block_1 : decode b_Mod_block 1 = .ok (.istore_n 2, 1) := by decide +kernel
theorem d_Mod_block_2 : decode b_Mod_block 2 = .ok (.iload_n 2, 1) := by decide +kernel
theorem d_Mod_block_3 : decode b_Mod_block 3 = .ok (.bipush 64, 2) := by decide +kernel
theorem d_Mod_block_5 : decode b_Mod_block 5 = .ok (.if_icmp .ge 160, 3) := by decide +kernel
theorem d_Mod_block_8 : decode b_Mod_block 8 = .ok (.iload_n 2, 1) := by decide +kernel
theorem d_Mod_block_9 : decode b_Mod_block 9 = .ok (.bipush 16, 2) := by decide +kernel
theorem d_Mod_block_11 : decode b_Mod_block 11 = .ok (.if_icmp .ge 56, 3) := by decide +kernel
theorem d_Mod_block_14 : decode b_Mod_block 14 = .ok (.aload_n 0, 1) := by decide +kernel
theorem d_Mod_block_15 : decode b_Mod_block 15 = .ok (.getfield 72, 3) := by decide +kernel
theorem d_Mod_block_18 : decode b_Mod_block 18 = .ok (.iload_n 2, 1) := by decide +kernel
theorem d_Mod_block_19 : decode b_Mod_block 19 = .ok (.lconst 0, 1) := by decide +kernel
theorem d_Mod_block_20 : decode b_Mod_block 20 = .ok (.lastore, 1) := by decide +kernel
theorem d_Mod_block_21 : decode b_Mod_block 21 = .ok (.iconst 0, 1) := by decide +kernel
theorem d_Mod_block_22 : decode b_Mod_block 22 = .ok (.istore_n 3, 1) := by decide +kernel
theorem d_Mod_block_23 : decode b_Mod_block 23 = .ok (.iload_n 3, 1) := by decide +kernel
theorem d_Mod_block_24 : decode b_Mod_block 24 = .ok (.iconst 4, 1) := by decide +kernel
theorem d_Mod_block_25 : decode b_Mod_block 25 = .ok (.if_icmp .ge 39, 3) := by decide +kernel
theorem d_Mod_block_28 : decode b_Mod_block 28 = .ok (.aload_n 0, 1) := by decide +kernel
theorem d_Mod_block_29 : decode b_Mod_block 29 = .ok (.getfield 72, 3) := by decide +kernel
theorem d_Mod_block_32 : decode b_Mod_block 32 = .ok (.iload_n 2, 1) := by decide +kernel
theorem d_Mod_block_33 : decode b_Mod_block 33 = .ok (.aload_n 0, 1) := by decide +kernel
theorem d_Mod_block_34 : decode b_Mod_block 34 = .ok (.getfield 72, 3) := by decide +kernel
theorem d_Mod_block_37 : decode b_Mod_block 37 = .ok (.iload_n 2, 1) := by decide +kernel
theorem d_Mod_block_38 : decode b_Mod_block 38 = .ok (.laload, 1) := by decide +kernel
theorem d_Mod_block_39 : decode b_Mod_block 39 = .ok (.ldc2_w 112, 3) := by decide +kernel
theorem d_Mod_block_42 : decode b_Mod_block 42 = .ok (.lmul, 1) := by decide +kernel
theorem d_Mod_block_43 : decode b_Mod_block 43 = .ok (.aload_n 0, 1) := by decide +kernel
theorem d_Mod_block_44 : decode b_Mod_block 44 = .ok (.getfield 59, 3) := by decide +kernel
theorem d_Mod_block_47 : decode b_Mod_block 47 = .ok (.iload_n 1, 1) := by decide +kernel
theorem d_Mod_block_48 : decode b_Mod_block 48 = .ok (.iconst 4, 1) := by decide +kernel
theorem d_Mod_block_49 : decode b_Mod_block 49 = .ok (.iload_n 2, 1) := by decide +kernel
theorem d_Mod_block_50 : decode b_Mod_block 50 = .ok (.imul, 1) := by decide +kernel
theorem d_Mod_block_51 : decode b_Mod_block 51 = .ok (.iadd, 1) := by decide +kernel
theorem d_Mod_block_52 : decode b_Mod_block 52 = .ok (.iload_n 3, 1) := by decide +kernel
theorem d_Mod_block_53 : decode b_Mod_block 53 = .ok (.iadd, 1) := by decide +kernel
theorem d_Mod_block_54 : decode b_Mod_block 54 = .ok (.iaload, 1) := by decide +kernel
theorem d_Mod_block_55 : decode b_Mod_block 55 = .ok (.i2l, 1) := by decide +kernel
theorem d_Mod_block_56 : decode b_Mod_block 56 = .ok (.ladd, 1) := by decide +kernel
theorem d_Mod_block_57 : decode b_Mod_block 57 = .ok (.lastore, 1) := by decide +kernel
theorem d_Mod_block_58 : decode b_Mod_block 58 = .ok (.iinc 3 1, 3) := by decide +kernel
theorem d_Mod_block_61 : decode b_Mod_block 61 = .ok (.goto (-38), 3) := by decide +kernel
theorem d_Mod_block_64 : decode b_Mod_block 64 = .ok (.goto 95, 3) := by decide +kernel
theorem d_Mod_block_67 : decode b_Mod_block 67 = .ok (.aload_n 0, 1) := by decide +kernel
theorem d_Mod_block_68 : decode b_Mod_block 68 = .ok (.getfield 72, 3) := by decide +kernel
theorem d_Mod_block_71 : decode b_Mod_block 71 = .ok (.iload_n 2, 1) := by decide +kernel
theorem d_Mod_block_72 : decode b_Mod_block 72 = .ok (.bipush 15, 2) := by decide +kernel
theorem d_Mod_block_74 : decode b_Mod_block 74 = .ok (.isub, 1) := by decide +kernel
theorem d_Mod_block_75 : decode b_Mod_block 75 = .ok (.laload, 1) := by decide +kernel
theorem d_Mod_block_76 : decode b_Mod_block 76 = .ok (.lstore_n 3, 1) := by decide +kernel
theorem d_Mod_block_77 : decode b_Mod_block 77 = .ok (.aload_n 0, 1) := by decide +kernel
theorem d_Mod_block_78 : decode b_Mod_block 78 = .ok (.getfield 72, 3) := by decide +kernel
theorem d_Mod_block_81 : decode b_Mod_block 81 = .ok (.iload_n 2, 1) := by decide +kernel
theorem d_Mod_block_82 : decode b_Mod_block 82 = .ok (.iconst 2, 1) := by decide +kernel
theorem d_Mod_block_83 : decode b_Mod_block 83 = .ok (.isub, 1) := by decide +kernel
theorem d_Mod_block_84 : decode b_Mod_block 84 = .ok (.laload, 1) := by decide +kernel
theorem d_Mod_block_85 : decode b_Mod_block 85 = .ok (.lstore 5, 2) := by decide +kernel
theorem d_Mod_block_87 : decode b_Mod_block 87 = .ok (.aload_n 0, 1) := by decide +kernel
theorem d_Mod_block_88 : decode b_Mod_block 88 = .ok (.getfield 72, 3) := by decide +kernel
theorem d_Mod_block_91 : decode b_Mod_block 91 = .ok (.iload_n 2, 1) := by decide +kernel
theorem d_Mod_block_92 : decode b_Mod_block 92 = .ok (.aload_n 0, 1) := by decide +kernel
theorem d_Mod_block_93 : decode b_Mod_block 93 = .ok (.getfield 72, 3) := by decide +kernel
theorem d_Mod_block_96 : decode b_Mod_block 96 = .ok (.iload_n 2, 1) := by decide +kernel
theorem d_Mod_block_97 : decode b_Mod_block 97 = .ok (.bipush 16, 2) := by decide +kernel
theorem d_Mod_block_99 : decode b_Mod_block 99 = .ok (.isub, 1) := by decide +kernel
theorem d_Mod_block_100 : decode b_Mod_block 100 = .ok (.laload, 1) := by decide +kernel
theorem d_Mod_block_101 : decode b_Mod_block 101 = .ok (.lload_n 3, 1) := by decide +kernel
theorem d_Mod_block_102 : decode b_Mod_block 102 = .ok (.bipush 25, 2) := by decide +kernel
theorem d_Mod_block_104 : decode b_Mod_block 104 = .ok (.invokestatic 114, 3) := by decide +kernel
theorem d_Mod_block_107 : decode b_Mod_block 107 = .ok (.lload_n 3, 1) := by decide +kernel
theorem d_Mod_block_108 : decode b_Mod_block 108 = .ok (.bipush 14, 2) := by decide +kernel
theorem d_Mod_block_110 : decode b_Mod_block 110 = .ok (.invokestatic 114, 3) := by decide +kernel
theorem d_Mod_block_113 : decode b_Mod_block 113 = .ok (.lxor, 1) := by decide +kernel
theorem d_Mod_block_114 : decode b_Mod_block 114 = .ok (.lload_n 3, 1) := by decide +kernel
theorem d_Mod_block_115 : decode b_Mod_block 115 = .ok (.ldc2_w 104, 3) := by decide +kernel
theorem d_Mod_block_118 : decode b_Mod_block 118 = .ok (.ldiv, 1) := by decide +kernel
theorem d_Mod_block_119 : decode b_Mod_block 119 = .ok (.lxor, 1) := by decide +kernel
theorem d_Mod_block_120 : decode b_Mod_block 120 = .ok (.ladd, 1) := by decide +kernel
theorem d_Mod_block_121 : decode b_Mod_block 121 = .ok (.aload_n 0, 1) := by decide +kernel
theorem d_Mod_block_122 : decode b_Mod_block 122 = .ok (.getfield 72, 3) := by decide +kernel
theorem d_Mod_block_125 : decode b_Mod_block 125 = .ok (.iload_n 2, 1) := by decide +kernel
theorem d_Mod_block_126 : decode b_Mod_block 126 = .ok (.bipush 7, 2) := by decide +kernel
theorem d_Mod_block_128 : decode b_Mod_block 128 = .ok (.isub, 1) := by decide +kernel
theorem d_Mod_block_129 : decode b_Mod_block 129 = .ok (.laload, 1) := by decide +kernel
theorem d_Mod_block_130 : decode b_Mod_block 130 = .ok (.ladd, 1) := by decide +kernel
theorem d_Mod_block_131 : decode b_Mod_block 131 = .ok (.lload 5, 2) := by decide +kernel
theorem d_Mod_block_133 : decode b_Mod_block 133 = .ok (.bipush 15, 2) := by decide +kernel
theorem d_Mod_block_135 : decode b_Mod_block 135 = .ok (.invokestatic 114, 3) := by decide +kernel
theorem d_Mod_block_138 : decode b_Mod_block 138 = .ok (.lload 5, 2) := by decide +kernel
theorem d_Mod_block_140 : decode b_Mod_block 140 = .ok (.bipush 13, 2) := by decide +kernel
theorem d_Mod_block_142 : decode b_Mod_block 142 = .ok (.invokestatic 114, 3) := by decide +kernel
theorem d_Mod_block_145 : decode b_Mod_block 145 = .ok (.lxor, 1) := by decide +kernel
theorem d_Mod_block_146 : decode b_Mod_block 146 = .ok (.lload 5, 2) := by decide +kernel
theorem d_Mod_block_148 : decode b_Mod_block 148 = .ok (.ldc2_w 118, 3) := by decide +kernel
theorem d_Mod_block_151 : decode b_Mod_block 151 = .ok (.ldiv, 1) := by decide +kernel
theorem d_Mod_block_152 : decode b_Mod_block 152 = .ok (.lxor, 1) := by decide +kernel
theorem d_Mod_block_153 : decode b_Mod_block 153 = .ok (.ladd, 1) := by decide +kernel
theorem d_Mod_block_154 : decode b_Mod_block 154 = .ok (.ldc2_w 92, 3) := by decide +kernel
theorem d_Mod_block_157 : decode b_Mod_block 157 = .ok (.lrem, 1) := by decide +kernel
theorem d_Mod_block_158 : decode b_Mod_block 158 = .ok (.lastore, 1) := by decide +kernel
theorem d_Mod_block_159 : decode b_Mod_block 159 = .ok (.iinc 2 1, 3) := by decide +kernel
theorem d_Mod_block_162 : decode b_Mod_block 162 = .ok (.goto (-160), 3) := by decide +kernel
theorem d_Mod_block_165 : decode b_Mod_block 165 = .ok (.iconst 0, 1) := by decide +kernel
theorem d_Mod_block_166 : decode b_Mod_block 166 = .ok (.istore_n 2, 1) := by decide +kernel
theorem d_Mod_block_167 : decode b_Mod_block 167 = .ok (.iload_n 2, 1) := by decide +kernel
theorem d_Mod_block_168 : decode b_Mod_block 168 = .ok (.bipush 8, 2) := by decide +kernel
theorem d_Mod_block_170 : decode b_Mod_block 170 = .ok (.if_icmp .ge 21, 3) := by decide +kernel
theorem d_Mod_block_173 : decode b_Mod_block 173 = .ok (.aload_n 0, 1) := by decide +kernel
theorem d_Mod_block_174 : decode b_Mod_block 174 = .ok (.getfield 81, 3) := by decide +kernel
theorem d_Mod_block_177 : decode b_Mod_block 177 = .ok (.iload_n 2, 1) := by decide +kernel
theorem d_Mod_block_178 : decode b_Mod_block 178 = .ok (.aload_n 0, 1) := by decide +kernel
theorem d_Mod_block_179 : decode b_Mod_block 179 = .ok (.getfield 75, 3) := by decide +kernel
theorem d_Mod_block_182 : decode b_Mod_block 182 = .ok (.iload_n 2, 1) := by decide +kernel
theorem d_Mod_block_183 : decode b_Mod_block 183 = .ok (.laload, 1) := by decide +kernel
theorem d_Mod_block_184 : decode b_Mod_block 184 = .ok (.lastore, 1) := by decide +kernel
theorem d_Mod_block_185 : decode b_Mod_block 185 = .ok (.iinc 2 1, 3) := by decide +kernel
theorem d_Mod_block_188 : decode b_Mod_block 188 = .ok (.goto (-21), 3) := by decide +kernel
theorem d_Mod_block_191 : decode b_Mod_block 191 = .ok (.iconst 0, 1) := by decide +kernel
theorem d_Mod_block_192 : decode b_Mod_block 192 = .ok (.istore_n 2, 1) := by decide +kernel
theorem d_Mod_block_193 : decode b_Mod_block 193 = .ok (.iload_n 2, 1) := by decide +kernel
theorem d_Mod_block_194 : decode b_Mod_block 194 = .ok (.bipush 64, 2) := by decide +kernel
theorem d_Mod_block_196 : decode b_Mod_block 196 = .ok (.if_icmp .ge 214, 3) := by decide +kernel
theorem d_Mod_block_199 : decode b_Mod_block 199 = .ok (.aload_n 0, 1) := by decide +kernel
theorem d_Mod_block_200 : decode b_Mod_block 200 = .ok (.getfield 81, 3) := by decide +kernel
theorem d_Mod_block_203 : decode b_Mod_block 203 = .ok (.iconst 4, 1) := by decide +kernel
theorem d_Mod_block_204 : decode b_Mod_block 204 = .ok (.laload, 1) := by decide +kernel
theorem d_Mod_block_205 : decode b_Mod_block 205 = .ok (.lstore_n 3, 1) := by decide +kernel
theorem d_Mod_block_206 : decode b_Mod_block 206 = .ok (.aload_n 0, 1) := by decide +kernel
theorem d_Mod_block_207 : decode b_Mod_block 207 = .ok (.getfield 81, 3) := by decide +kernel
theorem d_Mod_block_210 : decode b_Mod_block 210 = .ok (.iconst 0, 1) := by decide +kernel
theorem d_Mod_block_211 : decode b_Mod_block 211 = .ok (.laload, 1) := by decide +kernel
theorem d_Mod_block_212 : decode b_Mod_block 212 = .ok (.lstore 5, 2) := by decide +kernel
theorem d_Mod_block_214 : decode b_Mod_block 214 = .ok (.aload_n 0, 1) := by decide +kernel
theorem d_Mod_block_215 : decode b_Mod_block 215 = .ok (.getfield 81, 3) := by decide +kernel
theorem d_Mod_block_218 : decode b_Mod_block 218 = .ok (.bipush 7, 2) := by decide +kernel
theorem d_Mod_block_220 : decode b_Mod_block 220 = .ok (.laload, 1) := by decide +kernel
theorem d_Mod_block_221 : decode b_Mod_block 221 = .ok (.lload_n 3, 1) := by decide +kernel
theorem d_Mod_block_222 : decode b_Mod_block 222 = .ok (.bipush 26, 2) := by decide +kernel
theorem d_Mod_block_224 : decode b_Mod_block 224 = .ok (.invokestatic 114, 3) := by decide +kernel
theorem d_Mod_block_227 : decode b_Mod_block 227 = .ok (.lload_n 3, 1) := by decide +kernel
theorem d_Mod_block_228 : decode b_Mod_block 228 = .ok (.bipush 21, 2) := by decide +kernel
theorem d_Mod_block_230 : decode b_Mod_block 230 = .ok (.invokestatic 114, 3) := by decide +kernel
theorem d_Mod_block_233 : decode b_Mod_block 233 = .ok (.lxor, 1) := by decide +kernel
theorem d_Mod_block_234 : decode b_Mod_block 234 = .ok (.lload_n 3, 1) := by decide +kernel
theorem d_Mod_block_235 : decode b_Mod_block 235 = .ok (.bipush 7, 2) := by decide +kernel
theorem d_Mod_block_237 : decode b_Mod_block 237 = .ok (.invokestatic 114, 3) := by decide +kernel
theorem d_Mod_block_240 : decode b_Mod_block 240 = .ok (.lxor, 1) := by decide +kernel
theorem d_Mod_block_241 : decode b_Mod_block 241 = .ok (.ladd, 1) := by decide +kernel
theorem d_Mod_block_242 : decode b_Mod_block 242 = .ok (.lload_n 3, 1) := by decide +kernel
theorem d_Mod_block_243 : decode b_Mod_block 243 = .ok (.aload_n 0, 1) := by decide +kernel
theorem d_Mod_block_244 : decode b_Mod_block 244 = .ok (.getfield 81, 3) := by decide +kernel
theorem d_Mod_block_247 : decode b_Mod_block 247 = .ok (.iconst 5, 1) := by decide +kernel
theorem d_Mod_block_248 : decode b_Mod_block 248 = .ok (.laload, 1) := by decide +kernel
theorem d_Mod_block_249 : decode b_Mod_block 249 = .ok (.land, 1) := by decide +kernel
theorem d_Mod_block_250 : decode b_Mod_block 250 = .ok (.lload_n 3, 1) := by decide +kernel
theorem d_Mod_block_251 : decode b_Mod_block 251 = .ok (.invokestatic 120, 3) := by decide +kernel
theorem d_Mod_block_254 : decode b_Mod_block 254 = .ok (.aload_n 0, 1) := by decide +kernel
theorem d_Mod_block_255 : decode b_Mod_block 255 = .ok (.getfield 81, 3) := by decide +kernel
theorem d_Mod_block_258 : decode b_Mod_block 258 = .ok (.bipush 6, 2) := by decide +kernel
theorem d_Mod_block_260 : decode b_Mod_block 260 = .ok (.laload, 1) := by decide +kernel
theorem d_Mod_block_261 : decode b_Mod_block 261 = .ok (.land, 1) := by decide +kernel
theorem d_Mod_block_262 : decode b_Mod_block 262 = .ok (.lxor, 1) := by decide +kernel
theorem d_Mod_block_263 : decode b_Mod_block 263 = .ok (.ladd, 1) := by decide +kernel
theorem d_Mod_block_264 : decode b_Mod_block 264 = .ok (.aload_n 0, 1) := by decide +kernel
theorem d_Mod_block_265 : decode b_Mod_block 265 = .ok (.getfield 65, 3) := by decide +kernel
theorem d_Mod_block_268 : decode b_Mod_block 268 = .ok (.iload_n 2, 1) := by decide +kernel
theorem d_Mod_block_269 : decode b_Mod_block 269 = .ok (.laload, 1) := by decide +kernel
theorem d_Mod_block_270 : decode b_Mod_block 270 = .ok (.ladd, 1) := by decide +kernel
theorem d_Mod_block_271 : decode b_Mod_block 271 = .ok (.aload_n 0, 1) := by decide +kernel
theorem d_Mod_block_272 : decode b_Mod_block 272 = .ok (.getfield 72, 3) := by decide +kernel
theorem d_Mod_block_275 : decode b_Mod_block 275 = .ok (.iload_n 2, 1) := by decide +kernel
theorem d_Mod_block_276 : decode b_Mod_block 276 = .ok (.laload, 1) := by decide +kernel
theorem d_Mod_block_277 : decode b_Mod_block 277 = .ok (.ladd, 1) := by decide +kernel
theorem d_Mod_block_278 : decode b_Mod_block 278 = .ok (.lstore 7, 2) := by decide +kernel
theorem d_Mod_block_280 : decode b_Mod_block 280 = .ok (.lload 5, 2) := by decide +kernel
theorem d_Mod_block_282 : decode b_Mod_block 282 = .ok (.bipush 30, 2) := by decide +kernel
theorem d_Mod_block_284 : decode b_Mod_block 284 = .ok (.invokestatic 114, 3) := by decide +kernel
theorem d_Mod_block_287 : decode b_Mod_block 287 = .ok (.lload 5, 2) := by decide +kernel
theorem d_Mod_block_289 : decode b_Mod_block 289 = .ok (.bipush 19, 2) := by decide +kernel
theorem d_Mod_block_291 : decode b_Mod_block 291 = .ok (.invokestatic 114, 3) := by decide +kernel
theorem d_Mod_block_294 : decode b_Mod_block 294 = .ok (.lxor, 1) := by decide +kernel
theorem d_Mod_block_295 : decode b_Mod_block 295 = .ok (.lload 5, 2) := by decide +kernel
theorem d_Mod_block_297 : decode b_Mod_block 297 = .ok (.bipush 10, 2) := by decide +kernel
theorem d_Mod_block_299 : decode b_Mod_block 299 = .ok (.invokestatic 114, 3) := by decide +kernel
theorem d_Mod_block_302 : decode b_Mod_block 302 = .ok (.lxor, 1) := by decide +kernel
theorem d_Mod_block_303 : decode b_Mod_block 303 = .ok (.lload 5, 2) := by decide +kernel
theorem d_Mod_block_305 : decode b_Mod_block 305 = .ok (.aload_n 0, 1) := by decide +kernel
theorem d_Mod_block_306 : decode b_Mod_block 306 = .ok (.getfield 81, 3) := by decide +kernel
theorem d_Mod_block_309 : decode b_Mod_block 309 = .ok (.iconst 1, 1) := by decide +kernel
theorem d_Mod_block_310 : decode b_Mod_block 310 = .ok (.laload, 1) := by decide +kernel
theorem d_Mod_block_311 : decode b_Mod_block 311 = .ok (.land, 1) := by decide +kernel
theorem d_Mod_block_312 : decode b_Mod_block 312 = .ok (.lload 5, 2) := by decide +kernel
theorem d_Mod_block_314 : decode b_Mod_block 314 = .ok (.aload_n 0, 1) := by decide +kernel
theorem d_Mod_block_315 : decode b_Mod_block 315 = .ok (.getfield 81, 3) := by decide +kernel
theorem d_Mod_block_318 : decode b_Mod_block 318 = .ok (.iconst 2, 1) := by decide +kernel
theorem d_Mod_block_319 : decode b_Mod_block 319 = .ok (.laload, 1) := by decide +kernel
theorem d_Mod_block_320 : decode b_Mod_block 320 = .ok (.land, 1) := by decide +kernel
theorem d_Mod_block_321 : decode b_Mod_block 321 = .ok (.lxor, 1) := by decide +kernel
theorem d_Mod_block_322 : decode b_Mod_block 322 = .ok (.aload_n 0, 1) := by decide +kernel
theorem d_Mod_block_323 : decode b_Mod_block 323 = .ok (.getfield 81, 3) := by decide +kernel
theorem d_Mod_block_326 : decode b_Mod_block 326 = .ok (.iconst 1, 1) := by decide +kernel
theorem d_Mod_block_327 : decode b_Mod_block 327 = .ok (.laload, 1) := by decide +kernel
theorem d_Mod_block_328 : decode b_Mod_block 328 = .ok (.aload_n 0, 1) := by decide +kernel
theorem d_Mod_block_329 : decode b_Mod_block 329 = .ok (.getfield 81, 3) := by decide +kernel
theorem d_Mod_block_332 : decode b_Mod_block 332 = .ok (.iconst 2, 1) := by decide +kernel
theorem d_Mod_block_333 : decode b_Mod_block 333 = .ok (.laload, 1) := by decide +kernel
theorem d_Mod_block_334 : decode b_Mod_block 334 = .ok (.land, 1) := by decide +kernel
theorem d_Mod_block_335 : decode b_Mod_block 335 = .ok (.lxor, 1) := by decide +kernel
theorem d_Mod_block_336 : decode b_Mod_block 336 = .ok (.ladd, 1) := by decide +kernel
theorem d_Mod_block_337 : decode b_Mod_block 337 = .ok (.lstore 9, 2) := by decide +kernel
theorem d_Mod_block_339 : decode b_Mod_block 339 = .ok (.bipush 7, 2) := by decide +kernel
theorem d_Mod_block_341 : decode b_Mod_block 341 = .ok (.istore 11, 2) := by decide +kernel
theorem d_Mod_block_343 : decode b_Mod_block 343 = .ok (.iload 11, 2) := by decide +kernel
theorem d_Mod_block_345 : decode b_Mod_block 345 = .ok (.ifCond .le 25, 3) := by decide +kernel
theorem d_Mod_block_348 : decode b_Mod_block 348 = .ok (.aload_n 0, 1) := by decide +kernel
theorem d_Mod_block_349 : decode b_Mod_block 349 = .ok (.getfield 81, 3) := by decide +kernel
theorem d_Mod_block_352 : decode b_Mod_block 352 = .ok (.iload 11, 2) := by decide +kernel
theorem d_Mod_block_354 : decode b_Mod_block 354 = .ok (.aload_n 0, 1) := by decide +kernel
theorem d_Mod_block_355 : decode b_Mod_block 355 = .ok (.getfield 81, 3) := by decide +kernel
theorem d_Mod_block_358 : decode b_Mod_block 358 = .ok (.iload 11, 2) := by decide +kernel
theorem d_Mod_block_360 : decode b_Mod_block 360 = .ok (.iconst 1, 1) := by decide +kernel
theorem d_Mod_block_361 : decode b_Mod_block 361 = .ok (.isub, 1) := by decide +kernel
theorem d_Mod_block_362 : decode b_Mod_block 362 = .ok (.laload, 1) := by decide +kernel
theorem d_Mod_block_363 : decode b_Mod_block 363 = .ok (.lastore, 1) := by decide +kernel
theorem d_Mod_block_364 : decode b_Mod_block 364 = .ok (.iinc 11 (-1), 3) := by decide +kernel
theorem d_Mod_block_367 : decode b_Mod_block 367 = .ok (.goto (-24), 3) := by decide +kernel
theorem d_Mod_block_370 : decode b_Mod_block 370 = .ok (.aload_n 0, 1) := by decide +kernel
theorem d_Mod_block_371 : decode b_Mod_block 371 = .ok (.getfield 81, 3) := by decide +kernel
theorem d_Mod_block_374 : decode b_Mod_block 374 = .ok (.iconst 4, 1) := by decide +kernel
theorem d_Mod_block_375 : decode b_Mod_block 375 = .ok (.aload_n 0, 1) := by decide +kernel
theorem d_Mod_block_376 : decode b_Mod_block 376 = .ok (.getfield 81, 3) := by decide +kernel
theorem d_Mod_block_379 : decode b_Mod_block 379 = .ok (.iconst 4, 1) := by decide +kernel
theorem d_Mod_block_380 : decode b_Mod_block 380 = .ok (.laload, 1) := by decide +kernel
theorem d_Mod_block_381 : decode b_Mod_block 381 = .ok (.lload 7, 2) := by decide +kernel
theorem d_Mod_block_383 : decode b_Mod_block 383 = .ok (.ladd, 1) := by decide +kernel
theorem d_Mod_block_384 : decode b_Mod_block 384 = .ok (.ldc2_w 92, 3) := by decide +kernel
theorem d_Mod_block_387 : decode b_Mod_block 387 = .ok (.lrem, 1) := by decide +kernel
theorem d_Mod_block_388 : decode b_Mod_block 388 = .ok (.lastore, 1) := by decide +kernel
theorem d_Mod_block_389 : decode b_Mod_block 389 = .ok (.aload_n 0, 1) := by decide +kernel
theorem d_Mod_block_390 : decode b_Mod_block 390 = .ok (.getfield 81, 3) := by decide +kernel
theorem d_Mod_block_393 : decode b_Mod_block 393 = .ok (.iconst 0, 1) := by decide +kernel
theorem d_Mod_block_394 : decode b_Mod_block 394 = .ok (.lload 7, 2) := by decide +kernel
theorem d_Mod_block_396 : decode b_Mod_block 396 = .ok (.lload 9, 2) := by decide +kernel
theorem d_Mod_block_398 : decode b_Mod_block 398 = .ok (.ladd, 1) := by decide +kernel
theorem d_Mod_block_399 : decode b_Mod_block 399 = .ok (.ldc2_w 92, 3) := by decide +kernel
theorem d_Mod_block_402 : decode b_Mod_block 402 = .ok (.lrem, 1) := by decide +kernel
theorem d_Mod_block_403 : decode b_Mod_block 403 = .ok (.lastore, 1) := by decide +kernel
theorem d_Mod_block_404 : decode b_Mod_block 404 = .ok (.iinc 2 1, 3) := by decide +kernel
theorem d_Mod_block_407 : decode b_Mod_block 407 = .ok (.goto (-214), 3) := by decide +kernel
theorem d_Mod_block_410 : decode b_Mod_block 410 = .ok (.iconst 0, 1) := by decide +kernel
theorem d_Mod_block_411 : decode b_Mod_block 411 = .ok (.istore_n 2, 1) := by decide +kernel
theorem d_Mod_block_412 : decode b_Mod_block 412 = .ok (.iload_n 2, 1) := by decide +kernel
theorem d_Mod_block_413 : decode b_Mod_block 413 = .ok (.bipush 8, 2) := by decide +kernel
theorem d_Mod_block_415 : decode b_Mod_block 415 = .ok (.if_icmp .ge 32, 3) := by decide +kernel
theorem d_Mod_block_418 : decode b_Mod_block 418 = .ok (.aload_n 0, 1) := by decide +kernel
theorem d_Mod_block_419 : decode b_Mod_block 419 = .ok (.getfield 75, 3) := by decide +kernel
theorem d_Mod_block_422 : decode b_Mod_block 422 = .ok (.iload_n 2, 1) := by decide +kernel
theorem d_Mod_block_423 : decode b_Mod_block 423 = .ok (.aload_n 0, 1) := by decide +kernel
theorem d_Mod_block_424 : decode b_Mod_block 424 = .ok (.getfield 75, 3) := by decide +kernel
theorem d_Mod_block_427 : decode b_Mod_block 427 = .ok (.iload_n 2, 1) := by decide +kernel
theorem d_Mod_block_428 : decode b_Mod_block 428 = .ok (.laload, 1) := by decide +kernel
theorem d_Mod_block_429 : decode b_Mod_block 429 = .ok (.aload_n 0, 1) := by decide +kernel
theorem d_Mod_block_430 : decode b_Mod_block 430 = .ok (.getfield 81, 3) := by decide +kernel
theorem d_Mod_block_433 : decode b_Mod_block 433 = .ok (.iload_n 2, 1) := by decide +kernel
theorem d_Mod_block_434 : decode b_Mod_block 434 = .ok (.laload, 1) := by decide +kernel
theorem d_Mod_block_435 : decode b_Mod_block 435 = .ok (.ladd, 1) := by decide +kernel
theorem d_Mod_block_436 : decode b_Mod_block 436 = .ok (.ldc2_w 92, 3) := by decide +kernel
theorem d_Mod_block_439 : decode b_Mod_block 439 = .ok (.lrem, 1) := by decide +kernel
theorem d_Mod_block_440 : decode b_Mod_block 440 = .ok (.lastore, 1) := by decide +kernel
theorem d_Mod_block_441 : decode b_Mod_block 441 = .ok (.iinc 2 1, 3) := by decide +kernel
theorem d_Mod_block_444 : decode b_Mod_block 444 = .ok (.goto (-32), 3) := by decide +kernel
theorem d_Mod_block_447 : decode b_Mod_block 447 = .ok (.return_, 1) := by decide +kernel
abbrev b_Mod_nameOf : ByteArray := prog_8_method_9_code
def y_Mod_nameOf : MethodName := ⟨R_Mod, "nameOf", "(III)V"⟩
theorem d_Mod_nameOf_0 : decode b_Mod_nameOf 0 = .ok (.iload_n 1, 1) := by decide +kernel
theorem d_Mod_nameOf_1 : decode b_Mod_nameOf 1 = .ok (.istore 4, 2) := by decide +kernel
theorem d_Mod_nameOf_3 : decode b_Mod_nameOf 3 = .ok (.iload 4, 2) := by decide +kernel
theorem d_Mod_nameOf_5 : decode b_Mod_nameOf 5 = .ok (.iload_n 2, 1) := by decide +kernel
theorem d_Mod_nameOf_6 : decode b_Mod_nameOf 6 = .ok (.if_icmp .ge 25, 3) := by decide +kernel
theorem d_Mod_nameOf_9 : decode b_Mod_nameOf 9 = .ok (.aload_n 0, 1) := by decide +kernel
theorem d_Mod_nameOf_10 : decode b_Mod_nameOf 10 = .ok (.getfield 59, 3) := by decide +kernel
theorem d_Mod_nameOf_13 : decode b_Mod_nameOf 13 = .ok (.iload 4, 2) := by decide +kernel
theorem d_Mod_nameOf_15 : decode b_Mod_nameOf 15 = .ok (.iload_n 1, 1) := by decide +kernel
theorem d_Mod_nameOf_16 : decode b_Mod_nameOf 16 = .ok (.isub, 1) := by decide +kernel
theorem d_Mod_nameOf_17 : decode b_Mod_nameOf 17 = .ok (.aload_n 0, 1) := by decide +kernel
theorem d_Mod_nameOf_18 : decode b_Mod_nameOf 18 = .ok (.getfield 13, 3) := by decide +kernel
theorem d_Mod_nameOf_21 : decode b_Mod_nameOf 21 = .ok (.iload 4, 2) := by decide +kernel
theorem d_Mod_nameOf_23 : decode b_Mod_nameOf 23 = .ok (.iaload, 1) := by decide +kernel
theorem d_Mod_nameOf_24 : decode b_Mod_nameOf 24 = .ok (.iastore, 1) := by decide +kernel
theorem d_Mod_nameOf_25 : decode b_Mod_nameOf 25 = .ok (.iinc 4 1, 3) := by decide +kernel
theorem d_Mod_nameOf_28 : decode b_Mod_nameOf 28 = .ok (.goto (-25), 3) := by decide +kernel
theorem d_Mod_nameOf_31 : decode b_Mod_nameOf 31 = .ok (.aload_n 0, 1) := by decide +kernel
theorem d_Mod_nameOf_32 : decode b_Mod_nameOf 32 = .ok (.iload_n 2, 1) := by decide +kernel
theorem d_Mod_nameOf_33 : decode b_Mod_nameOf 33 = .ok (.iload_n 1, 1) := by decide +kernel
theorem d_Mod_nameOf_34 : decode b_Mod_nameOf 34 = .ok (.isub, 1) := by decide +kernel
theorem d_Mod_nameOf_35 : decode b_Mod_nameOf 35 = .ok (.invokevirtual 124, 3) := by decide +kernel
theorem d_Mod_nameOf_38 : decode b_Mod_nameOf 38 = .ok (.iconst 0, 1) := by decide +kernel
theorem d_Mod_nameOf_39 : decode b_Mod_nameOf 39 = .ok (.istore 4, 2) := by decide +kernel
theorem d_Mod_nameOf_41 : decode b_Mod_nameOf 41 = .ok (.iload 4, 2) := by decide +kernel
theorem d_Mod_nameOf_43 : decode b_Mod_nameOf 43 = .ok (.bipush 32, 2) := by decide +kernel
theorem d_Mod_nameOf_45 : decode b_Mod_nameOf 45 = .ok (.if_icmp .ge 28, 3) := by decide +kernel
theorem d_Mod_nameOf_48 : decode b_Mod_nameOf 48 = .ok (.aload_n 0, 1) := by decide +kernel
theorem d_Mod_nameOf_49 : decode b_Mod_nameOf 49 = .ok (.getfield 50, 3) := by decide +kernel
theorem d_Mod_nameOf_52 : decode b_Mod_nameOf 52 = .ok (.bipush 32, 2) := by decide +kernel
theorem d_Mod_nameOf_54 : decode b_Mod_nameOf 54 = .ok (.iload_n 3, 1) := by decide +kernel
theorem d_Mod_nameOf_55 : decode b_Mod_nameOf 55 = .ok (.imul, 1) := by decide +kernel
theorem d_Mod_nameOf_56 : decode b_Mod_nameOf 56 = .ok (.iload 4, 2) := by decide +kernel
theorem d_Mod_nameOf_58 : decode b_Mod_nameOf 58 = .ok (.iadd, 1) := by decide +kernel
theorem d_Mod_nameOf_59 : decode b_Mod_nameOf 59 = .ok (.aload_n 0, 1) := by decide +kernel
theorem d_Mod_nameOf_60 : decode b_Mod_nameOf 60 = .ok (.getfield 62, 3) := by decide +kernel
theorem d_Mod_nameOf_63 : decode b_Mod_nameOf 63 = .ok (.iload 4, 2) := by decide +kernel
theorem d_Mod_nameOf_65 : decode b_Mod_nameOf 65 = .ok (.iaload, 1) := by decide +kernel
theorem d_Mod_nameOf_66 : decode b_Mod_nameOf 66 = .ok (.iastore, 1) := by decide +kernel
theorem d_Mod_nameOf_67 : decode b_Mod_nameOf 67 = .ok (.iinc 4 1, 3) := by decide +kernel
theorem d_Mod_nameOf_70 : decode b_Mod_nameOf 70 = .ok (.goto (-29), 3) := by decide +kernel
theorem d_Mod_nameOf_73 : decode b_Mod_nameOf 73 = .ok (.return_, 1) := by decide +kernel
abbrev b_Mod_twice : ByteArray := prog_8_method_10_code
def y_Mod_twice : MethodName := ⟨R_Mod, "twice", "(I)V"⟩
theorem d_Mod_twice_0 : decode b_Mod_twice 0 = .ok (.aload_n 0, 1) := by decide +kernel
theorem d_Mod_twice_1 : decode b_Mod_twice 1 = .ok (.iload_n 1, 1) := by decide +kernel
theorem d_Mod_twice_2 : decode b_Mod_twice 2 = .ok (.invokevirtual 127, 3) := by decide +kernel
theorem d_Mod_twice_5 : decode b_Mod_twice 5 = .ok (.iconst 0, 1) := by decide +kernel
theorem d_Mod_twice_6 : decode b_Mod_twice 6 = .ok (.istore_n 2, 1) := by decide +kernel
theorem d_Mod_twice_7 : decode b_Mod_twice 7 = .ok (.iload_n 2, 1) := by decide +kernel
theorem d_Mod_twice_8 : decode b_Mod_twice 8 = .ok (.bipush 32, 2) := by decide +kernel
theorem d_Mod_twice_10 : decode b_Mod_twice 10 = .ok (.if_icmp .ge 21, 3) := by decide +kernel
theorem d_Mod_twice_13 : decode b_Mod_twice 13 = .ok (.aload_n 0, 1) := by decide +kernel
theorem d_Mod_twice_14 : decode b_Mod_twice 14 = .ok (.getfield 59, 3) := by decide +kernel
theorem d_Mod_twice_17 : decode b_Mod_twice 17 = .ok (.iload_n 2, 1) := by decide +kernel
theorem d_Mod_twice_18 : decode b_Mod_twice 18 = .ok (.aload_n 0, 1) := by decide +kernel
theorem d_Mod_twice_19 : decode b_Mod_twice 19 = .ok (.getfield 62, 3) := by decide +kernel
theorem d_Mod_twice_22 : decode b_Mod_twice 22 = .ok (.iload_n 2, 1) := by decide +kernel
theorem d_Mod_twice_23 : decode b_Mod_twice 23 = .ok (.iaload, 1) := by decide +kernel
theorem d_Mod_twice_24 : decode b_Mod_twice 24 = .ok (.iastore, 1) := by decide +kernel
theorem d_Mod_twice_25 : decode b_Mod_twice 25 = .ok (.iinc 2 1, 3) := by decide +kernel
theorem d_Mod_twice_28 : decode b_Mod_twice 28 = .ok (.goto (-21), 3) := by decide +kernel
theorem d_Mod_twice_31 : decode b_Mod_twice 31 = .ok (.aload_n 0, 1) := by decide +kernel
theorem d_Mod_twice_32 : decode b_Mod_twice 32 = .ok (.bipush 32, 2) := by decide +kernel
theorem d_Mod_twice_34 : decode b_Mod_twice 34 = .ok (.invokevirtual 127, 3) := by decide +kernel
theorem d_Mod_twice_37 : decode b_Mod_twice 37 = .ok (.return_, 1) := by decide +kernel
abbrev b_Mod_join : ByteArray := prog_8_method_11_code
def y_Mod_join : MethodName := ⟨R_Mod, "join", "()V"⟩
theorem d_Mod_join_0 : decode b_Mod_join 0 = .ok (.aload_n 0, 1) := by decide +kernel
theorem d_Mod_join_1 : decode b_Mod_join 1 = .ok (.getfield 130, 3) := by decide +kernel
theorem d_Mod_join_4 : decode b_Mod_join 4 = .ok (.istore_n 1, 1) := by decide +kernel
theorem d_Mod_join_5 : decode b_Mod_join 5 = .ok (.aload_n 0, 1) := by decide +kernel
theorem d_Mod_join_6 : decode b_Mod_join 6 = .ok (.iconst 0, 1) := by decide +kernel
theorem d_Mod_join_7 : decode b_Mod_join 7 = .ok (.putfield 133, 3) := by decide +kernel
theorem d_Mod_join_10 : decode b_Mod_join 10 = .ok (.iconst 0, 1) := by decide +kernel
theorem d_Mod_join_11 : decode b_Mod_join 11 = .ok (.istore_n 2, 1) := by decide +kernel
theorem d_Mod_join_12 : decode b_Mod_join 12 = .ok (.iload_n 2, 1) := by decide +kernel
theorem d_Mod_join_13 : decode b_Mod_join 13 = .ok (.bipush 32, 2) := by decide +kernel
theorem d_Mod_join_15 : decode b_Mod_join 15 = .ok (.iload_n 1, 1) := by decide +kernel
theorem d_Mod_join_16 : decode b_Mod_join 16 = .ok (.imul, 1) := by decide +kernel
theorem d_Mod_join_17 : decode b_Mod_join 17 = .ok (.if_icmp .ge 21, 3) := by decide +kernel
theorem d_Mod_join_20 : decode b_Mod_join 20 = .ok (.aload_n 0, 1) := by decide +kernel
theorem d_Mod_join_21 : decode b_Mod_join 21 = .ok (.getfield 53, 3) := by decide +kernel
theorem d_Mod_join_24 : decode b_Mod_join 24 = .ok (.iload_n 2, 1) := by decide +kernel
theorem d_Mod_join_25 : decode b_Mod_join 25 = .ok (.aload_n 0, 1) := by decide +kernel
theorem d_Mod_join_26 : decode b_Mod_join 26 = .ok (.getfield 50, 3) := by decide +kernel
theorem d_Mod_join_29 : decode b_Mod_join 29 = .ok (.iload_n 2, 1) := by decide +kernel
theorem d_Mod_join_30 : decode b_Mod_join 30 = .ok (.iaload, 1) := by decide +kernel
theorem d_Mod_join_31 : decode b_Mod_join 31 = .ok (.iastore, 1) := by decide +kernel
theorem d_Mod_join_32 : decode b_Mod_join 32 = .ok (.iinc 2 1, 3) := by decide +kernel
theorem d_Mod_join_35 : decode b_Mod_join 35 = .ok (.goto (-23), 3) := by decide +kernel
theorem d_Mod_join_38 : decode b_Mod_join 38 = .ok (.iload_n 1, 1) := by decide +kernel
theorem d_Mod_join_39 : decode b_Mod_join 39 = .ok (.iconst 1, 1) := by decide +kernel
theorem d_Mod_join_40 : decode b_Mod_join 40 = .ok (.if_icmp .le 211, 3) := by decide +kernel
theorem d_Mod_join_43 : decode b_Mod_join 43 = .ok (.iconst 0, 1) := by decide +kernel
theorem d_Mod_join_44 : decode b_Mod_join 44 = .ok (.istore_n 2, 1) := by decide +kernel
theorem d_Mod_join_45 : decode b_Mod_join 45 = .ok (.iload_n 2, 1) := by decide +kernel
theorem d_Mod_join_46 : decode b_Mod_join 46 = .ok (.iload_n 1, 1) := by decide +kernel
theorem d_Mod_join_47 : decode b_Mod_join 47 = .ok (.if_icmp .ge 195, 3) := by decide +kernel
theorem d_Mod_join_50 : decode b_Mod_join 50 = .ok (.iload_n 2, 1) := by decide +kernel
theorem d_Mod_join_51 : decode b_Mod_join 51 = .ok (.iconst 1, 1) := by decide +kernel
theorem d_Mod_join_52 : decode b_Mod_join 52 = .ok (.iadd, 1) := by decide +kernel
theorem d_Mod_join_53 : decode b_Mod_join 53 = .ok (.iload_n 1, 1) := by decide +kernel
theorem d_Mod_join_54 : decode b_Mod_join 54 = .ok (.if_icmp .ge 9, 3) := by decide +kernel
theorem d_Mod_join_57 : decode b_Mod_join 57 = .ok (.iload_n 2, 1) := by decide +kernel
theorem d_Mod_join_58 : decode b_Mod_join 58 = .ok (.iconst 1, 1) := by decide +kernel
theorem d_Mod_join_59 : decode b_Mod_join 59 = .ok (.iadd, 1) := by decide +kernel
theorem d_Mod_join_60 : decode b_Mod_join 60 = .ok (.goto 4, 3) := by decide +kernel
theorem d_Mod_join_63 : decode b_Mod_join 63 = .ok (.iload_n 2, 1) := by decide +kernel
theorem d_Mod_join_64 : decode b_Mod_join 64 = .ok (.istore_n 3, 1) := by decide +kernel
theorem d_Mod_join_65 : decode b_Mod_join 65 = .ok (.iload_n 3, 1) := by decide +kernel
theorem d_Mod_join_66 : decode b_Mod_join 66 = .ok (.iload_n 2, 1) := by decide +kernel
theorem d_Mod_join_67 : decode b_Mod_join 67 = .ok (.if_icmp .le 7, 3) := by decide +kernel
theorem d_Mod_join_70 : decode b_Mod_join 70 = .ok (.iconst 1, 1) := by decide +kernel
theorem d_Mod_join_71 : decode b_Mod_join 71 = .ok (.goto 4, 3) := by decide +kernel
theorem d_Mod_join_74 : decode b_Mod_join 74 = .ok (.iconst 0, 1) := by decide +kernel
theorem d_Mod_join_75 : decode b_Mod_join 75 = .ok (.istore 4, 2) := by decide +kernel
theorem d_Mod_join_77 : decode b_Mod_join 77 = .ok (.iconst 0, 1) := by decide +kernel
theorem d_Mod_join_78 : decode b_Mod_join 78 = .ok (.istore 5, 2) := by decide +kernel
theorem d_Mod_join_80 : decode b_Mod_join 80 = .ok (.iload 5, 2) := by decide +kernel
theorem d_Mod_join_82 : decode b_Mod_join 82 = .ok (.bipush 32, 2) := by decide +kernel
theorem d_Mod_join_84 : decode b_Mod_join 84 = .ok (.if_icmp .ge 89, 3) := by decide +kernel
theorem d_Mod_join_87 : decode b_Mod_join 87 = .ok (.iload 4, 2) := by decide +kernel
theorem d_Mod_join_89 : decode b_Mod_join 89 = .ok (.ifCond .eq 34, 3) := by decide +kernel
theorem d_Mod_join_92 : decode b_Mod_join 92 = .ok (.aload_n 0, 1) := by decide +kernel
theorem d_Mod_join_93 : decode b_Mod_join 93 = .ok (.getfield 53, 3) := by decide +kernel
theorem d_Mod_join_96 : decode b_Mod_join 96 = .ok (.bipush 32, 2) := by decide +kernel
theorem d_Mod_join_98 : decode b_Mod_join 98 = .ok (.iload_n 2, 1) := by decide +kernel
theorem d_Mod_join_99 : decode b_Mod_join 99 = .ok (.imul, 1) := by decide +kernel
theorem d_Mod_join_100 : decode b_Mod_join 100 = .ok (.iload 5, 2) := by decide +kernel
theorem d_Mod_join_102 : decode b_Mod_join 102 = .ok (.iadd, 1) := by decide +kernel
theorem d_Mod_join_103 : decode b_Mod_join 103 = .ok (.iaload, 1) := by decide +kernel
theorem d_Mod_join_104 : decode b_Mod_join 104 = .ok (.aload_n 0, 1) := by decide +kernel
theorem d_Mod_join_105 : decode b_Mod_join 105 = .ok (.getfield 53, 3) := by decide +kernel
theorem d_Mod_join_108 : decode b_Mod_join 108 = .ok (.bipush 32, 2) := by decide +kernel
theorem d_Mod_join_110 : decode b_Mod_join 110 = .ok (.iload_n 3, 1) := by decide +kernel
theorem d_Mod_join_111 : decode b_Mod_join 111 = .ok (.imul, 1) := by decide +kernel
theorem d_Mod_join_112 : decode b_Mod_join 112 = .ok (.iload 5, 2) := by decide +kernel
theorem d_Mod_join_114 : decode b_Mod_join 114 = .ok (.iadd, 1) := by decide +kernel
theorem d_Mod_join_115 : decode b_Mod_join 115 = .ok (.iaload, 1) := by decide +kernel
theorem d_Mod_join_116 : decode b_Mod_join 116 = .ok (.if_icmp .ne 7, 3) := by decide +kernel
theorem d_Mod_join_119 : decode b_Mod_join 119 = .ok (.iconst 1, 1) := by decide +kernel
theorem d_Mod_join_120 : decode b_Mod_join 120 = .ok (.goto 4, 3) := by decide +kernel
theorem d_Mod_join_123 : decode b_Mod_join 123 = .ok (.iconst 0, 1) := by decide +kernel
theorem d_Mod_join_124 : decode b_Mod_join 124 = .ok (.istore 4, 2) := by decide +kernel
theorem d_Mod_join_126 : decode b_Mod_join 126 = .ok (.aload_n 0, 1) := by decide +kernel
theorem d_Mod_join_127 : decode b_Mod_join 127 = .ok (.getfield 59, 3) := by decide +kernel
theorem d_Mod_join_130 : decode b_Mod_join 130 = .ok (.iload 5, 2) := by decide +kernel
theorem d_Mod_join_132 : decode b_Mod_join 132 = .ok (.aload_n 0, 1) := by decide +kernel
theorem d_Mod_join_133 : decode b_Mod_join 133 = .ok (.getfield 53, 3) := by decide +kernel
theorem d_Mod_join_136 : decode b_Mod_join 136 = .ok (.bipush 32, 2) := by decide +kernel
theorem d_Mod_join_138 : decode b_Mod_join 138 = .ok (.iload_n 2, 1) := by decide +kernel
theorem d_Mod_join_139 : decode b_Mod_join 139 = .ok (.imul, 1) := by decide +kernel
theorem d_Mod_join_140 : decode b_Mod_join 140 = .ok (.iload 5, 2) := by decide +kernel
theorem d_Mod_join_142 : decode b_Mod_join 142 = .ok (.iadd, 1) := by decide +kernel
theorem d_Mod_join_143 : decode b_Mod_join 143 = .ok (.iaload, 1) := by decide +kernel
theorem d_Mod_join_144 : decode b_Mod_join 144 = .ok (.iastore, 1) := by decide +kernel
theorem d_Mod_join_145 : decode b_Mod_join 145 = .ok (.aload_n 0, 1) := by decide +kernel
theorem d_Mod_join_146 : decode b_Mod_join 146 = .ok (.getfield 59, 3) := by decide +kernel
theorem d_Mod_join_149 : decode b_Mod_join 149 = .ok (.bipush 32, 2) := by decide +kernel
theorem d_Mod_join_151 : decode b_Mod_join 151 = .ok (.iload 5, 2) := by decide +kernel
theorem d_Mod_join_153 : decode b_Mod_join 153 = .ok (.iadd, 1) := by decide +kernel
theorem d_Mod_join_154 : decode b_Mod_join 154 = .ok (.aload_n 0, 1) := by decide +kernel
theorem d_Mod_join_155 : decode b_Mod_join 155 = .ok (.getfield 53, 3) := by decide +kernel
theorem d_Mod_join_158 : decode b_Mod_join 158 = .ok (.bipush 32, 2) := by decide +kernel
theorem d_Mod_join_160 : decode b_Mod_join 160 = .ok (.iload_n 3, 1) := by decide +kernel
theorem d_Mod_join_161 : decode b_Mod_join 161 = .ok (.imul, 1) := by decide +kernel
theorem d_Mod_join_162 : decode b_Mod_join 162 = .ok (.iload 5, 2) := by decide +kernel
theorem d_Mod_join_164 : decode b_Mod_join 164 = .ok (.iadd, 1) := by decide +kernel
theorem d_Mod_join_165 : decode b_Mod_join 165 = .ok (.iaload, 1) := by decide +kernel
theorem d_Mod_join_166 : decode b_Mod_join 166 = .ok (.iastore, 1) := by decide +kernel
theorem d_Mod_join_167 : decode b_Mod_join 167 = .ok (.iinc 5 1, 3) := by decide +kernel
theorem d_Mod_join_170 : decode b_Mod_join 170 = .ok (.goto (-90), 3) := by decide +kernel
theorem d_Mod_join_173 : decode b_Mod_join 173 = .ok (.aload_n 0, 1) := by decide +kernel
theorem d_Mod_join_174 : decode b_Mod_join 174 = .ok (.aload_n 0, 1) := by decide +kernel
theorem d_Mod_join_175 : decode b_Mod_join 175 = .ok (.getfield 133, 3) := by decide +kernel
theorem d_Mod_join_178 : decode b_Mod_join 178 = .ok (.ifCond .ne 8, 3) := by decide +kernel
theorem d_Mod_join_181 : decode b_Mod_join 181 = .ok (.iload 4, 2) := by decide +kernel
theorem d_Mod_join_183 : decode b_Mod_join 183 = .ok (.ifCond .eq 7, 3) := by decide +kernel
theorem d_Mod_join_186 : decode b_Mod_join 186 = .ok (.iconst 1, 1) := by decide +kernel
theorem d_Mod_join_187 : decode b_Mod_join 187 = .ok (.goto 4, 3) := by decide +kernel
theorem d_Mod_join_190 : decode b_Mod_join 190 = .ok (.iconst 0, 1) := by decide +kernel
theorem d_Mod_join_191 : decode b_Mod_join 191 = .ok (.putfield 133, 3) := by decide +kernel
theorem d_Mod_join_194 : decode b_Mod_join 194 = .ok (.aload_n 0, 1) := by decide +kernel
theorem d_Mod_join_195 : decode b_Mod_join 195 = .ok (.bipush 64, 2) := by decide +kernel
theorem d_Mod_join_197 : decode b_Mod_join 197 = .ok (.invokevirtual 124, 3) := by decide +kernel
theorem d_Mod_join_200 : decode b_Mod_join 200 = .ok (.iconst 0, 1) := by decide +kernel
theorem d_Mod_join_201 : decode b_Mod_join 201 = .ok (.istore 5, 2) := by decide +kernel
theorem d_Mod_join_203 : decode b_Mod_join 203 = .ok (.iload 5, 2) := by decide +kernel
theorem d_Mod_join_205 : decode b_Mod_join 205 = .ok (.bipush 32, 2) := by decide +kernel
theorem d_Mod_join_207 : decode b_Mod_join 207 = .ok (.if_icmp .ge 28, 3) := by decide +kernel
theorem d_Mod_join_210 : decode b_Mod_join 210 = .ok (.aload_n 0, 1) := by decide +kernel
theorem d_Mod_join_211 : decode b_Mod_join 211 = .ok (.getfield 53, 3) := by decide +kernel
theorem d_Mod_join_214 : decode b_Mod_join 214 = .ok (.bipush 16, 2) := by decide +kernel
theorem d_Mod_join_216 : decode b_Mod_join 216 = .ok (.iload_n 2, 1) := by decide +kernel
theorem d_Mod_join_217 : decode b_Mod_join 217 = .ok (.imul, 1) := by decide +kernel
theorem d_Mod_join_218 : decode b_Mod_join 218 = .ok (.iload 5, 2) := by decide +kernel
theorem d_Mod_join_220 : decode b_Mod_join 220 = .ok (.iadd, 1) := by decide +kernel
theorem d_Mod_join_221 : decode b_Mod_join 221 = .ok (.aload_n 0, 1) := by decide +kernel
theorem d_Mod_join_222 : decode b_Mod_join 222 = .ok (.getfield 62, 3) := by decide +kernel
theorem d_Mod_join_225 : decode b_Mod_join 225 = .ok (.iload 5, 2) := by decide +kernel
theorem d_Mod_join_227 : decode b_Mod_join 227 = .ok (.iaload, 1) := by decide +kernel
theorem d_Mod_join_228 : decode b_Mod_join 228 = .ok (.iastore, 1) := by decide +kernel
theorem d_Mod_join_229 : decode b_Mod_join 229 = .ok (.iinc 5 1, 3) := by decide +kernel
theorem d_Mod_join_232 : decode b_Mod_join 232 = .ok (.goto (-29), 3) := by decide +kernel
theorem d_Mod_join_235 : decode b_Mod_join 235 = .ok (.iload_n 2, 1) := by decide +kernel
theorem d_Mod_join_236 : decode b_Mod_join 236 = .ok (.iconst 2, 1) := by decide +kernel
theorem d_Mod_join_237 : decode b_Mod_join 237 = .ok (.iadd, 1) := by decide +kernel
theorem d_Mod_join_238 : decode b_Mod_join 238 = .ok (.istore_n 2, 1) := by decide +kernel
theorem d_Mod_join_239 : decode b_Mod_join 239 = .ok (.goto (-194), 3) := by decide +kernel
theorem d_Mod_join_242 : decode b_Mod_join 242 = .ok (.iload_n 1, 1) := by decide +kernel
theorem d_Mod_join_243 : decode b_Mod_join 243 = .ok (.iconst 1, 1) := by decide +kernel
theorem d_Mod_join_244 : decode b_Mod_join 244 = .ok (.iadd, 1) := by decide +kernel
theorem d_Mod_join_245 : decode b_Mod_join 245 = .ok (.iconst 2, 1) := by decide +kernel
theorem d_Mod_join_246 : decode b_Mod_join 246 = .ok (.idiv, 1) := by decide +kernel
theorem d_Mod_join_247 : decode b_Mod_join 247 = .ok (.istore_n 1, 1) := by decide +kernel
theorem d_Mod_join_248 : decode b_Mod_join 248 = .ok (.goto (-210), 3) := by decide +kernel
theorem d_Mod_join_251 : decode b_Mod_join 251 = .ok (.iconst 0, 1) := by decide +kernel
theorem d_Mod_join_252 : decode b_Mod_join 252 = .ok (.istore_n 2, 1) := by decide +kernel
theorem d_Mod_join_253 : decode b_Mod_join 253 = .ok (.iload_n 2, 1) := by decide +kernel
theorem d_Mod_join_254 : decode b_Mod_join 254 = .ok (.bipush 32, 2) := by decide +kernel
theorem d_Mod_join_256 : decode b_Mod_join 256 = .ok (.if_icmp .ge 29, 3) := by decide +kernel
theorem d_Mod_join_259 : decode b_Mod_join 259 = .ok (.aload_n 0, 1) := by decide +kernel
theorem d_Mod_join_260 : decode b_Mod_join 260 = .ok (.getfield 56, 3) := by decide +kernel
theorem d_Mod_join_263 : decode b_Mod_join 263 = .ok (.iload_n 2, 1) := by decide +kernel
theorem d_Mod_join_264 : decode b_Mod_join 264 = .ok (.iload_n 1, 1) := by decide +kernel
theorem d_Mod_join_265 : decode b_Mod_join 265 = .ok (.ifCond .ne 7, 3) := by decide +kernel
theorem d_Mod_join_268 : decode b_Mod_join 268 = .ok (.iconst 0, 1) := by decide +kernel
theorem d_Mod_join_269 : decode b_Mod_join 269 = .ok (.goto 9, 3) := by decide +kernel
theorem d_Mod_join_272 : decode b_Mod_join 272 = .ok (.aload_n 0, 1) := by decide +kernel
theorem d_Mod_join_273 : decode b_Mod_join 273 = .ok (.getfield 53, 3) := by decide +kernel
theorem d_Mod_join_276 : decode b_Mod_join 276 = .ok (.iload_n 2, 1) := by decide +kernel
theorem d_Mod_join_277 : decode b_Mod_join 277 = .ok (.iaload, 1) := by decide +kernel
theorem d_Mod_join_278 : decode b_Mod_join 278 = .ok (.iastore, 1) := by decide +kernel
theorem d_Mod_join_279 : decode b_Mod_join 279 = .ok (.iinc 2 1, 3) := by decide +kernel
theorem d_Mod_join_282 : decode b_Mod_join 282 = .ok (.goto (-29), 3) := by decide +kernel
theorem d_Mod_join_285 : decode b_Mod_join 285 = .ok (.return_, 1) := by decide +kernel
abbrev b_Mod_fails : ByteArray := prog_8_method_12_code
def y_Mod_fails : MethodName := ⟨R_Mod, "fails", "(II)V"⟩
theorem d_Mod_fails_0 : decode b_Mod_fails 0 = .ok (.aload_n 0, 1) := by decide +kernel
theorem d_Mod_fails_1 : decode b_Mod_fails 1 = .ok (.getfield 137, 3) := by decide +kernel
theorem d_Mod_fails_4 : decode b_Mod_fails 4 = .ok (.ifCond .le 4, 3) := by decide +kernel
theorem d_Mod_fails_7 : decode b_Mod_fails 7 = .ok (.return_, 1) := by decide +kernel
theorem d_Mod_fails_8 : decode b_Mod_fails 8 = .ok (.aload_n 0, 1) := by decide +kernel
theorem d_Mod_fails_9 : decode b_Mod_fails 9 = .ok (.iload_n 1, 1) := by decide +kernel
theorem d_Mod_fails_10 : decode b_Mod_fails 10 = .ok (.putfield 137, 3) := by decide +kernel
theorem d_Mod_fails_13 : decode b_Mod_fails 13 = .ok (.aload_n 0, 1) := by decide +kernel
theorem d_Mod_fails_14 : decode b_Mod_fails 14 = .ok (.iload_n 2, 1) := by decide +kernel
theorem d_Mod_fails_15 : decode b_Mod_fails 15 = .ok (.putfield 140, 3) := by decide +kernel
theorem d_Mod_fails_18 : decode b_Mod_fails 18 = .ok (.return_, 1) := by decide +kernel
abbrev b_Mod_pass : ByteArray := prog_8_method_13_code
def y_Mod_pass : MethodName := ⟨R_Mod, "pass", "(I)V"⟩
theorem d_Mod_pass_0 : decode b_Mod_pass 0 = .ok (.aload_n 0, 1) := by decide +kernel
theorem d_Mod_pass_1 : decode b_Mod_pass 1 = .ok (.getfield 137, 3) := by decide +kernel
theorem d_Mod_pass_4 : decode b_Mod_pass 4 = .ok (.ifCond .ne 25, 3) := by decide +kernel
theorem d_Mod_pass_7 : decode b_Mod_pass 7 = .ok (.aload_n 0, 1) := by decide +kernel
theorem d_Mod_pass_8 : decode b_Mod_pass 8 = .ok (.getfield 143, 3) := by decide +kernel
theorem d_Mod_pass_11 : decode b_Mod_pass 11 = .ok (.iload_n 1, 1) := by decide +kernel
theorem d_Mod_pass_12 : decode b_Mod_pass 12 = .ok (.iadd, 1) := by decide +kernel
theorem d_Mod_pass_13 : decode b_Mod_pass 13 = .ok (.aload_n 0, 1) := by decide +kernel
theorem d_Mod_pass_14 : decode b_Mod_pass 14 = .ok (.getfield 146, 3) := by decide +kernel
theorem d_Mod_pass_17 : decode b_Mod_pass 17 = .ok (.if_icmp .le 12, 3) := by decide +kernel
theorem d_Mod_pass_20 : decode b_Mod_pass 20 = .ok (.aload_n 0, 1) := by decide +kernel
theorem d_Mod_pass_21 : decode b_Mod_pass 21 = .ok (.iconst 1, 1) := by decide +kernel
theorem d_Mod_pass_22 : decode b_Mod_pass 22 = .ok (.aload_n 0, 1) := by decide +kernel
theorem d_Mod_pass_23 : decode b_Mod_pass 23 = .ok (.getfield 146, 3) := by decide +kernel
theorem d_Mod_pass_26 : decode b_Mod_pass 26 = .ok (.invokevirtual 149, 3) := by decide +kernel
theorem d_Mod_pass_29 : decode b_Mod_pass 29 = .ok (.aload_n 0, 1) := by decide +kernel
theorem d_Mod_pass_30 : decode b_Mod_pass 30 = .ok (.aload_n 0, 1) := by decide +kernel
theorem d_Mod_pass_31 : decode b_Mod_pass 31 = .ok (.getfield 143, 3) := by decide +kernel
theorem d_Mod_pass_34 : decode b_Mod_pass 34 = .ok (.iload_n 1, 1) := by decide +kernel
theorem d_Mod_pass_35 : decode b_Mod_pass 35 = .ok (.iadd, 1) := by decide +kernel
theorem d_Mod_pass_36 : decode b_Mod_pass 36 = .ok (.putfield 143, 3) := by decide +kernel
theorem d_Mod_pass_39 : decode b_Mod_pass 39 = .ok (.return_, 1) := by decide +kernel
abbrev b_Mod_lowAt : ByteArray := prog_8_method_14_code
def y_Mod_lowAt : MethodName := ⟨R_Mod, "lowAt", "(II)J"⟩
theorem d_Mod_lowAt_0 : decode b_Mod_lowAt 0 = .ok (.lconst 0, 1) := by decide +kernel
theorem d_Mod_lowAt_1 : decode b_Mod_lowAt 1 = .ok (.lstore_n 3, 1) := by decide +kernel
theorem d_Mod_lowAt_2 : decode b_Mod_lowAt 2 = .ok (.iload_n 2, 1) := by decide +kernel
theorem d_Mod_lowAt_3 : decode b_Mod_lowAt 3 = .ok (.iconst 1, 1) := by decide +kernel
theorem d_Mod_lowAt_4 : decode b_Mod_lowAt 4 = .ok (.isub, 1) := by decide +kernel
theorem d_Mod_lowAt_5 : decode b_Mod_lowAt 5 = .ok (.istore 5, 2) := by decide +kernel
theorem d_Mod_lowAt_7 : decode b_Mod_lowAt 7 = .ok (.iload 5, 2) := by decide +kernel
theorem d_Mod_lowAt_9 : decode b_Mod_lowAt 9 = .ok (.ifCond .lt 25, 3) := by decide +kernel
theorem d_Mod_lowAt_12 : decode b_Mod_lowAt 12 = .ok (.lload_n 3, 1) := by decide +kernel
theorem d_Mod_lowAt_13 : decode b_Mod_lowAt 13 = .ok (.bipush 8, 2) := by decide +kernel
theorem d_Mod_lowAt_15 : decode b_Mod_lowAt 15 = .ok (.lshl, 1) := by decide +kernel
theorem d_Mod_lowAt_16 : decode b_Mod_lowAt 16 = .ok (.aload_n 0, 1) := by decide +kernel
theorem d_Mod_lowAt_17 : decode b_Mod_lowAt 17 = .ok (.getfield 13, 3) := by decide +kernel
theorem d_Mod_lowAt_20 : decode b_Mod_lowAt 20 = .ok (.iload_n 1, 1) := by decide +kernel
theorem d_Mod_lowAt_21 : decode b_Mod_lowAt 21 = .ok (.iload 5, 2) := by decide +kernel
theorem d_Mod_lowAt_23 : decode b_Mod_lowAt 23 = .ok (.iadd, 1) := by decide +kernel
theorem d_Mod_lowAt_24 : decode b_Mod_lowAt 24 = .ok (.iaload, 1) := by decide +kernel
theorem d_Mod_lowAt_25 : decode b_Mod_lowAt 25 = .ok (.i2l, 1) := by decide +kernel
theorem d_Mod_lowAt_26 : decode b_Mod_lowAt 26 = .ok (.lor, 1) := by decide +kernel
theorem d_Mod_lowAt_27 : decode b_Mod_lowAt 27 = .ok (.lstore_n 3, 1) := by decide +kernel
theorem d_Mod_lowAt_28 : decode b_Mod_lowAt 28 = .ok (.iinc 5 (-1), 3) := by decide +kernel
theorem d_Mod_lowAt_31 : decode b_Mod_lowAt 31 = .ok (.goto (-24), 3) := by decide +kernel
theorem d_Mod_lowAt_34 : decode b_Mod_lowAt 34 = .ok (.lload_n 3, 1) := by decide +kernel
theorem d_Mod_lowAt_35 : decode b_Mod_lowAt 35 = .ok (.lreturn, 1) := by decide +kernel
abbrev b_Mod_sizeOf : ByteArray := prog_8_method_15_code
def y_Mod_sizeOf : MethodName := ⟨R_Mod, "sizeOf", "(I)I"⟩
theorem d_Mod_sizeOf_0 : decode b_Mod_sizeOf 0 = .ok (.aload_n 0, 1) := by decide +kernel
theorem d_Mod_sizeOf_1 : decode b_Mod_sizeOf 1 = .ok (.getfield 143, 3) := by decide +kernel
theorem d_Mod_sizeOf_4 : decode b_Mod_sizeOf 4 = .ok (.istore_n 2, 1) := by decide +kernel
theorem d_Mod_sizeOf_5 : decode b_Mod_sizeOf 5 = .ok (.aload_n 0, 1) := by decide +kernel
theorem d_Mod_sizeOf_6 : decode b_Mod_sizeOf 6 = .ok (.iconst 1, 1) := by decide +kernel
theorem d_Mod_sizeOf_7 : decode b_Mod_sizeOf 7 = .ok (.invokevirtual 153, 3) := by decide +kernel
theorem d_Mod_sizeOf_10 : decode b_Mod_sizeOf 10 = .ok (.aload_n 0, 1) := by decide +kernel
theorem d_Mod_sizeOf_11 : decode b_Mod_sizeOf 11 = .ok (.getfield 137, 3) := by decide +kernel
theorem d_Mod_sizeOf_14 : decode b_Mod_sizeOf 14 = .ok (.ifCond .le 5, 3) := by decide +kernel
theorem d_Mod_sizeOf_17 : decode b_Mod_sizeOf 17 = .ok (.iconst 0, 1) := by decide +kernel
theorem d_Mod_sizeOf_18 : decode b_Mod_sizeOf 18 = .ok (.ireturn, 1) := by decide +kernel
theorem d_Mod_sizeOf_19 : decode b_Mod_sizeOf 19 = .ok (.aload_n 0, 1) := by decide +kernel
theorem d_Mod_sizeOf_20 : decode b_Mod_sizeOf 20 = .ok (.getfield 13, 3) := by decide +kernel
theorem d_Mod_sizeOf_23 : decode b_Mod_sizeOf 23 = .ok (.iload_n 2, 1) := by decide +kernel
theorem d_Mod_sizeOf_24 : decode b_Mod_sizeOf 24 = .ok (.iaload, 1) := by decide +kernel
theorem d_Mod_sizeOf_25 : decode b_Mod_sizeOf 25 = .ok (.istore_n 3, 1) := by decide +kernel
theorem d_Mod_sizeOf_26 : decode b_Mod_sizeOf 26 = .ok (.iload_n 3, 1) := by decide +kernel
theorem d_Mod_sizeOf_27 : decode b_Mod_sizeOf 27 = .ok (.sipush 253, 3) := by decide +kernel
theorem d_Mod_sizeOf_30 : decode b_Mod_sizeOf 30 = .ok (.if_icmp .ge 27, 3) := by decide +kernel
theorem d_Mod_sizeOf_33 : decode b_Mod_sizeOf 33 = .ok (.iload_n 3, 1) := by decide +kernel
theorem d_Mod_sizeOf_34 : decode b_Mod_sizeOf 34 = .ok (.iload_n 1, 1) := by decide +kernel
theorem d_Mod_sizeOf_35 : decode b_Mod_sizeOf 35 = .ok (.if_icmp .le 9, 3) := by decide +kernel
theorem d_Mod_sizeOf_38 : decode b_Mod_sizeOf 38 = .ok (.aload_n 0, 1) := by decide +kernel
theorem d_Mod_sizeOf_39 : decode b_Mod_sizeOf 39 = .ok (.iconst 3, 1) := by decide +kernel
theorem d_Mod_sizeOf_40 : decode b_Mod_sizeOf 40 = .ok (.iload_n 2, 1) := by decide +kernel
theorem d_Mod_sizeOf_41 : decode b_Mod_sizeOf 41 = .ok (.invokevirtual 149, 3) := by decide +kernel
theorem d_Mod_sizeOf_44 : decode b_Mod_sizeOf 44 = .ok (.aload_n 0, 1) := by decide +kernel
theorem d_Mod_sizeOf_45 : decode b_Mod_sizeOf 45 = .ok (.getfield 137, 3) := by decide +kernel
theorem d_Mod_sizeOf_48 : decode b_Mod_sizeOf 48 = .ok (.ifCond .le 7, 3) := by decide +kernel
theorem d_Mod_sizeOf_51 : decode b_Mod_sizeOf 51 = .ok (.iconst 0, 1) := by decide +kernel
theorem d_Mod_sizeOf_52 : decode b_Mod_sizeOf 52 = .ok (.goto 4, 3) := by decide +kernel
theorem d_Mod_sizeOf_55 : decode b_Mod_sizeOf 55 = .ok (.iload_n 3, 1) := by decide +kernel
theorem d_Mod_sizeOf_56 : decode b_Mod_sizeOf 56 = .ok (.ireturn, 1) := by decide +kernel
theorem d_Mod_sizeOf_57 : decode b_Mod_sizeOf 57 = .ok (.iload_n 3, 1) := by decide +kernel
theorem d_Mod_sizeOf_58 : decode b_Mod_sizeOf 58 = .ok (.sipush 253, 3) := by decide +kernel
theorem d_Mod_sizeOf_61 : decode b_Mod_sizeOf 61 = .ok (.if_icmp .ne 7, 3) := by decide +kernel
theorem d_Mod_sizeOf_64 : decode b_Mod_sizeOf 64 = .ok (.iconst 2, 1) := by decide +kernel
theorem d_Mod_sizeOf_65 : decode b_Mod_sizeOf 65 = .ok (.goto 16, 3) := by decide +kernel
theorem d_Mod_sizeOf_68 : decode b_Mod_sizeOf 68 = .ok (.iload_n 3, 1) := by decide +kernel
theorem d_Mod_sizeOf_69 : decode b_Mod_sizeOf 69 = .ok (.sipush 254, 3) := by decide +kernel
theorem d_Mod_sizeOf_72 : decode b_Mod_sizeOf 72 = .ok (.if_icmp .ne 7, 3) := by decide +kernel
theorem d_Mod_sizeOf_75 : decode b_Mod_sizeOf 75 = .ok (.iconst 4, 1) := by decide +kernel
theorem d_Mod_sizeOf_76 : decode b_Mod_sizeOf 76 = .ok (.goto 5, 3) := by decide +kernel
theorem d_Mod_sizeOf_79 : decode b_Mod_sizeOf 79 = .ok (.bipush 8, 2) := by decide +kernel
theorem d_Mod_sizeOf_81 : decode b_Mod_sizeOf 81 = .ok (.istore 4, 2) := by decide +kernel
theorem d_Mod_sizeOf_83 : decode b_Mod_sizeOf 83 = .ok (.aload_n 0, 1) := by decide +kernel
theorem d_Mod_sizeOf_84 : decode b_Mod_sizeOf 84 = .ok (.iload 4, 2) := by decide +kernel
theorem d_Mod_sizeOf_86 : decode b_Mod_sizeOf 86 = .ok (.invokevirtual 153, 3) := by decide +kernel
theorem d_Mod_sizeOf_89 : decode b_Mod_sizeOf 89 = .ok (.aload_n 0, 1) := by decide +kernel
theorem d_Mod_sizeOf_90 : decode b_Mod_sizeOf 90 = .ok (.getfield 137, 3) := by decide +kernel
theorem d_Mod_sizeOf_93 : decode b_Mod_sizeOf 93 = .ok (.ifCond .le 5, 3) := by decide +kernel
theorem d_Mod_sizeOf_96 : decode b_Mod_sizeOf 96 = .ok (.iconst 0, 1) := by decide +kernel
theorem d_Mod_sizeOf_97 : decode b_Mod_sizeOf 97 = .ok (.ireturn, 1) := by decide +kernel
theorem d_Mod_sizeOf_98 : decode b_Mod_sizeOf 98 = .ok (.aload_n 0, 1) := by decide +kernel
theorem d_Mod_sizeOf_99 : decode b_Mod_sizeOf 99 = .ok (.iload_n 2, 1) := by decide +kernel
theorem d_Mod_sizeOf_100 : decode b_Mod_sizeOf 100 = .ok (.iconst 1, 1) := by decide +kernel
theorem d_Mod_sizeOf_101 : decode b_Mod_sizeOf 101 = .ok (.iadd, 1) := by decide +kernel
theorem d_Mod_sizeOf_102 : decode b_Mod_sizeOf 102 = .ok (.iload 4, 2) := by decide +kernel
theorem d_Mod_sizeOf_104 : decode b_Mod_sizeOf 104 = .ok (.invokevirtual 156, 3) := by decide +kernel
theorem d_Mod_sizeOf_107 : decode b_Mod_sizeOf 107 = .ok (.lstore 5, 2) := by decide +kernel
theorem d_Mod_sizeOf_109 : decode b_Mod_sizeOf 109 = .ok (.iload 4, 2) := by decide +kernel
theorem d_Mod_sizeOf_111 : decode b_Mod_sizeOf 111 = .ok (.iconst 2, 1) := by decide +kernel
theorem d_Mod_sizeOf_112 : decode b_Mod_sizeOf 112 = .ok (.if_icmp .ne 20, 3) := by decide +kernel
theorem d_Mod_sizeOf_115 : decode b_Mod_sizeOf 115 = .ok (.lload 5, 2) := by decide +kernel
theorem d_Mod_sizeOf_117 : decode b_Mod_sizeOf 117 = .ok (.ldc2_w 159, 3) := by decide +kernel
theorem d_Mod_sizeOf_120 : decode b_Mod_sizeOf 120 = .ok (.lcmp, 1) := by decide +kernel
theorem d_Mod_sizeOf_121 : decode b_Mod_sizeOf 121 = .ok (.ifCond .ge 7, 3) := by decide +kernel
theorem d_Mod_sizeOf_124 : decode b_Mod_sizeOf 124 = .ok (.iconst 1, 1) := by decide +kernel
theorem d_Mod_sizeOf_125 : decode b_Mod_sizeOf 125 = .ok (.goto 51, 3) := by decide +kernel
theorem d_Mod_sizeOf_128 : decode b_Mod_sizeOf 128 = .ok (.iconst 0, 1) := by decide +kernel
theorem d_Mod_sizeOf_129 : decode b_Mod_sizeOf 129 = .ok (.goto 47, 3) := by decide +kernel
theorem d_Mod_sizeOf_132 : decode b_Mod_sizeOf 132 = .ok (.iload 4, 2) := by decide +kernel
theorem d_Mod_sizeOf_134 : decode b_Mod_sizeOf 134 = .ok (.iconst 4, 1) := by decide +kernel
theorem d_Mod_sizeOf_135 : decode b_Mod_sizeOf 135 = .ok (.if_icmp .ne 20, 3) := by decide +kernel
theorem d_Mod_sizeOf_138 : decode b_Mod_sizeOf 138 = .ok (.lload 5, 2) := by decide +kernel
theorem d_Mod_sizeOf_140 : decode b_Mod_sizeOf 140 = .ok (.ldc2_w 100, 3) := by decide +kernel
theorem d_Mod_sizeOf_143 : decode b_Mod_sizeOf 143 = .ok (.lcmp, 1) := by decide +kernel
theorem d_Mod_sizeOf_144 : decode b_Mod_sizeOf 144 = .ok (.ifCond .ge 7, 3) := by decide +kernel
theorem d_Mod_sizeOf_147 : decode b_Mod_sizeOf 147 = .ok (.iconst 1, 1) := by decide +kernel
theorem d_Mod_sizeOf_148 : decode b_Mod_sizeOf 148 = .ok (.goto 28, 3) := by decide +kernel
theorem d_Mod_sizeOf_151 : decode b_Mod_sizeOf 151 = .ok (.iconst 0, 1) := by decide +kernel
theorem d_Mod_sizeOf_152 : decode b_Mod_sizeOf 152 = .ok (.goto 24, 3) := by decide +kernel
theorem d_Mod_sizeOf_155 : decode b_Mod_sizeOf 155 = .ok (.lload 5, 2) := by decide +kernel
theorem d_Mod_sizeOf_157 : decode b_Mod_sizeOf 157 = .ok (.lconst 0, 1) := by decide +kernel
theorem d_Mod_sizeOf_158 : decode b_Mod_sizeOf 158 = .ok (.lcmp, 1) := by decide +kernel
theorem d_Mod_sizeOf_159 : decode b_Mod_sizeOf 159 = .ok (.ifCond .lt 16, 3) := by decide +kernel
theorem d_Mod_sizeOf_162 : decode b_Mod_sizeOf 162 = .ok (.lload 5, 2) := by decide +kernel
theorem d_Mod_sizeOf_164 : decode b_Mod_sizeOf 164 = .ok (.ldc2_w 92, 3) := by decide +kernel
theorem d_Mod_sizeOf_167 : decode b_Mod_sizeOf 167 = .ok (.lcmp, 1) := by decide +kernel
theorem d_Mod_sizeOf_168 : decode b_Mod_sizeOf 168 = .ok (.ifCond .ge 7, 3) := by decide +kernel
theorem d_Mod_sizeOf_171 : decode b_Mod_sizeOf 171 = .ok (.iconst 1, 1) := by decide +kernel
theorem d_Mod_sizeOf_172 : decode b_Mod_sizeOf 172 = .ok (.goto 4, 3) := by decide +kernel
theorem d_Mod_sizeOf_175 : decode b_Mod_sizeOf 175 = .ok (.iconst 0, 1) := by decide +kernel
theorem d_Mod_sizeOf_176 : decode b_Mod_sizeOf 176 = .ok (.istore 7, 2) := by decide +kernel
theorem d_Mod_sizeOf_178 : decode b_Mod_sizeOf 178 = .ok (.iload 7, 2) := by decide +kernel
theorem d_Mod_sizeOf_180 : decode b_Mod_sizeOf 180 = .ok (.ifCond .eq 9, 3) := by decide +kernel
theorem d_Mod_sizeOf_183 : decode b_Mod_sizeOf 183 = .ok (.aload_n 0, 1) := by decide +kernel
theorem d_Mod_sizeOf_184 : decode b_Mod_sizeOf 184 = .ok (.iconst 2, 1) := by decide +kernel
theorem d_Mod_sizeOf_185 : decode b_Mod_sizeOf 185 = .ok (.iload_n 2, 1) := by decide +kernel
theorem d_Mod_sizeOf_186 : decode b_Mod_sizeOf 186 = .ok (.invokevirtual 149, 3) := by decide +kernel
theorem d_Mod_sizeOf_189 : decode b_Mod_sizeOf 189 = .ok (.lload 5, 2) := by decide +kernel
theorem d_Mod_sizeOf_191 : decode b_Mod_sizeOf 191 = .ok (.lconst 0, 1) := by decide +kernel
theorem d_Mod_sizeOf_192 : decode b_Mod_sizeOf 192 = .ok (.lcmp, 1) := by decide +kernel
theorem d_Mod_sizeOf_193 : decode b_Mod_sizeOf 193 = .ok (.ifCond .lt 11, 3) := by decide +kernel
theorem d_Mod_sizeOf_196 : decode b_Mod_sizeOf 196 = .ok (.lload 5, 2) := by decide +kernel
theorem d_Mod_sizeOf_198 : decode b_Mod_sizeOf 198 = .ok (.iload_n 1, 1) := by decide +kernel
theorem d_Mod_sizeOf_199 : decode b_Mod_sizeOf 199 = .ok (.i2l, 1) := by decide +kernel
theorem d_Mod_sizeOf_200 : decode b_Mod_sizeOf 200 = .ok (.lcmp, 1) := by decide +kernel
theorem d_Mod_sizeOf_201 : decode b_Mod_sizeOf 201 = .ok (.ifCond .le 9, 3) := by decide +kernel
theorem d_Mod_sizeOf_204 : decode b_Mod_sizeOf 204 = .ok (.aload_n 0, 1) := by decide +kernel
theorem d_Mod_sizeOf_205 : decode b_Mod_sizeOf 205 = .ok (.iconst 3, 1) := by decide +kernel
theorem d_Mod_sizeOf_206 : decode b_Mod_sizeOf 206 = .ok (.iload_n 2, 1) := by decide +kernel
theorem d_Mod_sizeOf_207 : decode b_Mod_sizeOf 207 = .ok (.invokevirtual 149, 3) := by decide +kernel
theorem d_Mod_sizeOf_210 : decode b_Mod_sizeOf 210 = .ok (.aload_n 0, 1) := by decide +kernel
theorem d_Mod_sizeOf_211 : decode b_Mod_sizeOf 211 = .ok (.getfield 137, 3) := by decide +kernel
theorem d_Mod_sizeOf_214 : decode b_Mod_sizeOf 214 = .ok (.ifCond .le 7, 3) := by decide +kernel
theorem d_Mod_sizeOf_217 : decode b_Mod_sizeOf 217 = .ok (.iconst 0, 1) := by decide +kernel
theorem d_Mod_sizeOf_218 : decode b_Mod_sizeOf 218 = .ok (.goto 6, 3) := by decide +kernel
theorem d_Mod_sizeOf_221 : decode b_Mod_sizeOf 221 = .ok (.lload 5, 2) := by decide +kernel
theorem d_Mod_sizeOf_223 : decode b_Mod_sizeOf 223 = .ok (.l2i, 1) := by decide +kernel
theorem d_Mod_sizeOf_224 : decode b_Mod_sizeOf 224 = .ok (.ireturn, 1) := by decide +kernel
end
section
abbrev b_Mod_transaction : ByteArray := prog_8_method_16_code
def y_Mod_transaction : MethodName := ⟨R_Mod, "transaction", "(I)V"⟩
theorem d_Mod_transaction_0 : decode b_Mod_transaction 0 = .ok (.aload_n 0, 1) := by decide +kernel
theorem d_Mod_transaction_1 : decode b_Mod_transaction 1 = .ok (.getfield 20, 3) := by decide +kernel
theorem d_Mod_transaction_4 : decode b_Mod_transaction 4 = .ok (.iload_n 1, 1) := by decide +kernel
theorem d_Mod_transaction_5 : decode b_Mod_transaction 5 = .ok (.aload_n 0, 1) := by decide +kernel
theorem d_Mod_transaction_6 : decode b_Mod_transaction 6 = .ok (.getfield 143, 3) := by decide +kernel
theorem d_Mod_transaction_9 : decode b_Mod_transaction 9 = .ok (.iastore, 1) := by decide +kernel
theorem d_Mod_transaction_10 : decode b_Mod_transaction 10 = .ok (.aload_n 0, 1) := by decide +kernel
theorem d_Mod_transaction_11 : decode b_Mod_transaction 11 = .ok (.iconst 4, 1) := by decide +kernel
theorem d_Mod_transaction_12 : decode b_Mod_transaction 12 = .ok (.invokevirtual 153, 3) := by decide +kernel
theorem d_Mod_transaction_15 : decode b_Mod_transaction 15 = .ok (.aload_n 0, 1) := by decide +kernel
theorem d_Mod_transaction_16 : decode b_Mod_transaction 16 = .ok (.getfield 26, 3) := by decide +kernel
theorem d_Mod_transaction_19 : decode b_Mod_transaction 19 = .ok (.iload_n 1, 1) := by decide +kernel
theorem d_Mod_transaction_20 : decode b_Mod_transaction 20 = .ok (.aload_n 0, 1) := by decide +kernel
theorem d_Mod_transaction_21 : decode b_Mod_transaction 21 = .ok (.bipush 8, 2) := by decide +kernel
theorem d_Mod_transaction_23 : decode b_Mod_transaction 23 = .ok (.invokevirtual 161, 3) := by decide +kernel
theorem d_Mod_transaction_26 : decode b_Mod_transaction 26 = .ok (.iastore, 1) := by decide +kernel
theorem d_Mod_transaction_27 : decode b_Mod_transaction 27 = .ok (.bipush 8, 2) := by decide +kernel
theorem d_Mod_transaction_29 : decode b_Mod_transaction 29 = .ok (.iload_n 1, 1) := by decide +kernel
theorem d_Mod_transaction_30 : decode b_Mod_transaction 30 = .ok (.imul, 1) := by decide +kernel
theorem d_Mod_transaction_31 : decode b_Mod_transaction 31 = .ok (.istore_n 2, 1) := by decide +kernel
theorem d_Mod_transaction_32 : decode b_Mod_transaction 32 = .ok (.iload_n 2, 1) := by decide +kernel
theorem d_Mod_transaction_33 : decode b_Mod_transaction 33 = .ok (.bipush 8, 2) := by decide +kernel
theorem d_Mod_transaction_35 : decode b_Mod_transaction 35 = .ok (.iload_n 1, 1) := by decide +kernel
theorem d_Mod_transaction_36 : decode b_Mod_transaction 36 = .ok (.imul, 1) := by decide +kernel
theorem d_Mod_transaction_37 : decode b_Mod_transaction 37 = .ok (.aload_n 0, 1) := by decide +kernel
theorem d_Mod_transaction_38 : decode b_Mod_transaction 38 = .ok (.getfield 26, 3) := by decide +kernel
theorem d_Mod_transaction_41 : decode b_Mod_transaction 41 = .ok (.iload_n 1, 1) := by decide +kernel
theorem d_Mod_transaction_42 : decode b_Mod_transaction 42 = .ok (.iaload, 1) := by decide +kernel
theorem d_Mod_transaction_43 : decode b_Mod_transaction 43 = .ok (.iadd, 1) := by decide +kernel
theorem d_Mod_transaction_44 : decode b_Mod_transaction 44 = .ok (.if_icmp .ge 67, 3) := by decide +kernel
theorem d_Mod_transaction_47 : decode b_Mod_transaction 47 = .ok (.aload_n 0, 1) := by decide +kernel
theorem d_Mod_transaction_48 : decode b_Mod_transaction 48 = .ok (.getfield 137, 3) := by decide +kernel
theorem d_Mod_transaction_51 : decode b_Mod_transaction 51 = .ok (.ifCond .ne 60, 3) := by decide +kernel
theorem d_Mod_transaction_54 : decode b_Mod_transaction 54 = .ok (.aload_n 0, 1) := by decide +kernel
theorem d_Mod_transaction_55 : decode b_Mod_transaction 55 = .ok (.getfield 32, 3) := by decide +kernel
theorem d_Mod_transaction_58 : decode b_Mod_transaction 58 = .ok (.iload_n 2, 1) := by decide +kernel
theorem d_Mod_transaction_59 : decode b_Mod_transaction 59 = .ok (.aload_n 0, 1) := by decide +kernel
theorem d_Mod_transaction_60 : decode b_Mod_transaction 60 = .ok (.getfield 143, 3) := by decide +kernel
theorem d_Mod_transaction_63 : decode b_Mod_transaction 63 = .ok (.iastore, 1) := by decide +kernel
theorem d_Mod_transaction_64 : decode b_Mod_transaction 64 = .ok (.aload_n 0, 1) := by decide +kernel
theorem d_Mod_transaction_65 : decode b_Mod_transaction 65 = .ok (.bipush 36, 2) := by decide +kernel
theorem d_Mod_transaction_67 : decode b_Mod_transaction 67 = .ok (.invokevirtual 153, 3) := by decide +kernel
theorem d_Mod_transaction_70 : decode b_Mod_transaction 70 = .ok (.aload_n 0, 1) := by decide +kernel
theorem d_Mod_transaction_71 : decode b_Mod_transaction 71 = .ok (.getfield 38, 3) := by decide +kernel
theorem d_Mod_transaction_74 : decode b_Mod_transaction 74 = .ok (.iload_n 2, 1) := by decide +kernel
theorem d_Mod_transaction_75 : decode b_Mod_transaction 75 = .ok (.aload_n 0, 1) := by decide +kernel
theorem d_Mod_transaction_76 : decode b_Mod_transaction 76 = .ok (.sipush 200, 3) := by decide +kernel
theorem d_Mod_transaction_79 : decode b_Mod_transaction 79 = .ok (.invokevirtual 161, 3) := by decide +kernel
theorem d_Mod_transaction_82 : decode b_Mod_transaction 82 = .ok (.iastore, 1) := by decide +kernel
theorem d_Mod_transaction_83 : decode b_Mod_transaction 83 = .ok (.aload_n 0, 1) := by decide +kernel
theorem d_Mod_transaction_84 : decode b_Mod_transaction 84 = .ok (.getfield 35, 3) := by decide +kernel
theorem d_Mod_transaction_87 : decode b_Mod_transaction 87 = .ok (.iload_n 2, 1) := by decide +kernel
theorem d_Mod_transaction_88 : decode b_Mod_transaction 88 = .ok (.aload_n 0, 1) := by decide +kernel
theorem d_Mod_transaction_89 : decode b_Mod_transaction 89 = .ok (.getfield 143, 3) := by decide +kernel
theorem d_Mod_transaction_92 : decode b_Mod_transaction 92 = .ok (.iastore, 1) := by decide +kernel
theorem d_Mod_transaction_93 : decode b_Mod_transaction 93 = .ok (.aload_n 0, 1) := by decide +kernel
theorem d_Mod_transaction_94 : decode b_Mod_transaction 94 = .ok (.aload_n 0, 1) := by decide +kernel
theorem d_Mod_transaction_95 : decode b_Mod_transaction 95 = .ok (.getfield 38, 3) := by decide +kernel
theorem d_Mod_transaction_98 : decode b_Mod_transaction 98 = .ok (.iload_n 2, 1) := by decide +kernel
theorem d_Mod_transaction_99 : decode b_Mod_transaction 99 = .ok (.iaload, 1) := by decide +kernel
theorem d_Mod_transaction_100 : decode b_Mod_transaction 100 = .ok (.iconst 4, 1) := by decide +kernel
theorem d_Mod_transaction_101 : decode b_Mod_transaction 101 = .ok (.iadd, 1) := by decide +kernel
theorem d_Mod_transaction_102 : decode b_Mod_transaction 102 = .ok (.invokevirtual 153, 3) := by decide +kernel
theorem d_Mod_transaction_105 : decode b_Mod_transaction 105 = .ok (.iinc 2 1, 3) := by decide +kernel
theorem d_Mod_transaction_108 : decode b_Mod_transaction 108 = .ok (.goto (-76), 3) := by decide +kernel
theorem d_Mod_transaction_111 : decode b_Mod_transaction 111 = .ok (.aload_n 0, 1) := by decide +kernel
theorem d_Mod_transaction_112 : decode b_Mod_transaction 112 = .ok (.getfield 29, 3) := by decide +kernel
theorem d_Mod_transaction_115 : decode b_Mod_transaction 115 = .ok (.iload_n 1, 1) := by decide +kernel
theorem d_Mod_transaction_116 : decode b_Mod_transaction 116 = .ok (.aload_n 0, 1) := by decide +kernel
theorem d_Mod_transaction_117 : decode b_Mod_transaction 117 = .ok (.getfield 137, 3) := by decide +kernel
theorem d_Mod_transaction_120 : decode b_Mod_transaction 120 = .ok (.ifCond .le 7, 3) := by decide +kernel
theorem d_Mod_transaction_123 : decode b_Mod_transaction 123 = .ok (.iconst 0, 1) := by decide +kernel
theorem d_Mod_transaction_124 : decode b_Mod_transaction 124 = .ok (.goto 9, 3) := by decide +kernel
theorem d_Mod_transaction_127 : decode b_Mod_transaction 127 = .ok (.aload_n 0, 1) := by decide +kernel
theorem d_Mod_transaction_128 : decode b_Mod_transaction 128 = .ok (.bipush 8, 2) := by decide +kernel
theorem d_Mod_transaction_130 : decode b_Mod_transaction 130 = .ok (.invokevirtual 161, 3) := by decide +kernel
theorem d_Mod_transaction_133 : decode b_Mod_transaction 133 = .ok (.iastore, 1) := by decide +kernel
theorem d_Mod_transaction_134 : decode b_Mod_transaction 134 = .ok (.bipush 8, 2) := by decide +kernel
theorem d_Mod_transaction_136 : decode b_Mod_transaction 136 = .ok (.iload_n 1, 1) := by decide +kernel
theorem d_Mod_transaction_137 : decode b_Mod_transaction 137 = .ok (.imul, 1) := by decide +kernel
theorem d_Mod_transaction_138 : decode b_Mod_transaction 138 = .ok (.istore_n 2, 1) := by decide +kernel
theorem d_Mod_transaction_139 : decode b_Mod_transaction 139 = .ok (.iload_n 2, 1) := by decide +kernel
theorem d_Mod_transaction_140 : decode b_Mod_transaction 140 = .ok (.bipush 8, 2) := by decide +kernel
theorem d_Mod_transaction_142 : decode b_Mod_transaction 142 = .ok (.iload_n 1, 1) := by decide +kernel
theorem d_Mod_transaction_143 : decode b_Mod_transaction 143 = .ok (.imul, 1) := by decide +kernel
theorem d_Mod_transaction_144 : decode b_Mod_transaction 144 = .ok (.aload_n 0, 1) := by decide +kernel
theorem d_Mod_transaction_145 : decode b_Mod_transaction 145 = .ok (.getfield 29, 3) := by decide +kernel
theorem d_Mod_transaction_148 : decode b_Mod_transaction 148 = .ok (.iload_n 1, 1) := by decide +kernel
theorem d_Mod_transaction_149 : decode b_Mod_transaction 149 = .ok (.iaload, 1) := by decide +kernel
theorem d_Mod_transaction_150 : decode b_Mod_transaction 150 = .ok (.iadd, 1) := by decide +kernel
theorem d_Mod_transaction_151 : decode b_Mod_transaction 151 = .ok (.if_icmp .ge 65, 3) := by decide +kernel
theorem d_Mod_transaction_154 : decode b_Mod_transaction 154 = .ok (.aload_n 0, 1) := by decide +kernel
theorem d_Mod_transaction_155 : decode b_Mod_transaction 155 = .ok (.getfield 137, 3) := by decide +kernel
theorem d_Mod_transaction_158 : decode b_Mod_transaction 158 = .ok (.ifCond .ne 58, 3) := by decide +kernel
theorem d_Mod_transaction_161 : decode b_Mod_transaction 161 = .ok (.aload_n 0, 1) := by decide +kernel
theorem d_Mod_transaction_162 : decode b_Mod_transaction 162 = .ok (.getfield 41, 3) := by decide +kernel
theorem d_Mod_transaction_165 : decode b_Mod_transaction 165 = .ok (.iload_n 2, 1) := by decide +kernel
theorem d_Mod_transaction_166 : decode b_Mod_transaction 166 = .ok (.aload_n 0, 1) := by decide +kernel
theorem d_Mod_transaction_167 : decode b_Mod_transaction 167 = .ok (.getfield 143, 3) := by decide +kernel
theorem d_Mod_transaction_170 : decode b_Mod_transaction 170 = .ok (.iastore, 1) := by decide +kernel
theorem d_Mod_transaction_171 : decode b_Mod_transaction 171 = .ok (.aload_n 0, 1) := by decide +kernel
theorem d_Mod_transaction_172 : decode b_Mod_transaction 172 = .ok (.bipush 8, 2) := by decide +kernel
theorem d_Mod_transaction_174 : decode b_Mod_transaction 174 = .ok (.invokevirtual 153, 3) := by decide +kernel
theorem d_Mod_transaction_177 : decode b_Mod_transaction 177 = .ok (.aload_n 0, 1) := by decide +kernel
theorem d_Mod_transaction_178 : decode b_Mod_transaction 178 = .ok (.getfield 47, 3) := by decide +kernel
theorem d_Mod_transaction_181 : decode b_Mod_transaction 181 = .ok (.iload_n 2, 1) := by decide +kernel
theorem d_Mod_transaction_182 : decode b_Mod_transaction 182 = .ok (.aload_n 0, 1) := by decide +kernel
theorem d_Mod_transaction_183 : decode b_Mod_transaction 183 = .ok (.sipush 200, 3) := by decide +kernel
theorem d_Mod_transaction_186 : decode b_Mod_transaction 186 = .ok (.invokevirtual 161, 3) := by decide +kernel
theorem d_Mod_transaction_189 : decode b_Mod_transaction 189 = .ok (.iastore, 1) := by decide +kernel
theorem d_Mod_transaction_190 : decode b_Mod_transaction 190 = .ok (.aload_n 0, 1) := by decide +kernel
theorem d_Mod_transaction_191 : decode b_Mod_transaction 191 = .ok (.getfield 44, 3) := by decide +kernel
theorem d_Mod_transaction_194 : decode b_Mod_transaction 194 = .ok (.iload_n 2, 1) := by decide +kernel
theorem d_Mod_transaction_195 : decode b_Mod_transaction 195 = .ok (.aload_n 0, 1) := by decide +kernel
theorem d_Mod_transaction_196 : decode b_Mod_transaction 196 = .ok (.getfield 143, 3) := by decide +kernel
theorem d_Mod_transaction_199 : decode b_Mod_transaction 199 = .ok (.iastore, 1) := by decide +kernel
theorem d_Mod_transaction_200 : decode b_Mod_transaction 200 = .ok (.aload_n 0, 1) := by decide +kernel
theorem d_Mod_transaction_201 : decode b_Mod_transaction 201 = .ok (.aload_n 0, 1) := by decide +kernel
theorem d_Mod_transaction_202 : decode b_Mod_transaction 202 = .ok (.getfield 47, 3) := by decide +kernel
theorem d_Mod_transaction_205 : decode b_Mod_transaction 205 = .ok (.iload_n 2, 1) := by decide +kernel
theorem d_Mod_transaction_206 : decode b_Mod_transaction 206 = .ok (.iaload, 1) := by decide +kernel
theorem d_Mod_transaction_207 : decode b_Mod_transaction 207 = .ok (.invokevirtual 153, 3) := by decide +kernel
theorem d_Mod_transaction_210 : decode b_Mod_transaction 210 = .ok (.iinc 2 1, 3) := by decide +kernel
theorem d_Mod_transaction_213 : decode b_Mod_transaction 213 = .ok (.goto (-74), 3) := by decide +kernel
theorem d_Mod_transaction_216 : decode b_Mod_transaction 216 = .ok (.aload_n 0, 1) := by decide +kernel
theorem d_Mod_transaction_217 : decode b_Mod_transaction 217 = .ok (.iconst 4, 1) := by decide +kernel
theorem d_Mod_transaction_218 : decode b_Mod_transaction 218 = .ok (.invokevirtual 153, 3) := by decide +kernel
theorem d_Mod_transaction_221 : decode b_Mod_transaction 221 = .ok (.aload_n 0, 1) := by decide +kernel
theorem d_Mod_transaction_222 : decode b_Mod_transaction 222 = .ok (.getfield 23, 3) := by decide +kernel
theorem d_Mod_transaction_225 : decode b_Mod_transaction 225 = .ok (.iload_n 1, 1) := by decide +kernel
theorem d_Mod_transaction_226 : decode b_Mod_transaction 226 = .ok (.aload_n 0, 1) := by decide +kernel
theorem d_Mod_transaction_227 : decode b_Mod_transaction 227 = .ok (.getfield 143, 3) := by decide +kernel
theorem d_Mod_transaction_230 : decode b_Mod_transaction 230 = .ok (.iastore, 1) := by decide +kernel
theorem d_Mod_transaction_231 : decode b_Mod_transaction 231 = .ok (.return_, 1) := by decide +kernel
abbrev b_Mod_put : ByteArray := prog_8_method_17_code
def y_Mod_put : MethodName := ⟨R_Mod, "put", "(JI)Z"⟩
theorem d_Mod_put_0 : decode b_Mod_put 0 = .ok (.aload_n 0, 1) := by decide +kernel
theorem d_Mod_put_1 : decode b_Mod_put 1 = .ok (.lload_n 1, 1) := by decide +kernel
theorem d_Mod_put_2 : decode b_Mod_put 2 = .ok (.iload_n 3, 1) := by decide +kernel
theorem d_Mod_put_3 : decode b_Mod_put 3 = .ok (.iconst 0, 1) := by decide +kernel
theorem d_Mod_put_4 : decode b_Mod_put 4 = .ok (.invokevirtual 165, 3) := by decide +kernel
theorem d_Mod_put_7 : decode b_Mod_put 7 = .ok (.ireturn, 1) := by decide +kernel
abbrev b_Mod_low : ByteArray := prog_8_method_18_code
def y_Mod_low : MethodName := ⟨R_Mod, "low", "(JI)Z"⟩
theorem d_Mod_low_0 : decode b_Mod_low 0 = .ok (.aload_n 0, 1) := by decide +kernel
theorem d_Mod_low_1 : decode b_Mod_low 1 = .ok (.lload_n 1, 1) := by decide +kernel
theorem d_Mod_low_2 : decode b_Mod_low 2 = .ok (.iload_n 3, 1) := by decide +kernel
theorem d_Mod_low_3 : decode b_Mod_low 3 = .ok (.iconst 1, 1) := by decide +kernel
theorem d_Mod_low_4 : decode b_Mod_low 4 = .ok (.invokevirtual 165, 3) := by decide +kernel
theorem d_Mod_low_7 : decode b_Mod_low 7 = .ok (.ireturn, 1) := by decide +kernel
abbrev b_Mod_lay : ByteArray := prog_8_method_19_code
def y_Mod_lay : MethodName := ⟨R_Mod, "lay", "(JIZ)Z"⟩
theorem d_Mod_lay_0 : decode b_Mod_lay 0 = .ok (.iload_n 3, 1) := by decide +kernel
theorem d_Mod_lay_1 : decode b_Mod_lay 1 = .ok (.iconst 1, 1) := by decide +kernel
theorem d_Mod_lay_2 : decode b_Mod_lay 2 = .ok (.if_icmp .lt 21, 3) := by decide +kernel
theorem d_Mod_lay_5 : decode b_Mod_lay 5 = .ok (.iload_n 3, 1) := by decide +kernel
theorem d_Mod_lay_6 : decode b_Mod_lay 6 = .ok (.bipush 8, 2) := by decide +kernel
theorem d_Mod_lay_8 : decode b_Mod_lay 8 = .ok (.if_icmp .gt 15, 3) := by decide +kernel
theorem d_Mod_lay_11 : decode b_Mod_lay 11 = .ok (.aload_n 0, 1) := by decide +kernel
theorem d_Mod_lay_12 : decode b_Mod_lay 12 = .ok (.getfield 169, 3) := by decide +kernel
theorem d_Mod_lay_15 : decode b_Mod_lay 15 = .ok (.iload_n 3, 1) := by decide +kernel
theorem d_Mod_lay_16 : decode b_Mod_lay 16 = .ok (.iadd, 1) := by decide +kernel
theorem d_Mod_lay_17 : decode b_Mod_lay 17 = .ok (.sipush 2000, 3) := by decide +kernel
theorem d_Mod_lay_20 : decode b_Mod_lay 20 = .ok (.if_icmp .le 5, 3) := by decide +kernel
theorem d_Mod_lay_23 : decode b_Mod_lay 23 = .ok (.iconst 0, 1) := by decide +kernel
theorem d_Mod_lay_24 : decode b_Mod_lay 24 = .ok (.ireturn, 1) := by decide +kernel
theorem d_Mod_lay_25 : decode b_Mod_lay 25 = .ok (.iconst 0, 1) := by decide +kernel
theorem d_Mod_lay_26 : decode b_Mod_lay 26 = .ok (.istore 5, 2) := by decide +kernel
theorem d_Mod_lay_28 : decode b_Mod_lay 28 = .ok (.iload 5, 2) := by decide +kernel
theorem d_Mod_lay_30 : decode b_Mod_lay 30 = .ok (.iload_n 3, 1) := by decide +kernel
theorem d_Mod_lay_31 : decode b_Mod_lay 31 = .ok (.if_icmp .ge 47, 3) := by decide +kernel
theorem d_Mod_lay_34 : decode b_Mod_lay 34 = .ok (.aload_n 0, 1) := by decide +kernel
theorem d_Mod_lay_35 : decode b_Mod_lay 35 = .ok (.getfield 7, 3) := by decide +kernel
theorem d_Mod_lay_38 : decode b_Mod_lay 38 = .ok (.aload_n 0, 1) := by decide +kernel
theorem d_Mod_lay_39 : decode b_Mod_lay 39 = .ok (.getfield 169, 3) := by decide +kernel
theorem d_Mod_lay_42 : decode b_Mod_lay 42 = .ok (.iload 5, 2) := by decide +kernel
theorem d_Mod_lay_44 : decode b_Mod_lay 44 = .ok (.iadd, 1) := by decide +kernel
theorem d_Mod_lay_45 : decode b_Mod_lay 45 = .ok (.lload_n 1, 1) := by decide +kernel
theorem d_Mod_lay_46 : decode b_Mod_lay 46 = .ok (.bipush 8, 2) := by decide +kernel
theorem d_Mod_lay_48 : decode b_Mod_lay 48 = .ok (.iload 4, 2) := by decide +kernel
theorem d_Mod_lay_50 : decode b_Mod_lay 50 = .ok (.ifCond .eq 8, 3) := by decide +kernel
theorem d_Mod_lay_53 : decode b_Mod_lay 53 = .ok (.iload 5, 2) := by decide +kernel
theorem d_Mod_lay_55 : decode b_Mod_lay 55 = .ok (.goto 9, 3) := by decide +kernel
theorem d_Mod_lay_58 : decode b_Mod_lay 58 = .ok (.iload_n 3, 1) := by decide +kernel
theorem d_Mod_lay_59 : decode b_Mod_lay 59 = .ok (.iconst 1, 1) := by decide +kernel
theorem d_Mod_lay_60 : decode b_Mod_lay 60 = .ok (.isub, 1) := by decide +kernel
theorem d_Mod_lay_61 : decode b_Mod_lay 61 = .ok (.iload 5, 2) := by decide +kernel
theorem d_Mod_lay_63 : decode b_Mod_lay 63 = .ok (.isub, 1) := by decide +kernel
theorem d_Mod_lay_64 : decode b_Mod_lay 64 = .ok (.imul, 1) := by decide +kernel
theorem d_Mod_lay_65 : decode b_Mod_lay 65 = .ok (.lshr, 1) := by decide +kernel
theorem d_Mod_lay_66 : decode b_Mod_lay 66 = .ok (.ldc2_w 106, 3) := by decide +kernel
theorem d_Mod_lay_69 : decode b_Mod_lay 69 = .ok (.land, 1) := by decide +kernel
theorem d_Mod_lay_70 : decode b_Mod_lay 70 = .ok (.l2i, 1) := by decide +kernel
theorem d_Mod_lay_71 : decode b_Mod_lay 71 = .ok (.iastore, 1) := by decide +kernel
theorem d_Mod_lay_72 : decode b_Mod_lay 72 = .ok (.iinc 5 1, 3) := by decide +kernel
theorem d_Mod_lay_75 : decode b_Mod_lay 75 = .ok (.goto (-47), 3) := by decide +kernel
theorem d_Mod_lay_78 : decode b_Mod_lay 78 = .ok (.aload_n 0, 1) := by decide +kernel
theorem d_Mod_lay_79 : decode b_Mod_lay 79 = .ok (.aload_n 0, 1) := by decide +kernel
theorem d_Mod_lay_80 : decode b_Mod_lay 80 = .ok (.getfield 169, 3) := by decide +kernel
theorem d_Mod_lay_83 : decode b_Mod_lay 83 = .ok (.iload_n 3, 1) := by decide +kernel
theorem d_Mod_lay_84 : decode b_Mod_lay 84 = .ok (.iadd, 1) := by decide +kernel
theorem d_Mod_lay_85 : decode b_Mod_lay 85 = .ok (.putfield 169, 3) := by decide +kernel
theorem d_Mod_lay_88 : decode b_Mod_lay 88 = .ok (.iconst 1, 1) := by decide +kernel
theorem d_Mod_lay_89 : decode b_Mod_lay 89 = .ok (.ireturn, 1) := by decide +kernel
abbrev b_Mod_compact : ByteArray := prog_8_method_20_code
def y_Mod_compact : MethodName := ⟨R_Mod, "compact", "(J)Z"⟩
theorem d_Mod_compact_0 : decode b_Mod_compact 0 = .ok (.lload_n 1, 1) := by decide +kernel
theorem d_Mod_compact_1 : decode b_Mod_compact 1 = .ok (.lconst 0, 1) := by decide +kernel
theorem d_Mod_compact_2 : decode b_Mod_compact 2 = .ok (.lcmp, 1) := by decide +kernel
theorem d_Mod_compact_3 : decode b_Mod_compact 3 = .ok (.ifCond .lt 11, 3) := by decide +kernel
theorem d_Mod_compact_6 : decode b_Mod_compact 6 = .ok (.lload_n 1, 1) := by decide +kernel
theorem d_Mod_compact_7 : decode b_Mod_compact 7 = .ok (.ldc2_w 92, 3) := by decide +kernel
theorem d_Mod_compact_10 : decode b_Mod_compact 10 = .ok (.lcmp, 1) := by decide +kernel
theorem d_Mod_compact_11 : decode b_Mod_compact 11 = .ok (.ifCond .lt 8, 3) := by decide +kernel
theorem d_Mod_compact_14 : decode b_Mod_compact 14 = .ok (.bipush 8, 2) := by decide +kernel
theorem d_Mod_compact_16 : decode b_Mod_compact 16 = .ok (.goto 28, 3) := by decide +kernel
theorem d_Mod_compact_19 : decode b_Mod_compact 19 = .ok (.lload_n 1, 1) := by decide +kernel
theorem d_Mod_compact_20 : decode b_Mod_compact 20 = .ok (.ldc2_w 100, 3) := by decide +kernel
theorem d_Mod_compact_23 : decode b_Mod_compact 23 = .ok (.lcmp, 1) := by decide +kernel
theorem d_Mod_compact_24 : decode b_Mod_compact 24 = .ok (.ifCond .lt 7, 3) := by decide +kernel
theorem d_Mod_compact_27 : decode b_Mod_compact 27 = .ok (.iconst 4, 1) := by decide +kernel
theorem d_Mod_compact_28 : decode b_Mod_compact 28 = .ok (.goto 16, 3) := by decide +kernel
theorem d_Mod_compact_31 : decode b_Mod_compact 31 = .ok (.lload_n 1, 1) := by decide +kernel
theorem d_Mod_compact_32 : decode b_Mod_compact 32 = .ok (.ldc2_w 159, 3) := by decide +kernel
theorem d_Mod_compact_35 : decode b_Mod_compact 35 = .ok (.lcmp, 1) := by decide +kernel
theorem d_Mod_compact_36 : decode b_Mod_compact 36 = .ok (.ifCond .lt 7, 3) := by decide +kernel
theorem d_Mod_compact_39 : decode b_Mod_compact 39 = .ok (.iconst 2, 1) := by decide +kernel
theorem d_Mod_compact_40 : decode b_Mod_compact 40 = .ok (.goto 4, 3) := by decide +kernel
theorem d_Mod_compact_43 : decode b_Mod_compact 43 = .ok (.iconst 0, 1) := by decide +kernel
theorem d_Mod_compact_44 : decode b_Mod_compact 44 = .ok (.istore_n 3, 1) := by decide +kernel
theorem d_Mod_compact_45 : decode b_Mod_compact 45 = .ok (.aload_n 0, 1) := by decide +kernel
theorem d_Mod_compact_46 : decode b_Mod_compact 46 = .ok (.getfield 169, 3) := by decide +kernel
theorem d_Mod_compact_49 : decode b_Mod_compact 49 = .ok (.iconst 1, 1) := by decide +kernel
theorem d_Mod_compact_50 : decode b_Mod_compact 50 = .ok (.iadd, 1) := by decide +kernel
theorem d_Mod_compact_51 : decode b_Mod_compact 51 = .ok (.iload_n 3, 1) := by decide +kernel
theorem d_Mod_compact_52 : decode b_Mod_compact 52 = .ok (.iadd, 1) := by decide +kernel
theorem d_Mod_compact_53 : decode b_Mod_compact 53 = .ok (.sipush 2000, 3) := by decide +kernel
theorem d_Mod_compact_56 : decode b_Mod_compact 56 = .ok (.if_icmp .le 5, 3) := by decide +kernel
theorem d_Mod_compact_59 : decode b_Mod_compact 59 = .ok (.iconst 0, 1) := by decide +kernel
theorem d_Mod_compact_60 : decode b_Mod_compact 60 = .ok (.ireturn, 1) := by decide +kernel
theorem d_Mod_compact_61 : decode b_Mod_compact 61 = .ok (.aload_n 0, 1) := by decide +kernel
theorem d_Mod_compact_62 : decode b_Mod_compact 62 = .ok (.getfield 7, 3) := by decide +kernel
theorem d_Mod_compact_65 : decode b_Mod_compact 65 = .ok (.aload_n 0, 1) := by decide +kernel
theorem d_Mod_compact_66 : decode b_Mod_compact 66 = .ok (.getfield 169, 3) := by decide +kernel
theorem d_Mod_compact_69 : decode b_Mod_compact 69 = .ok (.iload_n 3, 1) := by decide +kernel
theorem d_Mod_compact_70 : decode b_Mod_compact 70 = .ok (.ifCond .ne 8, 3) := by decide +kernel
theorem d_Mod_compact_73 : decode b_Mod_compact 73 = .ok (.lload_n 1, 1) := by decide +kernel
theorem d_Mod_compact_74 : decode b_Mod_compact 74 = .ok (.l2i, 1) := by decide +kernel
theorem d_Mod_compact_75 : decode b_Mod_compact 75 = .ok (.goto 28, 3) := by decide +kernel
theorem d_Mod_compact_78 : decode b_Mod_compact 78 = .ok (.iload_n 3, 1) := by decide +kernel
theorem d_Mod_compact_79 : decode b_Mod_compact 79 = .ok (.iconst 2, 1) := by decide +kernel
theorem d_Mod_compact_80 : decode b_Mod_compact 80 = .ok (.if_icmp .ne 9, 3) := by decide +kernel
theorem d_Mod_compact_83 : decode b_Mod_compact 83 = .ok (.sipush 253, 3) := by decide +kernel
theorem d_Mod_compact_86 : decode b_Mod_compact 86 = .ok (.goto 17, 3) := by decide +kernel
theorem d_Mod_compact_89 : decode b_Mod_compact 89 = .ok (.iload_n 3, 1) := by decide +kernel
theorem d_Mod_compact_90 : decode b_Mod_compact 90 = .ok (.iconst 4, 1) := by decide +kernel
theorem d_Mod_compact_91 : decode b_Mod_compact 91 = .ok (.if_icmp .ne 9, 3) := by decide +kernel
theorem d_Mod_compact_94 : decode b_Mod_compact 94 = .ok (.sipush 254, 3) := by decide +kernel
theorem d_Mod_compact_97 : decode b_Mod_compact 97 = .ok (.goto 6, 3) := by decide +kernel
theorem d_Mod_compact_100 : decode b_Mod_compact 100 = .ok (.sipush 255, 3) := by decide +kernel
theorem d_Mod_compact_103 : decode b_Mod_compact 103 = .ok (.iastore, 1) := by decide +kernel
theorem d_Mod_compact_104 : decode b_Mod_compact 104 = .ok (.aload_n 0, 1) := by decide +kernel
theorem d_Mod_compact_105 : decode b_Mod_compact 105 = .ok (.aload_n 0, 1) := by decide +kernel
theorem d_Mod_compact_106 : decode b_Mod_compact 106 = .ok (.getfield 169, 3) := by decide +kernel
theorem d_Mod_compact_109 : decode b_Mod_compact 109 = .ok (.iconst 1, 1) := by decide +kernel
theorem d_Mod_compact_110 : decode b_Mod_compact 110 = .ok (.iadd, 1) := by decide +kernel
theorem d_Mod_compact_111 : decode b_Mod_compact 111 = .ok (.putfield 169, 3) := by decide +kernel
theorem d_Mod_compact_114 : decode b_Mod_compact 114 = .ok (.iload_n 3, 1) := by decide +kernel
theorem d_Mod_compact_115 : decode b_Mod_compact 115 = .ok (.ifCond .le 11, 3) := by decide +kernel
theorem d_Mod_compact_118 : decode b_Mod_compact 118 = .ok (.aload_n 0, 1) := by decide +kernel
theorem d_Mod_compact_119 : decode b_Mod_compact 119 = .ok (.lload_n 1, 1) := by decide +kernel
theorem d_Mod_compact_120 : decode b_Mod_compact 120 = .ok (.iload_n 3, 1) := by decide +kernel
theorem d_Mod_compact_121 : decode b_Mod_compact 121 = .ok (.iconst 1, 1) := by decide +kernel
theorem d_Mod_compact_122 : decode b_Mod_compact 122 = .ok (.invokevirtual 165, 3) := by decide +kernel
theorem d_Mod_compact_125 : decode b_Mod_compact 125 = .ok (.pop, 1) := by decide +kernel
theorem d_Mod_compact_126 : decode b_Mod_compact 126 = .ok (.iconst 1, 1) := by decide +kernel
theorem d_Mod_compact_127 : decode b_Mod_compact 127 = .ok (.ireturn, 1) := by decide +kernel
abbrev b_Mod_read : ByteArray := prog_8_method_21_code
def y_Mod_read : MethodName := ⟨R_Mod, "read", "(Z)I"⟩
theorem d_Mod_read_0 : decode b_Mod_read 0 = .ok (.iconst 0, 1) := by decide +kernel
theorem d_Mod_read_1 : decode b_Mod_read 1 = .ok (.istore_n 2, 1) := by decide +kernel
theorem d_Mod_read_2 : decode b_Mod_read 2 = .ok (.iload_n 2, 1) := by decide +kernel
theorem d_Mod_read_3 : decode b_Mod_read 3 = .ok (.aload_n 0, 1) := by decide +kernel
theorem d_Mod_read_4 : decode b_Mod_read 4 = .ok (.getfield 169, 3) := by decide +kernel
theorem d_Mod_read_7 : decode b_Mod_read 7 = .ok (.if_icmp .ge 21, 3) := by decide +kernel
theorem d_Mod_read_10 : decode b_Mod_read 10 = .ok (.aload_n 0, 1) := by decide +kernel
theorem d_Mod_read_11 : decode b_Mod_read 11 = .ok (.getfield 13, 3) := by decide +kernel
theorem d_Mod_read_14 : decode b_Mod_read 14 = .ok (.iload_n 2, 1) := by decide +kernel
theorem d_Mod_read_15 : decode b_Mod_read 15 = .ok (.aload_n 0, 1) := by decide +kernel
theorem d_Mod_read_16 : decode b_Mod_read 16 = .ok (.getfield 7, 3) := by decide +kernel
theorem d_Mod_read_19 : decode b_Mod_read 19 = .ok (.iload_n 2, 1) := by decide +kernel
theorem d_Mod_read_20 : decode b_Mod_read 20 = .ok (.iaload, 1) := by decide +kernel
theorem d_Mod_read_21 : decode b_Mod_read 21 = .ok (.iastore, 1) := by decide +kernel
theorem d_Mod_read_22 : decode b_Mod_read 22 = .ok (.iinc 2 1, 3) := by decide +kernel
theorem d_Mod_read_25 : decode b_Mod_read 25 = .ok (.goto (-23), 3) := by decide +kernel
theorem d_Mod_read_28 : decode b_Mod_read 28 = .ok (.aload_n 0, 1) := by decide +kernel
theorem d_Mod_read_29 : decode b_Mod_read 29 = .ok (.aload_n 0, 1) := by decide +kernel
theorem d_Mod_read_30 : decode b_Mod_read 30 = .ok (.getfield 169, 3) := by decide +kernel
theorem d_Mod_read_33 : decode b_Mod_read 33 = .ok (.putfield 146, 3) := by decide +kernel
theorem d_Mod_read_36 : decode b_Mod_read 36 = .ok (.aload_n 0, 1) := by decide +kernel
theorem d_Mod_read_37 : decode b_Mod_read 37 = .ok (.iconst 0, 1) := by decide +kernel
theorem d_Mod_read_38 : decode b_Mod_read 38 = .ok (.putfield 169, 3) := by decide +kernel
theorem d_Mod_read_41 : decode b_Mod_read 41 = .ok (.aload_n 0, 1) := by decide +kernel
theorem d_Mod_read_42 : decode b_Mod_read 42 = .ok (.iconst 0, 1) := by decide +kernel
theorem d_Mod_read_43 : decode b_Mod_read 43 = .ok (.putfield 143, 3) := by decide +kernel
theorem d_Mod_read_46 : decode b_Mod_read 46 = .ok (.aload_n 0, 1) := by decide +kernel
theorem d_Mod_read_47 : decode b_Mod_read 47 = .ok (.iconst 0, 1) := by decide +kernel
theorem d_Mod_read_48 : decode b_Mod_read 48 = .ok (.putfield 137, 3) := by decide +kernel
theorem d_Mod_read_51 : decode b_Mod_read 51 = .ok (.aload_n 0, 1) := by decide +kernel
theorem d_Mod_read_52 : decode b_Mod_read 52 = .ok (.iconst (-1), 1) := by decide +kernel
theorem d_Mod_read_53 : decode b_Mod_read 53 = .ok (.putfield 16, 3) := by decide +kernel
theorem d_Mod_read_56 : decode b_Mod_read 56 = .ok (.aload_n 0, 1) := by decide +kernel
theorem d_Mod_read_57 : decode b_Mod_read 57 = .ok (.iload_n 1, 1) := by decide +kernel
theorem d_Mod_read_58 : decode b_Mod_read 58 = .ok (.putfield 172, 3) := by decide +kernel
theorem d_Mod_read_61 : decode b_Mod_read 61 = .ok (.iconst 1, 1) := by decide +kernel
theorem d_Mod_read_62 : decode b_Mod_read 62 = .ok (.istore_n 2, 1) := by decide +kernel
theorem d_Mod_read_63 : decode b_Mod_read 63 = .ok (.iload_n 1, 1) := by decide +kernel
theorem d_Mod_read_64 : decode b_Mod_read 64 = .ok (.ifCond .eq 27, 3) := by decide +kernel
theorem d_Mod_read_67 : decode b_Mod_read 67 = .ok (.aload_n 0, 1) := by decide +kernel
theorem d_Mod_read_68 : decode b_Mod_read 68 = .ok (.bipush 80, 2) := by decide +kernel
theorem d_Mod_read_70 : decode b_Mod_read 70 = .ok (.invokevirtual 153, 3) := by decide +kernel
theorem d_Mod_read_73 : decode b_Mod_read 73 = .ok (.aload_n 0, 1) := by decide +kernel
theorem d_Mod_read_74 : decode b_Mod_read 74 = .ok (.getfield 137, 3) := by decide +kernel
theorem d_Mod_read_77 : decode b_Mod_read 77 = .ok (.ifCond .le 7, 3) := by decide +kernel
theorem d_Mod_read_80 : decode b_Mod_read 80 = .ok (.iconst 0, 1) := by decide +kernel
theorem d_Mod_read_81 : decode b_Mod_read 81 = .ok (.goto 9, 3) := by decide +kernel
theorem d_Mod_read_84 : decode b_Mod_read 84 = .ok (.aload_n 0, 1) := by decide +kernel
theorem d_Mod_read_85 : decode b_Mod_read 85 = .ok (.bipush 12, 2) := by decide +kernel
theorem d_Mod_read_87 : decode b_Mod_read 87 = .ok (.invokevirtual 161, 3) := by decide +kernel
theorem d_Mod_read_90 : decode b_Mod_read 90 = .ok (.istore_n 2, 1) := by decide +kernel
theorem d_Mod_read_91 : decode b_Mod_read 91 = .ok (.iconst 0, 1) := by decide +kernel
theorem d_Mod_read_92 : decode b_Mod_read 92 = .ok (.istore_n 3, 1) := by decide +kernel
theorem d_Mod_read_93 : decode b_Mod_read 93 = .ok (.iload_n 3, 1) := by decide +kernel
theorem d_Mod_read_94 : decode b_Mod_read 94 = .ok (.iload_n 2, 1) := by decide +kernel
theorem d_Mod_read_95 : decode b_Mod_read 95 = .ok (.if_icmp .ge 21, 3) := by decide +kernel
theorem d_Mod_read_98 : decode b_Mod_read 98 = .ok (.aload_n 0, 1) := by decide +kernel
theorem d_Mod_read_99 : decode b_Mod_read 99 = .ok (.getfield 137, 3) := by decide +kernel
theorem d_Mod_read_102 : decode b_Mod_read 102 = .ok (.ifCond .ne 14, 3) := by decide +kernel
theorem d_Mod_read_105 : decode b_Mod_read 105 = .ok (.aload_n 0, 1) := by decide +kernel
theorem d_Mod_read_106 : decode b_Mod_read 106 = .ok (.iload_n 3, 1) := by decide +kernel
theorem d_Mod_read_107 : decode b_Mod_read 107 = .ok (.invokevirtual 175, 3) := by decide +kernel
theorem d_Mod_read_110 : decode b_Mod_read 110 = .ok (.iinc 3 1, 3) := by decide +kernel
theorem d_Mod_read_113 : decode b_Mod_read 113 = .ok (.goto (-20), 3) := by decide +kernel
theorem d_Mod_read_116 : decode b_Mod_read 116 = .ok (.aload_n 0, 1) := by decide +kernel
theorem d_Mod_read_117 : decode b_Mod_read 117 = .ok (.getfield 137, 3) := by decide +kernel
theorem d_Mod_read_120 : decode b_Mod_read 120 = .ok (.ifCond .ne 23, 3) := by decide +kernel
theorem d_Mod_read_123 : decode b_Mod_read 123 = .ok (.aload_n 0, 1) := by decide +kernel
theorem d_Mod_read_124 : decode b_Mod_read 124 = .ok (.getfield 143, 3) := by decide +kernel
theorem d_Mod_read_127 : decode b_Mod_read 127 = .ok (.aload_n 0, 1) := by decide +kernel
theorem d_Mod_read_128 : decode b_Mod_read 128 = .ok (.getfield 146, 3) := by decide +kernel
theorem d_Mod_read_131 : decode b_Mod_read 131 = .ok (.if_icmp .ge 12, 3) := by decide +kernel
theorem d_Mod_read_134 : decode b_Mod_read 134 = .ok (.aload_n 0, 1) := by decide +kernel
theorem d_Mod_read_135 : decode b_Mod_read 135 = .ok (.iconst 4, 1) := by decide +kernel
theorem d_Mod_read_136 : decode b_Mod_read 136 = .ok (.aload_n 0, 1) := by decide +kernel
theorem d_Mod_read_137 : decode b_Mod_read 137 = .ok (.getfield 143, 3) := by decide +kernel
theorem d_Mod_read_140 : decode b_Mod_read 140 = .ok (.invokevirtual 149, 3) := by decide +kernel
theorem d_Mod_read_143 : decode b_Mod_read 143 = .ok (.aload_n 0, 1) := by decide +kernel
theorem d_Mod_read_144 : decode b_Mod_read 144 = .ok (.getfield 137, 3) := by decide +kernel
theorem d_Mod_read_147 : decode b_Mod_read 147 = .ok (.ifCond .le 33, 3) := by decide +kernel
theorem d_Mod_read_150 : decode b_Mod_read 150 = .ok (.aload_n 0, 1) := by decide +kernel
theorem d_Mod_read_151 : decode b_Mod_read 151 = .ok (.aload_n 0, 1) := by decide +kernel
theorem d_Mod_read_152 : decode b_Mod_read 152 = .ok (.getfield 140, 3) := by decide +kernel
theorem d_Mod_read_155 : decode b_Mod_read 155 = .ok (.putfield 16, 3) := by decide +kernel
theorem d_Mod_read_158 : decode b_Mod_read 158 = .ok (.aload_n 0, 1) := by decide +kernel
theorem d_Mod_read_159 : decode b_Mod_read 159 = .ok (.iconst 0, 1) := by decide +kernel
theorem d_Mod_read_160 : decode b_Mod_read 160 = .ok (.putfield 130, 3) := by decide +kernel
theorem d_Mod_read_163 : decode b_Mod_read 163 = .ok (.aload_n 0, 1) := by decide +kernel
theorem d_Mod_read_164 : decode b_Mod_read 164 = .ok (.iconst 0, 1) := by decide +kernel
theorem d_Mod_read_165 : decode b_Mod_read 165 = .ok (.putfield 146, 3) := by decide +kernel
theorem d_Mod_read_168 : decode b_Mod_read 168 = .ok (.aload_n 0, 1) := by decide +kernel
theorem d_Mod_read_169 : decode b_Mod_read 169 = .ok (.iconst 0, 1) := by decide +kernel
theorem d_Mod_read_170 : decode b_Mod_read 170 = .ok (.putfield 172, 3) := by decide +kernel
theorem d_Mod_read_173 : decode b_Mod_read 173 = .ok (.iconst (-1), 1) := by decide +kernel
theorem d_Mod_read_174 : decode b_Mod_read 174 = .ok (.aload_n 0, 1) := by decide +kernel
theorem d_Mod_read_175 : decode b_Mod_read 175 = .ok (.getfield 137, 3) := by decide +kernel
theorem d_Mod_read_178 : decode b_Mod_read 178 = .ok (.isub, 1) := by decide +kernel
theorem d_Mod_read_179 : decode b_Mod_read 179 = .ok (.ireturn, 1) := by decide +kernel
theorem d_Mod_read_180 : decode b_Mod_read 180 = .ok (.aload_n 0, 1) := by decide +kernel
theorem d_Mod_read_181 : decode b_Mod_read 181 = .ok (.iload_n 2, 1) := by decide +kernel
theorem d_Mod_read_182 : decode b_Mod_read 182 = .ok (.putfield 130, 3) := by decide +kernel
theorem d_Mod_read_185 : decode b_Mod_read 185 = .ok (.iconst 0, 1) := by decide +kernel
theorem d_Mod_read_186 : decode b_Mod_read 186 = .ok (.istore_n 3, 1) := by decide +kernel
theorem d_Mod_read_187 : decode b_Mod_read 187 = .ok (.iload_n 3, 1) := by decide +kernel
theorem d_Mod_read_188 : decode b_Mod_read 188 = .ok (.aload_n 0, 1) := by decide +kernel
theorem d_Mod_read_189 : decode b_Mod_read 189 = .ok (.getfield 130, 3) := by decide +kernel
theorem d_Mod_read_192 : decode b_Mod_read 192 = .ok (.if_icmp .ge 26, 3) := by decide +kernel
theorem d_Mod_read_195 : decode b_Mod_read 195 = .ok (.aload_n 0, 1) := by decide +kernel
theorem d_Mod_read_196 : decode b_Mod_read 196 = .ok (.aload_n 0, 1) := by decide +kernel
theorem d_Mod_read_197 : decode b_Mod_read 197 = .ok (.getfield 20, 3) := by decide +kernel
theorem d_Mod_read_200 : decode b_Mod_read 200 = .ok (.iload_n 3, 1) := by decide +kernel
theorem d_Mod_read_201 : decode b_Mod_read 201 = .ok (.iaload, 1) := by decide +kernel
theorem d_Mod_read_202 : decode b_Mod_read 202 = .ok (.aload_n 0, 1) := by decide +kernel
theorem d_Mod_read_203 : decode b_Mod_read 203 = .ok (.getfield 23, 3) := by decide +kernel
theorem d_Mod_read_206 : decode b_Mod_read 206 = .ok (.iload_n 3, 1) := by decide +kernel
theorem d_Mod_read_207 : decode b_Mod_read 207 = .ok (.iaload, 1) := by decide +kernel
theorem d_Mod_read_208 : decode b_Mod_read 208 = .ok (.iload_n 3, 1) := by decide +kernel
theorem d_Mod_read_209 : decode b_Mod_read 209 = .ok (.invokevirtual 178, 3) := by decide +kernel
theorem d_Mod_read_212 : decode b_Mod_read 212 = .ok (.iinc 3 1, 3) := by decide +kernel
theorem d_Mod_read_215 : decode b_Mod_read 215 = .ok (.goto (-28), 3) := by decide +kernel
theorem d_Mod_read_218 : decode b_Mod_read 218 = .ok (.iload_n 1, 1) := by decide +kernel
theorem d_Mod_read_219 : decode b_Mod_read 219 = .ok (.ifCond .eq 16, 3) := by decide +kernel
theorem d_Mod_read_222 : decode b_Mod_read 222 = .ok (.aload_n 0, 1) := by decide +kernel
theorem d_Mod_read_223 : decode b_Mod_read 223 = .ok (.iconst 0, 1) := by decide +kernel
theorem d_Mod_read_224 : decode b_Mod_read 224 = .ok (.bipush 80, 2) := by decide +kernel
theorem d_Mod_read_226 : decode b_Mod_read 226 = .ok (.bipush 12, 2) := by decide +kernel
theorem d_Mod_read_228 : decode b_Mod_read 228 = .ok (.invokevirtual 178, 3) := by decide +kernel
theorem d_Mod_read_231 : decode b_Mod_read 231 = .ok (.aload_n 0, 1) := by decide +kernel
theorem d_Mod_read_232 : decode b_Mod_read 232 = .ok (.invokevirtual 182, 3) := by decide +kernel
theorem d_Mod_read_235 : decode b_Mod_read 235 = .ok (.aload_n 0, 1) := by decide +kernel
theorem d_Mod_read_236 : decode b_Mod_read 236 = .ok (.getfield 130, 3) := by decide +kernel
theorem d_Mod_read_239 : decode b_Mod_read 239 = .ok (.ireturn, 1) := by decide +kernel
abbrev b_Mod_place : ByteArray := prog_8_method_22_code
def y_Mod_place : MethodName := ⟨R_Mod, "place", "()I"⟩
theorem d_Mod_place_0 : decode b_Mod_place 0 = .ok (.aload_n 0, 1) := by decide +kernel
theorem d_Mod_place_1 : decode b_Mod_place 1 = .ok (.getfield 16, 3) := by decide +kernel
theorem d_Mod_place_4 : decode b_Mod_place 4 = .ok (.ireturn, 1) := by decide +kernel
abbrev b_Mod_byteOf : ByteArray := prog_8_method_23_code
def y_Mod_byteOf : MethodName := ⟨R_Mod, "byteOf", "(I)I"⟩
theorem d_Mod_byteOf_0 : decode b_Mod_byteOf 0 = .ok (.iload_n 1, 1) := by decide +kernel
theorem d_Mod_byteOf_1 : decode b_Mod_byteOf 1 = .ok (.ifCond .lt 20, 3) := by decide +kernel
theorem d_Mod_byteOf_4 : decode b_Mod_byteOf 4 = .ok (.iload_n 1, 1) := by decide +kernel
theorem d_Mod_byteOf_5 : decode b_Mod_byteOf 5 = .ok (.aload_n 0, 1) := by decide +kernel
theorem d_Mod_byteOf_6 : decode b_Mod_byteOf 6 = .ok (.getfield 146, 3) := by decide +kernel
theorem d_Mod_byteOf_9 : decode b_Mod_byteOf 9 = .ok (.if_icmp .ge 12, 3) := by decide +kernel
theorem d_Mod_byteOf_12 : decode b_Mod_byteOf 12 = .ok (.aload_n 0, 1) := by decide +kernel
theorem d_Mod_byteOf_13 : decode b_Mod_byteOf 13 = .ok (.getfield 13, 3) := by decide +kernel
theorem d_Mod_byteOf_16 : decode b_Mod_byteOf 16 = .ok (.iload_n 1, 1) := by decide +kernel
theorem d_Mod_byteOf_17 : decode b_Mod_byteOf 17 = .ok (.iaload, 1) := by decide +kernel
theorem d_Mod_byteOf_18 : decode b_Mod_byteOf 18 = .ok (.goto 4, 3) := by decide +kernel
theorem d_Mod_byteOf_21 : decode b_Mod_byteOf 21 = .ok (.iconst (-1), 1) := by decide +kernel
theorem d_Mod_byteOf_22 : decode b_Mod_byteOf 22 = .ok (.ireturn, 1) := by decide +kernel
abbrev b_Mod_head : ByteArray := prog_8_method_24_code
def y_Mod_head : MethodName := ⟨R_Mod, "head", "(I)J"⟩
theorem d_Mod_head_0 : decode b_Mod_head 0 = .ok (.aload_n 0, 1) := by decide +kernel
theorem d_Mod_head_1 : decode b_Mod_head 1 = .ok (.getfield 172, 3) := by decide +kernel
theorem d_Mod_head_4 : decode b_Mod_head 4 = .ok (.ifCond .eq 12, 3) := by decide +kernel
theorem d_Mod_head_7 : decode b_Mod_head 7 = .ok (.iload_n 1, 1) := by decide +kernel
theorem d_Mod_head_8 : decode b_Mod_head 8 = .ok (.ifCond .lt 8, 3) := by decide +kernel
theorem d_Mod_head_11 : decode b_Mod_head 11 = .ok (.iload_n 1, 1) := by decide +kernel
theorem d_Mod_head_12 : decode b_Mod_head 12 = .ok (.iconst 3, 1) := by decide +kernel
theorem d_Mod_head_13 : decode b_Mod_head 13 = .ok (.if_icmp .le 7, 3) := by decide +kernel
theorem d_Mod_head_16 : decode b_Mod_head 16 = .ok (.ldc2_w 185, 3) := by decide +kernel
theorem d_Mod_head_19 : decode b_Mod_head 19 = .ok (.lreturn, 1) := by decide +kernel
theorem d_Mod_head_20 : decode b_Mod_head 20 = .ok (.aload_n 0, 1) := by decide +kernel
theorem d_Mod_head_21 : decode b_Mod_head 21 = .ok (.iload_n 1, 1) := by decide +kernel
theorem d_Mod_head_22 : decode b_Mod_head 22 = .ok (.ifCond .ne 7, 3) := by decide +kernel
theorem d_Mod_head_25 : decode b_Mod_head 25 = .ok (.iconst 0, 1) := by decide +kernel
theorem d_Mod_head_26 : decode b_Mod_head 26 = .ok (.goto 9, 3) := by decide +kernel
theorem d_Mod_head_29 : decode b_Mod_head 29 = .ok (.bipush 64, 2) := by decide +kernel
theorem d_Mod_head_31 : decode b_Mod_head 31 = .ok (.iconst 4, 1) := by decide +kernel
theorem d_Mod_head_32 : decode b_Mod_head 32 = .ok (.iload_n 1, 1) := by decide +kernel
theorem d_Mod_head_33 : decode b_Mod_head 33 = .ok (.imul, 1) := by decide +kernel
theorem d_Mod_head_34 : decode b_Mod_head 34 = .ok (.iadd, 1) := by decide +kernel
theorem d_Mod_head_35 : decode b_Mod_head 35 = .ok (.iconst 4, 1) := by decide +kernel
theorem d_Mod_head_36 : decode b_Mod_head 36 = .ok (.invokevirtual 156, 3) := by decide +kernel
theorem d_Mod_head_39 : decode b_Mod_head 39 = .ok (.lreturn, 1) := by decide +kernel
abbrev b_Mod_isTransaction : ByteArray := prog_8_method_25_code
def y_Mod_isTransaction : MethodName := ⟨R_Mod, "isTransaction", "(I)Z"⟩
theorem d_Mod_isTransaction_0 : decode b_Mod_isTransaction 0 = .ok (.iload_n 1, 1) := by decide +kernel
theorem d_Mod_isTransaction_1 : decode b_Mod_isTransaction 1 = .ok (.ifCond .lt 15, 3) := by decide +kernel
theorem d_Mod_isTransaction_4 : decode b_Mod_isTransaction 4 = .ok (.iload_n 1, 1) := by decide +kernel
theorem d_Mod_isTransaction_5 : decode b_Mod_isTransaction 5 = .ok (.aload_n 0, 1) := by decide +kernel
theorem d_Mod_isTransaction_6 : decode b_Mod_isTransaction 6 = .ok (.getfield 130, 3) := by decide +kernel
theorem d_Mod_isTransaction_9 : decode b_Mod_isTransaction 9 = .ok (.if_icmp .ge 7, 3) := by decide +kernel
theorem d_Mod_isTransaction_12 : decode b_Mod_isTransaction 12 = .ok (.iconst 1, 1) := by decide +kernel
theorem d_Mod_isTransaction_13 : decode b_Mod_isTransaction 13 = .ok (.goto 4, 3) := by decide +kernel
theorem d_Mod_isTransaction_16 : decode b_Mod_isTransaction 16 = .ok (.iconst 0, 1) := by decide +kernel
theorem d_Mod_isTransaction_17 : decode b_Mod_isTransaction 17 = .ok (.ireturn, 1) := by decide +kernel
abbrev b_Mod_look : ByteArray := prog_8_method_26_code
def y_Mod_look : MethodName := ⟨R_Mod, "look", "(II)J"⟩
theorem d_Mod_look_0 : decode b_Mod_look 0 = .ok (.aload_n 0, 1) := by decide +kernel
theorem d_Mod_look_1 : decode b_Mod_look 1 = .ok (.iload_n 1, 1) := by decide +kernel
theorem d_Mod_look_2 : decode b_Mod_look 2 = .ok (.invokevirtual 187, 3) := by decide +kernel
theorem d_Mod_look_5 : decode b_Mod_look 5 = .ok (.ifCond .ne 7, 3) := by decide +kernel
theorem d_Mod_look_8 : decode b_Mod_look 8 = .ok (.ldc2_w 185, 3) := by decide +kernel
theorem d_Mod_look_11 : decode b_Mod_look 11 = .ok (.lreturn, 1) := by decide +kernel
theorem d_Mod_look_12 : decode b_Mod_look 12 = .ok (.iload_n 2, 1) := by decide +kernel
theorem d_Mod_look_13 : decode b_Mod_look 13 = .ok (.tableswitch 104 0 5 #[39, 51, 59, 67, 81, 89], 39) := by decide +kernel
theorem d_Mod_look_52 : decode b_Mod_look 52 = .ok (.aload_n 0, 1) := by decide +kernel
theorem d_Mod_look_53 : decode b_Mod_look 53 = .ok (.aload_n 0, 1) := by decide +kernel
theorem d_Mod_look_54 : decode b_Mod_look 54 = .ok (.getfield 20, 3) := by decide +kernel
theorem d_Mod_look_57 : decode b_Mod_look 57 = .ok (.iload_n 1, 1) := by decide +kernel
theorem d_Mod_look_58 : decode b_Mod_look 58 = .ok (.iaload, 1) := by decide +kernel
theorem d_Mod_look_59 : decode b_Mod_look 59 = .ok (.iconst 4, 1) := by decide +kernel
theorem d_Mod_look_60 : decode b_Mod_look 60 = .ok (.invokevirtual 156, 3) := by decide +kernel
theorem d_Mod_look_63 : decode b_Mod_look 63 = .ok (.lreturn, 1) := by decide +kernel
theorem d_Mod_look_64 : decode b_Mod_look 64 = .ok (.aload_n 0, 1) := by decide +kernel
theorem d_Mod_look_65 : decode b_Mod_look 65 = .ok (.getfield 26, 3) := by decide +kernel
theorem d_Mod_look_68 : decode b_Mod_look 68 = .ok (.iload_n 1, 1) := by decide +kernel
theorem d_Mod_look_69 : decode b_Mod_look 69 = .ok (.iaload, 1) := by decide +kernel
theorem d_Mod_look_70 : decode b_Mod_look 70 = .ok (.i2l, 1) := by decide +kernel
theorem d_Mod_look_71 : decode b_Mod_look 71 = .ok (.lreturn, 1) := by decide +kernel
theorem d_Mod_look_72 : decode b_Mod_look 72 = .ok (.aload_n 0, 1) := by decide +kernel
theorem d_Mod_look_73 : decode b_Mod_look 73 = .ok (.getfield 29, 3) := by decide +kernel
theorem d_Mod_look_76 : decode b_Mod_look 76 = .ok (.iload_n 1, 1) := by decide +kernel
theorem d_Mod_look_77 : decode b_Mod_look 77 = .ok (.iaload, 1) := by decide +kernel
theorem d_Mod_look_78 : decode b_Mod_look 78 = .ok (.i2l, 1) := by decide +kernel
theorem d_Mod_look_79 : decode b_Mod_look 79 = .ok (.lreturn, 1) := by decide +kernel
theorem d_Mod_look_80 : decode b_Mod_look 80 = .ok (.aload_n 0, 1) := by decide +kernel
theorem d_Mod_look_81 : decode b_Mod_look 81 = .ok (.aload_n 0, 1) := by decide +kernel
theorem d_Mod_look_82 : decode b_Mod_look 82 = .ok (.getfield 23, 3) := by decide +kernel
theorem d_Mod_look_85 : decode b_Mod_look 85 = .ok (.iload_n 1, 1) := by decide +kernel
theorem d_Mod_look_86 : decode b_Mod_look 86 = .ok (.iaload, 1) := by decide +kernel
theorem d_Mod_look_87 : decode b_Mod_look 87 = .ok (.iconst 4, 1) := by decide +kernel
theorem d_Mod_look_88 : decode b_Mod_look 88 = .ok (.isub, 1) := by decide +kernel
theorem d_Mod_look_89 : decode b_Mod_look 89 = .ok (.iconst 4, 1) := by decide +kernel
theorem d_Mod_look_90 : decode b_Mod_look 90 = .ok (.invokevirtual 156, 3) := by decide +kernel
theorem d_Mod_look_93 : decode b_Mod_look 93 = .ok (.lreturn, 1) := by decide +kernel
theorem d_Mod_look_94 : decode b_Mod_look 94 = .ok (.aload_n 0, 1) := by decide +kernel
theorem d_Mod_look_95 : decode b_Mod_look 95 = .ok (.getfield 20, 3) := by decide +kernel
theorem d_Mod_look_98 : decode b_Mod_look 98 = .ok (.iload_n 1, 1) := by decide +kernel
theorem d_Mod_look_99 : decode b_Mod_look 99 = .ok (.iaload, 1) := by decide +kernel
theorem d_Mod_look_100 : decode b_Mod_look 100 = .ok (.i2l, 1) := by decide +kernel
theorem d_Mod_look_101 : decode b_Mod_look 101 = .ok (.lreturn, 1) := by decide +kernel
theorem d_Mod_look_102 : decode b_Mod_look 102 = .ok (.aload_n 0, 1) := by decide +kernel
theorem d_Mod_look_103 : decode b_Mod_look 103 = .ok (.getfield 23, 3) := by decide +kernel
theorem d_Mod_look_106 : decode b_Mod_look 106 = .ok (.iload_n 1, 1) := by decide +kernel
theorem d_Mod_look_107 : decode b_Mod_look 107 = .ok (.iaload, 1) := by decide +kernel
theorem d_Mod_look_108 : decode b_Mod_look 108 = .ok (.aload_n 0, 1) := by decide +kernel
theorem d_Mod_look_109 : decode b_Mod_look 109 = .ok (.getfield 20, 3) := by decide +kernel
theorem d_Mod_look_112 : decode b_Mod_look 112 = .ok (.iload_n 1, 1) := by decide +kernel
theorem d_Mod_look_113 : decode b_Mod_look 113 = .ok (.iaload, 1) := by decide +kernel
theorem d_Mod_look_114 : decode b_Mod_look 114 = .ok (.isub, 1) := by decide +kernel
theorem d_Mod_look_115 : decode b_Mod_look 115 = .ok (.i2l, 1) := by decide +kernel
theorem d_Mod_look_116 : decode b_Mod_look 116 = .ok (.lreturn, 1) := by decide +kernel
theorem d_Mod_look_117 : decode b_Mod_look 117 = .ok (.ldc2_w 185, 3) := by decide +kernel
theorem d_Mod_look_120 : decode b_Mod_look 120 = .ok (.lreturn, 1) := by decide +kernel
abbrev b_Mod_input : ByteArray := prog_8_method_27_code
def y_Mod_input : MethodName := ⟨R_Mod, "input", "(III)J"⟩
theorem d_Mod_input_0 : decode b_Mod_input 0 = .ok (.aload_n 0, 1) := by decide +kernel
theorem d_Mod_input_1 : decode b_Mod_input 1 = .ok (.iload_n 1, 1) := by decide +kernel
theorem d_Mod_input_2 : decode b_Mod_input 2 = .ok (.invokevirtual 187, 3) := by decide +kernel
theorem d_Mod_input_5 : decode b_Mod_input 5 = .ok (.ifCond .eq 17, 3) := by decide +kernel
theorem d_Mod_input_8 : decode b_Mod_input 8 = .ok (.iload_n 2, 1) := by decide +kernel
theorem d_Mod_input_9 : decode b_Mod_input 9 = .ok (.ifCond .lt 13, 3) := by decide +kernel
theorem d_Mod_input_12 : decode b_Mod_input 12 = .ok (.iload_n 2, 1) := by decide +kernel
theorem d_Mod_input_13 : decode b_Mod_input 13 = .ok (.aload_n 0, 1) := by decide +kernel
theorem d_Mod_input_14 : decode b_Mod_input 14 = .ok (.getfield 26, 3) := by decide +kernel
theorem d_Mod_input_17 : decode b_Mod_input 17 = .ok (.iload_n 1, 1) := by decide +kernel
theorem d_Mod_input_18 : decode b_Mod_input 18 = .ok (.iaload, 1) := by decide +kernel
theorem d_Mod_input_19 : decode b_Mod_input 19 = .ok (.if_icmp .lt 7, 3) := by decide +kernel
theorem d_Mod_input_22 : decode b_Mod_input 22 = .ok (.ldc2_w 185, 3) := by decide +kernel
theorem d_Mod_input_25 : decode b_Mod_input 25 = .ok (.lreturn, 1) := by decide +kernel
theorem d_Mod_input_26 : decode b_Mod_input 26 = .ok (.bipush 8, 2) := by decide +kernel
theorem d_Mod_input_28 : decode b_Mod_input 28 = .ok (.iload_n 1, 1) := by decide +kernel
theorem d_Mod_input_29 : decode b_Mod_input 29 = .ok (.imul, 1) := by decide +kernel
theorem d_Mod_input_30 : decode b_Mod_input 30 = .ok (.iload_n 2, 1) := by decide +kernel
theorem d_Mod_input_31 : decode b_Mod_input 31 = .ok (.iadd, 1) := by decide +kernel
theorem d_Mod_input_32 : decode b_Mod_input 32 = .ok (.istore 4, 2) := by decide +kernel
theorem d_Mod_input_34 : decode b_Mod_input 34 = .ok (.iload_n 3, 1) := by decide +kernel
theorem d_Mod_input_35 : decode b_Mod_input 35 = .ok (.tableswitch 97 0 4 #[33, 42, 58, 67, 76], 33) := by decide +kernel
theorem d_Mod_input_68 : decode b_Mod_input 68 = .ok (.aload_n 0, 1) := by decide +kernel
theorem d_Mod_input_69 : decode b_Mod_input 69 = .ok (.getfield 32, 3) := by decide +kernel
theorem d_Mod_input_72 : decode b_Mod_input 72 = .ok (.iload 4, 2) := by decide +kernel
theorem d_Mod_input_74 : decode b_Mod_input 74 = .ok (.iaload, 1) := by decide +kernel
theorem d_Mod_input_75 : decode b_Mod_input 75 = .ok (.i2l, 1) := by decide +kernel
theorem d_Mod_input_76 : decode b_Mod_input 76 = .ok (.lreturn, 1) := by decide +kernel
theorem d_Mod_input_77 : decode b_Mod_input 77 = .ok (.aload_n 0, 1) := by decide +kernel
theorem d_Mod_input_78 : decode b_Mod_input 78 = .ok (.aload_n 0, 1) := by decide +kernel
theorem d_Mod_input_79 : decode b_Mod_input 79 = .ok (.getfield 32, 3) := by decide +kernel
theorem d_Mod_input_82 : decode b_Mod_input 82 = .ok (.iload 4, 2) := by decide +kernel
theorem d_Mod_input_84 : decode b_Mod_input 84 = .ok (.iaload, 1) := by decide +kernel
theorem d_Mod_input_85 : decode b_Mod_input 85 = .ok (.bipush 32, 2) := by decide +kernel
theorem d_Mod_input_87 : decode b_Mod_input 87 = .ok (.iadd, 1) := by decide +kernel
theorem d_Mod_input_88 : decode b_Mod_input 88 = .ok (.iconst 4, 1) := by decide +kernel
theorem d_Mod_input_89 : decode b_Mod_input 89 = .ok (.invokevirtual 156, 3) := by decide +kernel
theorem d_Mod_input_92 : decode b_Mod_input 92 = .ok (.lreturn, 1) := by decide +kernel
theorem d_Mod_input_93 : decode b_Mod_input 93 = .ok (.aload_n 0, 1) := by decide +kernel
theorem d_Mod_input_94 : decode b_Mod_input 94 = .ok (.getfield 35, 3) := by decide +kernel
theorem d_Mod_input_97 : decode b_Mod_input 97 = .ok (.iload 4, 2) := by decide +kernel
theorem d_Mod_input_99 : decode b_Mod_input 99 = .ok (.iaload, 1) := by decide +kernel
theorem d_Mod_input_100 : decode b_Mod_input 100 = .ok (.i2l, 1) := by decide +kernel
theorem d_Mod_input_101 : decode b_Mod_input 101 = .ok (.lreturn, 1) := by decide +kernel
theorem d_Mod_input_102 : decode b_Mod_input 102 = .ok (.aload_n 0, 1) := by decide +kernel
theorem d_Mod_input_103 : decode b_Mod_input 103 = .ok (.getfield 38, 3) := by decide +kernel
theorem d_Mod_input_106 : decode b_Mod_input 106 = .ok (.iload 4, 2) := by decide +kernel
theorem d_Mod_input_108 : decode b_Mod_input 108 = .ok (.iaload, 1) := by decide +kernel
theorem d_Mod_input_109 : decode b_Mod_input 109 = .ok (.i2l, 1) := by decide +kernel
theorem d_Mod_input_110 : decode b_Mod_input 110 = .ok (.lreturn, 1) := by decide +kernel
theorem d_Mod_input_111 : decode b_Mod_input 111 = .ok (.aload_n 0, 1) := by decide +kernel
theorem d_Mod_input_112 : decode b_Mod_input 112 = .ok (.aload_n 0, 1) := by decide +kernel
theorem d_Mod_input_113 : decode b_Mod_input 113 = .ok (.getfield 35, 3) := by decide +kernel
theorem d_Mod_input_116 : decode b_Mod_input 116 = .ok (.iload 4, 2) := by decide +kernel
theorem d_Mod_input_118 : decode b_Mod_input 118 = .ok (.iaload, 1) := by decide +kernel
theorem d_Mod_input_119 : decode b_Mod_input 119 = .ok (.aload_n 0, 1) := by decide +kernel
theorem d_Mod_input_120 : decode b_Mod_input 120 = .ok (.getfield 38, 3) := by decide +kernel
theorem d_Mod_input_123 : decode b_Mod_input 123 = .ok (.iload 4, 2) := by decide +kernel
theorem d_Mod_input_125 : decode b_Mod_input 125 = .ok (.iaload, 1) := by decide +kernel
theorem d_Mod_input_126 : decode b_Mod_input 126 = .ok (.iadd, 1) := by decide +kernel
theorem d_Mod_input_127 : decode b_Mod_input 127 = .ok (.iconst 4, 1) := by decide +kernel
theorem d_Mod_input_128 : decode b_Mod_input 128 = .ok (.invokevirtual 156, 3) := by decide +kernel
theorem d_Mod_input_131 : decode b_Mod_input 131 = .ok (.lreturn, 1) := by decide +kernel
theorem d_Mod_input_132 : decode b_Mod_input 132 = .ok (.ldc2_w 185, 3) := by decide +kernel
theorem d_Mod_input_135 : decode b_Mod_input 135 = .ok (.lreturn, 1) := by decide +kernel
abbrev b_Mod_output : ByteArray := prog_8_method_28_code
def y_Mod_output : MethodName := ⟨R_Mod, "output", "(III)J"⟩
theorem d_Mod_output_0 : decode b_Mod_output 0 = .ok (.aload_n 0, 1) := by decide +kernel
theorem d_Mod_output_1 : decode b_Mod_output 1 = .ok (.iload_n 1, 1) := by decide +kernel
theorem d_Mod_output_2 : decode b_Mod_output 2 = .ok (.invokevirtual 187, 3) := by decide +kernel
theorem d_Mod_output_5 : decode b_Mod_output 5 = .ok (.ifCond .eq 17, 3) := by decide +kernel
theorem d_Mod_output_8 : decode b_Mod_output 8 = .ok (.iload_n 2, 1) := by decide +kernel
theorem d_Mod_output_9 : decode b_Mod_output 9 = .ok (.ifCond .lt 13, 3) := by decide +kernel
theorem d_Mod_output_12 : decode b_Mod_output 12 = .ok (.iload_n 2, 1) := by decide +kernel
theorem d_Mod_output_13 : decode b_Mod_output 13 = .ok (.aload_n 0, 1) := by decide +kernel
theorem d_Mod_output_14 : decode b_Mod_output 14 = .ok (.getfield 29, 3) := by decide +kernel
theorem d_Mod_output_17 : decode b_Mod_output 17 = .ok (.iload_n 1, 1) := by decide +kernel
theorem d_Mod_output_18 : decode b_Mod_output 18 = .ok (.iaload, 1) := by decide +kernel
theorem d_Mod_output_19 : decode b_Mod_output 19 = .ok (.if_icmp .lt 7, 3) := by decide +kernel
theorem d_Mod_output_22 : decode b_Mod_output 22 = .ok (.ldc2_w 185, 3) := by decide +kernel
theorem d_Mod_output_25 : decode b_Mod_output 25 = .ok (.lreturn, 1) := by decide +kernel
theorem d_Mod_output_26 : decode b_Mod_output 26 = .ok (.bipush 8, 2) := by decide +kernel
theorem d_Mod_output_28 : decode b_Mod_output 28 = .ok (.iload_n 1, 1) := by decide +kernel
theorem d_Mod_output_29 : decode b_Mod_output 29 = .ok (.imul, 1) := by decide +kernel
theorem d_Mod_output_30 : decode b_Mod_output 30 = .ok (.iload_n 2, 1) := by decide +kernel
theorem d_Mod_output_31 : decode b_Mod_output 31 = .ok (.iadd, 1) := by decide +kernel
theorem d_Mod_output_32 : decode b_Mod_output 32 = .ok (.istore 4, 2) := by decide +kernel
theorem d_Mod_output_34 : decode b_Mod_output 34 = .ok (.iload_n 3, 1) := by decide +kernel
theorem d_Mod_output_35 : decode b_Mod_output 35 = .ok (.tableswitch 57 0 2 #[25, 39, 48], 25) := by decide +kernel
theorem d_Mod_output_60 : decode b_Mod_output 60 = .ok (.aload_n 0, 1) := by decide +kernel
theorem d_Mod_output_61 : decode b_Mod_output 61 = .ok (.aload_n 0, 1) := by decide +kernel
theorem d_Mod_output_62 : decode b_Mod_output 62 = .ok (.getfield 41, 3) := by decide +kernel
theorem d_Mod_output_65 : decode b_Mod_output 65 = .ok (.iload 4, 2) := by decide +kernel
theorem d_Mod_output_67 : decode b_Mod_output 67 = .ok (.iaload, 1) := by decide +kernel
theorem d_Mod_output_68 : decode b_Mod_output 68 = .ok (.bipush 8, 2) := by decide +kernel
theorem d_Mod_output_70 : decode b_Mod_output 70 = .ok (.invokevirtual 156, 3) := by decide +kernel
theorem d_Mod_output_73 : decode b_Mod_output 73 = .ok (.lreturn, 1) := by decide +kernel
theorem d_Mod_output_74 : decode b_Mod_output 74 = .ok (.aload_n 0, 1) := by decide +kernel
theorem d_Mod_output_75 : decode b_Mod_output 75 = .ok (.getfield 44, 3) := by decide +kernel
theorem d_Mod_output_78 : decode b_Mod_output 78 = .ok (.iload 4, 2) := by decide +kernel
theorem d_Mod_output_80 : decode b_Mod_output 80 = .ok (.iaload, 1) := by decide +kernel
theorem d_Mod_output_81 : decode b_Mod_output 81 = .ok (.i2l, 1) := by decide +kernel
theorem d_Mod_output_82 : decode b_Mod_output 82 = .ok (.lreturn, 1) := by decide +kernel
theorem d_Mod_output_83 : decode b_Mod_output 83 = .ok (.aload_n 0, 1) := by decide +kernel
theorem d_Mod_output_84 : decode b_Mod_output 84 = .ok (.getfield 47, 3) := by decide +kernel
theorem d_Mod_output_87 : decode b_Mod_output 87 = .ok (.iload 4, 2) := by decide +kernel
theorem d_Mod_output_89 : decode b_Mod_output 89 = .ok (.iaload, 1) := by decide +kernel
theorem d_Mod_output_90 : decode b_Mod_output 90 = .ok (.i2l, 1) := by decide +kernel
theorem d_Mod_output_91 : decode b_Mod_output 91 = .ok (.lreturn, 1) := by decide +kernel
theorem d_Mod_output_92 : decode b_Mod_output 92 = .ok (.ldc2_w 185, 3) := by decide +kernel
theorem d_Mod_output_95 : decode b_Mod_output 95 = .ok (.lreturn, 1) := by decide +kernel
abbrev b_Mod_name : ByteArray := prog_8_method_29_code
def y_Mod_name : MethodName := ⟨R_Mod, "name", "(II)J"⟩
theorem d_Mod_name_0 : decode b_Mod_name 0 = .ok (.iload_n 2, 1) := by decide +kernel
theorem d_Mod_name_1 : decode b_Mod_name 1 = .ok (.ifCond .lt 36, 3) := by decide +kernel
theorem d_Mod_name_4 : decode b_Mod_name 4 = .ok (.iload_n 2, 1) := by decide +kernel
theorem d_Mod_name_5 : decode b_Mod_name 5 = .ok (.iconst 3, 1) := by decide +kernel
theorem d_Mod_name_6 : decode b_Mod_name 6 = .ok (.if_icmp .gt 31, 3) := by decide +kernel
theorem d_Mod_name_9 : decode b_Mod_name 9 = .ok (.iload_n 1, 1) := by decide +kernel
theorem d_Mod_name_10 : decode b_Mod_name 10 = .ok (.bipush (-3), 2) := by decide +kernel
theorem d_Mod_name_12 : decode b_Mod_name 12 = .ok (.if_icmp .lt 25, 3) := by decide +kernel
theorem d_Mod_name_15 : decode b_Mod_name 15 = .ok (.iload_n 1, 1) := by decide +kernel
theorem d_Mod_name_16 : decode b_Mod_name 16 = .ok (.ifCond .ge 13, 3) := by decide +kernel
theorem d_Mod_name_19 : decode b_Mod_name 19 = .ok (.aload_n 0, 1) := by decide +kernel
theorem d_Mod_name_20 : decode b_Mod_name 20 = .ok (.getfield 172, 3) := by decide +kernel
theorem d_Mod_name_23 : decode b_Mod_name 23 = .ok (.ifCond .ne 16, 3) := by decide +kernel
theorem d_Mod_name_26 : decode b_Mod_name 26 = .ok (.goto 11, 3) := by decide +kernel
theorem d_Mod_name_29 : decode b_Mod_name 29 = .ok (.iload_n 1, 1) := by decide +kernel
theorem d_Mod_name_30 : decode b_Mod_name 30 = .ok (.aload_n 0, 1) := by decide +kernel
theorem d_Mod_name_31 : decode b_Mod_name 31 = .ok (.getfield 130, 3) := by decide +kernel
theorem d_Mod_name_34 : decode b_Mod_name 34 = .ok (.if_icmp .lt 5, 3) := by decide +kernel
theorem d_Mod_name_37 : decode b_Mod_name 37 = .ok (.lconst 0, 1) := by decide +kernel
theorem d_Mod_name_38 : decode b_Mod_name 38 = .ok (.lreturn, 1) := by decide +kernel
theorem d_Mod_name_39 : decode b_Mod_name 39 = .ok (.lconst 0, 1) := by decide +kernel
theorem d_Mod_name_40 : decode b_Mod_name 40 = .ok (.lstore_n 3, 1) := by decide +kernel
theorem d_Mod_name_41 : decode b_Mod_name 41 = .ok (.bipush 8, 2) := by decide +kernel
theorem d_Mod_name_43 : decode b_Mod_name 43 = .ok (.iload_n 2, 1) := by decide +kernel
theorem d_Mod_name_44 : decode b_Mod_name 44 = .ok (.imul, 1) := by decide +kernel
theorem d_Mod_name_45 : decode b_Mod_name 45 = .ok (.istore 5, 2) := by decide +kernel
theorem d_Mod_name_47 : decode b_Mod_name 47 = .ok (.iload 5, 2) := by decide +kernel
theorem d_Mod_name_49 : decode b_Mod_name 49 = .ok (.bipush 8, 2) := by decide +kernel
theorem d_Mod_name_51 : decode b_Mod_name 51 = .ok (.iload_n 2, 1) := by decide +kernel
theorem d_Mod_name_52 : decode b_Mod_name 52 = .ok (.imul, 1) := by decide +kernel
theorem d_Mod_name_53 : decode b_Mod_name 53 = .ok (.bipush 8, 2) := by decide +kernel
theorem d_Mod_name_55 : decode b_Mod_name 55 = .ok (.iadd, 1) := by decide +kernel
theorem d_Mod_name_56 : decode b_Mod_name 56 = .ok (.if_icmp .ge 73, 3) := by decide +kernel
theorem d_Mod_name_59 : decode b_Mod_name 59 = .ok (.lload_n 3, 1) := by decide +kernel
theorem d_Mod_name_60 : decode b_Mod_name 60 = .ok (.bipush 8, 2) := by decide +kernel
theorem d_Mod_name_62 : decode b_Mod_name 62 = .ok (.lshl, 1) := by decide +kernel
theorem d_Mod_name_63 : decode b_Mod_name 63 = .ok (.iload_n 1, 1) := by decide +kernel
theorem d_Mod_name_64 : decode b_Mod_name 64 = .ok (.bipush (-2), 2) := by decide +kernel
theorem d_Mod_name_66 : decode b_Mod_name 66 = .ok (.if_icmp .ne 16, 3) := by decide +kernel
theorem d_Mod_name_69 : decode b_Mod_name 69 = .ok (.aload_n 0, 1) := by decide +kernel
theorem d_Mod_name_70 : decode b_Mod_name 70 = .ok (.getfield 13, 3) := by decide +kernel
theorem d_Mod_name_73 : decode b_Mod_name 73 = .ok (.bipush 36, 2) := by decide +kernel
theorem d_Mod_name_75 : decode b_Mod_name 75 = .ok (.iload 5, 2) := by decide +kernel
theorem d_Mod_name_77 : decode b_Mod_name 77 = .ok (.iadd, 1) := by decide +kernel
theorem d_Mod_name_78 : decode b_Mod_name 78 = .ok (.iaload, 1) := by decide +kernel
theorem d_Mod_name_79 : decode b_Mod_name 79 = .ok (.goto 41, 3) := by decide +kernel
theorem d_Mod_name_82 : decode b_Mod_name 82 = .ok (.iload_n 1, 1) := by decide +kernel
theorem d_Mod_name_83 : decode b_Mod_name 83 = .ok (.bipush (-3), 2) := by decide +kernel
theorem d_Mod_name_85 : decode b_Mod_name 85 = .ok (.if_icmp .ne 13, 3) := by decide +kernel
theorem d_Mod_name_88 : decode b_Mod_name 88 = .ok (.aload_n 0, 1) := by decide +kernel
theorem d_Mod_name_89 : decode b_Mod_name 89 = .ok (.getfield 56, 3) := by decide +kernel
theorem d_Mod_name_92 : decode b_Mod_name 92 = .ok (.iload 5, 2) := by decide +kernel
theorem d_Mod_name_94 : decode b_Mod_name 94 = .ok (.iaload, 1) := by decide +kernel
theorem d_Mod_name_95 : decode b_Mod_name 95 = .ok (.goto 25, 3) := by decide +kernel
theorem d_Mod_name_98 : decode b_Mod_name 98 = .ok (.aload_n 0, 1) := by decide +kernel
theorem d_Mod_name_99 : decode b_Mod_name 99 = .ok (.getfield 50, 3) := by decide +kernel
theorem d_Mod_name_102 : decode b_Mod_name 102 = .ok (.bipush 32, 2) := by decide +kernel
theorem d_Mod_name_104 : decode b_Mod_name 104 = .ok (.iload_n 1, 1) := by decide +kernel
theorem d_Mod_name_105 : decode b_Mod_name 105 = .ok (.iconst (-1), 1) := by decide +kernel
theorem d_Mod_name_106 : decode b_Mod_name 106 = .ok (.if_icmp .ne 8, 3) := by decide +kernel
theorem d_Mod_name_109 : decode b_Mod_name 109 = .ok (.bipush 12, 2) := by decide +kernel
theorem d_Mod_name_111 : decode b_Mod_name 111 = .ok (.goto 4, 3) := by decide +kernel
theorem d_Mod_name_114 : decode b_Mod_name 114 = .ok (.iload_n 1, 1) := by decide +kernel
theorem d_Mod_name_115 : decode b_Mod_name 115 = .ok (.imul, 1) := by decide +kernel
theorem d_Mod_name_116 : decode b_Mod_name 116 = .ok (.iload 5, 2) := by decide +kernel
theorem d_Mod_name_118 : decode b_Mod_name 118 = .ok (.iadd, 1) := by decide +kernel
theorem d_Mod_name_119 : decode b_Mod_name 119 = .ok (.iaload, 1) := by decide +kernel
theorem d_Mod_name_120 : decode b_Mod_name 120 = .ok (.i2l, 1) := by decide +kernel
theorem d_Mod_name_121 : decode b_Mod_name 121 = .ok (.lor, 1) := by decide +kernel
theorem d_Mod_name_122 : decode b_Mod_name 122 = .ok (.lstore_n 3, 1) := by decide +kernel
theorem d_Mod_name_123 : decode b_Mod_name 123 = .ok (.iinc 5 1, 3) := by decide +kernel
theorem d_Mod_name_126 : decode b_Mod_name 126 = .ok (.goto (-79), 3) := by decide +kernel
theorem d_Mod_name_129 : decode b_Mod_name 129 = .ok (.lload_n 3, 1) := by decide +kernel
theorem d_Mod_name_130 : decode b_Mod_name 130 = .ok (.lreturn, 1) := by decide +kernel
abbrev b_Mod_isDoubtful : ByteArray := prog_8_method_30_code
def y_Mod_isDoubtful : MethodName := ⟨R_Mod, "isDoubtful", "()Z"⟩
theorem d_Mod_isDoubtful_0 : decode b_Mod_isDoubtful 0 = .ok (.aload_n 0, 1) := by decide +kernel
theorem d_Mod_isDoubtful_1 : decode b_Mod_isDoubtful 1 = .ok (.getfield 172, 3) := by decide +kernel
theorem d_Mod_isDoubtful_4 : decode b_Mod_isDoubtful 4 = .ok (.ifCond .eq 14, 3) := by decide +kernel
theorem d_Mod_isDoubtful_7 : decode b_Mod_isDoubtful 7 = .ok (.aload_n 0, 1) := by decide +kernel
theorem d_Mod_isDoubtful_8 : decode b_Mod_isDoubtful 8 = .ok (.getfield 133, 3) := by decide +kernel
theorem d_Mod_isDoubtful_11 : decode b_Mod_isDoubtful 11 = .ok (.ifCond .eq 7, 3) := by decide +kernel
theorem d_Mod_isDoubtful_14 : decode b_Mod_isDoubtful 14 = .ok (.iconst 1, 1) := by decide +kernel
theorem d_Mod_isDoubtful_15 : decode b_Mod_isDoubtful 15 = .ok (.goto 4, 3) := by decide +kernel
theorem d_Mod_isDoubtful_18 : decode b_Mod_isDoubtful 18 = .ok (.iconst 0, 1) := by decide +kernel
theorem d_Mod_isDoubtful_19 : decode b_Mod_isDoubtful 19 = .ok (.ireturn, 1) := by decide +kernel
end
section
theorem d_Law_law_0 : decode code 0 = .ok (.new 7, 3) := by decide +kernel
theorem d_Law_law_3 : decode code 3 = .ok (.dup, 1) := by decide +kernel
theorem d_Law_law_4 : decode code 4 = .ok (.invokespecial 9, 3) := by decide +kernel
theorem d_Law_law_7 : decode code 7 = .ok (.astore_n 1, 1) := by decide +kernel
theorem d_Law_law_8 : decode code 8 = .ok (.new 10, 3) := by decide +kernel
theorem d_Law_law_11 : decode code 11 = .ok (.dup, 1) := by decide +kernel
theorem d_Law_law_12 : decode code 12 = .ok (.invokespecial 12, 3) := by decide +kernel
theorem d_Law_law_15 : decode code 15 = .ok (.astore_n 2, 1) := by decide +kernel
theorem d_Law_law_16 : decode code 16 = .ok (.iconst 0, 1) := by decide +kernel
theorem d_Law_law_17 : decode code 17 = .ok (.istore_n 3, 1) := by decide +kernel
theorem d_Law_law_18 : decode code 18 = .ok (.iload_n 3, 1) := by decide +kernel
theorem d_Law_law_19 : decode code 19 = .ok (.aload_n 0, 1) := by decide +kernel
theorem d_Law_law_20 : decode code 20 = .ok (.arraylength, 1) := by decide +kernel
theorem d_Law_law_21 : decode code 21 = .ok (.iconst 4, 1) := by decide +kernel
theorem d_Law_law_22 : decode code 22 = .ok (.isub, 1) := by decide +kernel
theorem d_Law_law_23 : decode code 23 = .ok (.if_icmp .gt 526, 3) := by decide +kernel
theorem d_Law_law_26 : decode code 26 = .ok (.aload_n 0, 1) := by decide +kernel
theorem d_Law_law_27 : decode code 27 = .ok (.iload_n 3, 1) := by decide +kernel
theorem d_Law_law_28 : decode code 28 = .ok (.iaload, 1) := by decide +kernel
theorem d_Law_law_29 : decode code 29 = .ok (.bipush 15, 2) := by decide +kernel
theorem d_Law_law_31 : decode code 31 = .ok (.iand, 1) := by decide +kernel
theorem d_Law_law_32 : decode code 32 = .ok (.tableswitch 511 0 11 #[64, 127, 190, 243, 282, 295, 318, 342, 376, 420, 464, 498], 64) := by decide +kernel
theorem d_Law_law_96 : decode code 96 = .ok (.aload_n 1, 1) := by decide +kernel
theorem d_Law_law_97 : decode code 97 = .ok (.aload_n 0, 1) := by decide +kernel
theorem d_Law_law_98 : decode code 98 = .ok (.iload_n 3, 1) := by decide +kernel
theorem d_Law_law_99 : decode code 99 = .ok (.iconst 1, 1) := by decide +kernel
theorem d_Law_law_100 : decode code 100 = .ok (.iadd, 1) := by decide +kernel
theorem d_Law_law_101 : decode code 101 = .ok (.iaload, 1) := by decide +kernel
theorem d_Law_law_102 : decode code 102 = .ok (.i2l, 1) := by decide +kernel
theorem d_Law_law_103 : decode code 103 = .ok (.bipush 32, 2) := by decide +kernel
theorem d_Law_law_105 : decode code 105 = .ok (.lshl, 1) := by decide +kernel
theorem d_Law_law_106 : decode code 106 = .ok (.aload_n 0, 1) := by decide +kernel
theorem d_Law_law_107 : decode code 107 = .ok (.iload_n 3, 1) := by decide +kernel
theorem d_Law_law_108 : decode code 108 = .ok (.iconst 2, 1) := by decide +kernel
theorem d_Law_law_109 : decode code 109 = .ok (.iadd, 1) := by decide +kernel
theorem d_Law_law_110 : decode code 110 = .ok (.iaload, 1) := by decide +kernel
theorem d_Law_law_111 : decode code 111 = .ok (.i2l, 1) := by decide +kernel
theorem d_Law_law_112 : decode code 112 = .ok (.ldc2_w 13, 3) := by decide +kernel
theorem d_Law_law_115 : decode code 115 = .ok (.land, 1) := by decide +kernel
theorem d_Law_law_116 : decode code 116 = .ok (.lor, 1) := by decide +kernel
theorem d_Law_law_117 : decode code 117 = .ok (.aload_n 0, 1) := by decide +kernel
theorem d_Law_law_118 : decode code 118 = .ok (.iload_n 3, 1) := by decide +kernel
theorem d_Law_law_119 : decode code 119 = .ok (.iconst 3, 1) := by decide +kernel
theorem d_Law_law_120 : decode code 120 = .ok (.iadd, 1) := by decide +kernel
theorem d_Law_law_121 : decode code 121 = .ok (.iaload, 1) := by decide +kernel
theorem d_Law_law_122 : decode code 122 = .ok (.invokevirtual 15, 3) := by decide +kernel
theorem d_Law_law_125 : decode code 125 = .ok (.aload_n 2, 1) := by decide +kernel
theorem d_Law_law_126 : decode code 126 = .ok (.aload_n 0, 1) := by decide +kernel
theorem d_Law_law_127 : decode code 127 = .ok (.iload_n 3, 1) := by decide +kernel
theorem d_Law_law_128 : decode code 128 = .ok (.iconst 1, 1) := by decide +kernel
theorem d_Law_law_129 : decode code 129 = .ok (.iadd, 1) := by decide +kernel
theorem d_Law_law_130 : decode code 130 = .ok (.iaload, 1) := by decide +kernel
theorem d_Law_law_131 : decode code 131 = .ok (.i2l, 1) := by decide +kernel
theorem d_Law_law_132 : decode code 132 = .ok (.bipush 32, 2) := by decide +kernel
theorem d_Law_law_134 : decode code 134 = .ok (.lshl, 1) := by decide +kernel
theorem d_Law_law_135 : decode code 135 = .ok (.aload_n 0, 1) := by decide +kernel
theorem d_Law_law_136 : decode code 136 = .ok (.iload_n 3, 1) := by decide +kernel
theorem d_Law_law_137 : decode code 137 = .ok (.iconst 2, 1) := by decide +kernel
theorem d_Law_law_138 : decode code 138 = .ok (.iadd, 1) := by decide +kernel
theorem d_Law_law_139 : decode code 139 = .ok (.iaload, 1) := by decide +kernel
theorem d_Law_law_140 : decode code 140 = .ok (.i2l, 1) := by decide +kernel
theorem d_Law_law_141 : decode code 141 = .ok (.ldc2_w 13, 3) := by decide +kernel
theorem d_Law_law_144 : decode code 144 = .ok (.land, 1) := by decide +kernel
theorem d_Law_law_145 : decode code 145 = .ok (.lor, 1) := by decide +kernel
theorem d_Law_law_146 : decode code 146 = .ok (.aload_n 0, 1) := by decide +kernel
theorem d_Law_law_147 : decode code 147 = .ok (.iload_n 3, 1) := by decide +kernel
theorem d_Law_law_148 : decode code 148 = .ok (.iconst 3, 1) := by decide +kernel
theorem d_Law_law_149 : decode code 149 = .ok (.iadd, 1) := by decide +kernel
theorem d_Law_law_150 : decode code 150 = .ok (.iaload, 1) := by decide +kernel
theorem d_Law_law_151 : decode code 151 = .ok (.invokevirtual 19, 3) := by decide +kernel
theorem d_Law_law_154 : decode code 154 = .ok (.if_icmp .eq 389, 3) := by decide +kernel
theorem d_Law_law_157 : decode code 157 = .ok (.iconst 0, 1) := by decide +kernel
theorem d_Law_law_158 : decode code 158 = .ok (.ireturn, 1) := by decide +kernel
theorem d_Law_law_159 : decode code 159 = .ok (.aload_n 1, 1) := by decide +kernel
theorem d_Law_law_160 : decode code 160 = .ok (.aload_n 0, 1) := by decide +kernel
theorem d_Law_law_161 : decode code 161 = .ok (.iload_n 3, 1) := by decide +kernel
theorem d_Law_law_162 : decode code 162 = .ok (.iconst 1, 1) := by decide +kernel
theorem d_Law_law_163 : decode code 163 = .ok (.iadd, 1) := by decide +kernel
theorem d_Law_law_164 : decode code 164 = .ok (.iaload, 1) := by decide +kernel
theorem d_Law_law_165 : decode code 165 = .ok (.i2l, 1) := by decide +kernel
theorem d_Law_law_166 : decode code 166 = .ok (.bipush 32, 2) := by decide +kernel
theorem d_Law_law_168 : decode code 168 = .ok (.lshl, 1) := by decide +kernel
theorem d_Law_law_169 : decode code 169 = .ok (.aload_n 0, 1) := by decide +kernel
theorem d_Law_law_170 : decode code 170 = .ok (.iload_n 3, 1) := by decide +kernel
theorem d_Law_law_171 : decode code 171 = .ok (.iconst 2, 1) := by decide +kernel
theorem d_Law_law_172 : decode code 172 = .ok (.iadd, 1) := by decide +kernel
theorem d_Law_law_173 : decode code 173 = .ok (.iaload, 1) := by decide +kernel
theorem d_Law_law_174 : decode code 174 = .ok (.i2l, 1) := by decide +kernel
theorem d_Law_law_175 : decode code 175 = .ok (.ldc2_w 13, 3) := by decide +kernel
theorem d_Law_law_178 : decode code 178 = .ok (.land, 1) := by decide +kernel
theorem d_Law_law_179 : decode code 179 = .ok (.lor, 1) := by decide +kernel
theorem d_Law_law_180 : decode code 180 = .ok (.aload_n 0, 1) := by decide +kernel
theorem d_Law_law_181 : decode code 181 = .ok (.iload_n 3, 1) := by decide +kernel
theorem d_Law_law_182 : decode code 182 = .ok (.iconst 3, 1) := by decide +kernel
theorem d_Law_law_183 : decode code 183 = .ok (.iadd, 1) := by decide +kernel
theorem d_Law_law_184 : decode code 184 = .ok (.iaload, 1) := by decide +kernel
theorem d_Law_law_185 : decode code 185 = .ok (.invokevirtual 20, 3) := by decide +kernel
theorem d_Law_law_188 : decode code 188 = .ok (.aload_n 2, 1) := by decide +kernel
theorem d_Law_law_189 : decode code 189 = .ok (.aload_n 0, 1) := by decide +kernel
theorem d_Law_law_190 : decode code 190 = .ok (.iload_n 3, 1) := by decide +kernel
theorem d_Law_law_191 : decode code 191 = .ok (.iconst 1, 1) := by decide +kernel
theorem d_Law_law_192 : decode code 192 = .ok (.iadd, 1) := by decide +kernel
theorem d_Law_law_193 : decode code 193 = .ok (.iaload, 1) := by decide +kernel
theorem d_Law_law_194 : decode code 194 = .ok (.i2l, 1) := by decide +kernel
theorem d_Law_law_195 : decode code 195 = .ok (.bipush 32, 2) := by decide +kernel
theorem d_Law_law_197 : decode code 197 = .ok (.lshl, 1) := by decide +kernel
theorem d_Law_law_198 : decode code 198 = .ok (.aload_n 0, 1) := by decide +kernel
theorem d_Law_law_199 : decode code 199 = .ok (.iload_n 3, 1) := by decide +kernel
theorem d_Law_law_200 : decode code 200 = .ok (.iconst 2, 1) := by decide +kernel
theorem d_Law_law_201 : decode code 201 = .ok (.iadd, 1) := by decide +kernel
theorem d_Law_law_202 : decode code 202 = .ok (.iaload, 1) := by decide +kernel
theorem d_Law_law_203 : decode code 203 = .ok (.i2l, 1) := by decide +kernel
theorem d_Law_law_204 : decode code 204 = .ok (.ldc2_w 13, 3) := by decide +kernel
theorem d_Law_law_207 : decode code 207 = .ok (.land, 1) := by decide +kernel
theorem d_Law_law_208 : decode code 208 = .ok (.lor, 1) := by decide +kernel
theorem d_Law_law_209 : decode code 209 = .ok (.aload_n 0, 1) := by decide +kernel
theorem d_Law_law_210 : decode code 210 = .ok (.iload_n 3, 1) := by decide +kernel
theorem d_Law_law_211 : decode code 211 = .ok (.iconst 3, 1) := by decide +kernel
theorem d_Law_law_212 : decode code 212 = .ok (.iadd, 1) := by decide +kernel
theorem d_Law_law_213 : decode code 213 = .ok (.iaload, 1) := by decide +kernel
theorem d_Law_law_214 : decode code 214 = .ok (.invokevirtual 23, 3) := by decide +kernel
theorem d_Law_law_217 : decode code 217 = .ok (.if_icmp .eq 326, 3) := by decide +kernel
theorem d_Law_law_220 : decode code 220 = .ok (.iconst 0, 1) := by decide +kernel
theorem d_Law_law_221 : decode code 221 = .ok (.ireturn, 1) := by decide +kernel
theorem d_Law_law_222 : decode code 222 = .ok (.aload_n 1, 1) := by decide +kernel
theorem d_Law_law_223 : decode code 223 = .ok (.aload_n 0, 1) := by decide +kernel
theorem d_Law_law_224 : decode code 224 = .ok (.iload_n 3, 1) := by decide +kernel
theorem d_Law_law_225 : decode code 225 = .ok (.iconst 1, 1) := by decide +kernel
theorem d_Law_law_226 : decode code 226 = .ok (.iadd, 1) := by decide +kernel
theorem d_Law_law_227 : decode code 227 = .ok (.iaload, 1) := by decide +kernel
theorem d_Law_law_228 : decode code 228 = .ok (.i2l, 1) := by decide +kernel
theorem d_Law_law_229 : decode code 229 = .ok (.bipush 32, 2) := by decide +kernel
theorem d_Law_law_231 : decode code 231 = .ok (.lshl, 1) := by decide +kernel
theorem d_Law_law_232 : decode code 232 = .ok (.aload_n 0, 1) := by decide +kernel
theorem d_Law_law_233 : decode code 233 = .ok (.iload_n 3, 1) := by decide +kernel
theorem d_Law_law_234 : decode code 234 = .ok (.iconst 2, 1) := by decide +kernel
theorem d_Law_law_235 : decode code 235 = .ok (.iadd, 1) := by decide +kernel
theorem d_Law_law_236 : decode code 236 = .ok (.iaload, 1) := by decide +kernel
theorem d_Law_law_237 : decode code 237 = .ok (.i2l, 1) := by decide +kernel
theorem d_Law_law_238 : decode code 238 = .ok (.ldc2_w 13, 3) := by decide +kernel
theorem d_Law_law_241 : decode code 241 = .ok (.land, 1) := by decide +kernel
theorem d_Law_law_242 : decode code 242 = .ok (.lor, 1) := by decide +kernel
theorem d_Law_law_243 : decode code 243 = .ok (.invokevirtual 24, 3) := by decide +kernel
theorem d_Law_law_246 : decode code 246 = .ok (.aload_n 2, 1) := by decide +kernel
theorem d_Law_law_247 : decode code 247 = .ok (.aload_n 0, 1) := by decide +kernel
theorem d_Law_law_248 : decode code 248 = .ok (.iload_n 3, 1) := by decide +kernel
theorem d_Law_law_249 : decode code 249 = .ok (.iconst 1, 1) := by decide +kernel
theorem d_Law_law_250 : decode code 250 = .ok (.iadd, 1) := by decide +kernel
theorem d_Law_law_251 : decode code 251 = .ok (.iaload, 1) := by decide +kernel
theorem d_Law_law_252 : decode code 252 = .ok (.i2l, 1) := by decide +kernel
theorem d_Law_law_253 : decode code 253 = .ok (.bipush 32, 2) := by decide +kernel
theorem d_Law_law_255 : decode code 255 = .ok (.lshl, 1) := by decide +kernel
theorem d_Law_law_256 : decode code 256 = .ok (.aload_n 0, 1) := by decide +kernel
theorem d_Law_law_257 : decode code 257 = .ok (.iload_n 3, 1) := by decide +kernel
theorem d_Law_law_258 : decode code 258 = .ok (.iconst 2, 1) := by decide +kernel
theorem d_Law_law_259 : decode code 259 = .ok (.iadd, 1) := by decide +kernel
theorem d_Law_law_260 : decode code 260 = .ok (.iaload, 1) := by decide +kernel
theorem d_Law_law_261 : decode code 261 = .ok (.i2l, 1) := by decide +kernel
theorem d_Law_law_262 : decode code 262 = .ok (.ldc2_w 13, 3) := by decide +kernel
theorem d_Law_law_265 : decode code 265 = .ok (.land, 1) := by decide +kernel
theorem d_Law_law_266 : decode code 266 = .ok (.lor, 1) := by decide +kernel
theorem d_Law_law_267 : decode code 267 = .ok (.invokevirtual 28, 3) := by decide +kernel
theorem d_Law_law_270 : decode code 270 = .ok (.if_icmp .eq 273, 3) := by decide +kernel
theorem d_Law_law_273 : decode code 273 = .ok (.iconst 0, 1) := by decide +kernel
theorem d_Law_law_274 : decode code 274 = .ok (.ireturn, 1) := by decide +kernel
theorem d_Law_law_275 : decode code 275 = .ok (.aload_n 1, 1) := by decide +kernel
theorem d_Law_law_276 : decode code 276 = .ok (.aload_n 0, 1) := by decide +kernel
theorem d_Law_law_277 : decode code 277 = .ok (.iload_n 3, 1) := by decide +kernel
theorem d_Law_law_278 : decode code 278 = .ok (.iconst 1, 1) := by decide +kernel
theorem d_Law_law_279 : decode code 279 = .ok (.iadd, 1) := by decide +kernel
theorem d_Law_law_280 : decode code 280 = .ok (.iaload, 1) := by decide +kernel
theorem d_Law_law_281 : decode code 281 = .ok (.ifCond .eq 7, 3) := by decide +kernel
theorem d_Law_law_284 : decode code 284 = .ok (.iconst 1, 1) := by decide +kernel
theorem d_Law_law_285 : decode code 285 = .ok (.goto 4, 3) := by decide +kernel
theorem d_Law_law_288 : decode code 288 = .ok (.iconst 0, 1) := by decide +kernel
theorem d_Law_law_289 : decode code 289 = .ok (.invokevirtual 29, 3) := by decide +kernel
theorem d_Law_law_292 : decode code 292 = .ok (.aload_n 2, 1) := by decide +kernel
theorem d_Law_law_293 : decode code 293 = .ok (.aload_n 0, 1) := by decide +kernel
theorem d_Law_law_294 : decode code 294 = .ok (.iload_n 3, 1) := by decide +kernel
theorem d_Law_law_295 : decode code 295 = .ok (.iconst 1, 1) := by decide +kernel
theorem d_Law_law_296 : decode code 296 = .ok (.iadd, 1) := by decide +kernel
theorem d_Law_law_297 : decode code 297 = .ok (.iaload, 1) := by decide +kernel
theorem d_Law_law_298 : decode code 298 = .ok (.ifCond .eq 7, 3) := by decide +kernel
theorem d_Law_law_301 : decode code 301 = .ok (.iconst 1, 1) := by decide +kernel
theorem d_Law_law_302 : decode code 302 = .ok (.goto 4, 3) := by decide +kernel
theorem d_Law_law_305 : decode code 305 = .ok (.iconst 0, 1) := by decide +kernel
theorem d_Law_law_306 : decode code 306 = .ok (.invokevirtual 33, 3) := by decide +kernel
theorem d_Law_law_309 : decode code 309 = .ok (.if_icmp .eq 234, 3) := by decide +kernel
theorem d_Law_law_312 : decode code 312 = .ok (.iconst 0, 1) := by decide +kernel
theorem d_Law_law_313 : decode code 313 = .ok (.ireturn, 1) := by decide +kernel
theorem d_Law_law_314 : decode code 314 = .ok (.aload_n 1, 1) := by decide +kernel
theorem d_Law_law_315 : decode code 315 = .ok (.invokevirtual 34, 3) := by decide +kernel
theorem d_Law_law_318 : decode code 318 = .ok (.aload_n 2, 1) := by decide +kernel
theorem d_Law_law_319 : decode code 319 = .ok (.invokevirtual 38, 3) := by decide +kernel
theorem d_Law_law_322 : decode code 322 = .ok (.if_icmp .eq 221, 3) := by decide +kernel
theorem d_Law_law_325 : decode code 325 = .ok (.iconst 0, 1) := by decide +kernel
theorem d_Law_law_326 : decode code 326 = .ok (.ireturn, 1) := by decide +kernel
theorem d_Law_law_327 : decode code 327 = .ok (.aload_n 1, 1) := by decide +kernel
theorem d_Law_law_328 : decode code 328 = .ok (.aload_n 0, 1) := by decide +kernel
theorem d_Law_law_329 : decode code 329 = .ok (.iload_n 3, 1) := by decide +kernel
theorem d_Law_law_330 : decode code 330 = .ok (.iconst 1, 1) := by decide +kernel
theorem d_Law_law_331 : decode code 331 = .ok (.iadd, 1) := by decide +kernel
theorem d_Law_law_332 : decode code 332 = .ok (.iaload, 1) := by decide +kernel
theorem d_Law_law_333 : decode code 333 = .ok (.invokevirtual 39, 3) := by decide +kernel
theorem d_Law_law_336 : decode code 336 = .ok (.aload_n 2, 1) := by decide +kernel
theorem d_Law_law_337 : decode code 337 = .ok (.aload_n 0, 1) := by decide +kernel
theorem d_Law_law_338 : decode code 338 = .ok (.iload_n 3, 1) := by decide +kernel
theorem d_Law_law_339 : decode code 339 = .ok (.iconst 1, 1) := by decide +kernel
theorem d_Law_law_340 : decode code 340 = .ok (.iadd, 1) := by decide +kernel
theorem d_Law_law_341 : decode code 341 = .ok (.iaload, 1) := by decide +kernel
theorem d_Law_law_342 : decode code 342 = .ok (.invokevirtual 43, 3) := by decide +kernel
theorem d_Law_law_345 : decode code 345 = .ok (.if_icmp .eq 198, 3) := by decide +kernel
theorem d_Law_law_348 : decode code 348 = .ok (.iconst 0, 1) := by decide +kernel
theorem d_Law_law_349 : decode code 349 = .ok (.ireturn, 1) := by decide +kernel
theorem d_Law_law_350 : decode code 350 = .ok (.aload_n 1, 1) := by decide +kernel
theorem d_Law_law_351 : decode code 351 = .ok (.aload_n 0, 1) := by decide +kernel
theorem d_Law_law_352 : decode code 352 = .ok (.iload_n 3, 1) := by decide +kernel
theorem d_Law_law_353 : decode code 353 = .ok (.iconst 1, 1) := by decide +kernel
theorem d_Law_law_354 : decode code 354 = .ok (.iadd, 1) := by decide +kernel
theorem d_Law_law_355 : decode code 355 = .ok (.iaload, 1) := by decide +kernel
theorem d_Law_law_356 : decode code 356 = .ok (.invokevirtual 44, 3) := by decide +kernel
theorem d_Law_law_359 : decode code 359 = .ok (.aload_n 2, 1) := by decide +kernel
theorem d_Law_law_360 : decode code 360 = .ok (.aload_n 0, 1) := by decide +kernel
theorem d_Law_law_361 : decode code 361 = .ok (.iload_n 3, 1) := by decide +kernel
theorem d_Law_law_362 : decode code 362 = .ok (.iconst 1, 1) := by decide +kernel
theorem d_Law_law_363 : decode code 363 = .ok (.iadd, 1) := by decide +kernel
theorem d_Law_law_364 : decode code 364 = .ok (.iaload, 1) := by decide +kernel
theorem d_Law_law_365 : decode code 365 = .ok (.invokevirtual 48, 3) := by decide +kernel
theorem d_Law_law_368 : decode code 368 = .ok (.lcmp, 1) := by decide +kernel
theorem d_Law_law_369 : decode code 369 = .ok (.ifCond .eq 174, 3) := by decide +kernel
theorem d_Law_law_372 : decode code 372 = .ok (.iconst 0, 1) := by decide +kernel
theorem d_Law_law_373 : decode code 373 = .ok (.ireturn, 1) := by decide +kernel
theorem d_Law_law_374 : decode code 374 = .ok (.aload_n 1, 1) := by decide +kernel
theorem d_Law_law_375 : decode code 375 = .ok (.aload_n 0, 1) := by decide +kernel
theorem d_Law_law_376 : decode code 376 = .ok (.iload_n 3, 1) := by decide +kernel
theorem d_Law_law_377 : decode code 377 = .ok (.iconst 1, 1) := by decide +kernel
theorem d_Law_law_378 : decode code 378 = .ok (.iadd, 1) := by decide +kernel
theorem d_Law_law_379 : decode code 379 = .ok (.iaload, 1) := by decide +kernel
theorem d_Law_law_380 : decode code 380 = .ok (.aload_n 0, 1) := by decide +kernel
theorem d_Law_law_381 : decode code 381 = .ok (.iload_n 3, 1) := by decide +kernel
theorem d_Law_law_382 : decode code 382 = .ok (.iconst 2, 1) := by decide +kernel
theorem d_Law_law_383 : decode code 383 = .ok (.iadd, 1) := by decide +kernel
theorem d_Law_law_384 : decode code 384 = .ok (.iaload, 1) := by decide +kernel
theorem d_Law_law_385 : decode code 385 = .ok (.invokevirtual 49, 3) := by decide +kernel
theorem d_Law_law_388 : decode code 388 = .ok (.aload_n 2, 1) := by decide +kernel
theorem d_Law_law_389 : decode code 389 = .ok (.aload_n 0, 1) := by decide +kernel
theorem d_Law_law_390 : decode code 390 = .ok (.iload_n 3, 1) := by decide +kernel
theorem d_Law_law_391 : decode code 391 = .ok (.iconst 1, 1) := by decide +kernel
theorem d_Law_law_392 : decode code 392 = .ok (.iadd, 1) := by decide +kernel
theorem d_Law_law_393 : decode code 393 = .ok (.iaload, 1) := by decide +kernel
theorem d_Law_law_394 : decode code 394 = .ok (.aload_n 0, 1) := by decide +kernel
theorem d_Law_law_395 : decode code 395 = .ok (.iload_n 3, 1) := by decide +kernel
theorem d_Law_law_396 : decode code 396 = .ok (.iconst 2, 1) := by decide +kernel
theorem d_Law_law_397 : decode code 397 = .ok (.iadd, 1) := by decide +kernel
theorem d_Law_law_398 : decode code 398 = .ok (.iaload, 1) := by decide +kernel
theorem d_Law_law_399 : decode code 399 = .ok (.invokevirtual 53, 3) := by decide +kernel
theorem d_Law_law_402 : decode code 402 = .ok (.lcmp, 1) := by decide +kernel
theorem d_Law_law_403 : decode code 403 = .ok (.ifCond .eq 140, 3) := by decide +kernel
theorem d_Law_law_406 : decode code 406 = .ok (.iconst 0, 1) := by decide +kernel
theorem d_Law_law_407 : decode code 407 = .ok (.ireturn, 1) := by decide +kernel
theorem d_Law_law_408 : decode code 408 = .ok (.aload_n 1, 1) := by decide +kernel
theorem d_Law_law_409 : decode code 409 = .ok (.aload_n 0, 1) := by decide +kernel
theorem d_Law_law_410 : decode code 410 = .ok (.iload_n 3, 1) := by decide +kernel
theorem d_Law_law_411 : decode code 411 = .ok (.iconst 1, 1) := by decide +kernel
theorem d_Law_law_412 : decode code 412 = .ok (.iadd, 1) := by decide +kernel
theorem d_Law_law_413 : decode code 413 = .ok (.iaload, 1) := by decide +kernel
theorem d_Law_law_414 : decode code 414 = .ok (.aload_n 0, 1) := by decide +kernel
theorem d_Law_law_415 : decode code 415 = .ok (.iload_n 3, 1) := by decide +kernel
theorem d_Law_law_416 : decode code 416 = .ok (.iconst 2, 1) := by decide +kernel
theorem d_Law_law_417 : decode code 417 = .ok (.iadd, 1) := by decide +kernel
theorem d_Law_law_418 : decode code 418 = .ok (.iaload, 1) := by decide +kernel
theorem d_Law_law_419 : decode code 419 = .ok (.aload_n 0, 1) := by decide +kernel
theorem d_Law_law_420 : decode code 420 = .ok (.iload_n 3, 1) := by decide +kernel
theorem d_Law_law_421 : decode code 421 = .ok (.iconst 3, 1) := by decide +kernel
theorem d_Law_law_422 : decode code 422 = .ok (.iadd, 1) := by decide +kernel
theorem d_Law_law_423 : decode code 423 = .ok (.iaload, 1) := by decide +kernel
theorem d_Law_law_424 : decode code 424 = .ok (.invokevirtual 54, 3) := by decide +kernel
theorem d_Law_law_427 : decode code 427 = .ok (.aload_n 2, 1) := by decide +kernel
theorem d_Law_law_428 : decode code 428 = .ok (.aload_n 0, 1) := by decide +kernel
theorem d_Law_law_429 : decode code 429 = .ok (.iload_n 3, 1) := by decide +kernel
theorem d_Law_law_430 : decode code 430 = .ok (.iconst 1, 1) := by decide +kernel
theorem d_Law_law_431 : decode code 431 = .ok (.iadd, 1) := by decide +kernel
theorem d_Law_law_432 : decode code 432 = .ok (.iaload, 1) := by decide +kernel
theorem d_Law_law_433 : decode code 433 = .ok (.aload_n 0, 1) := by decide +kernel
theorem d_Law_law_434 : decode code 434 = .ok (.iload_n 3, 1) := by decide +kernel
theorem d_Law_law_435 : decode code 435 = .ok (.iconst 2, 1) := by decide +kernel
theorem d_Law_law_436 : decode code 436 = .ok (.iadd, 1) := by decide +kernel
theorem d_Law_law_437 : decode code 437 = .ok (.iaload, 1) := by decide +kernel
theorem d_Law_law_438 : decode code 438 = .ok (.aload_n 0, 1) := by decide +kernel
theorem d_Law_law_439 : decode code 439 = .ok (.iload_n 3, 1) := by decide +kernel
theorem d_Law_law_440 : decode code 440 = .ok (.iconst 3, 1) := by decide +kernel
theorem d_Law_law_441 : decode code 441 = .ok (.iadd, 1) := by decide +kernel
theorem d_Law_law_442 : decode code 442 = .ok (.iaload, 1) := by decide +kernel
theorem d_Law_law_443 : decode code 443 = .ok (.invokevirtual 58, 3) := by decide +kernel
theorem d_Law_law_446 : decode code 446 = .ok (.lcmp, 1) := by decide +kernel
theorem d_Law_law_447 : decode code 447 = .ok (.ifCond .eq 96, 3) := by decide +kernel
theorem d_Law_law_450 : decode code 450 = .ok (.iconst 0, 1) := by decide +kernel
theorem d_Law_law_451 : decode code 451 = .ok (.ireturn, 1) := by decide +kernel
theorem d_Law_law_452 : decode code 452 = .ok (.aload_n 1, 1) := by decide +kernel
theorem d_Law_law_453 : decode code 453 = .ok (.aload_n 0, 1) := by decide +kernel
theorem d_Law_law_454 : decode code 454 = .ok (.iload_n 3, 1) := by decide +kernel
theorem d_Law_law_455 : decode code 455 = .ok (.iconst 1, 1) := by decide +kernel
theorem d_Law_law_456 : decode code 456 = .ok (.iadd, 1) := by decide +kernel
theorem d_Law_law_457 : decode code 457 = .ok (.iaload, 1) := by decide +kernel
theorem d_Law_law_458 : decode code 458 = .ok (.aload_n 0, 1) := by decide +kernel
theorem d_Law_law_459 : decode code 459 = .ok (.iload_n 3, 1) := by decide +kernel
theorem d_Law_law_460 : decode code 460 = .ok (.iconst 2, 1) := by decide +kernel
theorem d_Law_law_461 : decode code 461 = .ok (.iadd, 1) := by decide +kernel
theorem d_Law_law_462 : decode code 462 = .ok (.iaload, 1) := by decide +kernel
theorem d_Law_law_463 : decode code 463 = .ok (.aload_n 0, 1) := by decide +kernel
theorem d_Law_law_464 : decode code 464 = .ok (.iload_n 3, 1) := by decide +kernel
theorem d_Law_law_465 : decode code 465 = .ok (.iconst 3, 1) := by decide +kernel
theorem d_Law_law_466 : decode code 466 = .ok (.iadd, 1) := by decide +kernel
theorem d_Law_law_467 : decode code 467 = .ok (.iaload, 1) := by decide +kernel
theorem d_Law_law_468 : decode code 468 = .ok (.invokevirtual 59, 3) := by decide +kernel
theorem d_Law_law_471 : decode code 471 = .ok (.aload_n 2, 1) := by decide +kernel
theorem d_Law_law_472 : decode code 472 = .ok (.aload_n 0, 1) := by decide +kernel
theorem d_Law_law_473 : decode code 473 = .ok (.iload_n 3, 1) := by decide +kernel
theorem d_Law_law_474 : decode code 474 = .ok (.iconst 1, 1) := by decide +kernel
theorem d_Law_law_475 : decode code 475 = .ok (.iadd, 1) := by decide +kernel
theorem d_Law_law_476 : decode code 476 = .ok (.iaload, 1) := by decide +kernel
theorem d_Law_law_477 : decode code 477 = .ok (.aload_n 0, 1) := by decide +kernel
theorem d_Law_law_478 : decode code 478 = .ok (.iload_n 3, 1) := by decide +kernel
theorem d_Law_law_479 : decode code 479 = .ok (.iconst 2, 1) := by decide +kernel
theorem d_Law_law_480 : decode code 480 = .ok (.iadd, 1) := by decide +kernel
theorem d_Law_law_481 : decode code 481 = .ok (.iaload, 1) := by decide +kernel
theorem d_Law_law_482 : decode code 482 = .ok (.aload_n 0, 1) := by decide +kernel
theorem d_Law_law_483 : decode code 483 = .ok (.iload_n 3, 1) := by decide +kernel
theorem d_Law_law_484 : decode code 484 = .ok (.iconst 3, 1) := by decide +kernel
theorem d_Law_law_485 : decode code 485 = .ok (.iadd, 1) := by decide +kernel
theorem d_Law_law_486 : decode code 486 = .ok (.iaload, 1) := by decide +kernel
theorem d_Law_law_487 : decode code 487 = .ok (.invokevirtual 62, 3) := by decide +kernel
theorem d_Law_law_490 : decode code 490 = .ok (.lcmp, 1) := by decide +kernel
theorem d_Law_law_491 : decode code 491 = .ok (.ifCond .eq 52, 3) := by decide +kernel
theorem d_Law_law_494 : decode code 494 = .ok (.iconst 0, 1) := by decide +kernel
theorem d_Law_law_495 : decode code 495 = .ok (.ireturn, 1) := by decide +kernel
theorem d_Law_law_496 : decode code 496 = .ok (.aload_n 1, 1) := by decide +kernel
theorem d_Law_law_497 : decode code 497 = .ok (.aload_n 0, 1) := by decide +kernel
theorem d_Law_law_498 : decode code 498 = .ok (.iload_n 3, 1) := by decide +kernel
theorem d_Law_law_499 : decode code 499 = .ok (.iconst 1, 1) := by decide +kernel
theorem d_Law_law_500 : decode code 500 = .ok (.iadd, 1) := by decide +kernel
theorem d_Law_law_501 : decode code 501 = .ok (.iaload, 1) := by decide +kernel
theorem d_Law_law_502 : decode code 502 = .ok (.aload_n 0, 1) := by decide +kernel
theorem d_Law_law_503 : decode code 503 = .ok (.iload_n 3, 1) := by decide +kernel
theorem d_Law_law_504 : decode code 504 = .ok (.iconst 2, 1) := by decide +kernel
theorem d_Law_law_505 : decode code 505 = .ok (.iadd, 1) := by decide +kernel
theorem d_Law_law_506 : decode code 506 = .ok (.iaload, 1) := by decide +kernel
theorem d_Law_law_507 : decode code 507 = .ok (.invokevirtual 63, 3) := by decide +kernel
theorem d_Law_law_510 : decode code 510 = .ok (.aload_n 2, 1) := by decide +kernel
theorem d_Law_law_511 : decode code 511 = .ok (.aload_n 0, 1) := by decide +kernel
theorem d_Law_law_512 : decode code 512 = .ok (.iload_n 3, 1) := by decide +kernel
theorem d_Law_law_513 : decode code 513 = .ok (.iconst 1, 1) := by decide +kernel
theorem d_Law_law_514 : decode code 514 = .ok (.iadd, 1) := by decide +kernel
theorem d_Law_law_515 : decode code 515 = .ok (.iaload, 1) := by decide +kernel
theorem d_Law_law_516 : decode code 516 = .ok (.aload_n 0, 1) := by decide +kernel
theorem d_Law_law_517 : decode code 517 = .ok (.iload_n 3, 1) := by decide +kernel
theorem d_Law_law_518 : decode code 518 = .ok (.iconst 2, 1) := by decide +kernel
theorem d_Law_law_519 : decode code 519 = .ok (.iadd, 1) := by decide +kernel
theorem d_Law_law_520 : decode code 520 = .ok (.iaload, 1) := by decide +kernel
theorem d_Law_law_521 : decode code 521 = .ok (.invokevirtual 66, 3) := by decide +kernel
theorem d_Law_law_524 : decode code 524 = .ok (.lcmp, 1) := by decide +kernel
theorem d_Law_law_525 : decode code 525 = .ok (.ifCond .eq 18, 3) := by decide +kernel
theorem d_Law_law_528 : decode code 528 = .ok (.iconst 0, 1) := by decide +kernel
theorem d_Law_law_529 : decode code 529 = .ok (.ireturn, 1) := by decide +kernel
theorem d_Law_law_530 : decode code 530 = .ok (.aload_n 1, 1) := by decide +kernel
theorem d_Law_law_531 : decode code 531 = .ok (.invokevirtual 67, 3) := by decide +kernel
theorem d_Law_law_534 : decode code 534 = .ok (.aload_n 2, 1) := by decide +kernel
theorem d_Law_law_535 : decode code 535 = .ok (.invokevirtual 71, 3) := by decide +kernel
theorem d_Law_law_538 : decode code 538 = .ok (.if_icmp .eq 5, 3) := by decide +kernel
theorem d_Law_law_541 : decode code 541 = .ok (.iconst 0, 1) := by decide +kernel
theorem d_Law_law_542 : decode code 542 = .ok (.ireturn, 1) := by decide +kernel
theorem d_Law_law_543 : decode code 543 = .ok (.iinc 3 4, 3) := by decide +kernel
theorem d_Law_law_546 : decode code 546 = .ok (.goto (-528), 3) := by decide +kernel
theorem d_Law_law_549 : decode code 549 = .ok (.iconst 1, 1) := by decide +kernel
theorem d_Law_law_550 : decode code 550 = .ok (.ireturn, 1) := by decide +kernel
end
section
theorem F_Dsk_10 : j_F "WireDesk" 10 5 0 := ⟨R_Dsk, T_Dsk, 11, i_Dsk, rfl, by decide, TB_of 143 (by decide +kernel) rfl⟩
theorem Fp_Dsk_10 : j_Fp "WireDesk" 10 5 0 (.object "WireDesk$Text") true := ⟨R_Dsk, T_Dsk, 11, t_Dsk, i_Dsk, rfl, by decide, TB_of 143 (by decide +kernel) rfl, t_Dsk_ok, n_Dsk, rfl, by decide +kernel, fun _ => rfl⟩
theorem F_Dsk_16 : j_F "WireDesk" 16 5 1 := ⟨R_Dsk, T_Dsk, 11, i_Dsk, rfl, by decide, TB_of 144 (by decide +kernel) rfl⟩
theorem Fp_Dsk_16 : j_Fp "WireDesk" 16 5 1 (.object "WireDesk$Text") true := ⟨R_Dsk, T_Dsk, 11, t_Dsk, i_Dsk, rfl, by decide, TB_of 144 (by decide +kernel) rfl, t_Dsk_ok, n_Dsk, rfl, by decide +kernel, fun _ => rfl⟩
theorem F_Dsk_24 : j_F "WireDesk" 24 5 2 := ⟨R_Dsk, T_Dsk, 11, i_Dsk, rfl, by decide, TB_of 145 (by decide +kernel) rfl⟩
theorem Fp_Dsk_24 : j_Fp "WireDesk" 24 5 2 (.object "WireDesk$Reader") true := ⟨R_Dsk, T_Dsk, 11, t_Dsk, i_Dsk, rfl, by decide, TB_of 145 (by decide +kernel) rfl, t_Dsk_ok, n_Dsk, rfl, by decide +kernel, fun _ => rfl⟩
theorem F_Dsk_31 : j_F "WireDesk" 31 5 3 := ⟨R_Dsk, T_Dsk, 11, i_Dsk, rfl, by decide, TB_of 146 (by decide +kernel) rfl⟩
theorem Fp_Dsk_31 : j_Fp "WireDesk" 31 5 3 (.object "WireDesk$Namer") true := ⟨R_Dsk, T_Dsk, 11, t_Dsk, i_Dsk, rfl, by decide, TB_of 146 (by decide +kernel) rfl, t_Dsk_ok, n_Dsk, rfl, by decide +kernel, fun _ => rfl⟩
theorem F_Dsk_37 : j_F "WireDesk" 37 5 4 := ⟨R_Dsk, T_Dsk, 11, i_Dsk, rfl, by decide, TB_of 147 (by decide +kernel) rfl⟩
theorem Fp_Dsk_37 : j_Fp "WireDesk" 37 5 4 (.array (.object "WireDesk$Transaction")) true := ⟨R_Dsk, T_Dsk, 11, t_Dsk, i_Dsk, rfl, by decide, TB_of 147 (by decide +kernel) rfl, t_Dsk_ok, n_Dsk, rfl, by decide +kernel, fun _ => rfl⟩
theorem F_Dsk_41 : j_F "WireDesk" 41 5 5 := ⟨R_Dsk, T_Dsk, 11, i_Dsk, rfl, by decide, TB_of 148 (by decide +kernel) rfl⟩
theorem Fp_Dsk_41 : j_Fp "WireDesk" 41 5 5 (.int) false := ⟨R_Dsk, T_Dsk, 11, t_Dsk, i_Dsk, rfl, by decide, TB_of 148 (by decide +kernel) rfl, t_Dsk_ok, n_Dsk, rfl, by decide +kernel, fun h => by cases h⟩
theorem F_Dsk_45 : j_F "WireDesk" 45 5 6 := ⟨R_Dsk, T_Dsk, 11, i_Dsk, rfl, by decide, TB_of 149 (by decide +kernel) rfl⟩
theorem Fp_Dsk_45 : j_Fp "WireDesk" 45 5 6 (.boolean) false := ⟨R_Dsk, T_Dsk, 11, t_Dsk, i_Dsk, rfl, by decide, TB_of 149 (by decide +kernel) rfl, t_Dsk_ok, n_Dsk, rfl, by decide +kernel, fun h => by cases h⟩
theorem F_Dsk_49 : j_F "WireDesk" 49 5 7 := ⟨R_Dsk, T_Dsk, 11, i_Dsk, rfl, by decide, TB_of 150 (by decide +kernel) rfl⟩
theorem Fp_Dsk_49 : j_Fp "WireDesk" 49 5 7 (.int) false := ⟨R_Dsk, T_Dsk, 11, t_Dsk, i_Dsk, rfl, by decide, TB_of 150 (by decide +kernel) rfl, t_Dsk_ok, n_Dsk, rfl, by decide +kernel, fun h => by cases h⟩
theorem F_Dsk_52 : j_F "WireDesk" 52 5 8 := ⟨R_Dsk, T_Dsk, 11, i_Dsk, rfl, by decide, TB_of 151 (by decide +kernel) rfl⟩
theorem Fp_Dsk_52 : j_Fp "WireDesk" 52 5 8 (.array .byte) true := ⟨R_Dsk, T_Dsk, 11, t_Dsk, i_Dsk, rfl, by decide, TB_of 151 (by decide +kernel) rfl, t_Dsk_ok, n_Dsk, rfl, by decide +kernel, fun _ => rfl⟩
theorem F_Dsk_56 : j_F "WireDesk" 56 5 9 := ⟨R_Dsk, T_Dsk, 11, i_Dsk, rfl, by decide, TB_of 152 (by decide +kernel) rfl⟩
theorem Fp_Dsk_56 : j_Fp "WireDesk" 56 5 9 (.array .byte) true := ⟨R_Dsk, T_Dsk, 11, t_Dsk, i_Dsk, rfl, by decide, TB_of 152 (by decide +kernel) rfl, t_Dsk_ok, n_Dsk, rfl, by decide +kernel, fun _ => rfl⟩
theorem F_Dsk_62 : j_F "WireDesk" 62 5 10 := ⟨R_Dsk, T_Dsk, 11, i_Dsk, rfl, by decide, TB_of 153 (by decide +kernel) rfl⟩
theorem Fp_Dsk_62 : j_Fp "WireDesk" 62 5 10 (.object "WireDesk$NameRow") true := ⟨R_Dsk, T_Dsk, 11, t_Dsk, i_Dsk, rfl, by decide, TB_of 153 (by decide +kernel) rfl, t_Dsk_ok, n_Dsk, rfl, by decide +kernel, fun _ => rfl⟩
theorem F_Dsk_106 : j_F "WireDesk" 106 2 3 := ⟨R_Rea, T_Rea, 4, i_Rea, rfl, by decide, TB_of 43 (by decide +kernel) rfl⟩
theorem F_Dsk_107 : j_F "WireDesk" 107 2 2 := ⟨R_Rea, T_Rea, 4, i_Rea, rfl, by decide, TB_of 41 (by decide +kernel) rfl⟩
theorem F_Dsk_116 : j_F "WireDesk" 116 3 0 := ⟨R_Txt, T_Txt, 2, i_Txt, rfl, by decide, TB_of 23 (by decide +kernel) rfl⟩
theorem F_Dsk_139 : j_F "WireDesk" 139 4 0 := ⟨R_Tra, T_Tra, 10, i_Tra, rfl, by decide, TB_of 94 (by decide +kernel) rfl⟩
theorem F_Dsk_141 : j_F "WireDesk" 141 4 2 := ⟨R_Tra, T_Tra, 10, i_Tra, rfl, by decide, TB_of 100 (by decide +kernel) rfl⟩
theorem F_Dsk_144 : j_F "WireDesk" 144 4 3 := ⟨R_Tra, T_Tra, 10, i_Tra, rfl, by decide, TB_of 103 (by decide +kernel) rfl⟩
theorem F_Dsk_147 : j_F "WireDesk" 147 4 1 := ⟨R_Tra, T_Tra, 10, i_Tra, rfl, by decide, TB_of 97 (by decide +kernel) rfl⟩
theorem F_Dsk_150 : j_F "WireDesk" 150 4 4 := ⟨R_Tra, T_Tra, 10, i_Tra, rfl, by decide, TB_of 106 (by decide +kernel) rfl⟩
theorem F_Dsk_154 : j_F "WireDesk" 154 4 5 := ⟨R_Tra, T_Tra, 10, i_Tra, rfl, by decide, TB_of 109 (by decide +kernel) rfl⟩
theorem F_Dsk_157 : j_F "WireDesk" 157 4 6 := ⟨R_Tra, T_Tra, 10, i_Tra, rfl, by decide, TB_of 112 (by decide +kernel) rfl⟩
theorem F_Dsk_160 : j_F "WireDesk" 160 4 7 := ⟨R_Tra, T_Tra, 10, i_Tra, rfl, by decide, TB_of 115 (by decide +kernel) rfl⟩
theorem F_Dsk_163 : j_F "WireDesk" 163 4 8 := ⟨R_Tra, T_Tra, 10, i_Tra, rfl, by decide, TB_of 118 (by decide +kernel) rfl⟩
theorem F_Dsk_166 : j_F "WireDesk" 166 4 9 := ⟨R_Tra, T_Tra, 10, i_Tra, rfl, by decide, TB_of 121 (by decide +kernel) rfl⟩
theorem F_Dsk_173 : j_F "WireDesk" 173 0 0 := ⟨R_Row, T_Row, 2, i_Row, rfl, by decide, TB_of 79 (by decide +kernel) rfl⟩
theorem F_Dsk_176 : j_F "WireDesk" 176 0 1 := ⟨R_Row, T_Row, 2, i_Row, rfl, by decide, TB_of 81 (by decide +kernel) rfl⟩
theorem F_Row_9 : j_F "WireDesk$NameRow" 9 0 0 := ⟨R_Row, T_Row, 2, i_Row, rfl, by decide, TB_of 78 (by decide +kernel) rfl⟩
theorem Fp_Row_9 : j_Fp "WireDesk$NameRow" 9 0 0 (.array .byte) true := ⟨R_Row, T_Row, 2, t_Row, i_Row, rfl, by decide, TB_of 78 (by decide +kernel) rfl, t_Row_ok, n_Row, rfl, by decide +kernel, fun _ => rfl⟩
theorem F_Row_15 : j_F "WireDesk$NameRow" 15 0 1 := ⟨R_Row, T_Row, 2, i_Row, rfl, by decide, TB_of 80 (by decide +kernel) rfl⟩
theorem Fp_Row_15 : j_Fp "WireDesk$NameRow" 15 0 1 (.boolean) false := ⟨R_Row, T_Row, 2, t_Row, i_Row, rfl, by decide, TB_of 80 (by decide +kernel) rfl, t_Row_ok, n_Row, rfl, by decide +kernel, fun h => by cases h⟩
theorem F_Nam_9 : j_F "WireDesk$Namer" 9 1 0 := ⟨R_Nam, T_Nam, 3, i_Nam, rfl, by decide, TB_of 59 (by decide +kernel) rfl⟩
theorem Fp_Nam_9 : j_Fp "WireDesk$Namer" 9 1 0 (.array .int) true := ⟨R_Nam, T_Nam, 3, t_Nam, i_Nam, rfl, by decide, TB_of 59 (by decide +kernel) rfl, t_Nam_ok, n_Nam, rfl, by decide +kernel, fun _ => rfl⟩
theorem F_Nam_15 : j_F "WireDesk$Namer" 15 1 1 := ⟨R_Nam, T_Nam, 3, i_Nam, rfl, by decide, TB_of 60 (by decide +kernel) rfl⟩
theorem Fp_Nam_15 : j_Fp "WireDesk$Namer" 15 1 1 (.array .int) true := ⟨R_Nam, T_Nam, 3, t_Nam, i_Nam, rfl, by decide, TB_of 60 (by decide +kernel) rfl, t_Nam_ok, n_Nam, rfl, by decide +kernel, fun _ => rfl⟩
theorem F_Nam_18 : j_F "WireDesk$Namer" 18 1 2 := ⟨R_Nam, T_Nam, 3, i_Nam, rfl, by decide, TB_of 61 (by decide +kernel) rfl⟩
theorem Fp_Nam_18 : j_Fp "WireDesk$Namer" 18 1 2 (.array .byte) true := ⟨R_Nam, T_Nam, 3, t_Nam, i_Nam, rfl, by decide, TB_of 61 (by decide +kernel) rfl, t_Nam_ok, n_Nam, rfl, by decide +kernel, fun _ => rfl⟩
theorem F_Rea_9 : j_F "WireDesk$Reader" 9 2 1 := ⟨R_Rea, T_Rea, 4, i_Rea, rfl, by decide, TB_of 39 (by decide +kernel) rfl⟩
theorem Fp_Rea_9 : j_Fp "WireDesk$Reader" 9 2 1 (.int) false := ⟨R_Rea, T_Rea, 4, t_Rea, i_Rea, rfl, by decide, TB_of 39 (by decide +kernel) rfl, t_Rea_ok, n_Rea, rfl, by decide +kernel, fun h => by cases h⟩
theorem F_Rea_15 : j_F "WireDesk$Reader" 15 2 2 := ⟨R_Rea, T_Rea, 4, i_Rea, rfl, by decide, TB_of 40 (by decide +kernel) rfl⟩
theorem Fp_Rea_15 : j_Fp "WireDesk$Reader" 15 2 2 (.int) false := ⟨R_Rea, T_Rea, 4, t_Rea, i_Rea, rfl, by decide, TB_of 40 (by decide +kernel) rfl, t_Rea_ok, n_Rea, rfl, by decide +kernel, fun h => by cases h⟩
theorem F_Rea_18 : j_F "WireDesk$Reader" 18 2 3 := ⟨R_Rea, T_Rea, 4, i_Rea, rfl, by decide, TB_of 42 (by decide +kernel) rfl⟩
theorem Fp_Rea_18 : j_Fp "WireDesk$Reader" 18 2 3 (.int) false := ⟨R_Rea, T_Rea, 4, t_Rea, i_Rea, rfl, by decide, TB_of 42 (by decide +kernel) rfl, t_Rea_ok, n_Rea, rfl, by decide +kernel, fun h => by cases h⟩
theorem F_Rea_21 : j_F "WireDesk$Reader" 21 2 0 := ⟨R_Rea, T_Rea, 4, i_Rea, rfl, by decide, TB_of 38 (by decide +kernel) rfl⟩
theorem Fp_Rea_21 : j_Fp "WireDesk$Reader" 21 2 0 (.object "WireDesk$Text") true := ⟨R_Rea, T_Rea, 4, t_Rea, i_Rea, rfl, by decide, TB_of 38 (by decide +kernel) rfl, t_Rea_ok, n_Rea, rfl, by decide +kernel, fun _ => rfl⟩
theorem F_Rea_25 : j_F "WireDesk$Reader" 25 3 1 := ⟨R_Txt, T_Txt, 2, i_Txt, rfl, by decide, TB_of 25 (by decide +kernel) rfl⟩
theorem F_Rea_46 : j_F "WireDesk$Reader" 46 4 0 := ⟨R_Tra, T_Tra, 10, i_Tra, rfl, by decide, TB_of 93 (by decide +kernel) rfl⟩
theorem Fp_Rea_46 : j_Fp "WireDesk$Reader" 46 4 0 (.int) false := ⟨R_Tra, T_Tra, 10, t_Tra, i_Tra, rfl, by decide, TB_of 93 (by decide +kernel) rfl, t_Tra_ok, n_Tra, rfl, by decide +kernel, fun h => by cases h⟩
theorem F_Rea_51 : j_F "WireDesk$Reader" 51 4 2 := ⟨R_Tra, T_Tra, 10, i_Tra, rfl, by decide, TB_of 99 (by decide +kernel) rfl⟩
theorem Fp_Rea_51 : j_Fp "WireDesk$Reader" 51 4 2 (.int) false := ⟨R_Tra, T_Tra, 10, t_Tra, i_Tra, rfl, by decide, TB_of 99 (by decide +kernel) rfl, t_Tra_ok, n_Tra, rfl, by decide +kernel, fun h => by cases h⟩
theorem F_Rea_58 : j_F "WireDesk$Reader" 58 4 3 := ⟨R_Tra, T_Tra, 10, i_Tra, rfl, by decide, TB_of 102 (by decide +kernel) rfl⟩
theorem Fp_Rea_58 : j_Fp "WireDesk$Reader" 58 4 3 (.int) false := ⟨R_Tra, T_Tra, 10, t_Tra, i_Tra, rfl, by decide, TB_of 102 (by decide +kernel) rfl, t_Tra_ok, n_Tra, rfl, by decide +kernel, fun h => by cases h⟩
theorem F_Rea_64 : j_F "WireDesk$Reader" 64 4 1 := ⟨R_Tra, T_Tra, 10, i_Tra, rfl, by decide, TB_of 96 (by decide +kernel) rfl⟩
theorem Fp_Rea_64 : j_Fp "WireDesk$Reader" 64 4 1 (.int) false := ⟨R_Tra, T_Tra, 10, t_Tra, i_Tra, rfl, by decide, TB_of 96 (by decide +kernel) rfl, t_Tra_ok, n_Tra, rfl, by decide +kernel, fun h => by cases h⟩
theorem F_Rea_67 : j_F "WireDesk$Reader" 67 4 4 := ⟨R_Tra, T_Tra, 10, i_Tra, rfl, by decide, TB_of 105 (by decide +kernel) rfl⟩
theorem F_Rea_71 : j_F "WireDesk$Reader" 71 4 5 := ⟨R_Tra, T_Tra, 10, i_Tra, rfl, by decide, TB_of 108 (by decide +kernel) rfl⟩
theorem F_Rea_74 : j_F "WireDesk$Reader" 74 4 6 := ⟨R_Tra, T_Tra, 10, i_Tra, rfl, by decide, TB_of 111 (by decide +kernel) rfl⟩
theorem F_Rea_77 : j_F "WireDesk$Reader" 77 4 7 := ⟨R_Tra, T_Tra, 10, i_Tra, rfl, by decide, TB_of 114 (by decide +kernel) rfl⟩
theorem F_Rea_80 : j_F "WireDesk$Reader" 80 4 8 := ⟨R_Tra, T_Tra, 10, i_Tra, rfl, by decide, TB_of 117 (by decide +kernel) rfl⟩
theorem F_Rea_83 : j_F "WireDesk$Reader" 83 4 9 := ⟨R_Tra, T_Tra, 10, i_Tra, rfl, by decide, TB_of 120 (by decide +kernel) rfl⟩
theorem F_Txt_9 : j_F "WireDesk$Text" 9 3 0 := ⟨R_Txt, T_Txt, 2, i_Txt, rfl, by decide, TB_of 22 (by decide +kernel) rfl⟩
theorem Fp_Txt_9 : j_Fp "WireDesk$Text" 9 3 0 (.array .byte) true := ⟨R_Txt, T_Txt, 2, t_Txt, i_Txt, rfl, by decide, TB_of 22 (by decide +kernel) rfl, t_Txt_ok, n_Txt, rfl, by decide +kernel, fun _ => rfl⟩
theorem F_Txt_15 : j_F "WireDesk$Text" 15 3 1 := ⟨R_Txt, T_Txt, 2, i_Txt, rfl, by decide, TB_of 24 (by decide +kernel) rfl⟩
theorem Fp_Txt_15 : j_Fp "WireDesk$Text" 15 3 1 (.int) false := ⟨R_Txt, T_Txt, 2, t_Txt, i_Txt, rfl, by decide, TB_of 24 (by decide +kernel) rfl, t_Txt_ok, n_Txt, rfl, by decide +kernel, fun h => by cases h⟩
theorem F_Tra_9 : j_F "WireDesk$Transaction" 9 4 0 := ⟨R_Tra, T_Tra, 10, i_Tra, rfl, by decide, TB_of 92 (by decide +kernel) rfl⟩
theorem Fp_Tra_9 : j_Fp "WireDesk$Transaction" 9 4 0 (.int) false := ⟨R_Tra, T_Tra, 10, t_Tra, i_Tra, rfl, by decide, TB_of 92 (by decide +kernel) rfl, t_Tra_ok, n_Tra, rfl, by decide +kernel, fun h => by cases h⟩
theorem F_Tra_15 : j_F "WireDesk$Transaction" 15 4 1 := ⟨R_Tra, T_Tra, 10, i_Tra, rfl, by decide, TB_of 95 (by decide +kernel) rfl⟩
theorem Fp_Tra_15 : j_Fp "WireDesk$Transaction" 15 4 1 (.int) false := ⟨R_Tra, T_Tra, 10, t_Tra, i_Tra, rfl, by decide, TB_of 95 (by decide +kernel) rfl, t_Tra_ok, n_Tra, rfl, by decide +kernel, fun h => by cases h⟩
theorem F_Tra_18 : j_F "WireDesk$Transaction" 18 4 2 := ⟨R_Tra, T_Tra, 10, i_Tra, rfl, by decide, TB_of 98 (by decide +kernel) rfl⟩
theorem Fp_Tra_18 : j_Fp "WireDesk$Transaction" 18 4 2 (.int) false := ⟨R_Tra, T_Tra, 10, t_Tra, i_Tra, rfl, by decide, TB_of 98 (by decide +kernel) rfl, t_Tra_ok, n_Tra, rfl, by decide +kernel, fun h => by cases h⟩
theorem F_Tra_21 : j_F "WireDesk$Transaction" 21 4 3 := ⟨R_Tra, T_Tra, 10, i_Tra, rfl, by decide, TB_of 101 (by decide +kernel) rfl⟩
theorem Fp_Tra_21 : j_Fp "WireDesk$Transaction" 21 4 3 (.int) false := ⟨R_Tra, T_Tra, 10, t_Tra, i_Tra, rfl, by decide, TB_of 101 (by decide +kernel) rfl, t_Tra_ok, n_Tra, rfl, by decide +kernel, fun h => by cases h⟩
theorem F_Tra_24 : j_F "WireDesk$Transaction" 24 4 4 := ⟨R_Tra, T_Tra, 10, i_Tra, rfl, by decide, TB_of 104 (by decide +kernel) rfl⟩
theorem Fp_Tra_24 : j_Fp "WireDesk$Transaction" 24 4 4 (.array .int) true := ⟨R_Tra, T_Tra, 10, t_Tra, i_Tra, rfl, by decide, TB_of 104 (by decide +kernel) rfl, t_Tra_ok, n_Tra, rfl, by decide +kernel, fun _ => rfl⟩
theorem F_Tra_28 : j_F "WireDesk$Transaction" 28 4 5 := ⟨R_Tra, T_Tra, 10, i_Tra, rfl, by decide, TB_of 107 (by decide +kernel) rfl⟩
theorem Fp_Tra_28 : j_Fp "WireDesk$Transaction" 28 4 5 (.array .int) true := ⟨R_Tra, T_Tra, 10, t_Tra, i_Tra, rfl, by decide, TB_of 107 (by decide +kernel) rfl, t_Tra_ok, n_Tra, rfl, by decide +kernel, fun _ => rfl⟩
theorem F_Tra_31 : j_F "WireDesk$Transaction" 31 4 6 := ⟨R_Tra, T_Tra, 10, i_Tra, rfl, by decide, TB_of 110 (by decide +kernel) rfl⟩
theorem Fp_Tra_31 : j_Fp "WireDesk$Transaction" 31 4 6 (.array .int) true := ⟨R_Tra, T_Tra, 10, t_Tra, i_Tra, rfl, by decide, TB_of 110 (by decide +kernel) rfl, t_Tra_ok, n_Tra, rfl, by decide +kernel, fun _ => rfl⟩
theorem F_Tra_34 : j_F "WireDesk$Transaction" 34 4 7 := ⟨R_Tra, T_Tra, 10, i_Tra, rfl, by decide, TB_of 113 (by decide +kernel) rfl⟩
theorem Fp_Tra_34 : j_Fp "WireDesk$Transaction" 34 4 7 (.array .int) true := ⟨R_Tra, T_Tra, 10, t_Tra, i_Tra, rfl, by decide, TB_of 113 (by decide +kernel) rfl, t_Tra_ok, n_Tra, rfl, by decide +kernel, fun _ => rfl⟩
theorem F_Tra_37 : j_F "WireDesk$Transaction" 37 4 8 := ⟨R_Tra, T_Tra, 10, i_Tra, rfl, by decide, TB_of 116 (by decide +kernel) rfl⟩
theorem Fp_Tra_37 : j_Fp "WireDesk$Transaction" 37 4 8 (.array .int) true := ⟨R_Tra, T_Tra, 10, t_Tra, i_Tra, rfl, by decide, TB_of 116 (by decide +kernel) rfl, t_Tra_ok, n_Tra, rfl, by decide +kernel, fun _ => rfl⟩
theorem F_Tra_40 : j_F "WireDesk$Transaction" 40 4 9 := ⟨R_Tra, T_Tra, 10, i_Tra, rfl, by decide, TB_of 119 (by decide +kernel) rfl⟩
theorem Fp_Tra_40 : j_Fp "WireDesk$Transaction" 40 4 9 (.array .int) true := ⟨R_Tra, T_Tra, 10, t_Tra, i_Tra, rfl, by decide, TB_of 119 (by decide +kernel) rfl, t_Tra_ok, n_Tra, rfl, by decide +kernel, fun _ => rfl⟩
theorem F_Mod_7 : j_F "WireDeskModel" 7 6 0 := ⟨R_Mod, T_Mod, 32, i_Mod, rfl, by decide, TB_of 391 (by decide +kernel) rfl⟩
theorem Fp_Mod_7 : j_Fp "WireDeskModel" 7 6 0 (.array .int) true := ⟨R_Mod, T_Mod, 32, t_Mod, i_Mod, rfl, by decide, TB_of 391 (by decide +kernel) rfl, t_Mod_ok, n_Mod, rfl, by decide +kernel, fun _ => rfl⟩
theorem F_Mod_13 : j_F "WireDeskModel" 13 6 2 := ⟨R_Mod, T_Mod, 32, i_Mod, rfl, by decide, TB_of 393 (by decide +kernel) rfl⟩
theorem Fp_Mod_13 : j_Fp "WireDeskModel" 13 6 2 (.array .int) true := ⟨R_Mod, T_Mod, 32, t_Mod, i_Mod, rfl, by decide, TB_of 393 (by decide +kernel) rfl, t_Mod_ok, n_Mod, rfl, by decide +kernel, fun _ => rfl⟩
theorem F_Mod_16 : j_F "WireDeskModel" 16 6 6 := ⟨R_Mod, T_Mod, 32, i_Mod, rfl, by decide, TB_of 397 (by decide +kernel) rfl⟩
theorem Fp_Mod_16 : j_Fp "WireDeskModel" 16 6 6 (.int) false := ⟨R_Mod, T_Mod, 32, t_Mod, i_Mod, rfl, by decide, TB_of 397 (by decide +kernel) rfl, t_Mod_ok, n_Mod, rfl, by decide +kernel, fun h => by cases h⟩
theorem F_Mod_20 : j_F "WireDeskModel" 20 6 10 := ⟨R_Mod, T_Mod, 32, i_Mod, rfl, by decide, TB_of 401 (by decide +kernel) rfl⟩
theorem Fp_Mod_20 : j_Fp "WireDeskModel" 20 6 10 (.array .int) true := ⟨R_Mod, T_Mod, 32, t_Mod, i_Mod, rfl, by decide, TB_of 401 (by decide +kernel) rfl, t_Mod_ok, n_Mod, rfl, by decide +kernel, fun _ => rfl⟩
theorem F_Mod_23 : j_F "WireDeskModel" 23 6 11 := ⟨R_Mod, T_Mod, 32, i_Mod, rfl, by decide, TB_of 402 (by decide +kernel) rfl⟩
theorem Fp_Mod_23 : j_Fp "WireDeskModel" 23 6 11 (.array .int) true := ⟨R_Mod, T_Mod, 32, t_Mod, i_Mod, rfl, by decide, TB_of 402 (by decide +kernel) rfl, t_Mod_ok, n_Mod, rfl, by decide +kernel, fun _ => rfl⟩
theorem F_Mod_26 : j_F "WireDeskModel" 26 6 12 := ⟨R_Mod, T_Mod, 32, i_Mod, rfl, by decide, TB_of 403 (by decide +kernel) rfl⟩
theorem Fp_Mod_26 : j_Fp "WireDeskModel" 26 6 12 (.array .int) true := ⟨R_Mod, T_Mod, 32, t_Mod, i_Mod, rfl, by decide, TB_of 403 (by decide +kernel) rfl, t_Mod_ok, n_Mod, rfl, by decide +kernel, fun _ => rfl⟩
theorem F_Mod_29 : j_F "WireDeskModel" 29 6 13 := ⟨R_Mod, T_Mod, 32, i_Mod, rfl, by decide, TB_of 404 (by decide +kernel) rfl⟩
theorem Fp_Mod_29 : j_Fp "WireDeskModel" 29 6 13 (.array .int) true := ⟨R_Mod, T_Mod, 32, t_Mod, i_Mod, rfl, by decide, TB_of 404 (by decide +kernel) rfl, t_Mod_ok, n_Mod, rfl, by decide +kernel, fun _ => rfl⟩
theorem F_Mod_32 : j_F "WireDeskModel" 32 6 14 := ⟨R_Mod, T_Mod, 32, i_Mod, rfl, by decide, TB_of 405 (by decide +kernel) rfl⟩
theorem Fp_Mod_32 : j_Fp "WireDeskModel" 32 6 14 (.array .int) true := ⟨R_Mod, T_Mod, 32, t_Mod, i_Mod, rfl, by decide, TB_of 405 (by decide +kernel) rfl, t_Mod_ok, n_Mod, rfl, by decide +kernel, fun _ => rfl⟩
theorem F_Mod_35 : j_F "WireDeskModel" 35 6 15 := ⟨R_Mod, T_Mod, 32, i_Mod, rfl, by decide, TB_of 406 (by decide +kernel) rfl⟩
theorem Fp_Mod_35 : j_Fp "WireDeskModel" 35 6 15 (.array .int) true := ⟨R_Mod, T_Mod, 32, t_Mod, i_Mod, rfl, by decide, TB_of 406 (by decide +kernel) rfl, t_Mod_ok, n_Mod, rfl, by decide +kernel, fun _ => rfl⟩
theorem F_Mod_38 : j_F "WireDeskModel" 38 6 16 := ⟨R_Mod, T_Mod, 32, i_Mod, rfl, by decide, TB_of 407 (by decide +kernel) rfl⟩
theorem Fp_Mod_38 : j_Fp "WireDeskModel" 38 6 16 (.array .int) true := ⟨R_Mod, T_Mod, 32, t_Mod, i_Mod, rfl, by decide, TB_of 407 (by decide +kernel) rfl, t_Mod_ok, n_Mod, rfl, by decide +kernel, fun _ => rfl⟩
theorem F_Mod_41 : j_F "WireDeskModel" 41 6 17 := ⟨R_Mod, T_Mod, 32, i_Mod, rfl, by decide, TB_of 408 (by decide +kernel) rfl⟩
theorem Fp_Mod_41 : j_Fp "WireDeskModel" 41 6 17 (.array .int) true := ⟨R_Mod, T_Mod, 32, t_Mod, i_Mod, rfl, by decide, TB_of 408 (by decide +kernel) rfl, t_Mod_ok, n_Mod, rfl, by decide +kernel, fun _ => rfl⟩
theorem F_Mod_44 : j_F "WireDeskModel" 44 6 18 := ⟨R_Mod, T_Mod, 32, i_Mod, rfl, by decide, TB_of 409 (by decide +kernel) rfl⟩
theorem Fp_Mod_44 : j_Fp "WireDeskModel" 44 6 18 (.array .int) true := ⟨R_Mod, T_Mod, 32, t_Mod, i_Mod, rfl, by decide, TB_of 409 (by decide +kernel) rfl, t_Mod_ok, n_Mod, rfl, by decide +kernel, fun _ => rfl⟩
theorem F_Mod_47 : j_F "WireDeskModel" 47 6 19 := ⟨R_Mod, T_Mod, 32, i_Mod, rfl, by decide, TB_of 410 (by decide +kernel) rfl⟩
theorem Fp_Mod_47 : j_Fp "WireDeskModel" 47 6 19 (.array .int) true := ⟨R_Mod, T_Mod, 32, t_Mod, i_Mod, rfl, by decide, TB_of 410 (by decide +kernel) rfl, t_Mod_ok, n_Mod, rfl, by decide +kernel, fun _ => rfl⟩
theorem F_Mod_50 : j_F "WireDeskModel" 50 6 20 := ⟨R_Mod, T_Mod, 32, i_Mod, rfl, by decide, TB_of 411 (by decide +kernel) rfl⟩
theorem Fp_Mod_50 : j_Fp "WireDeskModel" 50 6 20 (.array .int) true := ⟨R_Mod, T_Mod, 32, t_Mod, i_Mod, rfl, by decide, TB_of 411 (by decide +kernel) rfl, t_Mod_ok, n_Mod, rfl, by decide +kernel, fun _ => rfl⟩
theorem F_Mod_53 : j_F "WireDeskModel" 53 6 21 := ⟨R_Mod, T_Mod, 32, i_Mod, rfl, by decide, TB_of 412 (by decide +kernel) rfl⟩
theorem Fp_Mod_53 : j_Fp "WireDeskModel" 53 6 21 (.array .int) true := ⟨R_Mod, T_Mod, 32, t_Mod, i_Mod, rfl, by decide, TB_of 412 (by decide +kernel) rfl, t_Mod_ok, n_Mod, rfl, by decide +kernel, fun _ => rfl⟩
theorem F_Mod_56 : j_F "WireDeskModel" 56 6 22 := ⟨R_Mod, T_Mod, 32, i_Mod, rfl, by decide, TB_of 413 (by decide +kernel) rfl⟩
theorem Fp_Mod_56 : j_Fp "WireDeskModel" 56 6 22 (.array .int) true := ⟨R_Mod, T_Mod, 32, t_Mod, i_Mod, rfl, by decide, TB_of 413 (by decide +kernel) rfl, t_Mod_ok, n_Mod, rfl, by decide +kernel, fun _ => rfl⟩
theorem F_Mod_59 : j_F "WireDeskModel" 59 6 24 := ⟨R_Mod, T_Mod, 32, i_Mod, rfl, by decide, TB_of 415 (by decide +kernel) rfl⟩
theorem Fp_Mod_59 : j_Fp "WireDeskModel" 59 6 24 (.array .int) true := ⟨R_Mod, T_Mod, 32, t_Mod, i_Mod, rfl, by decide, TB_of 415 (by decide +kernel) rfl, t_Mod_ok, n_Mod, rfl, by decide +kernel, fun _ => rfl⟩
theorem F_Mod_62 : j_F "WireDeskModel" 62 6 25 := ⟨R_Mod, T_Mod, 32, i_Mod, rfl, by decide, TB_of 416 (by decide +kernel) rfl⟩
theorem Fp_Mod_62 : j_Fp "WireDeskModel" 62 6 25 (.array .int) true := ⟨R_Mod, T_Mod, 32, t_Mod, i_Mod, rfl, by decide, TB_of 416 (by decide +kernel) rfl, t_Mod_ok, n_Mod, rfl, by decide +kernel, fun _ => rfl⟩
theorem F_Mod_65 : j_F "WireDeskModel" 65 6 26 := ⟨R_Mod, T_Mod, 32, i_Mod, rfl, by decide, TB_of 417 (by decide +kernel) rfl⟩
theorem Fp_Mod_65 : j_Fp "WireDeskModel" 65 6 26 (.array .long) true := ⟨R_Mod, T_Mod, 32, t_Mod, i_Mod, rfl, by decide, TB_of 417 (by decide +kernel) rfl, t_Mod_ok, n_Mod, rfl, by decide +kernel, fun _ => rfl⟩
theorem F_Mod_69 : j_F "WireDeskModel" 69 6 27 := ⟨R_Mod, T_Mod, 32, i_Mod, rfl, by decide, TB_of 418 (by decide +kernel) rfl⟩
theorem Fp_Mod_69 : j_Fp "WireDeskModel" 69 6 27 (.array .long) true := ⟨R_Mod, T_Mod, 32, t_Mod, i_Mod, rfl, by decide, TB_of 418 (by decide +kernel) rfl, t_Mod_ok, n_Mod, rfl, by decide +kernel, fun _ => rfl⟩
theorem F_Mod_72 : j_F "WireDeskModel" 72 6 28 := ⟨R_Mod, T_Mod, 32, i_Mod, rfl, by decide, TB_of 419 (by decide +kernel) rfl⟩
theorem Fp_Mod_72 : j_Fp "WireDeskModel" 72 6 28 (.array .long) true := ⟨R_Mod, T_Mod, 32, t_Mod, i_Mod, rfl, by decide, TB_of 419 (by decide +kernel) rfl, t_Mod_ok, n_Mod, rfl, by decide +kernel, fun _ => rfl⟩
theorem F_Mod_75 : j_F "WireDeskModel" 75 6 29 := ⟨R_Mod, T_Mod, 32, i_Mod, rfl, by decide, TB_of 420 (by decide +kernel) rfl⟩
theorem Fp_Mod_75 : j_Fp "WireDeskModel" 75 6 29 (.array .long) true := ⟨R_Mod, T_Mod, 32, t_Mod, i_Mod, rfl, by decide, TB_of 420 (by decide +kernel) rfl, t_Mod_ok, n_Mod, rfl, by decide +kernel, fun _ => rfl⟩
theorem F_Mod_78 : j_F "WireDeskModel" 78 6 30 := ⟨R_Mod, T_Mod, 32, i_Mod, rfl, by decide, TB_of 421 (by decide +kernel) rfl⟩
theorem Fp_Mod_78 : j_Fp "WireDeskModel" 78 6 30 (.array .long) true := ⟨R_Mod, T_Mod, 32, t_Mod, i_Mod, rfl, by decide, TB_of 421 (by decide +kernel) rfl, t_Mod_ok, n_Mod, rfl, by decide +kernel, fun _ => rfl⟩
theorem F_Mod_81 : j_F "WireDeskModel" 81 6 31 := ⟨R_Mod, T_Mod, 32, i_Mod, rfl, by decide, TB_of 422 (by decide +kernel) rfl⟩
theorem Fp_Mod_81 : j_Fp "WireDeskModel" 81 6 31 (.array .long) true := ⟨R_Mod, T_Mod, 32, t_Mod, i_Mod, rfl, by decide, TB_of 422 (by decide +kernel) rfl, t_Mod_ok, n_Mod, rfl, by decide +kernel, fun _ => rfl⟩
theorem F_Mod_130 : j_F "WireDeskModel" 130 6 5 := ⟨R_Mod, T_Mod, 32, i_Mod, rfl, by decide, TB_of 396 (by decide +kernel) rfl⟩
theorem Fp_Mod_130 : j_Fp "WireDeskModel" 130 6 5 (.int) false := ⟨R_Mod, T_Mod, 32, t_Mod, i_Mod, rfl, by decide, TB_of 396 (by decide +kernel) rfl, t_Mod_ok, n_Mod, rfl, by decide +kernel, fun h => by cases h⟩
theorem F_Mod_133 : j_F "WireDeskModel" 133 6 23 := ⟨R_Mod, T_Mod, 32, i_Mod, rfl, by decide, TB_of 414 (by decide +kernel) rfl⟩
theorem Fp_Mod_133 : j_Fp "WireDeskModel" 133 6 23 (.boolean) false := ⟨R_Mod, T_Mod, 32, t_Mod, i_Mod, rfl, by decide, TB_of 414 (by decide +kernel) rfl, t_Mod_ok, n_Mod, rfl, by decide +kernel, fun h => by cases h⟩
theorem F_Mod_137 : j_F "WireDeskModel" 137 6 8 := ⟨R_Mod, T_Mod, 32, i_Mod, rfl, by decide, TB_of 399 (by decide +kernel) rfl⟩
theorem Fp_Mod_137 : j_Fp "WireDeskModel" 137 6 8 (.int) false := ⟨R_Mod, T_Mod, 32, t_Mod, i_Mod, rfl, by decide, TB_of 399 (by decide +kernel) rfl, t_Mod_ok, n_Mod, rfl, by decide +kernel, fun h => by cases h⟩
theorem F_Mod_140 : j_F "WireDeskModel" 140 6 9 := ⟨R_Mod, T_Mod, 32, i_Mod, rfl, by decide, TB_of 400 (by decide +kernel) rfl⟩
theorem Fp_Mod_140 : j_Fp "WireDeskModel" 140 6 9 (.int) false := ⟨R_Mod, T_Mod, 32, t_Mod, i_Mod, rfl, by decide, TB_of 400 (by decide +kernel) rfl, t_Mod_ok, n_Mod, rfl, by decide +kernel, fun h => by cases h⟩
theorem F_Mod_143 : j_F "WireDeskModel" 143 6 7 := ⟨R_Mod, T_Mod, 32, i_Mod, rfl, by decide, TB_of 398 (by decide +kernel) rfl⟩
theorem Fp_Mod_143 : j_Fp "WireDeskModel" 143 6 7 (.int) false := ⟨R_Mod, T_Mod, 32, t_Mod, i_Mod, rfl, by decide, TB_of 398 (by decide +kernel) rfl, t_Mod_ok, n_Mod, rfl, by decide +kernel, fun h => by cases h⟩
theorem F_Mod_146 : j_F "WireDeskModel" 146 6 3 := ⟨R_Mod, T_Mod, 32, i_Mod, rfl, by decide, TB_of 394 (by decide +kernel) rfl⟩
theorem Fp_Mod_146 : j_Fp "WireDeskModel" 146 6 3 (.int) false := ⟨R_Mod, T_Mod, 32, t_Mod, i_Mod, rfl, by decide, TB_of 394 (by decide +kernel) rfl, t_Mod_ok, n_Mod, rfl, by decide +kernel, fun h => by cases h⟩
theorem F_Mod_169 : j_F "WireDeskModel" 169 6 1 := ⟨R_Mod, T_Mod, 32, i_Mod, rfl, by decide, TB_of 392 (by decide +kernel) rfl⟩
theorem Fp_Mod_169 : j_Fp "WireDeskModel" 169 6 1 (.int) false := ⟨R_Mod, T_Mod, 32, t_Mod, i_Mod, rfl, by decide, TB_of 392 (by decide +kernel) rfl, t_Mod_ok, n_Mod, rfl, by decide +kernel, fun h => by cases h⟩
theorem F_Mod_172 : j_F "WireDeskModel" 172 6 4 := ⟨R_Mod, T_Mod, 32, i_Mod, rfl, by decide, TB_of 395 (by decide +kernel) rfl⟩
theorem Fp_Mod_172 : j_Fp "WireDeskModel" 172 6 4 (.boolean) false := ⟨R_Mod, T_Mod, 32, t_Mod, i_Mod, rfl, by decide, TB_of 395 (by decide +kernel) rfl, t_Mod_ok, n_Mod, rfl, by decide +kernel, fun h => by cases h⟩
theorem Y_Dsk_init : j_Y y_Dsk_init b_Dsk_init 2 none 0 := ⟨TB_of 12 (by decide +kernel) rfl, TB_of 1 (by decide +kernel) rfl, by decide +kernel, by decide +kernel, by decide +kernel⟩
theorem im_Dsk_init : Cond.instanceMethod y_Dsk_init ∈ TB := TB_of 11 (by decide +kernel) rfl
theorem Y_Dsk_put : j_Y y_Dsk_put b_Dsk_put 4 (some .boolean) 2 := ⟨TB_of 180 (by decide +kernel) rfl, TB_of 1 (by decide +kernel) rfl, by decide +kernel, by decide +kernel, by decide +kernel⟩
theorem im_Dsk_put : Cond.instanceMethod y_Dsk_put ∈ TB := TB_of 178 (by decide +kernel) rfl
theorem sl_Dsk_put : Cond.selects y_Dsk_put.cls y_Dsk_put y_Dsk_put ∈ TB := TB_of 179 (by decide +kernel) rfl
theorem Y_Dsk_low : j_Y y_Dsk_low b_Dsk_low 4 (some .boolean) 2 := ⟨TB_of 196 (by decide +kernel) rfl, TB_of 1 (by decide +kernel) rfl, by decide +kernel, by decide +kernel, by decide +kernel⟩
theorem im_Dsk_low : Cond.instanceMethod y_Dsk_low ∈ TB := TB_of 194 (by decide +kernel) rfl
theorem sl_Dsk_low : Cond.selects y_Dsk_low.cls y_Dsk_low y_Dsk_low ∈ TB := TB_of 195 (by decide +kernel) rfl
theorem Y_Dsk_compact : j_Y y_Dsk_compact b_Dsk_compact 4 (some .boolean) 1 := ⟨TB_of 204 (by decide +kernel) rfl, TB_of 1 (by decide +kernel) rfl, by decide +kernel, by decide +kernel, by decide +kernel⟩
theorem im_Dsk_compact : Cond.instanceMethod y_Dsk_compact ∈ TB := TB_of 202 (by decide +kernel) rfl
theorem sl_Dsk_compact : Cond.selects y_Dsk_compact.cls y_Dsk_compact y_Dsk_compact ∈ TB := TB_of 203 (by decide +kernel) rfl
theorem Y_Dsk_read : j_Y y_Dsk_read b_Dsk_read 3 (some .int) 1 := ⟨TB_of 215 (by decide +kernel) rfl, TB_of 1 (by decide +kernel) rfl, by decide +kernel, by decide +kernel, by decide +kernel⟩
theorem im_Dsk_read : Cond.instanceMethod y_Dsk_read ∈ TB := TB_of 213 (by decide +kernel) rfl
theorem sl_Dsk_read : Cond.selects y_Dsk_read.cls y_Dsk_read y_Dsk_read ∈ TB := TB_of 214 (by decide +kernel) rfl
theorem Y_Dsk_place : j_Y y_Dsk_place b_Dsk_place 1 (some .int) 0 := ⟨TB_of 332 (by decide +kernel) rfl, TB_of 1 (by decide +kernel) rfl, by decide +kernel, by decide +kernel, by decide +kernel⟩
theorem im_Dsk_place : Cond.instanceMethod y_Dsk_place ∈ TB := TB_of 330 (by decide +kernel) rfl
theorem sl_Dsk_place : Cond.selects y_Dsk_place.cls y_Dsk_place y_Dsk_place ∈ TB := TB_of 331 (by decide +kernel) rfl
theorem Y_Dsk_byteOf : j_Y y_Dsk_byteOf b_Dsk_byteOf 2 (some .int) 1 := ⟨TB_of 336 (by decide +kernel) rfl, TB_of 1 (by decide +kernel) rfl, by decide +kernel, by decide +kernel, by decide +kernel⟩
theorem im_Dsk_byteOf : Cond.instanceMethod y_Dsk_byteOf ∈ TB := TB_of 334 (by decide +kernel) rfl
theorem sl_Dsk_byteOf : Cond.selects y_Dsk_byteOf.cls y_Dsk_byteOf y_Dsk_byteOf ∈ TB := TB_of 335 (by decide +kernel) rfl
theorem Y_Dsk_head : j_Y y_Dsk_head b_Dsk_head 2 (some .long) 1 := ⟨TB_of 341 (by decide +kernel) rfl, TB_of 1 (by decide +kernel) rfl, by decide +kernel, by decide +kernel, by decide +kernel⟩
theorem im_Dsk_head : Cond.instanceMethod y_Dsk_head ∈ TB := TB_of 339 (by decide +kernel) rfl
theorem sl_Dsk_head : Cond.selects y_Dsk_head.cls y_Dsk_head y_Dsk_head ∈ TB := TB_of 340 (by decide +kernel) rfl
theorem Y_Dsk_look : j_Y y_Dsk_look b_Dsk_look 4 (some .long) 2 := ⟨TB_of 347 (by decide +kernel) rfl, TB_of 1 (by decide +kernel) rfl, by decide +kernel, by decide +kernel, by decide +kernel⟩
theorem im_Dsk_look : Cond.instanceMethod y_Dsk_look ∈ TB := TB_of 345 (by decide +kernel) rfl
theorem sl_Dsk_look : Cond.selects y_Dsk_look.cls y_Dsk_look y_Dsk_look ∈ TB := TB_of 346 (by decide +kernel) rfl
theorem Y_Dsk_input : j_Y y_Dsk_input b_Dsk_input 8 (some .long) 3 := ⟨TB_of 355 (by decide +kernel) rfl, TB_of 1 (by decide +kernel) rfl, by decide +kernel, by decide +kernel, by decide +kernel⟩
theorem im_Dsk_input : Cond.instanceMethod y_Dsk_input ∈ TB := TB_of 353 (by decide +kernel) rfl
theorem sl_Dsk_input : Cond.selects y_Dsk_input.cls y_Dsk_input y_Dsk_input ∈ TB := TB_of 354 (by decide +kernel) rfl
theorem Y_Dsk_output : j_Y y_Dsk_output b_Dsk_output 5 (some .long) 3 := ⟨TB_of 359 (by decide +kernel) rfl, TB_of 1 (by decide +kernel) rfl, by decide +kernel, by decide +kernel, by decide +kernel⟩
theorem im_Dsk_output : Cond.instanceMethod y_Dsk_output ∈ TB := TB_of 357 (by decide +kernel) rfl
theorem sl_Dsk_output : Cond.selects y_Dsk_output.cls y_Dsk_output y_Dsk_output ∈ TB := TB_of 358 (by decide +kernel) rfl
theorem Y_Dsk_name : j_Y y_Dsk_name b_Dsk_name 3 (some .long) 2 := ⟨TB_of 363 (by decide +kernel) rfl, TB_of 1 (by decide +kernel) rfl, by decide +kernel, by decide +kernel, by decide +kernel⟩
theorem im_Dsk_name : Cond.instanceMethod y_Dsk_name ∈ TB := TB_of 361 (by decide +kernel) rfl
theorem sl_Dsk_name : Cond.selects y_Dsk_name.cls y_Dsk_name y_Dsk_name ∈ TB := TB_of 362 (by decide +kernel) rfl
theorem Y_Dsk_isDoubtful : j_Y y_Dsk_isDoubtful b_Dsk_isDoubtful 1 (some .boolean) 0 := ⟨TB_of 370 (by decide +kernel) rfl, TB_of 1 (by decide +kernel) rfl, by decide +kernel, by decide +kernel, by decide +kernel⟩
theorem im_Dsk_isDoubtful : Cond.instanceMethod y_Dsk_isDoubtful ∈ TB := TB_of 368 (by decide +kernel) rfl
theorem sl_Dsk_isDoubtful : Cond.selects y_Dsk_isDoubtful.cls y_Dsk_isDoubtful y_Dsk_isDoubtful ∈ TB := TB_of 369 (by decide +kernel) rfl
theorem Y_Dsk_forget : j_Y y_Dsk_forget b_Dsk_forget 1 none 0 := ⟨TB_of 277 (by decide +kernel) rfl, TB_of 1 (by decide +kernel) rfl, by decide +kernel, by decide +kernel, by decide +kernel⟩
theorem im_Dsk_forget : Cond.instanceMethod y_Dsk_forget ∈ TB := TB_of 276 (by decide +kernel) rfl
theorem sl_Dsk_forget : Cond.selects y_Dsk_forget.cls y_Dsk_forget y_Dsk_forget ∈ TB := TB_sel (q := (y_Dsk_forget, 11)) 6 (by decide +kernel)
theorem Y_Dsk_hasTransaction : j_Y y_Dsk_hasTransaction b_Dsk_hasTransaction 2 (some .boolean) 1 := ⟨TB_of 351 (by decide +kernel) rfl, TB_of 1 (by decide +kernel) rfl, by decide +kernel, by decide +kernel, by decide +kernel⟩
theorem im_Dsk_hasTransaction : Cond.instanceMethod y_Dsk_hasTransaction ∈ TB := TB_of 350 (by decide +kernel) rfl
theorem sl_Dsk_hasTransaction : Cond.selects y_Dsk_hasTransaction.cls y_Dsk_hasTransaction y_Dsk_hasTransaction ∈ TB := TB_sel (q := (y_Dsk_hasTransaction, 11)) 15 (by decide +kernel)
theorem Y_Dsk_nameTransactions : j_Y y_Dsk_nameTransactions b_Dsk_nameTransactions 4 none 0 := ⟨TB_of 281 (by decide +kernel) rfl, TB_of 1 (by decide +kernel) rfl, by decide +kernel, by decide +kernel, by decide +kernel⟩
theorem im_Dsk_nameTransactions : Cond.instanceMethod y_Dsk_nameTransactions ∈ TB := TB_of 280 (by decide +kernel) rfl
theorem sl_Dsk_nameTransactions : Cond.selects y_Dsk_nameTransactions.cls y_Dsk_nameTransactions y_Dsk_nameTransactions ∈ TB := TB_sel (q := (y_Dsk_nameTransactions, 11)) 7 (by decide +kernel)
theorem Y_Dsk_eightBytes : j_Y y_Dsk_eightBytes b_Dsk_eightBytes 5 (some .long) 2 := ⟨TB_of 366 (by decide +kernel) rfl, TB_of 1 (by decide +kernel) rfl, by decide +kernel, by decide +kernel, by decide +kernel⟩
theorem sta_Dsk_eightBytes : Cond.static y_Dsk_eightBytes ∈ TB := TB_of 365 (by decide +kernel) rfl
theorem Y_Dsk_widthOfSize : j_Y y_Dsk_widthOfSize b_Dsk_widthOfSize 2 (some .int) 1 := ⟨TB_of 207 (by decide +kernel) rfl, TB_of 1 (by decide +kernel) rfl, by decide +kernel, by decide +kernel, by decide +kernel⟩
theorem sta_Dsk_widthOfSize : Cond.static y_Dsk_widthOfSize ∈ TB := TB_of 206 (by decide +kernel) rfl
theorem Y_Dsk_markOfWidth : j_Y y_Dsk_markOfWidth b_Dsk_markOfWidth 1 (some .int) 1 := ⟨TB_of 211 (by decide +kernel) rfl, TB_of 1 (by decide +kernel) rfl, by decide +kernel, by decide +kernel, by decide +kernel⟩
theorem sta_Dsk_markOfWidth : Cond.static y_Dsk_markOfWidth ∈ TB := TB_of 210 (by decide +kernel) rfl
theorem Y_Dsk_widthOfMark : j_Y y_Dsk_widthOfMark b_Dsk_widthOfMark 1 (some .int) 1 := ⟨TB_of 250 (by decide +kernel) rfl, TB_of 1 (by decide +kernel) rfl, by decide +kernel, by decide +kernel, by decide +kernel⟩
theorem sta_Dsk_widthOfMark : Cond.static y_Dsk_widthOfMark ∈ TB := TB_of 249 (by decide +kernel) rfl
theorem Y_Mod_init : j_Y y_Mod_init b_Mod_init 3 none 0 := ⟨TB_of 375 (by decide +kernel) rfl, TB_of 7 (by decide +kernel) rfl, by decide +kernel, by decide +kernel, by decide +kernel⟩
theorem im_Mod_init : Cond.instanceMethod y_Mod_init ∈ TB := TB_of 374 (by decide +kernel) rfl
theorem Y_Mod_isPrime : j_Y y_Mod_isPrime b_Mod_isPrime 2 (some .boolean) 1 := ⟨TB_of 379 (by decide +kernel) rfl, TB_of 7 (by decide +kernel) rfl, by decide +kernel, by decide +kernel, by decide +kernel⟩
theorem sta_Mod_isPrime : Cond.static y_Mod_isPrime ∈ TB := TB_of 378 (by decide +kernel) rfl
theorem Y_Mod_rootOf : j_Y y_Mod_rootOf b_Mod_rootOf 6 (some .long) 2 := ⟨TB_of 383 (by decide +kernel) rfl, TB_of 7 (by decide +kernel) rfl, by decide +kernel, by decide +kernel, by decide +kernel⟩
theorem im_Mod_rootOf : Cond.instanceMethod y_Mod_rootOf ∈ TB := TB_of 382 (by decide +kernel) rfl
theorem sl_Mod_rootOf : Cond.selects y_Mod_rootOf.cls y_Mod_rootOf y_Mod_rootOf ∈ TB := TB_sel (q := (y_Mod_rootOf, 32)) 16 (by decide +kernel)
theorem Y_Mod_fits : j_Y y_Mod_fits b_Mod_fits 9 (some .boolean) 3 := ⟨TB_of 387 (by decide +kernel) rfl, TB_of 7 (by decide +kernel) rfl, by decide +kernel, by decide +kernel, by decide +kernel⟩
theorem im_Mod_fits : Cond.instanceMethod y_Mod_fits ∈ TB := TB_of 386 (by decide +kernel) rfl
theorem sl_Mod_fits : Cond.selects y_Mod_fits.cls y_Mod_fits y_Mod_fits ∈ TB := TB_sel (q := (y_Mod_fits, 32)) 17 (by decide +kernel)
theorem Y_Mod_turn : j_Y y_Mod_turn b_Mod_turn 3 (some .long) 2 := ⟨TB_of 551 (by decide +kernel) rfl, TB_of 7 (by decide +kernel) rfl, by decide +kernel, by decide +kernel, by decide +kernel⟩
theorem sta_Mod_turn : Cond.static y_Mod_turn ∈ TB := TB_of 550 (by decide +kernel) rfl
theorem Y_Mod_not : j_Y y_Mod_not b_Mod_not 2 (some .long) 1 := ⟨TB_of 555 (by decide +kernel) rfl, TB_of 7 (by decide +kernel) rfl, by decide +kernel, by decide +kernel, by decide +kernel⟩
theorem sta_Mod_not : Cond.static y_Mod_not ∈ TB := TB_of 554 (by decide +kernel) rfl
theorem Y_Mod_digestOf : j_Y y_Mod_digestOf b_Mod_digestOf 4 none 1 := ⟨TB_of 542 (by decide +kernel) rfl, TB_of 7 (by decide +kernel) rfl, by decide +kernel, by decide +kernel, by decide +kernel⟩
theorem im_Mod_digestOf : Cond.instanceMethod y_Mod_digestOf ∈ TB := TB_of 541 (by decide +kernel) rfl
theorem sl_Mod_digestOf : Cond.selects y_Mod_digestOf.cls y_Mod_digestOf y_Mod_digestOf ∈ TB := TB_sel (q := (y_Mod_digestOf, 32)) 26 (by decide +kernel)
theorem Y_Mod_block : j_Y y_Mod_block b_Mod_block 12 none 1 := ⟨TB_of 547 (by decide +kernel) rfl, TB_of 7 (by decide +kernel) rfl, by decide +kernel, by decide +kernel, by decide +kernel⟩
theorem im_Mod_block : Cond.instanceMethod y_Mod_block ∈ TB := TB_of 546 (by decide +kernel) rfl
theorem sl_Mod_block : Cond.selects y_Mod_block.cls y_Mod_block y_Mod_block ∈ TB := TB_sel (q := (y_Mod_block, 32)) 27 (by decide +kernel)
theorem Y_Mod_nameOf : j_Y y_Mod_nameOf b_Mod_nameOf 5 none 3 := ⟨TB_of 534 (by decide +kernel) rfl, TB_of 7 (by decide +kernel) rfl, by decide +kernel, by decide +kernel, by decide +kernel⟩
theorem im_Mod_nameOf : Cond.instanceMethod y_Mod_nameOf ∈ TB := TB_of 533 (by decide +kernel) rfl
theorem sl_Mod_nameOf : Cond.selects y_Mod_nameOf.cls y_Mod_nameOf y_Mod_nameOf ∈ TB := TB_sel (q := (y_Mod_nameOf, 32)) 24 (by decide +kernel)
theorem Y_Mod_twice : j_Y y_Mod_twice b_Mod_twice 3 none 1 := ⟨TB_of 538 (by decide +kernel) rfl, TB_of 7 (by decide +kernel) rfl, by decide +kernel, by decide +kernel, by decide +kernel⟩
theorem im_Mod_twice : Cond.instanceMethod y_Mod_twice ∈ TB := TB_of 537 (by decide +kernel) rfl
theorem sl_Mod_twice : Cond.selects y_Mod_twice.cls y_Mod_twice y_Mod_twice ∈ TB := TB_sel (q := (y_Mod_twice, 32)) 25 (by decide +kernel)
theorem Y_Mod_join : j_Y y_Mod_join b_Mod_join 6 none 0 := ⟨TB_of 560 (by decide +kernel) rfl, TB_of 7 (by decide +kernel) rfl, by decide +kernel, by decide +kernel, by decide +kernel⟩
theorem im_Mod_join : Cond.instanceMethod y_Mod_join ∈ TB := TB_of 559 (by decide +kernel) rfl
theorem sl_Mod_join : Cond.selects y_Mod_join.cls y_Mod_join y_Mod_join ∈ TB := TB_sel (q := (y_Mod_join, 32)) 28 (by decide +kernel)
theorem Y_Mod_fails : j_Y y_Mod_fails b_Mod_fails 3 none 2 := ⟨TB_of 518 (by decide +kernel) rfl, TB_of 7 (by decide +kernel) rfl, by decide +kernel, by decide +kernel, by decide +kernel⟩
theorem im_Mod_fails : Cond.instanceMethod y_Mod_fails ∈ TB := TB_of 517 (by decide +kernel) rfl
theorem sl_Mod_fails : Cond.selects y_Mod_fails.cls y_Mod_fails y_Mod_fails ∈ TB := TB_sel (q := (y_Mod_fails, 32)) 20 (by decide +kernel)
theorem Y_Mod_pass : j_Y y_Mod_pass b_Mod_pass 2 none 1 := ⟨TB_of 514 (by decide +kernel) rfl, TB_of 7 (by decide +kernel) rfl, by decide +kernel, by decide +kernel, by decide +kernel⟩
theorem im_Mod_pass : Cond.instanceMethod y_Mod_pass ∈ TB := TB_of 513 (by decide +kernel) rfl
theorem sl_Mod_pass : Cond.selects y_Mod_pass.cls y_Mod_pass y_Mod_pass ∈ TB := TB_sel (q := (y_Mod_pass, 32)) 19 (by decide +kernel)
theorem Y_Mod_lowAt : j_Y y_Mod_lowAt b_Mod_lowAt 6 (some .long) 2 := ⟨TB_of 526 (by decide +kernel) rfl, TB_of 7 (by decide +kernel) rfl, by decide +kernel, by decide +kernel, by decide +kernel⟩
theorem im_Mod_lowAt : Cond.instanceMethod y_Mod_lowAt ∈ TB := TB_of 525 (by decide +kernel) rfl
theorem sl_Mod_lowAt : Cond.selects y_Mod_lowAt.cls y_Mod_lowAt y_Mod_lowAt ∈ TB := TB_sel (q := (y_Mod_lowAt, 32)) 22 (by decide +kernel)
theorem Y_Mod_sizeOf : j_Y y_Mod_sizeOf b_Mod_sizeOf 8 (some .int) 1 := ⟨TB_of 522 (by decide +kernel) rfl, TB_of 7 (by decide +kernel) rfl, by decide +kernel, by decide +kernel, by decide +kernel⟩
theorem im_Mod_sizeOf : Cond.instanceMethod y_Mod_sizeOf ∈ TB := TB_of 521 (by decide +kernel) rfl
theorem sl_Mod_sizeOf : Cond.selects y_Mod_sizeOf.cls y_Mod_sizeOf y_Mod_sizeOf ∈ TB := TB_sel (q := (y_Mod_sizeOf, 32)) 21 (by decide +kernel)
theorem Y_Mod_transaction : j_Y y_Mod_transaction b_Mod_transaction 3 none 1 := ⟨TB_of 530 (by decide +kernel) rfl, TB_of 7 (by decide +kernel) rfl, by decide +kernel, by decide +kernel, by decide +kernel⟩
theorem im_Mod_transaction : Cond.instanceMethod y_Mod_transaction ∈ TB := TB_of 529 (by decide +kernel) rfl
theorem sl_Mod_transaction : Cond.selects y_Mod_transaction.cls y_Mod_transaction y_Mod_transaction ∈ TB := TB_sel (q := (y_Mod_transaction, 32)) 23 (by decide +kernel)
theorem Y_Mod_put : j_Y y_Mod_put b_Mod_put 4 (some .boolean) 2 := ⟨TB_of 492 (by decide +kernel) rfl, TB_of 7 (by decide +kernel) rfl, by decide +kernel, by decide +kernel, by decide +kernel⟩
theorem im_Mod_put : Cond.instanceMethod y_Mod_put ∈ TB := TB_of 490 (by decide +kernel) rfl
theorem sl_Mod_put : Cond.selects y_Mod_put.cls y_Mod_put y_Mod_put ∈ TB := TB_of 491 (by decide +kernel) rfl
theorem Y_Mod_low : j_Y y_Mod_low b_Mod_low 4 (some .boolean) 2 := ⟨TB_of 501 (by decide +kernel) rfl, TB_of 7 (by decide +kernel) rfl, by decide +kernel, by decide +kernel, by decide +kernel⟩
theorem im_Mod_low : Cond.instanceMethod y_Mod_low ∈ TB := TB_of 499 (by decide +kernel) rfl
theorem sl_Mod_low : Cond.selects y_Mod_low.cls y_Mod_low y_Mod_low ∈ TB := TB_of 500 (by decide +kernel) rfl
theorem Y_Mod_lay : j_Y y_Mod_lay b_Mod_lay 6 (some .boolean) 3 := ⟨TB_of 496 (by decide +kernel) rfl, TB_of 7 (by decide +kernel) rfl, by decide +kernel, by decide +kernel, by decide +kernel⟩
theorem im_Mod_lay : Cond.instanceMethod y_Mod_lay ∈ TB := TB_of 495 (by decide +kernel) rfl
theorem sl_Mod_lay : Cond.selects y_Mod_lay.cls y_Mod_lay y_Mod_lay ∈ TB := TB_sel (q := (y_Mod_lay, 32)) 18 (by decide +kernel)
theorem Y_Mod_compact : j_Y y_Mod_compact b_Mod_compact 4 (some .boolean) 1 := ⟨TB_of 505 (by decide +kernel) rfl, TB_of 7 (by decide +kernel) rfl, by decide +kernel, by decide +kernel, by decide +kernel⟩
theorem im_Mod_compact : Cond.instanceMethod y_Mod_compact ∈ TB := TB_of 503 (by decide +kernel) rfl
theorem sl_Mod_compact : Cond.selects y_Mod_compact.cls y_Mod_compact y_Mod_compact ∈ TB := TB_of 504 (by decide +kernel) rfl
theorem Y_Mod_read : j_Y y_Mod_read b_Mod_read 4 (some .int) 1 := ⟨TB_of 510 (by decide +kernel) rfl, TB_of 7 (by decide +kernel) rfl, by decide +kernel, by decide +kernel, by decide +kernel⟩
theorem im_Mod_read : Cond.instanceMethod y_Mod_read ∈ TB := TB_of 508 (by decide +kernel) rfl
theorem sl_Mod_read : Cond.selects y_Mod_read.cls y_Mod_read y_Mod_read ∈ TB := TB_of 509 (by decide +kernel) rfl
theorem Y_Mod_place : j_Y y_Mod_place b_Mod_place 1 (some .int) 0 := ⟨TB_of 564 (by decide +kernel) rfl, TB_of 7 (by decide +kernel) rfl, by decide +kernel, by decide +kernel, by decide +kernel⟩
theorem im_Mod_place : Cond.instanceMethod y_Mod_place ∈ TB := TB_of 562 (by decide +kernel) rfl
theorem sl_Mod_place : Cond.selects y_Mod_place.cls y_Mod_place y_Mod_place ∈ TB := TB_of 563 (by decide +kernel) rfl
theorem Y_Mod_byteOf : j_Y y_Mod_byteOf b_Mod_byteOf 2 (some .int) 1 := ⟨TB_of 568 (by decide +kernel) rfl, TB_of 7 (by decide +kernel) rfl, by decide +kernel, by decide +kernel, by decide +kernel⟩
theorem im_Mod_byteOf : Cond.instanceMethod y_Mod_byteOf ∈ TB := TB_of 566 (by decide +kernel) rfl
theorem sl_Mod_byteOf : Cond.selects y_Mod_byteOf.cls y_Mod_byteOf y_Mod_byteOf ∈ TB := TB_of 567 (by decide +kernel) rfl
theorem Y_Mod_head : j_Y y_Mod_head b_Mod_head 2 (some .long) 1 := ⟨TB_of 572 (by decide +kernel) rfl, TB_of 7 (by decide +kernel) rfl, by decide +kernel, by decide +kernel, by decide +kernel⟩
theorem im_Mod_head : Cond.instanceMethod y_Mod_head ∈ TB := TB_of 570 (by decide +kernel) rfl
theorem sl_Mod_head : Cond.selects y_Mod_head.cls y_Mod_head y_Mod_head ∈ TB := TB_of 571 (by decide +kernel) rfl
theorem Y_Mod_isTransaction : j_Y y_Mod_isTransaction b_Mod_isTransaction 2 (some .boolean) 1 := ⟨TB_of 581 (by decide +kernel) rfl, TB_of 7 (by decide +kernel) rfl, by decide +kernel, by decide +kernel, by decide +kernel⟩
theorem im_Mod_isTransaction : Cond.instanceMethod y_Mod_isTransaction ∈ TB := TB_of 580 (by decide +kernel) rfl
theorem sl_Mod_isTransaction : Cond.selects y_Mod_isTransaction.cls y_Mod_isTransaction y_Mod_isTransaction ∈ TB := TB_sel (q := (y_Mod_isTransaction, 32)) 29 (by decide +kernel)
theorem Y_Mod_look : j_Y y_Mod_look b_Mod_look 3 (some .long) 2 := ⟨TB_of 577 (by decide +kernel) rfl, TB_of 7 (by decide +kernel) rfl, by decide +kernel, by decide +kernel, by decide +kernel⟩
theorem im_Mod_look : Cond.instanceMethod y_Mod_look ∈ TB := TB_of 575 (by decide +kernel) rfl
theorem sl_Mod_look : Cond.selects y_Mod_look.cls y_Mod_look y_Mod_look ∈ TB := TB_of 576 (by decide +kernel) rfl
theorem Y_Mod_input : j_Y y_Mod_input b_Mod_input 5 (some .long) 3 := ⟨TB_of 585 (by decide +kernel) rfl, TB_of 7 (by decide +kernel) rfl, by decide +kernel, by decide +kernel, by decide +kernel⟩
theorem im_Mod_input : Cond.instanceMethod y_Mod_input ∈ TB := TB_of 583 (by decide +kernel) rfl
theorem sl_Mod_input : Cond.selects y_Mod_input.cls y_Mod_input y_Mod_input ∈ TB := TB_of 584 (by decide +kernel) rfl
theorem Y_Mod_output : j_Y y_Mod_output b_Mod_output 5 (some .long) 3 := ⟨TB_of 589 (by decide +kernel) rfl, TB_of 7 (by decide +kernel) rfl, by decide +kernel, by decide +kernel, by decide +kernel⟩
theorem im_Mod_output : Cond.instanceMethod y_Mod_output ∈ TB := TB_of 587 (by decide +kernel) rfl
theorem sl_Mod_output : Cond.selects y_Mod_output.cls y_Mod_output y_Mod_output ∈ TB := TB_of 588 (by decide +kernel) rfl
theorem Y_Mod_name : j_Y y_Mod_name b_Mod_name 6 (some .long) 2 := ⟨TB_of 593 (by decide +kernel) rfl, TB_of 7 (by decide +kernel) rfl, by decide +kernel, by decide +kernel, by decide +kernel⟩
theorem im_Mod_name : Cond.instanceMethod y_Mod_name ∈ TB := TB_of 591 (by decide +kernel) rfl
theorem sl_Mod_name : Cond.selects y_Mod_name.cls y_Mod_name y_Mod_name ∈ TB := TB_of 592 (by decide +kernel) rfl
theorem Y_Mod_isDoubtful : j_Y y_Mod_isDoubtful b_Mod_isDoubtful 1 (some .boolean) 0 := ⟨TB_of 597 (by decide +kernel) rfl, TB_of 7 (by decide +kernel) rfl, by decide +kernel, by decide +kernel, by decide +kernel⟩
theorem im_Mod_isDoubtful : Cond.instanceMethod y_Mod_isDoubtful ∈ TB := TB_of 595 (by decide +kernel) rfl
theorem sl_Mod_isDoubtful : Cond.selects y_Mod_isDoubtful.cls y_Mod_isDoubtful y_Mod_isDoubtful ∈ TB := TB_of 596 (by decide +kernel) rfl
theorem Y_Row_init : j_Y y_Row_init b_Row_init 1 none 0 := ⟨TB_of 76 (by decide +kernel) rfl, TB_of 5 (by decide +kernel) rfl, by decide +kernel, by decide +kernel, by decide +kernel⟩
theorem im_Row_init : Cond.instanceMethod y_Row_init ∈ TB := TB_of 75 (by decide +kernel) rfl
theorem Y_Row_putTogether : j_Y y_Row_putTogether b_Row_putTogether 5 none 3 := ⟨TB_of 315 (by decide +kernel) rfl, TB_of 5 (by decide +kernel) rfl, by decide +kernel, by decide +kernel, by decide +kernel⟩
theorem im_Row_putTogether : Cond.instanceMethod y_Row_putTogether ∈ TB := TB_of 313 (by decide +kernel) rfl
theorem sl_Row_putTogether : Cond.selects y_Row_putTogether.cls y_Row_putTogether y_Row_putTogether ∈ TB := TB_of 314 (by decide +kernel) rfl
theorem Y_Row_putPairsTogether : j_Y y_Row_putPairsTogether b_Row_putPairsTogether 6 none 2 := ⟨TB_of 319 (by decide +kernel) rfl, TB_of 5 (by decide +kernel) rfl, by decide +kernel, by decide +kernel, by decide +kernel⟩
theorem im_Row_putPairsTogether : Cond.instanceMethod y_Row_putPairsTogether ∈ TB := TB_of 318 (by decide +kernel) rfl
theorem sl_Row_putPairsTogether : Cond.selects y_Row_putPairsTogether.cls y_Row_putPairsTogether y_Row_putPairsTogether ∈ TB := TB_sel (q := (y_Row_putPairsTogether, 2)) 12 (by decide +kernel)
theorem Y_Row_repeat : j_Y y_Row_repeat b_Row_repeat 4 none 1 := ⟨TB_of 323 (by decide +kernel) rfl, TB_of 5 (by decide +kernel) rfl, by decide +kernel, by decide +kernel, by decide +kernel⟩
theorem im_Row_repeat : Cond.instanceMethod y_Row_repeat ∈ TB := TB_of 322 (by decide +kernel) rfl
theorem sl_Row_repeat : Cond.selects y_Row_repeat.cls y_Row_repeat y_Row_repeat ∈ TB := TB_sel (q := (y_Row_repeat, 2)) 13 (by decide +kernel)
theorem Y_Row_alike : j_Y y_Row_alike b_Row_alike 4 (some .boolean) 1 := ⟨TB_of 327 (by decide +kernel) rfl, TB_of 5 (by decide +kernel) rfl, by decide +kernel, by decide +kernel, by decide +kernel⟩
theorem im_Row_alike : Cond.instanceMethod y_Row_alike ∈ TB := TB_of 326 (by decide +kernel) rfl
theorem sl_Row_alike : Cond.selects y_Row_alike.cls y_Row_alike y_Row_alike ∈ TB := TB_sel (q := (y_Row_alike, 2)) 14 (by decide +kernel)
theorem Y_Nam_init : j_Y y_Nam_init b_Nam_init 1 none 0 := ⟨TB_of 57 (by decide +kernel) rfl, TB_of 4 (by decide +kernel) rfl, by decide +kernel, by decide +kernel, by decide +kernel⟩
theorem im_Nam_init : Cond.instanceMethod y_Nam_init ∈ TB := TB_of 56 (by decide +kernel) rfl
theorem Y_Nam_writeName : j_Y y_Nam_writeName b_Nam_writeName 6 none 5 := ⟨TB_of 285 (by decide +kernel) rfl, TB_of 4 (by decide +kernel) rfl, by decide +kernel, by decide +kernel, by decide +kernel⟩
theorem im_Nam_writeName : Cond.instanceMethod y_Nam_writeName ∈ TB := TB_of 283 (by decide +kernel) rfl
theorem sl_Nam_writeName : Cond.selects y_Nam_writeName.cls y_Nam_writeName y_Nam_writeName ∈ TB := TB_of 284 (by decide +kernel) rfl
theorem Y_Nam_digest : j_Y y_Nam_digest b_Nam_digest 8 none 3 := ⟨TB_of 289 (by decide +kernel) rfl, TB_of 4 (by decide +kernel) rfl, by decide +kernel, by decide +kernel, by decide +kernel⟩
theorem im_Nam_digest : Cond.instanceMethod y_Nam_digest ∈ TB := TB_of 288 (by decide +kernel) rfl
theorem sl_Nam_digest : Cond.selects y_Nam_digest.cls y_Nam_digest y_Nam_digest ∈ TB := TB_sel (q := (y_Nam_digest, 3)) 8 (by decide +kernel)
theorem Y_Nam_paddedByte : j_Y y_Nam_paddedByte b_Nam_paddedByte 5 (some .int) 4 := ⟨TB_of 294 (by decide +kernel) rfl, TB_of 4 (by decide +kernel) rfl, by decide +kernel, by decide +kernel, by decide +kernel⟩
theorem sta_Nam_paddedByte : Cond.static y_Nam_paddedByte ∈ TB := TB_of 293 (by decide +kernel) rfl
theorem Y_Nam_stretchSchedule : j_Y y_Nam_stretchSchedule b_Nam_stretchSchedule 6 none 0 := ⟨TB_of 298 (by decide +kernel) rfl, TB_of 4 (by decide +kernel) rfl, by decide +kernel, by decide +kernel, by decide +kernel⟩
theorem im_Nam_stretchSchedule : Cond.instanceMethod y_Nam_stretchSchedule ∈ TB := TB_of 297 (by decide +kernel) rfl
theorem sl_Nam_stretchSchedule : Cond.selects y_Nam_stretchSchedule.cls y_Nam_stretchSchedule y_Nam_stretchSchedule ∈ TB := TB_sel (q := (y_Nam_stretchSchedule, 3)) 9 (by decide +kernel)
theorem Y_Nam_mixChunk : j_Y y_Nam_mixChunk b_Nam_mixChunk 15 none 0 := ⟨TB_of 305 (by decide +kernel) rfl, TB_of 4 (by decide +kernel) rfl, by decide +kernel, by decide +kernel, by decide +kernel⟩
theorem im_Nam_mixChunk : Cond.instanceMethod y_Nam_mixChunk ∈ TB := TB_of 304 (by decide +kernel) rfl
theorem sl_Nam_mixChunk : Cond.selects y_Nam_mixChunk.cls y_Nam_mixChunk y_Nam_mixChunk ∈ TB := TB_sel (q := (y_Nam_mixChunk, 3)) 10 (by decide +kernel)
theorem Y_Nam_turn : j_Y y_Nam_turn b_Nam_turn 2 (some .int) 2 := ⟨TB_of 301 (by decide +kernel) rfl, TB_of 4 (by decide +kernel) rfl, by decide +kernel, by decide +kernel, by decide +kernel⟩
theorem sta_Nam_turn : Cond.static y_Nam_turn ∈ TB := TB_of 300 (by decide +kernel) rfl
theorem Y_Nam_writeState : j_Y y_Nam_writeState b_Nam_writeState 4 none 2 := ⟨TB_of 311 (by decide +kernel) rfl, TB_of 4 (by decide +kernel) rfl, by decide +kernel, by decide +kernel, by decide +kernel⟩
theorem im_Nam_writeState : Cond.instanceMethod y_Nam_writeState ∈ TB := TB_of 310 (by decide +kernel) rfl
theorem sl_Nam_writeState : Cond.selects y_Nam_writeState.cls y_Nam_writeState y_Nam_writeState ∈ TB := TB_sel (q := (y_Nam_writeState, 3)) 11 (by decide +kernel)
theorem Y_Rea_init : j_Y y_Rea_init b_Rea_init 2 none 1 := ⟨TB_of 36 (by decide +kernel) rfl, TB_of 3 (by decide +kernel) rfl, by decide +kernel, by decide +kernel, by decide +kernel⟩
theorem im_Rea_init : Cond.instanceMethod y_Rea_init ∈ TB := TB_of 35 (by decide +kernel) rfl
theorem Y_Rea_begin : j_Y y_Rea_begin b_Rea_begin 1 none 0 := ⟨TB_of 227 (by decide +kernel) rfl, TB_of 3 (by decide +kernel) rfl, by decide +kernel, by decide +kernel, by decide +kernel⟩
theorem im_Rea_begin : Cond.instanceMethod y_Rea_begin ∈ TB := TB_of 225 (by decide +kernel) rfl
theorem sl_Rea_begin : Cond.selects y_Rea_begin.cls y_Rea_begin y_Rea_begin ∈ TB := TB_of 226 (by decide +kernel) rfl
theorem Y_Rea_finish : j_Y y_Rea_finish b_Rea_finish 1 none 0 := ⟨TB_of 273 (by decide +kernel) rfl, TB_of 3 (by decide +kernel) rfl, by decide +kernel, by decide +kernel, by decide +kernel⟩
theorem im_Rea_finish : Cond.instanceMethod y_Rea_finish ∈ TB := TB_of 271 (by decide +kernel) rfl
theorem sl_Rea_finish : Cond.selects y_Rea_finish.cls y_Rea_finish y_Rea_finish ∈ TB := TB_of 272 (by decide +kernel) rfl
theorem Y_Rea_takeBlock : j_Y y_Rea_takeBlock b_Rea_takeBlock 4 (some .int) 1 := ⟨TB_of 231 (by decide +kernel) rfl, TB_of 3 (by decide +kernel) rfl, by decide +kernel, by decide +kernel, by decide +kernel⟩
theorem im_Rea_takeBlock : Cond.instanceMethod y_Rea_takeBlock ∈ TB := TB_of 229 (by decide +kernel) rfl
theorem sl_Rea_takeBlock : Cond.selects y_Rea_takeBlock.cls y_Rea_takeBlock y_Rea_takeBlock ∈ TB := TB_of 230 (by decide +kernel) rfl
theorem Y_Rea_takeTransaction : j_Y y_Rea_takeTransaction b_Rea_takeTransaction 3 none 1 := ⟨TB_of 260 (by decide +kernel) rfl, TB_of 3 (by decide +kernel) rfl, by decide +kernel, by decide +kernel, by decide +kernel⟩
theorem im_Rea_takeTransaction : Cond.instanceMethod y_Rea_takeTransaction ∈ TB := TB_of 258 (by decide +kernel) rfl
theorem sl_Rea_takeTransaction : Cond.selects y_Rea_takeTransaction.cls y_Rea_takeTransaction y_Rea_takeTransaction ∈ TB := TB_of 259 (by decide +kernel) rfl
theorem Y_Rea_takeInput : j_Y y_Rea_takeInput b_Rea_takeInput 4 none 2 := ⟨TB_of 264 (by decide +kernel) rfl, TB_of 3 (by decide +kernel) rfl, by decide +kernel, by decide +kernel, by decide +kernel⟩
theorem im_Rea_takeInput : Cond.instanceMethod y_Rea_takeInput ∈ TB := TB_of 263 (by decide +kernel) rfl
theorem sl_Rea_takeInput : Cond.selects y_Rea_takeInput.cls y_Rea_takeInput y_Rea_takeInput ∈ TB := TB_sel (q := (y_Rea_takeInput, 4)) 4 (by decide +kernel)
theorem Y_Rea_takeOutput : j_Y y_Rea_takeOutput b_Rea_takeOutput 4 none 2 := ⟨TB_of 268 (by decide +kernel) rfl, TB_of 3 (by decide +kernel) rfl, by decide +kernel, by decide +kernel, by decide +kernel⟩
theorem im_Rea_takeOutput : Cond.instanceMethod y_Rea_takeOutput ∈ TB := TB_of 267 (by decide +kernel) rfl
theorem sl_Rea_takeOutput : Cond.selects y_Rea_takeOutput.cls y_Rea_takeOutput y_Rea_takeOutput ∈ TB := TB_sel (q := (y_Rea_takeOutput, 4)) 5 (by decide +kernel)
theorem Y_Rea_skip : j_Y y_Rea_skip b_Rea_skip 2 none 1 := ⟨TB_of 235 (by decide +kernel) rfl, TB_of 3 (by decide +kernel) rfl, by decide +kernel, by decide +kernel, by decide +kernel⟩
theorem im_Rea_skip : Cond.instanceMethod y_Rea_skip ∈ TB := TB_of 234 (by decide +kernel) rfl
theorem sl_Rea_skip : Cond.selects y_Rea_skip.cls y_Rea_skip y_Rea_skip ∈ TB := TB_sel (q := (y_Rea_skip, 4)) 1 (by decide +kernel)
theorem Y_Rea_takeSize : j_Y y_Rea_takeSize b_Rea_takeSize 7 (some .int) 1 := ⟨TB_of 243 (by decide +kernel) rfl, TB_of 3 (by decide +kernel) rfl, by decide +kernel, by decide +kernel, by decide +kernel⟩
theorem im_Rea_takeSize : Cond.instanceMethod y_Rea_takeSize ∈ TB := TB_of 242 (by decide +kernel) rfl
theorem sl_Rea_takeSize : Cond.selects y_Rea_takeSize.cls y_Rea_takeSize y_Rea_takeSize ∈ TB := TB_sel (q := (y_Rea_takeSize, 4)) 3 (by decide +kernel)
theorem Y_Rea_fail : j_Y y_Rea_fail b_Rea_fail 3 none 2 := ⟨TB_of 239 (by decide +kernel) rfl, TB_of 3 (by decide +kernel) rfl, by decide +kernel, by decide +kernel, by decide +kernel⟩
theorem im_Rea_fail : Cond.instanceMethod y_Rea_fail ∈ TB := TB_of 238 (by decide +kernel) rfl
theorem sl_Rea_fail : Cond.selects y_Rea_fail.cls y_Rea_fail y_Rea_fail ∈ TB := TB_sel (q := (y_Rea_fail, 4)) 2 (by decide +kernel)
theorem Y_Txt_init : j_Y y_Txt_init b_Txt_init 1 none 0 := ⟨TB_of 20 (by decide +kernel) rfl, TB_of 2 (by decide +kernel) rfl, by decide +kernel, by decide +kernel, by decide +kernel⟩
theorem im_Txt_init : Cond.instanceMethod y_Txt_init ∈ TB := TB_of 19 (by decide +kernel) rfl
theorem Y_Txt_clear : j_Y y_Txt_clear b_Txt_clear 1 none 0 := ⟨TB_of 223 (by decide +kernel) rfl, TB_of 2 (by decide +kernel) rfl, by decide +kernel, by decide +kernel, by decide +kernel⟩
theorem im_Txt_clear : Cond.instanceMethod y_Txt_clear ∈ TB := TB_of 221 (by decide +kernel) rfl
theorem sl_Txt_clear : Cond.selects y_Txt_clear.cls y_Txt_clear y_Txt_clear ∈ TB := TB_of 222 (by decide +kernel) rfl
theorem Y_Txt_copy : j_Y y_Txt_copy b_Txt_copy 3 none 1 := ⟨TB_of 219 (by decide +kernel) rfl, TB_of 2 (by decide +kernel) rfl, by decide +kernel, by decide +kernel, by decide +kernel⟩
theorem im_Txt_copy : Cond.instanceMethod y_Txt_copy ∈ TB := TB_of 217 (by decide +kernel) rfl
theorem sl_Txt_copy : Cond.selects y_Txt_copy.cls y_Txt_copy y_Txt_copy ∈ TB := TB_of 218 (by decide +kernel) rfl
theorem Y_Txt_hasRoom : j_Y y_Txt_hasRoom b_Txt_hasRoom 2 (some .boolean) 1 := ⟨TB_of 184 (by decide +kernel) rfl, TB_of 2 (by decide +kernel) rfl, by decide +kernel, by decide +kernel, by decide +kernel⟩
theorem im_Txt_hasRoom : Cond.instanceMethod y_Txt_hasRoom ∈ TB := TB_of 182 (by decide +kernel) rfl
theorem sl_Txt_hasRoom : Cond.selects y_Txt_hasRoom.cls y_Txt_hasRoom y_Txt_hasRoom ∈ TB := TB_of 183 (by decide +kernel) rfl
theorem Y_Txt_addHighFirst : j_Y y_Txt_addHighFirst b_Txt_addHighFirst 5 none 2 := ⟨TB_of 188 (by decide +kernel) rfl, TB_of 2 (by decide +kernel) rfl, by decide +kernel, by decide +kernel, by decide +kernel⟩
theorem im_Txt_addHighFirst : Cond.instanceMethod y_Txt_addHighFirst ∈ TB := TB_of 186 (by decide +kernel) rfl
theorem sl_Txt_addHighFirst : Cond.selects y_Txt_addHighFirst.cls y_Txt_addHighFirst y_Txt_addHighFirst ∈ TB := TB_of 187 (by decide +kernel) rfl
theorem Y_Txt_addLowFirst : j_Y y_Txt_addLowFirst b_Txt_addLowFirst 5 none 2 := ⟨TB_of 200 (by decide +kernel) rfl, TB_of 2 (by decide +kernel) rfl, by decide +kernel, by decide +kernel, by decide +kernel⟩
theorem im_Txt_addLowFirst : Cond.instanceMethod y_Txt_addLowFirst ∈ TB := TB_of 198 (by decide +kernel) rfl
theorem sl_Txt_addLowFirst : Cond.selects y_Txt_addLowFirst.cls y_Txt_addLowFirst y_Txt_addLowFirst ∈ TB := TB_of 199 (by decide +kernel) rfl
theorem Y_Txt_add : j_Y y_Txt_add b_Txt_add 2 none 1 := ⟨TB_of 192 (by decide +kernel) rfl, TB_of 2 (by decide +kernel) rfl, by decide +kernel, by decide +kernel, by decide +kernel⟩
theorem im_Txt_add : Cond.instanceMethod y_Txt_add ∈ TB := TB_of 191 (by decide +kernel) rfl
theorem sl_Txt_add : Cond.selects y_Txt_add.cls y_Txt_add y_Txt_add ∈ TB := TB_sel (q := (y_Txt_add, 2)) 0 (by decide +kernel)
theorem Y_Txt_at : j_Y y_Txt_at b_Txt_at 2 (some .int) 1 := ⟨TB_of 247 (by decide +kernel) rfl, TB_of 2 (by decide +kernel) rfl, by decide +kernel, by decide +kernel, by decide +kernel⟩
theorem im_Txt_at : Cond.instanceMethod y_Txt_at ∈ TB := TB_of 245 (by decide +kernel) rfl
theorem sl_Txt_at : Cond.selects y_Txt_at.cls y_Txt_at y_Txt_at ∈ TB := TB_of 246 (by decide +kernel) rfl
theorem Y_Txt_lowFirst : j_Y y_Txt_lowFirst b_Txt_lowFirst 6 (some .long) 2 := ⟨TB_of 254 (by decide +kernel) rfl, TB_of 2 (by decide +kernel) rfl, by decide +kernel, by decide +kernel, by decide +kernel⟩
theorem im_Txt_lowFirst : Cond.instanceMethod y_Txt_lowFirst ∈ TB := TB_of 252 (by decide +kernel) rfl
theorem sl_Txt_lowFirst : Cond.selects y_Txt_lowFirst.cls y_Txt_lowFirst y_Txt_lowFirst ∈ TB := TB_of 253 (by decide +kernel) rfl
theorem Y_Tra_init : j_Y y_Tra_init b_Tra_init 1 none 0 := ⟨TB_of 90 (by decide +kernel) rfl, TB_of 6 (by decide +kernel) rfl, by decide +kernel, by decide +kernel, by decide +kernel⟩
theorem im_Tra_init : Cond.instanceMethod y_Tra_init ∈ TB := TB_of 89 (by decide +kernel) rfl
theorem oi_Dsk_1 : Cond.methodLink "WireDesk" 1 objectInit ∈ TB := TB_of 13 (by decide +kernel) rfl
theorem ml_Dsk_21 : Cond.methodLink "WireDesk" 21 y_Rea_init ∈ TB := TB_of 34 (by decide +kernel) rfl
theorem ml_Dsk_67 : Cond.methodLink "WireDesk" 67 y_Txt_hasRoom ∈ TB := TB_of 181 (by decide +kernel) rfl
theorem ml_Dsk_71 : Cond.methodLink "WireDesk" 71 y_Txt_addHighFirst ∈ TB := TB_of 185 (by decide +kernel) rfl
theorem ml_Dsk_75 : Cond.methodLink "WireDesk" 75 y_Txt_addLowFirst ∈ TB := TB_of 197 (by decide +kernel) rfl
theorem ml_Dsk_78 : Cond.methodLink "WireDesk" 78 y_Dsk_widthOfSize ∈ TB := TB_of 205 (by decide +kernel) rfl
theorem ml_Dsk_82 : Cond.methodLink "WireDesk" 82 y_Dsk_markOfWidth ∈ TB := TB_of 209 (by decide +kernel) rfl
theorem ml_Dsk_86 : Cond.methodLink "WireDesk" 86 y_Txt_copy ∈ TB := TB_of 216 (by decide +kernel) rfl
theorem ml_Dsk_89 : Cond.methodLink "WireDesk" 89 y_Txt_clear ∈ TB := TB_of 220 (by decide +kernel) rfl
theorem ml_Dsk_92 : Cond.methodLink "WireDesk" 92 y_Rea_begin ∈ TB := TB_of 224 (by decide +kernel) rfl
theorem ml_Dsk_95 : Cond.methodLink "WireDesk" 95 y_Rea_takeBlock ∈ TB := TB_of 228 (by decide +kernel) rfl
theorem ml_Dsk_99 : Cond.methodLink "WireDesk" 99 y_Rea_takeTransaction ∈ TB := TB_of 269 (by decide +kernel) rfl
theorem ml_Dsk_103 : Cond.methodLink "WireDesk" 103 y_Rea_finish ∈ TB := TB_of 270 (by decide +kernel) rfl
theorem ml_Dsk_110 : Cond.methodLink "WireDesk" 110 y_Dsk_forget ∈ TB := TB_of 274 (by decide +kernel) rfl
theorem ml_Dsk_113 : Cond.methodLink "WireDesk" 113 y_Dsk_nameTransactions ∈ TB := TB_of 278 (by decide +kernel) rfl
theorem ml_Dsk_119 : Cond.methodLink "WireDesk" 119 y_Nam_writeName ∈ TB := TB_of 282 (by decide +kernel) rfl
theorem ml_Dsk_123 : Cond.methodLink "WireDesk" 123 y_Row_putTogether ∈ TB := TB_of 312 (by decide +kernel) rfl
theorem ml_Dsk_127 : Cond.methodLink "WireDesk" 127 y_Txt_at ∈ TB := TB_of 337 (by decide +kernel) rfl
theorem ml_Dsk_132 : Cond.methodLink "WireDesk" 132 y_Txt_lowFirst ∈ TB := TB_of 343 (by decide +kernel) rfl
theorem ml_Dsk_136 : Cond.methodLink "WireDesk" 136 y_Dsk_hasTransaction ∈ TB := TB_of 348 (by decide +kernel) rfl
theorem ml_Dsk_169 : Cond.methodLink "WireDesk" 169 y_Dsk_eightBytes ∈ TB := TB_of 364 (by decide +kernel) rfl
theorem oi_Row_3 : Cond.methodLink "WireDesk$NameRow" 3 objectInit ∈ TB := TB_of 77 (by decide +kernel) rfl
theorem ml_Row_19 : Cond.methodLink "WireDesk$NameRow" 19 y_Row_putPairsTogether ∈ TB := TB_of 316 (by decide +kernel) rfl
theorem ml_Row_23 : Cond.methodLink "WireDesk$NameRow" 23 y_Row_repeat ∈ TB := TB_of 320 (by decide +kernel) rfl
theorem ml_Row_27 : Cond.methodLink "WireDesk$NameRow" 27 y_Row_alike ∈ TB := TB_of 324 (by decide +kernel) rfl
theorem ml_Row_31 : Cond.methodLink "WireDesk$NameRow" 31 y_Nam_writeName ∈ TB := TB_of 328 (by decide +kernel) rfl
theorem oi_Nam_3 : Cond.methodLink "WireDesk$Namer" 3 objectInit ∈ TB := TB_of 58 (by decide +kernel) rfl
theorem ml_Nam_22 : Cond.methodLink "WireDesk$Namer" 22 y_Nam_digest ∈ TB := TB_of 286 (by decide +kernel) rfl
theorem ml_Nam_26 : Cond.methodLink "WireDesk$Namer" 26 y_Nam_writeState ∈ TB := TB_of 308 (by decide +kernel) rfl
theorem ml_Nam_33 : Cond.methodLink "WireDesk$Namer" 33 y_Nam_paddedByte ∈ TB := TB_of 292 (by decide +kernel) rfl
theorem ml_Nam_37 : Cond.methodLink "WireDesk$Namer" 37 y_Nam_stretchSchedule ∈ TB := TB_of 295 (by decide +kernel) rfl
theorem ml_Nam_40 : Cond.methodLink "WireDesk$Namer" 40 y_Nam_mixChunk ∈ TB := TB_of 302 (by decide +kernel) rfl
theorem ml_Nam_43 : Cond.methodLink "WireDesk$Namer" 43 y_Nam_turn ∈ TB := TB_of 299 (by decide +kernel) rfl
theorem oi_Rea_3 : Cond.methodLink "WireDesk$Reader" 3 objectInit ∈ TB := TB_of 37 (by decide +kernel) rfl
theorem ml_Rea_30 : Cond.methodLink "WireDesk$Reader" 30 y_Rea_fail ∈ TB := TB_of 236 (by decide +kernel) rfl
theorem ml_Rea_34 : Cond.methodLink "WireDesk$Reader" 34 y_Rea_skip ∈ TB := TB_of 232 (by decide +kernel) rfl
theorem ml_Rea_38 : Cond.methodLink "WireDesk$Reader" 38 y_Rea_takeSize ∈ TB := TB_of 240 (by decide +kernel) rfl
theorem ml_Rea_42 : Cond.methodLink "WireDesk$Reader" 42 y_Rea_takeTransaction ∈ TB := TB_of 257 (by decide +kernel) rfl
theorem ml_Rea_54 : Cond.methodLink "WireDesk$Reader" 54 y_Rea_takeInput ∈ TB := TB_of 261 (by decide +kernel) rfl
theorem ml_Rea_61 : Cond.methodLink "WireDesk$Reader" 61 y_Rea_takeOutput ∈ TB := TB_of 265 (by decide +kernel) rfl
theorem ml_Rea_86 : Cond.methodLink "WireDesk$Reader" 86 y_Txt_at ∈ TB := TB_of 244 (by decide +kernel) rfl
theorem ml_Rea_92 : Cond.methodLink "WireDesk$Reader" 92 y_Txt_lowFirst ∈ TB := TB_of 251 (by decide +kernel) rfl
theorem oi_Txt_3 : Cond.methodLink "WireDesk$Text" 3 objectInit ∈ TB := TB_of 21 (by decide +kernel) rfl
theorem ml_Txt_19 : Cond.methodLink "WireDesk$Text" 19 y_Txt_add ∈ TB := TB_of 189 (by decide +kernel) rfl
theorem oi_Tra_3 : Cond.methodLink "WireDesk$Transaction" 3 objectInit ∈ TB := TB_of 91 (by decide +kernel) rfl
theorem ml_Law_9 : Cond.methodLink "WireDeskLaw" 9 y_Dsk_init ∈ TB := TB_of 10 (by decide +kernel) rfl
theorem ml_Law_12 : Cond.methodLink "WireDeskLaw" 12 y_Mod_init ∈ TB := TB_of 373 (by decide +kernel) rfl
theorem ml_Law_15 : Cond.methodLink "WireDeskLaw" 15 y_Dsk_put ∈ TB := TB_of 177 (by decide +kernel) rfl
theorem ml_Law_19 : Cond.methodLink "WireDeskLaw" 19 y_Mod_put ∈ TB := TB_of 489 (by decide +kernel) rfl
theorem ml_Law_20 : Cond.methodLink "WireDeskLaw" 20 y_Dsk_low ∈ TB := TB_of 193 (by decide +kernel) rfl
theorem ml_Law_23 : Cond.methodLink "WireDeskLaw" 23 y_Mod_low ∈ TB := TB_of 498 (by decide +kernel) rfl
theorem ml_Law_24 : Cond.methodLink "WireDeskLaw" 24 y_Dsk_compact ∈ TB := TB_of 201 (by decide +kernel) rfl
theorem ml_Law_28 : Cond.methodLink "WireDeskLaw" 28 y_Mod_compact ∈ TB := TB_of 502 (by decide +kernel) rfl
theorem ml_Law_29 : Cond.methodLink "WireDeskLaw" 29 y_Dsk_read ∈ TB := TB_of 212 (by decide +kernel) rfl
theorem ml_Law_33 : Cond.methodLink "WireDeskLaw" 33 y_Mod_read ∈ TB := TB_of 507 (by decide +kernel) rfl
theorem ml_Law_34 : Cond.methodLink "WireDeskLaw" 34 y_Dsk_place ∈ TB := TB_of 329 (by decide +kernel) rfl
theorem ml_Law_38 : Cond.methodLink "WireDeskLaw" 38 y_Mod_place ∈ TB := TB_of 561 (by decide +kernel) rfl
theorem ml_Law_39 : Cond.methodLink "WireDeskLaw" 39 y_Dsk_byteOf ∈ TB := TB_of 333 (by decide +kernel) rfl
theorem ml_Law_43 : Cond.methodLink "WireDeskLaw" 43 y_Mod_byteOf ∈ TB := TB_of 565 (by decide +kernel) rfl
theorem ml_Law_44 : Cond.methodLink "WireDeskLaw" 44 y_Dsk_head ∈ TB := TB_of 338 (by decide +kernel) rfl
theorem ml_Law_48 : Cond.methodLink "WireDeskLaw" 48 y_Mod_head ∈ TB := TB_of 569 (by decide +kernel) rfl
theorem ml_Law_49 : Cond.methodLink "WireDeskLaw" 49 y_Dsk_look ∈ TB := TB_of 344 (by decide +kernel) rfl
theorem ml_Law_53 : Cond.methodLink "WireDeskLaw" 53 y_Mod_look ∈ TB := TB_of 574 (by decide +kernel) rfl
theorem ml_Law_54 : Cond.methodLink "WireDeskLaw" 54 y_Dsk_input ∈ TB := TB_of 352 (by decide +kernel) rfl
theorem ml_Law_58 : Cond.methodLink "WireDeskLaw" 58 y_Mod_input ∈ TB := TB_of 582 (by decide +kernel) rfl
theorem ml_Law_59 : Cond.methodLink "WireDeskLaw" 59 y_Dsk_output ∈ TB := TB_of 356 (by decide +kernel) rfl
theorem ml_Law_62 : Cond.methodLink "WireDeskLaw" 62 y_Mod_output ∈ TB := TB_of 586 (by decide +kernel) rfl
theorem ml_Law_63 : Cond.methodLink "WireDeskLaw" 63 y_Dsk_name ∈ TB := TB_of 360 (by decide +kernel) rfl
theorem ml_Law_66 : Cond.methodLink "WireDeskLaw" 66 y_Mod_name ∈ TB := TB_of 590 (by decide +kernel) rfl
theorem ml_Law_67 : Cond.methodLink "WireDeskLaw" 67 y_Dsk_isDoubtful ∈ TB := TB_of 367 (by decide +kernel) rfl
theorem ml_Law_71 : Cond.methodLink "WireDeskLaw" 71 y_Mod_isDoubtful ∈ TB := TB_of 594 (by decide +kernel) rfl
theorem oi_Mod_1 : Cond.methodLink "WireDeskModel" 1 objectInit ∈ TB := TB_of 376 (by decide +kernel) rfl
theorem ml_Mod_84 : Cond.methodLink "WireDeskModel" 84 y_Mod_isPrime ∈ TB := TB_of 377 (by decide +kernel) rfl
theorem ml_Mod_88 : Cond.methodLink "WireDeskModel" 88 y_Mod_rootOf ∈ TB := TB_of 380 (by decide +kernel) rfl
theorem ml_Mod_94 : Cond.methodLink "WireDeskModel" 94 y_Mod_fits ∈ TB := TB_of 384 (by decide +kernel) rfl
theorem ml_Mod_108 : Cond.methodLink "WireDeskModel" 108 y_Mod_block ∈ TB := TB_of 544 (by decide +kernel) rfl
theorem ml_Mod_114 : Cond.methodLink "WireDeskModel" 114 y_Mod_turn ∈ TB := TB_of 549 (by decide +kernel) rfl
theorem ml_Mod_120 : Cond.methodLink "WireDeskModel" 120 y_Mod_not ∈ TB := TB_of 553 (by decide +kernel) rfl
theorem ml_Mod_124 : Cond.methodLink "WireDeskModel" 124 y_Mod_twice ∈ TB := TB_of 535 (by decide +kernel) rfl
theorem ml_Mod_127 : Cond.methodLink "WireDeskModel" 127 y_Mod_digestOf ∈ TB := TB_of 539 (by decide +kernel) rfl
theorem ml_Mod_149 : Cond.methodLink "WireDeskModel" 149 y_Mod_fails ∈ TB := TB_of 515 (by decide +kernel) rfl
theorem ml_Mod_153 : Cond.methodLink "WireDeskModel" 153 y_Mod_pass ∈ TB := TB_of 511 (by decide +kernel) rfl
theorem ml_Mod_156 : Cond.methodLink "WireDeskModel" 156 y_Mod_lowAt ∈ TB := TB_of 523 (by decide +kernel) rfl
theorem ml_Mod_161 : Cond.methodLink "WireDeskModel" 161 y_Mod_sizeOf ∈ TB := TB_of 519 (by decide +kernel) rfl
theorem ml_Mod_165 : Cond.methodLink "WireDeskModel" 165 y_Mod_lay ∈ TB := TB_of 493 (by decide +kernel) rfl
theorem ml_Mod_175 : Cond.methodLink "WireDeskModel" 175 y_Mod_transaction ∈ TB := TB_of 527 (by decide +kernel) rfl
theorem ml_Mod_178 : Cond.methodLink "WireDeskModel" 178 y_Mod_nameOf ∈ TB := TB_of 531 (by decide +kernel) rfl
theorem ml_Mod_182 : Cond.methodLink "WireDeskModel" 182 y_Mod_join ∈ TB := TB_of 557 (by decide +kernel) rfl
theorem ml_Mod_187 : Cond.methodLink "WireDeskModel" 187 y_Mod_isTransaction ∈ TB := TB_of 578 (by decide +kernel) rfl
theorem oi_i : Cond.instanceMethod objectInit ∈ TB := TB_of 14 (by decide +kernel) rfl
theorem oi_c : Cond.code objectInit ⟨#[0xb1]⟩ 1 none ∈ TB := TB_of 15 (by decide +kernel) rfl
theorem ml_Dsk_9 : Cond.methodLinkNest "WireDesk" 9 y_Txt_init "WireDesk" ∈ jN := by decide +kernel
theorem ml_Dsk_30 : Cond.methodLinkNest "WireDesk" 30 y_Nam_init "WireDesk" ∈ jN := by decide +kernel
theorem ml_Dsk_61 : Cond.methodLinkNest "WireDesk" 61 y_Row_init "WireDesk" ∈ jN := by decide +kernel
theorem ml_Dsk_66 : Cond.methodLinkNest "WireDesk" 66 y_Tra_init "WireDesk" ∈ jN := by decide +kernel
theorem ml_Rea_89 : Cond.methodLinkNest "WireDesk$Reader" 89 y_Dsk_widthOfMark "WireDesk" ∈ jN := by decide +kernel
theorem ml_Rea_96 : Cond.methodLinkNest "WireDesk$Reader" 96 y_Dsk_widthOfSize "WireDesk" ∈ jN := by decide +kernel
theorem k_Dsk_130 : Cond.constantLong "WireDesk" 130 (-1) ∈ TB := TB_of 342 (by decide +kernel) rfl
theorem k_Dsk_179 : Cond.constantLong "WireDesk" 179 (253) ∈ TB := TB_of 208 (by decide +kernel) rfl
theorem k_Txt_23 : Cond.constantLong "WireDesk$Text" 23 (-1) ∈ TB := TB_of 255 (by decide +kernel) rfl
theorem k_Law_13 : Cond.constantLong "WireDeskLaw" 13 (4294967295) ∈ TB := TB_of 598 (by decide +kernel) rfl
theorem k_Mod_92 : Cond.constantLong "WireDeskModel" 92 (4294967296) ∈ TB := TB_of 390 (by decide +kernel) rfl
theorem k_Mod_98 : Cond.constantLong "WireDeskModel" 98 (65535) ∈ TB := TB_of 388 (by decide +kernel) rfl
theorem k_Mod_100 : Cond.constantLong "WireDeskModel" 100 (65536) ∈ TB := TB_of 389 (by decide +kernel) rfl
theorem k_Mod_102 : Cond.constantLong "WireDeskModel" 102 (4294967295) ∈ TB := TB_of 556 (by decide +kernel) rfl
theorem k_Mod_104 : Cond.constantLong "WireDeskModel" 104 (8) ∈ TB := TB_of 543 (by decide +kernel) rfl
theorem k_Mod_106 : Cond.constantLong "WireDeskModel" 106 (255) ∈ TB := TB_of 497 (by decide +kernel) rfl
theorem k_Mod_112 : Cond.constantLong "WireDeskModel" 112 (256) ∈ TB := TB_of 548 (by decide +kernel) rfl
theorem k_Mod_118 : Cond.constantLong "WireDeskModel" 118 (1024) ∈ TB := TB_of 552 (by decide +kernel) rfl
theorem k_Mod_159 : Cond.constantLong "WireDeskModel" 159 (253) ∈ TB := TB_of 506 (by decide +kernel) rfl
theorem k_Mod_185 : Cond.constantLong "WireDeskModel" 185 (-1) ∈ TB := TB_of 573 (by decide +kernel) rfl
theorem cl_Dsk_7 : Cond.classLink "WireDesk" 7 "WireDesk$Text" ∈ TB := TB_of 16 (by decide +kernel) rfl
theorem N_Dsk_7 : j_N "WireDesk" 7 3 2 [.null, .int 0] := ⟨R_Txt, T_Txt, t_Txt, i_Txt, rfl, t_Txt_ok, TB_of 16 (by decide +kernel) rfl, TB_of 17 (by decide +kernel) rfl, TB_of 2 (by decide +kernel) rfl, by decide +kernel⟩
theorem cl_Dsk_19 : Cond.classLink "WireDesk" 19 "WireDesk$Reader" ∈ TB := TB_of 32 (by decide +kernel) rfl
theorem N_Dsk_19 : j_N "WireDesk" 19 2 4 [.null, .int 0, .int 0, .int 0] := ⟨R_Rea, T_Rea, t_Rea, i_Rea, rfl, t_Rea_ok, TB_of 32 (by decide +kernel) rfl, TB_of 33 (by decide +kernel) rfl, TB_of 3 (by decide +kernel) rfl, by decide +kernel⟩
theorem cl_Dsk_28 : Cond.classLink "WireDesk" 28 "WireDesk$Namer" ∈ TB := TB_of 53 (by decide +kernel) rfl
theorem N_Dsk_28 : j_N "WireDesk" 28 1 3 [.null, .null, .null] := ⟨R_Nam, T_Nam, t_Nam, i_Nam, rfl, t_Nam_ok, TB_of 53 (by decide +kernel) rfl, TB_of 54 (by decide +kernel) rfl, TB_of 4 (by decide +kernel) rfl, by decide +kernel⟩
theorem cl_Dsk_35 : Cond.classLink "WireDesk" 35 "WireDesk$Transaction" ∈ TB := TB_of 70 (by decide +kernel) rfl
theorem N_Dsk_35 : j_N "WireDesk" 35 4 10 [.int 0, .int 0, .int 0, .int 0, .null, .null, .null, .null, .null, .null] := ⟨R_Tra, T_Tra, t_Tra, i_Tra, rfl, t_Tra_ok, TB_of 70 (by decide +kernel) rfl, TB_of 87 (by decide +kernel) rfl, TB_of 6 (by decide +kernel) rfl, by decide +kernel⟩
theorem cl_Dsk_59 : Cond.classLink "WireDesk" 59 "WireDesk$NameRow" ∈ TB := TB_of 72 (by decide +kernel) rfl
theorem N_Dsk_59 : j_N "WireDesk" 59 0 2 [.null, .int 0] := ⟨R_Row, T_Row, t_Row, i_Row, rfl, t_Row_ok, TB_of 72 (by decide +kernel) rfl, TB_of 73 (by decide +kernel) rfl, TB_of 5 (by decide +kernel) rfl, by decide +kernel⟩
theorem cl_Law_7 : Cond.classLink "WireDeskLaw" 7 "WireDesk" ∈ TB := TB_of 8 (by decide +kernel) rfl
theorem N_Law_7 : j_N "WireDeskLaw" 7 5 11 [.null, .null, .null, .null, .null, .int 0, .int 0, .int 0, .null, .null, .null] := ⟨R_Dsk, T_Dsk, t_Dsk, i_Dsk, rfl, t_Dsk_ok, TB_of 8 (by decide +kernel) rfl, TB_of 9 (by decide +kernel) rfl, TB_of 1 (by decide +kernel) rfl, by decide +kernel⟩
theorem cl_Law_10 : Cond.classLink "WireDeskLaw" 10 "WireDeskModel" ∈ TB := TB_of 371 (by decide +kernel) rfl
theorem N_Law_10 : j_N "WireDeskLaw" 10 6 32 [.null, .int 0, .null, .int 0, .int 0, .int 0, .int 0, .int 0, .int 0, .int 0, .null, .null, .null, .null, .null, .null, .null, .null, .null, .null, .null, .null, .null, .int 0, .null, .null, .null, .null, .null, .null, .null, .null] := ⟨R_Mod, T_Mod, t_Mod, i_Mod, rfl, t_Mod_ok, TB_of 371 (by decide +kernel) rfl, TB_of 372 (by decide +kernel) rfl, TB_of 7 (by decide +kernel) rfl, by decide +kernel⟩
theorem ac_byte : Cond.arrayClass .byte ∈ TB := TB_of 31 (by decide +kernel) rfl
theorem ac_int : Cond.arrayClass .int ∈ TB := TB_of 69 (by decide +kernel) rfl
theorem ac_long : Cond.arrayClass .long ∈ TB := TB_of 488 (by decide +kernel) rfl
theorem fs_Nam_30 : Cond.fieldLink "WireDesk$Namer" 30 "WireDesk$Namer" "START" "[I" ∈ TB := TB_of 290 (by decide +kernel) rfl
theorem fs_Nam_47 : Cond.fieldLink "WireDesk$Namer" 47 "WireDesk$Namer" "ROUND" "[I" ∈ TB := TB_of 306 (by decide +kernel) rfl
end
section
theorem wb_tb (n : Nat) : (lN n).toBitVec = BitVec.ofNat 64 n := rfl
theorem wb_inj {a b : Int64} (h : a.toBitVec = b.toBitVec) : a = b := Int64.toBitVec_inj.mp h
theorem wb_tn {n : Nat} (h : n < 2 ^ 64) : (lN n).toBitVec.toNat = n := by rw [wb_tb, BitVec.toNat_ofNat, Nat.mod_eq_of_lt h]
theorem wb_of (x : Int64) : ∃ n, n < 2 ^ 64 ∧ x = lN n := ⟨x.toBitVec.toNat, x.toBitVec.isLt, wb_inj (by rw [wb_tb]; simp)⟩
theorem wb_of32 (x : Int32) : ∃ n, n < 2 ^ 32 ∧ x = nI n := ⟨x.toBitVec.toNat, x.toBitVec.isLt, Int32.toBitVec_inj.mp (by show _ = BitVec.ofNat 32 _; simp)⟩
theorem wb_c : ∀ k, k < 64 → ((nI k).toInt64 &&& 63) = lN k := by decide +kernel
theorem wb_cu : ∀ k, k < 64 → ((nI k).toInt64.toUInt64 &&& Int64.toUInt64 63) = UInt64.ofNat k := by decide +kernel
theorem wb_sm : ∀ k, k < 64 → (BitVec.ofNat 64 k).smod 64 = BitVec.ofNat 64 k := by decide +kernel
theorem wb_pw {a b : Nat} (h : a ≤ b) : 2 ^ b = 2 ^ a * 2 ^ (b - a) := by rw [← Nat.pow_add]; congr 1; omega
theorem wb_lt2 {a b : Nat} (h : a < b) : 2 ^ a < 2 ^ b := Nat.pow_lt_pow_right (by decide) h
theorem wb_mod (n : Nat) : lN n = lN (n % 2 ^ 64) := wb_inj (by rw [wb_tb, wb_tb]; apply BitVec.eq_of_toNat_eq; rw [BitVec.toNat_ofNat, BitVec.toNat_ofNat, Nat.mod_mod])
theorem wb_shr {n k : Nat} (hn : n < 2 ^ 64) (hk : k < 64) : ((lN n).toUInt64 >>> ((nI k).toInt64.toUInt64 &&& Int64.toUInt64 63)).toInt64 = lN (n / 2 ^ k) := by
  rw [wb_cu k hk]
  apply wb_inj
  apply BitVec.eq_of_toNat_eq
  show ((lN n).toUInt64 >>> UInt64.ofNat k).toNat = (BitVec.ofNat 64 _).toNat
  have h1 : (UInt64.ofNat k).toNat = k := by
    show (BitVec.ofNat 64 k).toNat = k
    rw [BitVec.toNat_ofNat, Nat.mod_eq_of_lt (by omega)]
  have h2 : (lN n).toUInt64.toNat = n := wb_tn hn
  rw [UInt64.toNat_shiftRight, h1, h2, Nat.mod_eq_of_lt hk, Nat.shiftRight_eq_div_pow, BitVec.toNat_ofNat, Nat.mod_eq_of_lt (Nat.lt_of_le_of_lt (Nat.div_le_self _ _) hn)]
theorem wb_shl (n : Nat) {k : Nat} (hk : k < 64) : lN n <<< ((nI k).toInt64 &&& 63) = lN (n * 2 ^ k) := by
  rw [wb_c k hk]
  apply wb_inj
  rw [Int64.toBitVec_shiftLeft, wb_tb, wb_tb, wb_tb, wb_sm k hk]
  apply BitVec.eq_of_toNat_eq
  rw [BitVec.shiftLeft_eq', BitVec.toNat_shiftLeft, BitVec.toNat_ofNat, BitVec.toNat_ofNat, BitVec.toNat_ofNat, Nat.mod_eq_of_lt (show k < 2 ^ 64 by omega), Nat.shiftLeft_eq, Nat.mul_mod, Nat.mod_mod, ← Nat.mul_mod]
theorem wb_and {a b : Nat} (ha : a < 2 ^ 64) (hb : b < 2 ^ 64) : lN a &&& lN b = lN (a &&& b) := by
  apply wb_inj
  rw [Int64.toBitVec_and, wb_tb, wb_tb, wb_tb]
  apply BitVec.eq_of_toNat_eq
  rw [BitVec.toNat_and, BitVec.toNat_ofNat, BitVec.toNat_ofNat, BitVec.toNat_ofNat, Nat.mod_eq_of_lt ha, Nat.mod_eq_of_lt hb, Nat.mod_eq_of_lt (Nat.and_lt_two_pow _ hb)]
theorem wb_or {a b : Nat} (ha : a < 2 ^ 64) (hb : b < 2 ^ 64) : lN a ||| lN b = lN (a ||| b) := by
  apply wb_inj
  rw [Int64.toBitVec_or, wb_tb, wb_tb, wb_tb]
  apply BitVec.eq_of_toNat_eq
  rw [BitVec.toNat_or, BitVec.toNat_ofNat, BitVec.toNat_ofNat, BitVec.toNat_ofNat, Nat.mod_eq_of_lt ha, Nat.mod_eq_of_lt hb, Nat.mod_eq_of_lt (Nat.or_lt_two_pow ha hb)]
theorem wb_mask {n k : Nat} (hn : n < 2 ^ 64) (hk : k < 64) : lN n &&& lN (2 ^ k - 1) = lN (n % 2 ^ k) := by
  rw [wb_and hn (by have := wb_lt2 hk; omega), Nat.and_two_pow_sub_one_eq_mod]
theorem wb_a1 {n : Nat} (hn : n < 2 ^ 64) : lN n &&& 1 = lN (n % 2) := wb_mask (k := 1) hn (by decide)
theorem wb_bit {n k : Nat} (hn : n < 2 ^ 64) (hk : k < 64) : ((lN n).toUInt64 >>> ((nI k).toInt64.toUInt64 &&& Int64.toUInt64 63)).toInt64 &&& 1 = lN (n / 2 ^ k % 2) := by
  rw [wb_shr hn hk, wb_a1 (Nat.lt_of_le_of_lt (Nat.div_le_self _ _) hn)]
theorem u_tn {n : Nat} (h : n < 2 ^ 64) : (UInt64.ofNat n).toNat = n := Nat.mod_eq_of_lt h
theorem g_and {a b c : Nat} (ha : a < 2 ^ 64) (hb : b < 2 ^ 64) (hc : a &&& b = c) : lN a &&& lN b = lN c := by
  subst hc
  have h : UInt64.ofNat a &&& UInt64.ofNat b = UInt64.ofNat (a &&& b) := UInt64.toNat_inj.mp (by rw [UInt64.toNat_and, u_tn ha, u_tn hb, u_tn (Nat.and_lt_two_pow a hb)])
  have h2 := congrArg UInt64.toInt64 h
  exact h2
theorem g_and1 {a : Nat} (ha : a < 2 ^ 64) : lN a &&& 1 = lN (a % 2) := g_and (b := 1) ha (by decide) (Nat.and_two_pow_sub_one_eq_mod a 1)
theorem g_mask {a s p : Nat} (hp : 2 ^ s = p) (hs : s < 64) (ha : a < 2 ^ 64) : lN a &&& lN (p - 1) = lN (a % p) := by
  subst hp
  have := Nat.pow_lt_pow_right (show 1 < 2 by decide) hs
  exact g_and ha (by omega) (Nat.and_two_pow_sub_one_eq_mod a s)
theorem g_or {k p a b : Nat} (hp : 2 ^ k = p) (ha : a < p) (h : b * p + a < 2 ^ 64) : lN (b * p) ||| lN a = lN (b * p + a) := by
  subst hp
  have h1 : b * 2 ^ k ||| a = b * 2 ^ k + a := by rw [← Nat.shiftLeft_eq, Nat.shiftLeft_add_eq_or_of_lt ha]
  have h3 : UInt64.ofNat (b * 2 ^ k) ||| UInt64.ofNat a = UInt64.ofNat (b * 2 ^ k + a) := UInt64.toNat_inj.mp (by rw [UInt64.toNat_or, u_tn (by omega), u_tn (by omega), u_tn h, h1])
  have h2 := congrArg UInt64.toInt64 h3
  exact h2
theorem g_or' {k p a b : Nat} (hp : 2 ^ k = p) (ha : a < p) (h : a + b * p < 2 ^ 64) : lN a ||| lN (b * p) = lN (a + b * p) := by
  rw [Int64.or_comm, g_or hp ha (by omega), Nat.add_comm]
/-! bytes: a byte array of the class holds bf t, an int array of the reference nf t, where t gives numbers below 256 -/
def bf (t : Nat → Nat) : Nat → Int32 := fun j => sb_b (t j)
def nf (t : Nat → Nat) : Nat → Int32 := fun j => nI (t j)
def lf64 (t : Nat → Nat) : Nat → Int64 := fun j => lN (t j)
theorem bf_at (t : Nat → Nat) (j : Nat) : bf t j = sb_b (t j) := rfl
theorem nf_at (t : Nat → Nat) (j : Nat) : nf t j = nI (t j) := rfl
theorem bf_upd (t : Nat → Nat) (i c : Nat) : upd (bf t) i (sb_b c) = bf (va_up t i c) := by
  funext j; simp only [upd, bf, va_up]; split <;> rfl
theorem nf_upd (t : Nat → Nat) (i c : Nat) : upd (nf t) i (nI c) = nf (va_up t i c) := by
  funext j; simp only [upd, nf, va_up]; split <;> rfl
theorem lf_upd (t : Nat → Nat) (i c : Nat) : vp_updL (lf64 t) i (lN c) = lf64 (va_up t i c) := by
  funext j; simp only [vp_updL, lf64, va_up]; split <;> rfl
theorem bf_zero : (fun _ => 0 : Nat → Int32) = bf (fun _ => 0) := by funext j; rfl
theorem sb_and {c : Nat} (h : c < 256) : sb_b c &&& nI 255 = nI c := (sb_byte c h).1
theorem sb_nar (c : Nat) : (sb_b c).toInt8.toInt32 = sb_b c := pk_vb (nI c)
/-- a number that counts down: -1 behind 0 -/
def dn : Nat → Int32
  | 0 => -1
  | r + 1 => nI r
theorem dn_s (r : Nat) : dn (r + 1) = nI r := rfl
theorem dn_dec (r : Nat) : nI r + Int32.ofInt (-1) = dn r := by
  cases r with
  | zero => rfl
  | succ r => exact pk_m1 r
theorem dn_sub (r : Nat) : nI r - nI 1 = dn r := by
  cases r with
  | zero => rfl
  | succ r => exact nI_pred r
/-- byte i of a long, from below -/
def lb (v : Int64) (i : Nat) : Nat := v.toBitVec.toNat / 2 ^ (8 * i) % 256
theorem lb_lt (v : Int64) (i : Nat) : lb v i < 256 := Nat.mod_lt _ (by decide)
theorem sb_mod (m : Nat) : (nI m).toInt8.toInt32 = sb_b (m % 256) := by
  have h : (nI m).toInt8 = (nI (m % 256)).toInt8 := by
    apply Int8.toBitVec_inj.mp
    show (nI m).toBitVec.signExtend 8 = (nI (m % 256)).toBitVec.signExtend 8
    apply BitVec.eq_of_toNat_eq
    rw [BitVec.signExtend_eq_setWidth_of_le _ (by decide), BitVec.signExtend_eq_setWidth_of_le _ (by decide), BitVec.toNat_setWidth, BitVec.toNat_setWidth]
    show (BitVec.ofNat 32 m).toNat % 256 = (BitVec.ofNat 32 (m % 256)).toNat % 256
    rw [BitVec.toNat_ofNat, BitVec.toNat_ofNat]
    omega
  rw [h]; rfl
theorem lb_byte (v : Int64) (i : Nat) (hi : i < 8) : ((v.toUInt64 >>> ((nI (8 * i)).toInt64.toUInt64 &&& Int64.toUInt64 63)).toInt64).toInt32.toInt8.toInt32 = sb_b (lb v i) := by
  obtain ⟨n, hn, rfl⟩ := wb_of v
  rw [wb_shr hn (by omega), lN_i, sb_mod]
  unfold lb
  rw [wb_tn hn]
/-- what stands in a row behind n when m bytes s have come -/
def putF (t : Nat → Nat) (n m : Nat) (s : Nat → Nat) : Nat → Nat := fun j => if n ≤ j ∧ j < n + m then s (j - n) else t j
theorem putF_0 (t : Nat → Nat) (n : Nat) (s : Nat → Nat) : putF t n 0 s = t := by
  funext j; unfold putF; rw [if_neg (by omega)]
theorem putF_s (t : Nat → Nat) (n m : Nat) (s : Nat → Nat) : va_up (putF t n m s) (n + m) (s m) = putF t n (m + 1) s := by
  funext j; simp only [putF, va_up]
  by_cases h : j = n + m
  · subst h; rw [if_pos rfl, if_pos (by omega), Nat.add_sub_cancel_left]
  · rw [if_neg h]
    by_cases h2 : n ≤ j ∧ j < n + m
    · rw [if_pos h2, if_pos (by omega)]
    · rw [if_neg h2, if_neg (by omega)]
theorem putF_lt {t : Nat → Nat} {n m : Nat} {s : Nat → Nat} (ht : ∀ j, t j < 256) (hs : ∀ j, s j < 256) : ∀ j, putF t n m s j < 256 := by
  intro j; unfold putF; split
  · exact hs _
  · exact ht j
/-- the first i places are f's -/
def cpT (f f0 : Nat → Nat) (i : Nat) : Nat → Nat := fun j => if j < i then f j else f0 j
theorem cpT_0 (f f0 : Nat → Nat) : cpT f f0 0 = f0 := by funext j; unfold cpT; rw [if_neg (by omega)]
theorem cpT_s (f f0 : Nat → Nat) (i : Nat) : va_up (cpT f f0 i) i (f i) = cpT f f0 (i + 1) := by
  funext j; simp only [cpT, va_up]
  by_cases h : j = i
  · subst h; rw [if_pos rfl, if_pos (by omega)]
  · rw [if_neg h]
    by_cases h2 : j < i
    · rw [if_pos h2, if_pos (by omega)]
    · rw [if_neg h2, if_neg (by omega)]
/-- k bytes from p on, low first -/
def lf (t : Nat → Nat) : Nat → Nat → Nat
  | _, 0 => 0
  | p, k + 1 => t p + 256 * lf t (p + 1) k
theorem lf_lt {t : Nat → Nat} (ht : ∀ j, t j < 256) : ∀ (k p : Nat), lf t p k < 256 ^ k
  | 0, p => Nat.one_pos
  | k + 1, p => by
    have h1 := lf_lt ht k (p + 1)
    have h2 := ht p
    rw [Nat.pow_succ]
    show t p + 256 * lf t (p + 1) k < _
    omega
theorem lf_cg {t u : Nat → Nat} : ∀ (k p : Nat), (∀ j, p ≤ j → j < p + k → t j = u j) → lf t p k = lf u p k
  | 0, p, _ => rfl
  | k + 1, p, h => by
    show t p + 256 * lf t (p + 1) k = u p + 256 * lf u (p + 1) k
    rw [h p (Nat.le_refl _) (by omega), lf_cg k (p + 1) (fun j h1 h2 => h j (by omega) (by omega))]
/-- a long that takes one byte more at its low end -/
theorem lN_push {a c : Nat} (ha : a < 2 ^ 56) (hc : c < 256) : (lN a <<< ((nI 8).toInt64 &&& 63)) ||| lN c = lN (a * 256 + c) := by
  rw [wb_shl a (by decide)]
  exact g_or (k := 8) rfl hc (by omega)
/-- an index as the class looks at it -/
def atI (T : Nat → Nat) (n : Nat) (x : Int32) : Int32 := if 0 ≤ x ∧ x < nI n then nI (T x.toNatClampNeg) else -1
theorem atI_in {T : Nat → Nat} {n p : Nat} (h : p < n) (hn : n < 2 ^ 31) : atI T n (nI p) = nI (T p) := by
  unfold atI
  rw [if_pos ⟨nI_pos' (by omega), nI_lt h hn⟩, nI_clamp (by omega)]
theorem atI_neg {T : Nat → Nat} {n : Nat} {x : Int32} (h : x < 0) : atI T n x = -1 := by
  unfold atI
  rw [if_neg]
  intro q
  have h1 := q.1
  rw [Int32.le_iff_toInt_le] at h1
  rw [Int32.lt_iff_toInt_lt] at h
  omega
theorem atI_big {T : Nat → Nat} {n : Nat} {x : Int32} (h : nI n ≤ x) : atI T n x = -1 := by
  unfold atI
  rw [if_neg]
  intro q
  have h1 := q.2
  rw [Int32.le_iff_toInt_le] at h
  rw [Int32.lt_iff_toInt_lt] at h1
  omega
theorem lf_push {t : Nat → Nat} (hT : ∀ j, t j < 256) {p k r : Nat} (h : r < k) (hk : k ≤ 8) : (lN (lf t (p + (r + 1)) (k - (r + 1))) <<< ((nI 8).toInt64 &&& 63)) ||| lN (t (p + r)) = lN (lf t (p + r) (k - r)) := by
  have h1 := lf_lt hT (k - (r + 1)) (p + (r + 1))
  have h2 : 256 ^ (k - (r + 1)) ≤ 256 ^ 7 := Nat.pow_le_pow_right (by decide) (by omega)
  rw [lN_push (Nat.lt_of_lt_of_le h1 (Nat.le_trans h2 (by decide))) (hT _)]
  obtain ⟨d, hd⟩ : ∃ d, k - r = d + 1 := ⟨k - r - 1, by omega⟩
  rw [hd, show k - (r + 1) = d by omega, ← Nat.add_assoc]
  show lN (lf t (p + r + 1) d * 256 + t (p + r)) = lN (t (p + r) + 256 * lf t (p + r + 1) d)
  congr 1
  omega
end
section
section JB
variable {g : JX} {κ : JK} {cc : ByteArray} {own : String} {rm : Room} {nL pc cells slots : Nat} {lv : List (Nat × Value)} {rest : List Value} {ws : va_W}
theorem j_bastB (C : j_C g κ cc own rm nL) (q0 t0 : Nat) {a n : Nat} {cA : ClassId} {t : Nat → Nat} (ha : ws[q0]? = some (a, .inl (cA, n, .inl (bf t)))) (ht : (jT g)[t0]? = some (cA, .byte)) {i c : Nat} {x : Int32} (hi : i < n) (hn : n < 2 ^ 31) (hx : x.toInt8.toInt32 = sb_b c) {ws' : va_W} (hw : ws.set q0 (a, .inl (cA, n, .inl (bf (va_up t i c)))) = ws') (hdg : decode cc pc = .ok (.bastore, 1)) (k9 : j_V g κ cells slots (pc + 1) lv rest ws') : j_V g κ cells slots pc lv (.int x :: .int (nI i) :: .ref a :: rest) ws :=
  j_bastN C q0 t0 ha ht hi hn hx (by rw [bf_upd]; exact hw) hdg k9
theorem j_iastB (C : j_C g κ cc own rm nL) (q0 t0 : Nat) {a n : Nat} {cA : ClassId} {t : Nat → Nat} (ha : ws[q0]? = some (a, .inl (cA, n, .inl (nf t)))) (ht : (jT g)[t0]? = some (cA, .int)) {i c : Nat} (hi : i < n) (hn : n < 2 ^ 31) {ws' : va_W} (hw : ws.set q0 (a, .inl (cA, n, .inl (nf (va_up t i c)))) = ws') (hdg : decode cc pc = .ok (.iastore, 1)) (k9 : j_V g κ cells slots (pc + 1) lv rest ws') : j_V g κ cells slots pc lv (.int (nI c) :: .int (nI i) :: .ref a :: rest) ws :=
  j_iastN C q0 t0 ha ht hi hn (by rw [nf_upd]; exact hw) hdg k9
theorem j_laldN (C : j_C g κ cc own rm nL) (q0 t0 : Nat) {a n : Nat} {cA : ClassId} {f : Nat → Int64} (ha : ws[q0]? = some (a, .inl (cA, n, .inr (.inl f)))) (ht : (jT g)[t0]? = some (cA, .long)) {i : Nat} (hi : i < n) (hn : n < 2 ^ 31) (hdg : decode cc pc = .ok (.laload, 1)) (k9 : j_V g κ cells slots (pc + 1) lv (.long (f i) :: rest) ws) : j_V g κ cells slots pc lv (.int (nI i) :: .ref a :: rest) ws :=
  fun H locs ls hP hD hS hl => va_lald C.1 C.2.1 C.2.2.2.2.2.2.2.2.1 hP q0 t0 ha ht (vp_in_nI hi hn) hdg (by rw [nI_clamp (Nat.lt_trans hi hn)]; exact k9 H locs ls hP hD hS hl)
theorem j_lastN (C : j_C g κ cc own rm nL) (q0 t0 : Nat) {a n : Nat} {cA : ClassId} {f : Nat → Int64} (ha : ws[q0]? = some (a, .inl (cA, n, .inr (.inl f)))) (ht : (jT g)[t0]? = some (cA, .long)) {i : Nat} {x : Int64} (hi : i < n) (hn : n < 2 ^ 31) {ws' : va_W} (hw : ws.set q0 (a, .inl (cA, n, .inr (.inl (vp_updL f i x)))) = ws') (hdg : decode cc pc = .ok (.lastore, 1)) (k9 : j_V g κ cells slots (pc + 1) lv rest ws') : j_V g κ cells slots pc lv (.long x :: .int (nI i) :: .ref a :: rest) ws := by
  subst hw
  refine fun H locs ls hP hD hS hl => va_last C.1 C.2.1 C.2.2.2.2.2.2.2.2.1 hP hD hS q0 t0 ha ht (vp_in_nI hi hn) hdg (fun H1 locs1 a1 a2 a3 => ?_)
  rw [nI_clamp (Nat.lt_trans hi hn)] at a1 a2
  exact k9 H1 locs1 ls a1 a2 a3 hl
theorem j_lastB (C : j_C g κ cc own rm nL) (q0 t0 : Nat) {a n : Nat} {cA : ClassId} {t : Nat → Nat} (ha : ws[q0]? = some (a, .inl (cA, n, .inr (.inl (lf64 t))))) (ht : (jT g)[t0]? = some (cA, .long)) {i c : Nat} (hi : i < n) (hn : n < 2 ^ 31) {ws' : va_W} (hw : ws.set q0 (a, .inl (cA, n, .inr (.inl (lf64 (va_up t i c))))) = ws') (hdg : decode cc pc = .ok (.lastore, 1)) (k9 : j_V g κ cells slots (pc + 1) lv rest ws') : j_V g κ cells slots pc lv (.long (lN c) :: .int (nI i) :: .ref a :: rest) ws :=
  j_lastN C q0 t0 ha ht hi hn (by rw [lf_upd]; exact hw) hdg k9
theorem j_ifdn_lt (C : j_C g κ cc own rm nL) {off : Int} {tgt : Nat} (hdg : decode cc pc = .ok (.ifCond .lt off, 3)) (ht : (pc : Int) + off = (tgt : Int)) (k9 : j_V g κ cells slots tgt lv rest ws) : j_V g κ cells slots pc lv (.int (-1) :: rest) ws :=
  j_if_lt C hdg ht (fun _ => k9) (fun h => absurd (by decide) h)
theorem j_lcmpN (C : j_C g κ cc own rm nL) {a b : Nat} (hdg : decode cc pc = .ok (.lcmp, 1)) (k9 : j_V g κ cells slots (pc + 1) lv (.int (lg_cmp (lN a) (lN b)) :: rest) ws) : j_V g κ cells slots pc lv (.long (lN b) :: .long (lN a) :: rest) ws := j_lcmp C hdg k9
end JB
end
section
abbrev rm_Txt_clear : Room := { frames := 0, cells := 0, slots := 0, locals := 0 }
set_option maxHeartbeats 4000000 in
set_option maxRecDepth 100000 in
theorem c_Txt_clear (l : Launch) (g : JX) (h hb : Nat) (x : Int32)  : j_Ct l y_Txt_clear b_Txt_clear 1 none rm_Txt_clear g ([(h, .inr (3, [.ref hb, .int x]))]) [.ref h] (fun r w => r = none ∧ w = [(h, .inr (3, [.ref hb, .int (nI 0)]))]) 0 0 := by
  refine j_ct (by decide) (Nat.le_of_ble_eq_true rfl) (fun κ hkl C hR hI => ?_)
  show j_V g κ 0 0 0 [(0, .ref h)] [] ([(h, .inr (3, [.ref hb, .int x]))])
  refine j_aload_n (pc := 0) C d_Txt_clear_0 rfl 0 rfl ?_
  refine j_iconst (pc := 1) (v := nI 0) C d_Txt_clear_1 (by decide) ?_
  refine j_put (pc := 2) (ws' := [(h, .inr (3, [.ref hb, .int (nI 0)]))]) C Fp_Txt_15 0 rfl rfl (by first | rfl | decide) (Nat.le_of_ble_eq_true rfl) rfl d_Txt_clear_2 ?_
  exact hR.2.2 _ _ _ d_Txt_clear_5 rfl (⟨rfl, rfl⟩)
abbrev rm_Txt_copy : Room := { frames := 0, cells := 0, slots := 0, locals := 0 }
set_option maxHeartbeats 4000000 in
set_option maxRecDepth 100000 in
theorem lp_Txt_copy {g : JX} {κ : JK} {h hb k0 kb n : Nat} {t t0 : Nat → Nat} {x : Int32} (hn : n ≤ 2000) (C : j_C g κ b_Txt_copy R_Txt rm_Txt_copy 3) (hR : j_R g κ b_Txt_copy none (fun r w => r = none ∧ w = [(h, .inr (3, [.ref hb, .int (nI n)])), (hb, .inl (aB g, 2000, .inl (bf (cpT t t0 n)))), (k0, .inr (3, [.ref kb, .int (nI n)])), (kb, .inl (aB g, 2000, .inl (bf t)))]) 0 0) : ∀ (k : Nat) (i : Nat), i ≤ n → n + 1 ≤ i + k → j_V g κ 0 0 2 [(0, .ref h), (1, .ref k0), (2, .int (nI i))] [] ([(h, .inr (3, [.ref hb, .int x])), (hb, .inl (aB g, 2000, .inl (bf (cpT t t0 i)))), (k0, .inr (3, [.ref kb, .int (nI n)])), (kb, .inl (aB g, 2000, .inl (bf t)))]) := by
  intro k
  induction k with
  | zero =>
    intro i hi hk
    exfalso; omega
  | succ k ih =>
    intro i hi hk
    refine j_iload_n (pc := 2) C d_Txt_copy_2 rfl 2 rfl ?_
    refine j_aload_n (pc := 3) C d_Txt_copy_3 rfl 1 rfl ?_
    refine j_get (pc := 4) C F_Txt_15 2 rfl rfl d_Txt_copy_4 ?_
    refine j_icmp_geN (pc := 7) (tgt := 35) C (by omega) (by omega) d_Txt_copy_7 rfl (fun c7 => ?_) (fun c7 => ?_)
    · skip
      refine j_aload_n (pc := 35) C d_Txt_copy_35 rfl 0 rfl ?_
      refine j_aload_n (pc := 36) C d_Txt_copy_36 rfl 1 rfl ?_
      refine j_get (pc := 37) C F_Txt_15 2 rfl rfl d_Txt_copy_37 ?_
      refine j_put (pc := 40) (ws' := [(h, .inr (3, [.ref hb, .int (nI n)])), (hb, .inl (aB g, 2000, .inl (bf (cpT t t0 i)))), (k0, .inr (3, [.ref kb, .int (nI n)])), (kb, .inl (aB g, 2000, .inl (bf t)))]) C Fp_Txt_15 0 rfl rfl (by first | rfl | decide) (Nat.le_of_ble_eq_true rfl) rfl d_Txt_copy_40 ?_
      exact hR.2.2 _ _ _ d_Txt_copy_43 rfl (⟨rfl, by rw [show i = n by omega]⟩)
    · skip
      refine j_iload_n (pc := 10) C d_Txt_copy_10 rfl 2 rfl ?_
      refine j_sipush (pc := 11) (v := nI 2000) C d_Txt_copy_11 (by decide) ?_
      refine j_icmp_geN (pc := 14) (tgt := 35) C (by omega) (by omega) d_Txt_copy_14 rfl (fun c14 => ?_) (fun c14 => ?_)
      · skip
        exfalso; omega
      · skip
        refine j_aload_n (pc := 17) C d_Txt_copy_17 rfl 0 rfl ?_
        refine j_get (pc := 18) C F_Txt_9 0 rfl rfl d_Txt_copy_18 ?_
        refine j_iload_n (pc := 21) C d_Txt_copy_21 rfl 2 rfl ?_
        refine j_aload_n (pc := 22) C d_Txt_copy_22 rfl 1 rfl ?_
        refine j_get (pc := 23) C F_Txt_9 2 rfl rfl d_Txt_copy_23 ?_
        refine j_iload_n (pc := 26) C d_Txt_copy_26 rfl 2 rfl ?_
        refine j_baldN (pc := 27) C 3 0 rfl rfl (by omega) (by omega) d_Txt_copy_27 ?_
        refine j_bastB (pc := 28) (ws' := [(h, .inr (3, [.ref hb, .int x])), (hb, .inl (aB g, 2000, .inl (bf (va_up (cpT t t0 i) i (t i))))), (k0, .inr (3, [.ref kb, .int (nI n)])), (kb, .inl (aB g, 2000, .inl (bf t)))]) C 1 0 rfl rfl (by omega) (by omega) (sb_nar _) rfl d_Txt_copy_28 ?_
        refine j_iinc (pc := 29) (k := 2) (v := nI (i + 1)) (lv' := [(2, .int (nI (i + 1))), (0, .ref h), (1, .ref k0)]) C d_Txt_copy_29 rfl (j_inc _ _) (by decide) rfl ?_
        refine j_goto (pc := 32) (tgt := 2) C d_Txt_copy_32 rfl ?_
        refine j_lv (lv' := [(0, .ref h), (1, .ref k0), (2, .int (nI (i + 1)))]) [1, 2, 0] rfl ?_
        rw [cpT_s]
        exact ih (i + 1) (by omega) (by omega)
set_option maxHeartbeats 4000000 in
set_option maxRecDepth 100000 in
theorem c_Txt_copy (l : Launch) (g : JX) (h hb k0 kb n : Nat) (t t0 : Nat → Nat) (x : Int32) (hn : n ≤ 2000) : j_Ct l y_Txt_copy b_Txt_copy 3 none rm_Txt_copy g ([(h, .inr (3, [.ref hb, .int x])), (hb, .inl (aB g, 2000, .inl (bf t0))), (k0, .inr (3, [.ref kb, .int (nI n)])), (kb, .inl (aB g, 2000, .inl (bf t)))]) [.ref h, .ref k0] (fun r w => r = none ∧ w = [(h, .inr (3, [.ref hb, .int (nI n)])), (hb, .inl (aB g, 2000, .inl (bf (cpT t t0 n)))), (k0, .inr (3, [.ref kb, .int (nI n)])), (kb, .inl (aB g, 2000, .inl (bf t)))]) 0 0 := by
  refine j_ct (by decide) (Nat.le_of_ble_eq_true rfl) (fun κ hkl C hR hI => ?_)
  show j_V g κ 0 0 0 [(0, .ref h), (1, .ref k0)] [] ([(h, .inr (3, [.ref hb, .int x])), (hb, .inl (aB g, 2000, .inl (bf t0))), (k0, .inr (3, [.ref kb, .int (nI n)])), (kb, .inl (aB g, 2000, .inl (bf t)))])
  refine j_iconst (pc := 0) (v := nI 0) C d_Txt_copy_0 (by decide) ?_
  refine j_istore_n (pc := 1) (lv' := [(2, .int (nI 0)), (0, .ref h), (1, .ref k0)]) C d_Txt_copy_1 rfl (by decide) rfl ?_
  refine j_lv (lv' := [(0, .ref h), (1, .ref k0), (2, .int (nI 0))]) [1, 2, 0] rfl ?_
  have e := lp_Txt_copy (h := h) (hb := hb) (k0 := k0) (kb := kb) (t := t) (t0 := t0) (x := x) hn C hR (n + 1) 0 (by omega) (by omega)
  rw [cpT_0] at e
  exact e
abbrev rm_Txt_hasRoom : Room := { frames := 0, cells := 0, slots := 0, locals := 0 }
set_option maxHeartbeats 4000000 in
set_option maxRecDepth 100000 in
theorem c_Txt_hasRoom (l : Launch) (g : JX) (h hb n k : Nat) (hn : n ≤ 2000) (hk : k < 2 ^ 31) : j_Ct l y_Txt_hasRoom b_Txt_hasRoom 2 (some .boolean) rm_Txt_hasRoom g ([(h, .inr (3, [.ref hb, .int (nI n)]))]) [.ref h, .int (nI k)] (fun r w => r = some (.int (if k ≤ 2000 - n then (1 : Int32) else 0)) ∧ w = [(h, .inr (3, [.ref hb, .int (nI n)]))]) 0 0 := by
  refine j_ct (by decide) (Nat.le_of_ble_eq_true rfl) (fun κ hkl C hR hI => ?_)
  show j_V g κ 0 0 0 [(0, .ref h), (1, .int (nI k))] [] ([(h, .inr (3, [.ref hb, .int (nI n)]))])
  refine j_iload_n (pc := 0) C d_Txt_hasRoom_0 rfl 1 rfl ?_
  refine j_if_ltN (pc := 1) (tgt := 20) C (by omega) d_Txt_hasRoom_1 rfl ?_
  refine j_iload_n (pc := 4) C d_Txt_hasRoom_4 rfl 1 rfl ?_
  refine j_sipush (pc := 5) (v := nI 2000) C d_Txt_hasRoom_5 (by decide) ?_
  refine j_aload_n (pc := 8) C d_Txt_hasRoom_8 rfl 0 rfl ?_
  refine j_get (pc := 9) C F_Txt_15 0 rfl rfl d_Txt_hasRoom_9 ?_
  refine j_isubN (pc := 12) C (by omega) d_Txt_hasRoom_12 ?_
  refine j_icmp_gtN (pc := 13) (tgt := 20) C (by omega) (by omega) d_Txt_hasRoom_13 rfl (fun c13 => ?_) (fun c13 => ?_)
  · skip
    refine j_iconst (pc := 20) (v := nI 0) C d_Txt_hasRoom_20 (by decide) ?_
    exact hR.1 _ _ _ _ d_Txt_hasRoom_21 ⟨_, rfl, by first | rfl | decide⟩ (⟨by first | rw [if_pos (by omega)]; rfl | rw [if_neg (by omega)]; rfl, rfl⟩)
  · skip
    refine j_iconst (pc := 16) (v := nI 1) C d_Txt_hasRoom_16 (by decide) ?_
    refine j_goto (pc := 17) (tgt := 21) C d_Txt_hasRoom_17 rfl ?_
    exact hR.1 _ _ _ _ d_Txt_hasRoom_21 ⟨_, rfl, by first | rfl | decide⟩ (⟨by first | rw [if_pos (by omega)]; rfl | rw [if_neg (by omega)]; rfl, rfl⟩)
abbrev rm_Txt_add : Room := { frames := 0, cells := 0, slots := 0, locals := 0 }
set_option maxHeartbeats 4000000 in
set_option maxRecDepth 100000 in
theorem c_Txt_add (l : Launch) (g : JX) (h hb n c : Nat) (t : Nat → Nat) (hn : n < 2000) : j_Ct l y_Txt_add b_Txt_add 2 none rm_Txt_add g ([(h, .inr (3, [.ref hb, .int (nI n)])), (hb, .inl (aB g, 2000, .inl (bf t)))]) [.ref h, .int (sb_b c)] (fun r w => r = none ∧ w = [(h, .inr (3, [.ref hb, .int (nI (n + 1))])), (hb, .inl (aB g, 2000, .inl (bf (va_up t n c))))]) 0 0 := by
  refine j_ct (by decide) (Nat.le_of_ble_eq_true rfl) (fun κ hkl C hR hI => ?_)
  show j_V g κ 0 0 0 [(0, .ref h), (1, .int (sb_b c))] [] ([(h, .inr (3, [.ref hb, .int (nI n)])), (hb, .inl (aB g, 2000, .inl (bf t)))])
  refine j_aload_n (pc := 0) C d_Txt_add_0 rfl 0 rfl ?_
  refine j_get (pc := 1) C F_Txt_15 0 rfl rfl d_Txt_add_1 ?_
  refine j_if_ltN (pc := 4) (tgt := 37) C (by omega) d_Txt_add_4 rfl ?_
  refine j_aload_n (pc := 7) C d_Txt_add_7 rfl 0 rfl ?_
  refine j_get (pc := 8) C F_Txt_15 0 rfl rfl d_Txt_add_8 ?_
  refine j_sipush (pc := 11) (v := nI 2000) C d_Txt_add_11 (by decide) ?_
  refine j_icmp_geN (pc := 14) (tgt := 37) C (by omega) (by omega) d_Txt_add_14 rfl (fun c14 => ?_) (fun c14 => ?_)
  · skip
    exfalso; omega
  · skip
    refine j_aload_n (pc := 17) C d_Txt_add_17 rfl 0 rfl ?_
    refine j_get (pc := 18) C F_Txt_9 0 rfl rfl d_Txt_add_18 ?_
    refine j_aload_n (pc := 21) C d_Txt_add_21 rfl 0 rfl ?_
    refine j_get (pc := 22) C F_Txt_15 0 rfl rfl d_Txt_add_22 ?_
    refine j_iload_n (pc := 25) C d_Txt_add_25 rfl 1 rfl ?_
    refine j_bastB (pc := 26) (ws' := [(h, .inr (3, [.ref hb, .int (nI n)])), (hb, .inl (aB g, 2000, .inl (bf (va_up t n c))))]) C 1 0 rfl rfl (by omega) (by omega) (sb_nar _) rfl d_Txt_add_26 ?_
    refine j_aload_n (pc := 27) C d_Txt_add_27 rfl 0 rfl ?_
    refine j_dup (pc := 28) C d_Txt_add_28 rfl ?_
    refine j_get (pc := 29) C F_Txt_15 0 rfl rfl d_Txt_add_29 ?_
    refine j_iconst (pc := 32) (v := nI 1) C d_Txt_add_32 (by decide) ?_
    refine j_iaddN (pc := 33) C d_Txt_add_33 ?_
    refine j_put (pc := 34) (ws' := [(h, .inr (3, [.ref hb, .int (nI (n + 1))])), (hb, .inl (aB g, 2000, .inl (bf (va_up t n c))))]) C Fp_Txt_15 0 rfl rfl (by first | rfl | decide) (Nat.le_of_ble_eq_true rfl) rfl d_Txt_add_34 ?_
    exact hR.2.2 _ _ _ d_Txt_add_37 rfl (⟨rfl, rfl⟩)
abbrev rm_Txt_addHighFirst : Room := { frames := 1, cells := 0, slots := 0, locals := 21 }
set_option maxHeartbeats 4000000 in
set_option maxRecDepth 100000 in
theorem lp_Txt_hi {g : JX} {κ : JK} {h hb n k1 : Nat} {t : Nat → Nat} {v : Int64} (hn : n + k1 ≤ 2000) (hk1 : k1 ≤ 8) (C : j_C g κ b_Txt_addHighFirst R_Txt rm_Txt_addHighFirst 5) (hR : j_R g κ b_Txt_addHighFirst none (fun r w => r = none ∧ w = [(h, .inr (3, [.ref hb, .int (nI (n + k1))])), (hb, .inl (aB g, 2000, .inl (bf (putF t n k1 (fun q => lb v (k1 - 1 - q))))))]) 0 0) : ∀ (k : Nat) (r m : Nat), r + m = k1 → r + 1 ≤ k → j_V g κ 0 0 5 [(0, .ref h), (1, .long v), (3, .int (nI k1)), (4, .int (dn r))] [] ([(h, .inr (3, [.ref hb, .int (nI (n + m))])), (hb, .inl (aB g, 2000, .inl (bf (putF t n m (fun q => lb v (k1 - 1 - q))))))]) := by
  intro k
  induction k with
  | zero =>
    intro r m hm hk
    exfalso; omega
  | succ k ih =>
    intro r m hm hk
    cases r with
    | zero =>
      show j_V g κ 0 0 5 [(0, .ref h), (1, .long v), (3, .int (nI k1)), (4, .int (-1 : Int32))] [] ([(h, .inr (3, [.ref hb, .int (nI (n + m))])), (hb, .inl (aB g, 2000, .inl (bf (putF t n m (fun q => lb v (k1 - 1 - q))))))])
      refine j_iload (pc := 5) C d_Txt_addHighFirst_5 3 rfl ?_
      refine j_ifdn_lt (pc := 7) (tgt := 29) C d_Txt_addHighFirst_7 rfl ?_
      exact hR.2.2 _ _ _ d_Txt_addHighFirst_29 rfl (⟨rfl, by rw [show m = k1 by omega]⟩)
    | succ r =>
      show j_V g κ 0 0 5 [(0, .ref h), (1, .long v), (3, .int (nI k1)), (4, .int (nI r))] [] ([(h, .inr (3, [.ref hb, .int (nI (n + m))])), (hb, .inl (aB g, 2000, .inl (bf (putF t n m (fun q => lb v (k1 - 1 - q))))))])
      refine j_iload (pc := 5) C d_Txt_addHighFirst_5 3 rfl ?_
      refine j_if_ltN (pc := 7) (tgt := 29) C (by omega) d_Txt_addHighFirst_7 rfl ?_
      refine j_aload_n (pc := 10) C d_Txt_addHighFirst_10 rfl 0 rfl ?_
      refine j_lload_n (pc := 11) C d_Txt_addHighFirst_11 rfl 1 rfl ?_
      refine j_bipush (pc := 12) (v := nI 8) C d_Txt_addHighFirst_12 (by decide) ?_
      refine j_iload (pc := 14) C d_Txt_addHighFirst_14 3 rfl ?_
      refine j_imulN (pc := 16) C d_Txt_addHighFirst_16 ?_
      refine j_lushr (pc := 17) (v := (v.toUInt64 >>> ((nI (8 * r)).toInt64.toUInt64 &&& Int64.toUInt64 63)).toInt64) C d_Txt_addHighFirst_17 rfl ?_
      refine j_l2i (pc := 18) (v := ((v.toUInt64 >>> ((nI (8 * r)).toInt64.toUInt64 &&& Int64.toUInt64 63)).toInt64).toInt32) C d_Txt_addHighFirst_18 (rfl) ?_
      refine j_i2b (pc := 19) (v := (((v.toUInt64 >>> ((nI (8 * r)).toInt64.toUInt64 &&& Int64.toUInt64 63)).toInt64).toInt32).toInt8.toInt32) C d_Txt_addHighFirst_19 rfl ?_
      refine j_rwi (y := sb_b (lb v r)) (lb_byte v r (by omega)) ?_
      refine j_callV (pc := 20) (As := [.int (sb_b (lb v r))]) (rest := []) (wc := [(h, .inr (3, [.ref hb, .int (nI (n + m))])), (hb, .inl (aB g, 2000, .inl (bf (putF t n m (fun q => lb v (k1 - 1 - q))))))]) (wr := []) C (c_Txt_add (kl κ) g h hb (n + m) (lb v r) (putF t n m (fun q => lb v (k1 - 1 - q))) (by omega)) Y_Txt_add ml_Txt_19 im_Txt_add sl_Txt_add rfl ⟨by decide, by decide⟩ rfl (ci := 3) (q0 := 0) rfl rfl rfl (Nat.le_of_ble_eq_true rfl) (j_sb [0, 1] rfl rfl) rfl d_Txt_addHighFirst_20 (fun r w1 hO => ?_)
      obtain ⟨rfl, rfl⟩ := hO
      show j_V g κ 0 0 23 [(0, .ref h), (1, .long v), (3, .int (nI k1)), (4, .int (nI r))] [] ([(h, .inr (3, [.ref hb, .int (nI (n + m + 1))])), (hb, .inl (aB g, 2000, .inl (bf (va_up (putF t n m (fun q => lb v (k1 - 1 - q))) (n + m) (lb v r)))))])
      refine j_iinc (pc := 23) (k := 3) (v := dn r) (lv' := [(4, .int (dn r)), (0, .ref h), (1, .long v), (3, .int (nI k1))]) C d_Txt_addHighFirst_23 rfl (dn_dec r) (by decide) rfl ?_
      refine j_goto (pc := 26) (tgt := 5) C d_Txt_addHighFirst_26 rfl ?_
      refine j_lv (lv' := [(0, .ref h), (1, .long v), (3, .int (nI k1)), (4, .int (dn r))]) [1, 2, 3, 0] rfl ?_
      have e := ih r (m + 1) (by omega) (by omega)
      rw [← putF_s, show k1 - 1 - m = r by omega] at e
      exact e
set_option maxHeartbeats 4000000 in
set_option maxRecDepth 100000 in
theorem c_Txt_addHighFirst (l : Launch) (g : JX) (h hb n k1 : Nat) (t : Nat → Nat) (v : Int64) (hn : n + k1 ≤ 2000) (hk1 : k1 ≤ 8) : j_Ct l y_Txt_addHighFirst b_Txt_addHighFirst 5 none rm_Txt_addHighFirst g ([(h, .inr (3, [.ref hb, .int (nI n)])), (hb, .inl (aB g, 2000, .inl (bf t)))]) [.ref h, .long v, .int (nI k1)] (fun r w => r = none ∧ w = [(h, .inr (3, [.ref hb, .int (nI (n + k1))])), (hb, .inl (aB g, 2000, .inl (bf (putF t n k1 (fun q => lb v (k1 - 1 - q))))))]) 0 0 := by
  refine j_ct (by decide) (Nat.le_of_ble_eq_true rfl) (fun κ hkl C hR hI => ?_)
  show j_V g κ 0 0 0 [(0, .ref h), (1, .long v), (3, .int (nI k1))] [] ([(h, .inr (3, [.ref hb, .int (nI n)])), (hb, .inl (aB g, 2000, .inl (bf t)))])
  refine j_iload_n (pc := 0) C d_Txt_addHighFirst_0 rfl 2 rfl ?_
  refine j_iconst (pc := 1) (v := nI 1) C d_Txt_addHighFirst_1 (by decide) ?_
  refine j_isub (pc := 2) C d_Txt_addHighFirst_2 ?_
  refine j_rwi (y := dn k1) (dn_sub _) ?_
  refine j_istore (pc := 3) (lv' := [(4, .int (dn k1)), (0, .ref h), (1, .long v), (3, .int (nI k1))]) C d_Txt_addHighFirst_3 (by decide) rfl ?_
  refine j_lv (lv' := [(0, .ref h), (1, .long v), (3, .int (nI k1)), (4, .int (dn k1))]) [1, 2, 3, 0] rfl ?_
  have e := lp_Txt_hi (h := h) (hb := hb) (n := n) (k1 := k1) (t := t) (v := v) hn hk1 C hR (k1 + 1) k1 0 (by omega) (by omega)
  rw [putF_0] at e
  exact e
abbrev rm_Txt_addLowFirst : Room := { frames := 1, cells := 0, slots := 0, locals := 21 }
set_option maxHeartbeats 4000000 in
set_option maxRecDepth 100000 in
theorem lp_Txt_lo {g : JX} {κ : JK} {h hb n k1 : Nat} {t : Nat → Nat} {v : Int64} (hn : n + k1 ≤ 2000) (hk1 : k1 ≤ 8) (C : j_C g κ b_Txt_addLowFirst R_Txt rm_Txt_addLowFirst 5) (hR : j_R g κ b_Txt_addLowFirst none (fun r w => r = none ∧ w = [(h, .inr (3, [.ref hb, .int (nI (n + k1))])), (hb, .inl (aB g, 2000, .inl (bf (putF t n k1 (fun q => lb v q)))))]) 0 0) : ∀ (k : Nat) (m : Nat), m ≤ k1 → k1 + 1 ≤ m + k → j_V g κ 0 0 3 [(0, .ref h), (1, .long v), (3, .int (nI k1)), (4, .int (nI m))] [] ([(h, .inr (3, [.ref hb, .int (nI (n + m))])), (hb, .inl (aB g, 2000, .inl (bf (putF t n m (fun q => lb v q)))))]) := by
  intro k
  induction k with
  | zero =>
    intro m hm hk
    exfalso; omega
  | succ k ih =>
    intro m hm hk
    refine j_iload (pc := 3) C d_Txt_addLowFirst_3 3 rfl ?_
    refine j_iload_n (pc := 5) C d_Txt_addLowFirst_5 rfl 2 rfl ?_
    refine j_icmp_geN (pc := 6) (tgt := 28) C (by omega) (by omega) d_Txt_addLowFirst_6 rfl (fun c6 => ?_) (fun c6 => ?_)
    · skip
      exact hR.2.2 _ _ _ d_Txt_addLowFirst_28 rfl (⟨rfl, by rw [show m = k1 by omega]⟩)
    · skip
      refine j_aload_n (pc := 9) C d_Txt_addLowFirst_9 rfl 0 rfl ?_
      refine j_lload_n (pc := 10) C d_Txt_addLowFirst_10 rfl 1 rfl ?_
      refine j_bipush (pc := 11) (v := nI 8) C d_Txt_addLowFirst_11 (by decide) ?_
      refine j_iload (pc := 13) C d_Txt_addLowFirst_13 3 rfl ?_
      refine j_imulN (pc := 15) C d_Txt_addLowFirst_15 ?_
      refine j_lushr (pc := 16) (v := (v.toUInt64 >>> ((nI (8 * m)).toInt64.toUInt64 &&& Int64.toUInt64 63)).toInt64) C d_Txt_addLowFirst_16 rfl ?_
      refine j_l2i (pc := 17) (v := ((v.toUInt64 >>> ((nI (8 * m)).toInt64.toUInt64 &&& Int64.toUInt64 63)).toInt64).toInt32) C d_Txt_addLowFirst_17 (rfl) ?_
      refine j_i2b (pc := 18) (v := (((v.toUInt64 >>> ((nI (8 * m)).toInt64.toUInt64 &&& Int64.toUInt64 63)).toInt64).toInt32).toInt8.toInt32) C d_Txt_addLowFirst_18 rfl ?_
      refine j_rwi (y := sb_b (lb v m)) (lb_byte v m (by omega)) ?_
      refine j_callV (pc := 19) (As := [.int (sb_b (lb v m))]) (rest := []) (wc := [(h, .inr (3, [.ref hb, .int (nI (n + m))])), (hb, .inl (aB g, 2000, .inl (bf (putF t n m (fun q => lb v q)))))]) (wr := []) C (c_Txt_add (kl κ) g h hb (n + m) (lb v m) (putF t n m (fun q => lb v q)) (by omega)) Y_Txt_add ml_Txt_19 im_Txt_add sl_Txt_add rfl ⟨by decide, by decide⟩ rfl (ci := 3) (q0 := 0) rfl rfl rfl (Nat.le_of_ble_eq_true rfl) (j_sb [0, 1] rfl rfl) rfl d_Txt_addLowFirst_19 (fun r w1 hO => ?_)
      obtain ⟨rfl, rfl⟩ := hO
      show j_V g κ 0 0 22 [(0, .ref h), (1, .long v), (3, .int (nI k1)), (4, .int (nI m))] [] ([(h, .inr (3, [.ref hb, .int (nI (n + m + 1))])), (hb, .inl (aB g, 2000, .inl (bf (va_up (putF t n m (fun q => lb v q)) (n + m) (lb v m)))))])
      refine j_iinc (pc := 22) (k := 3) (v := nI (m + 1)) (lv' := [(4, .int (nI (m + 1))), (0, .ref h), (1, .long v), (3, .int (nI k1))]) C d_Txt_addLowFirst_22 rfl (j_inc _ _) (by decide) rfl ?_
      refine j_goto (pc := 25) (tgt := 3) C d_Txt_addLowFirst_25 rfl ?_
      refine j_lv (lv' := [(0, .ref h), (1, .long v), (3, .int (nI k1)), (4, .int (nI (m + 1)))]) [1, 2, 3, 0] rfl ?_
      have e := ih (m + 1) (by omega) (by omega)
      rw [← putF_s] at e
      exact e
set_option maxHeartbeats 4000000 in
set_option maxRecDepth 100000 in
theorem c_Txt_addLowFirst (l : Launch) (g : JX) (h hb n k1 : Nat) (t : Nat → Nat) (v : Int64) (hn : n + k1 ≤ 2000) (hk1 : k1 ≤ 8) : j_Ct l y_Txt_addLowFirst b_Txt_addLowFirst 5 none rm_Txt_addLowFirst g ([(h, .inr (3, [.ref hb, .int (nI n)])), (hb, .inl (aB g, 2000, .inl (bf t)))]) [.ref h, .long v, .int (nI k1)] (fun r w => r = none ∧ w = [(h, .inr (3, [.ref hb, .int (nI (n + k1))])), (hb, .inl (aB g, 2000, .inl (bf (putF t n k1 (fun q => lb v q)))))]) 0 0 := by
  refine j_ct (by decide) (Nat.le_of_ble_eq_true rfl) (fun κ hkl C hR hI => ?_)
  show j_V g κ 0 0 0 [(0, .ref h), (1, .long v), (3, .int (nI k1))] [] ([(h, .inr (3, [.ref hb, .int (nI n)])), (hb, .inl (aB g, 2000, .inl (bf t)))])
  refine j_iconst (pc := 0) (v := nI 0) C d_Txt_addLowFirst_0 (by decide) ?_
  refine j_istore (pc := 1) (lv' := [(4, .int (nI 0)), (0, .ref h), (1, .long v), (3, .int (nI k1))]) C d_Txt_addLowFirst_1 (by decide) rfl ?_
  refine j_lv (lv' := [(0, .ref h), (1, .long v), (3, .int (nI k1)), (4, .int (nI 0))]) [1, 2, 3, 0] rfl ?_
  have e := lp_Txt_lo (h := h) (hb := hb) (n := n) (k1 := k1) (t := t) (v := v) hn hk1 C hR (k1 + 1) 0 (by omega) (by omega)
  rw [putF_0] at e
  exact e
abbrev rm_Txt_at : Room := { frames := 0, cells := 0, slots := 0, locals := 0 }
set_option maxHeartbeats 4000000 in
set_option maxRecDepth 100000 in
theorem c_Txt_at (l : Launch) (g : JX) (h hb n : Nat) (t : Nat → Nat) (x : Int32) (hn : n ≤ 2000) (hT : ∀ j, t j < 256) : j_Ct l y_Txt_at b_Txt_at 2 (some .int) rm_Txt_at g ([(h, .inr (3, [.ref hb, .int (nI n)])), (hb, .inl (aB g, 2000, .inl (bf t)))]) [.ref h, .int x] (fun r w => r = some (.int (atI t n x)) ∧ w = [(h, .inr (3, [.ref hb, .int (nI n)])), (hb, .inl (aB g, 2000, .inl (bf t)))]) 0 0 := by
  refine j_ct (by decide) (Nat.le_of_ble_eq_true rfl) (fun κ hkl C hR hI => ?_)
  show j_V g κ 0 0 0 [(0, .ref h), (1, .int x)] [] ([(h, .inr (3, [.ref hb, .int (nI n)])), (hb, .inl (aB g, 2000, .inl (bf t)))])
  rcases pk_ix x (n := n) (by omega) with hx | hx | ⟨p, hp, rfl⟩
  · skip
    refine j_iload_n (pc := 0) C d_Txt_at_0 rfl 1 rfl ?_
    refine j_if_lt (pc := 1) (tgt := 25) C d_Txt_at_1 rfl (fun c1 => ?_) (fun c1 => ?_)
    · skip
      refine j_iconst (pc := 25) (v := (-1 : Int32)) C d_Txt_at_25 (by decide) ?_
      exact hR.1 _ _ _ _ d_Txt_at_26 ⟨_, rfl, by first | rfl | decide⟩ (⟨by first | (exfalso; omega) | rw [atI_neg (by assumption)] | rw [atI_big (by assumption)] | rw [atI_in hp (by omega)] | (exfalso; omega), rfl⟩)
    · skip
      refine j_iload_n (pc := 4) C d_Txt_at_4 rfl 1 rfl ?_
      refine j_aload_n (pc := 5) C d_Txt_at_5 rfl 0 rfl ?_
      refine j_get (pc := 6) C F_Txt_15 0 rfl rfl d_Txt_at_6 ?_
      refine j_icmp_ge (pc := 9) (tgt := 25) C d_Txt_at_9 rfl (fun c9 => ?_) (fun c9 => ?_)
      · skip
        refine j_iconst (pc := 25) (v := (-1 : Int32)) C d_Txt_at_25 (by decide) ?_
        exact hR.1 _ _ _ _ d_Txt_at_26 ⟨_, rfl, by first | rfl | decide⟩ (⟨by first | (exfalso; omega) | rw [atI_neg (by assumption)] | rw [atI_big (by assumption)] | rw [atI_in hp (by omega)] | (exfalso; omega), rfl⟩)
      · skip
        first | exact absurd (by assumption) c9 | exact absurd (by assumption) c1
  · skip
    refine j_iload_n (pc := 0) C d_Txt_at_0 rfl 1 rfl ?_
    refine j_if_lt (pc := 1) (tgt := 25) C d_Txt_at_1 rfl (fun c1 => ?_) (fun c1 => ?_)
    · skip
      refine j_iconst (pc := 25) (v := (-1 : Int32)) C d_Txt_at_25 (by decide) ?_
      exact hR.1 _ _ _ _ d_Txt_at_26 ⟨_, rfl, by first | rfl | decide⟩ (⟨by first | (exfalso; omega) | rw [atI_neg (by assumption)] | rw [atI_big (by assumption)] | rw [atI_in hp (by omega)] | (exfalso; omega), rfl⟩)
    · skip
      refine j_iload_n (pc := 4) C d_Txt_at_4 rfl 1 rfl ?_
      refine j_aload_n (pc := 5) C d_Txt_at_5 rfl 0 rfl ?_
      refine j_get (pc := 6) C F_Txt_15 0 rfl rfl d_Txt_at_6 ?_
      refine j_icmp_ge (pc := 9) (tgt := 25) C d_Txt_at_9 rfl (fun c9 => ?_) (fun c9 => ?_)
      · skip
        refine j_iconst (pc := 25) (v := (-1 : Int32)) C d_Txt_at_25 (by decide) ?_
        exact hR.1 _ _ _ _ d_Txt_at_26 ⟨_, rfl, by first | rfl | decide⟩ (⟨by first | (exfalso; omega) | rw [atI_neg (by assumption)] | rw [atI_big (by assumption)] | rw [atI_in hp (by omega)] | (exfalso; omega), rfl⟩)
      · skip
        first | exact absurd (by assumption) c9 | exact absurd (by assumption) c1
  · skip
    refine j_iload_n (pc := 0) C d_Txt_at_0 rfl 1 rfl ?_
    refine j_if_ltN (pc := 1) (tgt := 25) C (by omega) d_Txt_at_1 rfl ?_
    refine j_iload_n (pc := 4) C d_Txt_at_4 rfl 1 rfl ?_
    refine j_aload_n (pc := 5) C d_Txt_at_5 rfl 0 rfl ?_
    refine j_get (pc := 6) C F_Txt_15 0 rfl rfl d_Txt_at_6 ?_
    refine j_icmp_geN (pc := 9) (tgt := 25) C (by omega) (by omega) d_Txt_at_9 rfl (fun c9 => ?_) (fun c9 => ?_)
    · skip
      refine j_iconst (pc := 25) (v := (-1 : Int32)) C d_Txt_at_25 (by decide) ?_
      exact hR.1 _ _ _ _ d_Txt_at_26 ⟨_, rfl, by first | rfl | decide⟩ (⟨by first | (exfalso; omega) | rw [atI_neg (by assumption)] | rw [atI_big (by assumption)] | rw [atI_in hp (by omega)] | (exfalso; omega), rfl⟩)
    · skip
      refine j_aload_n (pc := 12) C d_Txt_at_12 rfl 0 rfl ?_
      refine j_get (pc := 13) C F_Txt_9 0 rfl rfl d_Txt_at_13 ?_
      refine j_iload_n (pc := 16) C d_Txt_at_16 rfl 1 rfl ?_
      refine j_baldN (pc := 17) C 1 0 rfl rfl (by omega) (by omega) d_Txt_at_17 ?_
      refine j_sipush (pc := 18) (v := nI 255) C d_Txt_at_18 (by decide) ?_
      refine j_iand (pc := 21) C d_Txt_at_21 ?_
      refine j_rwi (y := nI (t p)) (sb_and (by first | exact hT _ | omega)) ?_
      refine j_goto (pc := 22) (tgt := 26) C d_Txt_at_22 rfl ?_
      exact hR.1 _ _ _ _ d_Txt_at_26 ⟨_, rfl, by first | rfl | decide⟩ (⟨by first | (exfalso; omega) | rw [atI_neg (by assumption)] | rw [atI_big (by assumption)] | rw [atI_in hp (by omega)] | (exfalso; omega), rfl⟩)
abbrev rm_Txt_lowFirst : Room := { frames := 0, cells := 0, slots := 0, locals := 0 }
set_option maxHeartbeats 4000000 in
set_option maxRecDepth 100000 in
theorem lp_Txt_lf {g : JX} {κ : JK} {h hb n p k1 : Nat} {t : Nat → Nat} (hn : n ≤ 2000) (hT : ∀ j, t j < 256) (hp : p + k1 ≤ n) (hk1 : k1 ≤ 8) (C : j_C g κ b_Txt_lowFirst R_Txt rm_Txt_lowFirst 6) (hR : j_R g κ b_Txt_lowFirst (some .long) (fun r w => r = some (.long (lN (lf t p k1))) ∧ w = [(h, .inr (3, [.ref hb, .int (nI n)])), (hb, .inl (aB g, 2000, .inl (bf t)))]) 0 0) : ∀ (k : Nat) (r : Nat), r ≤ k1 → r + 1 ≤ k → j_V g κ 0 0 29 [(0, .ref h), (1, .int (nI p)), (2, .int (nI k1)), (3, .long (lN (lf t (p + r) (k1 - r)))), (5, .int (dn r))] [] ([(h, .inr (3, [.ref hb, .int (nI n)])), (hb, .inl (aB g, 2000, .inl (bf t)))]) := by
  intro k
  induction k with
  | zero =>
    intro r hr hk
    exfalso; omega
  | succ k ih =>
    intro r hr hk
    cases r with
    | zero =>
      show j_V g κ 0 0 29 [(0, .ref h), (1, .int (nI p)), (2, .int (nI k1)), (3, .long (lN (lf t (p + 0) (k1 - 0)))), (5, .int (-1 : Int32))] [] ([(h, .inr (3, [.ref hb, .int (nI n)])), (hb, .inl (aB g, 2000, .inl (bf t)))])
      refine j_iload (pc := 29) C d_Txt_lowFirst_29 4 rfl ?_
      refine j_ifdn_lt (pc := 31) (tgt := 60) C d_Txt_lowFirst_31 rfl ?_
      refine j_lload_n (pc := 60) C d_Txt_lowFirst_60 rfl 3 rfl ?_
      exact hR.2.1 _ _ _ _ d_Txt_lowFirst_61 rfl (⟨rfl, rfl⟩)
    | succ r =>
      show j_V g κ 0 0 29 [(0, .ref h), (1, .int (nI p)), (2, .int (nI k1)), (3, .long (lN (lf t (p + (r + 1)) (k1 - (r + 1))))), (5, .int (nI r))] [] ([(h, .inr (3, [.ref hb, .int (nI n)])), (hb, .inl (aB g, 2000, .inl (bf t)))])
      refine j_iload (pc := 29) C d_Txt_lowFirst_29 4 rfl ?_
      refine j_if_ltN (pc := 31) (tgt := 60) C (by omega) d_Txt_lowFirst_31 rfl ?_
      refine j_lload_n (pc := 34) C d_Txt_lowFirst_34 rfl 3 rfl ?_
      refine j_bipush (pc := 35) (v := nI 8) C d_Txt_lowFirst_35 (by decide) ?_
      refine j_lshl (pc := 37) (v := (lN (lf t (p + (r + 1)) (k1 - (r + 1)))) <<< ((nI 8).toInt64 &&& 63)) C d_Txt_lowFirst_37 rfl ?_
      refine j_aload_n (pc := 38) C d_Txt_lowFirst_38 rfl 0 rfl ?_
      refine j_get (pc := 39) C F_Txt_9 0 rfl rfl d_Txt_lowFirst_39 ?_
      refine j_iload_n (pc := 42) C d_Txt_lowFirst_42 rfl 1 rfl ?_
      refine j_iload (pc := 43) C d_Txt_lowFirst_43 4 rfl ?_
      refine j_iaddN (pc := 45) C d_Txt_lowFirst_45 ?_
      refine j_baldN (pc := 46) C 1 0 rfl rfl (by omega) (by omega) d_Txt_lowFirst_46 ?_
      refine j_sipush (pc := 47) (v := nI 255) C d_Txt_lowFirst_47 (by decide) ?_
      refine j_iand (pc := 50) C d_Txt_lowFirst_50 ?_
      refine j_rwi (y := nI (t (p + r))) (sb_and (by first | exact hT _ | omega)) ?_
      refine j_i2l (pc := 51) (v := lN (t (p + r))) C d_Txt_lowFirst_51 (nI_l (by have h9 := hT (p + r); omega)) ?_
      refine j_lor (pc := 52) C d_Txt_lowFirst_52 ?_
      refine j_rwl (y := lN (lf t (p + r) (k1 - r))) (lf_push hT (by omega) (by omega)) ?_
      refine j_lstore_n (pc := 53) (lv' := [(3, .long (lN (lf t (p + r) (k1 - r)))), (0, .ref h), (1, .int (nI p)), (2, .int (nI k1)), (5, .int (nI r))]) C d_Txt_lowFirst_53 rfl (by decide) rfl ?_
      refine j_iinc (pc := 54) (k := 4) (v := dn r) (lv' := [(5, .int (dn r)), (3, .long (lN (lf t (p + r) (k1 - r)))), (0, .ref h), (1, .int (nI p)), (2, .int (nI k1))]) C d_Txt_lowFirst_54 rfl (dn_dec r) (by decide) rfl ?_
      refine j_goto (pc := 57) (tgt := 29) C d_Txt_lowFirst_57 rfl ?_
      refine j_lv (lv' := [(0, .ref h), (1, .int (nI p)), (2, .int (nI k1)), (3, .long (lN (lf t (p + r) (k1 - r)))), (5, .int (dn r))]) [2, 3, 4, 1, 0] rfl ?_
      exact ih r (by omega) (by omega)
set_option maxHeartbeats 4000000 in
set_option maxRecDepth 100000 in
theorem c_Txt_lowFirst (l : Launch) (g : JX) (h hb n p k1 : Nat) (t : Nat → Nat) (hn : n ≤ 2000) (hT : ∀ j, t j < 256) (hp : p + k1 ≤ n) (hk1 : k1 ≤ 8) : j_Ct l y_Txt_lowFirst b_Txt_lowFirst 6 (some .long) rm_Txt_lowFirst g ([(h, .inr (3, [.ref hb, .int (nI n)])), (hb, .inl (aB g, 2000, .inl (bf t)))]) [.ref h, .int (nI p), .int (nI k1)] (fun r w => r = some (.long (lN (lf t p k1))) ∧ w = [(h, .inr (3, [.ref hb, .int (nI n)])), (hb, .inl (aB g, 2000, .inl (bf t)))]) 0 0 := by
  refine j_ct (by decide) (Nat.le_of_ble_eq_true rfl) (fun κ hkl C hR hI => ?_)
  show j_V g κ 0 0 0 [(0, .ref h), (1, .int (nI p)), (2, .int (nI k1))] [] ([(h, .inr (3, [.ref hb, .int (nI n)])), (hb, .inl (aB g, 2000, .inl (bf t)))])
  refine j_iload_n (pc := 0) C d_Txt_lowFirst_0 rfl 1 rfl ?_
  refine j_if_ltN (pc := 1) (tgt := 18) C (by omega) d_Txt_lowFirst_1 rfl ?_
  refine j_iload_n (pc := 4) C d_Txt_lowFirst_4 rfl 2 rfl ?_
  refine j_if_ltN (pc := 5) (tgt := 18) C (by omega) d_Txt_lowFirst_5 rfl ?_
  refine j_iload_n (pc := 8) C d_Txt_lowFirst_8 rfl 1 rfl ?_
  refine j_aload_n (pc := 9) C d_Txt_lowFirst_9 rfl 0 rfl ?_
  refine j_get (pc := 10) C F_Txt_15 0 rfl rfl d_Txt_lowFirst_10 ?_
  refine j_iload_n (pc := 13) C d_Txt_lowFirst_13 rfl 2 rfl ?_
  refine j_isubN (pc := 14) C (by omega) d_Txt_lowFirst_14 ?_
  refine j_icmp_leN (pc := 15) (tgt := 22) C (by omega) (by omega) d_Txt_lowFirst_15 rfl (fun c15 => ?_) (fun c15 => ?_)
  · skip
    refine j_lconst (pc := 22) (v := 0) C d_Txt_lowFirst_22 (by decide) ?_
    refine j_lstore_n (pc := 23) (lv' := [(3, .long (0 : Int64)), (0, .ref h), (1, .int (nI p)), (2, .int (nI k1))]) C d_Txt_lowFirst_23 rfl (by decide) rfl ?_
    refine j_iload_n (pc := 24) C d_Txt_lowFirst_24 rfl 3 rfl ?_
    refine j_iconst (pc := 25) (v := nI 1) C d_Txt_lowFirst_25 (by decide) ?_
    refine j_isub (pc := 26) C d_Txt_lowFirst_26 ?_
    refine j_rwi (y := dn k1) (dn_sub _) ?_
    refine j_istore (pc := 27) (lv' := [(5, .int (dn k1)), (3, .long (0 : Int64)), (0, .ref h), (1, .int (nI p)), (2, .int (nI k1))]) C d_Txt_lowFirst_27 (by decide) rfl ?_
    refine j_lv (lv' := [(0, .ref h), (1, .int (nI p)), (2, .int (nI k1)), (3, .long (0 : Int64)), (5, .int (dn k1))]) [2, 3, 4, 1, 0] rfl ?_
    have e := lp_Txt_lf (h := h) (hb := hb) (n := n) (p := p) (k1 := k1) (t := t) hn hT hp hk1 C hR (k1 + 1) k1 (by omega) (by omega)
    rw [Nat.sub_self] at e
    exact e
  · skip
    exfalso; omega
abbrev rm_Txt_init : Room := { frames := 1, cells := 1, slots := 2000, locals := 20 }
set_option maxHeartbeats 4000000 in
set_option maxRecDepth 100000 in
theorem c_Txt_init (l : Launch) (g : JX) (h : Nat)  : j_Ct l y_Txt_init b_Txt_init 1 none rm_Txt_init g ([(h, .inr (3, [.null, .int (0 : Int32)]))]) [.ref h] (fun r w => ∃ hb : Nat, r = none ∧ w = [(h, .inr (3, [.ref hb, .int (nI 0)])), (hb, .inl (aB g, 2000, .inl (bf (fun _ => 0))))]) 1 2000 := by
  refine j_ct (by decide) (Nat.le_of_ble_eq_true rfl) (fun κ hkl C hR hI => ?_)
  show j_V g κ 0 0 0 [(0, .ref h)] [] ([(h, .inr (3, [.null, .int (0 : Int32)]))])
  refine j_aload_n (pc := 0) C d_Txt_init_0 rfl 0 rfl ?_
  refine j_objInit (pc := 1) C oi_Txt_3 oi_i oi_c (by decide) (Nat.le_of_ble_eq_true rfl) d_Txt_init_1 ?_
  refine j_aload_n (pc := 4) C d_Txt_init_4 rfl 0 rfl ?_
  refine j_sipush (pc := 5) (v := nI 2000) C d_Txt_init_5 (by decide) ?_
  refine j_newa (pc := 8) (atype := .byte) (a0 := (2000, .inl (bf (fun _ => 0)))) C ac_byte rfl (by intro c h; cases h) 0 rfl (fun _ => rfl) (by decide) (by decide) (by decide) (by decide) (by decide) d_Txt_init_8 (fun hb => ?_)
  show j_V g κ 1 2000 10 [(0, .ref h)] [.ref hb, .ref h] ([(h, .inr (3, [.null, .int (0 : Int32)])), (hb, .inl (aB g, 2000, .inl (bf (fun _ => 0))))])
  refine j_putF (pc := 10) (ws' := [(h, .inr (3, [.ref hb, .int (0 : Int32)])), (hb, .inl (aB g, 2000, .inl (bf (fun _ => 0))))]) C hI Fp_Txt_9 0 rfl rfl (by first | rfl | decide) (Nat.le_of_ble_eq_true rfl) rfl d_Txt_init_10 ?_
  refine j_aload_n (pc := 13) C d_Txt_init_13 rfl 0 rfl ?_
  refine j_iconst (pc := 14) (v := nI 0) C d_Txt_init_14 (by decide) ?_
  refine j_put (pc := 15) (ws' := [(h, .inr (3, [.ref hb, .int (nI 0)])), (hb, .inl (aB g, 2000, .inl (bf (fun _ => 0))))]) C Fp_Txt_15 0 rfl rfl (by first | rfl | decide) (Nat.le_of_ble_eq_true rfl) rfl d_Txt_init_15 ?_
  exact hR.2.2 _ _ _ d_Txt_init_18 rfl (⟨hb, rfl, rfl⟩)
end
section
/-! reading, as a function: a reader is at a place, or has a fault (which, where) -/
abbrev RS : Type := Nat ⊕ (Nat × Nat)
def rN (s : RS) (q : Int32) : Int32 := match s with
  | .inl p => nI p
  | .inr _ => q
def rF (s : RS) : Nat := match s with
  | .inl _ => 0
  | .inr e => e.1
def rP (s : RS) : Int32 := match s with
  | .inl _ => -1
  | .inr e => nI e.2
def pos (s : RS) : Nat := match s with
  | .inl p => p
  | .inr _ => 0
def ROk (n : Nat) (s : RS) : Prop := match s with
  | .inl p => p ≤ n
  | .inr e => 0 < e.1 ∧ e.1 < 5 ∧ e.2 ≤ n
def rPass (n k : Nat) (s : RS) : RS := match s with
  | .inl p => if p + k ≤ n then .inl (p + k) else .inr (1, n)
  | .inr e => .inr e
theorem rPass_ok {n k p : Nat} (h : p + k ≤ n) : rPass n k (.inl p) = .inl (p + k) := if_pos h
theorem rPass_no {n k p : Nat} (h : n < p + k) : rPass n k (.inl p) = .inr (1, n) := if_neg (by omega)
theorem rPass_R {n k : Nat} {s : RS} (h : ROk n s) : ROk n (rPass n k s) := by
  rcases s with p | ⟨f, w⟩
  · by_cases q : p + k ≤ n
    · rw [rPass_ok q]; exact q
    · rw [rPass_no (by omega)]; exact ⟨Nat.le_of_ble_eq_true rfl, Nat.le_of_ble_eq_true rfl, Nat.le_refl _⟩
  · exact h
/-- how many bytes follow a size's first byte -/
def wOf (m : Nat) : Nat := if m = 253 then 2 else if m = 254 then 4 else if m = 255 then 8 else 0
theorem wOf_le (m : Nat) : wOf m ≤ 8 := by unfold wOf; split <;> (try split) <;> (try split) <;> decide
theorem wOf_0 {m : Nat} (h : m < 256) : wOf m = 0 ↔ m < 253 := by
  unfold wOf; split <;> (try split) <;> (try split) <;> omega
/-- how many follow the shortest size of v -/
def wFit (v : Nat) : Nat := if v < 253 then 0 else if v < 65536 then 2 else if v < 4294967296 then 4 else 8
theorem wFit_le (v : Nat) : wFit v ≤ 8 := by unfold wFit; split <;> (try split) <;> (try split) <;> decide
def szV (t : Nat → Nat) (p : Nat) : Nat := if wOf (t p) = 0 then t p else lf t (p + 1) (wOf (t p))
def rSize (t : Nat → Nat) (n most : Nat) (s : RS) : Nat × RS := match s with
  | .inl p => if n < p + 1 + wOf (t p) ∨ n < p + 1 then (0, .inr (1, n)) else if wFit (szV t p) < wOf (t p) then (0, .inr (2, p)) else if most < szV t p then (0, .inr (3, p)) else (szV t p, .inl (p + 1 + wOf (t p)))
  | .inr e => (0, .inr e)
theorem rSize_1 {t : Nat → Nat} {n most p : Nat} (h : n < p + 1 + wOf (t p) ∨ n < p + 1) : rSize t n most (.inl p) = (0, .inr (1, n)) := if_pos h
theorem rSize_2 {t : Nat → Nat} {n most p : Nat} (h : p + 1 + wOf (t p) ≤ n) (h2 : wFit (szV t p) < wOf (t p)) : rSize t n most (.inl p) = (0, .inr (2, p)) := by
  show ite _ _ _ = _
  rw [if_neg (by omega), if_pos h2]
theorem rSize_3 {t : Nat → Nat} {n most p : Nat} (h : p + 1 + wOf (t p) ≤ n) (h2 : wOf (t p) ≤ wFit (szV t p)) (h3 : most < szV t p) : rSize t n most (.inl p) = (0, .inr (3, p)) := by
  show ite _ _ _ = _
  rw [if_neg (by omega), if_neg (by omega), if_pos h3]
theorem rSize_ok {t : Nat → Nat} {n most p : Nat} (h : p + 1 + wOf (t p) ≤ n) (h2 : wOf (t p) ≤ wFit (szV t p)) (h3 : szV t p ≤ most) : rSize t n most (.inl p) = (szV t p, .inl (p + 1 + wOf (t p))) := by
  show ite _ _ _ = _
  rw [if_neg (by omega), if_neg (by omega), if_neg (by omega)]
theorem rSize_R {t : Nat → Nat} {n most : Nat} {s : RS} (h : ROk n s) : ROk n (rSize t n most s).2 := by
  rcases s with p | ⟨f, w⟩
  · have hp : p ≤ n := h
    unfold rSize
    simp only
    split
    · exact ⟨Nat.le_of_ble_eq_true rfl, Nat.le_of_ble_eq_true rfl, Nat.le_refl _⟩
    · split
      · exact ⟨Nat.le_of_ble_eq_true rfl, Nat.le_of_ble_eq_true rfl, hp⟩
      · split
        · exact ⟨Nat.le_of_ble_eq_true rfl, Nat.le_of_ble_eq_true rfl, hp⟩
        · show p + 1 + wOf (t p) ≤ n
          omega
  · exact h
theorem rSize_le {t : Nat → Nat} {n most : Nat} {s : RS} : (rSize t n most s).1 ≤ most := by
  rcases s with p | ⟨f, w⟩
  · unfold rSize
    simp only
    split
    · exact Nat.zero_le _
    · split
      · exact Nat.zero_le _
      · split
        · exact Nat.zero_le _
        · show szV t p ≤ most
          omega
  · exact Nat.zero_le _
theorem szV_lt {t : Nat → Nat} (hT : ∀ j, t j < 256) (p : Nat) : szV t p < 2 ^ 64 := by
  unfold szV
  split
  · have := hT p; omega
  · have h1 := lf_lt hT (wOf (t p)) (p + 1)
    have h2 : 256 ^ (wOf (t p)) ≤ 256 ^ 8 := Nat.pow_le_pow_right (by decide) (wOf_le _)
    exact Nat.lt_of_lt_of_le h1 (Nat.le_trans h2 (by decide))
/-- longs against bounds -/
theorem z_neg {V : Nat} (hV : V < 2 ^ 64) : lN V < 0 ↔ 2 ^ 63 ≤ V := by
  rw [Int64.lt_iff_toInt_lt]
  have e : (lN V).toInt = if V < 2 ^ 63 then (V : Int) else (V : Int) - 2 ^ 64 := by
    show (BitVec.ofNat 64 V).toInt = _
    rw [BitVec.toInt_eq_toNat_cond, BitVec.toNat_ofNat, Nat.mod_eq_of_lt hV]
    split <;> split <;> omega
  have z : (0 : Int64).toInt = 0 := rfl
  rw [e, z]
  split <;> omega
theorem z_lt {V W : Nat} (hV : V < 2 ^ 63) (hW : W < 2 ^ 63) : lN V < lN W ↔ V < W := pk_lLT hV hW
theorem lg_lt0 (x y : Int64) : lg_cmp x y < 0 ↔ x < y := by
  unfold lg_cmp
  rcases lg_tri x y with h | h | h
  · rw [if_neg (lg_lt_not h), if_neg (lg_lt_ne h)]; exact ⟨fun _ => h, fun _ => by decide⟩
  · subst h
    have : ¬ x < x := fun q => lg_lt_not q q
    rw [if_neg this, if_pos rfl]; exact ⟨fun q => absurd q (by decide), fun q => absurd q this⟩
  · rw [if_pos h]; exact ⟨fun q => absurd q (by decide), fun q => absurd q (lg_lt_not h)⟩
theorem lg_gt0 (x y : Int64) : lg_cmp x y ≤ 0 ↔ ¬ y < x := by
  unfold lg_cmp
  rcases lg_tri x y with h | h | h
  · rw [if_neg (lg_lt_not h), if_neg (lg_lt_ne h)]; exact ⟨fun _ => lg_lt_not h, fun _ => by decide⟩
  · subst h
    have : ¬ x < x := fun q => lg_lt_not q q
    rw [if_neg this, if_pos rfl]; exact ⟨fun _ => this, fun _ => by decide⟩
  · rw [if_pos h]; exact ⟨fun q => absurd q (by decide), fun q => absurd h q⟩
theorem z_1 {V m : Nat} (hV : V < 2 ^ 64) (hm : m < 2 ^ 31) (h : lg_cmp (lN V) 0 < 0) : m < V := by
  have := (z_neg hV).mp ((lg_lt0 _ _).mp h); omega
theorem z_2 {V : Nat} (hV : V < 2 ^ 64) (h : ¬ lg_cmp (lN V) 0 < 0) : V < 2 ^ 63 := Nat.lt_of_not_le fun q => h ((lg_lt0 _ _).mpr ((z_neg hV).mpr q))
theorem z_3 {V m : Nat} (hV : V < 2 ^ 63) (hm : m < 2 ^ 31) (h : lg_cmp (lN V) (lN m) ≤ 0) : V ≤ m := Nat.le_of_not_lt fun q => (lg_gt0 _ _).mp h ((z_lt (by omega) hV).mpr q)
theorem z_4 {V m : Nat} (hV : V < 2 ^ 63) (hm : m < 2 ^ 31) (h : ¬ lg_cmp (lN V) (lN m) ≤ 0) : m < V := Nat.lt_of_not_le fun q => h ((lg_gt0 _ _).mpr fun z => by have := (z_lt (by omega) hV).mp z; omega)
theorem j_Ct.mono {l : Launch} {y : MethodName} {cc : ByteArray} {nL : Nat} {ret : Option FieldType} {rm : Room} {g : JX} {wc : va_W} {av : List Value} {O O' : Option Value → va_W → Prop} {mc ms : Nat} (h : j_Ct l y cc nL ret rm g wc av O mc ms) (hO : ∀ r w, O r w → O' r w) : j_Ct l y cc nL ret rm g wc av O' mc ms := by
  have e : O = fun r w => O r w := rfl
  intro sz p e ha hc hk s m args below hf hfit hP hK
  obtain ⟨t, o, h1, h2, h3, ⟨⟨⟨r, w, q1, q2, q3⟩, q4⟩, q5⟩⟩ := h sz p e ha hc hk s m args below hf hfit hP hK
  exact ⟨t, o, h1, h2, h3, ⟨⟨⟨r, w, q1, hO r w q2, q3⟩, q4⟩, q5⟩⟩
end
section
abbrev rm_Dsk_widthOfMark : Room := { frames := 0, cells := 0, slots := 0, locals := 0 }
set_option maxHeartbeats 4000000 in
set_option maxRecDepth 100000 in
theorem c_Dsk_widthOfMark (l : Launch) (g : JX) (m : Nat) (hm : m < 256) : j_Ct l y_Dsk_widthOfMark b_Dsk_widthOfMark 1 (some .int) rm_Dsk_widthOfMark g ([]) [.int (nI m)] (fun r w => r = some (.int (nI (wOf m))) ∧ w = []) 0 0 := by
  refine j_ct (by decide) (Nat.le_of_ble_eq_true rfl) (fun κ hkl C hR hI => ?_)
  show j_V g κ 0 0 0 [(0, .int (nI m))] [] ([])
  by_cases h3 : m = 253
  · subst h3
    show j_V g κ 0 0 0 [(0, .int (nI 253))] [] ([])
    refine j_iload_n (pc := 0) C d_Dsk_widthOfMark_0 rfl 0 rfl ?_
    refine j_tableIn (pc := 1) (tgt := 28) C d_Dsk_widthOfMark_1 (by decide) (by decide) rfl (by decide) ?_
    refine j_iconst (pc := 28) (v := nI 2) C d_Dsk_widthOfMark_28 (by decide) ?_
    exact hR.1 _ _ _ _ d_Dsk_widthOfMark_29 ⟨_, rfl, by first | rfl | decide⟩ (⟨by first | rfl | (unfold wOf; rw [if_neg h3, if_neg h4, if_neg h5]), rfl⟩)
  by_cases h4 : m = 254
  · subst h4
    show j_V g κ 0 0 0 [(0, .int (nI 254))] [] ([])
    refine j_iload_n (pc := 0) C d_Dsk_widthOfMark_0 rfl 0 rfl ?_
    refine j_tableIn (pc := 1) (tgt := 30) C d_Dsk_widthOfMark_1 (by decide) (by decide) rfl (by decide) ?_
    refine j_iconst (pc := 30) (v := nI 4) C d_Dsk_widthOfMark_30 (by decide) ?_
    exact hR.1 _ _ _ _ d_Dsk_widthOfMark_31 ⟨_, rfl, by first | rfl | decide⟩ (⟨by first | rfl | (unfold wOf; rw [if_neg h3, if_neg h4, if_neg h5]), rfl⟩)
  by_cases h5 : m = 255
  · subst h5
    show j_V g κ 0 0 0 [(0, .int (nI 255))] [] ([])
    refine j_iload_n (pc := 0) C d_Dsk_widthOfMark_0 rfl 0 rfl ?_
    refine j_tableIn (pc := 1) (tgt := 32) C d_Dsk_widthOfMark_1 (by decide) (by decide) rfl (by decide) ?_
    refine j_bipush (pc := 32) (v := nI 8) C d_Dsk_widthOfMark_32 (by decide) ?_
    exact hR.1 _ _ _ _ d_Dsk_widthOfMark_34 ⟨_, rfl, by first | rfl | decide⟩ (⟨by first | rfl | (unfold wOf; rw [if_neg h3, if_neg h4, if_neg h5]), rfl⟩)
  show j_V g κ 0 0 0 [(0, .int (nI m))] [] ([])
  refine j_iload_n (pc := 0) C d_Dsk_widthOfMark_0 rfl 0 rfl ?_
  refine j_tableOut (pc := 1) (tgt := 35) C d_Dsk_widthOfMark_1 (by rw [nI_toInt (by omega)]; omega) (by decide) ?_
  refine j_iconst (pc := 35) (v := nI 0) C d_Dsk_widthOfMark_35 (by decide) ?_
  exact hR.1 _ _ _ _ d_Dsk_widthOfMark_36 ⟨_, rfl, by first | rfl | decide⟩ (⟨by first | rfl | (unfold wOf; rw [if_neg h3, if_neg h4, if_neg h5]), rfl⟩)
theorem lg_ne (x y : Int64) : lg_cmp x y = 0 ↔ x = y := by
  unfold lg_cmp
  rcases lg_tri x y with h | h | h
  · rw [if_neg (lg_lt_not h), if_neg (lg_lt_ne h)]; exact ⟨fun q => absurd q (by decide), fun q => absurd q (lg_lt_ne h)⟩
  · subst h
    have : ¬ x < x := fun q => lg_lt_not q q
    rw [if_neg this, if_pos rfl]; exact ⟨fun _ => rfl, fun _ => rfl⟩
  · rw [if_pos h]; exact ⟨fun q => absurd q (by decide), fun q => absurd q.symm (lg_lt_ne h)⟩
theorem lg_lN0 {a : Nat} (ha : a < 2 ^ 63) : lg_cmp (lN a) 0 = 0 ↔ a = 0 := by
  rw [lg_ne]
  exact pk_lEQ (b := 0) ha (by decide)
theorem wF_8 {V : Nat} (h : ¬ V / 2 ^ 32 = 0) : wFit V = 8 := by unfold wFit; rw [if_neg (by omega), if_neg (by omega), if_neg (by omega)]
theorem wF_4 {V : Nat} (h : V / 2 ^ 32 = 0) (h2 : ¬ V / 2 ^ 16 = 0) : wFit V = 4 := by unfold wFit; rw [if_neg (by omega), if_neg (by omega), if_pos (by omega)]
theorem wF_0 {V : Nat} (h : V < 253) : wFit V = 0 := if_pos h
theorem wF_2 {V : Nat} (h : V / 2 ^ 16 = 0) (h2 : ¬ V < 253) : wFit V = 2 := by unfold wFit; rw [if_neg h2, if_pos (by omega)]
theorem lg_ge (x y : Int64) : 0 ≤ lg_cmp x y ↔ ¬ x < y := by
  rw [← lg_lt0 x y]
  have e : ∀ z : Int32, 0 ≤ z ↔ ¬ z < 0 := fun z => by rw [Int32.le_iff_toInt_le, Int32.lt_iff_toInt_lt, Int32.toInt_zero]; omega
  exact e _
theorem wz_1 {V : Nat} (h : V < 2 ^ 63) (c : ¬ 0 ≤ lg_cmp (lN V) 253) : V < 253 := by
  rw [lg_ge] at c
  exact (z_lt (W := 253) h (by decide)).mp (Classical.not_not.mp c)
theorem wz_2 {V : Nat} (h : V < 2 ^ 63) (c : 0 ≤ lg_cmp (lN V) 253) : ¬ V < 253 := by
  rw [lg_ge] at c
  exact fun q => c ((z_lt (W := 253) h (by decide)).mpr q)
abbrev rm_Dsk_widthOfSize : Room := { frames := 0, cells := 0, slots := 0, locals := 0 }
set_option maxHeartbeats 4000000 in
set_option maxRecDepth 100000 in
theorem c_Dsk_widthOfSize (l : Launch) (g : JX) (V : Nat) (hV : V < 2 ^ 64) : j_Ct l y_Dsk_widthOfSize b_Dsk_widthOfSize 2 (some .int) rm_Dsk_widthOfSize g ([]) [.long (lN V)] (fun r w => r = some (.int (nI (wFit V))) ∧ w = []) 0 0 := by
  refine j_ct (by decide) (Nat.le_of_ble_eq_true rfl) (fun κ hkl C hR hI => ?_)
  show j_V g κ 0 0 0 [(0, .long (lN V))] [] ([])
  refine j_lload_n (pc := 0) C d_Dsk_widthOfSize_0 rfl 0 rfl ?_
  refine j_bipush (pc := 1) (v := nI 32) C d_Dsk_widthOfSize_1 (by decide) ?_
  refine j_lushr (pc := 3) (v := ((lN V).toUInt64 >>> ((nI 32).toInt64.toUInt64 &&& Int64.toUInt64 63)).toInt64) C d_Dsk_widthOfSize_3 rfl ?_
  refine j_rwl (y := lN (V / 2 ^ 32)) (wb_shr hV (by decide)) ?_
  refine j_lconst (pc := 4) (v := 0) C d_Dsk_widthOfSize_4 (by decide) ?_
  refine j_lcmp (pc := 5) C d_Dsk_widthOfSize_5 ?_
  refine j_if_eq (pc := 6) (tgt := 12) C d_Dsk_widthOfSize_6 rfl (fun c6 => ?_) (fun c6 => ?_)
  · skip
    have e6 : V / 2 ^ 32 = 0 := (lg_lN0 (by omega)).mp c6
    refine j_lload_n (pc := 12) C d_Dsk_widthOfSize_12 rfl 0 rfl ?_
    refine j_bipush (pc := 13) (v := nI 16) C d_Dsk_widthOfSize_13 (by decide) ?_
    refine j_lushr (pc := 15) (v := ((lN V).toUInt64 >>> ((nI 16).toInt64.toUInt64 &&& Int64.toUInt64 63)).toInt64) C d_Dsk_widthOfSize_15 rfl ?_
    refine j_rwl (y := lN (V / 2 ^ 16)) (wb_shr hV (by decide)) ?_
    refine j_lconst (pc := 16) (v := 0) C d_Dsk_widthOfSize_16 (by decide) ?_
    refine j_lcmp (pc := 17) C d_Dsk_widthOfSize_17 ?_
    refine j_if_eq (pc := 18) (tgt := 23) C d_Dsk_widthOfSize_18 rfl (fun c18 => ?_) (fun c18 => ?_)
    · skip
      have e18 : V / 2 ^ 16 = 0 := (lg_lN0 (by omega)).mp c18
      refine j_lload_n (pc := 23) C d_Dsk_widthOfSize_23 rfl 0 rfl ?_
      refine j_ldc2 (pc := 24) C k_Dsk_179 d_Dsk_widthOfSize_24 ?_
      refine j_lcmp (pc := 27) C d_Dsk_widthOfSize_27 ?_
      refine j_if_ge (pc := 28) (tgt := 35) C d_Dsk_widthOfSize_28 rfl (fun c28 => ?_) (fun c28 => ?_)
      · skip
        refine j_iconst (pc := 35) (v := nI 2) C d_Dsk_widthOfSize_35 (by decide) ?_
        exact hR.1 _ _ _ _ d_Dsk_widthOfSize_36 ⟨_, rfl, by first | rfl | decide⟩ (⟨by first | rw [wF_8 e6] | rw [wF_4 e6 e18] | rw [wF_0 (wz_1 (by omega) c28)] | rw [wF_2 e18 (wz_2 (by omega) c28)], rfl⟩)
      · skip
        refine j_iconst (pc := 31) (v := nI 0) C d_Dsk_widthOfSize_31 (by decide) ?_
        refine j_goto (pc := 32) (tgt := 36) C d_Dsk_widthOfSize_32 rfl ?_
        exact hR.1 _ _ _ _ d_Dsk_widthOfSize_36 ⟨_, rfl, by first | rfl | decide⟩ (⟨by first | rw [wF_8 e6] | rw [wF_4 e6 e18] | rw [wF_0 (wz_1 (by omega) c28)] | rw [wF_2 e18 (wz_2 (by omega) c28)], rfl⟩)
    · skip
      have e18 : ¬ V / 2 ^ 16 = 0 := fun q => c18 ((lg_lN0 (by omega)).mpr q)
      refine j_iconst (pc := 21) (v := nI 4) C d_Dsk_widthOfSize_21 (by decide) ?_
      exact hR.1 _ _ _ _ d_Dsk_widthOfSize_22 ⟨_, rfl, by first | rfl | decide⟩ (⟨by first | rw [wF_8 e6] | rw [wF_4 e6 e18] | rw [wF_0 (wz_1 (by omega) c28)] | rw [wF_2 e18 (wz_2 (by omega) c28)], rfl⟩)
  · skip
    have e6 : ¬ V / 2 ^ 32 = 0 := fun q => c6 ((lg_lN0 (by omega)).mpr q)
    refine j_bipush (pc := 9) (v := nI 8) C d_Dsk_widthOfSize_9 (by decide) ?_
    exact hR.1 _ _ _ _ d_Dsk_widthOfSize_11 ⟨_, rfl, by first | rfl | decide⟩ (⟨by first | rw [wF_8 e6] | rw [wF_4 e6 e18] | rw [wF_0 (wz_1 (by omega) c28)] | rw [wF_2 e18 (wz_2 (by omega) c28)], rfl⟩)
abbrev rm_Dsk_markOfWidth : Room := { frames := 0, cells := 0, slots := 0, locals := 0 }
set_option maxHeartbeats 4000000 in
set_option maxRecDepth 100000 in
theorem c_Dsk_markOfWidth (l : Launch) (g : JX) (w0 : Nat) (hw : w0 = 2 ∨ w0 = 4 ∨ w0 = 8) : j_Ct l y_Dsk_markOfWidth b_Dsk_markOfWidth 1 (some .int) rm_Dsk_markOfWidth g ([]) [.int (nI w0)] (fun r w => r = some (.int (nI (if w0 = 8 then 255 else if w0 = 4 then 254 else 253))) ∧ w = []) 0 0 := by
  refine j_ct (by decide) (Nat.le_of_ble_eq_true rfl) (fun κ hkl C hR hI => ?_)
  show j_V g κ 0 0 0 [(0, .int (nI w0))] [] ([])
  refine j_iload_n (pc := 0) C d_Dsk_markOfWidth_0 rfl 0 rfl ?_
  refine j_bipush (pc := 1) (v := nI 8) C d_Dsk_markOfWidth_1 (by decide) ?_
  refine j_icmp_neN (pc := 3) (tgt := 10) C (by omega) (by omega) d_Dsk_markOfWidth_3 rfl (fun c3 => ?_) (fun c3 => ?_)
  · skip
    refine j_iload_n (pc := 10) C d_Dsk_markOfWidth_10 rfl 0 rfl ?_
    refine j_iconst (pc := 11) (v := nI 4) C d_Dsk_markOfWidth_11 (by decide) ?_
    refine j_icmp_neN (pc := 12) (tgt := 21) C (by omega) (by omega) d_Dsk_markOfWidth_12 rfl (fun c12 => ?_) (fun c12 => ?_)
    · skip
      refine j_sipush (pc := 21) (v := nI 253) C d_Dsk_markOfWidth_21 (by decide) ?_
      exact hR.1 _ _ _ _ d_Dsk_markOfWidth_24 ⟨_, rfl, by first | rfl | decide⟩ (⟨by first | rw [if_pos (by omega)] | rw [if_neg (by omega), if_pos (by omega)] | rw [if_neg (by omega), if_neg (by omega)], rfl⟩)
    · skip
      refine j_sipush (pc := 15) (v := nI 254) C d_Dsk_markOfWidth_15 (by decide) ?_
      refine j_goto (pc := 18) (tgt := 24) C d_Dsk_markOfWidth_18 rfl ?_
      exact hR.1 _ _ _ _ d_Dsk_markOfWidth_24 ⟨_, rfl, by first | rfl | decide⟩ (⟨by first | rw [if_pos (by omega)] | rw [if_neg (by omega), if_pos (by omega)] | rw [if_neg (by omega), if_neg (by omega)], rfl⟩)
  · skip
    refine j_sipush (pc := 6) (v := nI 255) C d_Dsk_markOfWidth_6 (by decide) ?_
    exact hR.1 _ _ _ _ d_Dsk_markOfWidth_9 ⟨_, rfl, by first | rfl | decide⟩ (⟨by first | rw [if_pos (by omega)] | rw [if_neg (by omega), if_pos (by omega)] | rw [if_neg (by omega), if_neg (by omega)], rfl⟩)
abbrev rm_Rea_fail : Room := { frames := 0, cells := 0, slots := 0, locals := 0 }
set_option maxHeartbeats 4000000 in
set_option maxRecDepth 100000 in
theorem c_Rea_fail (l : Launch) (g : JX) (r0 th : Nat) (nx pl a b : Int32)  : j_Ct l y_Rea_fail b_Rea_fail 3 none rm_Rea_fail g ([(r0, .inr (2, [.ref th, .int nx, .int (nI 0), .int pl]))]) [.ref r0, .int a, .int b] (fun r w => r = none ∧ w = [(r0, .inr (2, [.ref th, .int nx, .int a, .int b]))]) 0 0 := by
  refine j_ct (by decide) (Nat.le_of_ble_eq_true rfl) (fun κ hkl C hR hI => ?_)
  show j_V g κ 0 0 0 [(0, .ref r0), (1, .int a), (2, .int b)] [] ([(r0, .inr (2, [.ref th, .int nx, .int (nI 0), .int pl]))])
  refine j_aload_n (pc := 0) C d_Rea_fail_0 rfl 0 rfl ?_
  refine j_get (pc := 1) C F_Rea_15 0 rfl rfl d_Rea_fail_1 ?_
  refine j_if_neN (pc := 4) (tgt := 17) C (by omega) d_Rea_fail_4 rfl (fun c4 => ?_) (fun c4 => ?_)
  · exfalso; omega
  · skip
    refine j_aload_n (pc := 7) C d_Rea_fail_7 rfl 0 rfl ?_
    refine j_iload_n (pc := 8) C d_Rea_fail_8 rfl 1 rfl ?_
    refine j_put (pc := 9) (ws' := [(r0, .inr (2, [.ref th, .int nx, .int a, .int pl]))]) C Fp_Rea_15 0 rfl rfl (by first | rfl | decide) (Nat.le_of_ble_eq_true rfl) rfl d_Rea_fail_9 ?_
    refine j_aload_n (pc := 12) C d_Rea_fail_12 rfl 0 rfl ?_
    refine j_iload_n (pc := 13) C d_Rea_fail_13 rfl 2 rfl ?_
    refine j_put (pc := 14) (ws' := [(r0, .inr (2, [.ref th, .int nx, .int a, .int b]))]) C Fp_Rea_18 0 rfl rfl (by first | rfl | decide) (Nat.le_of_ble_eq_true rfl) rfl d_Rea_fail_14 ?_
    exact hR.2.2 _ _ _ d_Rea_fail_17 rfl (⟨rfl, rfl⟩)
set_option maxHeartbeats 4000000 in
set_option maxRecDepth 100000 in
theorem c_Rea_fail2 (l : Launch) (g : JX) (r0 th f : Nat) (nx pl a b : Int32) (hf : 0 < f) (hf2 : f < 5) : j_Ct l y_Rea_fail b_Rea_fail 3 none rm_Rea_fail g ([(r0, .inr (2, [.ref th, .int nx, .int (nI f), .int pl]))]) [.ref r0, .int a, .int b] (fun r w => r = none ∧ w = [(r0, .inr (2, [.ref th, .int nx, .int (nI f), .int pl]))]) 0 0 := by
  refine j_ct (by decide) (Nat.le_of_ble_eq_true rfl) (fun κ hkl C hR hI => ?_)
  show j_V g κ 0 0 0 [(0, .ref r0), (1, .int a), (2, .int b)] [] ([(r0, .inr (2, [.ref th, .int nx, .int (nI f), .int pl]))])
  refine j_aload_n (pc := 0) C d_Rea_fail_0 rfl 0 rfl ?_
  refine j_get (pc := 1) C F_Rea_15 0 rfl rfl d_Rea_fail_1 ?_
  refine j_if_neN (pc := 4) (tgt := 17) C (by omega) d_Rea_fail_4 rfl (fun c4 => ?_) (fun c4 => ?_)
  · skip
    exact hR.2.2 _ _ _ d_Rea_fail_17 rfl (⟨rfl, rfl⟩)
  · skip
    exfalso; omega
abbrev rm_Rea_skip : Room := { frames := 1, cells := 0, slots := 0, locals := 22 }
set_option maxHeartbeats 4000000 in
set_option maxRecDepth 100000 in
theorem c_Rea_skip_ok (l : Launch) (g : JX) (r0 th hb n p k1 : Nat) (pl : Int32) (hn : n ≤ 2000) (h : p + k1 ≤ n) : j_Ct l y_Rea_skip b_Rea_skip 2 none rm_Rea_skip g ([(r0, .inr (2, [.ref th, .int (nI p), .int (nI 0), .int pl])), (th, .inr (3, [.ref hb, .int (nI n)]))]) [.ref r0, .int (nI k1)] (fun r w => r = none ∧ w = [(r0, .inr (2, [.ref th, .int (nI (p + k1)), .int (nI 0), .int pl])), (th, .inr (3, [.ref hb, .int (nI n)]))]) 0 0 := by
  refine j_ct (by decide) (Nat.le_of_ble_eq_true rfl) (fun κ hkl C hR hI => ?_)
  show j_V g κ 0 0 0 [(0, .ref r0), (1, .int (nI k1))] [] ([(r0, .inr (2, [.ref th, .int (nI p), .int (nI 0), .int pl])), (th, .inr (3, [.ref hb, .int (nI n)]))])
  refine j_aload_n (pc := 0) C d_Rea_skip_0 rfl 0 rfl ?_
  refine j_get (pc := 1) C F_Rea_15 0 rfl rfl d_Rea_skip_1 ?_
  refine j_if_eqN (pc := 4) (tgt := 8) C (by omega) d_Rea_skip_4 rfl (fun c4 => ?_) (fun c4 => ?_)
  · skip
    refine j_iload_n (pc := 8) C d_Rea_skip_8 rfl 1 rfl ?_
    refine j_aload_n (pc := 9) C d_Rea_skip_9 rfl 0 rfl ?_
    refine j_get (pc := 10) C F_Rea_21 0 rfl rfl d_Rea_skip_10 ?_
    refine j_get (pc := 13) C F_Rea_25 1 rfl rfl d_Rea_skip_13 ?_
    refine j_aload_n (pc := 16) C d_Rea_skip_16 rfl 0 rfl ?_
    refine j_get (pc := 17) C F_Rea_9 0 rfl rfl d_Rea_skip_17 ?_
    refine j_isubN (pc := 20) C (by omega) d_Rea_skip_20 ?_
    refine j_icmp_leN (pc := 21) (tgt := 37) C (by omega) (by omega) d_Rea_skip_21 rfl (fun c21 => ?_) (fun c21 => ?_)
    · skip
      refine j_aload_n (pc := 37) C d_Rea_skip_37 rfl 0 rfl ?_
      refine j_dup (pc := 38) C d_Rea_skip_38 rfl ?_
      refine j_get (pc := 39) C F_Rea_9 0 rfl rfl d_Rea_skip_39 ?_
      refine j_iload_n (pc := 42) C d_Rea_skip_42 rfl 1 rfl ?_
      refine j_iaddN (pc := 43) C d_Rea_skip_43 ?_
      refine j_put (pc := 44) (ws' := [(r0, .inr (2, [.ref th, .int (nI (p + k1)), .int (nI 0), .int pl])), (th, .inr (3, [.ref hb, .int (nI n)]))]) C Fp_Rea_9 0 rfl rfl (by first | rfl | decide) (Nat.le_of_ble_eq_true rfl) rfl d_Rea_skip_44 ?_
      exact hR.2.2 _ _ _ d_Rea_skip_47 rfl (⟨rfl, rfl⟩)
    · skip
      exfalso; omega
  · exfalso; omega
set_option maxHeartbeats 4000000 in
set_option maxRecDepth 100000 in
theorem c_Rea_skip_no (l : Launch) (g : JX) (r0 th hb n p k1 : Nat) (pl : Int32) (hn : n ≤ 2000) (hp : p ≤ n) (hk1 : k1 < 2 ^ 31) (h : n < p + k1) : j_Ct l y_Rea_skip b_Rea_skip 2 none rm_Rea_skip g ([(r0, .inr (2, [.ref th, .int (nI p), .int (nI 0), .int pl])), (th, .inr (3, [.ref hb, .int (nI n)]))]) [.ref r0, .int (nI k1)] (fun r w => r = none ∧ w = [(r0, .inr (2, [.ref th, .int (nI p), .int (nI 1), .int (nI n)])), (th, .inr (3, [.ref hb, .int (nI n)]))]) 0 0 := by
  refine j_ct (by decide) (Nat.le_of_ble_eq_true rfl) (fun κ hkl C hR hI => ?_)
  show j_V g κ 0 0 0 [(0, .ref r0), (1, .int (nI k1))] [] ([(r0, .inr (2, [.ref th, .int (nI p), .int (nI 0), .int pl])), (th, .inr (3, [.ref hb, .int (nI n)]))])
  refine j_aload_n (pc := 0) C d_Rea_skip_0 rfl 0 rfl ?_
  refine j_get (pc := 1) C F_Rea_15 0 rfl rfl d_Rea_skip_1 ?_
  refine j_if_eqN (pc := 4) (tgt := 8) C (by omega) d_Rea_skip_4 rfl (fun c4 => ?_) (fun c4 => ?_)
  · skip
    refine j_iload_n (pc := 8) C d_Rea_skip_8 rfl 1 rfl ?_
    refine j_aload_n (pc := 9) C d_Rea_skip_9 rfl 0 rfl ?_
    refine j_get (pc := 10) C F_Rea_21 0 rfl rfl d_Rea_skip_10 ?_
    refine j_get (pc := 13) C F_Rea_25 1 rfl rfl d_Rea_skip_13 ?_
    refine j_aload_n (pc := 16) C d_Rea_skip_16 rfl 0 rfl ?_
    refine j_get (pc := 17) C F_Rea_9 0 rfl rfl d_Rea_skip_17 ?_
    refine j_isubN (pc := 20) C (by omega) d_Rea_skip_20 ?_
    refine j_icmp_leN (pc := 21) (tgt := 37) C (by omega) (by omega) d_Rea_skip_21 rfl (fun c21 => ?_) (fun c21 => ?_)
    · skip
      exfalso; omega
    · skip
      refine j_aload_n (pc := 24) C d_Rea_skip_24 rfl 0 rfl ?_
      refine j_iconst (pc := 25) (v := nI 1) C d_Rea_skip_25 (by decide) ?_
      refine j_aload_n (pc := 26) C d_Rea_skip_26 rfl 0 rfl ?_
      refine j_get (pc := 27) C F_Rea_21 0 rfl rfl d_Rea_skip_27 ?_
      refine j_get (pc := 30) C F_Rea_25 1 rfl rfl d_Rea_skip_30 ?_
      refine j_callV (pc := 33) (As := [.int (nI 1), .int (nI n)]) (rest := []) (wc := [(r0, .inr (2, [.ref th, .int (nI p), .int (nI 0), .int pl]))]) (wr := [(th, .inr (3, [.ref hb, .int (nI n)]))]) C (c_Rea_fail (kl κ) g r0 th (nI p) pl (nI 1) (nI n)) Y_Rea_fail ml_Rea_30 im_Rea_fail sl_Rea_fail rfl ⟨by decide, by decide⟩ rfl (ci := 2) (q0 := 0) rfl rfl rfl (Nat.le_of_ble_eq_true rfl) (j_sb [0, 1] rfl rfl) rfl d_Rea_skip_33 (fun r w1 hO => ?_)
      obtain ⟨rfl, rfl⟩ := hO
      show j_V g κ 0 0 36 [(0, .ref r0), (1, .int (nI k1))] [] ([(r0, .inr (2, [.ref th, .int (nI p), .int (nI 1), .int (nI n)])), (th, .inr (3, [.ref hb, .int (nI n)]))])
      exact hR.2.2 _ _ _ d_Rea_skip_36 rfl (⟨rfl, rfl⟩)
  · exfalso; omega
set_option maxHeartbeats 4000000 in
set_option maxRecDepth 100000 in
theorem c_Rea_skip_bad (l : Launch) (g : JX) (r0 th hb n f : Nat) (nx pl k1 : Int32) (hf : 0 < f) (hf2 : f < 5) : j_Ct l y_Rea_skip b_Rea_skip 2 none rm_Rea_skip g ([(r0, .inr (2, [.ref th, .int nx, .int (nI f), .int pl])), (th, .inr (3, [.ref hb, .int (nI n)]))]) [.ref r0, .int k1] (fun r w => r = none ∧ w = [(r0, .inr (2, [.ref th, .int nx, .int (nI f), .int pl])), (th, .inr (3, [.ref hb, .int (nI n)]))]) 0 0 := by
  refine j_ct (by decide) (Nat.le_of_ble_eq_true rfl) (fun κ hkl C hR hI => ?_)
  show j_V g κ 0 0 0 [(0, .ref r0), (1, .int k1)] [] ([(r0, .inr (2, [.ref th, .int nx, .int (nI f), .int pl])), (th, .inr (3, [.ref hb, .int (nI n)]))])
  refine j_aload_n (pc := 0) C d_Rea_skip_0 rfl 0 rfl ?_
  refine j_get (pc := 1) C F_Rea_15 0 rfl rfl d_Rea_skip_1 ?_
  refine j_if_eqN (pc := 4) (tgt := 8) C (by omega) d_Rea_skip_4 rfl (fun c4 => ?_) (fun c4 => ?_)
  · skip
    exfalso; omega
  · skip
    exact hR.2.2 _ _ _ d_Rea_skip_7 rfl (⟨rfl, rfl⟩)
set_option maxHeartbeats 4000000 in
set_option maxRecDepth 100000 in
/-- skip, whatever the reader's state -/
theorem c_Rea_skip (l : Launch) (g : JX) (r0 th hb n k1 : Nat) (s : RS) (q : Int32) (hn : n ≤ 2000) (hk1 : k1 < 2 ^ 31) (hs : ROk n s) : j_Ct l y_Rea_skip b_Rea_skip 2 none rm_Rea_skip g [(r0, .inr (2, [.ref th, .int (rN s q), .int (nI (rF s)), .int (rP s)])), (th, .inr (3, [.ref hb, .int (nI n)]))] [.ref r0, .int (nI k1)] (fun r w => ∃ q1 : Int32, r = none ∧ w = [(r0, .inr (2, [.ref th, .int (rN (rPass n k1 s) q1), .int (nI (rF (rPass n k1 s))), .int (rP (rPass n k1 s))])), (th, .inr (3, [.ref hb, .int (nI n)]))]) 0 0 := by
  rcases s with p | ⟨f, w⟩
  · by_cases h : p + k1 ≤ n
    · rw [rPass_ok h]
      exact (c_Rea_skip_ok l g r0 th hb n p k1 (-1) hn h).mono (fun r w h => ⟨0, h.1, h.2⟩)
    · rw [rPass_no (by omega)]
      exact (c_Rea_skip_no l g r0 th hb n p k1 (-1) hn hs hk1 (by omega)).mono (fun r w h => ⟨nI p, h.1, h.2⟩)
  · exact (c_Rea_skip_bad l g r0 th hb n f q (nI w) (nI k1) hs.1 hs.2.1).mono (fun r w h => ⟨q, h.1, h.2⟩)
set_option maxHeartbeats 4000000 in
set_option maxRecDepth 100000 in
theorem c_Txt_at_in (l : Launch) (g : JX) (h hb n p : Nat) (t : Nat → Nat) (hn : n ≤ 2000) (hT : ∀ j, t j < 256) (hp : p < n) : j_Ct l y_Txt_at b_Txt_at 2 (some .int) rm_Txt_at g [(h, .inr (3, [.ref hb, .int (nI n)])), (hb, .inl (aB g, 2000, .inl (bf t)))] [.ref h, .int (nI p)] (fun r w => r = some (.int (nI (t p))) ∧ w = [(h, .inr (3, [.ref hb, .int (nI n)])), (hb, .inl (aB g, 2000, .inl (bf t)))]) 0 0 := by
  refine (c_Txt_at l g h hb n t (nI p) hn hT).mono (fun r w q => ?_)
  rw [atI_in hp (by omega)] at q
  exact q
abbrev rm_Rea_takeSize : Room := { frames := 2, cells := 0, slots := 0, locals := 43 }
set_option maxHeartbeats 4000000 in
set_option maxRecDepth 100000 in
theorem c_Rea_takeSize (l : Launch) (g : JX) (r0 th hb n most : Nat) (t : Nat → Nat) (s : RS) (q : Int32) (hn : n ≤ 2000) (hm : most < 2 ^ 31) (hT : ∀ j, t j < 256) (hs : ROk n s) : j_Ct l y_Rea_takeSize b_Rea_takeSize 7 (some .int) rm_Rea_takeSize g ([(r0, .inr (2, [.ref th, .int (rN s q), .int (nI (rF s)), .int (rP s)])), (th, .inr (3, [.ref hb, .int (nI n)])), (hb, .inl (aB g, 2000, .inl (bf t)))]) [.ref r0, .int (nI most)] (fun r w => ∃ q1 : Int32, r = some (.int (nI (rSize t n most s).1)) ∧ w = [(r0, .inr (2, [.ref th, .int (rN ((rSize t n most s).2) q1), .int (nI (rF ((rSize t n most s).2))), .int (rP ((rSize t n most s).2))])), (th, .inr (3, [.ref hb, .int (nI n)])), (hb, .inl (aB g, 2000, .inl (bf t)))]) 0 0 := by
  refine j_ct (by decide) (Nat.le_of_ble_eq_true rfl) (fun κ hkl C hR hI => ?_)
  show j_V g κ 0 0 0 [(0, .ref r0), (1, .int (nI most))] [] ([(r0, .inr (2, [.ref th, .int (rN s q), .int (nI (rF s)), .int (rP s)])), (th, .inr (3, [.ref hb, .int (nI n)])), (hb, .inl (aB g, 2000, .inl (bf t)))])
  rcases s with p | ⟨f, w⟩
  · have hp : p ≤ n := hs
    show j_V g κ 0 0 0 [(0, .ref r0), (1, .int (nI most))] [] ([(r0, .inr (2, [.ref th, .int (nI p), .int (nI 0), .int (-1 : Int32)])), (th, .inr (3, [.ref hb, .int (nI n)])), (hb, .inl (aB g, 2000, .inl (bf t)))])
    refine j_aload_n (pc := 0) C d_Rea_takeSize_0 rfl 0 rfl ?_
    refine j_get (pc := 1) C F_Rea_9 0 rfl rfl d_Rea_takeSize_1 ?_
    refine j_istore_n (pc := 4) (lv' := [(2, .int (nI p)), (0, .ref r0), (1, .int (nI most))]) C d_Rea_takeSize_4 rfl (by decide) rfl ?_
    refine j_aload_n (pc := 5) C d_Rea_takeSize_5 rfl 1 rfl ?_
    refine j_iconst (pc := 6) (v := nI 1) C d_Rea_takeSize_6 (by decide) ?_
    by_cases h1 : p + 1 ≤ n
    · skip
      refine j_callV (pc := 7) (As := [.int (nI 1)]) (rest := []) (wc := [(r0, .inr (2, [.ref th, .int (nI p), .int (nI 0), .int (-1 : Int32)])), (th, .inr (3, [.ref hb, .int (nI n)]))]) (wr := [(hb, .inl (aB g, 2000, .inl (bf t)))]) C (c_Rea_skip_ok (kl κ) g r0 th hb n p 1 (-1 : Int32) (by omega) (by omega)) Y_Rea_skip ml_Rea_34 im_Rea_skip sl_Rea_skip rfl ⟨by decide, by decide⟩ rfl (ci := 2) (q0 := 0) rfl rfl rfl (Nat.le_of_ble_eq_true rfl) (j_sb [0, 1, 2] rfl rfl) rfl d_Rea_takeSize_7 (fun r w1 hO => ?_)
      obtain ⟨rfl, rfl⟩ := hO
      show j_V g κ 0 0 10 [(2, .int (nI p)), (0, .ref r0), (1, .int (nI most))] [] ([(r0, .inr (2, [.ref th, .int (nI (p + 1)), .int (nI 0), .int (-1 : Int32)])), (th, .inr (3, [.ref hb, .int (nI n)])), (hb, .inl (aB g, 2000, .inl (bf t)))])
      refine j_aload_n (pc := 10) C d_Rea_takeSize_10 rfl 1 rfl ?_
      refine j_get (pc := 11) C F_Rea_15 0 rfl rfl d_Rea_takeSize_11 ?_
      refine j_if_eqN (pc := 14) (tgt := 19) C (by omega) d_Rea_takeSize_14 rfl (fun c14 => ?_) (fun c14 => ?_)
      · skip
        refine j_aload_n (pc := 19) C d_Rea_takeSize_19 rfl 1 rfl ?_
        refine j_get (pc := 20) C F_Rea_21 0 rfl rfl d_Rea_takeSize_20 ?_
        refine j_iload_n (pc := 23) C d_Rea_takeSize_23 rfl 0 rfl ?_
        refine j_callV (pc := 24) (As := [.int (nI p)]) (rest := []) (wc := [(th, .inr (3, [.ref hb, .int (nI n)])), (hb, .inl (aB g, 2000, .inl (bf t)))]) (wr := [(r0, .inr (2, [.ref th, .int (nI (p + 1)), .int (nI 0), .int (-1 : Int32)]))]) C (c_Txt_at_in (kl κ) g th hb n p t (by omega) (hT) (by omega)) Y_Txt_at ml_Rea_86 im_Txt_at sl_Txt_at rfl ⟨by decide, by decide⟩ rfl (ci := 3) (q0 := 0) rfl rfl rfl (Nat.le_of_ble_eq_true rfl) (j_sb [1, 2, 0] rfl rfl) rfl d_Rea_takeSize_24 (fun r w1 hO => ?_)
        obtain ⟨rfl, rfl⟩ := hO
        show j_V g κ 0 0 27 [(2, .int (nI p)), (0, .ref r0), (1, .int (nI most))] [.int (nI (t p))] ([(th, .inr (3, [.ref hb, .int (nI n)])), (hb, .inl (aB g, 2000, .inl (bf t))), (r0, .inr (2, [.ref th, .int (nI (p + 1)), .int (nI 0), .int (-1 : Int32)]))])
        refine j_istore_n (pc := 27) (lv' := [(3, .int (nI (t p))), (2, .int (nI p)), (0, .ref r0), (1, .int (nI most))]) C d_Rea_takeSize_27 rfl (by decide) rfl ?_
        refine j_iload_n (pc := 28) C d_Rea_takeSize_28 rfl 0 rfl ?_
        refine j_callSN (pc := 29) (As := [.int (nI (t p))]) (rest := []) (wc := []) (wr := [(th, .inr (3, [.ref hb, .int (nI n)])), (hb, .inl (aB g, 2000, .inl (bf t))), (r0, .inr (2, [.ref th, .int (nI (p + 1)), .int (nI 0), .int (-1 : Int32)]))]) C (c_Dsk_widthOfMark (kl κ) g (t p) (by first | exact hT _ | omega)) Y_Dsk_widthOfMark ml_Rea_89 sta_Dsk_widthOfMark rfl ⟨by decide, by decide⟩ rfl (Nat.le_of_ble_eq_true rfl) (j_sb [0, 1, 2] rfl rfl) rfl d_Rea_takeSize_29 (fun r w1 hO => ?_)
        obtain ⟨rfl, rfl⟩ := hO
        show j_V g κ 0 0 32 [(3, .int (nI (t p))), (2, .int (nI p)), (0, .ref r0), (1, .int (nI most))] [.int (nI (wOf (t p)))] ([(th, .inr (3, [.ref hb, .int (nI n)])), (hb, .inl (aB g, 2000, .inl (bf t))), (r0, .inr (2, [.ref th, .int (nI (p + 1)), .int (nI 0), .int (-1 : Int32)]))])
        refine j_istore (pc := 32) (lv' := [(4, .int (nI (wOf (t p)))), (3, .int (nI (t p))), (2, .int (nI p)), (0, .ref r0), (1, .int (nI most))]) C d_Rea_takeSize_32 (by decide) rfl ?_
        refine j_aload_n (pc := 34) C d_Rea_takeSize_34 rfl 3 rfl ?_
        refine j_iload (pc := 35) C d_Rea_takeSize_35 0 rfl ?_
        by_cases h2 : p + 1 + wOf (t p) ≤ n
        · skip
          refine j_callV (pc := 37) (As := [.int (nI (wOf (t p)))]) (rest := []) (wc := [(r0, .inr (2, [.ref th, .int (nI (p + 1)), .int (nI 0), .int (-1 : Int32)])), (th, .inr (3, [.ref hb, .int (nI n)]))]) (wr := [(hb, .inl (aB g, 2000, .inl (bf t)))]) C (c_Rea_skip_ok (kl κ) g r0 th hb n (p + 1) (wOf (t p)) (-1 : Int32) (by omega) (by omega)) Y_Rea_skip ml_Rea_34 im_Rea_skip sl_Rea_skip rfl ⟨by decide, by decide⟩ rfl (ci := 2) (q0 := 0) rfl rfl rfl (Nat.le_of_ble_eq_true rfl) (j_sb [2, 0, 1] rfl rfl) rfl d_Rea_takeSize_37 (fun r w1 hO => ?_)
          obtain ⟨rfl, rfl⟩ := hO
          show j_V g κ 0 0 40 [(4, .int (nI (wOf (t p)))), (3, .int (nI (t p))), (2, .int (nI p)), (0, .ref r0), (1, .int (nI most))] [] ([(r0, .inr (2, [.ref th, .int (nI ((p + 1) + (wOf (t p)))), .int (nI 0), .int (-1 : Int32)])), (th, .inr (3, [.ref hb, .int (nI n)])), (hb, .inl (aB g, 2000, .inl (bf t)))])
          refine j_aload_n (pc := 40) C d_Rea_takeSize_40 rfl 3 rfl ?_
          refine j_get (pc := 41) C F_Rea_15 0 rfl rfl d_Rea_takeSize_41 ?_
          refine j_if_eqN (pc := 44) (tgt := 49) C (by omega) d_Rea_takeSize_44 rfl (fun c44 => ?_) (fun c44 => ?_)
          · skip
            have hw2 := wOf_le (t p)
            refine j_iload (pc := 49) C d_Rea_takeSize_49 0 rfl ?_
            refine j_if_neN (pc := 51) (tgt := 59) C (by omega) d_Rea_takeSize_51 rfl (fun c51 => ?_) (fun c51 => ?_)
            · skip
              refine j_aload_n (pc := 59) C d_Rea_takeSize_59 rfl 3 rfl ?_
              refine j_get (pc := 60) C F_Rea_21 0 rfl rfl d_Rea_takeSize_60 ?_
              refine j_iload_n (pc := 63) C d_Rea_takeSize_63 rfl 2 rfl ?_
              refine j_iconst (pc := 64) (v := nI 1) C d_Rea_takeSize_64 (by decide) ?_
              refine j_iaddN (pc := 65) C d_Rea_takeSize_65 ?_
              refine j_iload (pc := 66) C d_Rea_takeSize_66 0 rfl ?_
              refine j_callV (pc := 68) (As := [.int (nI (p + 1)), .int (nI (wOf (t p)))]) (rest := []) (wc := [(th, .inr (3, [.ref hb, .int (nI n)])), (hb, .inl (aB g, 2000, .inl (bf t)))]) (wr := [(r0, .inr (2, [.ref th, .int (nI ((p + 1) + (wOf (t p)))), .int (nI 0), .int (-1 : Int32)]))]) C (c_Txt_lowFirst (kl κ) g th hb n (p + 1) (wOf (t p)) t (by omega) hT (by omega) (by omega)) Y_Txt_lowFirst ml_Rea_92 im_Txt_lowFirst sl_Txt_lowFirst rfl ⟨by decide, by decide⟩ rfl (ci := 3) (q0 := 0) rfl rfl rfl (Nat.le_of_ble_eq_true rfl) (j_sb [1, 2, 0] rfl rfl) rfl d_Rea_takeSize_68 (fun r w1 hO => ?_)
              obtain ⟨rfl, rfl⟩ := hO
              show j_V g κ 0 0 71 [(4, .int (nI (wOf (t p)))), (3, .int (nI (t p))), (2, .int (nI p)), (0, .ref r0), (1, .int (nI most))] [.long (lN (lf t (p + 1) (wOf (t p))))] ([(th, .inr (3, [.ref hb, .int (nI n)])), (hb, .inl (aB g, 2000, .inl (bf t))), (r0, .inr (2, [.ref th, .int (nI ((p + 1) + (wOf (t p)))), .int (nI 0), .int (-1 : Int32)]))])
              refine j_rwl (y := lN (szV t p)) (by unfold szV; first | rw [if_pos (by omega)] | rw [if_neg (by omega)]) ?_
              refine j_lstore (pc := 71) (lv' := [(5, .long (lN (szV t p))), (4, .int (nI (wOf (t p)))), (3, .int (nI (t p))), (2, .int (nI p)), (0, .ref r0), (1, .int (nI most))]) C d_Rea_takeSize_71 (by decide) rfl ?_
              have hw1 := wFit_le (szV t p)
              refine j_lload (pc := 73) C d_Rea_takeSize_73 0 rfl ?_
              refine j_callSN (pc := 75) (As := [.long (lN (szV t p))]) (rest := []) (wc := []) (wr := [(th, .inr (3, [.ref hb, .int (nI n)])), (hb, .inl (aB g, 2000, .inl (bf t))), (r0, .inr (2, [.ref th, .int (nI ((p + 1) + (wOf (t p)))), .int (nI 0), .int (-1 : Int32)]))]) C (c_Dsk_widthOfSize (kl κ) g (szV t p) (by first | exact szV_lt hT _ | omega)) Y_Dsk_widthOfSize ml_Rea_96 sta_Dsk_widthOfSize rfl ⟨by decide, by decide⟩ rfl (Nat.le_of_ble_eq_true rfl) (j_sb [0, 1, 2] rfl rfl) rfl d_Rea_takeSize_75 (fun r w1 hO => ?_)
              obtain ⟨rfl, rfl⟩ := hO
              show j_V g κ 0 0 78 [(5, .long (lN (szV t p))), (4, .int (nI (wOf (t p)))), (3, .int (nI (t p))), (2, .int (nI p)), (0, .ref r0), (1, .int (nI most))] [.int (nI (wFit (szV t p)))] ([(th, .inr (3, [.ref hb, .int (nI n)])), (hb, .inl (aB g, 2000, .inl (bf t))), (r0, .inr (2, [.ref th, .int (nI ((p + 1) + (wOf (t p)))), .int (nI 0), .int (-1 : Int32)]))])
              refine j_iload (pc := 78) C d_Rea_takeSize_78 1 rfl ?_
              refine j_icmp_geN (pc := 80) (tgt := 91) C (by omega) (by omega) d_Rea_takeSize_80 rfl (fun c80 => ?_) (fun c80 => ?_)
              · skip
                refine j_lload (pc := 91) C d_Rea_takeSize_91 0 rfl ?_
                refine j_lconst (pc := 93) (v := 0) C d_Rea_takeSize_93 (by decide) ?_
                refine j_lcmp (pc := 94) C d_Rea_takeSize_94 ?_
                refine j_if_lt (pc := 95) (tgt := 106) C d_Rea_takeSize_95 rfl (fun c95 => ?_) (fun c95 => ?_)
                · skip
                  have hv : most < szV t p := z_1 (szV_lt hT p) (by omega) c95
                  refine j_aload_n (pc := 106) C d_Rea_takeSize_106 rfl 4 rfl ?_
                  refine j_iconst (pc := 107) (v := nI 3) C d_Rea_takeSize_107 (by decide) ?_
                  refine j_iload_n (pc := 108) C d_Rea_takeSize_108 rfl 3 rfl ?_
                  refine j_callV (pc := 109) (As := [.int (nI 3), .int (nI p)]) (rest := []) (wc := [(r0, .inr (2, [.ref th, .int (nI ((p + 1) + (wOf (t p)))), .int (nI 0), .int (-1 : Int32)]))]) (wr := [(th, .inr (3, [.ref hb, .int (nI n)])), (hb, .inl (aB g, 2000, .inl (bf t)))]) C (c_Rea_fail (kl κ) g r0 th (nI ((p + 1) + (wOf (t p)))) (-1 : Int32) (nI 3) (nI p)) Y_Rea_fail ml_Rea_30 im_Rea_fail sl_Rea_fail rfl ⟨by decide, by decide⟩ rfl (ci := 2) (q0 := 0) rfl rfl rfl (Nat.le_of_ble_eq_true rfl) (j_sb [2, 0, 1] rfl rfl) rfl d_Rea_takeSize_109 (fun r w1 hO => ?_)
                  obtain ⟨rfl, rfl⟩ := hO
                  show j_V g κ 0 0 112 [(5, .long (lN (szV t p))), (4, .int (nI (wOf (t p)))), (3, .int (nI (t p))), (2, .int (nI p)), (0, .ref r0), (1, .int (nI most))] [] ([(r0, .inr (2, [.ref th, .int (nI ((p + 1) + (wOf (t p)))), .int (nI 3), .int (nI p)])), (th, .inr (3, [.ref hb, .int (nI n)])), (hb, .inl (aB g, 2000, .inl (bf t)))])
                  refine j_iconst (pc := 112) (v := nI 0) C d_Rea_takeSize_112 (by decide) ?_
                  exact hR.1 _ _ _ _ d_Rea_takeSize_113 ⟨_, rfl, rfl⟩ (by rw [rSize_3 h2 c80 hv]; exact ⟨_, rfl, rfl⟩)
                · skip
                  have hz := z_2 (szV_lt hT p) c95
                  refine j_lload (pc := 98) C d_Rea_takeSize_98 0 rfl ?_
                  refine j_iload_n (pc := 100) C d_Rea_takeSize_100 rfl 5 rfl ?_
                  refine j_i2l (pc := 101) (v := lN most) C d_Rea_takeSize_101 (nI_l (by omega)) ?_
                  refine j_lcmp (pc := 102) C d_Rea_takeSize_102 ?_
                  refine j_if_le (pc := 103) (tgt := 114) C d_Rea_takeSize_103 rfl (fun c103 => ?_) (fun c103 => ?_)
                  · skip
                    have hv : szV t p ≤ most := z_3 hz (by omega) c103
                    refine j_lload (pc := 114) C d_Rea_takeSize_114 0 rfl ?_
                    refine j_l2i (pc := 116) (v := nI (szV t p)) C d_Rea_takeSize_116 (lN_i _) ?_
                    refine j_sub (ws' := [(r0, .inr (2, [.ref th, .int (nI ((p + 1) + (wOf (t p)))), .int (nI 0), .int (-1 : Int32)])), (th, .inr (3, [.ref hb, .int (nI n)])), (hb, .inl (aB g, 2000, .inl (bf t)))]) (j_sb [2, 0, 1] rfl rfl) ?_
                    exact hR.1 _ _ _ _ d_Rea_takeSize_117 ⟨_, rfl, rfl⟩ (by rw [rSize_ok h2 c80 hv]; exact ⟨0, rfl, rfl⟩)
                  · skip
                    have hv : most < szV t p := z_4 hz (by omega) c103
                    refine j_aload_n (pc := 106) C d_Rea_takeSize_106 rfl 4 rfl ?_
                    refine j_iconst (pc := 107) (v := nI 3) C d_Rea_takeSize_107 (by decide) ?_
                    refine j_iload_n (pc := 108) C d_Rea_takeSize_108 rfl 3 rfl ?_
                    refine j_callV (pc := 109) (As := [.int (nI 3), .int (nI p)]) (rest := []) (wc := [(r0, .inr (2, [.ref th, .int (nI ((p + 1) + (wOf (t p)))), .int (nI 0), .int (-1 : Int32)]))]) (wr := [(th, .inr (3, [.ref hb, .int (nI n)])), (hb, .inl (aB g, 2000, .inl (bf t)))]) C (c_Rea_fail (kl κ) g r0 th (nI ((p + 1) + (wOf (t p)))) (-1 : Int32) (nI 3) (nI p)) Y_Rea_fail ml_Rea_30 im_Rea_fail sl_Rea_fail rfl ⟨by decide, by decide⟩ rfl (ci := 2) (q0 := 0) rfl rfl rfl (Nat.le_of_ble_eq_true rfl) (j_sb [2, 0, 1] rfl rfl) rfl d_Rea_takeSize_109 (fun r w1 hO => ?_)
                    obtain ⟨rfl, rfl⟩ := hO
                    show j_V g κ 0 0 112 [(5, .long (lN (szV t p))), (4, .int (nI (wOf (t p)))), (3, .int (nI (t p))), (2, .int (nI p)), (0, .ref r0), (1, .int (nI most))] [] ([(r0, .inr (2, [.ref th, .int (nI ((p + 1) + (wOf (t p)))), .int (nI 3), .int (nI p)])), (th, .inr (3, [.ref hb, .int (nI n)])), (hb, .inl (aB g, 2000, .inl (bf t)))])
                    refine j_iconst (pc := 112) (v := nI 0) C d_Rea_takeSize_112 (by decide) ?_
                    exact hR.1 _ _ _ _ d_Rea_takeSize_113 ⟨_, rfl, rfl⟩ (by rw [rSize_3 h2 c80 hv]; exact ⟨_, rfl, rfl⟩)
              · skip
                refine j_aload_n (pc := 83) C d_Rea_takeSize_83 rfl 4 rfl ?_
                refine j_iconst (pc := 84) (v := nI 2) C d_Rea_takeSize_84 (by decide) ?_
                refine j_iload_n (pc := 85) C d_Rea_takeSize_85 rfl 3 rfl ?_
                refine j_callV (pc := 86) (As := [.int (nI 2), .int (nI p)]) (rest := []) (wc := [(r0, .inr (2, [.ref th, .int (nI ((p + 1) + (wOf (t p)))), .int (nI 0), .int (-1 : Int32)]))]) (wr := [(th, .inr (3, [.ref hb, .int (nI n)])), (hb, .inl (aB g, 2000, .inl (bf t)))]) C (c_Rea_fail (kl κ) g r0 th (nI ((p + 1) + (wOf (t p)))) (-1 : Int32) (nI 2) (nI p)) Y_Rea_fail ml_Rea_30 im_Rea_fail sl_Rea_fail rfl ⟨by decide, by decide⟩ rfl (ci := 2) (q0 := 0) rfl rfl rfl (Nat.le_of_ble_eq_true rfl) (j_sb [2, 0, 1] rfl rfl) rfl d_Rea_takeSize_86 (fun r w1 hO => ?_)
                obtain ⟨rfl, rfl⟩ := hO
                show j_V g κ 0 0 89 [(5, .long (lN (szV t p))), (4, .int (nI (wOf (t p)))), (3, .int (nI (t p))), (2, .int (nI p)), (0, .ref r0), (1, .int (nI most))] [] ([(r0, .inr (2, [.ref th, .int (nI ((p + 1) + (wOf (t p)))), .int (nI 2), .int (nI p)])), (th, .inr (3, [.ref hb, .int (nI n)])), (hb, .inl (aB g, 2000, .inl (bf t)))])
                refine j_iconst (pc := 89) (v := nI 0) C d_Rea_takeSize_89 (by decide) ?_
                exact hR.1 _ _ _ _ d_Rea_takeSize_90 ⟨_, rfl, rfl⟩ (by rw [rSize_2 h2 c80]; exact ⟨_, rfl, rfl⟩)
            · skip
              refine j_iload_n (pc := 54) C d_Rea_takeSize_54 rfl 1 rfl ?_
              refine j_i2l (pc := 55) (v := lN (t p)) C d_Rea_takeSize_55 (nI_l (by have h9 := hT p; omega)) ?_
              refine j_goto (pc := 56) (tgt := 71) C d_Rea_takeSize_56 rfl ?_
              refine j_rwl (y := lN (szV t p)) (by unfold szV; first | rw [if_pos (by omega)] | rw [if_neg (by omega)]) ?_
              refine j_lstore (pc := 71) (lv' := [(5, .long (lN (szV t p))), (4, .int (nI (wOf (t p)))), (3, .int (nI (t p))), (2, .int (nI p)), (0, .ref r0), (1, .int (nI most))]) C d_Rea_takeSize_71 (by decide) rfl ?_
              have hw1 := wFit_le (szV t p)
              refine j_lload (pc := 73) C d_Rea_takeSize_73 0 rfl ?_
              refine j_callSN (pc := 75) (As := [.long (lN (szV t p))]) (rest := []) (wc := []) (wr := [(r0, .inr (2, [.ref th, .int (nI ((p + 1) + (wOf (t p)))), .int (nI 0), .int (-1 : Int32)])), (th, .inr (3, [.ref hb, .int (nI n)])), (hb, .inl (aB g, 2000, .inl (bf t)))]) C (c_Dsk_widthOfSize (kl κ) g (szV t p) (by first | exact szV_lt hT _ | omega)) Y_Dsk_widthOfSize ml_Rea_96 sta_Dsk_widthOfSize rfl ⟨by decide, by decide⟩ rfl (Nat.le_of_ble_eq_true rfl) (j_sb [0, 1, 2] rfl rfl) rfl d_Rea_takeSize_75 (fun r w1 hO => ?_)
              obtain ⟨rfl, rfl⟩ := hO
              show j_V g κ 0 0 78 [(5, .long (lN (szV t p))), (4, .int (nI (wOf (t p)))), (3, .int (nI (t p))), (2, .int (nI p)), (0, .ref r0), (1, .int (nI most))] [.int (nI (wFit (szV t p)))] ([(r0, .inr (2, [.ref th, .int (nI ((p + 1) + (wOf (t p)))), .int (nI 0), .int (-1 : Int32)])), (th, .inr (3, [.ref hb, .int (nI n)])), (hb, .inl (aB g, 2000, .inl (bf t)))])
              refine j_iload (pc := 78) C d_Rea_takeSize_78 1 rfl ?_
              refine j_icmp_geN (pc := 80) (tgt := 91) C (by omega) (by omega) d_Rea_takeSize_80 rfl (fun c80 => ?_) (fun c80 => ?_)
              · skip
                refine j_lload (pc := 91) C d_Rea_takeSize_91 0 rfl ?_
                refine j_lconst (pc := 93) (v := 0) C d_Rea_takeSize_93 (by decide) ?_
                refine j_lcmp (pc := 94) C d_Rea_takeSize_94 ?_
                refine j_if_lt (pc := 95) (tgt := 106) C d_Rea_takeSize_95 rfl (fun c95 => ?_) (fun c95 => ?_)
                · skip
                  have hv : most < szV t p := z_1 (szV_lt hT p) (by omega) c95
                  refine j_aload_n (pc := 106) C d_Rea_takeSize_106 rfl 4 rfl ?_
                  refine j_iconst (pc := 107) (v := nI 3) C d_Rea_takeSize_107 (by decide) ?_
                  refine j_iload_n (pc := 108) C d_Rea_takeSize_108 rfl 3 rfl ?_
                  refine j_callV (pc := 109) (As := [.int (nI 3), .int (nI p)]) (rest := []) (wc := [(r0, .inr (2, [.ref th, .int (nI ((p + 1) + (wOf (t p)))), .int (nI 0), .int (-1 : Int32)]))]) (wr := [(th, .inr (3, [.ref hb, .int (nI n)])), (hb, .inl (aB g, 2000, .inl (bf t)))]) C (c_Rea_fail (kl κ) g r0 th (nI ((p + 1) + (wOf (t p)))) (-1 : Int32) (nI 3) (nI p)) Y_Rea_fail ml_Rea_30 im_Rea_fail sl_Rea_fail rfl ⟨by decide, by decide⟩ rfl (ci := 2) (q0 := 0) rfl rfl rfl (Nat.le_of_ble_eq_true rfl) (j_sb [0, 1, 2] rfl rfl) rfl d_Rea_takeSize_109 (fun r w1 hO => ?_)
                  obtain ⟨rfl, rfl⟩ := hO
                  show j_V g κ 0 0 112 [(5, .long (lN (szV t p))), (4, .int (nI (wOf (t p)))), (3, .int (nI (t p))), (2, .int (nI p)), (0, .ref r0), (1, .int (nI most))] [] ([(r0, .inr (2, [.ref th, .int (nI ((p + 1) + (wOf (t p)))), .int (nI 3), .int (nI p)])), (th, .inr (3, [.ref hb, .int (nI n)])), (hb, .inl (aB g, 2000, .inl (bf t)))])
                  refine j_iconst (pc := 112) (v := nI 0) C d_Rea_takeSize_112 (by decide) ?_
                  exact hR.1 _ _ _ _ d_Rea_takeSize_113 ⟨_, rfl, rfl⟩ (by rw [rSize_3 h2 c80 hv]; exact ⟨_, rfl, rfl⟩)
                · skip
                  have hz := z_2 (szV_lt hT p) c95
                  refine j_lload (pc := 98) C d_Rea_takeSize_98 0 rfl ?_
                  refine j_iload_n (pc := 100) C d_Rea_takeSize_100 rfl 5 rfl ?_
                  refine j_i2l (pc := 101) (v := lN most) C d_Rea_takeSize_101 (nI_l (by omega)) ?_
                  refine j_lcmp (pc := 102) C d_Rea_takeSize_102 ?_
                  refine j_if_le (pc := 103) (tgt := 114) C d_Rea_takeSize_103 rfl (fun c103 => ?_) (fun c103 => ?_)
                  · skip
                    have hv : szV t p ≤ most := z_3 hz (by omega) c103
                    refine j_lload (pc := 114) C d_Rea_takeSize_114 0 rfl ?_
                    refine j_l2i (pc := 116) (v := nI (szV t p)) C d_Rea_takeSize_116 (lN_i _) ?_
                    exact hR.1 _ _ _ _ d_Rea_takeSize_117 ⟨_, rfl, rfl⟩ (by rw [rSize_ok h2 c80 hv]; exact ⟨0, rfl, rfl⟩)
                  · skip
                    have hv : most < szV t p := z_4 hz (by omega) c103
                    refine j_aload_n (pc := 106) C d_Rea_takeSize_106 rfl 4 rfl ?_
                    refine j_iconst (pc := 107) (v := nI 3) C d_Rea_takeSize_107 (by decide) ?_
                    refine j_iload_n (pc := 108) C d_Rea_takeSize_108 rfl 3 rfl ?_
                    refine j_callV (pc := 109) (As := [.int (nI 3), .int (nI p)]) (rest := []) (wc := [(r0, .inr (2, [.ref th, .int (nI ((p + 1) + (wOf (t p)))), .int (nI 0), .int (-1 : Int32)]))]) (wr := [(th, .inr (3, [.ref hb, .int (nI n)])), (hb, .inl (aB g, 2000, .inl (bf t)))]) C (c_Rea_fail (kl κ) g r0 th (nI ((p + 1) + (wOf (t p)))) (-1 : Int32) (nI 3) (nI p)) Y_Rea_fail ml_Rea_30 im_Rea_fail sl_Rea_fail rfl ⟨by decide, by decide⟩ rfl (ci := 2) (q0 := 0) rfl rfl rfl (Nat.le_of_ble_eq_true rfl) (j_sb [0, 1, 2] rfl rfl) rfl d_Rea_takeSize_109 (fun r w1 hO => ?_)
                    obtain ⟨rfl, rfl⟩ := hO
                    show j_V g κ 0 0 112 [(5, .long (lN (szV t p))), (4, .int (nI (wOf (t p)))), (3, .int (nI (t p))), (2, .int (nI p)), (0, .ref r0), (1, .int (nI most))] [] ([(r0, .inr (2, [.ref th, .int (nI ((p + 1) + (wOf (t p)))), .int (nI 3), .int (nI p)])), (th, .inr (3, [.ref hb, .int (nI n)])), (hb, .inl (aB g, 2000, .inl (bf t)))])
                    refine j_iconst (pc := 112) (v := nI 0) C d_Rea_takeSize_112 (by decide) ?_
                    exact hR.1 _ _ _ _ d_Rea_takeSize_113 ⟨_, rfl, rfl⟩ (by rw [rSize_3 h2 c80 hv]; exact ⟨_, rfl, rfl⟩)
              · skip
                refine j_aload_n (pc := 83) C d_Rea_takeSize_83 rfl 4 rfl ?_
                refine j_iconst (pc := 84) (v := nI 2) C d_Rea_takeSize_84 (by decide) ?_
                refine j_iload_n (pc := 85) C d_Rea_takeSize_85 rfl 3 rfl ?_
                refine j_callV (pc := 86) (As := [.int (nI 2), .int (nI p)]) (rest := []) (wc := [(r0, .inr (2, [.ref th, .int (nI ((p + 1) + (wOf (t p)))), .int (nI 0), .int (-1 : Int32)]))]) (wr := [(th, .inr (3, [.ref hb, .int (nI n)])), (hb, .inl (aB g, 2000, .inl (bf t)))]) C (c_Rea_fail (kl κ) g r0 th (nI ((p + 1) + (wOf (t p)))) (-1 : Int32) (nI 2) (nI p)) Y_Rea_fail ml_Rea_30 im_Rea_fail sl_Rea_fail rfl ⟨by decide, by decide⟩ rfl (ci := 2) (q0 := 0) rfl rfl rfl (Nat.le_of_ble_eq_true rfl) (j_sb [0, 1, 2] rfl rfl) rfl d_Rea_takeSize_86 (fun r w1 hO => ?_)
                obtain ⟨rfl, rfl⟩ := hO
                show j_V g κ 0 0 89 [(5, .long (lN (szV t p))), (4, .int (nI (wOf (t p)))), (3, .int (nI (t p))), (2, .int (nI p)), (0, .ref r0), (1, .int (nI most))] [] ([(r0, .inr (2, [.ref th, .int (nI ((p + 1) + (wOf (t p)))), .int (nI 2), .int (nI p)])), (th, .inr (3, [.ref hb, .int (nI n)])), (hb, .inl (aB g, 2000, .inl (bf t)))])
                refine j_iconst (pc := 89) (v := nI 0) C d_Rea_takeSize_89 (by decide) ?_
                exact hR.1 _ _ _ _ d_Rea_takeSize_90 ⟨_, rfl, rfl⟩ (by rw [rSize_2 h2 c80]; exact ⟨_, rfl, rfl⟩)
          · exfalso; omega
        · skip
          have hw2 := wOf_le (t p)
          refine j_callV (pc := 37) (As := [.int (nI (wOf (t p)))]) (rest := []) (wc := [(r0, .inr (2, [.ref th, .int (nI (p + 1)), .int (nI 0), .int (-1 : Int32)])), (th, .inr (3, [.ref hb, .int (nI n)]))]) (wr := [(hb, .inl (aB g, 2000, .inl (bf t)))]) C (c_Rea_skip_no (kl κ) g r0 th hb n (p + 1) (wOf (t p)) (-1 : Int32) (by omega) (by omega) (by omega) (by omega)) Y_Rea_skip ml_Rea_34 im_Rea_skip sl_Rea_skip rfl ⟨by decide, by decide⟩ rfl (ci := 2) (q0 := 0) rfl rfl rfl (Nat.le_of_ble_eq_true rfl) (j_sb [2, 0, 1] rfl rfl) rfl d_Rea_takeSize_37 (fun r w1 hO => ?_)
          obtain ⟨rfl, rfl⟩ := hO
          show j_V g κ 0 0 40 [(4, .int (nI (wOf (t p)))), (3, .int (nI (t p))), (2, .int (nI p)), (0, .ref r0), (1, .int (nI most))] [] ([(r0, .inr (2, [.ref th, .int (nI (p + 1)), .int (nI 1), .int (nI n)])), (th, .inr (3, [.ref hb, .int (nI n)])), (hb, .inl (aB g, 2000, .inl (bf t)))])
          refine j_aload_n (pc := 40) C d_Rea_takeSize_40 rfl 3 rfl ?_
          refine j_get (pc := 41) C F_Rea_15 0 rfl rfl d_Rea_takeSize_41 ?_
          refine j_if_eqN (pc := 44) (tgt := 49) C (by omega) d_Rea_takeSize_44 rfl (fun c44 => ?_) (fun c44 => ?_)
          · exfalso; omega
          · skip
            refine j_iconst (pc := 47) (v := nI 0) C d_Rea_takeSize_47 (by decide) ?_
            exact hR.1 _ _ _ _ d_Rea_takeSize_48 ⟨_, rfl, rfl⟩ (by rw [rSize_1 (Or.inl (by omega))]; exact ⟨_, rfl, rfl⟩)
      · exfalso; omega
    · skip
      refine j_callV (pc := 7) (As := [.int (nI 1)]) (rest := []) (wc := [(r0, .inr (2, [.ref th, .int (nI p), .int (nI 0), .int (-1 : Int32)])), (th, .inr (3, [.ref hb, .int (nI n)]))]) (wr := [(hb, .inl (aB g, 2000, .inl (bf t)))]) C (c_Rea_skip_no (kl κ) g r0 th hb n p 1 (-1 : Int32) (by omega) (by omega) (by omega) (by omega)) Y_Rea_skip ml_Rea_34 im_Rea_skip sl_Rea_skip rfl ⟨by decide, by decide⟩ rfl (ci := 2) (q0 := 0) rfl rfl rfl (Nat.le_of_ble_eq_true rfl) (j_sb [0, 1, 2] rfl rfl) rfl d_Rea_takeSize_7 (fun r w1 hO => ?_)
      obtain ⟨rfl, rfl⟩ := hO
      show j_V g κ 0 0 10 [(2, .int (nI p)), (0, .ref r0), (1, .int (nI most))] [] ([(r0, .inr (2, [.ref th, .int (nI p), .int (nI 1), .int (nI n)])), (th, .inr (3, [.ref hb, .int (nI n)])), (hb, .inl (aB g, 2000, .inl (bf t)))])
      refine j_aload_n (pc := 10) C d_Rea_takeSize_10 rfl 1 rfl ?_
      refine j_get (pc := 11) C F_Rea_15 0 rfl rfl d_Rea_takeSize_11 ?_
      refine j_if_eqN (pc := 14) (tgt := 19) C (by omega) d_Rea_takeSize_14 rfl (fun c14 => ?_) (fun c14 => ?_)
      · exfalso; omega
      · skip
        refine j_iconst (pc := 17) (v := nI 0) C d_Rea_takeSize_17 (by decide) ?_
        exact hR.1 _ _ _ _ d_Rea_takeSize_18 ⟨_, rfl, rfl⟩ (by rw [rSize_1 (Or.inr (by omega))]; exact ⟨_, rfl, rfl⟩)
  · obtain ⟨hf, hf2, hw⟩ : 0 < f ∧ f < 5 ∧ w ≤ n := hs
    show j_V g κ 0 0 0 [(0, .ref r0), (1, .int (nI most))] [] ([(r0, .inr (2, [.ref th, .int q, .int (nI f), .int (nI w)])), (th, .inr (3, [.ref hb, .int (nI n)])), (hb, .inl (aB g, 2000, .inl (bf t)))])
    refine j_aload_n (pc := 0) C d_Rea_takeSize_0 rfl 0 rfl ?_
    refine j_get (pc := 1) C F_Rea_9 0 rfl rfl d_Rea_takeSize_1 ?_
    refine j_istore_n (pc := 4) (lv' := [(2, .int q), (0, .ref r0), (1, .int (nI most))]) C d_Rea_takeSize_4 rfl (by decide) rfl ?_
    refine j_aload_n (pc := 5) C d_Rea_takeSize_5 rfl 1 rfl ?_
    refine j_iconst (pc := 6) (v := nI 1) C d_Rea_takeSize_6 (by decide) ?_
    refine j_callV (pc := 7) (As := [.int (nI 1)]) (rest := []) (wc := [(r0, .inr (2, [.ref th, .int q, .int (nI f), .int (nI w)])), (th, .inr (3, [.ref hb, .int (nI n)]))]) (wr := [(hb, .inl (aB g, 2000, .inl (bf t)))]) C (c_Rea_skip_bad (kl κ) g r0 th hb n f q (nI w) (nI 1) (by omega) (by omega)) Y_Rea_skip ml_Rea_34 im_Rea_skip sl_Rea_skip rfl ⟨by decide, by decide⟩ rfl (ci := 2) (q0 := 0) rfl rfl rfl (Nat.le_of_ble_eq_true rfl) (j_sb [0, 1, 2] rfl rfl) rfl d_Rea_takeSize_7 (fun r w1 hO => ?_)
    obtain ⟨rfl, rfl⟩ := hO
    show j_V g κ 0 0 10 [(2, .int q), (0, .ref r0), (1, .int (nI most))] [] ([(r0, .inr (2, [.ref th, .int q, .int (nI f), .int (nI w)])), (th, .inr (3, [.ref hb, .int (nI n)])), (hb, .inl (aB g, 2000, .inl (bf t)))])
    refine j_aload_n (pc := 10) C d_Rea_takeSize_10 rfl 1 rfl ?_
    refine j_get (pc := 11) C F_Rea_15 0 rfl rfl d_Rea_takeSize_11 ?_
    refine j_if_eqN (pc := 14) (tgt := 19) C (by omega) d_Rea_takeSize_14 rfl (fun c14 => ?_) (fun c14 => ?_)
    · exfalso; omega
    · skip
      refine j_iconst (pc := 17) (v := nI 0) C d_Rea_takeSize_17 (by decide) ?_
      exact hR.1 _ _ _ _ d_Rea_takeSize_18 ⟨_, rfl, rfl⟩ (⟨_, rfl, rfl⟩)
end
section
/-! a transaction, a block, as functions of the reader's state -/
def itN (f : RS → RS) : Nat → RS → RS
  | 0, s => s
  | k + 1, s => f (itN f k s)
theorem itN_R {n : Nat} {f : RS → RS} (hf : ∀ s, ROk n s → ROk n (f s)) : ∀ (k : Nat) {s : RS}, ROk n s → ROk n (itN f k s)
  | 0, _, h => h
  | k + 1, _, h => hf _ (itN_R hf k h)
def inZ (t : Nat → Nat) (n : Nat) (s : RS) : Nat × RS := rSize t n 200 (rPass n 36 s)
def rIn (t : Nat → Nat) (n : Nat) (s : RS) : RS := rPass n ((inZ t n s).1 + 4) (inZ t n s).2
def outZ (t : Nat → Nat) (n : Nat) (s : RS) : Nat × RS := rSize t n 200 (rPass n 8 s)
def rOut (t : Nat → Nat) (n : Nat) (s : RS) : RS := rPass n (outZ t n s).1 (outZ t n s).2
theorem rIn_R {t : Nat → Nat} {n : Nat} {s : RS} (h : ROk n s) : ROk n (rIn t n s) := rPass_R (rSize_R (rPass_R h))
theorem rOut_R {t : Nat → Nat} {n : Nat} {s : RS} (h : ROk n s) : ROk n (rOut t n s) := rPass_R (rSize_R (rPass_R h))
theorem rPass_in {n k p : Nat} {s : RS} (h : rPass n k s = .inl p) : ∃ a, s = .inl a ∧ p = a + k ∧ a + k ≤ n := by
  rcases s with a | e
  · by_cases q : a + k ≤ n
    · rw [rPass_ok q] at h; exact ⟨a, rfl, (Sum.inl.inj h).symm, q⟩
    · rw [rPass_no (by omega)] at h; cases h
  · cases h
theorem rSize_in {t : Nat → Nat} {n most p : Nat} {s : RS} (h : (rSize t n most s).2 = .inl p) : ∃ a, s = .inl a ∧ a < p ∧ p ≤ n := by
  rcases s with a | e
  · by_cases h1 : n < a + 1 + wOf (t a) ∨ n < a + 1
    · rw [rSize_1 h1] at h; cases h
    · by_cases h2 : wFit (szV t a) < wOf (t a)
      · rw [rSize_2 (by omega) h2] at h; cases h
      · by_cases h3 : most < szV t a
        · rw [rSize_3 (by omega) (by omega) h3] at h; cases h
        · rw [rSize_ok (by omega) (by omega) (by omega)] at h
          have e := Sum.inl.inj h
          exact ⟨a, rfl, by omega, by omega⟩
  · cases h
theorem rIn_in {t : Nat → Nat} {n p : Nat} {s : RS} (h : rIn t n s = .inl p) : ∃ a b, s = .inl a ∧ (inZ t n s).2 = .inl b ∧ a + 36 < b ∧ b + (inZ t n s).1 + 4 = p ∧ p ≤ n := by
  obtain ⟨b, h1, h2, h3⟩ := rPass_in h
  obtain ⟨c, h4, h5, h6⟩ := rSize_in h1
  obtain ⟨a, h7, h8, h9⟩ := rPass_in h4
  exact ⟨a, b, h7, h1, by omega, by omega, by omega⟩
theorem rOut_in {t : Nat → Nat} {n p : Nat} {s : RS} (h : rOut t n s = .inl p) : ∃ a b, s = .inl a ∧ (outZ t n s).2 = .inl b ∧ a + 8 < b ∧ b + (outZ t n s).1 = p ∧ p ≤ n := by
  obtain ⟨b, h1, h2, h3⟩ := rPass_in h
  obtain ⟨c, h4, h5, h6⟩ := rSize_in h1
  obtain ⟨a, h7, h8, h9⟩ := rPass_in h4
  exact ⟨a, b, h7, h1, by omega, by omega, by omega⟩
/-- what the class notes of the inputs (outputs) behind the first i of them, where no fault came -/
def Hin (t : Nat → Nat) (n : Nat) (s : RS) (f1 f2 f3 : Nat → Int32) (i : Nat) : Prop := ∀ j, j < i → ∀ p, itN (rIn t n) (j + 1) s = .inl p → f1 j = nI (pos (itN (rIn t n) j s)) ∧ f2 j = nI (pos (inZ t n (itN (rIn t n) j s)).2) ∧ f3 j = nI (inZ t n (itN (rIn t n) j s)).1
def Hout (t : Nat → Nat) (n : Nat) (s : RS) (f1 f2 f3 : Nat → Int32) (i : Nat) : Prop := ∀ j, j < i → ∀ p, itN (rOut t n) (j + 1) s = .inl p → f1 j = nI (pos (itN (rOut t n) j s)) ∧ f2 j = nI (pos (outZ t n (itN (rOut t n) j s)).2) ∧ f3 j = nI (outZ t n (itN (rOut t n) j s)).1
theorem upd_ne {f : Nat → Int32} {i j : Nat} {x : Int32} (h : j ≠ i) : upd f i x j = f j := pk_un h
theorem upd_eq {f : Nat → Int32} {i : Nat} {x : Int32} : upd f i x i = x := pk_us
theorem Hin_s {t : Nat → Nat} {n : Nat} {s : RS} {f1 f2 f3 : Nat → Int32} {i : Nat} {q q2 : Int32} (h : Hin t n s f1 f2 f3 i) : Hin t n s (upd f1 i (rN (itN (rIn t n) i s) q)) (upd f2 i (rN (inZ t n (itN (rIn t n) i s)).2 q2)) (upd f3 i (nI (inZ t n (itN (rIn t n) i s)).1)) (i + 1) := by
  intro j hj p hp
  by_cases e : j = i
  · subst e
    rw [upd_eq, upd_eq, upd_eq]
    obtain ⟨a, b, h1, h2, -⟩ := rIn_in hp
    rw [h1] at h2 ⊢
    rw [h2]
    exact ⟨rfl, rfl, rfl⟩
  · rw [upd_ne e, upd_ne e, upd_ne e]
    exact h j (by omega) p hp
theorem Hout_s {t : Nat → Nat} {n : Nat} {s : RS} {f1 f2 f3 : Nat → Int32} {i : Nat} {q q2 : Int32} (h : Hout t n s f1 f2 f3 i) : Hout t n s (upd f1 i (rN (itN (rOut t n) i s) q)) (upd f2 i (rN (outZ t n (itN (rOut t n) i s)).2 q2)) (upd f3 i (nI (outZ t n (itN (rOut t n) i s)).1)) (i + 1) := by
  intro j hj p hp
  by_cases e : j = i
  · subst e
    rw [upd_eq, upd_eq, upd_eq]
    obtain ⟨a, b, h1, h2, -⟩ := rOut_in hp
    rw [h1] at h2 ⊢
    rw [h2]
    exact ⟨rfl, rfl, rfl⟩
  · rw [upd_ne e, upd_ne e, upd_ne e]
    exact h j (by omega) p hp
/-- a transaction that begins in state s -/
def xZ (t : Nat → Nat) (n : Nat) (s : RS) : Nat × RS := rSize t n 8 (rPass n 4 s)
def xI (t : Nat → Nat) (n : Nat) (s : RS) (j : Nat) : RS := itN (rIn t n) j (xZ t n s).2
def xY (t : Nat → Nat) (n : Nat) (s : RS) : Nat × RS := rSize t n 8 (xI t n s (xZ t n s).1)
def xO (t : Nat → Nat) (n : Nat) (s : RS) (j : Nat) : RS := itN (rOut t n) j (xY t n s).2
def rTx (t : Nat → Nat) (n : Nat) (s : RS) : RS := rPass n 4 (xO t n s (xY t n s).1)
theorem xZ_R {t : Nat → Nat} {n : Nat} {s : RS} (h : ROk n s) : ROk n (xZ t n s).2 := rSize_R (rPass_R h)
theorem xI_R {t : Nat → Nat} {n j : Nat} {s : RS} (h : ROk n s) : ROk n (xI t n s j) := itN_R (fun _ => rIn_R) j (xZ_R h)
theorem xY_R {t : Nat → Nat} {n : Nat} {s : RS} (h : ROk n s) : ROk n (xY t n s).2 := rSize_R (xI_R h)
theorem xO_R {t : Nat → Nat} {n j : Nat} {s : RS} (h : ROk n s) : ROk n (xO t n s j) := itN_R (fun _ => rOut_R) j (xY_R h)
theorem rTx_R {t : Nat → Nat} {n : Nat} {s : RS} (h : ROk n s) : ROk n (rTx t n s) := rPass_R (xO_R h)
/-- the end of all -/
def rFin (n : Nat) (s : RS) : RS := match s with
  | .inl p => if p < n then .inr (4, p) else .inl p
  | .inr e => .inr e
theorem rFin_R {n : Nat} {s : RS} (h : ROk n s) : ROk n (rFin n s) := by
  rcases s with p | e
  · have hp : p ≤ n := h
    unfold rFin
    simp only
    split
    · exact ⟨Nat.le_of_ble_eq_true rfl, Nat.le_of_ble_eq_true rfl, hp⟩
    · exact hp
  · exact h
/-- what the class keeps of a transaction that began in state s -/
def TxOk (t : Nat → Nat) (n : Nat) (s : RS) (y : Nat → Int32) (f : Nat → Nat → Int32) : Prop := ∀ p, rTx t n s = .inl p → y 0 = nI (pos s) ∧ y 1 = nI p ∧ y 2 = nI (xZ t n s).1 ∧ y 3 = nI (xY t n s).1 ∧ Hin t n (xZ t n s).2 (f 1) (f 2) (f 3) (xZ t n s).1 ∧ Hout t n (xY t n s).2 (f 4) (f 5) (f 6) (xY t n s).1
theorem itN_in {f : RS → RS} (hf : ∀ s p, f s = .inl p → ∃ a, s = .inl a) : ∀ (k : Nat) {s : RS} {p : Nat}, itN f k s = .inl p → ∀ j, j ≤ k → ∃ a, itN f j s = .inl a
  | 0, s, p, h, j, hj => by
    obtain rfl : j = 0 := by omega
    exact ⟨p, h⟩
  | k + 1, s, p, h, j, hj => by
    by_cases e : j = k + 1
    · subst e; exact ⟨p, h⟩
    · obtain ⟨a, ha⟩ := hf _ _ h
      exact itN_in hf k ha j (by omega)
theorem rIn_st (t : Nat → Nat) (n : Nat) : ∀ s p, rIn t n s = .inl p → ∃ a, s = .inl a := fun s p h => by
  obtain ⟨a, b, h1, -⟩ := rIn_in h
  exact ⟨a, h1⟩
theorem rOut_st (t : Nat → Nat) (n : Nat) : ∀ s p, rOut t n s = .inl p → ∃ a, s = .inl a := fun s p h => by
  obtain ⟨a, b, h1, -⟩ := rOut_in h
  exact ⟨a, h1⟩
theorem rTx_st (t : Nat → Nat) (n : Nat) : ∀ s p, rTx t n s = .inl p → ∃ a, s = .inl a := fun s p h => by
  obtain ⟨a, h1, -⟩ := rPass_in h
  obtain ⟨b, h2⟩ := itN_in (rOut_st t n) _ h1 0 (Nat.zero_le _)
  obtain ⟨c, h3, -⟩ := rSize_in h2
  obtain ⟨d, h4⟩ := itN_in (rIn_st t n) _ h3 0 (Nat.zero_le _)
  obtain ⟨e, h5, -⟩ := rSize_in h4
  obtain ⟨b, h6, -⟩ := rPass_in h5
  exact ⟨b, h6⟩
theorem TxOk_of {t : Nat → Nat} {n : Nat} {s : RS} {q q1 : Int32} {f1 f2 f3 f4 f5 f6 : Nat → Int32} (h1 : Hin t n (xZ t n s).2 f1 f2 f3 (xZ t n s).1) (h2 : Hout t n (xY t n s).2 f4 f5 f6 (xY t n s).1) {y : Nat → Int32} {f : Nat → Nat → Int32} (y0 : y 0 = rN s q) (y1 : y 1 = rN (rTx t n s) q1) (y2 : y 2 = nI (xZ t n s).1) (y3 : y 3 = nI (xY t n s).1) (e1 : f 1 = f1) (e2 : f 2 = f2) (e3 : f 3 = f3) (e4 : f 4 = f4) (e5 : f 5 = f5) (e6 : f 6 = f6) : TxOk t n s y f := by
  intro p hp
  obtain ⟨a, ha⟩ := rTx_st t n s p hp
  refine ⟨by rw [y0, ha]; rfl, by rw [y1, hp]; rfl, y2, y3, by rw [e1, e2, e3]; exact h1, by rw [e4, e5, e6]; exact h2⟩
def sel4 (a b c d : Int32) : Nat → Int32 | 0 => a | 1 => b | 2 => c | _ => d
def sel6 (a b c d e f : Nat → Int32) : Nat → Nat → Int32 | 1 => a | 2 => b | 3 => c | 4 => d | 5 => e | _ => f
end
section
abbrev rm_Rea_takeInput : Room := { frames := 3, cells := 0, slots := 0, locals := 69 }
set_option maxHeartbeats 4000000 in
set_option maxRecDepth 100000 in
theorem c_Rea_takeInput (l : Launch) (g : JX) (r0 th hb x0 b1 b2 b3 b4 b5 b6 n i : Nat) (t : Nat → Nat) (s : RS) (q y1 y2 y3 y4 : Int32) (f1 f2 f3 : Nat → Int32) (hn : n ≤ 2000) (hT : ∀ j, t j < 256) (hs : ROk n s) (hi : i < 8) : j_Ct l y_Rea_takeInput b_Rea_takeInput 4 none rm_Rea_takeInput g ([(r0, .inr (2, [.ref th, .int (rN s q), .int (nI (rF s)), .int (rP s)])), (th, .inr (3, [.ref hb, .int (nI n)])), (hb, .inl (aB g, 2000, .inl (bf t))), (x0, .inr (4, [.int y1, .int y2, .int y3, .int y4, .ref b1, .ref b2, .ref b3, .ref b4, .ref b5, .ref b6])), (b1, .inl (aI g, 8, .inl f1)), (b2, .inl (aI g, 8, .inl f2)), (b3, .inl (aI g, 8, .inl f3))]) [.ref r0, .ref x0, .int (nI i)] (fun r w => ∃ q1 q2 : Int32, r = none ∧ w = [(r0, .inr (2, [.ref th, .int (rN (rIn t n s) q1), .int (nI (rF (rIn t n s))), .int (rP (rIn t n s))])), (th, .inr (3, [.ref hb, .int (nI n)])), (hb, .inl (aB g, 2000, .inl (bf t))), (x0, .inr (4, [.int y1, .int y2, .int y3, .int y4, .ref b1, .ref b2, .ref b3, .ref b4, .ref b5, .ref b6])), (b1, .inl (aI g, 8, .inl (upd f1 i (rN s q)))), (b2, .inl (aI g, 8, .inl (upd f2 i (rN (inZ t n s).2 q2)))), (b3, .inl (aI g, 8, .inl (upd f3 i (nI (inZ t n s).1))))]) 0 0 := by
  refine j_ct (by decide) (Nat.le_of_ble_eq_true rfl) (fun κ hkl C hR hI => ?_)
  show j_V g κ 0 0 0 [(0, .ref r0), (1, .ref x0), (2, .int (nI i))] [] ([(r0, .inr (2, [.ref th, .int (rN s q), .int (nI (rF s)), .int (rP s)])), (th, .inr (3, [.ref hb, .int (nI n)])), (hb, .inl (aB g, 2000, .inl (bf t))), (x0, .inr (4, [.int y1, .int y2, .int y3, .int y4, .ref b1, .ref b2, .ref b3, .ref b4, .ref b5, .ref b6])), (b1, .inl (aI g, 8, .inl f1)), (b2, .inl (aI g, 8, .inl f2)), (b3, .inl (aI g, 8, .inl f3))])
  refine j_aload_n (pc := 0) C d_Rea_takeInput_0 rfl 1 rfl ?_
  refine j_get (pc := 1) C F_Rea_67 3 rfl rfl d_Rea_takeInput_1 ?_
  refine j_iload_n (pc := 4) C d_Rea_takeInput_4 rfl 2 rfl ?_
  refine j_aload_n (pc := 5) C d_Rea_takeInput_5 rfl 0 rfl ?_
  refine j_get (pc := 6) C F_Rea_9 0 rfl rfl d_Rea_takeInput_6 ?_
  refine j_iastN (pc := 9) (ws' := [(r0, .inr (2, [.ref th, .int (rN s q), .int (nI (rF s)), .int (rP s)])), (th, .inr (3, [.ref hb, .int (nI n)])), (hb, .inl (aB g, 2000, .inl (bf t))), (x0, .inr (4, [.int y1, .int y2, .int y3, .int y4, .ref b1, .ref b2, .ref b3, .ref b4, .ref b5, .ref b6])), (b1, .inl (aI g, 8, .inl (upd f1 i (rN s q)))), (b2, .inl (aI g, 8, .inl f2)), (b3, .inl (aI g, 8, .inl f3))]) C 4 1 rfl rfl (by omega) (by omega) rfl d_Rea_takeInput_9 ?_
  refine j_aload_n (pc := 10) C d_Rea_takeInput_10 rfl 0 rfl ?_
  refine j_bipush (pc := 11) (v := nI 36) C d_Rea_takeInput_11 (by decide) ?_
  refine j_callV (pc := 13) (As := [.int (nI 36)]) (rest := []) (wc := [(r0, .inr (2, [.ref th, .int (rN s q), .int (nI (rF s)), .int (rP s)])), (th, .inr (3, [.ref hb, .int (nI n)]))]) (wr := [(hb, .inl (aB g, 2000, .inl (bf t))), (x0, .inr (4, [.int y1, .int y2, .int y3, .int y4, .ref b1, .ref b2, .ref b3, .ref b4, .ref b5, .ref b6])), (b1, .inl (aI g, 8, .inl (upd f1 i (rN s q)))), (b2, .inl (aI g, 8, .inl f2)), (b3, .inl (aI g, 8, .inl f3))]) C (c_Rea_skip (kl κ) g r0 th hb n 36 s q (by omega) (by omega) (hs)) Y_Rea_skip ml_Rea_34 im_Rea_skip sl_Rea_skip rfl ⟨by decide, by decide⟩ rfl (ci := 2) (q0 := 0) rfl rfl rfl (Nat.le_of_ble_eq_true rfl) (j_sb [0, 1, 2, 3, 4, 5, 6] rfl rfl) rfl d_Rea_takeInput_13 (fun r w1 hO => ?_)
  obtain ⟨q1, rfl, rfl⟩ := hO
  show j_V g κ 0 0 16 [(0, .ref r0), (1, .ref x0), (2, .int (nI i))] [] ([(r0, .inr (2, [.ref th, .int (rN (rPass n 36 s) q1), .int (nI (rF (rPass n 36 s))), .int (rP (rPass n 36 s))])), (th, .inr (3, [.ref hb, .int (nI n)])), (hb, .inl (aB g, 2000, .inl (bf t))), (x0, .inr (4, [.int y1, .int y2, .int y3, .int y4, .ref b1, .ref b2, .ref b3, .ref b4, .ref b5, .ref b6])), (b1, .inl (aI g, 8, .inl (upd f1 i (rN s q)))), (b2, .inl (aI g, 8, .inl f2)), (b3, .inl (aI g, 8, .inl f3))])
  refine j_aload_n (pc := 16) C d_Rea_takeInput_16 rfl 0 rfl ?_
  refine j_sipush (pc := 17) (v := nI 200) C d_Rea_takeInput_17 (by decide) ?_
  refine j_callV (pc := 20) (As := [.int (nI 200)]) (rest := []) (wc := [(r0, .inr (2, [.ref th, .int (rN (rPass n 36 s) q1), .int (nI (rF (rPass n 36 s))), .int (rP (rPass n 36 s))])), (th, .inr (3, [.ref hb, .int (nI n)])), (hb, .inl (aB g, 2000, .inl (bf t)))]) (wr := [(x0, .inr (4, [.int y1, .int y2, .int y3, .int y4, .ref b1, .ref b2, .ref b3, .ref b4, .ref b5, .ref b6])), (b1, .inl (aI g, 8, .inl (upd f1 i (rN s q)))), (b2, .inl (aI g, 8, .inl f2)), (b3, .inl (aI g, 8, .inl f3))]) C (c_Rea_takeSize (kl κ) g r0 th hb n 200 t (rPass n 36 s) q1 (by omega) (by omega) hT (rPass_R (hs))) Y_Rea_takeSize ml_Rea_38 im_Rea_takeSize sl_Rea_takeSize rfl ⟨by decide, by decide⟩ rfl (ci := 2) (q0 := 0) rfl rfl rfl (Nat.le_of_ble_eq_true rfl) (j_sb [0, 1, 2, 3, 4, 5, 6] rfl rfl) rfl d_Rea_takeInput_20 (fun r w1 hO => ?_)
  obtain ⟨q2, rfl, rfl⟩ := hO
  show j_V g κ 0 0 23 [(0, .ref r0), (1, .ref x0), (2, .int (nI i))] [.int (nI ((rSize t n 200 (rPass n 36 s)).1))] ([(r0, .inr (2, [.ref th, .int (rN ((rSize t n 200 (rPass n 36 s)).2) q2), .int (nI (rF ((rSize t n 200 (rPass n 36 s)).2))), .int (rP ((rSize t n 200 (rPass n 36 s)).2))])), (th, .inr (3, [.ref hb, .int (nI n)])), (hb, .inl (aB g, 2000, .inl (bf t))), (x0, .inr (4, [.int y1, .int y2, .int y3, .int y4, .ref b1, .ref b2, .ref b3, .ref b4, .ref b5, .ref b6])), (b1, .inl (aI g, 8, .inl (upd f1 i (rN s q)))), (b2, .inl (aI g, 8, .inl f2)), (b3, .inl (aI g, 8, .inl f3))])
  have hz20 : (rSize t n 200 (rPass n 36 s)).1 ≤ 200 := rSize_le
  refine j_istore_n (pc := 23) (lv' := [(3, .int (nI ((rSize t n 200 (rPass n 36 s)).1))), (0, .ref r0), (1, .ref x0), (2, .int (nI i))]) C d_Rea_takeInput_23 rfl (by decide) rfl ?_
  refine j_aload_n (pc := 24) C d_Rea_takeInput_24 rfl 2 rfl ?_
  refine j_get (pc := 25) C F_Rea_71 3 rfl rfl d_Rea_takeInput_25 ?_
  refine j_iload_n (pc := 28) C d_Rea_takeInput_28 rfl 3 rfl ?_
  refine j_aload_n (pc := 29) C d_Rea_takeInput_29 rfl 1 rfl ?_
  refine j_get (pc := 30) C F_Rea_9 0 rfl rfl d_Rea_takeInput_30 ?_
  refine j_iastN (pc := 33) (ws' := [(r0, .inr (2, [.ref th, .int (rN ((rSize t n 200 (rPass n 36 s)).2) q2), .int (nI (rF ((rSize t n 200 (rPass n 36 s)).2))), .int (rP ((rSize t n 200 (rPass n 36 s)).2))])), (th, .inr (3, [.ref hb, .int (nI n)])), (hb, .inl (aB g, 2000, .inl (bf t))), (x0, .inr (4, [.int y1, .int y2, .int y3, .int y4, .ref b1, .ref b2, .ref b3, .ref b4, .ref b5, .ref b6])), (b1, .inl (aI g, 8, .inl (upd f1 i (rN s q)))), (b2, .inl (aI g, 8, .inl (upd f2 i (rN ((rSize t n 200 (rPass n 36 s)).2) q2)))), (b3, .inl (aI g, 8, .inl f3))]) C 5 1 rfl rfl (by omega) (by omega) rfl d_Rea_takeInput_33 ?_
  refine j_aload_n (pc := 34) C d_Rea_takeInput_34 rfl 2 rfl ?_
  refine j_get (pc := 35) C F_Rea_74 3 rfl rfl d_Rea_takeInput_35 ?_
  refine j_iload_n (pc := 38) C d_Rea_takeInput_38 rfl 3 rfl ?_
  refine j_iload_n (pc := 39) C d_Rea_takeInput_39 rfl 0 rfl ?_
  refine j_iastN (pc := 40) (ws' := [(r0, .inr (2, [.ref th, .int (rN ((rSize t n 200 (rPass n 36 s)).2) q2), .int (nI (rF ((rSize t n 200 (rPass n 36 s)).2))), .int (rP ((rSize t n 200 (rPass n 36 s)).2))])), (th, .inr (3, [.ref hb, .int (nI n)])), (hb, .inl (aB g, 2000, .inl (bf t))), (x0, .inr (4, [.int y1, .int y2, .int y3, .int y4, .ref b1, .ref b2, .ref b3, .ref b4, .ref b5, .ref b6])), (b1, .inl (aI g, 8, .inl (upd f1 i (rN s q)))), (b2, .inl (aI g, 8, .inl (upd f2 i (rN ((rSize t n 200 (rPass n 36 s)).2) q2)))), (b3, .inl (aI g, 8, .inl (upd f3 i (nI ((rSize t n 200 (rPass n 36 s)).1)))))]) C 6 1 rfl rfl (by omega) (by omega) rfl d_Rea_takeInput_40 ?_
  refine j_aload_n (pc := 41) C d_Rea_takeInput_41 rfl 1 rfl ?_
  refine j_iload_n (pc := 42) C d_Rea_takeInput_42 rfl 0 rfl ?_
  refine j_iconst (pc := 43) (v := nI 4) C d_Rea_takeInput_43 (by decide) ?_
  refine j_iaddN (pc := 44) C d_Rea_takeInput_44 ?_
  refine j_callV (pc := 45) (As := [.int (nI (((rSize t n 200 (rPass n 36 s)).1) + 4))]) (rest := []) (wc := [(r0, .inr (2, [.ref th, .int (rN ((rSize t n 200 (rPass n 36 s)).2) q2), .int (nI (rF ((rSize t n 200 (rPass n 36 s)).2))), .int (rP ((rSize t n 200 (rPass n 36 s)).2))])), (th, .inr (3, [.ref hb, .int (nI n)]))]) (wr := [(hb, .inl (aB g, 2000, .inl (bf t))), (x0, .inr (4, [.int y1, .int y2, .int y3, .int y4, .ref b1, .ref b2, .ref b3, .ref b4, .ref b5, .ref b6])), (b1, .inl (aI g, 8, .inl (upd f1 i (rN s q)))), (b2, .inl (aI g, 8, .inl (upd f2 i (rN ((rSize t n 200 (rPass n 36 s)).2) q2)))), (b3, .inl (aI g, 8, .inl (upd f3 i (nI ((rSize t n 200 (rPass n 36 s)).1)))))]) C (c_Rea_skip (kl κ) g r0 th hb n (((rSize t n 200 (rPass n 36 s)).1) + 4) ((rSize t n 200 (rPass n 36 s)).2) q2 (by omega) (by omega) (rSize_R (rPass_R (hs)))) Y_Rea_skip ml_Rea_34 im_Rea_skip sl_Rea_skip rfl ⟨by decide, by decide⟩ rfl (ci := 2) (q0 := 0) rfl rfl rfl (Nat.le_of_ble_eq_true rfl) (j_sb [0, 1, 2, 3, 4, 5, 6] rfl rfl) rfl d_Rea_takeInput_45 (fun r w1 hO => ?_)
  obtain ⟨q3, rfl, rfl⟩ := hO
  show j_V g κ 0 0 48 [(3, .int (nI ((rSize t n 200 (rPass n 36 s)).1))), (0, .ref r0), (1, .ref x0), (2, .int (nI i))] [] ([(r0, .inr (2, [.ref th, .int (rN (rPass n (((rSize t n 200 (rPass n 36 s)).1) + 4) ((rSize t n 200 (rPass n 36 s)).2)) q3), .int (nI (rF (rPass n (((rSize t n 200 (rPass n 36 s)).1) + 4) ((rSize t n 200 (rPass n 36 s)).2)))), .int (rP (rPass n (((rSize t n 200 (rPass n 36 s)).1) + 4) ((rSize t n 200 (rPass n 36 s)).2)))])), (th, .inr (3, [.ref hb, .int (nI n)])), (hb, .inl (aB g, 2000, .inl (bf t))), (x0, .inr (4, [.int y1, .int y2, .int y3, .int y4, .ref b1, .ref b2, .ref b3, .ref b4, .ref b5, .ref b6])), (b1, .inl (aI g, 8, .inl (upd f1 i (rN s q)))), (b2, .inl (aI g, 8, .inl (upd f2 i (rN ((rSize t n 200 (rPass n 36 s)).2) q2)))), (b3, .inl (aI g, 8, .inl (upd f3 i (nI ((rSize t n 200 (rPass n 36 s)).1)))))])
  exact hR.2.2 _ _ _ d_Rea_takeInput_48 rfl (⟨q3, q2, rfl, rfl⟩)
abbrev rm_Rea_takeOutput : Room := { frames := 3, cells := 0, slots := 0, locals := 69 }
set_option maxHeartbeats 4000000 in
set_option maxRecDepth 100000 in
theorem c_Rea_takeOutput (l : Launch) (g : JX) (r0 th hb x0 b1 b2 b3 b4 b5 b6 n i : Nat) (t : Nat → Nat) (s : RS) (q y1 y2 y3 y4 : Int32) (f4 f5 f6 : Nat → Int32) (hn : n ≤ 2000) (hT : ∀ j, t j < 256) (hs : ROk n s) (hi : i < 8) : j_Ct l y_Rea_takeOutput b_Rea_takeOutput 4 none rm_Rea_takeOutput g ([(r0, .inr (2, [.ref th, .int (rN s q), .int (nI (rF s)), .int (rP s)])), (th, .inr (3, [.ref hb, .int (nI n)])), (hb, .inl (aB g, 2000, .inl (bf t))), (x0, .inr (4, [.int y1, .int y2, .int y3, .int y4, .ref b1, .ref b2, .ref b3, .ref b4, .ref b5, .ref b6])), (b4, .inl (aI g, 8, .inl f4)), (b5, .inl (aI g, 8, .inl f5)), (b6, .inl (aI g, 8, .inl f6))]) [.ref r0, .ref x0, .int (nI i)] (fun r w => ∃ q1 q2 : Int32, r = none ∧ w = [(r0, .inr (2, [.ref th, .int (rN (rOut t n s) q1), .int (nI (rF (rOut t n s))), .int (rP (rOut t n s))])), (th, .inr (3, [.ref hb, .int (nI n)])), (hb, .inl (aB g, 2000, .inl (bf t))), (x0, .inr (4, [.int y1, .int y2, .int y3, .int y4, .ref b1, .ref b2, .ref b3, .ref b4, .ref b5, .ref b6])), (b4, .inl (aI g, 8, .inl (upd f4 i (rN s q)))), (b5, .inl (aI g, 8, .inl (upd f5 i (rN (outZ t n s).2 q2)))), (b6, .inl (aI g, 8, .inl (upd f6 i (nI (outZ t n s).1))))]) 0 0 := by
  refine j_ct (by decide) (Nat.le_of_ble_eq_true rfl) (fun κ hkl C hR hI => ?_)
  show j_V g κ 0 0 0 [(0, .ref r0), (1, .ref x0), (2, .int (nI i))] [] ([(r0, .inr (2, [.ref th, .int (rN s q), .int (nI (rF s)), .int (rP s)])), (th, .inr (3, [.ref hb, .int (nI n)])), (hb, .inl (aB g, 2000, .inl (bf t))), (x0, .inr (4, [.int y1, .int y2, .int y3, .int y4, .ref b1, .ref b2, .ref b3, .ref b4, .ref b5, .ref b6])), (b4, .inl (aI g, 8, .inl f4)), (b5, .inl (aI g, 8, .inl f5)), (b6, .inl (aI g, 8, .inl f6))])
  refine j_aload_n (pc := 0) C d_Rea_takeOutput_0 rfl 1 rfl ?_
  refine j_get (pc := 1) C F_Rea_77 3 rfl rfl d_Rea_takeOutput_1 ?_
  refine j_iload_n (pc := 4) C d_Rea_takeOutput_4 rfl 2 rfl ?_
  refine j_aload_n (pc := 5) C d_Rea_takeOutput_5 rfl 0 rfl ?_
  refine j_get (pc := 6) C F_Rea_9 0 rfl rfl d_Rea_takeOutput_6 ?_
  refine j_iastN (pc := 9) (ws' := [(r0, .inr (2, [.ref th, .int (rN s q), .int (nI (rF s)), .int (rP s)])), (th, .inr (3, [.ref hb, .int (nI n)])), (hb, .inl (aB g, 2000, .inl (bf t))), (x0, .inr (4, [.int y1, .int y2, .int y3, .int y4, .ref b1, .ref b2, .ref b3, .ref b4, .ref b5, .ref b6])), (b4, .inl (aI g, 8, .inl (upd f4 i (rN s q)))), (b5, .inl (aI g, 8, .inl f5)), (b6, .inl (aI g, 8, .inl f6))]) C 4 1 rfl rfl (by omega) (by omega) rfl d_Rea_takeOutput_9 ?_
  refine j_aload_n (pc := 10) C d_Rea_takeOutput_10 rfl 0 rfl ?_
  refine j_bipush (pc := 11) (v := nI 8) C d_Rea_takeOutput_11 (by decide) ?_
  refine j_callV (pc := 13) (As := [.int (nI 8)]) (rest := []) (wc := [(r0, .inr (2, [.ref th, .int (rN s q), .int (nI (rF s)), .int (rP s)])), (th, .inr (3, [.ref hb, .int (nI n)]))]) (wr := [(hb, .inl (aB g, 2000, .inl (bf t))), (x0, .inr (4, [.int y1, .int y2, .int y3, .int y4, .ref b1, .ref b2, .ref b3, .ref b4, .ref b5, .ref b6])), (b4, .inl (aI g, 8, .inl (upd f4 i (rN s q)))), (b5, .inl (aI g, 8, .inl f5)), (b6, .inl (aI g, 8, .inl f6))]) C (c_Rea_skip (kl κ) g r0 th hb n 8 s q (by omega) (by omega) (hs)) Y_Rea_skip ml_Rea_34 im_Rea_skip sl_Rea_skip rfl ⟨by decide, by decide⟩ rfl (ci := 2) (q0 := 0) rfl rfl rfl (Nat.le_of_ble_eq_true rfl) (j_sb [0, 1, 2, 3, 4, 5, 6] rfl rfl) rfl d_Rea_takeOutput_13 (fun r w1 hO => ?_)
  obtain ⟨q1, rfl, rfl⟩ := hO
  show j_V g κ 0 0 16 [(0, .ref r0), (1, .ref x0), (2, .int (nI i))] [] ([(r0, .inr (2, [.ref th, .int (rN (rPass n 8 s) q1), .int (nI (rF (rPass n 8 s))), .int (rP (rPass n 8 s))])), (th, .inr (3, [.ref hb, .int (nI n)])), (hb, .inl (aB g, 2000, .inl (bf t))), (x0, .inr (4, [.int y1, .int y2, .int y3, .int y4, .ref b1, .ref b2, .ref b3, .ref b4, .ref b5, .ref b6])), (b4, .inl (aI g, 8, .inl (upd f4 i (rN s q)))), (b5, .inl (aI g, 8, .inl f5)), (b6, .inl (aI g, 8, .inl f6))])
  refine j_aload_n (pc := 16) C d_Rea_takeOutput_16 rfl 0 rfl ?_
  refine j_sipush (pc := 17) (v := nI 200) C d_Rea_takeOutput_17 (by decide) ?_
  refine j_callV (pc := 20) (As := [.int (nI 200)]) (rest := []) (wc := [(r0, .inr (2, [.ref th, .int (rN (rPass n 8 s) q1), .int (nI (rF (rPass n 8 s))), .int (rP (rPass n 8 s))])), (th, .inr (3, [.ref hb, .int (nI n)])), (hb, .inl (aB g, 2000, .inl (bf t)))]) (wr := [(x0, .inr (4, [.int y1, .int y2, .int y3, .int y4, .ref b1, .ref b2, .ref b3, .ref b4, .ref b5, .ref b6])), (b4, .inl (aI g, 8, .inl (upd f4 i (rN s q)))), (b5, .inl (aI g, 8, .inl f5)), (b6, .inl (aI g, 8, .inl f6))]) C (c_Rea_takeSize (kl κ) g r0 th hb n 200 t (rPass n 8 s) q1 (by omega) (by omega) hT (rPass_R (hs))) Y_Rea_takeSize ml_Rea_38 im_Rea_takeSize sl_Rea_takeSize rfl ⟨by decide, by decide⟩ rfl (ci := 2) (q0 := 0) rfl rfl rfl (Nat.le_of_ble_eq_true rfl) (j_sb [0, 1, 2, 3, 4, 5, 6] rfl rfl) rfl d_Rea_takeOutput_20 (fun r w1 hO => ?_)
  obtain ⟨q2, rfl, rfl⟩ := hO
  show j_V g κ 0 0 23 [(0, .ref r0), (1, .ref x0), (2, .int (nI i))] [.int (nI ((rSize t n 200 (rPass n 8 s)).1))] ([(r0, .inr (2, [.ref th, .int (rN ((rSize t n 200 (rPass n 8 s)).2) q2), .int (nI (rF ((rSize t n 200 (rPass n 8 s)).2))), .int (rP ((rSize t n 200 (rPass n 8 s)).2))])), (th, .inr (3, [.ref hb, .int (nI n)])), (hb, .inl (aB g, 2000, .inl (bf t))), (x0, .inr (4, [.int y1, .int y2, .int y3, .int y4, .ref b1, .ref b2, .ref b3, .ref b4, .ref b5, .ref b6])), (b4, .inl (aI g, 8, .inl (upd f4 i (rN s q)))), (b5, .inl (aI g, 8, .inl f5)), (b6, .inl (aI g, 8, .inl f6))])
  have hz20 : (rSize t n 200 (rPass n 8 s)).1 ≤ 200 := rSize_le
  refine j_istore_n (pc := 23) (lv' := [(3, .int (nI ((rSize t n 200 (rPass n 8 s)).1))), (0, .ref r0), (1, .ref x0), (2, .int (nI i))]) C d_Rea_takeOutput_23 rfl (by decide) rfl ?_
  refine j_aload_n (pc := 24) C d_Rea_takeOutput_24 rfl 2 rfl ?_
  refine j_get (pc := 25) C F_Rea_80 3 rfl rfl d_Rea_takeOutput_25 ?_
  refine j_iload_n (pc := 28) C d_Rea_takeOutput_28 rfl 3 rfl ?_
  refine j_aload_n (pc := 29) C d_Rea_takeOutput_29 rfl 1 rfl ?_
  refine j_get (pc := 30) C F_Rea_9 0 rfl rfl d_Rea_takeOutput_30 ?_
  refine j_iastN (pc := 33) (ws' := [(r0, .inr (2, [.ref th, .int (rN ((rSize t n 200 (rPass n 8 s)).2) q2), .int (nI (rF ((rSize t n 200 (rPass n 8 s)).2))), .int (rP ((rSize t n 200 (rPass n 8 s)).2))])), (th, .inr (3, [.ref hb, .int (nI n)])), (hb, .inl (aB g, 2000, .inl (bf t))), (x0, .inr (4, [.int y1, .int y2, .int y3, .int y4, .ref b1, .ref b2, .ref b3, .ref b4, .ref b5, .ref b6])), (b4, .inl (aI g, 8, .inl (upd f4 i (rN s q)))), (b5, .inl (aI g, 8, .inl (upd f5 i (rN ((rSize t n 200 (rPass n 8 s)).2) q2)))), (b6, .inl (aI g, 8, .inl f6))]) C 5 1 rfl rfl (by omega) (by omega) rfl d_Rea_takeOutput_33 ?_
  refine j_aload_n (pc := 34) C d_Rea_takeOutput_34 rfl 2 rfl ?_
  refine j_get (pc := 35) C F_Rea_83 3 rfl rfl d_Rea_takeOutput_35 ?_
  refine j_iload_n (pc := 38) C d_Rea_takeOutput_38 rfl 3 rfl ?_
  refine j_iload_n (pc := 39) C d_Rea_takeOutput_39 rfl 0 rfl ?_
  refine j_iastN (pc := 40) (ws' := [(r0, .inr (2, [.ref th, .int (rN ((rSize t n 200 (rPass n 8 s)).2) q2), .int (nI (rF ((rSize t n 200 (rPass n 8 s)).2))), .int (rP ((rSize t n 200 (rPass n 8 s)).2))])), (th, .inr (3, [.ref hb, .int (nI n)])), (hb, .inl (aB g, 2000, .inl (bf t))), (x0, .inr (4, [.int y1, .int y2, .int y3, .int y4, .ref b1, .ref b2, .ref b3, .ref b4, .ref b5, .ref b6])), (b4, .inl (aI g, 8, .inl (upd f4 i (rN s q)))), (b5, .inl (aI g, 8, .inl (upd f5 i (rN ((rSize t n 200 (rPass n 8 s)).2) q2)))), (b6, .inl (aI g, 8, .inl (upd f6 i (nI ((rSize t n 200 (rPass n 8 s)).1)))))]) C 6 1 rfl rfl (by omega) (by omega) rfl d_Rea_takeOutput_40 ?_
  refine j_aload_n (pc := 41) C d_Rea_takeOutput_41 rfl 1 rfl ?_
  refine j_iload_n (pc := 42) C d_Rea_takeOutput_42 rfl 0 rfl ?_
  refine j_callV (pc := 43) (As := [.int (nI ((rSize t n 200 (rPass n 8 s)).1))]) (rest := []) (wc := [(r0, .inr (2, [.ref th, .int (rN ((rSize t n 200 (rPass n 8 s)).2) q2), .int (nI (rF ((rSize t n 200 (rPass n 8 s)).2))), .int (rP ((rSize t n 200 (rPass n 8 s)).2))])), (th, .inr (3, [.ref hb, .int (nI n)]))]) (wr := [(hb, .inl (aB g, 2000, .inl (bf t))), (x0, .inr (4, [.int y1, .int y2, .int y3, .int y4, .ref b1, .ref b2, .ref b3, .ref b4, .ref b5, .ref b6])), (b4, .inl (aI g, 8, .inl (upd f4 i (rN s q)))), (b5, .inl (aI g, 8, .inl (upd f5 i (rN ((rSize t n 200 (rPass n 8 s)).2) q2)))), (b6, .inl (aI g, 8, .inl (upd f6 i (nI ((rSize t n 200 (rPass n 8 s)).1)))))]) C (c_Rea_skip (kl κ) g r0 th hb n ((rSize t n 200 (rPass n 8 s)).1) ((rSize t n 200 (rPass n 8 s)).2) q2 (by omega) (by omega) (rSize_R (rPass_R (hs)))) Y_Rea_skip ml_Rea_34 im_Rea_skip sl_Rea_skip rfl ⟨by decide, by decide⟩ rfl (ci := 2) (q0 := 0) rfl rfl rfl (Nat.le_of_ble_eq_true rfl) (j_sb [0, 1, 2, 3, 4, 5, 6] rfl rfl) rfl d_Rea_takeOutput_43 (fun r w1 hO => ?_)
  obtain ⟨q3, rfl, rfl⟩ := hO
  show j_V g κ 0 0 46 [(3, .int (nI ((rSize t n 200 (rPass n 8 s)).1))), (0, .ref r0), (1, .ref x0), (2, .int (nI i))] [] ([(r0, .inr (2, [.ref th, .int (rN (rPass n ((rSize t n 200 (rPass n 8 s)).1) ((rSize t n 200 (rPass n 8 s)).2)) q3), .int (nI (rF (rPass n ((rSize t n 200 (rPass n 8 s)).1) ((rSize t n 200 (rPass n 8 s)).2)))), .int (rP (rPass n ((rSize t n 200 (rPass n 8 s)).1) ((rSize t n 200 (rPass n 8 s)).2)))])), (th, .inr (3, [.ref hb, .int (nI n)])), (hb, .inl (aB g, 2000, .inl (bf t))), (x0, .inr (4, [.int y1, .int y2, .int y3, .int y4, .ref b1, .ref b2, .ref b3, .ref b4, .ref b5, .ref b6])), (b4, .inl (aI g, 8, .inl (upd f4 i (rN s q)))), (b5, .inl (aI g, 8, .inl (upd f5 i (rN ((rSize t n 200 (rPass n 8 s)).2) q2)))), (b6, .inl (aI g, 8, .inl (upd f6 i (nI ((rSize t n 200 (rPass n 8 s)).1)))))])
  exact hR.2.2 _ _ _ d_Rea_takeOutput_46 rfl (⟨q3, q2, rfl, rfl⟩)
abbrev rm_Rea_takeTransaction : Room := { frames := 4, cells := 0, slots := 0, locals := 92 }
set_option maxHeartbeats 4000000 in
set_option maxRecDepth 100000 in
theorem lp_tx_rIn {g : JX} {κ : JK} {r0 th hb x0 b1 b2 b3 b4 b5 b6 n ni : Nat} {t : Nat → Nat} {s2 : RS} {y1 y2 y4 : Int32} {f4 f5 f6 : Nat → Int32} (hn : n ≤ 2000) (hT : ∀ j, t j < 256) (hs : ROk n s2) (hni : ni ≤ 8) (K : ∀ (q : Int32) (f1 f2 f3 : Nat → Int32), Hin t n s2 f1 f2 f3 ni → j_V g κ 0 0 51 [(0, .ref r0), (1, .ref x0)] [] [(r0, .inr (2, [.ref th, .int (rN (itN (rIn t n) ni s2) q), .int (nI (rF (itN (rIn t n) ni s2))), .int (rP (itN (rIn t n) ni s2))])), (th, .inr (3, [.ref hb, .int (nI n)])), (hb, .inl (aB g, 2000, .inl (bf t))), (x0, .inr (4, [.int y1, .int y2, .int (nI ni), .int y4, .ref b1, .ref b2, .ref b3, .ref b4, .ref b5, .ref b6])), (b1, .inl (aI g, 8, .inl f1)), (b2, .inl (aI g, 8, .inl f2)), (b3, .inl (aI g, 8, .inl f3)), (b4, .inl (aI g, 8, .inl f4)), (b5, .inl (aI g, 8, .inl f5)), (b6, .inl (aI g, 8, .inl f6))]) (C : j_C g κ b_Rea_takeTransaction R_Rea rm_Rea_takeTransaction 3) : ∀ (k : Nat) (i : Nat) (q : Int32) (f1 f2 f3 : Nat → Int32), i ≤ ni → ni + 1 ≤ i + k → Hin t n s2 f1 f2 f3 i → j_V g κ 0 0 25 [(0, .ref r0), (1, .ref x0), (2, .int (nI i))] [] ([(r0, .inr (2, [.ref th, .int (rN (itN (rIn t n) i s2) q), .int (nI (rF (itN (rIn t n) i s2))), .int (rP (itN (rIn t n) i s2))])), (th, .inr (3, [.ref hb, .int (nI n)])), (hb, .inl (aB g, 2000, .inl (bf t))), (x0, .inr (4, [.int y1, .int y2, .int (nI ni), .int y4, .ref b1, .ref b2, .ref b3, .ref b4, .ref b5, .ref b6])), (b1, .inl (aI g, 8, .inl f1)), (b2, .inl (aI g, 8, .inl f2)), (b3, .inl (aI g, 8, .inl f3)), (b4, .inl (aI g, 8, .inl f4)), (b5, .inl (aI g, 8, .inl f5)), (b6, .inl (aI g, 8, .inl f6))]) := by
  intro k
  induction k with
  | zero =>
    intro i q f1 f2 f3 hi hk hH
    exfalso; omega
  | succ k ih =>
    intro i q f1 f2 f3 hi hk hH
    refine j_iload_n (pc := 25) C d_Rea_takeTransaction_25 rfl 2 rfl ?_
    refine j_aload_n (pc := 26) C d_Rea_takeTransaction_26 rfl 1 rfl ?_
    refine j_get (pc := 27) C F_Rea_51 3 rfl rfl d_Rea_takeTransaction_27 ?_
    refine j_icmp_geN (pc := 30) (tgt := 51) C (by omega) (by omega) d_Rea_takeTransaction_30 rfl (fun c30 => ?_) (fun c30 => ?_)
    · skip
      refine j_lv (lv' := [(0, .ref r0), (1, .ref x0)]) [0, 1] rfl ?_
      obtain rfl : i = ni := by omega
      exact K q f1 f2 f3 hH
    · skip
      refine j_iload_n (pc := 33) C d_Rea_takeTransaction_33 rfl 2 rfl ?_
      refine j_bipush (pc := 34) (v := nI 8) C d_Rea_takeTransaction_34 (by decide) ?_
      refine j_icmp_geN (pc := 36) (tgt := 51) C (by omega) (by omega) d_Rea_takeTransaction_36 rfl (fun c36 => ?_) (fun c36 => ?_)
      · skip
        exfalso; omega
      · skip
        refine j_aload_n (pc := 39) C d_Rea_takeTransaction_39 rfl 0 rfl ?_
        refine j_aload_n (pc := 40) C d_Rea_takeTransaction_40 rfl 1 rfl ?_
        refine j_iload_n (pc := 41) C d_Rea_takeTransaction_41 rfl 2 rfl ?_
        refine j_callV (pc := 42) (As := [.ref x0, .int (nI i)]) (rest := []) (wc := [(r0, .inr (2, [.ref th, .int (rN (itN (rIn t n) i s2) q), .int (nI (rF (itN (rIn t n) i s2))), .int (rP (itN (rIn t n) i s2))])), (th, .inr (3, [.ref hb, .int (nI n)])), (hb, .inl (aB g, 2000, .inl (bf t))), (x0, .inr (4, [.int y1, .int y2, .int (nI ni), .int y4, .ref b1, .ref b2, .ref b3, .ref b4, .ref b5, .ref b6])), (b1, .inl (aI g, 8, .inl f1)), (b2, .inl (aI g, 8, .inl f2)), (b3, .inl (aI g, 8, .inl f3))]) (wr := [(b4, .inl (aI g, 8, .inl f4)), (b5, .inl (aI g, 8, .inl f5)), (b6, .inl (aI g, 8, .inl f6))]) C (c_Rea_takeInput (kl κ) g r0 th hb x0 b1 b2 b3 b4 b5 b6 n i t (itN (rIn t n) i s2) q y1 y2 (nI ni) y4 f1 f2 f3 (by omega) hT (itN_R (fun _ => rIn_R) i hs) (by omega)) Y_Rea_takeInput ml_Rea_54 im_Rea_takeInput sl_Rea_takeInput rfl ⟨by decide, by decide⟩ rfl (ci := 2) (q0 := 0) rfl rfl rfl (Nat.le_of_ble_eq_true rfl) (j_sb [0, 1, 2, 3, 4, 5, 6, 7, 8, 9] rfl rfl) rfl d_Rea_takeTransaction_42 (fun r w1 hO => ?_)
        obtain ⟨qa1, qb1, rfl, rfl⟩ := hO
        show j_V g κ 0 0 45 [(0, .ref r0), (1, .ref x0), (2, .int (nI i))] [] ([(r0, .inr (2, [.ref th, .int (rN (itN (rIn t n) (i + 1) s2) qa1), .int (nI (rF (itN (rIn t n) (i + 1) s2))), .int (rP (itN (rIn t n) (i + 1) s2))])), (th, .inr (3, [.ref hb, .int (nI n)])), (hb, .inl (aB g, 2000, .inl (bf t))), (x0, .inr (4, [.int y1, .int y2, .int (nI ni), .int y4, .ref b1, .ref b2, .ref b3, .ref b4, .ref b5, .ref b6])), (b1, .inl (aI g, 8, .inl (upd f1 i (rN (itN (rIn t n) i s2) q)))), (b2, .inl (aI g, 8, .inl (upd f2 i (rN (inZ t n (itN (rIn t n) i s2)).2 qb1)))), (b3, .inl (aI g, 8, .inl (upd f3 i (nI (inZ t n (itN (rIn t n) i s2)).1)))), (b4, .inl (aI g, 8, .inl f4)), (b5, .inl (aI g, 8, .inl f5)), (b6, .inl (aI g, 8, .inl f6))])
        refine j_iinc (pc := 45) (k := 2) (v := nI (i + 1)) (lv' := [(2, .int (nI (i + 1))), (0, .ref r0), (1, .ref x0)]) C d_Rea_takeTransaction_45 rfl (j_inc _ _) (by decide) rfl ?_
        refine j_goto (pc := 48) (tgt := 25) C d_Rea_takeTransaction_48 rfl ?_
        refine j_lv (lv' := [(0, .ref r0), (1, .ref x0), (2, .int (nI (i + 1)))]) [1, 2, 0] rfl ?_
        exact ih (i + 1) _ _ _ _ (by omega) (by omega) (Hin_s hH)
set_option maxHeartbeats 4000000 in
set_option maxRecDepth 100000 in
theorem lp_tx_rOut {g : JX} {κ : JK} {r0 th hb x0 b1 b2 b3 b4 b5 b6 n ni : Nat} {t : Nat → Nat} {s2 : RS} {y1 y2 y3 : Int32} {f1 f2 f3 : Nat → Int32} (hn : n ≤ 2000) (hT : ∀ j, t j < 256) (hs : ROk n s2) (hni : ni ≤ 8) (K : ∀ (q : Int32) (f4 f5 f6 : Nat → Int32), Hout t n s2 f4 f5 f6 ni → j_V g κ 0 0 89 [(0, .ref r0), (1, .ref x0)] [] [(r0, .inr (2, [.ref th, .int (rN (itN (rOut t n) ni s2) q), .int (nI (rF (itN (rOut t n) ni s2))), .int (rP (itN (rOut t n) ni s2))])), (th, .inr (3, [.ref hb, .int (nI n)])), (hb, .inl (aB g, 2000, .inl (bf t))), (x0, .inr (4, [.int y1, .int y2, .int y3, .int (nI ni), .ref b1, .ref b2, .ref b3, .ref b4, .ref b5, .ref b6])), (b1, .inl (aI g, 8, .inl f1)), (b2, .inl (aI g, 8, .inl f2)), (b3, .inl (aI g, 8, .inl f3)), (b4, .inl (aI g, 8, .inl f4)), (b5, .inl (aI g, 8, .inl f5)), (b6, .inl (aI g, 8, .inl f6))]) (C : j_C g κ b_Rea_takeTransaction R_Rea rm_Rea_takeTransaction 3) : ∀ (k : Nat) (i : Nat) (q : Int32) (f4 f5 f6 : Nat → Int32), i ≤ ni → ni + 1 ≤ i + k → Hout t n s2 f4 f5 f6 i → j_V g κ 0 0 63 [(0, .ref r0), (1, .ref x0), (2, .int (nI i))] [] ([(r0, .inr (2, [.ref th, .int (rN (itN (rOut t n) i s2) q), .int (nI (rF (itN (rOut t n) i s2))), .int (rP (itN (rOut t n) i s2))])), (th, .inr (3, [.ref hb, .int (nI n)])), (hb, .inl (aB g, 2000, .inl (bf t))), (x0, .inr (4, [.int y1, .int y2, .int y3, .int (nI ni), .ref b1, .ref b2, .ref b3, .ref b4, .ref b5, .ref b6])), (b1, .inl (aI g, 8, .inl f1)), (b2, .inl (aI g, 8, .inl f2)), (b3, .inl (aI g, 8, .inl f3)), (b4, .inl (aI g, 8, .inl f4)), (b5, .inl (aI g, 8, .inl f5)), (b6, .inl (aI g, 8, .inl f6))]) := by
  intro k
  induction k with
  | zero =>
    intro i q f4 f5 f6 hi hk hH
    exfalso; omega
  | succ k ih =>
    intro i q f4 f5 f6 hi hk hH
    refine j_iload_n (pc := 63) C d_Rea_takeTransaction_63 rfl 2 rfl ?_
    refine j_aload_n (pc := 64) C d_Rea_takeTransaction_64 rfl 1 rfl ?_
    refine j_get (pc := 65) C F_Rea_58 3 rfl rfl d_Rea_takeTransaction_65 ?_
    refine j_icmp_geN (pc := 68) (tgt := 89) C (by omega) (by omega) d_Rea_takeTransaction_68 rfl (fun c68 => ?_) (fun c68 => ?_)
    · skip
      refine j_lv (lv' := [(0, .ref r0), (1, .ref x0)]) [0, 1] rfl ?_
      obtain rfl : i = ni := by omega
      exact K q f4 f5 f6 hH
    · skip
      refine j_iload_n (pc := 71) C d_Rea_takeTransaction_71 rfl 2 rfl ?_
      refine j_bipush (pc := 72) (v := nI 8) C d_Rea_takeTransaction_72 (by decide) ?_
      refine j_icmp_geN (pc := 74) (tgt := 89) C (by omega) (by omega) d_Rea_takeTransaction_74 rfl (fun c74 => ?_) (fun c74 => ?_)
      · skip
        exfalso; omega
      · skip
        refine j_aload_n (pc := 77) C d_Rea_takeTransaction_77 rfl 0 rfl ?_
        refine j_aload_n (pc := 78) C d_Rea_takeTransaction_78 rfl 1 rfl ?_
        refine j_iload_n (pc := 79) C d_Rea_takeTransaction_79 rfl 2 rfl ?_
        refine j_callV (pc := 80) (As := [.ref x0, .int (nI i)]) (rest := []) (wc := [(r0, .inr (2, [.ref th, .int (rN (itN (rOut t n) i s2) q), .int (nI (rF (itN (rOut t n) i s2))), .int (rP (itN (rOut t n) i s2))])), (th, .inr (3, [.ref hb, .int (nI n)])), (hb, .inl (aB g, 2000, .inl (bf t))), (x0, .inr (4, [.int y1, .int y2, .int y3, .int (nI ni), .ref b1, .ref b2, .ref b3, .ref b4, .ref b5, .ref b6])), (b4, .inl (aI g, 8, .inl f4)), (b5, .inl (aI g, 8, .inl f5)), (b6, .inl (aI g, 8, .inl f6))]) (wr := [(b1, .inl (aI g, 8, .inl f1)), (b2, .inl (aI g, 8, .inl f2)), (b3, .inl (aI g, 8, .inl f3))]) C (c_Rea_takeOutput (kl κ) g r0 th hb x0 b1 b2 b3 b4 b5 b6 n i t (itN (rOut t n) i s2) q y1 y2 y3 (nI ni) f4 f5 f6 (by omega) hT (itN_R (fun _ => rOut_R) i hs) (by omega)) Y_Rea_takeOutput ml_Rea_61 im_Rea_takeOutput sl_Rea_takeOutput rfl ⟨by decide, by decide⟩ rfl (ci := 2) (q0 := 0) rfl rfl rfl (Nat.le_of_ble_eq_true rfl) (j_sb [0, 1, 2, 3, 7, 8, 9, 4, 5, 6] rfl rfl) rfl d_Rea_takeTransaction_80 (fun r w1 hO => ?_)
        obtain ⟨qa1, qb1, rfl, rfl⟩ := hO
        show j_V g κ 0 0 83 [(0, .ref r0), (1, .ref x0), (2, .int (nI i))] [] ([(r0, .inr (2, [.ref th, .int (rN (itN (rOut t n) (i + 1) s2) qa1), .int (nI (rF (itN (rOut t n) (i + 1) s2))), .int (rP (itN (rOut t n) (i + 1) s2))])), (th, .inr (3, [.ref hb, .int (nI n)])), (hb, .inl (aB g, 2000, .inl (bf t))), (x0, .inr (4, [.int y1, .int y2, .int y3, .int (nI ni), .ref b1, .ref b2, .ref b3, .ref b4, .ref b5, .ref b6])), (b4, .inl (aI g, 8, .inl (upd f4 i (rN (itN (rOut t n) i s2) q)))), (b5, .inl (aI g, 8, .inl (upd f5 i (rN (outZ t n (itN (rOut t n) i s2)).2 qb1)))), (b6, .inl (aI g, 8, .inl (upd f6 i (nI (outZ t n (itN (rOut t n) i s2)).1)))), (b1, .inl (aI g, 8, .inl f1)), (b2, .inl (aI g, 8, .inl f2)), (b3, .inl (aI g, 8, .inl f3))])
        refine j_iinc (pc := 83) (k := 2) (v := nI (i + 1)) (lv' := [(2, .int (nI (i + 1))), (0, .ref r0), (1, .ref x0)]) C d_Rea_takeTransaction_83 rfl (j_inc _ _) (by decide) rfl ?_
        refine j_goto (pc := 86) (tgt := 63) C d_Rea_takeTransaction_86 rfl ?_
        refine j_lv (lv' := [(0, .ref r0), (1, .ref x0), (2, .int (nI (i + 1)))]) [1, 2, 0] rfl ?_
        refine j_sub (ws' := [(r0, .inr (2, [.ref th, .int (rN (itN (rOut t n) (i + 1) s2) qa1), .int (nI (rF (itN (rOut t n) (i + 1) s2))), .int (rP (itN (rOut t n) (i + 1) s2))])), (th, .inr (3, [.ref hb, .int (nI n)])), (hb, .inl (aB g, 2000, .inl (bf t))), (x0, .inr (4, [.int y1, .int y2, .int y3, .int (nI ni), .ref b1, .ref b2, .ref b3, .ref b4, .ref b5, .ref b6])), (b1, .inl (aI g, 8, .inl f1)), (b2, .inl (aI g, 8, .inl f2)), (b3, .inl (aI g, 8, .inl f3)), (b4, .inl (aI g, 8, .inl (upd f4 i (rN (itN (rOut t n) i s2) q)))), (b5, .inl (aI g, 8, .inl (upd f5 i (rN (outZ t n (itN (rOut t n) i s2)).2 qb1)))), (b6, .inl (aI g, 8, .inl (upd f6 i (nI (outZ t n (itN (rOut t n) i s2)).1))))]) (j_sb [0, 1, 2, 3, 7, 8, 9, 4, 5, 6] rfl rfl) ?_
        exact ih (i + 1) _ _ _ _ (by omega) (by omega) (Hout_s hH)
set_option maxHeartbeats 4000000 in
set_option maxRecDepth 100000 in
theorem c_Rea_takeTransaction (l : Launch) (g : JX) (r0 th hb x0 n : Nat) (xb : Nat → Nat) (t : Nat → Nat) (s : RS) (q : Int32) (y : Nat → Int32) (f : Nat → Nat → Int32) (hn : n ≤ 2000) (hT : ∀ j, t j < 256) (hs : ROk n s) : j_Ct l y_Rea_takeTransaction b_Rea_takeTransaction 3 none rm_Rea_takeTransaction g ([(r0, .inr (2, [.ref th, .int (rN s q), .int (nI (rF s)), .int (rP s)])), (th, .inr (3, [.ref hb, .int (nI n)])), (hb, .inl (aB g, 2000, .inl (bf t))), (x0, .inr (4, [.int (y 0), .int (y 1), .int (y 2), .int (y 3), .ref (xb 1), .ref (xb 2), .ref (xb 3), .ref (xb 4), .ref (xb 5), .ref (xb 6)])), (xb 1, .inl (aI g, 8, .inl (f 1))), (xb 2, .inl (aI g, 8, .inl (f 2))), (xb 3, .inl (aI g, 8, .inl (f 3))), (xb 4, .inl (aI g, 8, .inl (f 4))), (xb 5, .inl (aI g, 8, .inl (f 5))), (xb 6, .inl (aI g, 8, .inl (f 6)))]) [.ref r0, .ref x0] (fun r w => ∃ (q1 : Int32) (y1 : Nat → Int32) (f1 : Nat → Nat → Int32), r = none ∧ w = [(r0, .inr (2, [.ref th, .int (rN (rTx t n s) q1), .int (nI (rF (rTx t n s))), .int (rP (rTx t n s))])), (th, .inr (3, [.ref hb, .int (nI n)])), (hb, .inl (aB g, 2000, .inl (bf t))), (x0, .inr (4, [.int (y1 0), .int (y1 1), .int (y1 2), .int (y1 3), .ref (xb 1), .ref (xb 2), .ref (xb 3), .ref (xb 4), .ref (xb 5), .ref (xb 6)])), (xb 1, .inl (aI g, 8, .inl (f1 1))), (xb 2, .inl (aI g, 8, .inl (f1 2))), (xb 3, .inl (aI g, 8, .inl (f1 3))), (xb 4, .inl (aI g, 8, .inl (f1 4))), (xb 5, .inl (aI g, 8, .inl (f1 5))), (xb 6, .inl (aI g, 8, .inl (f1 6)))] ∧ TxOk t n s y1 f1) 0 0 := by
  refine j_ct (by decide) (Nat.le_of_ble_eq_true rfl) (fun κ hkl C hR hI => ?_)
  show j_V g κ 0 0 0 [(0, .ref r0), (1, .ref x0)] [] ([(r0, .inr (2, [.ref th, .int (rN s q), .int (nI (rF s)), .int (rP s)])), (th, .inr (3, [.ref hb, .int (nI n)])), (hb, .inl (aB g, 2000, .inl (bf t))), (x0, .inr (4, [.int (y 0), .int (y 1), .int (y 2), .int (y 3), .ref (xb 1), .ref (xb 2), .ref (xb 3), .ref (xb 4), .ref (xb 5), .ref (xb 6)])), (xb 1, .inl (aI g, 8, .inl (f 1))), (xb 2, .inl (aI g, 8, .inl (f 2))), (xb 3, .inl (aI g, 8, .inl (f 3))), (xb 4, .inl (aI g, 8, .inl (f 4))), (xb 5, .inl (aI g, 8, .inl (f 5))), (xb 6, .inl (aI g, 8, .inl (f 6)))])
  refine j_aload_n (pc := 0) C d_Rea_takeTransaction_0 rfl 1 rfl ?_
  refine j_aload_n (pc := 1) C d_Rea_takeTransaction_1 rfl 0 rfl ?_
  refine j_get (pc := 2) C F_Rea_9 0 rfl rfl d_Rea_takeTransaction_2 ?_
  refine j_put (pc := 5) (ws' := [(r0, .inr (2, [.ref th, .int (rN s q), .int (nI (rF s)), .int (rP s)])), (th, .inr (3, [.ref hb, .int (nI n)])), (hb, .inl (aB g, 2000, .inl (bf t))), (x0, .inr (4, [.int (rN s q), .int (y 1), .int (y 2), .int (y 3), .ref (xb 1), .ref (xb 2), .ref (xb 3), .ref (xb 4), .ref (xb 5), .ref (xb 6)])), (xb 1, .inl (aI g, 8, .inl (f 1))), (xb 2, .inl (aI g, 8, .inl (f 2))), (xb 3, .inl (aI g, 8, .inl (f 3))), (xb 4, .inl (aI g, 8, .inl (f 4))), (xb 5, .inl (aI g, 8, .inl (f 5))), (xb 6, .inl (aI g, 8, .inl (f 6)))]) C Fp_Rea_46 3 rfl rfl (by first | rfl | decide) (Nat.le_of_ble_eq_true rfl) rfl d_Rea_takeTransaction_5 ?_
  refine j_aload_n (pc := 8) C d_Rea_takeTransaction_8 rfl 0 rfl ?_
  refine j_iconst (pc := 9) (v := nI 4) C d_Rea_takeTransaction_9 (by decide) ?_
  refine j_callV (pc := 10) (As := [.int (nI 4)]) (rest := []) (wc := [(r0, .inr (2, [.ref th, .int (rN s q), .int (nI (rF s)), .int (rP s)])), (th, .inr (3, [.ref hb, .int (nI n)]))]) (wr := [(hb, .inl (aB g, 2000, .inl (bf t))), (x0, .inr (4, [.int (rN s q), .int (y 1), .int (y 2), .int (y 3), .ref (xb 1), .ref (xb 2), .ref (xb 3), .ref (xb 4), .ref (xb 5), .ref (xb 6)])), (xb 1, .inl (aI g, 8, .inl (f 1))), (xb 2, .inl (aI g, 8, .inl (f 2))), (xb 3, .inl (aI g, 8, .inl (f 3))), (xb 4, .inl (aI g, 8, .inl (f 4))), (xb 5, .inl (aI g, 8, .inl (f 5))), (xb 6, .inl (aI g, 8, .inl (f 6)))]) C (c_Rea_skip (kl κ) g r0 th hb n 4 s q (by omega) (by omega) (hs)) Y_Rea_skip ml_Rea_34 im_Rea_skip sl_Rea_skip rfl ⟨by decide, by decide⟩ rfl (ci := 2) (q0 := 0) rfl rfl rfl (Nat.le_of_ble_eq_true rfl) (j_sb [0, 1, 2, 3, 4, 5, 6, 7, 8, 9] rfl rfl) rfl d_Rea_takeTransaction_10 (fun r w1 hO => ?_)
  obtain ⟨q1, rfl, rfl⟩ := hO
  show j_V g κ 0 0 13 [(0, .ref r0), (1, .ref x0)] [] ([(r0, .inr (2, [.ref th, .int (rN (rPass n 4 s) q1), .int (nI (rF (rPass n 4 s))), .int (rP (rPass n 4 s))])), (th, .inr (3, [.ref hb, .int (nI n)])), (hb, .inl (aB g, 2000, .inl (bf t))), (x0, .inr (4, [.int (rN s q), .int (y 1), .int (y 2), .int (y 3), .ref (xb 1), .ref (xb 2), .ref (xb 3), .ref (xb 4), .ref (xb 5), .ref (xb 6)])), (xb 1, .inl (aI g, 8, .inl (f 1))), (xb 2, .inl (aI g, 8, .inl (f 2))), (xb 3, .inl (aI g, 8, .inl (f 3))), (xb 4, .inl (aI g, 8, .inl (f 4))), (xb 5, .inl (aI g, 8, .inl (f 5))), (xb 6, .inl (aI g, 8, .inl (f 6)))])
  refine j_aload_n (pc := 13) C d_Rea_takeTransaction_13 rfl 1 rfl ?_
  refine j_aload_n (pc := 14) C d_Rea_takeTransaction_14 rfl 0 rfl ?_
  refine j_bipush (pc := 15) (v := nI 8) C d_Rea_takeTransaction_15 (by decide) ?_
  refine j_callV (pc := 17) (As := [.int (nI 8)]) (rest := [.ref x0]) (wc := [(r0, .inr (2, [.ref th, .int (rN (rPass n 4 s) q1), .int (nI (rF (rPass n 4 s))), .int (rP (rPass n 4 s))])), (th, .inr (3, [.ref hb, .int (nI n)])), (hb, .inl (aB g, 2000, .inl (bf t)))]) (wr := [(x0, .inr (4, [.int (rN s q), .int (y 1), .int (y 2), .int (y 3), .ref (xb 1), .ref (xb 2), .ref (xb 3), .ref (xb 4), .ref (xb 5), .ref (xb 6)])), (xb 1, .inl (aI g, 8, .inl (f 1))), (xb 2, .inl (aI g, 8, .inl (f 2))), (xb 3, .inl (aI g, 8, .inl (f 3))), (xb 4, .inl (aI g, 8, .inl (f 4))), (xb 5, .inl (aI g, 8, .inl (f 5))), (xb 6, .inl (aI g, 8, .inl (f 6)))]) C (c_Rea_takeSize (kl κ) g r0 th hb n 8 t (rPass n 4 s) q1 (by omega) (by omega) hT (rPass_R (hs))) Y_Rea_takeSize ml_Rea_38 im_Rea_takeSize sl_Rea_takeSize rfl ⟨by decide, by decide⟩ rfl (ci := 2) (q0 := 0) rfl rfl rfl (Nat.le_of_ble_eq_true rfl) (j_sb [0, 1, 2, 3, 4, 5, 6, 7, 8, 9] rfl rfl) rfl d_Rea_takeTransaction_17 (fun r w1 hO => ?_)
  obtain ⟨q2, rfl, rfl⟩ := hO
  show j_V g κ 0 0 20 [(0, .ref r0), (1, .ref x0)] [.int (nI ((xZ t n s).1)), .ref x0] ([(r0, .inr (2, [.ref th, .int (rN ((xZ t n s).2) q2), .int (nI (rF ((xZ t n s).2))), .int (rP ((xZ t n s).2))])), (th, .inr (3, [.ref hb, .int (nI n)])), (hb, .inl (aB g, 2000, .inl (bf t))), (x0, .inr (4, [.int (rN s q), .int (y 1), .int (y 2), .int (y 3), .ref (xb 1), .ref (xb 2), .ref (xb 3), .ref (xb 4), .ref (xb 5), .ref (xb 6)])), (xb 1, .inl (aI g, 8, .inl (f 1))), (xb 2, .inl (aI g, 8, .inl (f 2))), (xb 3, .inl (aI g, 8, .inl (f 3))), (xb 4, .inl (aI g, 8, .inl (f 4))), (xb 5, .inl (aI g, 8, .inl (f 5))), (xb 6, .inl (aI g, 8, .inl (f 6)))])
  have hz17 : (xZ t n s).1 ≤ 8 := rSize_le
  refine j_put (pc := 20) (ws' := [(r0, .inr (2, [.ref th, .int (rN ((xZ t n s).2) q2), .int (nI (rF ((xZ t n s).2))), .int (rP ((xZ t n s).2))])), (th, .inr (3, [.ref hb, .int (nI n)])), (hb, .inl (aB g, 2000, .inl (bf t))), (x0, .inr (4, [.int (rN s q), .int (y 1), .int (nI ((xZ t n s).1)), .int (y 3), .ref (xb 1), .ref (xb 2), .ref (xb 3), .ref (xb 4), .ref (xb 5), .ref (xb 6)])), (xb 1, .inl (aI g, 8, .inl (f 1))), (xb 2, .inl (aI g, 8, .inl (f 2))), (xb 3, .inl (aI g, 8, .inl (f 3))), (xb 4, .inl (aI g, 8, .inl (f 4))), (xb 5, .inl (aI g, 8, .inl (f 5))), (xb 6, .inl (aI g, 8, .inl (f 6)))]) C Fp_Rea_51 3 rfl rfl (by first | rfl | decide) (Nat.le_of_ble_eq_true rfl) rfl d_Rea_takeTransaction_20 ?_
  refine j_iconst (pc := 23) (v := nI 0) C d_Rea_takeTransaction_23 (by decide) ?_
  refine j_istore_n (pc := 24) (lv' := [(2, .int (nI 0)), (0, .ref r0), (1, .ref x0)]) C d_Rea_takeTransaction_24 rfl (by decide) rfl ?_
  refine j_lv (lv' := [(0, .ref r0), (1, .ref x0), (2, .int (nI 0))]) [1, 2, 0] rfl ?_
  refine lp_tx_rIn (r0 := r0) (th := th) (hb := hb) (x0 := x0) (b1 := xb 1) (b2 := xb 2) (b3 := xb 3) (b4 := xb 4) (b5 := xb 5) (b6 := xb 6) (n := n) (ni := (xZ t n s).1) (t := t) (s2 := (xZ t n s).2) (y1 := rN s q) (y2 := y 1) (y4 := y 3) (f4 := f 4) (f5 := f 5) (f6 := f 6) hn hT (xZ_R hs) hz17 (fun q5 g1 g2 g3 hH1 => ?_) C 9 0 _ _ _ _ (by omega) (by omega) (fun j hj => absurd hj (by omega))
  show j_V g κ 0 0 51 [(0, .ref r0), (1, .ref x0)] [] ([(r0, .inr (2, [.ref th, .int (rN (xI t n s (xZ t n s).1) q5), .int (nI (rF (xI t n s (xZ t n s).1))), .int (rP (xI t n s (xZ t n s).1))])), (th, .inr (3, [.ref hb, .int (nI n)])), (hb, .inl (aB g, 2000, .inl (bf t))), (x0, .inr (4, [.int (rN s q), .int (y 1), .int (nI ((xZ t n s).1)), .int (y 3), .ref (xb 1), .ref (xb 2), .ref (xb 3), .ref (xb 4), .ref (xb 5), .ref (xb 6)])), (xb 1, .inl (aI g, 8, .inl g1)), (xb 2, .inl (aI g, 8, .inl g2)), (xb 3, .inl (aI g, 8, .inl g3)), (xb 4, .inl (aI g, 8, .inl (f 4))), (xb 5, .inl (aI g, 8, .inl (f 5))), (xb 6, .inl (aI g, 8, .inl (f 6)))])
  refine j_aload_n (pc := 51) C d_Rea_takeTransaction_51 rfl 1 rfl ?_
  refine j_aload_n (pc := 52) C d_Rea_takeTransaction_52 rfl 0 rfl ?_
  refine j_bipush (pc := 53) (v := nI 8) C d_Rea_takeTransaction_53 (by decide) ?_
  refine j_callV (pc := 55) (As := [.int (nI 8)]) (rest := [.ref x0]) (wc := [(r0, .inr (2, [.ref th, .int (rN (xI t n s (xZ t n s).1) q5), .int (nI (rF (xI t n s (xZ t n s).1))), .int (rP (xI t n s (xZ t n s).1))])), (th, .inr (3, [.ref hb, .int (nI n)])), (hb, .inl (aB g, 2000, .inl (bf t)))]) (wr := [(x0, .inr (4, [.int (rN s q), .int (y 1), .int (nI ((xZ t n s).1)), .int (y 3), .ref (xb 1), .ref (xb 2), .ref (xb 3), .ref (xb 4), .ref (xb 5), .ref (xb 6)])), (xb 1, .inl (aI g, 8, .inl g1)), (xb 2, .inl (aI g, 8, .inl g2)), (xb 3, .inl (aI g, 8, .inl g3)), (xb 4, .inl (aI g, 8, .inl (f 4))), (xb 5, .inl (aI g, 8, .inl (f 5))), (xb 6, .inl (aI g, 8, .inl (f 6)))]) C (c_Rea_takeSize (kl κ) g r0 th hb n 8 t (xI t n s (xZ t n s).1) q5 (by omega) (by omega) hT (xI_R hs)) Y_Rea_takeSize ml_Rea_38 im_Rea_takeSize sl_Rea_takeSize rfl ⟨by decide, by decide⟩ rfl (ci := 2) (q0 := 0) rfl rfl rfl (Nat.le_of_ble_eq_true rfl) (j_sb [0, 1, 2, 3, 4, 5, 6, 7, 8, 9] rfl rfl) rfl d_Rea_takeTransaction_55 (fun r w1 hO => ?_)
  obtain ⟨q3, rfl, rfl⟩ := hO
  show j_V g κ 0 0 58 [(0, .ref r0), (1, .ref x0)] [.int (nI ((xY t n s).1)), .ref x0] ([(r0, .inr (2, [.ref th, .int (rN ((xY t n s).2) q3), .int (nI (rF ((xY t n s).2))), .int (rP ((xY t n s).2))])), (th, .inr (3, [.ref hb, .int (nI n)])), (hb, .inl (aB g, 2000, .inl (bf t))), (x0, .inr (4, [.int (rN s q), .int (y 1), .int (nI ((xZ t n s).1)), .int (y 3), .ref (xb 1), .ref (xb 2), .ref (xb 3), .ref (xb 4), .ref (xb 5), .ref (xb 6)])), (xb 1, .inl (aI g, 8, .inl g1)), (xb 2, .inl (aI g, 8, .inl g2)), (xb 3, .inl (aI g, 8, .inl g3)), (xb 4, .inl (aI g, 8, .inl (f 4))), (xb 5, .inl (aI g, 8, .inl (f 5))), (xb 6, .inl (aI g, 8, .inl (f 6)))])
  have hz55 : (xY t n s).1 ≤ 8 := rSize_le
  refine j_put (pc := 58) (ws' := [(r0, .inr (2, [.ref th, .int (rN ((xY t n s).2) q3), .int (nI (rF ((xY t n s).2))), .int (rP ((xY t n s).2))])), (th, .inr (3, [.ref hb, .int (nI n)])), (hb, .inl (aB g, 2000, .inl (bf t))), (x0, .inr (4, [.int (rN s q), .int (y 1), .int (nI ((xZ t n s).1)), .int (nI ((xY t n s).1)), .ref (xb 1), .ref (xb 2), .ref (xb 3), .ref (xb 4), .ref (xb 5), .ref (xb 6)])), (xb 1, .inl (aI g, 8, .inl g1)), (xb 2, .inl (aI g, 8, .inl g2)), (xb 3, .inl (aI g, 8, .inl g3)), (xb 4, .inl (aI g, 8, .inl (f 4))), (xb 5, .inl (aI g, 8, .inl (f 5))), (xb 6, .inl (aI g, 8, .inl (f 6)))]) C Fp_Rea_58 3 rfl rfl (by first | rfl | decide) (Nat.le_of_ble_eq_true rfl) rfl d_Rea_takeTransaction_58 ?_
  refine j_iconst (pc := 61) (v := nI 0) C d_Rea_takeTransaction_61 (by decide) ?_
  refine j_istore_n (pc := 62) (lv' := [(2, .int (nI 0)), (0, .ref r0), (1, .ref x0)]) C d_Rea_takeTransaction_62 rfl (by decide) rfl ?_
  refine j_lv (lv' := [(0, .ref r0), (1, .ref x0), (2, .int (nI 0))]) [1, 2, 0] rfl ?_
  refine lp_tx_rOut (r0 := r0) (th := th) (hb := hb) (x0 := x0) (b1 := xb 1) (b2 := xb 2) (b3 := xb 3) (b4 := xb 4) (b5 := xb 5) (b6 := xb 6) (n := n) (ni := (xY t n s).1) (t := t) (s2 := (xY t n s).2) (y1 := rN s q) (y2 := y 1) (y3 := nI (xZ t n s).1) (f1 := g1) (f2 := g2) (f3 := g3) hn hT (xY_R hs) hz55 (fun q6 g4 g5 g6 hH2 => ?_) C 9 0 _ _ _ _ (by omega) (by omega) (fun j hj => absurd hj (by omega))
  show j_V g κ 0 0 89 [(0, .ref r0), (1, .ref x0)] [] ([(r0, .inr (2, [.ref th, .int (rN (xO t n s (xY t n s).1) q6), .int (nI (rF (xO t n s (xY t n s).1))), .int (rP (xO t n s (xY t n s).1))])), (th, .inr (3, [.ref hb, .int (nI n)])), (hb, .inl (aB g, 2000, .inl (bf t))), (x0, .inr (4, [.int (rN s q), .int (y 1), .int (nI ((xZ t n s).1)), .int (nI ((xY t n s).1)), .ref (xb 1), .ref (xb 2), .ref (xb 3), .ref (xb 4), .ref (xb 5), .ref (xb 6)])), (xb 1, .inl (aI g, 8, .inl g1)), (xb 2, .inl (aI g, 8, .inl g2)), (xb 3, .inl (aI g, 8, .inl g3)), (xb 4, .inl (aI g, 8, .inl g4)), (xb 5, .inl (aI g, 8, .inl g5)), (xb 6, .inl (aI g, 8, .inl g6))])
  refine j_aload_n (pc := 89) C d_Rea_takeTransaction_89 rfl 0 rfl ?_
  refine j_iconst (pc := 90) (v := nI 4) C d_Rea_takeTransaction_90 (by decide) ?_
  refine j_callV (pc := 91) (As := [.int (nI 4)]) (rest := []) (wc := [(r0, .inr (2, [.ref th, .int (rN (xO t n s (xY t n s).1) q6), .int (nI (rF (xO t n s (xY t n s).1))), .int (rP (xO t n s (xY t n s).1))])), (th, .inr (3, [.ref hb, .int (nI n)]))]) (wr := [(hb, .inl (aB g, 2000, .inl (bf t))), (x0, .inr (4, [.int (rN s q), .int (y 1), .int (nI ((xZ t n s).1)), .int (nI ((xY t n s).1)), .ref (xb 1), .ref (xb 2), .ref (xb 3), .ref (xb 4), .ref (xb 5), .ref (xb 6)])), (xb 1, .inl (aI g, 8, .inl g1)), (xb 2, .inl (aI g, 8, .inl g2)), (xb 3, .inl (aI g, 8, .inl g3)), (xb 4, .inl (aI g, 8, .inl g4)), (xb 5, .inl (aI g, 8, .inl g5)), (xb 6, .inl (aI g, 8, .inl g6))]) C (c_Rea_skip (kl κ) g r0 th hb n 4 (xO t n s (xY t n s).1) q6 (by omega) (by omega) (xO_R hs)) Y_Rea_skip ml_Rea_34 im_Rea_skip sl_Rea_skip rfl ⟨by decide, by decide⟩ rfl (ci := 2) (q0 := 0) rfl rfl rfl (Nat.le_of_ble_eq_true rfl) (j_sb [0, 1, 2, 3, 4, 5, 6, 7, 8, 9] rfl rfl) rfl d_Rea_takeTransaction_91 (fun r w1 hO => ?_)
  obtain ⟨q4, rfl, rfl⟩ := hO
  show j_V g κ 0 0 94 [(0, .ref r0), (1, .ref x0)] [] ([(r0, .inr (2, [.ref th, .int (rN (rPass n 4 (xO t n s (xY t n s).1)) q4), .int (nI (rF (rPass n 4 (xO t n s (xY t n s).1)))), .int (rP (rPass n 4 (xO t n s (xY t n s).1)))])), (th, .inr (3, [.ref hb, .int (nI n)])), (hb, .inl (aB g, 2000, .inl (bf t))), (x0, .inr (4, [.int (rN s q), .int (y 1), .int (nI ((xZ t n s).1)), .int (nI ((xY t n s).1)), .ref (xb 1), .ref (xb 2), .ref (xb 3), .ref (xb 4), .ref (xb 5), .ref (xb 6)])), (xb 1, .inl (aI g, 8, .inl g1)), (xb 2, .inl (aI g, 8, .inl g2)), (xb 3, .inl (aI g, 8, .inl g3)), (xb 4, .inl (aI g, 8, .inl g4)), (xb 5, .inl (aI g, 8, .inl g5)), (xb 6, .inl (aI g, 8, .inl g6))])
  refine j_aload_n (pc := 94) C d_Rea_takeTransaction_94 rfl 1 rfl ?_
  refine j_aload_n (pc := 95) C d_Rea_takeTransaction_95 rfl 0 rfl ?_
  refine j_get (pc := 96) C F_Rea_9 0 rfl rfl d_Rea_takeTransaction_96 ?_
  refine j_put (pc := 99) (ws' := [(r0, .inr (2, [.ref th, .int (rN (rPass n 4 (xO t n s (xY t n s).1)) q4), .int (nI (rF (rPass n 4 (xO t n s (xY t n s).1)))), .int (rP (rPass n 4 (xO t n s (xY t n s).1)))])), (th, .inr (3, [.ref hb, .int (nI n)])), (hb, .inl (aB g, 2000, .inl (bf t))), (x0, .inr (4, [.int (rN s q), .int (rN (rPass n 4 (xO t n s (xY t n s).1)) q4), .int (nI ((xZ t n s).1)), .int (nI ((xY t n s).1)), .ref (xb 1), .ref (xb 2), .ref (xb 3), .ref (xb 4), .ref (xb 5), .ref (xb 6)])), (xb 1, .inl (aI g, 8, .inl g1)), (xb 2, .inl (aI g, 8, .inl g2)), (xb 3, .inl (aI g, 8, .inl g3)), (xb 4, .inl (aI g, 8, .inl g4)), (xb 5, .inl (aI g, 8, .inl g5)), (xb 6, .inl (aI g, 8, .inl g6))]) C Fp_Rea_64 3 rfl rfl (by first | rfl | decide) (Nat.le_of_ble_eq_true rfl) rfl d_Rea_takeTransaction_99 ?_
  exact hR.2.2 _ _ _ d_Rea_takeTransaction_102 rfl (⟨q4, sel4 (rN s q) (rN (rTx t n s) q4) (nI (xZ t n s).1) (nI (xY t n s).1), sel6 g1 g2 g3 g4 g5 g6, rfl, rfl, TxOk_of hH1 hH2 rfl rfl rfl rfl rfl rfl rfl rfl rfl rfl⟩)
end
section
/-! the twelve transactions that the class keeps -/
def txc (g : JX) (xa : Nat) (xb : Nat → Nat) (y : Nat → Int32) (f : Nat → Nat → Int32) : va_W := [(xa, .inr (4, [.int (y 0), .int (y 1), .int (y 2), .int (y 3), .ref (xb 1), .ref (xb 2), .ref (xb 3), .ref (xb 4), .ref (xb 5), .ref (xb 6)])), (xb 1, .inl (aI g, 8, .inl (f 1))), (xb 2, .inl (aI g, 8, .inl (f 2))), (xb 3, .inl (aI g, 8, .inl (f 3))), (xb 4, .inl (aI g, 8, .inl (f 4))), (xb 5, .inl (aI g, 8, .inl (f 5))), (xb 6, .inl (aI g, 8, .inl (f 6)))]
def txW (g : JX) (xa : Nat → Nat) (xb : Nat → Nat → Nat) (y : Nat → Nat → Int32) (f : Nat → Nat → Nat → Int32) (u : Nat) : va_W := txc g (xa u) (xb u) (y u) (f u)
def txsN (g : JX) (xa : Nat → Nat) (xb : Nat → Nat → Nat) (y : Nat → Nat → Int32) (f : Nat → Nat → Nat → Int32) (m : Nat) : va_W := (List.range m).flatMap (txW g xa xb y f)
abbrev txs (g : JX) (xa : Nat → Nat) (xb : Nat → Nat → Nat) (y : Nat → Nat → Int32) (f : Nat → Nat → Nat → Int32) : va_W := txsN g xa xb y f 12
def txB (g : JX) (xa : Nat → Nat) (xb : Nat → Nat → Nat) (y : Nat → Nat → Int32) (f : Nat → Nat → Nat → Int32) (u : Nat) : va_W := ((List.range 12).filter (fun v => decide (v ≠ u))).flatMap (txW g xa xb y f)
theorem j_D_pair {A : Nat → Prop} {ws : va_W} : va_D A ws ↔ ws.Pairwise (fun p q => p.1 ≠ q.1) ∧ ∀ q ∈ ws, A q.1 := by
  constructor
  · intro h
    refine ⟨List.pairwise_iff_getElem.mpr fun i j hi hj hij e => ?_, fun q hq => j_D_in h hq⟩
    have := h.1 i j _ _ (List.getElem?_eq_getElem hi) (List.getElem?_eq_getElem hj) e
    omega
  · intro h
    refine ⟨fun i j p q hi hj e => ?_, fun k q hk => h.2 q (List.mem_of_getElem? hk)⟩
    obtain ⟨hi1, hi2⟩ := List.getElem?_eq_some_iff.mp hi
    obtain ⟨hj1, hj2⟩ := List.getElem?_eq_some_iff.mp hj
    have hp := List.pairwise_iff_getElem.mp h.1
    rcases Nat.lt_trichotomy i j with c | c | c
    · exact absurd (by rw [hi2, hj2]; exact e) (hp i j hi1 hj1 c)
    · exact c
    · exact absurd (by rw [hi2, hj2]; exact e.symm) (hp j i hj1 hi1 c)
theorem j_Sb.perm {a b : va_W} (h : a.Perm b) : j_Sb a b := by
  refine ⟨fun q hq => h.mem_iff.mpr hq, fun A hD => ?_⟩
  rw [j_D_pair] at hD ⊢
  exact ⟨(h.pairwise_iff (fun {x y} e => Ne.symm e)).mp hD.1, fun q hq => hD.2 q (h.mem_iff.mpr hq)⟩
theorem j_Sb.appL (c : va_W) {a b : va_W} (h : j_Sb a b) : j_Sb (c ++ a) (c ++ b) := ((j_Sb.swap c a).trans (h.app c)).trans (j_Sb.swap b c)
theorem rg_perm : ∀ u, u < 12 → (List.range 12).Perm (u :: (List.range 12).filter (fun v => decide (v ≠ u))) := by decide
theorem txs_perm {g : JX} {xa : Nat → Nat} {xb : Nat → Nat → Nat} {y : Nat → Nat → Int32} {f : Nat → Nat → Nat → Int32} {u : Nat} (hu : u < 12) : (txs g xa xb y f).Perm (txW g xa xb y f u ++ txB g xa xb y f u) := by
  have h := (rg_perm u hu).flatMap_right (txW g xa xb y f)
  rw [List.flatMap_cons] at h
  exact h
theorem txs_open {g : JX} {xa : Nat → Nat} {xb : Nat → Nat → Nat} {y : Nat → Nat → Int32} {f : Nat → Nat → Nat → Int32} {u : Nat} (L : va_W) (hu : u < 12) : j_Sb (L ++ txs g xa xb y f) (L ++ (txc g (xa u) (xb u) (y u) (f u) ++ txB g xa xb y f u)) := j_Sb.appL L (j_Sb.perm (txs_perm hu))
theorem fm_congr {α β : Type} {f g : α → List β} : ∀ (l : List α), (∀ a ∈ l, f a = g a) → l.flatMap f = l.flatMap g
  | [], _ => rfl
  | a :: l, h => by rw [List.flatMap_cons, List.flatMap_cons, h a List.mem_cons_self, fm_congr l (fun b hb => h b (List.mem_cons_of_mem _ hb))]
theorem txB_up {g : JX} {xa : Nat → Nat} {xb : Nat → Nat → Nat} {y : Nat → Nat → Int32} {f : Nat → Nat → Nat → Int32} {u : Nat} (y1 : Nat → Int32) (f1 : Nat → Nat → Int32) : txB g xa xb (va_up y u y1) (va_up f u f1) u = txB g xa xb y f u := by
  unfold txB
  apply fm_congr
  intro v hv
  have hne : v ≠ u := by
    have := (List.mem_filter.mp hv).2
    exact of_decide_eq_true this
  unfold txW va_up
  rw [if_neg hne, if_neg hne]
theorem txs_close {g : JX} {xa : Nat → Nat} {xb : Nat → Nat → Nat} {y : Nat → Nat → Int32} {f : Nat → Nat → Nat → Int32} {u : Nat} (L : va_W) (hu : u < 12) (y1 : Nat → Int32) (f1 : Nat → Nat → Int32) : j_Sb (L ++ (txc g (xa u) (xb u) y1 f1 ++ txB g xa xb y f u)) (L ++ txs g xa xb (va_up y u y1) (va_up f u f1)) := by
  refine j_Sb.appL L (j_Sb.perm ?_)
  have h := (txs_perm (g := g) (xa := xa) (xb := xb) (y := va_up y u y1) (f := va_up f u f1) hu).symm
  rw [txB_up] at h
  unfold txW at h
  rw [va_up_self, va_up_self] at h
  exact h
theorem txs_mem {g : JX} {xa : Nat → Nat} {xb : Nat → Nat → Nat} {y : Nat → Nat → Int32} {f : Nat → Nat → Nat → Int32} {u : Nat} (hu : u < 12) {q : Nat × va_E} (h : q ∈ txc g (xa u) (xb u) (y u) (f u)) : q ∈ txs g xa xb y f := List.mem_flatMap.mpr ⟨u, List.mem_range.mpr hu, h⟩
theorem txsN_s (g : JX) (xa : Nat → Nat) (xb : Nat → Nat → Nat) (y : Nat → Nat → Int32) (f : Nat → Nat → Nat → Int32) (m : Nat) : txsN g xa xb y f (m + 1) = txsN g xa xb y f m ++ txc g (xa m) (xb m) (y m) (f m) := by
  unfold txsN
  rw [List.range_succ, List.flatMap_append, List.flatMap_cons, List.flatMap_nil, List.append_nil]
  rfl
/-- a block -/
def bZ (t : Nat → Nat) (n : Nat) (s : RS) : Nat × RS := rSize t n 12 (rPass n 80 s)
theorem bZ_R {t : Nat → Nat} {n : Nat} {s : RS} (h : ROk n s) : ROk n (bZ t n s).2 := rSize_R (rPass_R h)
def TxAll (t : Nat → Nat) (n : Nat) (s : RS) (k : Nat) (y : Nat → Nat → Int32) (f : Nat → Nat → Nat → Int32) : Prop := ∀ v, v < k → TxOk t n (itN (rTx t n) v s) (y v) (f v)
theorem TxAll_s {t : Nat → Nat} {n : Nat} {s : RS} {k : Nat} {y : Nat → Nat → Int32} {f : Nat → Nat → Nat → Int32} {y1 : Nat → Int32} {f1 : Nat → Nat → Int32} (h : TxAll t n s k y f) (h1 : TxOk t n (itN (rTx t n) k s) y1 f1) : TxAll t n s (k + 1) (va_up y k y1) (va_up f k f1) := by
  intro v hv
  by_cases e : v = k
  · subst e; rw [va_up_self, va_up_self]; exact h1
  · rw [va_up_ne _ _ e, va_up_ne _ _ e]; exact h v (by omega)
theorem itN_bad {t : Nat → Nat} {n : Nat} {s : RS} {u : Nat} (h : 0 < rF (itN (rTx t n) u s)) : ∀ k, u ≤ k → itN (rTx t n) k s = itN (rTx t n) u s
  | 0, hk => by
    obtain rfl : u = 0 := by omega
    rfl
  | k + 1, hk => by
    by_cases e : u = k + 1
    · subst e; rfl
    · have ih := itN_bad h k (by omega)
      show rTx t n (itN (rTx t n) k s) = _
      rw [ih]
      cases hs : itN (rTx t n) u s with
      | inl p => rw [hs] at h; exact absurd h (Nat.lt_irrefl 0)
      | inr e => rfl
theorem rF_lt {n : Nat} {s : RS} (h : ROk n s) : rF s < 5 := by
  rcases s with p | e
  · exact Nat.le_of_ble_eq_true rfl
  · exact h.2.1
end
section
abbrev rm_Rea_begin : Room := { frames := 0, cells := 0, slots := 0, locals := 0 }
set_option maxHeartbeats 4000000 in
set_option maxRecDepth 100000 in
theorem c_Rea_begin (l : Launch) (g : JX) (r0 th : Nat) (a b c : Int32)  : j_Ct l y_Rea_begin b_Rea_begin 1 none rm_Rea_begin g ([(r0, .inr (2, [.ref th, .int a, .int b, .int c]))]) [.ref r0] (fun r w => r = none ∧ w = [(r0, .inr (2, [.ref th, .int (nI 0), .int (nI 0), .int (-1 : Int32)]))]) 0 0 := by
  refine j_ct (by decide) (Nat.le_of_ble_eq_true rfl) (fun κ hkl C hR hI => ?_)
  show j_V g κ 0 0 0 [(0, .ref r0)] [] ([(r0, .inr (2, [.ref th, .int a, .int b, .int c]))])
  refine j_aload_n (pc := 0) C d_Rea_begin_0 rfl 0 rfl ?_
  refine j_iconst (pc := 1) (v := nI 0) C d_Rea_begin_1 (by decide) ?_
  refine j_put (pc := 2) (ws' := [(r0, .inr (2, [.ref th, .int (nI 0), .int b, .int c]))]) C Fp_Rea_9 0 rfl rfl (by first | rfl | decide) (Nat.le_of_ble_eq_true rfl) rfl d_Rea_begin_2 ?_
  refine j_aload_n (pc := 5) C d_Rea_begin_5 rfl 0 rfl ?_
  refine j_iconst (pc := 6) (v := nI 0) C d_Rea_begin_6 (by decide) ?_
  refine j_put (pc := 7) (ws' := [(r0, .inr (2, [.ref th, .int (nI 0), .int (nI 0), .int c]))]) C Fp_Rea_15 0 rfl rfl (by first | rfl | decide) (Nat.le_of_ble_eq_true rfl) rfl d_Rea_begin_7 ?_
  refine j_aload_n (pc := 10) C d_Rea_begin_10 rfl 0 rfl ?_
  refine j_iconst (pc := 11) (v := (-1 : Int32)) C d_Rea_begin_11 (by decide) ?_
  refine j_put (pc := 12) (ws' := [(r0, .inr (2, [.ref th, .int (nI 0), .int (nI 0), .int (-1 : Int32)]))]) C Fp_Rea_18 0 rfl rfl (by first | rfl | decide) (Nat.le_of_ble_eq_true rfl) rfl d_Rea_begin_12 ?_
  exact hR.2.2 _ _ _ d_Rea_begin_15 rfl (⟨rfl, rfl⟩)
abbrev rm_Rea_init : Room := { frames := 1, cells := 0, slots := 0, locals := 20 }
set_option maxHeartbeats 4000000 in
set_option maxRecDepth 100000 in
theorem c_Rea_init (l : Launch) (g : JX) (r0 th : Nat)  : j_Ct l y_Rea_init b_Rea_init 2 none rm_Rea_init g ([(r0, .inr (2, [.null, .int (0 : Int32), .int (0 : Int32), .int (0 : Int32)]))]) [.ref r0, .ref th] (fun r w => r = none ∧ w = [(r0, .inr (2, [.ref th, .int (nI 0), .int (nI 0), .int (-1 : Int32)]))]) 0 0 := by
  refine j_ct (by decide) (Nat.le_of_ble_eq_true rfl) (fun κ hkl C hR hI => ?_)
  show j_V g κ 0 0 0 [(0, .ref r0), (1, .ref th)] [] ([(r0, .inr (2, [.null, .int (0 : Int32), .int (0 : Int32), .int (0 : Int32)]))])
  refine j_aload_n (pc := 0) C d_Rea_init_0 rfl 0 rfl ?_
  refine j_objInit (pc := 1) C oi_Rea_3 oi_i oi_c (by decide) (Nat.le_of_ble_eq_true rfl) d_Rea_init_1 ?_
  refine j_aload_n (pc := 4) C d_Rea_init_4 rfl 0 rfl ?_
  refine j_iconst (pc := 5) (v := nI 0) C d_Rea_init_5 (by decide) ?_
  refine j_put (pc := 6) (ws' := [(r0, .inr (2, [.null, .int (nI 0), .int (0 : Int32), .int (0 : Int32)]))]) C Fp_Rea_9 0 rfl rfl (by first | rfl | decide) (Nat.le_of_ble_eq_true rfl) rfl d_Rea_init_6 ?_
  refine j_aload_n (pc := 9) C d_Rea_init_9 rfl 0 rfl ?_
  refine j_iconst (pc := 10) (v := nI 0) C d_Rea_init_10 (by decide) ?_
  refine j_put (pc := 11) (ws' := [(r0, .inr (2, [.null, .int (nI 0), .int (nI 0), .int (0 : Int32)]))]) C Fp_Rea_15 0 rfl rfl (by first | rfl | decide) (Nat.le_of_ble_eq_true rfl) rfl d_Rea_init_11 ?_
  refine j_aload_n (pc := 14) C d_Rea_init_14 rfl 0 rfl ?_
  refine j_iconst (pc := 15) (v := (-1 : Int32)) C d_Rea_init_15 (by decide) ?_
  refine j_put (pc := 16) (ws' := [(r0, .inr (2, [.null, .int (nI 0), .int (nI 0), .int (-1 : Int32)]))]) C Fp_Rea_18 0 rfl rfl (by first | rfl | decide) (Nat.le_of_ble_eq_true rfl) rfl d_Rea_init_16 ?_
  refine j_aload_n (pc := 19) C d_Rea_init_19 rfl 0 rfl ?_
  refine j_aload_n (pc := 20) C d_Rea_init_20 rfl 1 rfl ?_
  refine j_putF (pc := 21) (ws' := [(r0, .inr (2, [.ref th, .int (nI 0), .int (nI 0), .int (-1 : Int32)]))]) C hI Fp_Rea_21 0 rfl rfl (by first | rfl | decide) (Nat.le_of_ble_eq_true rfl) rfl d_Rea_init_21 ?_
  exact hR.2.2 _ _ _ d_Rea_init_24 rfl (⟨rfl, rfl⟩)
abbrev rm_Rea_finish : Room := { frames := 1, cells := 0, slots := 0, locals := 22 }
set_option maxHeartbeats 4000000 in
set_option maxRecDepth 100000 in
theorem c_Rea_finish (l : Launch) (g : JX) (r0 th hb n : Nat) (s : RS) (q : Int32) (hn : n ≤ 2000) (hs : ROk n s) : j_Ct l y_Rea_finish b_Rea_finish 1 none rm_Rea_finish g ([(r0, .inr (2, [.ref th, .int (rN s q), .int (nI (rF s)), .int (rP s)])), (th, .inr (3, [.ref hb, .int (nI n)]))]) [.ref r0] (fun r w => ∃ q1 : Int32, r = none ∧ w = [(r0, .inr (2, [.ref th, .int (rN (rFin n s) q1), .int (nI (rF (rFin n s))), .int (rP (rFin n s))])), (th, .inr (3, [.ref hb, .int (nI n)]))]) 0 0 := by
  refine j_ct (by decide) (Nat.le_of_ble_eq_true rfl) (fun κ hkl C hR hI => ?_)
  show j_V g κ 0 0 0 [(0, .ref r0)] [] ([(r0, .inr (2, [.ref th, .int (rN s q), .int (nI (rF s)), .int (rP s)])), (th, .inr (3, [.ref hb, .int (nI n)]))])
  rcases s with p | ⟨f, w⟩
  · have hp : p ≤ n := hs
    show j_V g κ 0 0 0 [(0, .ref r0)] [] ([(r0, .inr (2, [.ref th, .int (nI p), .int (nI 0), .int (-1 : Int32)])), (th, .inr (3, [.ref hb, .int (nI n)]))])
    refine j_aload_n (pc := 0) C d_Rea_finish_0 rfl 0 rfl ?_
    refine j_get (pc := 1) C F_Rea_9 0 rfl rfl d_Rea_finish_1 ?_
    refine j_aload_n (pc := 4) C d_Rea_finish_4 rfl 0 rfl ?_
    refine j_get (pc := 5) C F_Rea_21 0 rfl rfl d_Rea_finish_5 ?_
    refine j_get (pc := 8) C F_Rea_25 1 rfl rfl d_Rea_finish_8 ?_
    refine j_icmp_geN (pc := 11) (tgt := 23) C (by omega) (by omega) d_Rea_finish_11 rfl (fun c11 => ?_) (fun c11 => ?_)
    · skip
      exact hR.2.2 _ _ _ d_Rea_finish_23 rfl (by first | exact ⟨q, rfl, rfl⟩ | (rw [show rFin n (.inl p) = .inr (4, p) from if_pos (by omega)]; exact ⟨_, rfl, rfl⟩) | (rw [show rFin n (.inl p) = .inl p from if_neg (by omega)]; exact ⟨0, rfl, rfl⟩))
    · skip
      refine j_aload_n (pc := 14) C d_Rea_finish_14 rfl 0 rfl ?_
      refine j_iconst (pc := 15) (v := nI 4) C d_Rea_finish_15 (by decide) ?_
      refine j_aload_n (pc := 16) C d_Rea_finish_16 rfl 0 rfl ?_
      refine j_get (pc := 17) C F_Rea_9 0 rfl rfl d_Rea_finish_17 ?_
      refine j_callV (pc := 20) (As := [.int (nI 4), .int (nI p)]) (rest := []) (wc := [(r0, .inr (2, [.ref th, .int (nI p), .int (nI 0), .int (-1 : Int32)]))]) (wr := [(th, .inr (3, [.ref hb, .int (nI n)]))]) C (c_Rea_fail (kl κ) g r0 th (nI p) (-1 : Int32) (nI 4) (nI p)) Y_Rea_fail ml_Rea_30 im_Rea_fail sl_Rea_fail rfl ⟨by decide, by decide⟩ rfl (ci := 2) (q0 := 0) rfl rfl rfl (Nat.le_of_ble_eq_true rfl) (j_sb [0, 1] rfl rfl) rfl d_Rea_finish_20 (fun r w1 hO => ?_)
      obtain ⟨rfl, rfl⟩ := hO
      show j_V g κ 0 0 23 [(0, .ref r0)] [] ([(r0, .inr (2, [.ref th, .int (nI p), .int (nI 4), .int (nI p)])), (th, .inr (3, [.ref hb, .int (nI n)]))])
      exact hR.2.2 _ _ _ d_Rea_finish_23 rfl (by first | exact ⟨q, rfl, rfl⟩ | (rw [show rFin n (.inl p) = .inr (4, p) from if_pos (by omega)]; exact ⟨_, rfl, rfl⟩) | (rw [show rFin n (.inl p) = .inl p from if_neg (by omega)]; exact ⟨0, rfl, rfl⟩))
  · obtain ⟨hf, hf2, hw⟩ : 0 < f ∧ f < 5 ∧ w ≤ n := hs
    show j_V g κ 0 0 0 [(0, .ref r0)] [] ([(r0, .inr (2, [.ref th, .int q, .int (nI f), .int (nI w)])), (th, .inr (3, [.ref hb, .int (nI n)]))])
    refine j_aload_n (pc := 0) C d_Rea_finish_0 rfl 0 rfl ?_
    refine j_get (pc := 1) C F_Rea_9 0 rfl rfl d_Rea_finish_1 ?_
    refine j_aload_n (pc := 4) C d_Rea_finish_4 rfl 0 rfl ?_
    refine j_get (pc := 5) C F_Rea_21 0 rfl rfl d_Rea_finish_5 ?_
    refine j_get (pc := 8) C F_Rea_25 1 rfl rfl d_Rea_finish_8 ?_
    refine j_icmp_ge (pc := 11) (tgt := 23) C d_Rea_finish_11 rfl (fun c11 => ?_) (fun c11 => ?_)
    · skip
      exact hR.2.2 _ _ _ d_Rea_finish_23 rfl (by first | exact ⟨q, rfl, rfl⟩ | (rw [show rFin n (.inl p) = .inr (4, p) from if_pos (by omega)]; exact ⟨_, rfl, rfl⟩) | (rw [show rFin n (.inl p) = .inl p from if_neg (by omega)]; exact ⟨0, rfl, rfl⟩))
    · skip
      refine j_aload_n (pc := 14) C d_Rea_finish_14 rfl 0 rfl ?_
      refine j_iconst (pc := 15) (v := nI 4) C d_Rea_finish_15 (by decide) ?_
      refine j_aload_n (pc := 16) C d_Rea_finish_16 rfl 0 rfl ?_
      refine j_get (pc := 17) C F_Rea_9 0 rfl rfl d_Rea_finish_17 ?_
      refine j_callV (pc := 20) (As := [.int (nI 4), .int q]) (rest := []) (wc := [(r0, .inr (2, [.ref th, .int q, .int (nI f), .int (nI w)]))]) (wr := [(th, .inr (3, [.ref hb, .int (nI n)]))]) C (c_Rea_fail2 (kl κ) g r0 th f q (nI w) (nI 4) q (by omega) (by omega)) Y_Rea_fail ml_Rea_30 im_Rea_fail sl_Rea_fail rfl ⟨by decide, by decide⟩ rfl (ci := 2) (q0 := 0) rfl rfl rfl (Nat.le_of_ble_eq_true rfl) (j_sb [0, 1] rfl rfl) rfl d_Rea_finish_20 (fun r w1 hO => ?_)
      obtain ⟨rfl, rfl⟩ := hO
      show j_V g κ 0 0 23 [(0, .ref r0)] [] ([(r0, .inr (2, [.ref th, .int q, .int (nI f), .int (nI w)])), (th, .inr (3, [.ref hb, .int (nI n)]))])
      exact hR.2.2 _ _ _ d_Rea_finish_23 rfl (by first | exact ⟨q, rfl, rfl⟩ | (rw [show rFin n (.inl p) = .inr (4, p) from if_pos (by omega)]; exact ⟨_, rfl, rfl⟩) | (rw [show rFin n (.inl p) = .inl p from if_neg (by omega)]; exact ⟨0, rfl, rfl⟩))
abbrev rm_Rea_takeBlock : Room := { frames := 5, cells := 0, slots := 0, locals := 114 }
set_option maxHeartbeats 4000000 in
set_option maxRecDepth 100000 in
theorem lp_tb {g : JX} {κ : JK} {r0 th hb ha n cnt : Nat} {xa : Nat → Nat} {xb : Nat → Nat → Nat} {t : Nat → Nat} {s2 : RS} (hn : n ≤ 2000) (hT : ∀ j, t j < 256) (hs : ROk n s2) (hc : cnt ≤ 12) (C : j_C g κ b_Rea_takeBlock R_Rea rm_Rea_takeBlock 4) (hR : j_R g κ b_Rea_takeBlock (some .int) (fun r w => ∃ (q1 : Int32) (y1 : Nat → Nat → Int32) (f1 : Nat → Nat → Nat → Int32), r = some (.int (nI cnt)) ∧ w = [(r0, .inr (2, [.ref th, .int (rN (itN (rTx t n) cnt s2) q1), .int (nI (rF (itN (rTx t n) cnt s2))), .int (rP (itN (rTx t n) cnt s2))])), (th, .inr (3, [.ref hb, .int (nI n)])), (hb, .inl (aB g, 2000, .inl (bf t))), (ha, .inl (aQ g, 12, .inr (.inr (.inr (.inr (fun j => some (xa j)))))))] ++ txs g xa xb y1 f1 ∧ ∀ p, itN (rTx t n) cnt s2 = .inl p → TxAll t n s2 cnt y1 f1) 0 0) : ∀ (k : Nat) (u : Nat) (q : Int32) (y : Nat → Nat → Int32) (f : Nat → Nat → Nat → Int32), u ≤ cnt → cnt + 1 ≤ u + k → TxAll t n s2 u y f → j_V g κ 0 0 15 [(0, .ref r0), (1, .ref ha), (2, .int (nI cnt)), (3, .int (nI u))] [] ([(r0, .inr (2, [.ref th, .int (rN (itN (rTx t n) u s2) q), .int (nI (rF (itN (rTx t n) u s2))), .int (rP (itN (rTx t n) u s2))])), (th, .inr (3, [.ref hb, .int (nI n)])), (hb, .inl (aB g, 2000, .inl (bf t))), (ha, .inl (aQ g, 12, .inr (.inr (.inr (.inr (fun j => some (xa j)))))))] ++ txs g xa xb y f) := by
  intro k
  induction k with
  | zero =>
    intro u q y f hu hk hH
    exfalso; omega
  | succ k ih =>
    intro u q y f hu hk hH
    refine j_iload_n (pc := 15) C d_Rea_takeBlock_15 rfl 3 rfl ?_
    refine j_iload_n (pc := 16) C d_Rea_takeBlock_16 rfl 2 rfl ?_
    refine j_icmp_geN (pc := 17) (tgt := 46) C (by omega) (by omega) d_Rea_takeBlock_17 rfl (fun c17 => ?_) (fun c17 => ?_)
    · skip
      refine j_iload_n (pc := 46) C d_Rea_takeBlock_46 rfl 2 rfl ?_
      exact hR.1 _ _ _ _ d_Rea_takeBlock_47 ⟨_, rfl, by first | rfl | decide⟩ (by first | (have e9 : u = cnt := (by omega); subst e9; exact ⟨q, y, f, rfl, rfl, fun p hp => hH⟩) | (have e := itN_bad c30 cnt hu; rw [e]; exact ⟨q, y, f, rfl, rfl, fun p hp => by rw [hp] at c30; exact absurd c30 (Nat.lt_irrefl 0)⟩))
    · skip
      refine j_iload_n (pc := 20) C d_Rea_takeBlock_20 rfl 3 rfl ?_
      refine j_aload_n (pc := 21) C d_Rea_takeBlock_21 rfl 1 rfl ?_
      refine j_alen (pc := 22) (v := nI 12) C 3 2 rfl rfl rfl d_Rea_takeBlock_22 ?_
      refine j_icmp_geN (pc := 23) (tgt := 46) C (by omega) (by omega) d_Rea_takeBlock_23 rfl (fun c23 => ?_) (fun c23 => ?_)
      · skip
        exfalso; omega
      · skip
        refine j_aload_n (pc := 26) C d_Rea_takeBlock_26 rfl 0 rfl ?_
        have hrf : rF (itN (rTx t n) u s2) < 5 := rF_lt (itN_R (fun _ => rTx_R) u hs)
        refine j_get (pc := 27) C F_Rea_15 0 rfl rfl d_Rea_takeBlock_27 ?_
        refine j_if_neN (pc := 30) (tgt := 46) C (by omega) d_Rea_takeBlock_30 rfl (fun c30 => ?_) (fun c30 => ?_)
        · skip
          refine j_iload_n (pc := 46) C d_Rea_takeBlock_46 rfl 2 rfl ?_
          exact hR.1 _ _ _ _ d_Rea_takeBlock_47 ⟨_, rfl, by first | rfl | decide⟩ (by first | (have e9 : u = cnt := (by omega); subst e9; exact ⟨q, y, f, rfl, rfl, fun p hp => hH⟩) | (have e := itN_bad c30 cnt hu; rw [e]; exact ⟨q, y, f, rfl, rfl, fun p hp => by rw [hp] at c30; exact absurd c30 (Nat.lt_irrefl 0)⟩))
        · skip
          refine j_aload_n (pc := 33) C d_Rea_takeBlock_33 rfl 0 rfl ?_
          refine j_aload_n (pc := 34) C d_Rea_takeBlock_34 rfl 1 rfl ?_
          refine j_iload_n (pc := 35) C d_Rea_takeBlock_35 rfl 3 rfl ?_
          refine j_aaldN (pc := 36) (b := xa u) C 3 2 rfl rfl (by omega) (by omega) rfl d_Rea_takeBlock_36 ?_
          refine j_sub (ws' := [(r0, .inr (2, [.ref th, .int (rN (itN (rTx t n) u s2) q), .int (nI (rF (itN (rTx t n) u s2))), .int (rP (itN (rTx t n) u s2))])), (th, .inr (3, [.ref hb, .int (nI n)])), (hb, .inl (aB g, 2000, .inl (bf t))), (ha, .inl (aQ g, 12, .inr (.inr (.inr (.inr (fun j => some (xa j))))))), (xa u, .inr (4, [.int (y u 0), .int (y u 1), .int (y u 2), .int (y u 3), .ref (xb u 1), .ref (xb u 2), .ref (xb u 3), .ref (xb u 4), .ref (xb u 5), .ref (xb u 6)])), (xb u 1, .inl (aI g, 8, .inl (f u 1))), (xb u 2, .inl (aI g, 8, .inl (f u 2))), (xb u 3, .inl (aI g, 8, .inl (f u 3))), (xb u 4, .inl (aI g, 8, .inl (f u 4))), (xb u 5, .inl (aI g, 8, .inl (f u 5))), (xb u 6, .inl (aI g, 8, .inl (f u 6)))] ++ txB g xa xb y f u) (by exact txs_open (g := g) (xa := xa) (xb := xb) (y := y) (f := f) (u := u) [(r0, .inr (2, [.ref th, .int (rN (itN (rTx t n) u s2) q), .int (nI (rF (itN (rTx t n) u s2))), .int (rP (itN (rTx t n) u s2))])), (th, .inr (3, [.ref hb, .int (nI n)])), (hb, .inl (aB g, 2000, .inl (bf t))), (ha, .inl (aQ g, 12, .inr (.inr (.inr (.inr (fun j => some (xa j)))))))] (by omega)) ?_
          refine j_callV (pc := 37) (As := [.ref (xa u)]) (rest := []) (wc := [(r0, .inr (2, [.ref th, .int (rN (itN (rTx t n) u s2) q), .int (nI (rF (itN (rTx t n) u s2))), .int (rP (itN (rTx t n) u s2))])), (th, .inr (3, [.ref hb, .int (nI n)])), (hb, .inl (aB g, 2000, .inl (bf t))), (xa u, .inr (4, [.int (y u 0), .int (y u 1), .int (y u 2), .int (y u 3), .ref (xb u 1), .ref (xb u 2), .ref (xb u 3), .ref (xb u 4), .ref (xb u 5), .ref (xb u 6)])), (xb u 1, .inl (aI g, 8, .inl (f u 1))), (xb u 2, .inl (aI g, 8, .inl (f u 2))), (xb u 3, .inl (aI g, 8, .inl (f u 3))), (xb u 4, .inl (aI g, 8, .inl (f u 4))), (xb u 5, .inl (aI g, 8, .inl (f u 5))), (xb u 6, .inl (aI g, 8, .inl (f u 6)))]) (wr := [(ha, .inl (aQ g, 12, .inr (.inr (.inr (.inr (fun j => some (xa j)))))))] ++ txB g xa xb y f u) C (c_Rea_takeTransaction (kl κ) g r0 th hb (xa u) n (xb u) t (itN (rTx t n) u s2) q (y u) (f u) (by omega) hT (itN_R (fun _ => rTx_R) u hs)) Y_Rea_takeTransaction ml_Rea_42 im_Rea_takeTransaction sl_Rea_takeTransaction rfl ⟨by decide, by decide⟩ rfl (ci := 2) (q0 := 0) rfl rfl rfl (Nat.le_of_ble_eq_true rfl) (by exact j_Sb.app (a := [(r0, .inr (2, [.ref th, .int (rN (itN (rTx t n) u s2) q), .int (nI (rF (itN (rTx t n) u s2))), .int (rP (itN (rTx t n) u s2))])), (th, .inr (3, [.ref hb, .int (nI n)])), (hb, .inl (aB g, 2000, .inl (bf t))), (ha, .inl (aQ g, 12, .inr (.inr (.inr (.inr (fun j => some (xa j))))))), (xa u, .inr (4, [.int (y u 0), .int (y u 1), .int (y u 2), .int (y u 3), .ref (xb u 1), .ref (xb u 2), .ref (xb u 3), .ref (xb u 4), .ref (xb u 5), .ref (xb u 6)])), (xb u 1, .inl (aI g, 8, .inl (f u 1))), (xb u 2, .inl (aI g, 8, .inl (f u 2))), (xb u 3, .inl (aI g, 8, .inl (f u 3))), (xb u 4, .inl (aI g, 8, .inl (f u 4))), (xb u 5, .inl (aI g, 8, .inl (f u 5))), (xb u 6, .inl (aI g, 8, .inl (f u 6)))]) (b := [(r0, .inr (2, [.ref th, .int (rN (itN (rTx t n) u s2) q), .int (nI (rF (itN (rTx t n) u s2))), .int (rP (itN (rTx t n) u s2))])), (th, .inr (3, [.ref hb, .int (nI n)])), (hb, .inl (aB g, 2000, .inl (bf t))), (xa u, .inr (4, [.int (y u 0), .int (y u 1), .int (y u 2), .int (y u 3), .ref (xb u 1), .ref (xb u 2), .ref (xb u 3), .ref (xb u 4), .ref (xb u 5), .ref (xb u 6)])), (xb u 1, .inl (aI g, 8, .inl (f u 1))), (xb u 2, .inl (aI g, 8, .inl (f u 2))), (xb u 3, .inl (aI g, 8, .inl (f u 3))), (xb u 4, .inl (aI g, 8, .inl (f u 4))), (xb u 5, .inl (aI g, 8, .inl (f u 5))), (xb u 6, .inl (aI g, 8, .inl (f u 6))), (ha, .inl (aQ g, 12, .inr (.inr (.inr (.inr (fun j => some (xa j)))))))]) (j_sb [0, 1, 2, 4, 5, 6, 7, 8, 9, 10, 3] rfl rfl) (txB g xa xb y f u)) rfl d_Rea_takeBlock_37 (fun r w1 hO => ?_)
          obtain ⟨qa1, y1, f1, rfl, rfl, hX1⟩ := hO
          show j_V g κ 0 0 40 [(0, .ref r0), (1, .ref ha), (2, .int (nI cnt)), (3, .int (nI u))] [] ([(r0, .inr (2, [.ref th, .int (rN (itN (rTx t n) (u + 1) s2) qa1), .int (nI (rF (itN (rTx t n) (u + 1) s2))), .int (rP (itN (rTx t n) (u + 1) s2))])), (th, .inr (3, [.ref hb, .int (nI n)])), (hb, .inl (aB g, 2000, .inl (bf t))), (xa u, .inr (4, [.int (y1 0), .int (y1 1), .int (y1 2), .int (y1 3), .ref (xb u 1), .ref (xb u 2), .ref (xb u 3), .ref (xb u 4), .ref (xb u 5), .ref (xb u 6)])), (xb u 1, .inl (aI g, 8, .inl (f1 1))), (xb u 2, .inl (aI g, 8, .inl (f1 2))), (xb u 3, .inl (aI g, 8, .inl (f1 3))), (xb u 4, .inl (aI g, 8, .inl (f1 4))), (xb u 5, .inl (aI g, 8, .inl (f1 5))), (xb u 6, .inl (aI g, 8, .inl (f1 6))), (ha, .inl (aQ g, 12, .inr (.inr (.inr (.inr (fun j => some (xa j)))))))] ++ txB g xa xb y f u)
          refine j_iinc (pc := 40) (k := 3) (v := nI (u + 1)) (lv' := [(3, .int (nI (u + 1))), (0, .ref r0), (1, .ref ha), (2, .int (nI cnt))]) C d_Rea_takeBlock_40 rfl (j_inc _ _) (by decide) rfl ?_
          refine j_goto (pc := 43) (tgt := 15) C d_Rea_takeBlock_43 rfl ?_
          refine j_lv (lv' := [(0, .ref r0), (1, .ref ha), (2, .int (nI cnt)), (3, .int (nI (u + 1)))]) [1, 2, 3, 0] rfl ?_
          refine j_sub (ws' := [(r0, .inr (2, [.ref th, .int (rN (itN (rTx t n) (u + 1) s2) qa1), .int (nI (rF (itN (rTx t n) (u + 1) s2))), .int (rP (itN (rTx t n) (u + 1) s2))])), (th, .inr (3, [.ref hb, .int (nI n)])), (hb, .inl (aB g, 2000, .inl (bf t))), (ha, .inl (aQ g, 12, .inr (.inr (.inr (.inr (fun j => some (xa j))))))), (xa u, .inr (4, [.int (y1 0), .int (y1 1), .int (y1 2), .int (y1 3), .ref (xb u 1), .ref (xb u 2), .ref (xb u 3), .ref (xb u 4), .ref (xb u 5), .ref (xb u 6)])), (xb u 1, .inl (aI g, 8, .inl (f1 1))), (xb u 2, .inl (aI g, 8, .inl (f1 2))), (xb u 3, .inl (aI g, 8, .inl (f1 3))), (xb u 4, .inl (aI g, 8, .inl (f1 4))), (xb u 5, .inl (aI g, 8, .inl (f1 5))), (xb u 6, .inl (aI g, 8, .inl (f1 6)))] ++ txB g xa xb y f u) (by exact j_Sb.app (a := [(r0, .inr (2, [.ref th, .int (rN (itN (rTx t n) (u + 1) s2) qa1), .int (nI (rF (itN (rTx t n) (u + 1) s2))), .int (rP (itN (rTx t n) (u + 1) s2))])), (th, .inr (3, [.ref hb, .int (nI n)])), (hb, .inl (aB g, 2000, .inl (bf t))), (xa u, .inr (4, [.int (y1 0), .int (y1 1), .int (y1 2), .int (y1 3), .ref (xb u 1), .ref (xb u 2), .ref (xb u 3), .ref (xb u 4), .ref (xb u 5), .ref (xb u 6)])), (xb u 1, .inl (aI g, 8, .inl (f1 1))), (xb u 2, .inl (aI g, 8, .inl (f1 2))), (xb u 3, .inl (aI g, 8, .inl (f1 3))), (xb u 4, .inl (aI g, 8, .inl (f1 4))), (xb u 5, .inl (aI g, 8, .inl (f1 5))), (xb u 6, .inl (aI g, 8, .inl (f1 6))), (ha, .inl (aQ g, 12, .inr (.inr (.inr (.inr (fun j => some (xa j)))))))]) (b := [(r0, .inr (2, [.ref th, .int (rN (itN (rTx t n) (u + 1) s2) qa1), .int (nI (rF (itN (rTx t n) (u + 1) s2))), .int (rP (itN (rTx t n) (u + 1) s2))])), (th, .inr (3, [.ref hb, .int (nI n)])), (hb, .inl (aB g, 2000, .inl (bf t))), (ha, .inl (aQ g, 12, .inr (.inr (.inr (.inr (fun j => some (xa j))))))), (xa u, .inr (4, [.int (y1 0), .int (y1 1), .int (y1 2), .int (y1 3), .ref (xb u 1), .ref (xb u 2), .ref (xb u 3), .ref (xb u 4), .ref (xb u 5), .ref (xb u 6)])), (xb u 1, .inl (aI g, 8, .inl (f1 1))), (xb u 2, .inl (aI g, 8, .inl (f1 2))), (xb u 3, .inl (aI g, 8, .inl (f1 3))), (xb u 4, .inl (aI g, 8, .inl (f1 4))), (xb u 5, .inl (aI g, 8, .inl (f1 5))), (xb u 6, .inl (aI g, 8, .inl (f1 6)))]) (j_sb [0, 1, 2, 10, 3, 4, 5, 6, 7, 8, 9] rfl rfl) (txB g xa xb y f u)) ?_
          refine j_sub (ws' := [(r0, .inr (2, [.ref th, .int (rN (itN (rTx t n) (u + 1) s2) qa1), .int (nI (rF (itN (rTx t n) (u + 1) s2))), .int (rP (itN (rTx t n) (u + 1) s2))])), (th, .inr (3, [.ref hb, .int (nI n)])), (hb, .inl (aB g, 2000, .inl (bf t))), (ha, .inl (aQ g, 12, .inr (.inr (.inr (.inr (fun j => some (xa j)))))))] ++ txs g xa xb (va_up y u y1) (va_up f u f1)) (by exact txs_close (g := g) (xa := xa) (xb := xb) (y := y) (f := f) (u := u) [(r0, .inr (2, [.ref th, .int (rN (itN (rTx t n) (u + 1) s2) qa1), .int (nI (rF (itN (rTx t n) (u + 1) s2))), .int (rP (itN (rTx t n) (u + 1) s2))])), (th, .inr (3, [.ref hb, .int (nI n)])), (hb, .inl (aB g, 2000, .inl (bf t))), (ha, .inl (aQ g, 12, .inr (.inr (.inr (.inr (fun j => some (xa j)))))))] (by omega) y1 f1) ?_
          exact ih (u + 1) _ _ _ (by omega) (by omega) (TxAll_s hH hX1)
set_option maxHeartbeats 4000000 in
set_option maxRecDepth 100000 in
theorem c_Rea_takeBlock (l : Launch) (g : JX) (r0 th hb ha n : Nat) (xa : Nat → Nat) (xb : Nat → Nat → Nat) (t : Nat → Nat) (s : RS) (q : Int32) (y : Nat → Nat → Int32) (f : Nat → Nat → Nat → Int32) (hn : n ≤ 2000) (hT : ∀ j, t j < 256) (hs : ROk n s) : j_Ct l y_Rea_takeBlock b_Rea_takeBlock 4 (some .int) rm_Rea_takeBlock g ([(r0, .inr (2, [.ref th, .int (rN s q), .int (nI (rF s)), .int (rP s)])), (th, .inr (3, [.ref hb, .int (nI n)])), (hb, .inl (aB g, 2000, .inl (bf t))), (ha, .inl (aQ g, 12, .inr (.inr (.inr (.inr (fun j => some (xa j)))))))] ++ txs g xa xb y f) [.ref r0, .ref ha] (fun r w => ∃ (q1 : Int32) (y1 : Nat → Nat → Int32) (f1 : Nat → Nat → Nat → Int32), r = some (.int (nI (bZ t n s).1)) ∧ w = [(r0, .inr (2, [.ref th, .int (rN (itN (rTx t n) (bZ t n s).1 (bZ t n s).2) q1), .int (nI (rF (itN (rTx t n) (bZ t n s).1 (bZ t n s).2))), .int (rP (itN (rTx t n) (bZ t n s).1 (bZ t n s).2))])), (th, .inr (3, [.ref hb, .int (nI n)])), (hb, .inl (aB g, 2000, .inl (bf t))), (ha, .inl (aQ g, 12, .inr (.inr (.inr (.inr (fun j => some (xa j)))))))] ++ txs g xa xb y1 f1 ∧ ∀ p, itN (rTx t n) (bZ t n s).1 (bZ t n s).2 = .inl p → TxAll t n (bZ t n s).2 (bZ t n s).1 y1 f1) 0 0 := by
  refine j_ct (by decide) (Nat.le_of_ble_eq_true rfl) (fun κ hkl C hR hI => ?_)
  show j_V g κ 0 0 0 [(0, .ref r0), (1, .ref ha)] [] ([(r0, .inr (2, [.ref th, .int (rN s q), .int (nI (rF s)), .int (rP s)])), (th, .inr (3, [.ref hb, .int (nI n)])), (hb, .inl (aB g, 2000, .inl (bf t))), (ha, .inl (aQ g, 12, .inr (.inr (.inr (.inr (fun j => some (xa j)))))))] ++ txs g xa xb y f)
  refine j_aload_n (pc := 0) C d_Rea_takeBlock_0 rfl 0 rfl ?_
  refine j_bipush (pc := 1) (v := nI 80) C d_Rea_takeBlock_1 (by decide) ?_
  refine j_callV (pc := 3) (As := [.int (nI 80)]) (rest := []) (wc := [(r0, .inr (2, [.ref th, .int (rN s q), .int (nI (rF s)), .int (rP s)])), (th, .inr (3, [.ref hb, .int (nI n)]))]) (wr := [(hb, .inl (aB g, 2000, .inl (bf t))), (ha, .inl (aQ g, 12, .inr (.inr (.inr (.inr (fun j => some (xa j)))))))] ++ txs g xa xb y f) C (c_Rea_skip (kl κ) g r0 th hb n 80 s q (by omega) (by omega) (hs)) Y_Rea_skip ml_Rea_34 im_Rea_skip sl_Rea_skip rfl ⟨by decide, by decide⟩ rfl (ci := 2) (q0 := 0) rfl rfl rfl (Nat.le_of_ble_eq_true rfl) (by exact j_Sb.app (a := [(r0, .inr (2, [.ref th, .int (rN s q), .int (nI (rF s)), .int (rP s)])), (th, .inr (3, [.ref hb, .int (nI n)])), (hb, .inl (aB g, 2000, .inl (bf t))), (ha, .inl (aQ g, 12, .inr (.inr (.inr (.inr (fun j => some (xa j)))))))]) (b := [(r0, .inr (2, [.ref th, .int (rN s q), .int (nI (rF s)), .int (rP s)])), (th, .inr (3, [.ref hb, .int (nI n)])), (hb, .inl (aB g, 2000, .inl (bf t))), (ha, .inl (aQ g, 12, .inr (.inr (.inr (.inr (fun j => some (xa j)))))))]) (j_sb [0, 1, 2, 3] rfl rfl) (txs g xa xb y f)) rfl d_Rea_takeBlock_3 (fun r w1 hO => ?_)
  obtain ⟨q1, rfl, rfl⟩ := hO
  show j_V g κ 0 0 6 [(0, .ref r0), (1, .ref ha)] [] ([(r0, .inr (2, [.ref th, .int (rN (rPass n 80 s) q1), .int (nI (rF (rPass n 80 s))), .int (rP (rPass n 80 s))])), (th, .inr (3, [.ref hb, .int (nI n)])), (hb, .inl (aB g, 2000, .inl (bf t))), (ha, .inl (aQ g, 12, .inr (.inr (.inr (.inr (fun j => some (xa j)))))))] ++ txs g xa xb y f)
  refine j_aload_n (pc := 6) C d_Rea_takeBlock_6 rfl 0 rfl ?_
  refine j_bipush (pc := 7) (v := nI 12) C d_Rea_takeBlock_7 (by decide) ?_
  refine j_callV (pc := 9) (As := [.int (nI 12)]) (rest := []) (wc := [(r0, .inr (2, [.ref th, .int (rN (rPass n 80 s) q1), .int (nI (rF (rPass n 80 s))), .int (rP (rPass n 80 s))])), (th, .inr (3, [.ref hb, .int (nI n)])), (hb, .inl (aB g, 2000, .inl (bf t)))]) (wr := [(ha, .inl (aQ g, 12, .inr (.inr (.inr (.inr (fun j => some (xa j)))))))] ++ txs g xa xb y f) C (c_Rea_takeSize (kl κ) g r0 th hb n 12 t (rPass n 80 s) q1 (by omega) (by omega) hT (rPass_R (hs))) Y_Rea_takeSize ml_Rea_38 im_Rea_takeSize sl_Rea_takeSize rfl ⟨by decide, by decide⟩ rfl (ci := 2) (q0 := 0) rfl rfl rfl (Nat.le_of_ble_eq_true rfl) (by exact j_Sb.app (a := [(r0, .inr (2, [.ref th, .int (rN (rPass n 80 s) q1), .int (nI (rF (rPass n 80 s))), .int (rP (rPass n 80 s))])), (th, .inr (3, [.ref hb, .int (nI n)])), (hb, .inl (aB g, 2000, .inl (bf t))), (ha, .inl (aQ g, 12, .inr (.inr (.inr (.inr (fun j => some (xa j)))))))]) (b := [(r0, .inr (2, [.ref th, .int (rN (rPass n 80 s) q1), .int (nI (rF (rPass n 80 s))), .int (rP (rPass n 80 s))])), (th, .inr (3, [.ref hb, .int (nI n)])), (hb, .inl (aB g, 2000, .inl (bf t))), (ha, .inl (aQ g, 12, .inr (.inr (.inr (.inr (fun j => some (xa j)))))))]) (j_sb [0, 1, 2, 3] rfl rfl) (txs g xa xb y f)) rfl d_Rea_takeBlock_9 (fun r w1 hO => ?_)
  obtain ⟨q2, rfl, rfl⟩ := hO
  show j_V g κ 0 0 12 [(0, .ref r0), (1, .ref ha)] [.int (nI ((bZ t n s).1))] ([(r0, .inr (2, [.ref th, .int (rN ((bZ t n s).2) q2), .int (nI (rF ((bZ t n s).2))), .int (rP ((bZ t n s).2))])), (th, .inr (3, [.ref hb, .int (nI n)])), (hb, .inl (aB g, 2000, .inl (bf t))), (ha, .inl (aQ g, 12, .inr (.inr (.inr (.inr (fun j => some (xa j)))))))] ++ txs g xa xb y f)
  have hz9 : (bZ t n s).1 ≤ 12 := rSize_le
  refine j_istore_n (pc := 12) (lv' := [(2, .int (nI ((bZ t n s).1))), (0, .ref r0), (1, .ref ha)]) C d_Rea_takeBlock_12 rfl (by decide) rfl ?_
  refine j_iconst (pc := 13) (v := nI 0) C d_Rea_takeBlock_13 (by decide) ?_
  refine j_istore_n (pc := 14) (lv' := [(3, .int (nI 0)), (2, .int (nI ((bZ t n s).1))), (0, .ref r0), (1, .ref ha)]) C d_Rea_takeBlock_14 rfl (by decide) rfl ?_
  refine j_lv (lv' := [(0, .ref r0), (1, .ref ha), (2, .int (nI ((bZ t n s).1))), (3, .int (nI 0))]) [2, 3, 1, 0] rfl ?_
  exact lp_tb (r0 := r0) (th := th) (hb := hb) (ha := ha) (xa := xa) (xb := xb) (t := t) (s2 := (bZ t n s).2) (cnt := (bZ t n s).1) hn hT (bZ_R hs) hz9 C hR 13 0 _ y f (by omega) (by omega) (fun v hv => absurd hv (by omega))
end
section
/-! SHA-256 over words of 32 bits -/
abbrev BW : Type := BitVec 32
def bI (b : BW) : Int32 := Int32.ofBitVec b
def wf (d : Nat → BW) : Nat → Int32 := fun j => bI (d j)
theorem wf_upd (d : Nat → BW) (i : Nat) (c : BW) : upd (wf d) i (bI c) = wf (va_up d i c) := by
  funext j; simp only [upd, wf, va_up]; split <;> rfl
theorem bI_add (a b : BW) : bI a + bI b = bI (a + b) := rfl
theorem bI_xor (a b : BW) : bI a ^^^ bI b = bI (a ^^^ b) := rfl
theorem bI_and (a b : BW) : bI a &&& bI b = bI (a &&& b) := rfl
theorem bI_or (a b : BW) : bI a ||| bI b = bI (a ||| b) := rfl
theorem bI_of (x : Int32) : bI x.toBitVec = x := rfl
theorem bI_nI (n : Nat) : nI n = bI (BitVec.ofNat 32 n) := rfl
theorem bI_not (a : BW) : bI a ^^^ (-1) = bI (~~~ a) := by
  show bI (a ^^^ BitVec.allOnes 32) = _
  rw [BitVec.xor_allOnes]
theorem sh_u : ∀ n, n < 32 → (((nI n).toUInt32 &&& Int32.toUInt32 31).toBitVec % 32).toNat = n := by decide +kernel
theorem sh_l : ∀ n, n < 32 → ((nI n &&& 31).toBitVec.smod 32).toNat = n := by decide +kernel
theorem bI_ushr (a : BW) {k : Nat} (hk : k < 32) : ((bI a).toUInt32 >>> ((nI k).toUInt32 &&& Int32.toUInt32 31)).toInt32 = bI (a >>> k) := by
  apply Int32.toBitVec_inj.mp
  apply BitVec.eq_of_toNat_eq
  rw [pk_ushr (bI a) (nI k) k (sh_u k hk)]
  show a.toNat / 2 ^ k = (a >>> k).toNat
  rw [BitVec.toNat_ushiftRight, Nat.shiftRight_eq_div_pow]
theorem bI_shl (a : BW) {k : Nat} (hk : k < 32) : bI a <<< (nI k &&& 31) = bI (a <<< k) := by
  apply Int32.toBitVec_inj.mp
  apply BitVec.eq_of_toNat_eq
  rw [pk_shl (bI a) (nI k &&& 31) k (sh_l k hk)]
  show a.toNat * 2 ^ k % 2 ^ 32 = (a <<< k).toNat
  rw [BitVec.toNat_shiftLeft, Nat.shiftLeft_eq]
theorem bI_turn (a : BW) {k : Nat} (h0 : 0 < k) (hk : k < 32) : bI (a >>> k) ||| (bI a <<< (nI (32 - k) &&& 31)) = bI (a.rotateRight k) := by
  rw [bI_shl a (by omega), bI_or]
  congr 1
  rw [BitVec.rotateRight_def, Nat.mod_eq_of_lt hk]
def s0 (b : BW) : BW := b.rotateRight 7 ^^^ b.rotateRight 18 ^^^ (b >>> 3)
def s1 (b : BW) : BW := b.rotateRight 17 ^^^ b.rotateRight 19 ^^^ (b >>> 10)
def S1 (e : BW) : BW := e.rotateRight 6 ^^^ e.rotateRight 11 ^^^ e.rotateRight 25
def S0 (a : BW) : BW := a.rotateRight 2 ^^^ a.rotateRight 13 ^^^ a.rotateRight 22
def ch (e f g : BW) : BW := (e &&& f) ^^^ (~~~ e &&& g)
def maj (a b c : BW) : BW := (a &&& b) ^^^ (a &&& c) ^^^ (b &&& c)
def wx (m : Nat → BW) (i : Nat) : BW := if i < 16 then m i else s1 (wx m (i - 2)) + wx m (i - 7) + s0 (wx m (i - 15)) + wx m (i - 16)
termination_by i
decreasing_by all_goals omega
theorem wx_lo {m : Nat → BW} {i : Nat} (h : i < 16) : wx m i = m i := by rw [wx, if_pos h]
theorem wx_hi {m : Nat → BW} {i : Nat} (h : 16 ≤ i) : wx m i = s1 (wx m (i - 2)) + wx m (i - 7) + s0 (wx m (i - 15)) + wx m (i - 16) := by rw [wx, if_neg (by omega)]
theorem wx_cg {m m' : Nat → BW} (h : ∀ j, j < 16 → m j = m' j) : ∀ i, wx m i = wx m' i := by
  intro i
  induction i using Nat.strongRecOn with
  | _ i ih =>
    by_cases c : i < 16
    · rw [wx_lo c, wx_lo c, h i c]
    · rw [wx_hi (m := m) (i := i) (by omega), wx_hi (m := m') (i := i) (by omega), ih (i - 2) (by omega), ih (i - 7) (by omega), ih (i - 15) (by omega), ih (i - 16) (by omega)]
/-- constants -/
def cK (i : Nat) : BW := (kROUND.getD i 0).toBitVec
def cH (i : Nat) : BW := (kSTART.getD i 0).toBitVec
/-- one round -/
def t1 (k w : BW) (s : Nat → BW) : BW := s 7 + S1 (s 4) + ch (s 4) (s 5) (s 6) + k + w
def rdF (k w : BW) (s : Nat → BW) : Nat → BW
  | 0 => t1 k w s + S0 (s 0) + maj (s 0) (s 1) (s 2)
  | 1 => s 0
  | 2 => s 1
  | 3 => s 2
  | 4 => s 3 + t1 k w s
  | 5 => s 4
  | 6 => s 5
  | _ => s 6
def rdN (w : Nat → BW) (d : Nat → BW) : Nat → Nat → BW
  | 0 => d
  | i + 1 => rdF (cK i) (w i) (rdN w d i)
theorem rdF_cg {k w : BW} {s s' : Nat → BW} (h : ∀ j, j < 8 → s j = s' j) : ∀ j, j < 8 → rdF k w s j = rdF k w s' j := by
  have e0 := h 0 (by omega); have e1 := h 1 (by omega); have e2 := h 2 (by omega); have e3 := h 3 (by omega); have e4 := h 4 (by omega); have e5 := h 5 (by omega); have e6 := h 6 (by omega); have e7 := h 7 (by omega)
  have et : t1 k w s = t1 k w s' := by unfold t1; rw [e4, e5, e6, e7]
  intro j hj
  match j, hj with
  | 0, _ => show t1 k w s + S0 (s 0) + maj (s 0) (s 1) (s 2) = t1 k w s' + S0 (s' 0) + maj (s' 0) (s' 1) (s' 2); rw [et, e0, e1, e2]
  | 1, _ => exact e0
  | 2, _ => exact e1
  | 3, _ => exact e2
  | 4, _ => show s 3 + t1 k w s = s' 3 + t1 k w s'; rw [et, e3]
  | 5, _ => exact e4
  | 6, _ => exact e5
  | 7, _ => exact e6
theorem rdN_cg {w w' d d' : Nat → BW} (hd : ∀ j, j < 8 → d j = d' j) : ∀ (i : Nat), (∀ j, j < i → w j = w' j) → ∀ j, j < 8 → rdN w d i j = rdN w' d' i j
  | 0, _ => hd
  | i + 1, hw => by
    intro j hj
    show rdF (cK i) (w i) (rdN w d i) j = rdF (cK i) (w' i) (rdN w' d' i) j
    rw [hw i (by omega)]
    exact rdF_cg (rdN_cg hd i (fun j h => hw j (by omega))) j hj
/-- a message's bytes with what comes behind them -/
def pLast (n : Nat) : Nat := ((n + 8) / 64 + 1) * 64 - 1
def pb (t : Nat → Nat) (n i : Nat) : Nat := if i < n then t i else if i = n then 128 else if pLast n - 4 < i then n * 8 / 2 ^ (8 * (pLast n - i)) % 256 else 0
theorem pb_lt {t : Nat → Nat} (hT : ∀ j, t j < 256) (n i : Nat) : pb t n i < 256 := by
  unfold pb
  split
  · exact hT i
  · split
    · decide
    · split
      · exact Nat.mod_lt _ (by decide)
      · decide
def push (x : BW) (b : Nat) : BW := (x <<< 8) ||| BitVec.ofNat 32 b
def ps (x : BW) (m : Nat → Nat) : Nat → BW
  | 0 => x
  | k + 1 => push (ps x m k) (m k)
def wd (b : Nat → Nat) (i : Nat) : BW := BitVec.ofNat 32 (((b i * 256 + b (i + 1)) * 256 + b (i + 2)) * 256 + b (i + 3))
theorem push_n (x : BW) {b : Nat} (hb : b < 256) : (push x b).toNat = (x.toNat * 256 + b) % 2 ^ 32 := by
  unfold push
  rw [BitVec.toNat_or, BitVec.toNat_shiftLeft, BitVec.toNat_ofNat, Nat.shiftLeft_eq, Nat.mod_eq_of_lt (show b < 2 ^ 32 by omega)]
  have e : x.toNat * 2 ^ 8 % 2 ^ 32 = (x.toNat % 2 ^ 24) * 2 ^ 8 := by omega
  rw [e, ← Nat.shiftLeft_eq, ← Nat.shiftLeft_add_eq_or_of_lt (show b < 2 ^ 8 by omega), Nat.shiftLeft_eq]
  omega
theorem ps_4 (x : BW) {m : Nat → Nat} (hm : ∀ j, m j < 256) : ps x m 4 = BitVec.ofNat 32 (((m 0 * 256 + m 1) * 256 + m 2) * 256 + m 3) := by
  apply BitVec.eq_of_toNat_eq
  show (push (push (push (push x (m 0)) (m 1)) (m 2)) (m 3)).toNat = _
  have h0 := hm 0; have h1 := hm 1; have h2 := hm 2; have h3 := hm 3
  rw [push_n _ h3, push_n _ h2, push_n _ h1, push_n _ h0, BitVec.toNat_ofNat]
  omega
/-- the row of words while its bytes come -/
def pW (w0 : Nat → BW) (b : Nat → Nat) (i : Nat) : Nat → BW := fun j => ps (w0 j) (fun q => b (4 * j + q)) (min 4 (i - 4 * j))
theorem pW_0 (w0 : Nat → BW) (b : Nat → Nat) : pW w0 b 0 = w0 := by
  funext j; unfold pW; rw [show min 4 (0 - 4 * j) = 0 by omega]; rfl
theorem pW_s (w0 : Nat → BW) (b : Nat → Nat) (i : Nat) : va_up (pW w0 b i) (i / 4) (push (pW w0 b i (i / 4)) (b i)) = pW w0 b (i + 1) := by
  funext j
  simp only [va_up]
  by_cases h : j = i / 4
  · rw [if_pos h]
    subst h
    unfold pW
    rw [show min 4 (i + 1 - 4 * (i / 4)) = min 4 (i - 4 * (i / 4)) + 1 by omega]
    show push _ _ = push _ _
    congr 1
    congr 1
    omega
  · rw [if_neg h]
    unfold pW
    rw [show min 4 (i + 1 - 4 * j) = min 4 (i - 4 * j) by omega]
theorem pW_64 {w0 : Nat → BW} {b : Nat → Nat} (hb : ∀ j, b j < 256) {j : Nat} (hj : j < 16) : pW w0 b 64 j = wd b (4 * j) := by
  unfold pW
  rw [show min 4 (64 - 4 * j) = 4 by omega, ps_4 _ (fun q => hb _)]
  rfl
/-- the digest's words -/
def dgN (b : Nat → Nat) : Nat → Nat → BW
  | 0 => cH
  | c + 1 => fun j => dgN b c j + rdN (wx (fun i => wd b (c * 64 + 4 * i))) (dgN b c) 64 j
def dW (t : Nat → Nat) (n : Nat) : Nat → BW := dgN (pb t n) ((n + 8) / 64 + 1)
def wB (d : Nat → BW) (i : Nat) : Nat := (d (i / 4)).toNat / 2 ^ (24 - 8 * (i % 4)) % 256
theorem wB_lt (d : Nat → BW) (i : Nat) : wB d i < 256 := Nat.mod_lt _ (by decide)
def dB (t : Nat → Nat) (n : Nat) : Nat → Nat := wB (dW t n)
/-- a name's bytes -/
def nm (t : Nat → Nat) (n : Nat) : Nat → Nat := dB (dB t n) 32
section JW
variable {g : JX} {κ : JK} {cc : ByteArray} {own : String} {rm : Room} {nL pc cells slots : Nat} {lv : List (Nat × Value)} {rest : List Value} {ws : va_W}
theorem j_iaddW (C : j_C g κ cc own rm nL) {a b : BW} (hdg : decode cc pc = .ok (.iadd, 1)) (k9 : j_V g κ cells slots (pc + 1) lv (.int (bI (a + b)) :: rest) ws) : j_V g κ cells slots pc lv (.int (bI b) :: .int (bI a) :: rest) ws := j_iadd C hdg k9
theorem j_ixorW (C : j_C g κ cc own rm nL) {a b : BW} (hdg : decode cc pc = .ok (.ixor, 1)) (k9 : j_V g κ cells slots (pc + 1) lv (.int (bI (a ^^^ b)) :: rest) ws) : j_V g κ cells slots pc lv (.int (bI b) :: .int (bI a) :: rest) ws := j_ixor C hdg k9
theorem j_iandW (C : j_C g κ cc own rm nL) {a b : BW} (hdg : decode cc pc = .ok (.iand, 1)) (k9 : j_V g κ cells slots (pc + 1) lv (.int (bI (a &&& b)) :: rest) ws) : j_V g κ cells slots pc lv (.int (bI b) :: .int (bI a) :: rest) ws := j_iand C hdg k9
theorem j_inotW (C : j_C g κ cc own rm nL) {a : BW} (hdg : decode cc pc = .ok (.ixor, 1)) (k9 : j_V g κ cells slots (pc + 1) lv (.int (bI (~~~ a)) :: rest) ws) : j_V g κ cells slots pc lv (.int (-1) :: .int (bI a) :: rest) ws := j_ixor C hdg (j_rwi (bI_not a) k9)
theorem j_iushrW (C : j_C g κ cc own rm nL) {a : BW} {k : Nat} (hk : k < 32) (hdg : decode cc pc = .ok (.iushr, 1)) (k9 : j_V g κ cells slots (pc + 1) lv (.int (bI (a >>> k)) :: rest) ws) : j_V g κ cells slots pc lv (.int (nI k) :: .int (bI a) :: rest) ws := j_iushr C hdg (bI_ushr a hk) k9
theorem j_ishlW (C : j_C g κ cc own rm nL) {a : BW} {k : Nat} (hk : k < 32) (hdg : decode cc pc = .ok (.ishl, 1)) (k9 : j_V g κ cells slots (pc + 1) lv (.int (bI (a <<< k)) :: rest) ws) : j_V g κ cells slots pc lv (.int (nI k) :: .int (bI a) :: rest) ws := j_ishl C hdg (j_rwi (bI_shl a hk) k9)
theorem j_iorWN (C : j_C g κ cc own rm nL) {a : BW} {k : Nat} (hdg : decode cc pc = .ok (.ior, 1)) (k9 : j_V g κ cells slots (pc + 1) lv (.int (bI (a ||| BitVec.ofNat 32 k)) :: rest) ws) : j_V g κ cells slots pc lv (.int (nI k) :: .int (bI a) :: rest) ws := j_ior C hdg k9
theorem j_iastW (C : j_C g κ cc own rm nL) (q0 t0 : Nat) {a n : Nat} {cA : ClassId} {d : Nat → BW} (ha : ws[q0]? = some (a, .inl (cA, n, .inl (wf d)))) (ht : (jT g)[t0]? = some (cA, .int)) {i : Nat} {c : BW} (hi : i < n) (hn : n < 2 ^ 31) {ws' : va_W} (hw : ws.set q0 (a, .inl (cA, n, .inl (wf (va_up d i c)))) = ws') (hdg : decode cc pc = .ok (.iastore, 1)) (k9 : j_V g κ cells slots (pc + 1) lv rest ws') : j_V g κ cells slots pc lv (.int (bI c) :: .int (nI i) :: .ref a :: rest) ws :=
  j_iastN C q0 t0 ha ht hi hn (by rw [wf_upd]; exact hw) hdg k9
theorem j_taldR (C : j_C g κ cc own rm nL) {i : Nat} (hi : i < 64) (hdg : decode cc pc = .ok (.iaload, 1)) (k9 : j_V g κ cells slots (pc + 1) lv (.int (bI (cK i)) :: rest) ws) : j_V g κ cells slots pc lv (.int (nI i) :: .ref (tR g) :: rest) ws :=
  j_tald C C.2.2.2.2.2.2.2.2.2.2.2.2.2.1 (vp_in_nI hi (by decide)) (by rw [nI_clamp (by omega)]; rfl) hdg k9
theorem j_taldS (C : j_C g κ cc own rm nL) {i : Nat} (hi : i < 8) (hdg : decode cc pc = .ok (.iaload, 1)) (k9 : j_V g κ cells slots (pc + 1) lv (.int (bI (cH i)) :: rest) ws) : j_V g κ cells slots pc lv (.int (nI i) :: .ref (tS g) :: rest) ws :=
  j_tald C C.2.2.2.2.2.2.2.2.2.2.2.1 (vp_in_nI hi (by decide)) (by rw [nI_clamp (by omega)]; rfl) hdg k9
end JW
end
section
theorem bI_turn2 (a : BW) {k : Nat} (h0 : 0 < k) (hk : k < 32) : bI (a >>> k) ||| bI (a <<< (32 - k)) = bI (a.rotateRight k) := by
  rw [bI_or]
  congr 1
  rw [BitVec.rotateRight_def, Nat.mod_eq_of_lt hk]
theorem pb_1 {t : Nat → Nat} {n i : Nat} (h : i < n) : pb t n i = t i := if_pos h
theorem pb_2 {t : Nat → Nat} {n i : Nat} (h : i = n) : pb t n i = 128 := by unfold pb; rw [if_neg (by omega), if_pos h]
theorem pb_3 {t : Nat → Nat} {n i : Nat} (h : n < i) (h2 : pLast n - 4 < i) : pb t n i = n * 8 / 2 ^ (8 * (pLast n - i)) % 256 := by unfold pb; rw [if_neg (by omega), if_neg (by omega), if_pos h2]
theorem pb_4 {t : Nat → Nat} {n i : Nat} (h : n < i) (h2 : i ≤ pLast n - 4) : pb t n i = 0 := by unfold pb; rw [if_neg (by omega), if_neg (by omega), if_neg (by omega)]
/-- the schedule while it is stretched -/
def stW (w : Nat → BW) (i : Nat) : Nat → BW := fun j => if j < i then wx w j else w j
theorem stW_16 (w : Nat → BW) : stW w 16 = w := by
  funext j; unfold stW; split
  · exact wx_lo (by assumption)
  · rfl
theorem stW_lt {w : Nat → BW} {i j : Nat} (h : j < i) : stW w i j = wx w j := if_pos h
theorem stW_s (w : Nat → BW) (i : Nat) : va_up (stW w i) i (wx w i) = stW w (i + 1) := by
  funext j; simp only [stW, va_up]
  by_cases h : j = i
  · subst h; rw [if_pos rfl, if_pos (by omega)]
  · rw [if_neg h]
    by_cases h2 : j < i
    · rw [if_pos h2, if_pos (by omega)]
    · rw [if_neg h2, if_neg (by omega)]
theorem stW_v {w : Nat → BW} {i : Nat} (h : 16 ≤ i) : s1 (stW w i (i - 2)) + stW w i (i - 7) + s0 (stW w i (i - 15)) + stW w i (i - 16) = wx w i := by
  rw [stW_lt (by omega), stW_lt (by omega), stW_lt (by omega), stW_lt (by omega)]
  exact (wx_hi h).symm
/-- the first i places are f's -/
def cpW (f f0 : Nat → BW) (i : Nat) : Nat → BW := fun j => if j < i then f j else f0 j
theorem cpW_0 (f f0 : Nat → BW) : cpW f f0 0 = f0 := by funext j; unfold cpW; rw [if_neg (by omega)]
theorem cpW_s (f f0 : Nat → BW) (i : Nat) : va_up (cpW f f0 i) i (f i) = cpW f f0 (i + 1) := by
  funext j; simp only [cpW, va_up]
  by_cases h : j = i
  · subst h; rw [if_pos rfl, if_pos (by omega)]
  · rw [if_neg h]
    by_cases h2 : j < i
    · rw [if_pos h2, if_pos (by omega)]
    · rw [if_neg h2, if_neg (by omega)]
theorem wB_sb (d : Nat → BW) (i : Nat) : (bI (d (i / 4) >>> (24 - 8 * (i % 4)))).toInt8.toInt32 = sb_b (wB d i) := by
  have e : bI (d (i / 4) >>> (24 - 8 * (i % 4))) = nI ((d (i / 4) >>> (24 - 8 * (i % 4))).toNat) := by
    rw [bI_nI, BitVec.ofNat_toNat, BitVec.setWidth_eq]
  rw [e, sb_mod]
  congr 1
  rw [BitVec.toNat_ushiftRight, Nat.shiftRight_eq_div_pow]
  rfl
theorem dg_step {b : Nat → Nat} (hb : ∀ j, b j < 256) {c : Nat} {d d2 w w2 : Nat → BW} (hd : ∀ j, j < 8 → d j = dgN b c j) (hw : ∀ j, j < 64 → w2 j = wx (pW w (fun q => b (c * 64 + q)) 64) j) (h2 : ∀ j, j < 8 → d2 j = d j + rdN w2 d 64 j) : ∀ j, j < 8 → d2 j = dgN b (c + 1) j := by
  intro j hj
  rw [h2 j hj, hd j hj]
  show _ = dgN b c j + rdN (wx (fun i => wd b (c * 64 + 4 * i))) (dgN b c) 64 j
  have e : rdN w2 d 64 j = rdN (wx (fun i => wd b (c * 64 + 4 * i))) (dgN b c) 64 j := by
    refine rdN_cg hd 64 (fun i hi => ?_) j hj
    rw [hw i hi]
    exact wx_cg (fun q hq => pW_64 (fun _ => hb _) hq) i
  rw [e]
theorem pb_cg {t u : Nat → Nat} {n : Nat} (h : ∀ j, j < n → t j = u j) : pb t n = pb u n := by
  funext i
  unfold pb
  by_cases c : i < n
  · rw [if_pos c, if_pos c, h i c]
  · rw [if_neg c, if_neg c]
theorem dW_cg {t u : Nat → Nat} {n : Nat} (h : ∀ j, j < n → t j = u j) : dW t n = dW u n := by unfold dW; rw [pb_cg h]
theorem wB_cg {d e : Nat → BW} (h : ∀ j, j < 8 → d j = e j) {i : Nat} (hi : i < 32) : wB d i = wB e i := by unfold wB; rw [h (i / 4) (by omega)]
theorem nm_cg {t u : Nat → Nat} {n : Nat} (h : ∀ j, j < n → t j = u j) : nm t n = nm u n := by unfold nm dB; rw [dW_cg h]
theorem putF_at {t : Nat → Nat} {n m : Nat} {s : Nat → Nat} {j : Nat} (h : j < m) : putF t n m s (n + j) = s j := by unfold putF; rw [if_pos (by omega), Nat.add_sub_cancel_left]
theorem putF_cg {t : Nat → Nat} {n m : Nat} {s s' : Nat → Nat} (h : ∀ j, j < m → s j = s' j) : putF t n m s = putF t n m s' := by
  funext j; unfold putF; split
  · exact h _ (by omega)
  · rfl
theorem nm_of {t u : Nat → Nat} {n p : Nat} {d1 d2 : Nat → BW} (h1 : ∀ j, j < 8 → d1 j = dW (fun j => t (p + j)) n j) (h2 : ∀ j, j < 8 → d2 j = dW (fun j => putF u 0 32 (wB d1) (0 + j)) 32 j) : ∀ j, j < 32 → wB d2 j = nm (fun j => t (p + j)) n j := by
  intro j hj
  unfold nm dB
  refine wB_cg (fun i hi => ?_) hj
  rw [h2 i hi]
  have e : dW (fun j => putF u 0 32 (wB d1) (0 + j)) 32 = dW (wB (dW (fun j => t (p + j)) n)) 32 := dW_cg (fun q hq => by
    show putF u 0 32 (wB d1) (0 + q) = _
    rw [putF_at hq]
    exact wB_cg h1 hq)
  rw [e]
end
section
abbrev rm_Nam_turn : Room := { frames := 0, cells := 0, slots := 0, locals := 0 }
set_option maxHeartbeats 4000000 in
set_option maxRecDepth 100000 in
theorem c_Nam_turn (l : Launch) (g : JX) (b : BW) (k1 : Nat) (h0 : 0 < k1) (hk1 : k1 < 32) : j_Ct l y_Nam_turn b_Nam_turn 2 (some .int) rm_Nam_turn g ([]) [.int (bI b), .int (nI k1)] (fun r w => r = some (.int (bI (b.rotateRight k1))) ∧ w = []) 0 0 := by
  refine j_ct (by decide) (Nat.le_of_ble_eq_true rfl) (fun κ hkl C hR hI => ?_)
  show j_V g κ 0 0 0 [(0, .int (bI b)), (1, .int (nI k1))] [] ([])
  refine j_iload_n (pc := 0) C d_Nam_turn_0 rfl 0 rfl ?_
  refine j_iload_n (pc := 1) C d_Nam_turn_1 rfl 1 rfl ?_
  refine j_iushrW (pc := 2) C (by omega) d_Nam_turn_2 ?_
  refine j_iload_n (pc := 3) C d_Nam_turn_3 rfl 0 rfl ?_
  refine j_bipush (pc := 4) (v := nI 32) C d_Nam_turn_4 (by decide) ?_
  refine j_iload_n (pc := 6) C d_Nam_turn_6 rfl 1 rfl ?_
  refine j_isubN (pc := 7) C (by omega) d_Nam_turn_7 ?_
  refine j_ishlW (pc := 8) C (by omega) d_Nam_turn_8 ?_
  refine j_ior (pc := 9) C d_Nam_turn_9 ?_
  refine j_rwi (y := bI (b.rotateRight k1)) (bI_turn2 b h0 hk1) ?_
  exact hR.1 _ _ _ _ d_Nam_turn_10 ⟨_, rfl, by first | rfl | decide⟩ (⟨rfl, rfl⟩)
theorem pL (n : Nat) : pLast n = ((n + 8) / 64 + 1) * 64 - 1 := rfl
abbrev rm_Nam_paddedByte : Room := { frames := 0, cells := 0, slots := 0, locals := 0 }
set_option maxHeartbeats 4000000 in
set_option maxRecDepth 100000 in
theorem c_Nam_paddedByte (l : Launch) (g : JX) (sa N0 p n i : Nat) (t : Nat → Nat) (hN : N0 ≤ 2000) (hT : ∀ j, t j < 256) (hp : p + n ≤ N0) (hi : i < ((n + 8) / 64 + 1) * 64) : j_Ct l y_Nam_paddedByte b_Nam_paddedByte 5 (some .int) rm_Nam_paddedByte g ([(sa, .inl (aB g, N0, .inl (bf t)))]) [.ref sa, .int (nI p), .int (nI n), .int (nI i)] (fun r w => r = some (.int (nI (pb (fun j => t (p + j)) n i))) ∧ w = [(sa, .inl (aB g, N0, .inl (bf t)))]) 0 0 := by
  refine j_ct (by decide) (Nat.le_of_ble_eq_true rfl) (fun κ hkl C hR hI => ?_)
  show j_V g κ 0 0 0 [(0, .ref sa), (1, .int (nI p)), (2, .int (nI n)), (3, .int (nI i))] [] ([(sa, .inl (aB g, N0, .inl (bf t)))])
  refine j_iload_n (pc := 0) C d_Nam_paddedByte_0 rfl 3 rfl ?_
  refine j_iload_n (pc := 1) C d_Nam_paddedByte_1 rfl 2 rfl ?_
  refine j_icmp_geN (pc := 2) (tgt := 15) C (by omega) (by omega) d_Nam_paddedByte_2 rfl (fun c2 => ?_) (fun c2 => ?_)
  · skip
    refine j_iload_n (pc := 15) C d_Nam_paddedByte_15 rfl 3 rfl ?_
    refine j_iload_n (pc := 16) C d_Nam_paddedByte_16 rfl 2 rfl ?_
    refine j_icmp_neN (pc := 17) (tgt := 24) C (by omega) (by omega) d_Nam_paddedByte_17 rfl (fun c17 => ?_) (fun c17 => ?_)
    · skip
      refine j_iload_n (pc := 24) C d_Nam_paddedByte_24 rfl 2 rfl ?_
      refine j_bipush (pc := 25) (v := nI 8) C d_Nam_paddedByte_25 (by decide) ?_
      refine j_iaddN (pc := 27) C d_Nam_paddedByte_27 ?_
      refine j_bipush (pc := 28) (v := nI 64) C d_Nam_paddedByte_28 (by decide) ?_
      refine j_idivN (pc := 30) C (by omega) (by omega) (by omega) d_Nam_paddedByte_30 ?_
      refine j_iconst (pc := 31) (v := nI 1) C d_Nam_paddedByte_31 (by decide) ?_
      refine j_iaddN (pc := 32) C d_Nam_paddedByte_32 ?_
      refine j_bipush (pc := 33) (v := nI 64) C d_Nam_paddedByte_33 (by decide) ?_
      refine j_imulN (pc := 35) C d_Nam_paddedByte_35 ?_
      refine j_iconst (pc := 36) (v := nI 1) C d_Nam_paddedByte_36 (by decide) ?_
      refine j_isubN (pc := 37) C (by omega) d_Nam_paddedByte_37 ?_
      refine j_istore (pc := 38) (lv' := [(4, .int (nI (((((n + 8) / 64) + 1) * 64) - 1))), (0, .ref sa), (1, .int (nI p)), (2, .int (nI n)), (3, .int (nI i))]) C d_Nam_paddedByte_38 (by decide) rfl ?_
      refine j_iload_n (pc := 40) C d_Nam_paddedByte_40 rfl 4 rfl ?_
      refine j_iload (pc := 41) C d_Nam_paddedByte_41 0 rfl ?_
      refine j_iconst (pc := 43) (v := nI 4) C d_Nam_paddedByte_43 (by decide) ?_
      refine j_isubN (pc := 44) C (by omega) d_Nam_paddedByte_44 ?_
      refine j_icmp_leN (pc := 45) (tgt := 67) C (by omega) (by omega) d_Nam_paddedByte_45 rfl (fun c45 => ?_) (fun c45 => ?_)
      · skip
        refine j_iconst (pc := 67) (v := nI 0) C d_Nam_paddedByte_67 (by decide) ?_
        exact hR.1 _ _ _ _ d_Nam_paddedByte_68 ⟨_, rfl, by first | rfl | decide⟩ (⟨by first | rw [pb_4 (by omega) (by rw [pL]; omega)] | rw [pb_3 (by omega) (by rw [pL]; omega), pL], rfl⟩)
      · skip
        refine j_iload_n (pc := 48) C d_Nam_paddedByte_48 rfl 3 rfl ?_
        refine j_bipush (pc := 49) (v := nI 8) C d_Nam_paddedByte_49 (by decide) ?_
        refine j_imulN (pc := 51) C d_Nam_paddedByte_51 ?_
        refine j_bipush (pc := 52) (v := nI 8) C d_Nam_paddedByte_52 (by decide) ?_
        refine j_iload (pc := 54) C d_Nam_paddedByte_54 0 rfl ?_
        refine j_iload_n (pc := 56) C d_Nam_paddedByte_56 rfl 4 rfl ?_
        refine j_isubN (pc := 57) C (by omega) d_Nam_paddedByte_57 ?_
        refine j_imulN (pc := 58) C d_Nam_paddedByte_58 ?_
        refine j_iushr (pc := 59) (v := ((nI (n * 8)).toUInt32 >>> ((nI (8 * ((((((n + 8) / 64) + 1) * 64) - 1) - i))).toUInt32 &&& Int32.toUInt32 31)).toInt32) C d_Nam_paddedByte_59 rfl ?_
        refine j_rwi (y := nI (n * 8 / 2 ^ (8 * (((n + 8) / 64 + 1) * 64 - 1 - i)))) (pk_ushrN (by omega) _ _ (sh_u _ (by omega))) ?_
        refine j_sipush (pc := 60) (v := nI 255) C d_Nam_paddedByte_60 (by decide) ?_
        refine j_iand (pc := 63) C d_Nam_paddedByte_63 ?_
        refine j_rwi (y := nI ((n * 8 / 2 ^ (8 * (((n + 8) / 64 + 1) * 64 - 1 - i))) % 256)) (pk_andN (Nat.lt_of_le_of_lt (Nat.div_le_self _ _) (by omega)) 8 (by decide)) ?_
        refine j_goto (pc := 64) (tgt := 68) C d_Nam_paddedByte_64 rfl ?_
        exact hR.1 _ _ _ _ d_Nam_paddedByte_68 ⟨_, rfl, by first | rfl | decide⟩ (⟨by first | rw [pb_4 (by omega) (by rw [pL]; omega)] | rw [pb_3 (by omega) (by rw [pL]; omega), pL], rfl⟩)
    · skip
      refine j_sipush (pc := 20) (v := nI 128) C d_Nam_paddedByte_20 (by decide) ?_
      exact hR.1 _ _ _ _ d_Nam_paddedByte_23 ⟨_, rfl, by first | rfl | decide⟩ (⟨by rw [pb_2 (by omega)], rfl⟩)
  · skip
    refine j_aload_n (pc := 5) C d_Nam_paddedByte_5 rfl 0 rfl ?_
    refine j_iload_n (pc := 6) C d_Nam_paddedByte_6 rfl 1 rfl ?_
    refine j_iload_n (pc := 7) C d_Nam_paddedByte_7 rfl 3 rfl ?_
    refine j_iaddN (pc := 8) C d_Nam_paddedByte_8 ?_
    refine j_baldN (pc := 9) C 0 0 rfl rfl (by omega) (by omega) d_Nam_paddedByte_9 ?_
    refine j_sipush (pc := 10) (v := nI 255) C d_Nam_paddedByte_10 (by decide) ?_
    refine j_iand (pc := 13) C d_Nam_paddedByte_13 ?_
    refine j_rwi (y := nI (t (p + i))) (sb_and (by first | exact hT _ | omega)) ?_
    exact hR.1 _ _ _ _ d_Nam_paddedByte_14 ⟨_, rfl, by first | rfl | decide⟩ (⟨by rw [pb_1 (by omega)], rfl⟩)
abbrev rm_Nam_stretchSchedule : Room := { frames := 1, cells := 0, slots := 0, locals := 21 }
set_option maxHeartbeats 4000000 in
set_option maxRecDepth 100000 in
theorem lp_st {g : JX} {κ : JK} {m0 ms mw mf : Nat} {w : Nat → BW}  (C : j_C g κ b_Nam_stretchSchedule R_Nam rm_Nam_stretchSchedule 6) (hR : j_R g κ b_Nam_stretchSchedule none (fun r w1 => ∃ w2 : Nat → BW, r = none ∧ w1 = [(m0, .inr (1, [.ref ms, .ref mw, .ref mf])), (mw, .inl (aI g, 64, .inl (wf w2)))] ∧ ∀ j, j < 64 → w2 j = wx w j) 0 0) : ∀ (k : Nat) (i : Nat), 16 ≤ i → i ≤ 64 → 65 ≤ i + k → j_V g κ 0 0 3 [(0, .ref m0), (1, .int (nI i))] [] ([(m0, .inr (1, [.ref ms, .ref mw, .ref mf])), (mw, .inl (aI g, 64, .inl (wf (stW w i))))]) := by
  intro k
  induction k with
  | zero =>
    intro i h16 hi hk
    exfalso; omega
  | succ k ih =>
    intro i h16 hi hk
    refine j_iload_n (pc := 3) C d_Nam_stretchSchedule_3 rfl 1 rfl ?_
    refine j_bipush (pc := 4) (v := nI 64) C d_Nam_stretchSchedule_4 (by decide) ?_
    refine j_icmp_geN (pc := 6) (tgt := 104) C (by omega) (by omega) d_Nam_stretchSchedule_6 rfl (fun c6 => ?_) (fun c6 => ?_)
    · skip
      exact hR.2.2 _ _ _ d_Nam_stretchSchedule_104 rfl (⟨stW w i, rfl, rfl, fun j hj => stW_lt (by omega)⟩)
    · skip
      refine j_aload_n (pc := 9) C d_Nam_stretchSchedule_9 rfl 0 rfl ?_
      refine j_get (pc := 10) C F_Nam_15 0 rfl rfl d_Nam_stretchSchedule_10 ?_
      refine j_iload_n (pc := 13) C d_Nam_stretchSchedule_13 rfl 1 rfl ?_
      refine j_iconst (pc := 14) (v := nI 2) C d_Nam_stretchSchedule_14 (by decide) ?_
      refine j_isubN (pc := 15) C (by omega) d_Nam_stretchSchedule_15 ?_
      refine j_ialdN (pc := 16) C 1 1 rfl rfl (by omega) (by omega) d_Nam_stretchSchedule_16 ?_
      refine j_istore_n (pc := 17) (lv' := [(2, .int (bI ((stW w i) (i - 2)))), (0, .ref m0), (1, .int (nI i))]) C d_Nam_stretchSchedule_17 rfl (by decide) rfl ?_
      refine j_aload_n (pc := 18) C d_Nam_stretchSchedule_18 rfl 1 rfl ?_
      refine j_get (pc := 19) C F_Nam_15 0 rfl rfl d_Nam_stretchSchedule_19 ?_
      refine j_iload_n (pc := 22) C d_Nam_stretchSchedule_22 rfl 2 rfl ?_
      refine j_bipush (pc := 23) (v := nI 15) C d_Nam_stretchSchedule_23 (by decide) ?_
      refine j_isubN (pc := 25) C (by omega) d_Nam_stretchSchedule_25 ?_
      refine j_ialdN (pc := 26) C 1 1 rfl rfl (by omega) (by omega) d_Nam_stretchSchedule_26 ?_
      refine j_istore_n (pc := 27) (lv' := [(3, .int (bI ((stW w i) (i - 15)))), (2, .int (bI ((stW w i) (i - 2)))), (0, .ref m0), (1, .int (nI i))]) C d_Nam_stretchSchedule_27 rfl (by decide) rfl ?_
      refine j_iload_n (pc := 28) C d_Nam_stretchSchedule_28 rfl 1 rfl ?_
      refine j_bipush (pc := 29) (v := nI 17) C d_Nam_stretchSchedule_29 (by decide) ?_
      refine j_callS (pc := 31) (As := [.int (bI ((stW w i) (i - 2))), .int (nI 17)]) (rest := []) (wc := []) (wr := [(m0, .inr (1, [.ref ms, .ref mw, .ref mf])), (mw, .inl (aI g, 64, .inl (wf (stW w i))))]) C (c_Nam_turn (kl κ) g ((stW w i) (i - 2)) 17 (by decide) (by decide)) Y_Nam_turn ml_Nam_43 sta_Nam_turn rfl ⟨by decide, by decide⟩ rfl (Nat.le_of_ble_eq_true rfl) (j_sb [0, 1] rfl rfl) rfl d_Nam_stretchSchedule_31 (fun r w1 hO => ?_)
      obtain ⟨rfl, rfl⟩ := hO
      show j_V g κ 0 0 34 [(3, .int (bI ((stW w i) (i - 15)))), (2, .int (bI ((stW w i) (i - 2)))), (0, .ref m0), (1, .int (nI i))] [.int (bI (((stW w i) (i - 2)).rotateRight 17))] ([(m0, .inr (1, [.ref ms, .ref mw, .ref mf])), (mw, .inl (aI g, 64, .inl (wf (stW w i))))])
      refine j_iload_n (pc := 34) C d_Nam_stretchSchedule_34 rfl 1 rfl ?_
      refine j_bipush (pc := 35) (v := nI 19) C d_Nam_stretchSchedule_35 (by decide) ?_
      refine j_callS (pc := 37) (As := [.int (bI ((stW w i) (i - 2))), .int (nI 19)]) (rest := [.int (bI (((stW w i) (i - 2)).rotateRight 17))]) (wc := []) (wr := [(m0, .inr (1, [.ref ms, .ref mw, .ref mf])), (mw, .inl (aI g, 64, .inl (wf (stW w i))))]) C (c_Nam_turn (kl κ) g ((stW w i) (i - 2)) 19 (by decide) (by decide)) Y_Nam_turn ml_Nam_43 sta_Nam_turn rfl ⟨by decide, by decide⟩ rfl (Nat.le_of_ble_eq_true rfl) (j_sb [0, 1] rfl rfl) rfl d_Nam_stretchSchedule_37 (fun r w1 hO => ?_)
      obtain ⟨rfl, rfl⟩ := hO
      show j_V g κ 0 0 40 [(3, .int (bI ((stW w i) (i - 15)))), (2, .int (bI ((stW w i) (i - 2)))), (0, .ref m0), (1, .int (nI i))] [.int (bI (((stW w i) (i - 2)).rotateRight 19)), .int (bI (((stW w i) (i - 2)).rotateRight 17))] ([(m0, .inr (1, [.ref ms, .ref mw, .ref mf])), (mw, .inl (aI g, 64, .inl (wf (stW w i))))])
      refine j_ixorW (pc := 40) C d_Nam_stretchSchedule_40 ?_
      refine j_iload_n (pc := 41) C d_Nam_stretchSchedule_41 rfl 1 rfl ?_
      refine j_bipush (pc := 42) (v := nI 10) C d_Nam_stretchSchedule_42 (by decide) ?_
      refine j_iushrW (pc := 44) C (by omega) d_Nam_stretchSchedule_44 ?_
      refine j_ixorW (pc := 45) C d_Nam_stretchSchedule_45 ?_
      refine j_istore (pc := 46) (lv' := [(4, .int (bI (((((stW w i) (i - 2)).rotateRight 17) ^^^ (((stW w i) (i - 2)).rotateRight 19)) ^^^ (((stW w i) (i - 2)) >>> 10)))), (3, .int (bI ((stW w i) (i - 15)))), (2, .int (bI ((stW w i) (i - 2)))), (0, .ref m0), (1, .int (nI i))]) C d_Nam_stretchSchedule_46 (by decide) rfl ?_
      refine j_iload_n (pc := 48) C d_Nam_stretchSchedule_48 rfl 1 rfl ?_
      refine j_bipush (pc := 49) (v := nI 7) C d_Nam_stretchSchedule_49 (by decide) ?_
      refine j_callS (pc := 51) (As := [.int (bI ((stW w i) (i - 15))), .int (nI 7)]) (rest := []) (wc := []) (wr := [(m0, .inr (1, [.ref ms, .ref mw, .ref mf])), (mw, .inl (aI g, 64, .inl (wf (stW w i))))]) C (c_Nam_turn (kl κ) g ((stW w i) (i - 15)) 7 (by decide) (by decide)) Y_Nam_turn ml_Nam_43 sta_Nam_turn rfl ⟨by decide, by decide⟩ rfl (Nat.le_of_ble_eq_true rfl) (j_sb [0, 1] rfl rfl) rfl d_Nam_stretchSchedule_51 (fun r w1 hO => ?_)
      obtain ⟨rfl, rfl⟩ := hO
      show j_V g κ 0 0 54 [(4, .int (bI (((((stW w i) (i - 2)).rotateRight 17) ^^^ (((stW w i) (i - 2)).rotateRight 19)) ^^^ (((stW w i) (i - 2)) >>> 10)))), (3, .int (bI ((stW w i) (i - 15)))), (2, .int (bI ((stW w i) (i - 2)))), (0, .ref m0), (1, .int (nI i))] [.int (bI (((stW w i) (i - 15)).rotateRight 7))] ([(m0, .inr (1, [.ref ms, .ref mw, .ref mf])), (mw, .inl (aI g, 64, .inl (wf (stW w i))))])
      refine j_iload_n (pc := 54) C d_Nam_stretchSchedule_54 rfl 1 rfl ?_
      refine j_bipush (pc := 55) (v := nI 18) C d_Nam_stretchSchedule_55 (by decide) ?_
      refine j_callS (pc := 57) (As := [.int (bI ((stW w i) (i - 15))), .int (nI 18)]) (rest := [.int (bI (((stW w i) (i - 15)).rotateRight 7))]) (wc := []) (wr := [(m0, .inr (1, [.ref ms, .ref mw, .ref mf])), (mw, .inl (aI g, 64, .inl (wf (stW w i))))]) C (c_Nam_turn (kl κ) g ((stW w i) (i - 15)) 18 (by decide) (by decide)) Y_Nam_turn ml_Nam_43 sta_Nam_turn rfl ⟨by decide, by decide⟩ rfl (Nat.le_of_ble_eq_true rfl) (j_sb [0, 1] rfl rfl) rfl d_Nam_stretchSchedule_57 (fun r w1 hO => ?_)
      obtain ⟨rfl, rfl⟩ := hO
      show j_V g κ 0 0 60 [(4, .int (bI (((((stW w i) (i - 2)).rotateRight 17) ^^^ (((stW w i) (i - 2)).rotateRight 19)) ^^^ (((stW w i) (i - 2)) >>> 10)))), (3, .int (bI ((stW w i) (i - 15)))), (2, .int (bI ((stW w i) (i - 2)))), (0, .ref m0), (1, .int (nI i))] [.int (bI (((stW w i) (i - 15)).rotateRight 18)), .int (bI (((stW w i) (i - 15)).rotateRight 7))] ([(m0, .inr (1, [.ref ms, .ref mw, .ref mf])), (mw, .inl (aI g, 64, .inl (wf (stW w i))))])
      refine j_ixorW (pc := 60) C d_Nam_stretchSchedule_60 ?_
      refine j_iload_n (pc := 61) C d_Nam_stretchSchedule_61 rfl 1 rfl ?_
      refine j_iconst (pc := 62) (v := nI 3) C d_Nam_stretchSchedule_62 (by decide) ?_
      refine j_iushrW (pc := 63) C (by omega) d_Nam_stretchSchedule_63 ?_
      refine j_ixorW (pc := 64) C d_Nam_stretchSchedule_64 ?_
      refine j_istore (pc := 65) (lv' := [(5, .int (bI (((((stW w i) (i - 15)).rotateRight 7) ^^^ (((stW w i) (i - 15)).rotateRight 18)) ^^^ (((stW w i) (i - 15)) >>> 3)))), (4, .int (bI (((((stW w i) (i - 2)).rotateRight 17) ^^^ (((stW w i) (i - 2)).rotateRight 19)) ^^^ (((stW w i) (i - 2)) >>> 10)))), (3, .int (bI ((stW w i) (i - 15)))), (2, .int (bI ((stW w i) (i - 2)))), (0, .ref m0), (1, .int (nI i))]) C d_Nam_stretchSchedule_65 (by decide) rfl ?_
      refine j_aload_n (pc := 67) C d_Nam_stretchSchedule_67 rfl 4 rfl ?_
      refine j_get (pc := 68) C F_Nam_15 0 rfl rfl d_Nam_stretchSchedule_68 ?_
      refine j_iload_n (pc := 71) C d_Nam_stretchSchedule_71 rfl 5 rfl ?_
      refine j_iload (pc := 72) C d_Nam_stretchSchedule_72 1 rfl ?_
      refine j_aload_n (pc := 74) C d_Nam_stretchSchedule_74 rfl 4 rfl ?_
      refine j_get (pc := 75) C F_Nam_15 0 rfl rfl d_Nam_stretchSchedule_75 ?_
      refine j_iload_n (pc := 78) C d_Nam_stretchSchedule_78 rfl 5 rfl ?_
      refine j_bipush (pc := 79) (v := nI 7) C d_Nam_stretchSchedule_79 (by decide) ?_
      refine j_isubN (pc := 81) C (by omega) d_Nam_stretchSchedule_81 ?_
      refine j_ialdN (pc := 82) C 1 1 rfl rfl (by omega) (by omega) d_Nam_stretchSchedule_82 ?_
      refine j_iaddW (pc := 83) C d_Nam_stretchSchedule_83 ?_
      refine j_iload (pc := 84) C d_Nam_stretchSchedule_84 0 rfl ?_
      refine j_iaddW (pc := 86) C d_Nam_stretchSchedule_86 ?_
      refine j_aload_n (pc := 87) C d_Nam_stretchSchedule_87 rfl 4 rfl ?_
      refine j_get (pc := 88) C F_Nam_15 0 rfl rfl d_Nam_stretchSchedule_88 ?_
      refine j_iload_n (pc := 91) C d_Nam_stretchSchedule_91 rfl 5 rfl ?_
      refine j_bipush (pc := 92) (v := nI 16) C d_Nam_stretchSchedule_92 (by decide) ?_
      refine j_isubN (pc := 94) C (by omega) d_Nam_stretchSchedule_94 ?_
      refine j_ialdN (pc := 95) C 1 1 rfl rfl (by omega) (by omega) d_Nam_stretchSchedule_95 ?_
      refine j_iaddW (pc := 96) C d_Nam_stretchSchedule_96 ?_
      refine j_rwi (y := bI (wx w i)) (congrArg bI (stW_v h16)) ?_
      refine j_iastW (pc := 97) (ws' := [(m0, .inr (1, [.ref ms, .ref mw, .ref mf])), (mw, .inl (aI g, 64, .inl (wf (va_up (stW w i) i (wx w i)))))]) C 1 1 rfl rfl (by omega) (by omega) rfl d_Nam_stretchSchedule_97 ?_
      refine j_iinc (pc := 98) (k := 5) (v := nI (i + 1)) (lv' := [(1, .int (nI (i + 1))), (5, .int (bI (((((stW w i) (i - 15)).rotateRight 7) ^^^ (((stW w i) (i - 15)).rotateRight 18)) ^^^ (((stW w i) (i - 15)) >>> 3)))), (4, .int (bI (((((stW w i) (i - 2)).rotateRight 17) ^^^ (((stW w i) (i - 2)).rotateRight 19)) ^^^ (((stW w i) (i - 2)) >>> 10)))), (3, .int (bI ((stW w i) (i - 15)))), (2, .int (bI ((stW w i) (i - 2)))), (0, .ref m0)]) C d_Nam_stretchSchedule_98 rfl (j_inc _ _) (by decide) rfl ?_
      refine j_goto (pc := 101) (tgt := 3) C d_Nam_stretchSchedule_101 rfl ?_
      refine j_lv (lv' := [(0, .ref m0), (1, .int (nI (i + 1)))]) [5, 0] rfl ?_
      have e := ih (i + 1) (by omega) (by omega) (by omega)
      rw [← stW_s] at e
      exact e
set_option maxHeartbeats 4000000 in
set_option maxRecDepth 100000 in
theorem c_Nam_stretchSchedule (l : Launch) (g : JX) (m0 ms mw mf : Nat) (w : Nat → BW)  : j_Ct l y_Nam_stretchSchedule b_Nam_stretchSchedule 6 none rm_Nam_stretchSchedule g ([(m0, .inr (1, [.ref ms, .ref mw, .ref mf])), (mw, .inl (aI g, 64, .inl (wf w)))]) [.ref m0] (fun r w1 => ∃ w2 : Nat → BW, r = none ∧ w1 = [(m0, .inr (1, [.ref ms, .ref mw, .ref mf])), (mw, .inl (aI g, 64, .inl (wf w2)))] ∧ ∀ j, j < 64 → w2 j = wx w j) 0 0 := by
  refine j_ct (by decide) (Nat.le_of_ble_eq_true rfl) (fun κ hkl C hR hI => ?_)
  show j_V g κ 0 0 0 [(0, .ref m0)] [] ([(m0, .inr (1, [.ref ms, .ref mw, .ref mf])), (mw, .inl (aI g, 64, .inl (wf w)))])
  refine j_bipush (pc := 0) (v := nI 16) C d_Nam_stretchSchedule_0 (by decide) ?_
  refine j_istore_n (pc := 2) (lv' := [(1, .int (nI 16)), (0, .ref m0)]) C d_Nam_stretchSchedule_2 rfl (by decide) rfl ?_
  refine j_lv (lv' := [(0, .ref m0), (1, .int (nI 16))]) [1, 0] rfl ?_
  have e := lp_st (m0 := m0) (ms := ms) (mw := mw) (mf := mf) (w := w) C hR 65 16 (by omega) (by omega) (by omega)
  rw [stW_16] at e
  exact e
abbrev rm_Nam_mixChunk : Room := { frames := 1, cells := 0, slots := 0, locals := 21 }
set_option maxHeartbeats 4000000 in
set_option maxRecDepth 100000 in
theorem lp_mx {g : JX} {κ : JK} {m0 ms mw mf : Nat} {d w : Nat → BW}  (C : j_C g κ b_Nam_mixChunk R_Nam rm_Nam_mixChunk 15) (hR : j_R g κ b_Nam_mixChunk none (fun r w1 => ∃ d2 : Nat → BW, r = none ∧ w1 = [(m0, .inr (1, [.ref ms, .ref mw, .ref mf])), (ms, .inl (aI g, 8, .inl (wf d2))), (mw, .inl (aI g, 64, .inl (wf w)))] ∧ ∀ j, j < 8 → d2 j = d j + rdN w d 64 j) 0 0) : ∀ (k : Nat) (i : Nat), i ≤ 64 → 65 ≤ i + k → j_V g κ 0 0 66 [(0, .ref m0), (1, .int (bI (rdN w d i 0))), (2, .int (bI (rdN w d i 1))), (3, .int (bI (rdN w d i 2))), (4, .int (bI (rdN w d i 3))), (5, .int (bI (rdN w d i 4))), (6, .int (bI (rdN w d i 5))), (7, .int (bI (rdN w d i 6))), (8, .int (bI (rdN w d i 7))), (9, .int (nI i))] [] ([(m0, .inr (1, [.ref ms, .ref mw, .ref mf])), (ms, .inl (aI g, 8, .inl (wf d))), (mw, .inl (aI g, 64, .inl (wf w)))]) := by
  intro k
  induction k with
  | zero =>
    intro i hi hk
    exfalso; omega
  | succ k ih =>
    intro i hi hk
    refine j_iload (pc := 66) C d_Nam_mixChunk_66 9 rfl ?_
    refine j_bipush (pc := 68) (v := nI 64) C d_Nam_mixChunk_68 (by decide) ?_
    refine j_icmp_geN (pc := 70) (tgt := 213) C (by omega) (by omega) d_Nam_mixChunk_70 rfl (fun c70 => ?_) (fun c70 => ?_)
    · skip
      obtain rfl : i = 64 := by omega
      show j_V g κ 0 0 213 [(0, .ref m0), (1, .int (bI (rdN w d 64 0))), (2, .int (bI (rdN w d 64 1))), (3, .int (bI (rdN w d 64 2))), (4, .int (bI (rdN w d 64 3))), (5, .int (bI (rdN w d 64 4))), (6, .int (bI (rdN w d 64 5))), (7, .int (bI (rdN w d 64 6))), (8, .int (bI (rdN w d 64 7))), (9, .int (nI 64))] [] ([(m0, .inr (1, [.ref ms, .ref mw, .ref mf])), (ms, .inl (aI g, 8, .inl (wf d))), (mw, .inl (aI g, 64, .inl (wf w)))])
      refine j_aload_n (pc := 213) C d_Nam_mixChunk_213 rfl 0 rfl ?_
      refine j_get (pc := 214) C F_Nam_9 0 rfl rfl d_Nam_mixChunk_214 ?_
      refine j_iconst (pc := 217) (v := nI 0) C d_Nam_mixChunk_217 (by decide) ?_
      refine j_dup2_11 (pc := 218) C d_Nam_mixChunk_218 rfl rfl ?_
      refine j_ialdN (pc := 219) C 1 1 rfl rfl (by omega) (by omega) d_Nam_mixChunk_219 ?_
      refine j_iload_n (pc := 220) C d_Nam_mixChunk_220 rfl 1 rfl ?_
      refine j_iaddW (pc := 221) C d_Nam_mixChunk_221 ?_
      refine j_iastW (pc := 222) (ws' := [(m0, .inr (1, [.ref ms, .ref mw, .ref mf])), (ms, .inl (aI g, 8, .inl (wf (va_up d 0 ((d 0) + (rdN w d 64 0)))))), (mw, .inl (aI g, 64, .inl (wf w)))]) C 1 1 rfl rfl (by omega) (by omega) rfl d_Nam_mixChunk_222 ?_
      refine j_aload_n (pc := 223) C d_Nam_mixChunk_223 rfl 0 rfl ?_
      refine j_get (pc := 224) C F_Nam_9 0 rfl rfl d_Nam_mixChunk_224 ?_
      refine j_iconst (pc := 227) (v := nI 1) C d_Nam_mixChunk_227 (by decide) ?_
      refine j_dup2_11 (pc := 228) C d_Nam_mixChunk_228 rfl rfl ?_
      refine j_ialdN (pc := 229) C 1 1 rfl rfl (by omega) (by omega) d_Nam_mixChunk_229 ?_
      refine j_iload_n (pc := 230) C d_Nam_mixChunk_230 rfl 2 rfl ?_
      refine j_iaddW (pc := 231) C d_Nam_mixChunk_231 ?_
      refine j_iastW (pc := 232) (ws' := [(m0, .inr (1, [.ref ms, .ref mw, .ref mf])), (ms, .inl (aI g, 8, .inl (wf (va_up (va_up d 0 ((d 0) + (rdN w d 64 0))) 1 ((d 1) + (rdN w d 64 1)))))), (mw, .inl (aI g, 64, .inl (wf w)))]) C 1 1 rfl rfl (by omega) (by omega) rfl d_Nam_mixChunk_232 ?_
      refine j_aload_n (pc := 233) C d_Nam_mixChunk_233 rfl 0 rfl ?_
      refine j_get (pc := 234) C F_Nam_9 0 rfl rfl d_Nam_mixChunk_234 ?_
      refine j_iconst (pc := 237) (v := nI 2) C d_Nam_mixChunk_237 (by decide) ?_
      refine j_dup2_11 (pc := 238) C d_Nam_mixChunk_238 rfl rfl ?_
      refine j_ialdN (pc := 239) C 1 1 rfl rfl (by omega) (by omega) d_Nam_mixChunk_239 ?_
      refine j_iload_n (pc := 240) C d_Nam_mixChunk_240 rfl 3 rfl ?_
      refine j_iaddW (pc := 241) C d_Nam_mixChunk_241 ?_
      refine j_iastW (pc := 242) (ws' := [(m0, .inr (1, [.ref ms, .ref mw, .ref mf])), (ms, .inl (aI g, 8, .inl (wf (va_up (va_up (va_up d 0 ((d 0) + (rdN w d 64 0))) 1 ((d 1) + (rdN w d 64 1))) 2 ((d 2) + (rdN w d 64 2)))))), (mw, .inl (aI g, 64, .inl (wf w)))]) C 1 1 rfl rfl (by omega) (by omega) rfl d_Nam_mixChunk_242 ?_
      refine j_aload_n (pc := 243) C d_Nam_mixChunk_243 rfl 0 rfl ?_
      refine j_get (pc := 244) C F_Nam_9 0 rfl rfl d_Nam_mixChunk_244 ?_
      refine j_iconst (pc := 247) (v := nI 3) C d_Nam_mixChunk_247 (by decide) ?_
      refine j_dup2_11 (pc := 248) C d_Nam_mixChunk_248 rfl rfl ?_
      refine j_ialdN (pc := 249) C 1 1 rfl rfl (by omega) (by omega) d_Nam_mixChunk_249 ?_
      refine j_iload (pc := 250) C d_Nam_mixChunk_250 4 rfl ?_
      refine j_iaddW (pc := 252) C d_Nam_mixChunk_252 ?_
      refine j_iastW (pc := 253) (ws' := [(m0, .inr (1, [.ref ms, .ref mw, .ref mf])), (ms, .inl (aI g, 8, .inl (wf (va_up (va_up (va_up (va_up d 0 ((d 0) + (rdN w d 64 0))) 1 ((d 1) + (rdN w d 64 1))) 2 ((d 2) + (rdN w d 64 2))) 3 ((d 3) + (rdN w d 64 3)))))), (mw, .inl (aI g, 64, .inl (wf w)))]) C 1 1 rfl rfl (by omega) (by omega) rfl d_Nam_mixChunk_253 ?_
      refine j_aload_n (pc := 254) C d_Nam_mixChunk_254 rfl 0 rfl ?_
      refine j_get (pc := 255) C F_Nam_9 0 rfl rfl d_Nam_mixChunk_255 ?_
      refine j_iconst (pc := 258) (v := nI 4) C d_Nam_mixChunk_258 (by decide) ?_
      refine j_dup2_11 (pc := 259) C d_Nam_mixChunk_259 rfl rfl ?_
      refine j_ialdN (pc := 260) C 1 1 rfl rfl (by omega) (by omega) d_Nam_mixChunk_260 ?_
      refine j_iload (pc := 261) C d_Nam_mixChunk_261 5 rfl ?_
      refine j_iaddW (pc := 263) C d_Nam_mixChunk_263 ?_
      refine j_iastW (pc := 264) (ws' := [(m0, .inr (1, [.ref ms, .ref mw, .ref mf])), (ms, .inl (aI g, 8, .inl (wf (va_up (va_up (va_up (va_up (va_up d 0 ((d 0) + (rdN w d 64 0))) 1 ((d 1) + (rdN w d 64 1))) 2 ((d 2) + (rdN w d 64 2))) 3 ((d 3) + (rdN w d 64 3))) 4 ((d 4) + (rdN w d 64 4)))))), (mw, .inl (aI g, 64, .inl (wf w)))]) C 1 1 rfl rfl (by omega) (by omega) rfl d_Nam_mixChunk_264 ?_
      refine j_aload_n (pc := 265) C d_Nam_mixChunk_265 rfl 0 rfl ?_
      refine j_get (pc := 266) C F_Nam_9 0 rfl rfl d_Nam_mixChunk_266 ?_
      refine j_iconst (pc := 269) (v := nI 5) C d_Nam_mixChunk_269 (by decide) ?_
      refine j_dup2_11 (pc := 270) C d_Nam_mixChunk_270 rfl rfl ?_
      refine j_ialdN (pc := 271) C 1 1 rfl rfl (by omega) (by omega) d_Nam_mixChunk_271 ?_
      refine j_iload (pc := 272) C d_Nam_mixChunk_272 6 rfl ?_
      refine j_iaddW (pc := 274) C d_Nam_mixChunk_274 ?_
      refine j_iastW (pc := 275) (ws' := [(m0, .inr (1, [.ref ms, .ref mw, .ref mf])), (ms, .inl (aI g, 8, .inl (wf (va_up (va_up (va_up (va_up (va_up (va_up d 0 ((d 0) + (rdN w d 64 0))) 1 ((d 1) + (rdN w d 64 1))) 2 ((d 2) + (rdN w d 64 2))) 3 ((d 3) + (rdN w d 64 3))) 4 ((d 4) + (rdN w d 64 4))) 5 ((d 5) + (rdN w d 64 5)))))), (mw, .inl (aI g, 64, .inl (wf w)))]) C 1 1 rfl rfl (by omega) (by omega) rfl d_Nam_mixChunk_275 ?_
      refine j_aload_n (pc := 276) C d_Nam_mixChunk_276 rfl 0 rfl ?_
      refine j_get (pc := 277) C F_Nam_9 0 rfl rfl d_Nam_mixChunk_277 ?_
      refine j_bipush (pc := 280) (v := nI 6) C d_Nam_mixChunk_280 (by decide) ?_
      refine j_dup2_11 (pc := 282) C d_Nam_mixChunk_282 rfl rfl ?_
      refine j_ialdN (pc := 283) C 1 1 rfl rfl (by omega) (by omega) d_Nam_mixChunk_283 ?_
      refine j_iload (pc := 284) C d_Nam_mixChunk_284 7 rfl ?_
      refine j_iaddW (pc := 286) C d_Nam_mixChunk_286 ?_
      refine j_iastW (pc := 287) (ws' := [(m0, .inr (1, [.ref ms, .ref mw, .ref mf])), (ms, .inl (aI g, 8, .inl (wf (va_up (va_up (va_up (va_up (va_up (va_up (va_up d 0 ((d 0) + (rdN w d 64 0))) 1 ((d 1) + (rdN w d 64 1))) 2 ((d 2) + (rdN w d 64 2))) 3 ((d 3) + (rdN w d 64 3))) 4 ((d 4) + (rdN w d 64 4))) 5 ((d 5) + (rdN w d 64 5))) 6 ((d 6) + (rdN w d 64 6)))))), (mw, .inl (aI g, 64, .inl (wf w)))]) C 1 1 rfl rfl (by omega) (by omega) rfl d_Nam_mixChunk_287 ?_
      refine j_aload_n (pc := 288) C d_Nam_mixChunk_288 rfl 0 rfl ?_
      refine j_get (pc := 289) C F_Nam_9 0 rfl rfl d_Nam_mixChunk_289 ?_
      refine j_bipush (pc := 292) (v := nI 7) C d_Nam_mixChunk_292 (by decide) ?_
      refine j_dup2_11 (pc := 294) C d_Nam_mixChunk_294 rfl rfl ?_
      refine j_ialdN (pc := 295) C 1 1 rfl rfl (by omega) (by omega) d_Nam_mixChunk_295 ?_
      refine j_iload (pc := 296) C d_Nam_mixChunk_296 8 rfl ?_
      refine j_iaddW (pc := 298) C d_Nam_mixChunk_298 ?_
      refine j_iastW (pc := 299) (ws' := [(m0, .inr (1, [.ref ms, .ref mw, .ref mf])), (ms, .inl (aI g, 8, .inl (wf (va_up (va_up (va_up (va_up (va_up (va_up (va_up (va_up d 0 ((d 0) + (rdN w d 64 0))) 1 ((d 1) + (rdN w d 64 1))) 2 ((d 2) + (rdN w d 64 2))) 3 ((d 3) + (rdN w d 64 3))) 4 ((d 4) + (rdN w d 64 4))) 5 ((d 5) + (rdN w d 64 5))) 6 ((d 6) + (rdN w d 64 6))) 7 ((d 7) + (rdN w d 64 7)))))), (mw, .inl (aI g, 64, .inl (wf w)))]) C 1 1 rfl rfl (by omega) (by omega) rfl d_Nam_mixChunk_299 ?_
      exact hR.2.2 _ _ _ d_Nam_mixChunk_300 rfl (⟨(va_up (va_up (va_up (va_up (va_up (va_up (va_up (va_up d 0 ((d 0) + (rdN w d 64 0))) 1 ((d 1) + (rdN w d 64 1))) 2 ((d 2) + (rdN w d 64 2))) 3 ((d 3) + (rdN w d 64 3))) 4 ((d 4) + (rdN w d 64 4))) 5 ((d 5) + (rdN w d 64 5))) 6 ((d 6) + (rdN w d 64 6))) 7 ((d 7) + (rdN w d 64 7))), rfl, rfl, fun j hj => by match j, hj with | 0, _ => rfl | 1, _ => rfl | 2, _ => rfl | 3, _ => rfl | 4, _ => rfl | 5, _ => rfl | 6, _ => rfl | 7, _ => rfl⟩)
    · skip
      refine j_iload (pc := 73) C d_Nam_mixChunk_73 5 rfl ?_
      refine j_iload (pc := 75) C d_Nam_mixChunk_75 6 rfl ?_
      refine j_iandW (pc := 77) C d_Nam_mixChunk_77 ?_
      refine j_iload (pc := 78) C d_Nam_mixChunk_78 5 rfl ?_
      refine j_iconst (pc := 80) (v := (-1 : Int32)) C d_Nam_mixChunk_80 (by decide) ?_
      refine j_inotW (pc := 81) C d_Nam_mixChunk_81 ?_
      refine j_iload (pc := 82) C d_Nam_mixChunk_82 7 rfl ?_
      refine j_iandW (pc := 84) C d_Nam_mixChunk_84 ?_
      refine j_ixorW (pc := 85) C d_Nam_mixChunk_85 ?_
      refine j_istore (pc := 86) (lv' := [(10, .int (bI (((rdN w d i 4) &&& (rdN w d i 5)) ^^^ ((~~~ (rdN w d i 4)) &&& (rdN w d i 6))))), (0, .ref m0), (1, .int (bI (rdN w d i 0))), (2, .int (bI (rdN w d i 1))), (3, .int (bI (rdN w d i 2))), (4, .int (bI (rdN w d i 3))), (5, .int (bI (rdN w d i 4))), (6, .int (bI (rdN w d i 5))), (7, .int (bI (rdN w d i 6))), (8, .int (bI (rdN w d i 7))), (9, .int (nI i))]) C d_Nam_mixChunk_86 (by decide) rfl ?_
      refine j_iload_n (pc := 88) C d_Nam_mixChunk_88 rfl 2 rfl ?_
      refine j_iload_n (pc := 89) C d_Nam_mixChunk_89 rfl 3 rfl ?_
      refine j_iandW (pc := 90) C d_Nam_mixChunk_90 ?_
      refine j_iload_n (pc := 91) C d_Nam_mixChunk_91 rfl 2 rfl ?_
      refine j_iload_n (pc := 92) C d_Nam_mixChunk_92 rfl 4 rfl ?_
      refine j_iandW (pc := 93) C d_Nam_mixChunk_93 ?_
      refine j_ixorW (pc := 94) C d_Nam_mixChunk_94 ?_
      refine j_iload_n (pc := 95) C d_Nam_mixChunk_95 rfl 3 rfl ?_
      refine j_iload_n (pc := 96) C d_Nam_mixChunk_96 rfl 4 rfl ?_
      refine j_iandW (pc := 97) C d_Nam_mixChunk_97 ?_
      refine j_ixorW (pc := 98) C d_Nam_mixChunk_98 ?_
      refine j_istore (pc := 99) (lv' := [(11, .int (bI ((((rdN w d i 0) &&& (rdN w d i 1)) ^^^ ((rdN w d i 0) &&& (rdN w d i 2))) ^^^ ((rdN w d i 1) &&& (rdN w d i 2))))), (10, .int (bI (((rdN w d i 4) &&& (rdN w d i 5)) ^^^ ((~~~ (rdN w d i 4)) &&& (rdN w d i 6))))), (0, .ref m0), (1, .int (bI (rdN w d i 0))), (2, .int (bI (rdN w d i 1))), (3, .int (bI (rdN w d i 2))), (4, .int (bI (rdN w d i 3))), (5, .int (bI (rdN w d i 4))), (6, .int (bI (rdN w d i 5))), (7, .int (bI (rdN w d i 6))), (8, .int (bI (rdN w d i 7))), (9, .int (nI i))]) C d_Nam_mixChunk_99 (by decide) rfl ?_
      refine j_iload (pc := 101) C d_Nam_mixChunk_101 7 rfl ?_
      refine j_bipush (pc := 103) (v := nI 6) C d_Nam_mixChunk_103 (by decide) ?_
      refine j_callS (pc := 105) (As := [.int (bI (rdN w d i 4)), .int (nI 6)]) (rest := []) (wc := []) (wr := [(m0, .inr (1, [.ref ms, .ref mw, .ref mf])), (ms, .inl (aI g, 8, .inl (wf d))), (mw, .inl (aI g, 64, .inl (wf w)))]) C (c_Nam_turn (kl κ) g (rdN w d i 4) 6 (by decide) (by decide)) Y_Nam_turn ml_Nam_43 sta_Nam_turn rfl ⟨by decide, by decide⟩ rfl (Nat.le_of_ble_eq_true rfl) (j_sb [0, 1, 2] rfl rfl) rfl d_Nam_mixChunk_105 (fun r w1 hO => ?_)
      obtain ⟨rfl, rfl⟩ := hO
      show j_V g κ 0 0 108 [(11, .int (bI ((((rdN w d i 0) &&& (rdN w d i 1)) ^^^ ((rdN w d i 0) &&& (rdN w d i 2))) ^^^ ((rdN w d i 1) &&& (rdN w d i 2))))), (10, .int (bI (((rdN w d i 4) &&& (rdN w d i 5)) ^^^ ((~~~ (rdN w d i 4)) &&& (rdN w d i 6))))), (0, .ref m0), (1, .int (bI (rdN w d i 0))), (2, .int (bI (rdN w d i 1))), (3, .int (bI (rdN w d i 2))), (4, .int (bI (rdN w d i 3))), (5, .int (bI (rdN w d i 4))), (6, .int (bI (rdN w d i 5))), (7, .int (bI (rdN w d i 6))), (8, .int (bI (rdN w d i 7))), (9, .int (nI i))] [.int (bI ((rdN w d i 4).rotateRight 6))] ([(m0, .inr (1, [.ref ms, .ref mw, .ref mf])), (ms, .inl (aI g, 8, .inl (wf d))), (mw, .inl (aI g, 64, .inl (wf w)))])
      refine j_iload (pc := 108) C d_Nam_mixChunk_108 7 rfl ?_
      refine j_bipush (pc := 110) (v := nI 11) C d_Nam_mixChunk_110 (by decide) ?_
      refine j_callS (pc := 112) (As := [.int (bI (rdN w d i 4)), .int (nI 11)]) (rest := [.int (bI ((rdN w d i 4).rotateRight 6))]) (wc := []) (wr := [(m0, .inr (1, [.ref ms, .ref mw, .ref mf])), (ms, .inl (aI g, 8, .inl (wf d))), (mw, .inl (aI g, 64, .inl (wf w)))]) C (c_Nam_turn (kl κ) g (rdN w d i 4) 11 (by decide) (by decide)) Y_Nam_turn ml_Nam_43 sta_Nam_turn rfl ⟨by decide, by decide⟩ rfl (Nat.le_of_ble_eq_true rfl) (j_sb [0, 1, 2] rfl rfl) rfl d_Nam_mixChunk_112 (fun r w1 hO => ?_)
      obtain ⟨rfl, rfl⟩ := hO
      show j_V g κ 0 0 115 [(11, .int (bI ((((rdN w d i 0) &&& (rdN w d i 1)) ^^^ ((rdN w d i 0) &&& (rdN w d i 2))) ^^^ ((rdN w d i 1) &&& (rdN w d i 2))))), (10, .int (bI (((rdN w d i 4) &&& (rdN w d i 5)) ^^^ ((~~~ (rdN w d i 4)) &&& (rdN w d i 6))))), (0, .ref m0), (1, .int (bI (rdN w d i 0))), (2, .int (bI (rdN w d i 1))), (3, .int (bI (rdN w d i 2))), (4, .int (bI (rdN w d i 3))), (5, .int (bI (rdN w d i 4))), (6, .int (bI (rdN w d i 5))), (7, .int (bI (rdN w d i 6))), (8, .int (bI (rdN w d i 7))), (9, .int (nI i))] [.int (bI ((rdN w d i 4).rotateRight 11)), .int (bI ((rdN w d i 4).rotateRight 6))] ([(m0, .inr (1, [.ref ms, .ref mw, .ref mf])), (ms, .inl (aI g, 8, .inl (wf d))), (mw, .inl (aI g, 64, .inl (wf w)))])
      refine j_ixorW (pc := 115) C d_Nam_mixChunk_115 ?_
      refine j_iload (pc := 116) C d_Nam_mixChunk_116 7 rfl ?_
      refine j_bipush (pc := 118) (v := nI 25) C d_Nam_mixChunk_118 (by decide) ?_
      refine j_callS (pc := 120) (As := [.int (bI (rdN w d i 4)), .int (nI 25)]) (rest := [.int (bI (((rdN w d i 4).rotateRight 6) ^^^ ((rdN w d i 4).rotateRight 11)))]) (wc := []) (wr := [(m0, .inr (1, [.ref ms, .ref mw, .ref mf])), (ms, .inl (aI g, 8, .inl (wf d))), (mw, .inl (aI g, 64, .inl (wf w)))]) C (c_Nam_turn (kl κ) g (rdN w d i 4) 25 (by decide) (by decide)) Y_Nam_turn ml_Nam_43 sta_Nam_turn rfl ⟨by decide, by decide⟩ rfl (Nat.le_of_ble_eq_true rfl) (j_sb [0, 1, 2] rfl rfl) rfl d_Nam_mixChunk_120 (fun r w1 hO => ?_)
      obtain ⟨rfl, rfl⟩ := hO
      show j_V g κ 0 0 123 [(11, .int (bI ((((rdN w d i 0) &&& (rdN w d i 1)) ^^^ ((rdN w d i 0) &&& (rdN w d i 2))) ^^^ ((rdN w d i 1) &&& (rdN w d i 2))))), (10, .int (bI (((rdN w d i 4) &&& (rdN w d i 5)) ^^^ ((~~~ (rdN w d i 4)) &&& (rdN w d i 6))))), (0, .ref m0), (1, .int (bI (rdN w d i 0))), (2, .int (bI (rdN w d i 1))), (3, .int (bI (rdN w d i 2))), (4, .int (bI (rdN w d i 3))), (5, .int (bI (rdN w d i 4))), (6, .int (bI (rdN w d i 5))), (7, .int (bI (rdN w d i 6))), (8, .int (bI (rdN w d i 7))), (9, .int (nI i))] [.int (bI ((rdN w d i 4).rotateRight 25)), .int (bI (((rdN w d i 4).rotateRight 6) ^^^ ((rdN w d i 4).rotateRight 11)))] ([(m0, .inr (1, [.ref ms, .ref mw, .ref mf])), (ms, .inl (aI g, 8, .inl (wf d))), (mw, .inl (aI g, 64, .inl (wf w)))])
      refine j_ixorW (pc := 123) C d_Nam_mixChunk_123 ?_
      refine j_istore (pc := 124) (lv' := [(12, .int (bI ((((rdN w d i 4).rotateRight 6) ^^^ ((rdN w d i 4).rotateRight 11)) ^^^ ((rdN w d i 4).rotateRight 25)))), (11, .int (bI ((((rdN w d i 0) &&& (rdN w d i 1)) ^^^ ((rdN w d i 0) &&& (rdN w d i 2))) ^^^ ((rdN w d i 1) &&& (rdN w d i 2))))), (10, .int (bI (((rdN w d i 4) &&& (rdN w d i 5)) ^^^ ((~~~ (rdN w d i 4)) &&& (rdN w d i 6))))), (0, .ref m0), (1, .int (bI (rdN w d i 0))), (2, .int (bI (rdN w d i 1))), (3, .int (bI (rdN w d i 2))), (4, .int (bI (rdN w d i 3))), (5, .int (bI (rdN w d i 4))), (6, .int (bI (rdN w d i 5))), (7, .int (bI (rdN w d i 6))), (8, .int (bI (rdN w d i 7))), (9, .int (nI i))]) C d_Nam_mixChunk_124 (by decide) rfl ?_
      refine j_iload_n (pc := 126) C d_Nam_mixChunk_126 rfl 4 rfl ?_
      refine j_iconst (pc := 127) (v := nI 2) C d_Nam_mixChunk_127 (by decide) ?_
      refine j_callS (pc := 128) (As := [.int (bI (rdN w d i 0)), .int (nI 2)]) (rest := []) (wc := []) (wr := [(m0, .inr (1, [.ref ms, .ref mw, .ref mf])), (ms, .inl (aI g, 8, .inl (wf d))), (mw, .inl (aI g, 64, .inl (wf w)))]) C (c_Nam_turn (kl κ) g (rdN w d i 0) 2 (by decide) (by decide)) Y_Nam_turn ml_Nam_43 sta_Nam_turn rfl ⟨by decide, by decide⟩ rfl (Nat.le_of_ble_eq_true rfl) (j_sb [0, 1, 2] rfl rfl) rfl d_Nam_mixChunk_128 (fun r w1 hO => ?_)
      obtain ⟨rfl, rfl⟩ := hO
      show j_V g κ 0 0 131 [(12, .int (bI ((((rdN w d i 4).rotateRight 6) ^^^ ((rdN w d i 4).rotateRight 11)) ^^^ ((rdN w d i 4).rotateRight 25)))), (11, .int (bI ((((rdN w d i 0) &&& (rdN w d i 1)) ^^^ ((rdN w d i 0) &&& (rdN w d i 2))) ^^^ ((rdN w d i 1) &&& (rdN w d i 2))))), (10, .int (bI (((rdN w d i 4) &&& (rdN w d i 5)) ^^^ ((~~~ (rdN w d i 4)) &&& (rdN w d i 6))))), (0, .ref m0), (1, .int (bI (rdN w d i 0))), (2, .int (bI (rdN w d i 1))), (3, .int (bI (rdN w d i 2))), (4, .int (bI (rdN w d i 3))), (5, .int (bI (rdN w d i 4))), (6, .int (bI (rdN w d i 5))), (7, .int (bI (rdN w d i 6))), (8, .int (bI (rdN w d i 7))), (9, .int (nI i))] [.int (bI ((rdN w d i 0).rotateRight 2))] ([(m0, .inr (1, [.ref ms, .ref mw, .ref mf])), (ms, .inl (aI g, 8, .inl (wf d))), (mw, .inl (aI g, 64, .inl (wf w)))])
      refine j_iload_n (pc := 131) C d_Nam_mixChunk_131 rfl 4 rfl ?_
      refine j_bipush (pc := 132) (v := nI 13) C d_Nam_mixChunk_132 (by decide) ?_
      refine j_callS (pc := 134) (As := [.int (bI (rdN w d i 0)), .int (nI 13)]) (rest := [.int (bI ((rdN w d i 0).rotateRight 2))]) (wc := []) (wr := [(m0, .inr (1, [.ref ms, .ref mw, .ref mf])), (ms, .inl (aI g, 8, .inl (wf d))), (mw, .inl (aI g, 64, .inl (wf w)))]) C (c_Nam_turn (kl κ) g (rdN w d i 0) 13 (by decide) (by decide)) Y_Nam_turn ml_Nam_43 sta_Nam_turn rfl ⟨by decide, by decide⟩ rfl (Nat.le_of_ble_eq_true rfl) (j_sb [0, 1, 2] rfl rfl) rfl d_Nam_mixChunk_134 (fun r w1 hO => ?_)
      obtain ⟨rfl, rfl⟩ := hO
      show j_V g κ 0 0 137 [(12, .int (bI ((((rdN w d i 4).rotateRight 6) ^^^ ((rdN w d i 4).rotateRight 11)) ^^^ ((rdN w d i 4).rotateRight 25)))), (11, .int (bI ((((rdN w d i 0) &&& (rdN w d i 1)) ^^^ ((rdN w d i 0) &&& (rdN w d i 2))) ^^^ ((rdN w d i 1) &&& (rdN w d i 2))))), (10, .int (bI (((rdN w d i 4) &&& (rdN w d i 5)) ^^^ ((~~~ (rdN w d i 4)) &&& (rdN w d i 6))))), (0, .ref m0), (1, .int (bI (rdN w d i 0))), (2, .int (bI (rdN w d i 1))), (3, .int (bI (rdN w d i 2))), (4, .int (bI (rdN w d i 3))), (5, .int (bI (rdN w d i 4))), (6, .int (bI (rdN w d i 5))), (7, .int (bI (rdN w d i 6))), (8, .int (bI (rdN w d i 7))), (9, .int (nI i))] [.int (bI ((rdN w d i 0).rotateRight 13)), .int (bI ((rdN w d i 0).rotateRight 2))] ([(m0, .inr (1, [.ref ms, .ref mw, .ref mf])), (ms, .inl (aI g, 8, .inl (wf d))), (mw, .inl (aI g, 64, .inl (wf w)))])
      refine j_ixorW (pc := 137) C d_Nam_mixChunk_137 ?_
      refine j_iload_n (pc := 138) C d_Nam_mixChunk_138 rfl 4 rfl ?_
      refine j_bipush (pc := 139) (v := nI 22) C d_Nam_mixChunk_139 (by decide) ?_
      refine j_callS (pc := 141) (As := [.int (bI (rdN w d i 0)), .int (nI 22)]) (rest := [.int (bI (((rdN w d i 0).rotateRight 2) ^^^ ((rdN w d i 0).rotateRight 13)))]) (wc := []) (wr := [(m0, .inr (1, [.ref ms, .ref mw, .ref mf])), (ms, .inl (aI g, 8, .inl (wf d))), (mw, .inl (aI g, 64, .inl (wf w)))]) C (c_Nam_turn (kl κ) g (rdN w d i 0) 22 (by decide) (by decide)) Y_Nam_turn ml_Nam_43 sta_Nam_turn rfl ⟨by decide, by decide⟩ rfl (Nat.le_of_ble_eq_true rfl) (j_sb [0, 1, 2] rfl rfl) rfl d_Nam_mixChunk_141 (fun r w1 hO => ?_)
      obtain ⟨rfl, rfl⟩ := hO
      show j_V g κ 0 0 144 [(12, .int (bI ((((rdN w d i 4).rotateRight 6) ^^^ ((rdN w d i 4).rotateRight 11)) ^^^ ((rdN w d i 4).rotateRight 25)))), (11, .int (bI ((((rdN w d i 0) &&& (rdN w d i 1)) ^^^ ((rdN w d i 0) &&& (rdN w d i 2))) ^^^ ((rdN w d i 1) &&& (rdN w d i 2))))), (10, .int (bI (((rdN w d i 4) &&& (rdN w d i 5)) ^^^ ((~~~ (rdN w d i 4)) &&& (rdN w d i 6))))), (0, .ref m0), (1, .int (bI (rdN w d i 0))), (2, .int (bI (rdN w d i 1))), (3, .int (bI (rdN w d i 2))), (4, .int (bI (rdN w d i 3))), (5, .int (bI (rdN w d i 4))), (6, .int (bI (rdN w d i 5))), (7, .int (bI (rdN w d i 6))), (8, .int (bI (rdN w d i 7))), (9, .int (nI i))] [.int (bI ((rdN w d i 0).rotateRight 22)), .int (bI (((rdN w d i 0).rotateRight 2) ^^^ ((rdN w d i 0).rotateRight 13)))] ([(m0, .inr (1, [.ref ms, .ref mw, .ref mf])), (ms, .inl (aI g, 8, .inl (wf d))), (mw, .inl (aI g, 64, .inl (wf w)))])
      refine j_ixorW (pc := 144) C d_Nam_mixChunk_144 ?_
      refine j_istore (pc := 145) (lv' := [(13, .int (bI ((((rdN w d i 0).rotateRight 2) ^^^ ((rdN w d i 0).rotateRight 13)) ^^^ ((rdN w d i 0).rotateRight 22)))), (12, .int (bI ((((rdN w d i 4).rotateRight 6) ^^^ ((rdN w d i 4).rotateRight 11)) ^^^ ((rdN w d i 4).rotateRight 25)))), (11, .int (bI ((((rdN w d i 0) &&& (rdN w d i 1)) ^^^ ((rdN w d i 0) &&& (rdN w d i 2))) ^^^ ((rdN w d i 1) &&& (rdN w d i 2))))), (10, .int (bI (((rdN w d i 4) &&& (rdN w d i 5)) ^^^ ((~~~ (rdN w d i 4)) &&& (rdN w d i 6))))), (0, .ref m0), (1, .int (bI (rdN w d i 0))), (2, .int (bI (rdN w d i 1))), (3, .int (bI (rdN w d i 2))), (4, .int (bI (rdN w d i 3))), (5, .int (bI (rdN w d i 4))), (6, .int (bI (rdN w d i 5))), (7, .int (bI (rdN w d i 6))), (8, .int (bI (rdN w d i 7))), (9, .int (nI i))]) C d_Nam_mixChunk_145 (by decide) rfl ?_
      refine j_iload (pc := 147) C d_Nam_mixChunk_147 12 rfl ?_
      refine j_iload (pc := 149) C d_Nam_mixChunk_149 1 rfl ?_
      refine j_iaddW (pc := 151) C d_Nam_mixChunk_151 ?_
      refine j_iload (pc := 152) C d_Nam_mixChunk_152 3 rfl ?_
      refine j_iaddW (pc := 154) C d_Nam_mixChunk_154 ?_
      refine j_gets (pc := 155) C C.2.2.2.2.2.2.2.2.2.2.2.2.1 fs_Nam_47 d_Nam_mixChunk_155 ?_
      refine j_iload (pc := 158) C d_Nam_mixChunk_158 13 rfl ?_
      refine j_taldR (pc := 160) C (by omega) d_Nam_mixChunk_160 ?_
      refine j_iaddW (pc := 161) C d_Nam_mixChunk_161 ?_
      refine j_aload_n (pc := 162) C d_Nam_mixChunk_162 rfl 4 rfl ?_
      refine j_get (pc := 163) C F_Nam_15 0 rfl rfl d_Nam_mixChunk_163 ?_
      refine j_iload (pc := 166) C d_Nam_mixChunk_166 13 rfl ?_
      refine j_ialdN (pc := 168) C 2 1 rfl rfl (by omega) (by omega) d_Nam_mixChunk_168 ?_
      refine j_iaddW (pc := 169) C d_Nam_mixChunk_169 ?_
      refine j_istore (pc := 170) (lv' := [(14, .int (bI (((((rdN w d i 7) + ((((rdN w d i 4).rotateRight 6) ^^^ ((rdN w d i 4).rotateRight 11)) ^^^ ((rdN w d i 4).rotateRight 25))) + (((rdN w d i 4) &&& (rdN w d i 5)) ^^^ ((~~~ (rdN w d i 4)) &&& (rdN w d i 6)))) + (cK i)) + (w i)))), (13, .int (bI ((((rdN w d i 0).rotateRight 2) ^^^ ((rdN w d i 0).rotateRight 13)) ^^^ ((rdN w d i 0).rotateRight 22)))), (12, .int (bI ((((rdN w d i 4).rotateRight 6) ^^^ ((rdN w d i 4).rotateRight 11)) ^^^ ((rdN w d i 4).rotateRight 25)))), (11, .int (bI ((((rdN w d i 0) &&& (rdN w d i 1)) ^^^ ((rdN w d i 0) &&& (rdN w d i 2))) ^^^ ((rdN w d i 1) &&& (rdN w d i 2))))), (10, .int (bI (((rdN w d i 4) &&& (rdN w d i 5)) ^^^ ((~~~ (rdN w d i 4)) &&& (rdN w d i 6))))), (0, .ref m0), (1, .int (bI (rdN w d i 0))), (2, .int (bI (rdN w d i 1))), (3, .int (bI (rdN w d i 2))), (4, .int (bI (rdN w d i 3))), (5, .int (bI (rdN w d i 4))), (6, .int (bI (rdN w d i 5))), (7, .int (bI (rdN w d i 6))), (8, .int (bI (rdN w d i 7))), (9, .int (nI i))]) C d_Nam_mixChunk_170 (by decide) rfl ?_
      refine j_iload (pc := 172) C d_Nam_mixChunk_172 12 rfl ?_
      refine j_istore (pc := 174) (lv' := [(8, .int (bI (rdN w d i 6))), (14, .int (bI (((((rdN w d i 7) + ((((rdN w d i 4).rotateRight 6) ^^^ ((rdN w d i 4).rotateRight 11)) ^^^ ((rdN w d i 4).rotateRight 25))) + (((rdN w d i 4) &&& (rdN w d i 5)) ^^^ ((~~~ (rdN w d i 4)) &&& (rdN w d i 6)))) + (cK i)) + (w i)))), (13, .int (bI ((((rdN w d i 0).rotateRight 2) ^^^ ((rdN w d i 0).rotateRight 13)) ^^^ ((rdN w d i 0).rotateRight 22)))), (12, .int (bI ((((rdN w d i 4).rotateRight 6) ^^^ ((rdN w d i 4).rotateRight 11)) ^^^ ((rdN w d i 4).rotateRight 25)))), (11, .int (bI ((((rdN w d i 0) &&& (rdN w d i 1)) ^^^ ((rdN w d i 0) &&& (rdN w d i 2))) ^^^ ((rdN w d i 1) &&& (rdN w d i 2))))), (10, .int (bI (((rdN w d i 4) &&& (rdN w d i 5)) ^^^ ((~~~ (rdN w d i 4)) &&& (rdN w d i 6))))), (0, .ref m0), (1, .int (bI (rdN w d i 0))), (2, .int (bI (rdN w d i 1))), (3, .int (bI (rdN w d i 2))), (4, .int (bI (rdN w d i 3))), (5, .int (bI (rdN w d i 4))), (6, .int (bI (rdN w d i 5))), (7, .int (bI (rdN w d i 6))), (9, .int (nI i))]) C d_Nam_mixChunk_174 (by decide) rfl ?_
      refine j_iload (pc := 176) C d_Nam_mixChunk_176 12 rfl ?_
      refine j_istore (pc := 178) (lv' := [(7, .int (bI (rdN w d i 5))), (8, .int (bI (rdN w d i 6))), (14, .int (bI (((((rdN w d i 7) + ((((rdN w d i 4).rotateRight 6) ^^^ ((rdN w d i 4).rotateRight 11)) ^^^ ((rdN w d i 4).rotateRight 25))) + (((rdN w d i 4) &&& (rdN w d i 5)) ^^^ ((~~~ (rdN w d i 4)) &&& (rdN w d i 6)))) + (cK i)) + (w i)))), (13, .int (bI ((((rdN w d i 0).rotateRight 2) ^^^ ((rdN w d i 0).rotateRight 13)) ^^^ ((rdN w d i 0).rotateRight 22)))), (12, .int (bI ((((rdN w d i 4).rotateRight 6) ^^^ ((rdN w d i 4).rotateRight 11)) ^^^ ((rdN w d i 4).rotateRight 25)))), (11, .int (bI ((((rdN w d i 0) &&& (rdN w d i 1)) ^^^ ((rdN w d i 0) &&& (rdN w d i 2))) ^^^ ((rdN w d i 1) &&& (rdN w d i 2))))), (10, .int (bI (((rdN w d i 4) &&& (rdN w d i 5)) ^^^ ((~~~ (rdN w d i 4)) &&& (rdN w d i 6))))), (0, .ref m0), (1, .int (bI (rdN w d i 0))), (2, .int (bI (rdN w d i 1))), (3, .int (bI (rdN w d i 2))), (4, .int (bI (rdN w d i 3))), (5, .int (bI (rdN w d i 4))), (6, .int (bI (rdN w d i 5))), (9, .int (nI i))]) C d_Nam_mixChunk_178 (by decide) rfl ?_
      refine j_iload (pc := 180) C d_Nam_mixChunk_180 12 rfl ?_
      refine j_istore (pc := 182) (lv' := [(6, .int (bI (rdN w d i 4))), (7, .int (bI (rdN w d i 5))), (8, .int (bI (rdN w d i 6))), (14, .int (bI (((((rdN w d i 7) + ((((rdN w d i 4).rotateRight 6) ^^^ ((rdN w d i 4).rotateRight 11)) ^^^ ((rdN w d i 4).rotateRight 25))) + (((rdN w d i 4) &&& (rdN w d i 5)) ^^^ ((~~~ (rdN w d i 4)) &&& (rdN w d i 6)))) + (cK i)) + (w i)))), (13, .int (bI ((((rdN w d i 0).rotateRight 2) ^^^ ((rdN w d i 0).rotateRight 13)) ^^^ ((rdN w d i 0).rotateRight 22)))), (12, .int (bI ((((rdN w d i 4).rotateRight 6) ^^^ ((rdN w d i 4).rotateRight 11)) ^^^ ((rdN w d i 4).rotateRight 25)))), (11, .int (bI ((((rdN w d i 0) &&& (rdN w d i 1)) ^^^ ((rdN w d i 0) &&& (rdN w d i 2))) ^^^ ((rdN w d i 1) &&& (rdN w d i 2))))), (10, .int (bI (((rdN w d i 4) &&& (rdN w d i 5)) ^^^ ((~~~ (rdN w d i 4)) &&& (rdN w d i 6))))), (0, .ref m0), (1, .int (bI (rdN w d i 0))), (2, .int (bI (rdN w d i 1))), (3, .int (bI (rdN w d i 2))), (4, .int (bI (rdN w d i 3))), (5, .int (bI (rdN w d i 4))), (9, .int (nI i))]) C d_Nam_mixChunk_182 (by decide) rfl ?_
      refine j_iload (pc := 184) C d_Nam_mixChunk_184 12 rfl ?_
      refine j_iload (pc := 186) C d_Nam_mixChunk_186 3 rfl ?_
      refine j_iaddW (pc := 188) C d_Nam_mixChunk_188 ?_
      refine j_istore (pc := 189) (lv' := [(5, .int (bI ((rdN w d i 3) + (((((rdN w d i 7) + ((((rdN w d i 4).rotateRight 6) ^^^ ((rdN w d i 4).rotateRight 11)) ^^^ ((rdN w d i 4).rotateRight 25))) + (((rdN w d i 4) &&& (rdN w d i 5)) ^^^ ((~~~ (rdN w d i 4)) &&& (rdN w d i 6)))) + (cK i)) + (w i))))), (6, .int (bI (rdN w d i 4))), (7, .int (bI (rdN w d i 5))), (8, .int (bI (rdN w d i 6))), (14, .int (bI (((((rdN w d i 7) + ((((rdN w d i 4).rotateRight 6) ^^^ ((rdN w d i 4).rotateRight 11)) ^^^ ((rdN w d i 4).rotateRight 25))) + (((rdN w d i 4) &&& (rdN w d i 5)) ^^^ ((~~~ (rdN w d i 4)) &&& (rdN w d i 6)))) + (cK i)) + (w i)))), (13, .int (bI ((((rdN w d i 0).rotateRight 2) ^^^ ((rdN w d i 0).rotateRight 13)) ^^^ ((rdN w d i 0).rotateRight 22)))), (12, .int (bI ((((rdN w d i 4).rotateRight 6) ^^^ ((rdN w d i 4).rotateRight 11)) ^^^ ((rdN w d i 4).rotateRight 25)))), (11, .int (bI ((((rdN w d i 0) &&& (rdN w d i 1)) ^^^ ((rdN w d i 0) &&& (rdN w d i 2))) ^^^ ((rdN w d i 1) &&& (rdN w d i 2))))), (10, .int (bI (((rdN w d i 4) &&& (rdN w d i 5)) ^^^ ((~~~ (rdN w d i 4)) &&& (rdN w d i 6))))), (0, .ref m0), (1, .int (bI (rdN w d i 0))), (2, .int (bI (rdN w d i 1))), (3, .int (bI (rdN w d i 2))), (4, .int (bI (rdN w d i 3))), (9, .int (nI i))]) C d_Nam_mixChunk_189 (by decide) rfl ?_
      refine j_iload_n (pc := 191) C d_Nam_mixChunk_191 rfl 12 rfl ?_
      refine j_istore (pc := 192) (lv' := [(4, .int (bI (rdN w d i 2))), (5, .int (bI ((rdN w d i 3) + (((((rdN w d i 7) + ((((rdN w d i 4).rotateRight 6) ^^^ ((rdN w d i 4).rotateRight 11)) ^^^ ((rdN w d i 4).rotateRight 25))) + (((rdN w d i 4) &&& (rdN w d i 5)) ^^^ ((~~~ (rdN w d i 4)) &&& (rdN w d i 6)))) + (cK i)) + (w i))))), (6, .int (bI (rdN w d i 4))), (7, .int (bI (rdN w d i 5))), (8, .int (bI (rdN w d i 6))), (14, .int (bI (((((rdN w d i 7) + ((((rdN w d i 4).rotateRight 6) ^^^ ((rdN w d i 4).rotateRight 11)) ^^^ ((rdN w d i 4).rotateRight 25))) + (((rdN w d i 4) &&& (rdN w d i 5)) ^^^ ((~~~ (rdN w d i 4)) &&& (rdN w d i 6)))) + (cK i)) + (w i)))), (13, .int (bI ((((rdN w d i 0).rotateRight 2) ^^^ ((rdN w d i 0).rotateRight 13)) ^^^ ((rdN w d i 0).rotateRight 22)))), (12, .int (bI ((((rdN w d i 4).rotateRight 6) ^^^ ((rdN w d i 4).rotateRight 11)) ^^^ ((rdN w d i 4).rotateRight 25)))), (11, .int (bI ((((rdN w d i 0) &&& (rdN w d i 1)) ^^^ ((rdN w d i 0) &&& (rdN w d i 2))) ^^^ ((rdN w d i 1) &&& (rdN w d i 2))))), (10, .int (bI (((rdN w d i 4) &&& (rdN w d i 5)) ^^^ ((~~~ (rdN w d i 4)) &&& (rdN w d i 6))))), (0, .ref m0), (1, .int (bI (rdN w d i 0))), (2, .int (bI (rdN w d i 1))), (3, .int (bI (rdN w d i 2))), (9, .int (nI i))]) C d_Nam_mixChunk_192 (by decide) rfl ?_
      refine j_iload_n (pc := 194) C d_Nam_mixChunk_194 rfl 12 rfl ?_
      refine j_istore_n (pc := 195) (lv' := [(3, .int (bI (rdN w d i 1))), (4, .int (bI (rdN w d i 2))), (5, .int (bI ((rdN w d i 3) + (((((rdN w d i 7) + ((((rdN w d i 4).rotateRight 6) ^^^ ((rdN w d i 4).rotateRight 11)) ^^^ ((rdN w d i 4).rotateRight 25))) + (((rdN w d i 4) &&& (rdN w d i 5)) ^^^ ((~~~ (rdN w d i 4)) &&& (rdN w d i 6)))) + (cK i)) + (w i))))), (6, .int (bI (rdN w d i 4))), (7, .int (bI (rdN w d i 5))), (8, .int (bI (rdN w d i 6))), (14, .int (bI (((((rdN w d i 7) + ((((rdN w d i 4).rotateRight 6) ^^^ ((rdN w d i 4).rotateRight 11)) ^^^ ((rdN w d i 4).rotateRight 25))) + (((rdN w d i 4) &&& (rdN w d i 5)) ^^^ ((~~~ (rdN w d i 4)) &&& (rdN w d i 6)))) + (cK i)) + (w i)))), (13, .int (bI ((((rdN w d i 0).rotateRight 2) ^^^ ((rdN w d i 0).rotateRight 13)) ^^^ ((rdN w d i 0).rotateRight 22)))), (12, .int (bI ((((rdN w d i 4).rotateRight 6) ^^^ ((rdN w d i 4).rotateRight 11)) ^^^ ((rdN w d i 4).rotateRight 25)))), (11, .int (bI ((((rdN w d i 0) &&& (rdN w d i 1)) ^^^ ((rdN w d i 0) &&& (rdN w d i 2))) ^^^ ((rdN w d i 1) &&& (rdN w d i 2))))), (10, .int (bI (((rdN w d i 4) &&& (rdN w d i 5)) ^^^ ((~~~ (rdN w d i 4)) &&& (rdN w d i 6))))), (0, .ref m0), (1, .int (bI (rdN w d i 0))), (2, .int (bI (rdN w d i 1))), (9, .int (nI i))]) C d_Nam_mixChunk_195 rfl (by decide) rfl ?_
      refine j_iload_n (pc := 196) C d_Nam_mixChunk_196 rfl 12 rfl ?_
      refine j_istore_n (pc := 197) (lv' := [(2, .int (bI (rdN w d i 0))), (3, .int (bI (rdN w d i 1))), (4, .int (bI (rdN w d i 2))), (5, .int (bI ((rdN w d i 3) + (((((rdN w d i 7) + ((((rdN w d i 4).rotateRight 6) ^^^ ((rdN w d i 4).rotateRight 11)) ^^^ ((rdN w d i 4).rotateRight 25))) + (((rdN w d i 4) &&& (rdN w d i 5)) ^^^ ((~~~ (rdN w d i 4)) &&& (rdN w d i 6)))) + (cK i)) + (w i))))), (6, .int (bI (rdN w d i 4))), (7, .int (bI (rdN w d i 5))), (8, .int (bI (rdN w d i 6))), (14, .int (bI (((((rdN w d i 7) + ((((rdN w d i 4).rotateRight 6) ^^^ ((rdN w d i 4).rotateRight 11)) ^^^ ((rdN w d i 4).rotateRight 25))) + (((rdN w d i 4) &&& (rdN w d i 5)) ^^^ ((~~~ (rdN w d i 4)) &&& (rdN w d i 6)))) + (cK i)) + (w i)))), (13, .int (bI ((((rdN w d i 0).rotateRight 2) ^^^ ((rdN w d i 0).rotateRight 13)) ^^^ ((rdN w d i 0).rotateRight 22)))), (12, .int (bI ((((rdN w d i 4).rotateRight 6) ^^^ ((rdN w d i 4).rotateRight 11)) ^^^ ((rdN w d i 4).rotateRight 25)))), (11, .int (bI ((((rdN w d i 0) &&& (rdN w d i 1)) ^^^ ((rdN w d i 0) &&& (rdN w d i 2))) ^^^ ((rdN w d i 1) &&& (rdN w d i 2))))), (10, .int (bI (((rdN w d i 4) &&& (rdN w d i 5)) ^^^ ((~~~ (rdN w d i 4)) &&& (rdN w d i 6))))), (0, .ref m0), (1, .int (bI (rdN w d i 0))), (9, .int (nI i))]) C d_Nam_mixChunk_197 rfl (by decide) rfl ?_
      refine j_iload (pc := 198) C d_Nam_mixChunk_198 7 rfl ?_
      refine j_iload (pc := 200) C d_Nam_mixChunk_200 8 rfl ?_
      refine j_iaddW (pc := 202) C d_Nam_mixChunk_202 ?_
      refine j_iload (pc := 203) C d_Nam_mixChunk_203 10 rfl ?_
      refine j_iaddW (pc := 205) C d_Nam_mixChunk_205 ?_
      refine j_istore_n (pc := 206) (lv' := [(1, .int (bI (((((((rdN w d i 7) + ((((rdN w d i 4).rotateRight 6) ^^^ ((rdN w d i 4).rotateRight 11)) ^^^ ((rdN w d i 4).rotateRight 25))) + (((rdN w d i 4) &&& (rdN w d i 5)) ^^^ ((~~~ (rdN w d i 4)) &&& (rdN w d i 6)))) + (cK i)) + (w i)) + ((((rdN w d i 0).rotateRight 2) ^^^ ((rdN w d i 0).rotateRight 13)) ^^^ ((rdN w d i 0).rotateRight 22))) + ((((rdN w d i 0) &&& (rdN w d i 1)) ^^^ ((rdN w d i 0) &&& (rdN w d i 2))) ^^^ ((rdN w d i 1) &&& (rdN w d i 2)))))), (2, .int (bI (rdN w d i 0))), (3, .int (bI (rdN w d i 1))), (4, .int (bI (rdN w d i 2))), (5, .int (bI ((rdN w d i 3) + (((((rdN w d i 7) + ((((rdN w d i 4).rotateRight 6) ^^^ ((rdN w d i 4).rotateRight 11)) ^^^ ((rdN w d i 4).rotateRight 25))) + (((rdN w d i 4) &&& (rdN w d i 5)) ^^^ ((~~~ (rdN w d i 4)) &&& (rdN w d i 6)))) + (cK i)) + (w i))))), (6, .int (bI (rdN w d i 4))), (7, .int (bI (rdN w d i 5))), (8, .int (bI (rdN w d i 6))), (14, .int (bI (((((rdN w d i 7) + ((((rdN w d i 4).rotateRight 6) ^^^ ((rdN w d i 4).rotateRight 11)) ^^^ ((rdN w d i 4).rotateRight 25))) + (((rdN w d i 4) &&& (rdN w d i 5)) ^^^ ((~~~ (rdN w d i 4)) &&& (rdN w d i 6)))) + (cK i)) + (w i)))), (13, .int (bI ((((rdN w d i 0).rotateRight 2) ^^^ ((rdN w d i 0).rotateRight 13)) ^^^ ((rdN w d i 0).rotateRight 22)))), (12, .int (bI ((((rdN w d i 4).rotateRight 6) ^^^ ((rdN w d i 4).rotateRight 11)) ^^^ ((rdN w d i 4).rotateRight 25)))), (11, .int (bI ((((rdN w d i 0) &&& (rdN w d i 1)) ^^^ ((rdN w d i 0) &&& (rdN w d i 2))) ^^^ ((rdN w d i 1) &&& (rdN w d i 2))))), (10, .int (bI (((rdN w d i 4) &&& (rdN w d i 5)) ^^^ ((~~~ (rdN w d i 4)) &&& (rdN w d i 6))))), (0, .ref m0), (9, .int (nI i))]) C d_Nam_mixChunk_206 rfl (by decide) rfl ?_
      refine j_iinc (pc := 207) (k := 14) (v := nI (i + 1)) (lv' := [(9, .int (nI (i + 1))), (1, .int (bI (((((((rdN w d i 7) + ((((rdN w d i 4).rotateRight 6) ^^^ ((rdN w d i 4).rotateRight 11)) ^^^ ((rdN w d i 4).rotateRight 25))) + (((rdN w d i 4) &&& (rdN w d i 5)) ^^^ ((~~~ (rdN w d i 4)) &&& (rdN w d i 6)))) + (cK i)) + (w i)) + ((((rdN w d i 0).rotateRight 2) ^^^ ((rdN w d i 0).rotateRight 13)) ^^^ ((rdN w d i 0).rotateRight 22))) + ((((rdN w d i 0) &&& (rdN w d i 1)) ^^^ ((rdN w d i 0) &&& (rdN w d i 2))) ^^^ ((rdN w d i 1) &&& (rdN w d i 2)))))), (2, .int (bI (rdN w d i 0))), (3, .int (bI (rdN w d i 1))), (4, .int (bI (rdN w d i 2))), (5, .int (bI ((rdN w d i 3) + (((((rdN w d i 7) + ((((rdN w d i 4).rotateRight 6) ^^^ ((rdN w d i 4).rotateRight 11)) ^^^ ((rdN w d i 4).rotateRight 25))) + (((rdN w d i 4) &&& (rdN w d i 5)) ^^^ ((~~~ (rdN w d i 4)) &&& (rdN w d i 6)))) + (cK i)) + (w i))))), (6, .int (bI (rdN w d i 4))), (7, .int (bI (rdN w d i 5))), (8, .int (bI (rdN w d i 6))), (14, .int (bI (((((rdN w d i 7) + ((((rdN w d i 4).rotateRight 6) ^^^ ((rdN w d i 4).rotateRight 11)) ^^^ ((rdN w d i 4).rotateRight 25))) + (((rdN w d i 4) &&& (rdN w d i 5)) ^^^ ((~~~ (rdN w d i 4)) &&& (rdN w d i 6)))) + (cK i)) + (w i)))), (13, .int (bI ((((rdN w d i 0).rotateRight 2) ^^^ ((rdN w d i 0).rotateRight 13)) ^^^ ((rdN w d i 0).rotateRight 22)))), (12, .int (bI ((((rdN w d i 4).rotateRight 6) ^^^ ((rdN w d i 4).rotateRight 11)) ^^^ ((rdN w d i 4).rotateRight 25)))), (11, .int (bI ((((rdN w d i 0) &&& (rdN w d i 1)) ^^^ ((rdN w d i 0) &&& (rdN w d i 2))) ^^^ ((rdN w d i 1) &&& (rdN w d i 2))))), (10, .int (bI (((rdN w d i 4) &&& (rdN w d i 5)) ^^^ ((~~~ (rdN w d i 4)) &&& (rdN w d i 6))))), (0, .ref m0)]) C d_Nam_mixChunk_207 rfl (j_inc _ _) (by decide) rfl ?_
      refine j_goto (pc := 210) (tgt := 66) C d_Nam_mixChunk_210 rfl ?_
      refine j_lv (lv' := [(0, .ref m0), (1, .int (bI (((((((rdN w d i 7) + ((((rdN w d i 4).rotateRight 6) ^^^ ((rdN w d i 4).rotateRight 11)) ^^^ ((rdN w d i 4).rotateRight 25))) + (((rdN w d i 4) &&& (rdN w d i 5)) ^^^ ((~~~ (rdN w d i 4)) &&& (rdN w d i 6)))) + (cK i)) + (w i)) + ((((rdN w d i 0).rotateRight 2) ^^^ ((rdN w d i 0).rotateRight 13)) ^^^ ((rdN w d i 0).rotateRight 22))) + ((((rdN w d i 0) &&& (rdN w d i 1)) ^^^ ((rdN w d i 0) &&& (rdN w d i 2))) ^^^ ((rdN w d i 1) &&& (rdN w d i 2)))))), (2, .int (bI (rdN w d i 0))), (3, .int (bI (rdN w d i 1))), (4, .int (bI (rdN w d i 2))), (5, .int (bI ((rdN w d i 3) + (((((rdN w d i 7) + ((((rdN w d i 4).rotateRight 6) ^^^ ((rdN w d i 4).rotateRight 11)) ^^^ ((rdN w d i 4).rotateRight 25))) + (((rdN w d i 4) &&& (rdN w d i 5)) ^^^ ((~~~ (rdN w d i 4)) &&& (rdN w d i 6)))) + (cK i)) + (w i))))), (6, .int (bI (rdN w d i 4))), (7, .int (bI (rdN w d i 5))), (8, .int (bI (rdN w d i 6))), (9, .int (nI (i + 1)))]) [14, 1, 2, 3, 4, 5, 6, 7, 8, 0] rfl ?_
      exact ih (i + 1) (by omega) (by omega)
set_option maxHeartbeats 4000000 in
set_option maxRecDepth 100000 in
theorem c_Nam_mixChunk (l : Launch) (g : JX) (m0 ms mw mf : Nat) (d w : Nat → BW)  : j_Ct l y_Nam_mixChunk b_Nam_mixChunk 15 none rm_Nam_mixChunk g ([(m0, .inr (1, [.ref ms, .ref mw, .ref mf])), (ms, .inl (aI g, 8, .inl (wf d))), (mw, .inl (aI g, 64, .inl (wf w)))]) [.ref m0] (fun r w1 => ∃ d2 : Nat → BW, r = none ∧ w1 = [(m0, .inr (1, [.ref ms, .ref mw, .ref mf])), (ms, .inl (aI g, 8, .inl (wf d2))), (mw, .inl (aI g, 64, .inl (wf w)))] ∧ ∀ j, j < 8 → d2 j = d j + rdN w d 64 j) 0 0 := by
  refine j_ct (by decide) (Nat.le_of_ble_eq_true rfl) (fun κ hkl C hR hI => ?_)
  show j_V g κ 0 0 0 [(0, .ref m0)] [] ([(m0, .inr (1, [.ref ms, .ref mw, .ref mf])), (ms, .inl (aI g, 8, .inl (wf d))), (mw, .inl (aI g, 64, .inl (wf w)))])
  refine j_aload_n (pc := 0) C d_Nam_mixChunk_0 rfl 0 rfl ?_
  refine j_get (pc := 1) C F_Nam_9 0 rfl rfl d_Nam_mixChunk_1 ?_
  refine j_iconst (pc := 4) (v := nI 0) C d_Nam_mixChunk_4 (by decide) ?_
  refine j_ialdN (pc := 5) C 1 1 rfl rfl (by omega) (by omega) d_Nam_mixChunk_5 ?_
  refine j_istore_n (pc := 6) (lv' := [(1, .int (bI (d 0))), (0, .ref m0)]) C d_Nam_mixChunk_6 rfl (by decide) rfl ?_
  refine j_aload_n (pc := 7) C d_Nam_mixChunk_7 rfl 1 rfl ?_
  refine j_get (pc := 8) C F_Nam_9 0 rfl rfl d_Nam_mixChunk_8 ?_
  refine j_iconst (pc := 11) (v := nI 1) C d_Nam_mixChunk_11 (by decide) ?_
  refine j_ialdN (pc := 12) C 1 1 rfl rfl (by omega) (by omega) d_Nam_mixChunk_12 ?_
  refine j_istore_n (pc := 13) (lv' := [(2, .int (bI (d 1))), (1, .int (bI (d 0))), (0, .ref m0)]) C d_Nam_mixChunk_13 rfl (by decide) rfl ?_
  refine j_aload_n (pc := 14) C d_Nam_mixChunk_14 rfl 2 rfl ?_
  refine j_get (pc := 15) C F_Nam_9 0 rfl rfl d_Nam_mixChunk_15 ?_
  refine j_iconst (pc := 18) (v := nI 2) C d_Nam_mixChunk_18 (by decide) ?_
  refine j_ialdN (pc := 19) C 1 1 rfl rfl (by omega) (by omega) d_Nam_mixChunk_19 ?_
  refine j_istore_n (pc := 20) (lv' := [(3, .int (bI (d 2))), (2, .int (bI (d 1))), (1, .int (bI (d 0))), (0, .ref m0)]) C d_Nam_mixChunk_20 rfl (by decide) rfl ?_
  refine j_aload_n (pc := 21) C d_Nam_mixChunk_21 rfl 3 rfl ?_
  refine j_get (pc := 22) C F_Nam_9 0 rfl rfl d_Nam_mixChunk_22 ?_
  refine j_iconst (pc := 25) (v := nI 3) C d_Nam_mixChunk_25 (by decide) ?_
  refine j_ialdN (pc := 26) C 1 1 rfl rfl (by omega) (by omega) d_Nam_mixChunk_26 ?_
  refine j_istore (pc := 27) (lv' := [(4, .int (bI (d 3))), (3, .int (bI (d 2))), (2, .int (bI (d 1))), (1, .int (bI (d 0))), (0, .ref m0)]) C d_Nam_mixChunk_27 (by decide) rfl ?_
  refine j_aload_n (pc := 29) C d_Nam_mixChunk_29 rfl 4 rfl ?_
  refine j_get (pc := 30) C F_Nam_9 0 rfl rfl d_Nam_mixChunk_30 ?_
  refine j_iconst (pc := 33) (v := nI 4) C d_Nam_mixChunk_33 (by decide) ?_
  refine j_ialdN (pc := 34) C 1 1 rfl rfl (by omega) (by omega) d_Nam_mixChunk_34 ?_
  refine j_istore (pc := 35) (lv' := [(5, .int (bI (d 4))), (4, .int (bI (d 3))), (3, .int (bI (d 2))), (2, .int (bI (d 1))), (1, .int (bI (d 0))), (0, .ref m0)]) C d_Nam_mixChunk_35 (by decide) rfl ?_
  refine j_aload_n (pc := 37) C d_Nam_mixChunk_37 rfl 5 rfl ?_
  refine j_get (pc := 38) C F_Nam_9 0 rfl rfl d_Nam_mixChunk_38 ?_
  refine j_iconst (pc := 41) (v := nI 5) C d_Nam_mixChunk_41 (by decide) ?_
  refine j_ialdN (pc := 42) C 1 1 rfl rfl (by omega) (by omega) d_Nam_mixChunk_42 ?_
  refine j_istore (pc := 43) (lv' := [(6, .int (bI (d 5))), (5, .int (bI (d 4))), (4, .int (bI (d 3))), (3, .int (bI (d 2))), (2, .int (bI (d 1))), (1, .int (bI (d 0))), (0, .ref m0)]) C d_Nam_mixChunk_43 (by decide) rfl ?_
  refine j_aload_n (pc := 45) C d_Nam_mixChunk_45 rfl 6 rfl ?_
  refine j_get (pc := 46) C F_Nam_9 0 rfl rfl d_Nam_mixChunk_46 ?_
  refine j_bipush (pc := 49) (v := nI 6) C d_Nam_mixChunk_49 (by decide) ?_
  refine j_ialdN (pc := 51) C 1 1 rfl rfl (by omega) (by omega) d_Nam_mixChunk_51 ?_
  refine j_istore (pc := 52) (lv' := [(7, .int (bI (d 6))), (6, .int (bI (d 5))), (5, .int (bI (d 4))), (4, .int (bI (d 3))), (3, .int (bI (d 2))), (2, .int (bI (d 1))), (1, .int (bI (d 0))), (0, .ref m0)]) C d_Nam_mixChunk_52 (by decide) rfl ?_
  refine j_aload_n (pc := 54) C d_Nam_mixChunk_54 rfl 7 rfl ?_
  refine j_get (pc := 55) C F_Nam_9 0 rfl rfl d_Nam_mixChunk_55 ?_
  refine j_bipush (pc := 58) (v := nI 7) C d_Nam_mixChunk_58 (by decide) ?_
  refine j_ialdN (pc := 60) C 1 1 rfl rfl (by omega) (by omega) d_Nam_mixChunk_60 ?_
  refine j_istore (pc := 61) (lv' := [(8, .int (bI (d 7))), (7, .int (bI (d 6))), (6, .int (bI (d 5))), (5, .int (bI (d 4))), (4, .int (bI (d 3))), (3, .int (bI (d 2))), (2, .int (bI (d 1))), (1, .int (bI (d 0))), (0, .ref m0)]) C d_Nam_mixChunk_61 (by decide) rfl ?_
  refine j_iconst (pc := 63) (v := nI 0) C d_Nam_mixChunk_63 (by decide) ?_
  refine j_istore (pc := 64) (lv' := [(9, .int (nI 0)), (8, .int (bI (d 7))), (7, .int (bI (d 6))), (6, .int (bI (d 5))), (5, .int (bI (d 4))), (4, .int (bI (d 3))), (3, .int (bI (d 2))), (2, .int (bI (d 1))), (1, .int (bI (d 0))), (0, .ref m0)]) C d_Nam_mixChunk_64 (by decide) rfl ?_
  refine j_lv (lv' := [(0, .ref m0), (1, .int (bI (d 0))), (2, .int (bI (d 1))), (3, .int (bI (d 2))), (4, .int (bI (d 3))), (5, .int (bI (d 4))), (6, .int (bI (d 5))), (7, .int (bI (d 6))), (8, .int (bI (d 7))), (9, .int (nI 0))]) [9, 8, 7, 6, 5, 4, 3, 2, 1, 0] rfl ?_
  exact lp_mx (m0 := m0) (ms := ms) (mw := mw) (mf := mf) (d := d) (w := w) C hR 65 0 (by omega) (by omega)
end
section
abbrev rm_Nam_digest : Room := { frames := 2, cells := 0, slots := 0, locals := 55 }
set_option maxHeartbeats 4000000 in
set_option maxRecDepth 100000 in
theorem lp_dig3 {g : JX} {κ : JK} {m0 ms mw mf sa N0 p n : Nat} {t : Nat → Nat} {c : Nat} {d w : Nat → BW} (hN : N0 ≤ 2000) (hT : ∀ j, t j < 256) (hp : p + n ≤ N0) (hc : c < (n + 8) / 64 + 1) (K : j_V g κ 0 0 106 [(0, .ref m0), (1, .ref sa), (2, .int (nI p)), (3, .int (nI n)), (4, .int (nI ((n + 8) / 64 + 1))), (5, .int (nI c))] [] [(m0, .inr (1, [.ref ms, .ref mw, .ref mf])), (ms, .inl (aI g, 8, .inl (wf d))), (mw, .inl (aI g, 64, .inl (wf (pW w (fun q => pb (fun j => t (p + j)) n (c * 64 + q)) 64)))), (sa, .inl (aB g, N0, .inl (bf t)))]) (C : j_C g κ b_Nam_digest R_Nam rm_Nam_digest 8) : ∀ (k : Nat) (i : Nat), i ≤ 64 → 65 ≤ i + k → j_V g κ 0 0 53 [(0, .ref m0), (1, .ref sa), (2, .int (nI p)), (3, .int (nI n)), (4, .int (nI ((n + 8) / 64 + 1))), (5, .int (nI c)), (6, .int (nI i))] [] ([(m0, .inr (1, [.ref ms, .ref mw, .ref mf])), (ms, .inl (aI g, 8, .inl (wf d))), (mw, .inl (aI g, 64, .inl (wf (pW w (fun q => pb (fun j => t (p + j)) n (c * 64 + q)) i)))), (sa, .inl (aB g, N0, .inl (bf t)))]) := by
  intro k
  induction k with
  | zero =>
    intro i hi hk
    exfalso; omega
  | succ k ih =>
    intro i hi hk
    refine j_iload (pc := 53) C d_Nam_digest_53 6 rfl ?_
    refine j_bipush (pc := 55) (v := nI 64) C d_Nam_digest_55 (by decide) ?_
    refine j_icmp_geN (pc := 57) (tgt := 106) C (by omega) (by omega) d_Nam_digest_57 rfl (fun c57 => ?_) (fun c57 => ?_)
    · skip
      refine j_lv (lv' := [(0, .ref m0), (1, .ref sa), (2, .int (nI p)), (3, .int (nI n)), (4, .int (nI ((n + 8) / 64 + 1))), (5, .int (nI c))]) [0, 1, 2, 3, 4, 5] rfl ?_
      obtain rfl : i = 64 := by omega
      exact K
    · skip
      refine j_aload_n (pc := 60) C d_Nam_digest_60 rfl 1 rfl ?_
      refine j_iload_n (pc := 61) C d_Nam_digest_61 rfl 2 rfl ?_
      refine j_iload_n (pc := 62) C d_Nam_digest_62 rfl 3 rfl ?_
      refine j_iload (pc := 63) C d_Nam_digest_63 5 rfl ?_
      refine j_bipush (pc := 65) (v := nI 64) C d_Nam_digest_65 (by decide) ?_
      refine j_imulN (pc := 67) C d_Nam_digest_67 ?_
      refine j_iload (pc := 68) C d_Nam_digest_68 6 rfl ?_
      refine j_iaddN (pc := 70) C d_Nam_digest_70 ?_
      refine j_callS (pc := 71) (As := [.ref sa, .int (nI p), .int (nI n), .int (nI ((c * 64) + i))]) (rest := []) (wc := [(sa, .inl (aB g, N0, .inl (bf t)))]) (wr := [(m0, .inr (1, [.ref ms, .ref mw, .ref mf])), (ms, .inl (aI g, 8, .inl (wf d))), (mw, .inl (aI g, 64, .inl (wf (pW w (fun q => pb (fun j => t (p + j)) n (c * 64 + q)) i))))]) C (c_Nam_paddedByte (kl κ) g sa N0 p n ((c * 64) + i) t (by omega) hT (by omega) (by omega)) Y_Nam_paddedByte ml_Nam_33 sta_Nam_paddedByte rfl ⟨by decide, by decide⟩ rfl (Nat.le_of_ble_eq_true rfl) (j_sb [3, 0, 1, 2] rfl rfl) rfl d_Nam_digest_71 (fun r w1 hO => ?_)
      obtain ⟨rfl, rfl⟩ := hO
      show j_V g κ 0 0 74 [(0, .ref m0), (1, .ref sa), (2, .int (nI p)), (3, .int (nI n)), (4, .int (nI ((n + 8) / 64 + 1))), (5, .int (nI c)), (6, .int (nI i))] [.int (nI (pb (fun j => t (p + j)) n ((c * 64) + i)))] ([(sa, .inl (aB g, N0, .inl (bf t))), (m0, .inr (1, [.ref ms, .ref mw, .ref mf])), (ms, .inl (aI g, 8, .inl (wf d))), (mw, .inl (aI g, 64, .inl (wf (pW w (fun q => pb (fun j => t (p + j)) n (c * 64 + q)) i))))])
      refine j_istore (pc := 74) (lv' := [(7, .int (nI (pb (fun j => t (p + j)) n ((c * 64) + i)))), (0, .ref m0), (1, .ref sa), (2, .int (nI p)), (3, .int (nI n)), (4, .int (nI ((n + 8) / 64 + 1))), (5, .int (nI c)), (6, .int (nI i))]) C d_Nam_digest_74 (by decide) rfl ?_
      refine j_aload_n (pc := 76) C d_Nam_digest_76 rfl 1 rfl ?_
      refine j_get (pc := 77) C F_Nam_15 1 rfl rfl d_Nam_digest_77 ?_
      refine j_iload (pc := 80) C d_Nam_digest_80 7 rfl ?_
      refine j_iconst (pc := 82) (v := nI 4) C d_Nam_digest_82 (by decide) ?_
      refine j_idivN (pc := 83) C (by omega) (by omega) (by omega) d_Nam_digest_83 ?_
      refine j_aload_n (pc := 84) C d_Nam_digest_84 rfl 1 rfl ?_
      refine j_get (pc := 85) C F_Nam_15 1 rfl rfl d_Nam_digest_85 ?_
      refine j_iload (pc := 88) C d_Nam_digest_88 7 rfl ?_
      refine j_iconst (pc := 90) (v := nI 4) C d_Nam_digest_90 (by decide) ?_
      refine j_idivN (pc := 91) C (by omega) (by omega) (by omega) d_Nam_digest_91 ?_
      refine j_ialdN (pc := 92) C 3 1 rfl rfl (by omega) (by omega) d_Nam_digest_92 ?_
      refine j_bipush (pc := 93) (v := nI 8) C d_Nam_digest_93 (by decide) ?_
      refine j_ishlW (pc := 95) C (by omega) d_Nam_digest_95 ?_
      refine j_iload (pc := 96) C d_Nam_digest_96 0 rfl ?_
      refine j_iorWN (pc := 98) C d_Nam_digest_98 ?_
      refine j_iastW (pc := 99) (ws' := [(sa, .inl (aB g, N0, .inl (bf t))), (m0, .inr (1, [.ref ms, .ref mw, .ref mf])), (ms, .inl (aI g, 8, .inl (wf d))), (mw, .inl (aI g, 64, .inl (wf (va_up (pW w (fun q => pb (fun j => t (p + j)) n (c * 64 + q)) i) (i / 4) ((((pW w (fun q => pb (fun j => t (p + j)) n (c * 64 + q)) i) (i / 4)) <<< 8) ||| BitVec.ofNat 32 (pb (fun j => t (p + j)) n ((c * 64) + i)))))))]) C 3 1 rfl rfl (by omega) (by omega) rfl d_Nam_digest_99 ?_
      refine j_iinc (pc := 100) (k := 7) (v := nI (i + 1)) (lv' := [(6, .int (nI (i + 1))), (7, .int (nI (pb (fun j => t (p + j)) n ((c * 64) + i)))), (0, .ref m0), (1, .ref sa), (2, .int (nI p)), (3, .int (nI n)), (4, .int (nI ((n + 8) / 64 + 1))), (5, .int (nI c))]) C d_Nam_digest_100 rfl (j_inc _ _) (by decide) rfl ?_
      refine j_goto (pc := 103) (tgt := 53) C d_Nam_digest_103 rfl ?_
      refine j_lv (lv' := [(0, .ref m0), (1, .ref sa), (2, .int (nI p)), (3, .int (nI n)), (4, .int (nI ((n + 8) / 64 + 1))), (5, .int (nI c)), (6, .int (nI (i + 1)))]) [2, 3, 4, 5, 6, 7, 0] rfl ?_
      refine j_sub (ws' := [(m0, .inr (1, [.ref ms, .ref mw, .ref mf])), (ms, .inl (aI g, 8, .inl (wf d))), (mw, .inl (aI g, 64, .inl (wf (va_up (pW w (fun q => pb (fun j => t (p + j)) n (c * 64 + q)) i) (i / 4) ((((pW w (fun q => pb (fun j => t (p + j)) n (c * 64 + q)) i) (i / 4)) <<< 8) ||| BitVec.ofNat 32 (pb (fun j => t (p + j)) n ((c * 64) + i))))))), (sa, .inl (aB g, N0, .inl (bf t)))]) (j_sb [1, 2, 3, 0] rfl rfl) ?_
      have e := ih (i + 1) (by omega) (by omega)
      rw [← pW_s] at e
      exact e
set_option maxHeartbeats 4000000 in
set_option maxRecDepth 100000 in
theorem lp_dig2 {g : JX} {κ : JK} {m0 ms mw mf sa N0 p n : Nat} {t : Nat → Nat} (hN : N0 ≤ 2000) (hT : ∀ j, t j < 256) (hp : p + n ≤ N0) (C : j_C g κ b_Nam_digest R_Nam rm_Nam_digest 8) (hR : j_R g κ b_Nam_digest none (fun r w1 => ∃ (d1 w2 : Nat → BW), r = none ∧ w1 = [(m0, .inr (1, [.ref ms, .ref mw, .ref mf])), (ms, .inl (aI g, 8, .inl (wf d1))), (mw, .inl (aI g, 64, .inl (wf w2))), (sa, .inl (aB g, N0, .inl (bf t)))] ∧ ∀ j, j < 8 → d1 j = dW (fun j => t (p + j)) n j) 0 0) : ∀ (k : Nat) (c : Nat) (d w : Nat → BW), c ≤ (n + 8) / 64 + 1 → (n + 8) / 64 + 1 + 1 ≤ c + k → (∀ j, j < 8 → d j = dgN (pb (fun j => t (p + j)) n) c j) → j_V g κ 0 0 43 [(0, .ref m0), (1, .ref sa), (2, .int (nI p)), (3, .int (nI n)), (4, .int (nI ((n + 8) / 64 + 1))), (5, .int (nI c))] [] ([(m0, .inr (1, [.ref ms, .ref mw, .ref mf])), (ms, .inl (aI g, 8, .inl (wf d))), (mw, .inl (aI g, 64, .inl (wf w))), (sa, .inl (aB g, N0, .inl (bf t)))]) := by
  intro k
  induction k with
  | zero =>
    intro c d w hc hk hd
    exfalso; omega
  | succ k ih =>
    intro c d w hc hk hd
    refine j_iload (pc := 43) C d_Nam_digest_43 5 rfl ?_
    refine j_iload (pc := 45) C d_Nam_digest_45 4 rfl ?_
    refine j_icmp_geN (pc := 47) (tgt := 120) C (by omega) (by omega) d_Nam_digest_47 rfl (fun c47 => ?_) (fun c47 => ?_)
    · skip
      exact hR.2.2 _ _ _ d_Nam_digest_120 rfl (⟨d, w, rfl, rfl, fun j hj => by rw [hd j hj, show c = (n + 8) / 64 + 1 by omega]; rfl⟩)
    · skip
      refine j_iconst (pc := 50) (v := nI 0) C d_Nam_digest_50 (by decide) ?_
      refine j_istore (pc := 51) (lv' := [(6, .int (nI 0)), (0, .ref m0), (1, .ref sa), (2, .int (nI p)), (3, .int (nI n)), (4, .int (nI ((n + 8) / 64 + 1))), (5, .int (nI c))]) C d_Nam_digest_51 (by decide) rfl ?_
      refine j_lv (lv' := [(0, .ref m0), (1, .ref sa), (2, .int (nI p)), (3, .int (nI n)), (4, .int (nI ((n + 8) / 64 + 1))), (5, .int (nI c)), (6, .int (nI 0))]) [1, 2, 3, 4, 5, 6, 0] rfl ?_
      refine Eq.mp (congrArg (fun z => j_V g κ 0 0 53 [(0, .ref m0), (1, .ref sa), (2, .int (nI p)), (3, .int (nI n)), (4, .int (nI ((n + 8) / 64 + 1))), (5, .int (nI c)), (6, .int (nI 0))] [] [(m0, .inr (1, [.ref ms, .ref mw, .ref mf])), (ms, .inl (aI g, 8, .inl (wf d))), (mw, .inl (aI g, 64, .inl (wf z))), (sa, .inl (aB g, N0, .inl (bf t)))]) (pW_0 w (fun q => pb (fun j => t (p + j)) n (c * 64 + q)))) (lp_dig3 (m0 := m0) (ms := ms) (mw := mw) (mf := mf) (sa := sa) (N0 := N0) (p := p) (n := n) (t := t) (c := c) (d := d) (w := w) hN hT hp (by omega) ?_ C 65 0 (by omega) (by omega))
      refine j_aload_n (pc := 106) C d_Nam_digest_106 rfl 0 rfl ?_
      refine j_callV (pc := 107) (As := []) (rest := []) (wc := [(m0, .inr (1, [.ref ms, .ref mw, .ref mf])), (mw, .inl (aI g, 64, .inl (wf (pW w (fun q => pb (fun j => t (p + j)) n (c * 64 + q)) 64))))]) (wr := [(ms, .inl (aI g, 8, .inl (wf d))), (sa, .inl (aB g, N0, .inl (bf t)))]) C (c_Nam_stretchSchedule (kl κ) g m0 ms mw mf (pW w (fun q => pb (fun j => t (p + j)) n (c * 64 + q)) 64)) Y_Nam_stretchSchedule ml_Nam_37 im_Nam_stretchSchedule sl_Nam_stretchSchedule rfl ⟨by decide, by decide⟩ rfl (ci := 1) (q0 := 0) rfl rfl rfl (Nat.le_of_ble_eq_true rfl) (j_sb [0, 2, 1, 3] rfl rfl) rfl d_Nam_digest_107 (fun r w1 hO => ?_)
      obtain ⟨w2, rfl, rfl, hw2⟩ := hO
      show j_V g κ 0 0 110 [(0, .ref m0), (1, .ref sa), (2, .int (nI p)), (3, .int (nI n)), (4, .int (nI ((n + 8) / 64 + 1))), (5, .int (nI c))] [] ([(m0, .inr (1, [.ref ms, .ref mw, .ref mf])), (mw, .inl (aI g, 64, .inl (wf w2))), (ms, .inl (aI g, 8, .inl (wf d))), (sa, .inl (aB g, N0, .inl (bf t)))])
      refine j_aload_n (pc := 110) C d_Nam_digest_110 rfl 0 rfl ?_
      refine j_callV (pc := 111) (As := []) (rest := []) (wc := [(m0, .inr (1, [.ref ms, .ref mw, .ref mf])), (ms, .inl (aI g, 8, .inl (wf d))), (mw, .inl (aI g, 64, .inl (wf w2)))]) (wr := [(sa, .inl (aB g, N0, .inl (bf t)))]) C (c_Nam_mixChunk (kl κ) g m0 ms mw mf d w2) Y_Nam_mixChunk ml_Nam_40 im_Nam_mixChunk sl_Nam_mixChunk rfl ⟨by decide, by decide⟩ rfl (ci := 1) (q0 := 0) rfl rfl rfl (Nat.le_of_ble_eq_true rfl) (j_sb [0, 2, 1, 3] rfl rfl) rfl d_Nam_digest_111 (fun r w1 hO => ?_)
      obtain ⟨d2, rfl, rfl, hd2⟩ := hO
      show j_V g κ 0 0 114 [(0, .ref m0), (1, .ref sa), (2, .int (nI p)), (3, .int (nI n)), (4, .int (nI ((n + 8) / 64 + 1))), (5, .int (nI c))] [] ([(m0, .inr (1, [.ref ms, .ref mw, .ref mf])), (ms, .inl (aI g, 8, .inl (wf d2))), (mw, .inl (aI g, 64, .inl (wf w2))), (sa, .inl (aB g, N0, .inl (bf t)))])
      refine j_iinc (pc := 114) (k := 5) (v := nI (c + 1)) (lv' := [(5, .int (nI (c + 1))), (0, .ref m0), (1, .ref sa), (2, .int (nI p)), (3, .int (nI n)), (4, .int (nI ((n + 8) / 64 + 1)))]) C d_Nam_digest_114 rfl (j_inc _ _) (by decide) rfl ?_
      refine j_goto (pc := 117) (tgt := 43) C d_Nam_digest_117 rfl ?_
      refine j_lv (lv' := [(0, .ref m0), (1, .ref sa), (2, .int (nI p)), (3, .int (nI n)), (4, .int (nI ((n + 8) / 64 + 1))), (5, .int (nI (c + 1)))]) [1, 2, 3, 4, 5, 0] rfl ?_
      exact ih (c + 1) d2 w2 (by omega) (by omega) (dg_step (pb_lt (fun j => hT (p + j)) n) hd hw2 hd2)
set_option maxHeartbeats 4000000 in
set_option maxRecDepth 100000 in
theorem lp_dig1 {g : JX} {κ : JK} {m0 ms mw mf sa N0 p n : Nat} {t : Nat → Nat} {d w : Nat → BW} (hN : N0 ≤ 2000) (hT : ∀ j, t j < 256) (hp : p + n ≤ N0) (C : j_C g κ b_Nam_digest R_Nam rm_Nam_digest 8) (hR : j_R g κ b_Nam_digest none (fun r w1 => ∃ (d1 w2 : Nat → BW), r = none ∧ w1 = [(m0, .inr (1, [.ref ms, .ref mw, .ref mf])), (ms, .inl (aI g, 8, .inl (wf d1))), (mw, .inl (aI g, 64, .inl (wf w2))), (sa, .inl (aB g, N0, .inl (bf t)))] ∧ ∀ j, j < 8 → d1 j = dW (fun j => t (p + j)) n j) 0 0) : ∀ (k : Nat) (i : Nat), i ≤ 8 → 9 ≤ i + k → j_V g κ 0 0 3 [(0, .ref m0), (1, .ref sa), (2, .int (nI p)), (3, .int (nI n)), (4, .int (nI i))] [] ([(m0, .inr (1, [.ref ms, .ref mw, .ref mf])), (ms, .inl (aI g, 8, .inl (wf (cpW cH d i)))), (mw, .inl (aI g, 64, .inl (wf w))), (sa, .inl (aB g, N0, .inl (bf t)))]) := by
  intro k
  induction k with
  | zero =>
    intro i hi hk
    exfalso; omega
  | succ k ih =>
    intro i hi hk
    refine j_iload (pc := 3) C d_Nam_digest_3 4 rfl ?_
    refine j_bipush (pc := 5) (v := nI 8) C d_Nam_digest_5 (by decide) ?_
    refine j_icmp_geN (pc := 7) (tgt := 29) C (by omega) (by omega) d_Nam_digest_7 rfl (fun c7 => ?_) (fun c7 => ?_)
    · skip
      refine j_iload_n (pc := 29) C d_Nam_digest_29 rfl 3 rfl ?_
      refine j_bipush (pc := 30) (v := nI 8) C d_Nam_digest_30 (by decide) ?_
      refine j_iaddN (pc := 32) C d_Nam_digest_32 ?_
      refine j_bipush (pc := 33) (v := nI 64) C d_Nam_digest_33 (by decide) ?_
      refine j_idivN (pc := 35) C (by omega) (by omega) (by omega) d_Nam_digest_35 ?_
      refine j_iconst (pc := 36) (v := nI 1) C d_Nam_digest_36 (by decide) ?_
      refine j_iaddN (pc := 37) C d_Nam_digest_37 ?_
      refine j_istore (pc := 38) (lv' := [(4, .int (nI (((n + 8) / 64) + 1))), (0, .ref m0), (1, .ref sa), (2, .int (nI p)), (3, .int (nI n))]) C d_Nam_digest_38 (by decide) rfl ?_
      refine j_iconst (pc := 40) (v := nI 0) C d_Nam_digest_40 (by decide) ?_
      refine j_istore (pc := 41) (lv' := [(5, .int (nI 0)), (4, .int (nI (((n + 8) / 64) + 1))), (0, .ref m0), (1, .ref sa), (2, .int (nI p)), (3, .int (nI n))]) C d_Nam_digest_41 (by decide) rfl ?_
      refine j_lv (lv' := [(0, .ref m0), (1, .ref sa), (2, .int (nI p)), (3, .int (nI n)), (4, .int (nI (((n + 8) / 64) + 1))), (5, .int (nI 0))]) [2, 3, 4, 5, 1, 0] rfl ?_
      exact lp_dig2 (m0 := m0) (ms := ms) (mw := mw) (mf := mf) (sa := sa) (N0 := N0) (p := p) (n := n) (t := t) hN hT hp C hR ((n + 8) / 64 + 1 + 1) 0 _ w (by omega) (by omega) (fun j hj => if_pos (by omega))
    · skip
      refine j_aload_n (pc := 10) C d_Nam_digest_10 rfl 0 rfl ?_
      refine j_get (pc := 11) C F_Nam_9 0 rfl rfl d_Nam_digest_11 ?_
      refine j_iload (pc := 14) C d_Nam_digest_14 4 rfl ?_
      refine j_gets (pc := 16) C C.2.2.2.2.2.2.2.2.2.2.1 fs_Nam_30 d_Nam_digest_16 ?_
      refine j_iload (pc := 19) C d_Nam_digest_19 4 rfl ?_
      refine j_taldS (pc := 21) C (by omega) d_Nam_digest_21 ?_
      refine j_iastW (pc := 22) (ws' := [(m0, .inr (1, [.ref ms, .ref mw, .ref mf])), (ms, .inl (aI g, 8, .inl (wf (va_up (cpW cH d i) i (cH i))))), (mw, .inl (aI g, 64, .inl (wf w))), (sa, .inl (aB g, N0, .inl (bf t)))]) C 1 1 rfl rfl (by omega) (by omega) rfl d_Nam_digest_22 ?_
      refine j_iinc (pc := 23) (k := 4) (v := nI (i + 1)) (lv' := [(4, .int (nI (i + 1))), (0, .ref m0), (1, .ref sa), (2, .int (nI p)), (3, .int (nI n))]) C d_Nam_digest_23 rfl (j_inc _ _) (by decide) rfl ?_
      refine j_goto (pc := 26) (tgt := 3) C d_Nam_digest_26 rfl ?_
      refine j_lv (lv' := [(0, .ref m0), (1, .ref sa), (2, .int (nI p)), (3, .int (nI n)), (4, .int (nI (i + 1)))]) [1, 2, 3, 4, 0] rfl ?_
      have e := ih (i + 1) (by omega) (by omega)
      rw [← cpW_s] at e
      exact e
set_option maxHeartbeats 4000000 in
set_option maxRecDepth 100000 in
theorem c_Nam_digest (l : Launch) (g : JX) (m0 ms mw mf sa N0 p n : Nat) (t : Nat → Nat) (d w : Nat → BW) (hN : N0 ≤ 2000) (hT : ∀ j, t j < 256) (hp : p + n ≤ N0) : j_Ct l y_Nam_digest b_Nam_digest 8 none rm_Nam_digest g ([(m0, .inr (1, [.ref ms, .ref mw, .ref mf])), (ms, .inl (aI g, 8, .inl (wf d))), (mw, .inl (aI g, 64, .inl (wf w))), (sa, .inl (aB g, N0, .inl (bf t)))]) [.ref m0, .ref sa, .int (nI p), .int (nI n)] (fun r w1 => ∃ (d1 w2 : Nat → BW), r = none ∧ w1 = [(m0, .inr (1, [.ref ms, .ref mw, .ref mf])), (ms, .inl (aI g, 8, .inl (wf d1))), (mw, .inl (aI g, 64, .inl (wf w2))), (sa, .inl (aB g, N0, .inl (bf t)))] ∧ ∀ j, j < 8 → d1 j = dW (fun j => t (p + j)) n j) 0 0 := by
  refine j_ct (by decide) (Nat.le_of_ble_eq_true rfl) (fun κ hkl C hR hI => ?_)
  show j_V g κ 0 0 0 [(0, .ref m0), (1, .ref sa), (2, .int (nI p)), (3, .int (nI n))] [] ([(m0, .inr (1, [.ref ms, .ref mw, .ref mf])), (ms, .inl (aI g, 8, .inl (wf d))), (mw, .inl (aI g, 64, .inl (wf w))), (sa, .inl (aB g, N0, .inl (bf t)))])
  refine j_iconst (pc := 0) (v := nI 0) C d_Nam_digest_0 (by decide) ?_
  refine j_istore (pc := 1) (lv' := [(4, .int (nI 0)), (0, .ref m0), (1, .ref sa), (2, .int (nI p)), (3, .int (nI n))]) C d_Nam_digest_1 (by decide) rfl ?_
  refine j_lv (lv' := [(0, .ref m0), (1, .ref sa), (2, .int (nI p)), (3, .int (nI n)), (4, .int (nI 0))]) [1, 2, 3, 4, 0] rfl ?_
  have e := lp_dig1 (m0 := m0) (ms := ms) (mw := mw) (mf := mf) (sa := sa) (N0 := N0) (p := p) (n := n) (t := t) (d := d) (w := w) hN hT hp C hR 9 0 (by omega) (by omega)
  rw [cpW_0] at e
  exact e
abbrev rm_Nam_writeState : Room := { frames := 0, cells := 0, slots := 0, locals := 0 }
set_option maxHeartbeats 4000000 in
set_option maxRecDepth 100000 in
theorem lp_ws {g : JX} {κ : JK} {m0 ms mw mf ta N1 to : Nat} {v : Nat → Nat} {d : Nat → BW} (hN : N1 ≤ 2000) (ht : to + 32 ≤ N1) (C : j_C g κ b_Nam_writeState R_Nam rm_Nam_writeState 4) (hR : j_R g κ b_Nam_writeState none (fun r w1 => r = none ∧ w1 = [(m0, .inr (1, [.ref ms, .ref mw, .ref mf])), (ms, .inl (aI g, 8, .inl (wf d))), (ta, .inl (aB g, N1, .inl (bf (putF v to 32 (wB d)))))]) 0 0) : ∀ (k : Nat) (i : Nat), i ≤ 32 → 33 ≤ i + k → j_V g κ 0 0 16 [(0, .ref m0), (1, .ref ta), (2, .int (nI to)), (3, .int (nI i))] [] ([(m0, .inr (1, [.ref ms, .ref mw, .ref mf])), (ms, .inl (aI g, 8, .inl (wf d))), (ta, .inl (aB g, N1, .inl (bf (putF v to i (wB d)))))]) := by
  intro k
  induction k with
  | zero =>
    intro i hi hk
    exfalso; omega
  | succ k ih =>
    intro i hi hk
    refine j_iload_n (pc := 16) C d_Nam_writeState_16 rfl 3 rfl ?_
    refine j_bipush (pc := 17) (v := nI 32) C d_Nam_writeState_17 (by decide) ?_
    refine j_icmp_geN (pc := 19) (tgt := 52) C (by omega) (by omega) d_Nam_writeState_19 rfl (fun c19 => ?_) (fun c19 => ?_)
    · skip
      exact hR.2.2 _ _ _ d_Nam_writeState_52 rfl (⟨rfl, by rw [show i = 32 by omega]⟩)
    · skip
      refine j_aload_n (pc := 22) C d_Nam_writeState_22 rfl 1 rfl ?_
      refine j_iload_n (pc := 23) C d_Nam_writeState_23 rfl 2 rfl ?_
      refine j_iload_n (pc := 24) C d_Nam_writeState_24 rfl 3 rfl ?_
      refine j_iaddN (pc := 25) C d_Nam_writeState_25 ?_
      refine j_aload_n (pc := 26) C d_Nam_writeState_26 rfl 0 rfl ?_
      refine j_get (pc := 27) C F_Nam_9 0 rfl rfl d_Nam_writeState_27 ?_
      refine j_iload_n (pc := 30) C d_Nam_writeState_30 rfl 3 rfl ?_
      refine j_iconst (pc := 31) (v := nI 4) C d_Nam_writeState_31 (by decide) ?_
      refine j_idivN (pc := 32) C (by omega) (by omega) (by omega) d_Nam_writeState_32 ?_
      refine j_ialdN (pc := 33) C 1 1 rfl rfl (by omega) (by omega) d_Nam_writeState_33 ?_
      refine j_bipush (pc := 34) (v := nI 24) C d_Nam_writeState_34 (by decide) ?_
      refine j_bipush (pc := 36) (v := nI 8) C d_Nam_writeState_36 (by decide) ?_
      refine j_iload_n (pc := 38) C d_Nam_writeState_38 rfl 3 rfl ?_
      refine j_iconst (pc := 39) (v := nI 4) C d_Nam_writeState_39 (by decide) ?_
      refine j_iremN (pc := 40) C (by omega) (by omega) (by omega) d_Nam_writeState_40 ?_
      refine j_imulN (pc := 41) C d_Nam_writeState_41 ?_
      refine j_isubN (pc := 42) C (by omega) d_Nam_writeState_42 ?_
      refine j_iushrW (pc := 43) C (by omega) d_Nam_writeState_43 ?_
      refine j_i2b (pc := 44) (v := (bI ((d (i / 4)) >>> (24 - (8 * (i % 4))))).toInt8.toInt32) C d_Nam_writeState_44 rfl ?_
      refine j_rwi (y := sb_b (wB d i)) (wB_sb d i) ?_
      refine j_bastB (pc := 45) (ws' := [(m0, .inr (1, [.ref ms, .ref mw, .ref mf])), (ms, .inl (aI g, 8, .inl (wf d))), (ta, .inl (aB g, N1, .inl (bf (va_up (putF v to i (wB d)) (to + i) (wB d i)))))]) C 2 0 rfl rfl (by omega) (by omega) (sb_nar _) rfl d_Nam_writeState_45 ?_
      refine j_iinc (pc := 46) (k := 3) (v := nI (i + 1)) (lv' := [(3, .int (nI (i + 1))), (0, .ref m0), (1, .ref ta), (2, .int (nI to))]) C d_Nam_writeState_46 rfl (j_inc _ _) (by decide) rfl ?_
      refine j_goto (pc := 49) (tgt := 16) C d_Nam_writeState_49 rfl ?_
      refine j_lv (lv' := [(0, .ref m0), (1, .ref ta), (2, .int (nI to)), (3, .int (nI (i + 1)))]) [1, 2, 3, 0] rfl ?_
      have e := ih (i + 1) (by omega) (by omega)
      rw [← putF_s] at e
      exact e
set_option maxHeartbeats 4000000 in
set_option maxRecDepth 100000 in
theorem c_Nam_writeState (l : Launch) (g : JX) (m0 ms mw mf ta N1 to : Nat) (v : Nat → Nat) (d : Nat → BW) (hN : N1 ≤ 2000) (ht : to + 32 ≤ N1) : j_Ct l y_Nam_writeState b_Nam_writeState 4 none rm_Nam_writeState g ([(m0, .inr (1, [.ref ms, .ref mw, .ref mf])), (ms, .inl (aI g, 8, .inl (wf d))), (ta, .inl (aB g, N1, .inl (bf v)))]) [.ref m0, .ref ta, .int (nI to)] (fun r w1 => r = none ∧ w1 = [(m0, .inr (1, [.ref ms, .ref mw, .ref mf])), (ms, .inl (aI g, 8, .inl (wf d))), (ta, .inl (aB g, N1, .inl (bf (putF v to 32 (wB d)))))]) 0 0 := by
  refine j_ct (by decide) (Nat.le_of_ble_eq_true rfl) (fun κ hkl C hR hI => ?_)
  show j_V g κ 0 0 0 [(0, .ref m0), (1, .ref ta), (2, .int (nI to))] [] ([(m0, .inr (1, [.ref ms, .ref mw, .ref mf])), (ms, .inl (aI g, 8, .inl (wf d))), (ta, .inl (aB g, N1, .inl (bf v)))])
  refine j_iload_n (pc := 0) C d_Nam_writeState_0 rfl 2 rfl ?_
  refine j_if_ltN (pc := 1) (tgt := 13) C (by omega) d_Nam_writeState_1 rfl ?_
  refine j_iload_n (pc := 4) C d_Nam_writeState_4 rfl 2 rfl ?_
  refine j_aload_n (pc := 5) C d_Nam_writeState_5 rfl 1 rfl ?_
  refine j_alen (pc := 6) (v := nI N1) C 2 0 rfl rfl rfl d_Nam_writeState_6 ?_
  refine j_bipush (pc := 7) (v := nI 32) C d_Nam_writeState_7 (by decide) ?_
  refine j_isubN (pc := 9) C (by omega) d_Nam_writeState_9 ?_
  refine j_icmp_leN (pc := 10) (tgt := 14) C (by omega) (by omega) d_Nam_writeState_10 rfl (fun c10 => ?_) (fun c10 => ?_)
  · skip
    refine j_iconst (pc := 14) (v := nI 0) C d_Nam_writeState_14 (by decide) ?_
    refine j_istore_n (pc := 15) (lv' := [(3, .int (nI 0)), (0, .ref m0), (1, .ref ta), (2, .int (nI to))]) C d_Nam_writeState_15 rfl (by decide) rfl ?_
    refine j_lv (lv' := [(0, .ref m0), (1, .ref ta), (2, .int (nI to)), (3, .int (nI 0))]) [1, 2, 3, 0] rfl ?_
    have e := lp_ws (m0 := m0) (ms := ms) (mw := mw) (mf := mf) (ta := ta) (N1 := N1) (to := to) (v := v) (d := d) hN ht C hR 33 0 (by omega) (by omega)
    rw [putF_0] at e
    exact e
  · skip
    exfalso; omega
abbrev rm_Nam_writeName : Room := { frames := 3, cells := 0, slots := 0, locals := 82 }
set_option maxHeartbeats 4000000 in
set_option maxRecDepth 100000 in
theorem c_Nam_writeName (l : Launch) (g : JX) (m0 ms mw mf sa ta N0 N1 p n to : Nat) (t u v : Nat → Nat) (d w : Nat → BW) (hN : N0 ≤ 2000) (hN1 : N1 ≤ 2000) (hT : ∀ j, t j < 256) (hu : ∀ j, u j < 256) (hp : p + n ≤ N0) (ht : to + 32 ≤ N1) : j_Ct l y_Nam_writeName b_Nam_writeName 6 none rm_Nam_writeName g ([(m0, .inr (1, [.ref ms, .ref mw, .ref mf])), (ms, .inl (aI g, 8, .inl (wf d))), (mw, .inl (aI g, 64, .inl (wf w))), (mf, .inl (aB g, 32, .inl (bf u))), (sa, .inl (aB g, N0, .inl (bf t))), (ta, .inl (aB g, N1, .inl (bf v)))]) [.ref m0, .ref sa, .int (nI p), .int (nI n), .ref ta, .int (nI to)] (fun r w1 => ∃ (d1 w2 : Nat → BW) (u1 : Nat → Nat), r = none ∧ w1 = [(m0, .inr (1, [.ref ms, .ref mw, .ref mf])), (ms, .inl (aI g, 8, .inl (wf d1))), (mw, .inl (aI g, 64, .inl (wf w2))), (mf, .inl (aB g, 32, .inl (bf u1))), (sa, .inl (aB g, N0, .inl (bf t))), (ta, .inl (aB g, N1, .inl (bf (putF v to 32 (nm (fun j => t (p + j)) n)))))] ∧ ∀ j, u1 j < 256) 0 0 := by
  refine j_ct (by decide) (Nat.le_of_ble_eq_true rfl) (fun κ hkl C hR hI => ?_)
  show j_V g κ 0 0 0 [(0, .ref m0), (1, .ref sa), (2, .int (nI p)), (3, .int (nI n)), (4, .ref ta), (5, .int (nI to))] [] ([(m0, .inr (1, [.ref ms, .ref mw, .ref mf])), (ms, .inl (aI g, 8, .inl (wf d))), (mw, .inl (aI g, 64, .inl (wf w))), (mf, .inl (aB g, 32, .inl (bf u))), (sa, .inl (aB g, N0, .inl (bf t))), (ta, .inl (aB g, N1, .inl (bf v)))])
  refine j_iload_n (pc := 0) C d_Nam_writeName_0 rfl 2 rfl ?_
  refine j_if_ltN (pc := 1) (tgt := 16) C (by omega) d_Nam_writeName_1 rfl ?_
  refine j_iload_n (pc := 4) C d_Nam_writeName_4 rfl 3 rfl ?_
  refine j_if_ltN (pc := 5) (tgt := 16) C (by omega) d_Nam_writeName_5 rfl ?_
  refine j_iload_n (pc := 8) C d_Nam_writeName_8 rfl 2 rfl ?_
  refine j_aload_n (pc := 9) C d_Nam_writeName_9 rfl 1 rfl ?_
  refine j_alen (pc := 10) (v := nI N0) C 4 0 rfl rfl rfl d_Nam_writeName_10 ?_
  refine j_iload_n (pc := 11) C d_Nam_writeName_11 rfl 3 rfl ?_
  refine j_isubN (pc := 12) C (by omega) d_Nam_writeName_12 ?_
  refine j_icmp_leN (pc := 13) (tgt := 17) C (by omega) (by omega) d_Nam_writeName_13 rfl (fun c13 => ?_) (fun c13 => ?_)
  · skip
    refine j_aload_n (pc := 17) C d_Nam_writeName_17 rfl 0 rfl ?_
    refine j_aload_n (pc := 18) C d_Nam_writeName_18 rfl 1 rfl ?_
    refine j_iload_n (pc := 19) C d_Nam_writeName_19 rfl 2 rfl ?_
    refine j_iload_n (pc := 20) C d_Nam_writeName_20 rfl 3 rfl ?_
    refine j_callV (pc := 21) (As := [.ref sa, .int (nI p), .int (nI n)]) (rest := []) (wc := [(m0, .inr (1, [.ref ms, .ref mw, .ref mf])), (ms, .inl (aI g, 8, .inl (wf d))), (mw, .inl (aI g, 64, .inl (wf w))), (sa, .inl (aB g, N0, .inl (bf t)))]) (wr := [(mf, .inl (aB g, 32, .inl (bf u))), (ta, .inl (aB g, N1, .inl (bf v)))]) C (c_Nam_digest (kl κ) g m0 ms mw mf sa N0 p n t d w (by omega) (hT) (by omega)) Y_Nam_digest ml_Nam_22 im_Nam_digest sl_Nam_digest rfl ⟨by decide, by decide⟩ rfl (ci := 1) (q0 := 0) rfl rfl rfl (Nat.le_of_ble_eq_true rfl) (j_sb [0, 1, 2, 4, 3, 5] rfl rfl) rfl d_Nam_writeName_21 (fun r w1 hO => ?_)
    obtain ⟨d1, w1, rfl, rfl, hd1⟩ := hO
    show j_V g κ 0 0 24 [(0, .ref m0), (1, .ref sa), (2, .int (nI p)), (3, .int (nI n)), (4, .ref ta), (5, .int (nI to))] [] ([(m0, .inr (1, [.ref ms, .ref mw, .ref mf])), (ms, .inl (aI g, 8, .inl (wf d1))), (mw, .inl (aI g, 64, .inl (wf w1))), (sa, .inl (aB g, N0, .inl (bf t))), (mf, .inl (aB g, 32, .inl (bf u))), (ta, .inl (aB g, N1, .inl (bf v)))])
    refine j_aload_n (pc := 24) C d_Nam_writeName_24 rfl 0 rfl ?_
    refine j_aload_n (pc := 25) C d_Nam_writeName_25 rfl 0 rfl ?_
    refine j_get (pc := 26) C F_Nam_18 0 rfl rfl d_Nam_writeName_26 ?_
    refine j_iconst (pc := 29) (v := nI 0) C d_Nam_writeName_29 (by decide) ?_
    refine j_callV (pc := 30) (As := [.ref mf, .int (nI 0)]) (rest := []) (wc := [(m0, .inr (1, [.ref ms, .ref mw, .ref mf])), (ms, .inl (aI g, 8, .inl (wf d1))), (mf, .inl (aB g, 32, .inl (bf u)))]) (wr := [(mw, .inl (aI g, 64, .inl (wf w1))), (sa, .inl (aB g, N0, .inl (bf t))), (ta, .inl (aB g, N1, .inl (bf v)))]) C (c_Nam_writeState (kl κ) g m0 ms mw mf mf 32 0 u d1 (by omega) (by omega)) Y_Nam_writeState ml_Nam_26 im_Nam_writeState sl_Nam_writeState rfl ⟨by decide, by decide⟩ rfl (ci := 1) (q0 := 0) rfl rfl rfl (Nat.le_of_ble_eq_true rfl) (j_sb [0, 1, 4, 2, 3, 5] rfl rfl) rfl d_Nam_writeName_30 (fun r w1 hO => ?_)
    obtain ⟨rfl, rfl⟩ := hO
    show j_V g κ 0 0 33 [(0, .ref m0), (1, .ref sa), (2, .int (nI p)), (3, .int (nI n)), (4, .ref ta), (5, .int (nI to))] [] ([(m0, .inr (1, [.ref ms, .ref mw, .ref mf])), (ms, .inl (aI g, 8, .inl (wf d1))), (mf, .inl (aB g, 32, .inl (bf (putF u 0 32 (wB d1))))), (mw, .inl (aI g, 64, .inl (wf w1))), (sa, .inl (aB g, N0, .inl (bf t))), (ta, .inl (aB g, N1, .inl (bf v)))])
    refine j_aload_n (pc := 33) C d_Nam_writeName_33 rfl 0 rfl ?_
    refine j_aload_n (pc := 34) C d_Nam_writeName_34 rfl 0 rfl ?_
    refine j_get (pc := 35) C F_Nam_18 0 rfl rfl d_Nam_writeName_35 ?_
    refine j_iconst (pc := 38) (v := nI 0) C d_Nam_writeName_38 (by decide) ?_
    refine j_bipush (pc := 39) (v := nI 32) C d_Nam_writeName_39 (by decide) ?_
    refine j_callV (pc := 41) (As := [.ref mf, .int (nI 0), .int (nI 32)]) (rest := []) (wc := [(m0, .inr (1, [.ref ms, .ref mw, .ref mf])), (ms, .inl (aI g, 8, .inl (wf d1))), (mw, .inl (aI g, 64, .inl (wf w1))), (mf, .inl (aB g, 32, .inl (bf (putF u 0 32 (wB d1)))))]) (wr := [(sa, .inl (aB g, N0, .inl (bf t))), (ta, .inl (aB g, N1, .inl (bf v)))]) C (c_Nam_digest (kl κ) g m0 ms mw mf mf 32 0 32 (putF u 0 32 (wB d1)) d1 w1 (by omega) (putF_lt hu (wB_lt d1)) (by omega)) Y_Nam_digest ml_Nam_22 im_Nam_digest sl_Nam_digest rfl ⟨by decide, by decide⟩ rfl (ci := 1) (q0 := 0) rfl rfl rfl (Nat.le_of_ble_eq_true rfl) (j_sb [0, 1, 3, 2, 4, 5] rfl rfl) rfl d_Nam_writeName_41 (fun r w1 hO => ?_)
    obtain ⟨d2, w2, rfl, rfl, hd2⟩ := hO
    show j_V g κ 0 0 44 [(0, .ref m0), (1, .ref sa), (2, .int (nI p)), (3, .int (nI n)), (4, .ref ta), (5, .int (nI to))] [] ([(m0, .inr (1, [.ref ms, .ref mw, .ref mf])), (ms, .inl (aI g, 8, .inl (wf d2))), (mw, .inl (aI g, 64, .inl (wf w2))), (mf, .inl (aB g, 32, .inl (bf (putF u 0 32 (wB d1))))), (sa, .inl (aB g, N0, .inl (bf t))), (ta, .inl (aB g, N1, .inl (bf v)))])
    refine j_aload_n (pc := 44) C d_Nam_writeName_44 rfl 0 rfl ?_
    refine j_aload (pc := 45) C d_Nam_writeName_45 4 rfl ?_
    refine j_iload (pc := 47) C d_Nam_writeName_47 5 rfl ?_
    refine j_callV (pc := 49) (As := [.ref ta, .int (nI to)]) (rest := []) (wc := [(m0, .inr (1, [.ref ms, .ref mw, .ref mf])), (ms, .inl (aI g, 8, .inl (wf d2))), (ta, .inl (aB g, N1, .inl (bf v)))]) (wr := [(mw, .inl (aI g, 64, .inl (wf w2))), (mf, .inl (aB g, 32, .inl (bf (putF u 0 32 (wB d1))))), (sa, .inl (aB g, N0, .inl (bf t)))]) C (c_Nam_writeState (kl κ) g m0 ms mw mf ta N1 to v d2 (by omega) (by omega)) Y_Nam_writeState ml_Nam_26 im_Nam_writeState sl_Nam_writeState rfl ⟨by decide, by decide⟩ rfl (ci := 1) (q0 := 0) rfl rfl rfl (Nat.le_of_ble_eq_true rfl) (j_sb [0, 1, 5, 2, 3, 4] rfl rfl) rfl d_Nam_writeName_49 (fun r w1 hO => ?_)
    obtain ⟨rfl, rfl⟩ := hO
    show j_V g κ 0 0 52 [(0, .ref m0), (1, .ref sa), (2, .int (nI p)), (3, .int (nI n)), (4, .ref ta), (5, .int (nI to))] [] ([(m0, .inr (1, [.ref ms, .ref mw, .ref mf])), (ms, .inl (aI g, 8, .inl (wf d2))), (ta, .inl (aB g, N1, .inl (bf (putF v to 32 (wB d2))))), (mw, .inl (aI g, 64, .inl (wf w2))), (mf, .inl (aB g, 32, .inl (bf (putF u 0 32 (wB d1))))), (sa, .inl (aB g, N0, .inl (bf t)))])
    refine j_sub (ws' := [(m0, .inr (1, [.ref ms, .ref mw, .ref mf])), (ms, .inl (aI g, 8, .inl (wf d2))), (mw, .inl (aI g, 64, .inl (wf w2))), (mf, .inl (aB g, 32, .inl (bf (putF u 0 32 (wB d1))))), (sa, .inl (aB g, N0, .inl (bf t))), (ta, .inl (aB g, N1, .inl (bf (putF v to 32 (wB d2)))))]) (j_sb [0, 1, 3, 4, 5, 2] rfl rfl) ?_
    exact hR.2.2 _ _ _ d_Nam_writeName_52 rfl (⟨d2, w2, putF u 0 32 (wB d1), rfl, by rw [putF_cg (nm_of hd1 hd2)], putF_lt hu (wB_lt d1)⟩)
  · skip
    exfalso; omega
set_option maxHeartbeats 4000000 in
set_option maxRecDepth 100000 in
theorem c_Nam_writeName_same (l : Launch) (g : JX) (m0 ms mw mf sa N0 p n to : Nat) (t u : Nat → Nat) (d w : Nat → BW) (hN : N0 ≤ 2000) (hT : ∀ j, t j < 256) (hu : ∀ j, u j < 256) (hp : p + n ≤ N0) (ht : to + 32 ≤ N0) : j_Ct l y_Nam_writeName b_Nam_writeName 6 none rm_Nam_writeName g ([(m0, .inr (1, [.ref ms, .ref mw, .ref mf])), (ms, .inl (aI g, 8, .inl (wf d))), (mw, .inl (aI g, 64, .inl (wf w))), (mf, .inl (aB g, 32, .inl (bf u))), (sa, .inl (aB g, N0, .inl (bf t)))]) [.ref m0, .ref sa, .int (nI p), .int (nI n), .ref sa, .int (nI to)] (fun r w1 => ∃ (d1 w2 : Nat → BW) (u1 : Nat → Nat), r = none ∧ w1 = [(m0, .inr (1, [.ref ms, .ref mw, .ref mf])), (ms, .inl (aI g, 8, .inl (wf d1))), (mw, .inl (aI g, 64, .inl (wf w2))), (mf, .inl (aB g, 32, .inl (bf u1))), (sa, .inl (aB g, N0, .inl (bf (putF t to 32 (nm (fun j => t (p + j)) n)))))] ∧ ∀ j, u1 j < 256) 0 0 := by
  refine j_ct (by decide) (Nat.le_of_ble_eq_true rfl) (fun κ hkl C hR hI => ?_)
  show j_V g κ 0 0 0 [(0, .ref m0), (1, .ref sa), (2, .int (nI p)), (3, .int (nI n)), (4, .ref sa), (5, .int (nI to))] [] ([(m0, .inr (1, [.ref ms, .ref mw, .ref mf])), (ms, .inl (aI g, 8, .inl (wf d))), (mw, .inl (aI g, 64, .inl (wf w))), (mf, .inl (aB g, 32, .inl (bf u))), (sa, .inl (aB g, N0, .inl (bf t)))])
  refine j_iload_n (pc := 0) C d_Nam_writeName_0 rfl 2 rfl ?_
  refine j_if_ltN (pc := 1) (tgt := 16) C (by omega) d_Nam_writeName_1 rfl ?_
  refine j_iload_n (pc := 4) C d_Nam_writeName_4 rfl 3 rfl ?_
  refine j_if_ltN (pc := 5) (tgt := 16) C (by omega) d_Nam_writeName_5 rfl ?_
  refine j_iload_n (pc := 8) C d_Nam_writeName_8 rfl 2 rfl ?_
  refine j_aload_n (pc := 9) C d_Nam_writeName_9 rfl 1 rfl ?_
  refine j_alen (pc := 10) (v := nI N0) C 4 0 rfl rfl rfl d_Nam_writeName_10 ?_
  refine j_iload_n (pc := 11) C d_Nam_writeName_11 rfl 3 rfl ?_
  refine j_isubN (pc := 12) C (by omega) d_Nam_writeName_12 ?_
  refine j_icmp_leN (pc := 13) (tgt := 17) C (by omega) (by omega) d_Nam_writeName_13 rfl (fun c13 => ?_) (fun c13 => ?_)
  · skip
    refine j_aload_n (pc := 17) C d_Nam_writeName_17 rfl 0 rfl ?_
    refine j_aload_n (pc := 18) C d_Nam_writeName_18 rfl 1 rfl ?_
    refine j_iload_n (pc := 19) C d_Nam_writeName_19 rfl 2 rfl ?_
    refine j_iload_n (pc := 20) C d_Nam_writeName_20 rfl 3 rfl ?_
    refine j_callV (pc := 21) (As := [.ref sa, .int (nI p), .int (nI n)]) (rest := []) (wc := [(m0, .inr (1, [.ref ms, .ref mw, .ref mf])), (ms, .inl (aI g, 8, .inl (wf d))), (mw, .inl (aI g, 64, .inl (wf w))), (sa, .inl (aB g, N0, .inl (bf t)))]) (wr := [(mf, .inl (aB g, 32, .inl (bf u)))]) C (c_Nam_digest (kl κ) g m0 ms mw mf sa N0 p n t d w (by omega) (hT) (by omega)) Y_Nam_digest ml_Nam_22 im_Nam_digest sl_Nam_digest rfl ⟨by decide, by decide⟩ rfl (ci := 1) (q0 := 0) rfl rfl rfl (Nat.le_of_ble_eq_true rfl) (j_sb [0, 1, 2, 4, 3] rfl rfl) rfl d_Nam_writeName_21 (fun r w1 hO => ?_)
    obtain ⟨d1, w1, rfl, rfl, hd1⟩ := hO
    show j_V g κ 0 0 24 [(0, .ref m0), (1, .ref sa), (2, .int (nI p)), (3, .int (nI n)), (4, .ref sa), (5, .int (nI to))] [] ([(m0, .inr (1, [.ref ms, .ref mw, .ref mf])), (ms, .inl (aI g, 8, .inl (wf d1))), (mw, .inl (aI g, 64, .inl (wf w1))), (sa, .inl (aB g, N0, .inl (bf t))), (mf, .inl (aB g, 32, .inl (bf u)))])
    refine j_aload_n (pc := 24) C d_Nam_writeName_24 rfl 0 rfl ?_
    refine j_aload_n (pc := 25) C d_Nam_writeName_25 rfl 0 rfl ?_
    refine j_get (pc := 26) C F_Nam_18 0 rfl rfl d_Nam_writeName_26 ?_
    refine j_iconst (pc := 29) (v := nI 0) C d_Nam_writeName_29 (by decide) ?_
    refine j_callV (pc := 30) (As := [.ref mf, .int (nI 0)]) (rest := []) (wc := [(m0, .inr (1, [.ref ms, .ref mw, .ref mf])), (ms, .inl (aI g, 8, .inl (wf d1))), (mf, .inl (aB g, 32, .inl (bf u)))]) (wr := [(mw, .inl (aI g, 64, .inl (wf w1))), (sa, .inl (aB g, N0, .inl (bf t)))]) C (c_Nam_writeState (kl κ) g m0 ms mw mf mf 32 0 u d1 (by omega) (by omega)) Y_Nam_writeState ml_Nam_26 im_Nam_writeState sl_Nam_writeState rfl ⟨by decide, by decide⟩ rfl (ci := 1) (q0 := 0) rfl rfl rfl (Nat.le_of_ble_eq_true rfl) (j_sb [0, 1, 4, 2, 3] rfl rfl) rfl d_Nam_writeName_30 (fun r w1 hO => ?_)
    obtain ⟨rfl, rfl⟩ := hO
    show j_V g κ 0 0 33 [(0, .ref m0), (1, .ref sa), (2, .int (nI p)), (3, .int (nI n)), (4, .ref sa), (5, .int (nI to))] [] ([(m0, .inr (1, [.ref ms, .ref mw, .ref mf])), (ms, .inl (aI g, 8, .inl (wf d1))), (mf, .inl (aB g, 32, .inl (bf (putF u 0 32 (wB d1))))), (mw, .inl (aI g, 64, .inl (wf w1))), (sa, .inl (aB g, N0, .inl (bf t)))])
    refine j_aload_n (pc := 33) C d_Nam_writeName_33 rfl 0 rfl ?_
    refine j_aload_n (pc := 34) C d_Nam_writeName_34 rfl 0 rfl ?_
    refine j_get (pc := 35) C F_Nam_18 0 rfl rfl d_Nam_writeName_35 ?_
    refine j_iconst (pc := 38) (v := nI 0) C d_Nam_writeName_38 (by decide) ?_
    refine j_bipush (pc := 39) (v := nI 32) C d_Nam_writeName_39 (by decide) ?_
    refine j_callV (pc := 41) (As := [.ref mf, .int (nI 0), .int (nI 32)]) (rest := []) (wc := [(m0, .inr (1, [.ref ms, .ref mw, .ref mf])), (ms, .inl (aI g, 8, .inl (wf d1))), (mw, .inl (aI g, 64, .inl (wf w1))), (mf, .inl (aB g, 32, .inl (bf (putF u 0 32 (wB d1)))))]) (wr := [(sa, .inl (aB g, N0, .inl (bf t)))]) C (c_Nam_digest (kl κ) g m0 ms mw mf mf 32 0 32 (putF u 0 32 (wB d1)) d1 w1 (by omega) (putF_lt hu (wB_lt d1)) (by omega)) Y_Nam_digest ml_Nam_22 im_Nam_digest sl_Nam_digest rfl ⟨by decide, by decide⟩ rfl (ci := 1) (q0 := 0) rfl rfl rfl (Nat.le_of_ble_eq_true rfl) (j_sb [0, 1, 3, 2, 4] rfl rfl) rfl d_Nam_writeName_41 (fun r w1 hO => ?_)
    obtain ⟨d2, w2, rfl, rfl, hd2⟩ := hO
    show j_V g κ 0 0 44 [(0, .ref m0), (1, .ref sa), (2, .int (nI p)), (3, .int (nI n)), (4, .ref sa), (5, .int (nI to))] [] ([(m0, .inr (1, [.ref ms, .ref mw, .ref mf])), (ms, .inl (aI g, 8, .inl (wf d2))), (mw, .inl (aI g, 64, .inl (wf w2))), (mf, .inl (aB g, 32, .inl (bf (putF u 0 32 (wB d1))))), (sa, .inl (aB g, N0, .inl (bf t)))])
    refine j_aload_n (pc := 44) C d_Nam_writeName_44 rfl 0 rfl ?_
    refine j_aload (pc := 45) C d_Nam_writeName_45 4 rfl ?_
    refine j_iload (pc := 47) C d_Nam_writeName_47 5 rfl ?_
    refine j_callV (pc := 49) (As := [.ref sa, .int (nI to)]) (rest := []) (wc := [(m0, .inr (1, [.ref ms, .ref mw, .ref mf])), (ms, .inl (aI g, 8, .inl (wf d2))), (sa, .inl (aB g, N0, .inl (bf t)))]) (wr := [(mw, .inl (aI g, 64, .inl (wf w2))), (mf, .inl (aB g, 32, .inl (bf (putF u 0 32 (wB d1)))))]) C (c_Nam_writeState (kl κ) g m0 ms mw mf sa N0 to t d2 (by omega) (by omega)) Y_Nam_writeState ml_Nam_26 im_Nam_writeState sl_Nam_writeState rfl ⟨by decide, by decide⟩ rfl (ci := 1) (q0 := 0) rfl rfl rfl (Nat.le_of_ble_eq_true rfl) (j_sb [0, 1, 4, 2, 3] rfl rfl) rfl d_Nam_writeName_49 (fun r w1 hO => ?_)
    obtain ⟨rfl, rfl⟩ := hO
    show j_V g κ 0 0 52 [(0, .ref m0), (1, .ref sa), (2, .int (nI p)), (3, .int (nI n)), (4, .ref sa), (5, .int (nI to))] [] ([(m0, .inr (1, [.ref ms, .ref mw, .ref mf])), (ms, .inl (aI g, 8, .inl (wf d2))), (sa, .inl (aB g, N0, .inl (bf (putF t to 32 (wB d2))))), (mw, .inl (aI g, 64, .inl (wf w2))), (mf, .inl (aB g, 32, .inl (bf (putF u 0 32 (wB d1)))))])
    refine j_sub (ws' := [(m0, .inr (1, [.ref ms, .ref mw, .ref mf])), (ms, .inl (aI g, 8, .inl (wf d2))), (mw, .inl (aI g, 64, .inl (wf w2))), (mf, .inl (aB g, 32, .inl (bf (putF u 0 32 (wB d1))))), (sa, .inl (aB g, N0, .inl (bf (putF t to 32 (wB d2)))))]) (j_sb [0, 1, 3, 4, 2] rfl rfl) ?_
    exact hR.2.2 _ _ _ d_Nam_writeName_52 rfl (⟨d2, w2, putF u 0 32 (wB d1), rfl, by rw [putF_cg (nm_of hd1 hd2)], putF_lt hu (wB_lt d1)⟩)
  · skip
    exfalso; omega
abbrev rm_Nam_init : Room := { frames := 1, cells := 3, slots := 104, locals := 20 }
set_option maxHeartbeats 4000000 in
set_option maxRecDepth 100000 in
theorem c_Nam_init (l : Launch) (g : JX) (m0 : Nat)  : j_Ct l y_Nam_init b_Nam_init 1 none rm_Nam_init g ([(m0, .inr (1, [.null, .null, .null]))]) [.ref m0] (fun r w1 => ∃ ms mw mf : Nat, r = none ∧ w1 = [(m0, .inr (1, [.ref ms, .ref mw, .ref mf])), (ms, .inl (aI g, 8, .inl (wf (fun _ => 0)))), (mw, .inl (aI g, 64, .inl (wf (fun _ => 0)))), (mf, .inl (aB g, 32, .inl (bf (fun _ => 0))))]) 3 104 := by
  refine j_ct (by decide) (Nat.le_of_ble_eq_true rfl) (fun κ hkl C hR hI => ?_)
  show j_V g κ 0 0 0 [(0, .ref m0)] [] ([(m0, .inr (1, [.null, .null, .null]))])
  refine j_aload_n (pc := 0) C d_Nam_init_0 rfl 0 rfl ?_
  refine j_objInit (pc := 1) C oi_Nam_3 oi_i oi_c (by decide) (Nat.le_of_ble_eq_true rfl) d_Nam_init_1 ?_
  refine j_aload_n (pc := 4) C d_Nam_init_4 rfl 0 rfl ?_
  refine j_bipush (pc := 5) (v := nI 8) C d_Nam_init_5 (by decide) ?_
  refine j_newa (pc := 7) (atype := .int) (a0 := (8, .inl (nf (fun _ => 0)))) C ac_int rfl (by intro c h; cases h) 1 rfl (fun _ => rfl) (by decide) (by decide) (by decide) (by decide) (by decide) d_Nam_init_7 (fun ms => ?_)
  show j_V g κ 1 8 9 [(0, .ref m0)] [.ref ms, .ref m0] ([(m0, .inr (1, [.null, .null, .null])), (ms, .inl (aI g, 8, .inl (nf (fun _ => 0))))])
  refine j_putF (pc := 9) (ws' := [(m0, .inr (1, [.ref ms, .null, .null])), (ms, .inl (aI g, 8, .inl (nf (fun _ => 0))))]) C hI Fp_Nam_9 0 rfl rfl (by first | rfl | decide) (Nat.le_of_ble_eq_true rfl) rfl d_Nam_init_9 ?_
  refine j_aload_n (pc := 12) C d_Nam_init_12 rfl 0 rfl ?_
  refine j_bipush (pc := 13) (v := nI 64) C d_Nam_init_13 (by decide) ?_
  refine j_newa (pc := 15) (atype := .int) (a0 := (64, .inl (nf (fun _ => 0)))) C ac_int rfl (by intro c h; cases h) 1 rfl (fun _ => rfl) (by decide) (by decide) (by decide) (by decide) (by decide) d_Nam_init_15 (fun mw => ?_)
  show j_V g κ 2 72 17 [(0, .ref m0)] [.ref mw, .ref m0] ([(m0, .inr (1, [.ref ms, .null, .null])), (ms, .inl (aI g, 8, .inl (nf (fun _ => 0)))), (mw, .inl (aI g, 64, .inl (nf (fun _ => 0))))])
  refine j_putF (pc := 17) (ws' := [(m0, .inr (1, [.ref ms, .ref mw, .null])), (ms, .inl (aI g, 8, .inl (nf (fun _ => 0)))), (mw, .inl (aI g, 64, .inl (nf (fun _ => 0))))]) C hI Fp_Nam_15 0 rfl rfl (by first | rfl | decide) (Nat.le_of_ble_eq_true rfl) rfl d_Nam_init_17 ?_
  refine j_aload_n (pc := 20) C d_Nam_init_20 rfl 0 rfl ?_
  refine j_bipush (pc := 21) (v := nI 32) C d_Nam_init_21 (by decide) ?_
  refine j_newa (pc := 23) (atype := .byte) (a0 := (32, .inl (bf (fun _ => 0)))) C ac_byte rfl (by intro c h; cases h) 0 rfl (fun _ => rfl) (by decide) (by decide) (by decide) (by decide) (by decide) d_Nam_init_23 (fun mf => ?_)
  show j_V g κ 3 104 25 [(0, .ref m0)] [.ref mf, .ref m0] ([(m0, .inr (1, [.ref ms, .ref mw, .null])), (ms, .inl (aI g, 8, .inl (nf (fun _ => 0)))), (mw, .inl (aI g, 64, .inl (nf (fun _ => 0)))), (mf, .inl (aB g, 32, .inl (bf (fun _ => 0))))])
  refine j_putF (pc := 25) (ws' := [(m0, .inr (1, [.ref ms, .ref mw, .ref mf])), (ms, .inl (aI g, 8, .inl (nf (fun _ => 0)))), (mw, .inl (aI g, 64, .inl (nf (fun _ => 0)))), (mf, .inl (aB g, 32, .inl (bf (fun _ => 0))))]) C hI Fp_Nam_18 0 rfl rfl (by first | rfl | decide) (Nat.le_of_ble_eq_true rfl) rfl d_Nam_init_25 ?_
  exact hR.2.2 _ _ _ d_Nam_init_28 rfl (⟨ms, mw, mf, rfl, rfl⟩)
end
section
/-! a row of names, put together -/
def b2 (b : Bool) : Int32 := if b = true then 1 else 0
theorem sb_inj {a b : Nat} (ha : a < 256) (hb : b < 256) : sb_b a = sb_b b ↔ a = b := by
  constructor
  · intro h
    have h1 := sb_and ha
    rw [h, sb_and hb] at h1
    exact ((nI_eq (by omega) (by omega)).mp h1).symm
  · intro h; rw [h]
def alk (c : Nat → Nat) (q : Nat) : Bool := (List.range 32).all (fun k => decide (c (q * 32 + k) = c (q * 32 + 32 + k)))
theorem alk_iff {c : Nat → Nat} {q : Nat} : alk c q = true ↔ ∀ k, k < 32 → c (q * 32 + k) = c (q * 32 + 32 + k) := by
  unfold alk
  rw [List.all_eq_true]
  constructor
  · intro h k hk; exact of_decide_eq_true (h k (List.mem_range.mpr hk))
  · intro h k hk; exact decide_eq_true (h k (List.mem_range.mp hk))
theorem alk_cg {c r : Nat → Nat} {q : Nat} (h : ∀ k, k < 64 → c (q * 32 + k) = r (q * 32 + k)) : alk c q = alk r q := by
  have e : alk c q = true ↔ alk r q = true := by
    rw [alk_iff, alk_iff]
    constructor
    · intro z k hk; have a := z k hk; rw [h k (by omega), Nat.add_assoc, h (32 + k) (by omega), ← Nat.add_assoc] at a; exact a
    · intro z k hk; have a := z k hk; rw [h k (by omega), Nat.add_assoc, h (32 + k) (by omega), ← Nat.add_assoc]; exact a
  cases h1 : alk c q <;> cases h2 : alk r q <;> first | rfl | (rw [h1, h2] at e; exact absurd e (by decide))
def pr (r : Nat → Nat) (n p : Nat) : Nat → Nat := fun k => if k < 32 then r (2 * p * 32 + k) else r ((if 2 * p + 1 < n then 2 * p + 1 else 2 * p) * 32 + (k - 32))
def lvl (n : Nat) (r : Nat → Nat) : Nat → Nat := fun j => if j < 32 * ((n + 1) / 2) then nm (pr r n (j / 32)) 64 (j % 32) else r j
theorem nm_lt (t : Nat → Nat) (n j : Nat) : nm t n j < 256 := wB_lt _ _
theorem pr_cg {r r' : Nat → Nat} {n p : Nat} (hp : p < (n + 1) / 2) (h : ∀ j, j < 32 * n → r j = r' j) : ∀ k, k < 64 → pr r n p k = pr r' n p k := by
  intro k hk
  unfold pr
  by_cases c : k < 32
  · rw [if_pos c, if_pos c]; exact h _ (by omega)
  · rw [if_neg c, if_neg c]
    by_cases c2 : 2 * p + 1 < n
    · rw [if_pos c2]; exact h _ (by omega)
    · rw [if_neg c2]; exact h _ (by omega)
theorem lvl_cg {r r' : Nat → Nat} {n : Nat} (h : ∀ j, j < 32 * n → r j = r' j) : ∀ j, j < 32 * ((n + 1) / 2) → lvl n r j = lvl n r' j := by
  intro j hj
  unfold lvl
  rw [if_pos hj, if_pos hj, nm_cg (pr_cg (by omega) h)]
def rwN (n : Nat) (r : Nat → Nat) : Nat → Nat := if 1 < n then rwN ((n + 1) / 2) (lvl n r) else r
termination_by n
decreasing_by omega
theorem rwN_1 {n : Nat} {r : Nat → Nat} (h : n ≤ 1) : rwN n r = r := by rw [rwN, if_neg (by omega)]
theorem rwN_s {n : Nat} {r : Nat → Nat} (h : 1 < n) : rwN n r = rwN ((n + 1) / 2) (lvl n r) := by rw [rwN, if_pos h]
theorem rwN_cg : ∀ (n : Nat) {r r' : Nat → Nat}, 0 < n → (∀ j, j < 32 * n → r j = r' j) → ∀ j, j < 32 → rwN n r j = rwN n r' j := by
  intro n
  induction n using Nat.strongRecOn with
  | _ n ih =>
    intro r r' h0 h j hj
    by_cases c : 1 < n
    · rw [rwN_s c, rwN_s c]
      exact ih ((n + 1) / 2) (by omega) (by omega) (lvl_cg h) j hj
    · rw [rwN_1 (by omega), rwN_1 (by omega)]
      exact h j (by omega)
def dbq (n : Nat) (r : Nat → Nat) : Nat → Bool
  | 0 => false
  | p + 1 => dbq n r p || (decide (2 * p + 1 < n) && alk r (2 * p))
def dbT (n : Nat) (r : Nat → Nat) : Bool := if 1 < n then dbq n r ((n + 1) / 2) || dbT ((n + 1) / 2) (lvl n r) else false
termination_by n
decreasing_by omega
theorem dbT_1 {n : Nat} {r : Nat → Nat} (h : n ≤ 1) : dbT n r = false := by rw [dbT, if_neg (by omega)]
theorem dbT_s {n : Nat} {r : Nat → Nat} (h : 1 < n) : dbT n r = (dbq n r ((n + 1) / 2) || dbT ((n + 1) / 2) (lvl n r)) := by rw [dbT, if_pos h]
theorem dbq_cg {n : Nat} {r r' : Nat → Nat} (h : ∀ j, j < 32 * n → r j = r' j) : ∀ p, dbq n r p = dbq n r' p
  | 0 => rfl
  | p + 1 => by
    show (dbq n r p || (decide (2 * p + 1 < n) && alk r (2 * p))) = (dbq n r' p || (decide (2 * p + 1 < n) && alk r' (2 * p)))
    rw [dbq_cg h p]
    by_cases c : 2 * p + 1 < n
    · rw [alk_cg (r := r') (fun k hk => h _ (by omega))]
    · rw [decide_eq_false c]; rfl
theorem dbT_cg : ∀ (n : Nat) {r r' : Nat → Nat}, (∀ j, j < 32 * n → r j = r' j) → dbT n r = dbT n r' := by
  intro n
  induction n using Nat.strongRecOn with
  | _ n ih =>
    intro r r' h
    by_cases c : 1 < n
    · rw [dbT_s c, dbT_s c, dbq_cg h, ih ((n + 1) / 2) (by omega) (lvl_cg h)]
    · rw [dbT_1 (by omega), dbT_1 (by omega)]
/-- while a row's pairs are put together -/
def RInv (n : Nat) (r : Nat → Nat) (p : Nat) (c : Nat → Nat) : Prop := (∀ j, j < 32 * p → c j = lvl n r j) ∧ (2 * p ≤ n → ∀ j, 32 * p ≤ j → j < 32 * n → c j = r j) ∧ ∀ j, c j < 256
theorem putF_lo {t : Nat → Nat} {n m : Nat} {s : Nat → Nat} {j : Nat} (h : j < n) : putF t n m s j = t j := by unfold putF; rw [if_neg (by omega)]
theorem putF_hi {t : Nat → Nat} {n m : Nat} {s : Nat → Nat} {j : Nat} (h : n + m ≤ j) : putF t n m s j = t j := by unfold putF; rw [if_neg (by omega)]
theorem lvl_in {n : Nat} {r : Nat → Nat} {p k : Nat} (hp : p < (n + 1) / 2) (hk : k < 32) : lvl n r (p * 32 + k) = nm (pr r n p) 64 k := by
  unfold lvl
  rw [if_pos (by omega), show (p * 32 + k) / 32 = p by omega, show (p * 32 + k) % 32 = k by omega]
theorem RInv_put {n : Nat} {r : Nat → Nat} {p : Nat} {c c1 : Nat → Nat} (hp : p < (n + 1) / 2) (h : RInv n r p c) (h1 : ∀ j, j < 64 → c1 (2 * p * 32 + j) = pr r n p j) (h2 : ∀ j, j < 32 * p → c1 j = c j) (h3 : 2 * (p + 1) ≤ n → ∀ j, c1 j = c j) (h4 : ∀ j, c1 j < 256) : RInv n r (p + 1) (putF c1 (p * 32) 32 (nm (fun j => c1 (2 * p * 32 + j)) 64)) := by
  refine ⟨fun j hj => ?_, fun hn j hj hj2 => ?_, putF_lt h4 (fun _ => nm_lt _ _ _)⟩
  · by_cases e : j < 32 * p
    · rw [putF_lo (by omega), h2 j e]; exact h.1 j e
    · obtain ⟨k, hk, rfl⟩ : ∃ k, k < 32 ∧ j = p * 32 + k := ⟨j - p * 32, by omega, by omega⟩
      rw [putF_at hk, lvl_in hp hk, nm_cg h1]
  · rw [putF_hi (by omega), h3 hn]; exact h.2.1 (by omega) j (by omega) hj2
theorem RInv_two {n : Nat} {r : Nat → Nat} {p : Nat} {c : Nat → Nat} (hp : 2 * p + 1 < n) (h : RInv n r p c) : RInv n r (p + 1) (putF c (p * 32) 32 (nm (fun j => c (2 * p * 32 + j)) 64)) := by
  refine RInv_put (by omega) h (fun j hj => ?_) (fun _ _ => rfl) (fun _ _ => rfl) h.2.2
  unfold pr
  by_cases c1 : j < 32
  · rw [if_pos c1]; exact h.2.1 (by omega) _ (by omega) (by omega)
  · rw [if_neg c1, if_pos hp, h.2.1 (by omega) _ (by omega) (by omega)]
    congr 1; omega
theorem RInv_one {n : Nat} {r : Nat → Nat} {p : Nat} {c : Nat → Nat} (hp : 2 * p + 1 = n) (h : RInv n r p c) : RInv n r (p + 1) (putF (putF c (2 * p * 32 + 32) 32 (fun k => c (2 * p * 32 + k))) (p * 32) 32 (nm (fun j => putF c (2 * p * 32 + 32) 32 (fun k => c (2 * p * 32 + k)) (2 * p * 32 + j)) 64)) := by
  refine RInv_put (by omega) h (fun j hj => ?_) (fun j hj => putF_lo (by omega)) (fun hn => absurd hn (by omega)) (putF_lt h.2.2 (fun _ => h.2.2 _))
  unfold pr
  by_cases c1 : j < 32
  · rw [if_pos c1, putF_lo (by omega)]; exact h.2.1 (by omega) _ (by omega) (by omega)
  · rw [if_neg c1, if_neg (by omega)]
    obtain ⟨k, hk, rfl⟩ : ∃ k, k < 32 ∧ j = 32 + k := ⟨j - 32, by omega, by omega⟩
    rw [← Nat.add_assoc, putF_at hk, h.2.1 (by omega) _ (by omega) (by omega)]
    congr 1; omega
theorem b2_t {b : Bool} (h : b = true) : b2 b = nI 1 := by rw [h]; rfl
theorem b2_f {b : Bool} (h : b = false) : b2 b = nI 0 := by rw [h]; rfl
theorem cpT_lt {f f0 : Nat → Nat} {i : Nat} (h1 : ∀ j, f j < 256) (h2 : ∀ j, f0 j < 256) : ∀ j, cpT f f0 i j < 256 := by
  intro j; unfold cpT; split
  · exact h1 j
  · exact h2 j
end
section
abbrev rm_Row_alike : Room := { frames := 0, cells := 0, slots := 0, locals := 0 }
set_option maxHeartbeats 4000000 in
set_option maxRecDepth 100000 in
theorem lp_al {g : JX} {κ : JK} {w0 nr q : Nat} {c : Nat → Nat} {x : Int32} (hc : ∀ j, c j < 256) (hq : q * 32 + 64 ≤ 384) (C : j_C g κ b_Row_alike R_Row rm_Row_alike 4) (hR : j_R g κ b_Row_alike (some .boolean) (fun r w1 => r = some (.int (if alk c q = true then (1 : Int32) else 0)) ∧ w1 = [(w0, .inr (0, [.ref nr, .int x])), (nr, .inl (aB g, 384, .inl (bf c)))]) 0 0) : ∀ (k : Nat) (i : Nat), i ≤ 32 → 33 ≤ i + k → (∀ j, j < i → c (q * 32 + j) = c (q * 32 + 32 + j)) → j_V g κ 0 0 25 [(0, .ref w0), (1, .int (nI q)), (2, .int (nI (q * 32))), (3, .int (nI i))] [] ([(w0, .inr (0, [.ref nr, .int x])), (nr, .inl (aB g, 384, .inl (bf c)))]) := by
  intro k
  induction k with
  | zero =>
    intro i hi hk hall
    exfalso; omega
  | succ k ih =>
    intro i hi hk hall
    refine j_iload_n (pc := 25) C d_Row_alike_25 rfl 3 rfl ?_
    refine j_bipush (pc := 26) (v := nI 32) C d_Row_alike_26 (by decide) ?_
    refine j_icmp_geN (pc := 28) (tgt := 61) C (by omega) (by omega) d_Row_alike_28 rfl (fun c28 => ?_) (fun c28 => ?_)
    · skip
      refine j_iconst (pc := 61) (v := nI 1) C d_Row_alike_61 (by decide) ?_
      exact hR.1 _ _ _ _ d_Row_alike_62 ⟨_, rfl, by first | rfl | decide⟩ (⟨by first | rw [if_neg e50]; rfl | rw [if_pos (alk_iff.mpr (fun j hj => hall j (by omega)))]; rfl, rfl⟩)
    · skip
      refine j_aload_n (pc := 31) C d_Row_alike_31 rfl 0 rfl ?_
      refine j_get (pc := 32) C F_Row_9 0 rfl rfl d_Row_alike_32 ?_
      refine j_iload_n (pc := 35) C d_Row_alike_35 rfl 2 rfl ?_
      refine j_iload_n (pc := 36) C d_Row_alike_36 rfl 3 rfl ?_
      refine j_iaddN (pc := 37) C d_Row_alike_37 ?_
      refine j_baldN (pc := 38) C 1 0 rfl rfl (by omega) (by omega) d_Row_alike_38 ?_
      refine j_aload_n (pc := 39) C d_Row_alike_39 rfl 0 rfl ?_
      refine j_get (pc := 40) C F_Row_9 0 rfl rfl d_Row_alike_40 ?_
      refine j_iload_n (pc := 43) C d_Row_alike_43 rfl 2 rfl ?_
      refine j_bipush (pc := 44) (v := nI 32) C d_Row_alike_44 (by decide) ?_
      refine j_iaddN (pc := 46) C d_Row_alike_46 ?_
      refine j_iload_n (pc := 47) C d_Row_alike_47 rfl 3 rfl ?_
      refine j_iaddN (pc := 48) C d_Row_alike_48 ?_
      refine j_baldN (pc := 49) C 1 0 rfl rfl (by omega) (by omega) d_Row_alike_49 ?_
      refine j_icmp_eq (pc := 50) (tgt := 55) C d_Row_alike_50 rfl (fun c50 => ?_) (fun c50 => ?_)
      · skip
        have e50 := (sb_inj (hc _) (hc _)).mp c50
        refine j_iinc (pc := 55) (k := 3) (v := nI (i + 1)) (lv' := [(3, .int (nI (i + 1))), (0, .ref w0), (1, .int (nI q)), (2, .int (nI (q * 32)))]) C d_Row_alike_55 rfl (j_inc _ _) (by decide) rfl ?_
        refine j_goto (pc := 58) (tgt := 25) C d_Row_alike_58 rfl ?_
        refine j_lv (lv' := [(0, .ref w0), (1, .int (nI q)), (2, .int (nI (q * 32))), (3, .int (nI (i + 1)))]) [1, 2, 3, 0] rfl ?_
        exact ih (i + 1) (by omega) (by omega) (fun j hj => if e : j = i then (by subst e; exact e50) else hall j (by omega))
      · skip
        have e50 : ¬ alk c q = true := fun h => c50 ((sb_inj (hc _) (hc _)).mpr (alk_iff.mp h i (by omega)))
        refine j_iconst (pc := 53) (v := nI 0) C d_Row_alike_53 (by decide) ?_
        exact hR.1 _ _ _ _ d_Row_alike_54 ⟨_, rfl, by first | rfl | decide⟩ (⟨by first | rw [if_neg e50]; rfl | rw [if_pos (alk_iff.mpr (fun j hj => hall j (by omega)))]; rfl, rfl⟩)
set_option maxHeartbeats 4000000 in
set_option maxRecDepth 100000 in
theorem c_Row_alike (l : Launch) (g : JX) (w0 nr q : Nat) (c : Nat → Nat) (x : Int32) (hc : ∀ j, c j < 256) (hq : q * 32 + 64 ≤ 384) : j_Ct l y_Row_alike b_Row_alike 4 (some .boolean) rm_Row_alike g ([(w0, .inr (0, [.ref nr, .int x])), (nr, .inl (aB g, 384, .inl (bf c)))]) [.ref w0, .int (nI q)] (fun r w1 => r = some (.int (if alk c q = true then (1 : Int32) else 0)) ∧ w1 = [(w0, .inr (0, [.ref nr, .int x])), (nr, .inl (aB g, 384, .inl (bf c)))]) 0 0 := by
  refine j_ct (by decide) (Nat.le_of_ble_eq_true rfl) (fun κ hkl C hR hI => ?_)
  show j_V g κ 0 0 0 [(0, .ref w0), (1, .int (nI q))] [] ([(w0, .inr (0, [.ref nr, .int x])), (nr, .inl (aB g, 384, .inl (bf c)))])
  refine j_iload_n (pc := 0) C d_Row_alike_0 rfl 1 rfl ?_
  refine j_bipush (pc := 1) (v := nI 32) C d_Row_alike_1 (by decide) ?_
  refine j_imulN (pc := 3) C d_Row_alike_3 ?_
  refine j_istore_n (pc := 4) (lv' := [(2, .int (nI (q * 32))), (0, .ref w0), (1, .int (nI q))]) C d_Row_alike_4 rfl (by decide) rfl ?_
  refine j_iload_n (pc := 5) C d_Row_alike_5 rfl 0 rfl ?_
  refine j_if_ltN (pc := 6) (tgt := 21) C (by omega) d_Row_alike_6 rfl ?_
  refine j_iload_n (pc := 9) C d_Row_alike_9 rfl 0 rfl ?_
  refine j_aload_n (pc := 10) C d_Row_alike_10 rfl 1 rfl ?_
  refine j_get (pc := 11) C F_Row_9 0 rfl rfl d_Row_alike_11 ?_
  refine j_alen (pc := 14) (v := nI 384) C 1 0 rfl rfl rfl d_Row_alike_14 ?_
  refine j_bipush (pc := 15) (v := nI 64) C d_Row_alike_15 (by decide) ?_
  refine j_isubN (pc := 17) C (by omega) d_Row_alike_17 ?_
  refine j_icmp_leN (pc := 18) (tgt := 23) C (by omega) (by omega) d_Row_alike_18 rfl (fun c18 => ?_) (fun c18 => ?_)
  · skip
    refine j_iconst (pc := 23) (v := nI 0) C d_Row_alike_23 (by decide) ?_
    refine j_istore_n (pc := 24) (lv' := [(3, .int (nI 0)), (2, .int (nI (q * 32))), (0, .ref w0), (1, .int (nI q))]) C d_Row_alike_24 rfl (by decide) rfl ?_
    refine j_lv (lv' := [(0, .ref w0), (1, .int (nI q)), (2, .int (nI (q * 32))), (3, .int (nI 0))]) [2, 3, 1, 0] rfl ?_
    exact lp_al (w0 := w0) (nr := nr) (q := q) (c := c) (x := x) hc hq C hR 33 0 (by omega) (by omega) (fun j hj => absurd hj (by omega))
  · skip
    exfalso; omega
abbrev rm_Row_repeat : Room := { frames := 0, cells := 0, slots := 0, locals := 0 }
set_option maxHeartbeats 4000000 in
set_option maxRecDepth 100000 in
theorem lp_rp {g : JX} {κ : JK} {w0 nr q : Nat} {c : Nat → Nat} {x : Int32} (hq : q * 32 + 64 ≤ 384) (C : j_C g κ b_Row_repeat R_Row rm_Row_repeat 4) (hR : j_R g κ b_Row_repeat none (fun r w1 => r = none ∧ w1 = [(w0, .inr (0, [.ref nr, .int x])), (nr, .inl (aB g, 384, .inl (bf (putF c (q * 32 + 32) 32 (fun k => c (q * 32 + k))))))]) 0 0) : ∀ (k : Nat) (i : Nat), i ≤ 32 → 33 ≤ i + k → j_V g κ 0 0 24 [(0, .ref w0), (1, .int (nI q)), (2, .int (nI (q * 32))), (3, .int (nI i))] [] ([(w0, .inr (0, [.ref nr, .int x])), (nr, .inl (aB g, 384, .inl (bf (putF c (q * 32 + 32) i (fun k => c (q * 32 + k))))))]) := by
  intro k
  induction k with
  | zero =>
    intro i hi hk
    exfalso; omega
  | succ k ih =>
    intro i hi hk
    refine j_iload_n (pc := 24) C d_Row_repeat_24 rfl 3 rfl ?_
    refine j_bipush (pc := 25) (v := nI 32) C d_Row_repeat_25 (by decide) ?_
    refine j_icmp_geN (pc := 27) (tgt := 55) C (by omega) (by omega) d_Row_repeat_27 rfl (fun c27 => ?_) (fun c27 => ?_)
    · skip
      exact hR.2.2 _ _ _ d_Row_repeat_55 rfl (⟨rfl, by rw [show i = 32 by omega]⟩)
    · skip
      refine j_aload_n (pc := 30) C d_Row_repeat_30 rfl 0 rfl ?_
      refine j_get (pc := 31) C F_Row_9 0 rfl rfl d_Row_repeat_31 ?_
      refine j_iload_n (pc := 34) C d_Row_repeat_34 rfl 2 rfl ?_
      refine j_bipush (pc := 35) (v := nI 32) C d_Row_repeat_35 (by decide) ?_
      refine j_iaddN (pc := 37) C d_Row_repeat_37 ?_
      refine j_iload_n (pc := 38) C d_Row_repeat_38 rfl 3 rfl ?_
      refine j_iaddN (pc := 39) C d_Row_repeat_39 ?_
      refine j_aload_n (pc := 40) C d_Row_repeat_40 rfl 0 rfl ?_
      refine j_get (pc := 41) C F_Row_9 0 rfl rfl d_Row_repeat_41 ?_
      refine j_iload_n (pc := 44) C d_Row_repeat_44 rfl 2 rfl ?_
      refine j_iload_n (pc := 45) C d_Row_repeat_45 rfl 3 rfl ?_
      refine j_iaddN (pc := 46) C d_Row_repeat_46 ?_
      refine j_baldN (pc := 47) C 1 0 rfl rfl (by omega) (by omega) d_Row_repeat_47 ?_
      refine j_rwi (y := sb_b (c (q * 32 + i))) (by show sb_b _ = _; rw [putF_lo (by omega)]) ?_
      refine j_bastB (pc := 48) (ws' := [(w0, .inr (0, [.ref nr, .int x])), (nr, .inl (aB g, 384, .inl (bf (va_up (putF c (q * 32 + 32) i (fun k => c (q * 32 + k))) (((q * 32) + 32) + i) (c (q * 32 + i))))))]) C 1 0 rfl rfl (by omega) (by omega) (sb_nar _) rfl d_Row_repeat_48 ?_
      refine j_iinc (pc := 49) (k := 3) (v := nI (i + 1)) (lv' := [(3, .int (nI (i + 1))), (0, .ref w0), (1, .int (nI q)), (2, .int (nI (q * 32)))]) C d_Row_repeat_49 rfl (j_inc _ _) (by decide) rfl ?_
      refine j_goto (pc := 52) (tgt := 24) C d_Row_repeat_52 rfl ?_
      refine j_lv (lv' := [(0, .ref w0), (1, .int (nI q)), (2, .int (nI (q * 32))), (3, .int (nI (i + 1)))]) [1, 2, 3, 0] rfl ?_
      have e := ih (i + 1) (by omega) (by omega)
      rw [← putF_s] at e
      exact e
set_option maxHeartbeats 4000000 in
set_option maxRecDepth 100000 in
theorem c_Row_repeat (l : Launch) (g : JX) (w0 nr q : Nat) (c : Nat → Nat) (x : Int32) (hq : q * 32 + 64 ≤ 384) : j_Ct l y_Row_repeat b_Row_repeat 4 none rm_Row_repeat g ([(w0, .inr (0, [.ref nr, .int x])), (nr, .inl (aB g, 384, .inl (bf c)))]) [.ref w0, .int (nI q)] (fun r w1 => r = none ∧ w1 = [(w0, .inr (0, [.ref nr, .int x])), (nr, .inl (aB g, 384, .inl (bf (putF c (q * 32 + 32) 32 (fun k => c (q * 32 + k))))))]) 0 0 := by
  refine j_ct (by decide) (Nat.le_of_ble_eq_true rfl) (fun κ hkl C hR hI => ?_)
  show j_V g κ 0 0 0 [(0, .ref w0), (1, .int (nI q))] [] ([(w0, .inr (0, [.ref nr, .int x])), (nr, .inl (aB g, 384, .inl (bf c)))])
  refine j_iload_n (pc := 0) C d_Row_repeat_0 rfl 1 rfl ?_
  refine j_bipush (pc := 1) (v := nI 32) C d_Row_repeat_1 (by decide) ?_
  refine j_imulN (pc := 3) C d_Row_repeat_3 ?_
  refine j_istore_n (pc := 4) (lv' := [(2, .int (nI (q * 32))), (0, .ref w0), (1, .int (nI q))]) C d_Row_repeat_4 rfl (by decide) rfl ?_
  refine j_iload_n (pc := 5) C d_Row_repeat_5 rfl 0 rfl ?_
  refine j_if_ltN (pc := 6) (tgt := 21) C (by omega) d_Row_repeat_6 rfl ?_
  refine j_iload_n (pc := 9) C d_Row_repeat_9 rfl 0 rfl ?_
  refine j_aload_n (pc := 10) C d_Row_repeat_10 rfl 1 rfl ?_
  refine j_get (pc := 11) C F_Row_9 0 rfl rfl d_Row_repeat_11 ?_
  refine j_alen (pc := 14) (v := nI 384) C 1 0 rfl rfl rfl d_Row_repeat_14 ?_
  refine j_bipush (pc := 15) (v := nI 64) C d_Row_repeat_15 (by decide) ?_
  refine j_isubN (pc := 17) C (by omega) d_Row_repeat_17 ?_
  refine j_icmp_leN (pc := 18) (tgt := 22) C (by omega) (by omega) d_Row_repeat_18 rfl (fun c18 => ?_) (fun c18 => ?_)
  · skip
    refine j_iconst (pc := 22) (v := nI 0) C d_Row_repeat_22 (by decide) ?_
    refine j_istore_n (pc := 23) (lv' := [(3, .int (nI 0)), (2, .int (nI (q * 32))), (0, .ref w0), (1, .int (nI q))]) C d_Row_repeat_23 rfl (by decide) rfl ?_
    refine j_lv (lv' := [(0, .ref w0), (1, .int (nI q)), (2, .int (nI (q * 32))), (3, .int (nI 0))]) [2, 3, 1, 0] rfl ?_
    have e := lp_rp (w0 := w0) (nr := nr) (q := q) (c := c) (x := x) hq C hR 33 0 (by omega) (by omega)
    rw [putF_0] at e
    exact e
  · skip
    exfalso; omega
abbrev rm_Row_putPairsTogether : Room := { frames := 4, cells := 0, slots := 0, locals := 107 }
set_option maxHeartbeats 4000000 in
set_option maxRecDepth 100000 in
theorem lp_pp {g : JX} {κ : JK} {w0 nr m0 ms mw mf n : Nat} {r0 : Nat → Nat} {D : Bool} (hn : n ≤ 12) (hn1 : 1 < n) (C : j_C g κ b_Row_putPairsTogether R_Row rm_Row_putPairsTogether 6) (hR : j_R g κ b_Row_putPairsTogether none (fun r w1 => ∃ (d1 w2 : Nat → BW) (u1 c1 : Nat → Nat), r = none ∧ w1 = [(w0, .inr (0, [.ref nr, .int (b2 (D || dbq n r0 ((n + 1) / 2)))])), (nr, .inl (aB g, 384, .inl (bf c1))), (m0, .inr (1, [.ref ms, .ref mw, .ref mf])), (ms, .inl (aI g, 8, .inl (wf d1))), (mw, .inl (aI g, 64, .inl (wf w2))), (mf, .inl (aB g, 32, .inl (bf u1)))] ∧ (∀ j, u1 j < 256) ∧ RInv n r0 ((n + 1) / 2) c1) 0 0) : ∀ (k : Nat) (p : Nat) (d w : Nat → BW) (u c : Nat → Nat), p ≤ (n + 1) / 2 → (n + 1) / 2 + 1 ≤ p + k → (∀ j, u j < 256) → RInv n r0 p c → j_V g κ 0 0 9 [(0, .ref w0), (1, .int (nI n)), (2, .ref m0), (3, .int (nI ((n + 1) / 2))), (4, .int (nI p))] [] ([(w0, .inr (0, [.ref nr, .int (b2 (D || dbq n r0 p))])), (nr, .inl (aB g, 384, .inl (bf c))), (m0, .inr (1, [.ref ms, .ref mw, .ref mf])), (ms, .inl (aI g, 8, .inl (wf d))), (mw, .inl (aI g, 64, .inl (wf w))), (mf, .inl (aB g, 32, .inl (bf u)))]) := by
  intro k
  induction k with
  | zero =>
    intro p d w u c hp hk hu hI9
    exfalso; omega
  | succ k ih =>
    intro p d w u c hp hk hu hI9
    refine j_iload (pc := 9) C d_Row_putPairsTogether_9 4 rfl ?_
    refine j_iload_n (pc := 11) C d_Row_putPairsTogether_11 rfl 3 rfl ?_
    refine j_icmp_geN (pc := 12) (tgt := 82) C (by omega) (by omega) d_Row_putPairsTogether_12 rfl (fun c12 => ?_) (fun c12 => ?_)
    · skip
      exact hR.2.2 _ _ _ d_Row_putPairsTogether_82 rfl (by rw [show (n + 1) / 2 = p by omega]; exact ⟨d, w, u, c, rfl, rfl, hu, hI9⟩)
    · skip
      refine j_iconst (pc := 15) (v := nI 2) C d_Row_putPairsTogether_15 (by decide) ?_
      refine j_iload (pc := 16) C d_Row_putPairsTogether_16 4 rfl ?_
      refine j_imulN (pc := 18) C d_Row_putPairsTogether_18 ?_
      refine j_istore (pc := 19) (lv' := [(5, .int (nI (2 * p))), (0, .ref w0), (1, .int (nI n)), (2, .ref m0), (3, .int (nI ((n + 1) / 2))), (4, .int (nI p))]) C d_Row_putPairsTogether_19 (by decide) rfl ?_
      refine j_iload (pc := 21) C d_Row_putPairsTogether_21 0 rfl ?_
      refine j_iconst (pc := 23) (v := nI 1) C d_Row_putPairsTogether_23 (by decide) ?_
      refine j_iaddN (pc := 24) C d_Row_putPairsTogether_24 ?_
      refine j_iload_n (pc := 25) C d_Row_putPairsTogether_25 rfl 2 rfl ?_
      refine j_icmp_neN (pc := 26) (tgt := 38) C (by omega) (by omega) d_Row_putPairsTogether_26 rfl (fun c26 => ?_) (fun c26 => ?_)
      · skip
        refine j_aload_n (pc := 38) C d_Row_putPairsTogether_38 rfl 1 rfl ?_
        refine j_iload (pc := 39) C d_Row_putPairsTogether_39 0 rfl ?_
        have eal : alk c (2 * p) = alk r0 (2 * p) := alk_cg (fun k hk => hI9.2.1 (by omega) _ (by omega) (by omega))
        refine j_callV (pc := 41) (As := [.int (nI (2 * p))]) (rest := []) (wc := [(w0, .inr (0, [.ref nr, .int (b2 (D || dbq n r0 p))])), (nr, .inl (aB g, 384, .inl (bf c)))]) (wr := [(m0, .inr (1, [.ref ms, .ref mw, .ref mf])), (ms, .inl (aI g, 8, .inl (wf d))), (mw, .inl (aI g, 64, .inl (wf w))), (mf, .inl (aB g, 32, .inl (bf u)))]) C (c_Row_alike (kl κ) g w0 nr (2 * p) c (b2 (D || dbq n r0 p)) hI9.2.2 (by omega)) Y_Row_alike ml_Row_27 im_Row_alike sl_Row_alike rfl ⟨by decide, by decide⟩ rfl (ci := 0) (q0 := 0) rfl rfl rfl (Nat.le_of_ble_eq_true rfl) (j_sb [0, 1, 2, 3, 4, 5] rfl rfl) rfl d_Row_putPairsTogether_41 (fun r w1 hO => ?_)
        obtain ⟨rfl, rfl⟩ := hO
        show j_V g κ 0 0 44 [(5, .int (nI (2 * p))), (0, .ref w0), (1, .int (nI n)), (2, .ref m0), (3, .int (nI ((n + 1) / 2))), (4, .int (nI p))] [.int (if alk c (2 * p) = true then (1 : Int32) else 0)] ([(w0, .inr (0, [.ref nr, .int (b2 (D || dbq n r0 p))])), (nr, .inl (aB g, 384, .inl (bf c))), (m0, .inr (1, [.ref ms, .ref mw, .ref mf])), (ms, .inl (aI g, 8, .inl (wf d))), (mw, .inl (aI g, 64, .inl (wf w))), (mf, .inl (aB g, 32, .inl (bf u)))])
        refine j_if_eqB (pc := 44) (tgt := 52) C d_Row_putPairsTogether_44 rfl (fun c44 => ?_) (fun c44 => ?_)
        · skip
          refine j_aload_n (pc := 52) C d_Row_putPairsTogether_52 rfl 3 rfl ?_
          refine j_aload_n (pc := 53) C d_Row_putPairsTogether_53 rfl 1 rfl ?_
          refine j_get (pc := 54) C F_Row_9 0 rfl rfl d_Row_putPairsTogether_54 ?_
          refine j_iload (pc := 57) C d_Row_putPairsTogether_57 0 rfl ?_
          refine j_bipush (pc := 59) (v := nI 32) C d_Row_putPairsTogether_59 (by decide) ?_
          refine j_imulN (pc := 61) C d_Row_putPairsTogether_61 ?_
          refine j_bipush (pc := 62) (v := nI 64) C d_Row_putPairsTogether_62 (by decide) ?_
          refine j_aload_n (pc := 64) C d_Row_putPairsTogether_64 rfl 1 rfl ?_
          refine j_get (pc := 65) C F_Row_9 0 rfl rfl d_Row_putPairsTogether_65 ?_
          refine j_iload (pc := 68) C d_Row_putPairsTogether_68 5 rfl ?_
          refine j_bipush (pc := 70) (v := nI 32) C d_Row_putPairsTogether_70 (by decide) ?_
          refine j_imulN (pc := 72) C d_Row_putPairsTogether_72 ?_
          refine j_callV (pc := 73) (As := [.ref nr, .int (nI ((2 * p) * 32)), .int (nI 64), .ref nr, .int (nI (p * 32))]) (rest := []) (wc := [(m0, .inr (1, [.ref ms, .ref mw, .ref mf])), (ms, .inl (aI g, 8, .inl (wf d))), (mw, .inl (aI g, 64, .inl (wf w))), (mf, .inl (aB g, 32, .inl (bf u))), (nr, .inl (aB g, 384, .inl (bf c)))]) (wr := [(w0, .inr (0, [.ref nr, .int (b2 (D || dbq n r0 p))]))]) C (c_Nam_writeName_same (kl κ) g m0 ms mw mf nr 384 ((2 * p) * 32) 64 (p * 32) c u d w (by omega) (hI9.2.2) (hu) (by omega) (by omega)) Y_Nam_writeName ml_Row_31 im_Nam_writeName sl_Nam_writeName rfl ⟨by decide, by decide⟩ rfl (ci := 1) (q0 := 0) rfl rfl rfl (Nat.le_of_ble_eq_true rfl) (j_sb [2, 3, 4, 5, 1, 0] rfl rfl) rfl d_Row_putPairsTogether_73 (fun r w1 hO => ?_)
          obtain ⟨d1, w1, u1, rfl, rfl, hu1⟩ := hO
          show j_V g κ 0 0 76 [(5, .int (nI (2 * p))), (0, .ref w0), (1, .int (nI n)), (2, .ref m0), (3, .int (nI ((n + 1) / 2))), (4, .int (nI p))] [] ([(m0, .inr (1, [.ref ms, .ref mw, .ref mf])), (ms, .inl (aI g, 8, .inl (wf d1))), (mw, .inl (aI g, 64, .inl (wf w1))), (mf, .inl (aB g, 32, .inl (bf u1))), (nr, .inl (aB g, 384, .inl (bf (putF c (p * 32) 32 (nm (fun j => c (((2 * p) * 32) + j)) 64))))), (w0, .inr (0, [.ref nr, .int (b2 (D || dbq n r0 p))]))])
          refine j_iinc (pc := 76) (k := 5) (v := nI (p + 1)) (lv' := [(4, .int (nI (p + 1))), (5, .int (nI (2 * p))), (0, .ref w0), (1, .int (nI n)), (2, .ref m0), (3, .int (nI ((n + 1) / 2)))]) C d_Row_putPairsTogether_76 rfl (j_inc _ _) (by decide) rfl ?_
          refine j_goto (pc := 79) (tgt := 9) C d_Row_putPairsTogether_79 rfl ?_
          refine j_lv (lv' := [(0, .ref w0), (1, .int (nI n)), (2, .ref m0), (3, .int (nI ((n + 1) / 2))), (4, .int (nI (p + 1)))]) [2, 3, 4, 5, 0] rfl ?_
          refine j_sub (ws' := [(w0, .inr (0, [.ref nr, .int (b2 (D || dbq n r0 p))])), (nr, .inl (aB g, 384, .inl (bf (putF c (p * 32) 32 (nm (fun j => c (((2 * p) * 32) + j)) 64))))), (m0, .inr (1, [.ref ms, .ref mw, .ref mf])), (ms, .inl (aI g, 8, .inl (wf d1))), (mw, .inl (aI g, 64, .inl (wf w1))), (mf, .inl (aB g, 32, .inl (bf u1)))]) (j_sb [5, 4, 0, 1, 2, 3] rfl rfl) ?_
          have eD : (D || dbq n r0 (p + 1)) = (D || dbq n r0 p) := by show (D || (dbq n r0 p || (decide (2 * p + 1 < n) && alk r0 (2 * p)))) = (D || dbq n r0 p); rw [← eal, Bool.eq_false_iff.mpr c44, Bool.and_false, Bool.or_false]
          have e := ih (p + 1) d1 w1 u1 _ (by omega) (by omega) hu1 (RInv_two (by omega) hI9)
          rw [eD] at e
          exact e
        · skip
          refine j_aload_n (pc := 47) C d_Row_putPairsTogether_47 rfl 1 rfl ?_
          refine j_iconst (pc := 48) (v := nI 1) C d_Row_putPairsTogether_48 (by decide) ?_
          refine j_put (pc := 49) (ws' := [(w0, .inr (0, [.ref nr, .int (nI 1)])), (nr, .inl (aB g, 384, .inl (bf c))), (m0, .inr (1, [.ref ms, .ref mw, .ref mf])), (ms, .inl (aI g, 8, .inl (wf d))), (mw, .inl (aI g, 64, .inl (wf w))), (mf, .inl (aB g, 32, .inl (bf u)))]) C Fp_Row_15 0 rfl (by first | rfl | decide) (by first | rfl | decide) (Nat.le_of_ble_eq_true rfl) rfl d_Row_putPairsTogether_49 ?_
          refine j_aload_n (pc := 52) C d_Row_putPairsTogether_52 rfl 3 rfl ?_
          refine j_aload_n (pc := 53) C d_Row_putPairsTogether_53 rfl 1 rfl ?_
          refine j_get (pc := 54) C F_Row_9 0 rfl rfl d_Row_putPairsTogether_54 ?_
          refine j_iload (pc := 57) C d_Row_putPairsTogether_57 0 rfl ?_
          refine j_bipush (pc := 59) (v := nI 32) C d_Row_putPairsTogether_59 (by decide) ?_
          refine j_imulN (pc := 61) C d_Row_putPairsTogether_61 ?_
          refine j_bipush (pc := 62) (v := nI 64) C d_Row_putPairsTogether_62 (by decide) ?_
          refine j_aload_n (pc := 64) C d_Row_putPairsTogether_64 rfl 1 rfl ?_
          refine j_get (pc := 65) C F_Row_9 0 rfl rfl d_Row_putPairsTogether_65 ?_
          refine j_iload (pc := 68) C d_Row_putPairsTogether_68 5 rfl ?_
          refine j_bipush (pc := 70) (v := nI 32) C d_Row_putPairsTogether_70 (by decide) ?_
          refine j_imulN (pc := 72) C d_Row_putPairsTogether_72 ?_
          refine j_callV (pc := 73) (As := [.ref nr, .int (nI ((2 * p) * 32)), .int (nI 64), .ref nr, .int (nI (p * 32))]) (rest := []) (wc := [(m0, .inr (1, [.ref ms, .ref mw, .ref mf])), (ms, .inl (aI g, 8, .inl (wf d))), (mw, .inl (aI g, 64, .inl (wf w))), (mf, .inl (aB g, 32, .inl (bf u))), (nr, .inl (aB g, 384, .inl (bf c)))]) (wr := [(w0, .inr (0, [.ref nr, .int (nI 1)]))]) C (c_Nam_writeName_same (kl κ) g m0 ms mw mf nr 384 ((2 * p) * 32) 64 (p * 32) c u d w (by omega) (hI9.2.2) (hu) (by omega) (by omega)) Y_Nam_writeName ml_Row_31 im_Nam_writeName sl_Nam_writeName rfl ⟨by decide, by decide⟩ rfl (ci := 1) (q0 := 0) rfl rfl rfl (Nat.le_of_ble_eq_true rfl) (j_sb [2, 3, 4, 5, 1, 0] rfl rfl) rfl d_Row_putPairsTogether_73 (fun r w1 hO => ?_)
          obtain ⟨d2, w2, u2, rfl, rfl, hu2⟩ := hO
          show j_V g κ 0 0 76 [(5, .int (nI (2 * p))), (0, .ref w0), (1, .int (nI n)), (2, .ref m0), (3, .int (nI ((n + 1) / 2))), (4, .int (nI p))] [] ([(m0, .inr (1, [.ref ms, .ref mw, .ref mf])), (ms, .inl (aI g, 8, .inl (wf d2))), (mw, .inl (aI g, 64, .inl (wf w2))), (mf, .inl (aB g, 32, .inl (bf u2))), (nr, .inl (aB g, 384, .inl (bf (putF c (p * 32) 32 (nm (fun j => c (((2 * p) * 32) + j)) 64))))), (w0, .inr (0, [.ref nr, .int (nI 1)]))])
          refine j_iinc (pc := 76) (k := 5) (v := nI (p + 1)) (lv' := [(4, .int (nI (p + 1))), (5, .int (nI (2 * p))), (0, .ref w0), (1, .int (nI n)), (2, .ref m0), (3, .int (nI ((n + 1) / 2)))]) C d_Row_putPairsTogether_76 rfl (j_inc _ _) (by decide) rfl ?_
          refine j_goto (pc := 79) (tgt := 9) C d_Row_putPairsTogether_79 rfl ?_
          refine j_lv (lv' := [(0, .ref w0), (1, .int (nI n)), (2, .ref m0), (3, .int (nI ((n + 1) / 2))), (4, .int (nI (p + 1)))]) [2, 3, 4, 5, 0] rfl ?_
          refine j_sub (ws' := [(w0, .inr (0, [.ref nr, .int (nI 1)])), (nr, .inl (aB g, 384, .inl (bf (putF c (p * 32) 32 (nm (fun j => c (((2 * p) * 32) + j)) 64))))), (m0, .inr (1, [.ref ms, .ref mw, .ref mf])), (ms, .inl (aI g, 8, .inl (wf d2))), (mw, .inl (aI g, 64, .inl (wf w2))), (mf, .inl (aB g, 32, .inl (bf u2)))]) (j_sb [5, 4, 0, 1, 2, 3] rfl rfl) ?_
          have eD : (D || dbq n r0 (p + 1)) = true := by show (D || (dbq n r0 p || (decide (2 * p + 1 < n) && alk r0 (2 * p)))) = true; rw [decide_eq_true (by omega), ← eal, c44, Bool.true_and, Bool.or_true, Bool.or_true]
          have e := ih (p + 1) d2 w2 u2 _ (by omega) (by omega) hu2 (RInv_two (by omega) hI9)
          rw [eD] at e
          exact e
      · skip
        refine j_aload_n (pc := 29) C d_Row_putPairsTogether_29 rfl 1 rfl ?_
        refine j_iload (pc := 30) C d_Row_putPairsTogether_30 0 rfl ?_
        refine j_callV (pc := 32) (As := [.int (nI (2 * p))]) (rest := []) (wc := [(w0, .inr (0, [.ref nr, .int (b2 (D || dbq n r0 p))])), (nr, .inl (aB g, 384, .inl (bf c)))]) (wr := [(m0, .inr (1, [.ref ms, .ref mw, .ref mf])), (ms, .inl (aI g, 8, .inl (wf d))), (mw, .inl (aI g, 64, .inl (wf w))), (mf, .inl (aB g, 32, .inl (bf u)))]) C (c_Row_repeat (kl κ) g w0 nr (2 * p) c (b2 (D || dbq n r0 p)) (by omega)) Y_Row_repeat ml_Row_23 im_Row_repeat sl_Row_repeat rfl ⟨by decide, by decide⟩ rfl (ci := 0) (q0 := 0) rfl rfl rfl (Nat.le_of_ble_eq_true rfl) (j_sb [0, 1, 2, 3, 4, 5] rfl rfl) rfl d_Row_putPairsTogether_32 (fun r w1 hO => ?_)
        obtain ⟨rfl, rfl⟩ := hO
        show j_V g κ 0 0 35 [(5, .int (nI (2 * p))), (0, .ref w0), (1, .int (nI n)), (2, .ref m0), (3, .int (nI ((n + 1) / 2))), (4, .int (nI p))] [] ([(w0, .inr (0, [.ref nr, .int (b2 (D || dbq n r0 p))])), (nr, .inl (aB g, 384, .inl (bf (putF c ((2 * p) * 32 + 32) 32 (fun k => c ((2 * p) * 32 + k)))))), (m0, .inr (1, [.ref ms, .ref mw, .ref mf])), (ms, .inl (aI g, 8, .inl (wf d))), (mw, .inl (aI g, 64, .inl (wf w))), (mf, .inl (aB g, 32, .inl (bf u)))])
        refine j_goto (pc := 35) (tgt := 52) C d_Row_putPairsTogether_35 rfl ?_
        refine j_aload_n (pc := 52) C d_Row_putPairsTogether_52 rfl 3 rfl ?_
        refine j_aload_n (pc := 53) C d_Row_putPairsTogether_53 rfl 1 rfl ?_
        refine j_get (pc := 54) C F_Row_9 0 rfl rfl d_Row_putPairsTogether_54 ?_
        refine j_iload (pc := 57) C d_Row_putPairsTogether_57 0 rfl ?_
        refine j_bipush (pc := 59) (v := nI 32) C d_Row_putPairsTogether_59 (by decide) ?_
        refine j_imulN (pc := 61) C d_Row_putPairsTogether_61 ?_
        refine j_bipush (pc := 62) (v := nI 64) C d_Row_putPairsTogether_62 (by decide) ?_
        refine j_aload_n (pc := 64) C d_Row_putPairsTogether_64 rfl 1 rfl ?_
        refine j_get (pc := 65) C F_Row_9 0 rfl rfl d_Row_putPairsTogether_65 ?_
        refine j_iload (pc := 68) C d_Row_putPairsTogether_68 5 rfl ?_
        refine j_bipush (pc := 70) (v := nI 32) C d_Row_putPairsTogether_70 (by decide) ?_
        refine j_imulN (pc := 72) C d_Row_putPairsTogether_72 ?_
        refine j_callV (pc := 73) (As := [.ref nr, .int (nI ((2 * p) * 32)), .int (nI 64), .ref nr, .int (nI (p * 32))]) (rest := []) (wc := [(m0, .inr (1, [.ref ms, .ref mw, .ref mf])), (ms, .inl (aI g, 8, .inl (wf d))), (mw, .inl (aI g, 64, .inl (wf w))), (mf, .inl (aB g, 32, .inl (bf u))), (nr, .inl (aB g, 384, .inl (bf (putF c ((2 * p) * 32 + 32) 32 (fun k => c ((2 * p) * 32 + k))))))]) (wr := [(w0, .inr (0, [.ref nr, .int (b2 (D || dbq n r0 p))]))]) C (c_Nam_writeName_same (kl κ) g m0 ms mw mf nr 384 ((2 * p) * 32) 64 (p * 32) (putF c ((2 * p) * 32 + 32) 32 (fun k => c ((2 * p) * 32 + k))) u d w (by omega) (putF_lt hI9.2.2 (fun _ => hI9.2.2 _)) (hu) (by omega) (by omega)) Y_Nam_writeName ml_Row_31 im_Nam_writeName sl_Nam_writeName rfl ⟨by decide, by decide⟩ rfl (ci := 1) (q0 := 0) rfl rfl rfl (Nat.le_of_ble_eq_true rfl) (j_sb [2, 3, 4, 5, 1, 0] rfl rfl) rfl d_Row_putPairsTogether_73 (fun r w1 hO => ?_)
        obtain ⟨d3, w3, u3, rfl, rfl, hu3⟩ := hO
        show j_V g κ 0 0 76 [(5, .int (nI (2 * p))), (0, .ref w0), (1, .int (nI n)), (2, .ref m0), (3, .int (nI ((n + 1) / 2))), (4, .int (nI p))] [] ([(m0, .inr (1, [.ref ms, .ref mw, .ref mf])), (ms, .inl (aI g, 8, .inl (wf d3))), (mw, .inl (aI g, 64, .inl (wf w3))), (mf, .inl (aB g, 32, .inl (bf u3))), (nr, .inl (aB g, 384, .inl (bf (putF (putF c ((2 * p) * 32 + 32) 32 (fun k => c ((2 * p) * 32 + k))) (p * 32) 32 (nm (fun j => (putF c ((2 * p) * 32 + 32) 32 (fun k => c ((2 * p) * 32 + k))) (((2 * p) * 32) + j)) 64))))), (w0, .inr (0, [.ref nr, .int (b2 (D || dbq n r0 p))]))])
        refine j_iinc (pc := 76) (k := 5) (v := nI (p + 1)) (lv' := [(4, .int (nI (p + 1))), (5, .int (nI (2 * p))), (0, .ref w0), (1, .int (nI n)), (2, .ref m0), (3, .int (nI ((n + 1) / 2)))]) C d_Row_putPairsTogether_76 rfl (j_inc _ _) (by decide) rfl ?_
        refine j_goto (pc := 79) (tgt := 9) C d_Row_putPairsTogether_79 rfl ?_
        refine j_lv (lv' := [(0, .ref w0), (1, .int (nI n)), (2, .ref m0), (3, .int (nI ((n + 1) / 2))), (4, .int (nI (p + 1)))]) [2, 3, 4, 5, 0] rfl ?_
        refine j_sub (ws' := [(w0, .inr (0, [.ref nr, .int (b2 (D || dbq n r0 p))])), (nr, .inl (aB g, 384, .inl (bf (putF (putF c ((2 * p) * 32 + 32) 32 (fun k => c ((2 * p) * 32 + k))) (p * 32) 32 (nm (fun j => (putF c ((2 * p) * 32 + 32) 32 (fun k => c ((2 * p) * 32 + k))) (((2 * p) * 32) + j)) 64))))), (m0, .inr (1, [.ref ms, .ref mw, .ref mf])), (ms, .inl (aI g, 8, .inl (wf d3))), (mw, .inl (aI g, 64, .inl (wf w3))), (mf, .inl (aB g, 32, .inl (bf u3)))]) (j_sb [5, 4, 0, 1, 2, 3] rfl rfl) ?_
        have eD : (D || dbq n r0 (p + 1)) = (D || dbq n r0 p) := by show (D || (dbq n r0 p || (decide (2 * p + 1 < n) && alk r0 (2 * p)))) = (D || dbq n r0 p); rw [decide_eq_false (by omega), Bool.false_and, Bool.or_false]
        have e := ih (p + 1) d3 w3 u3 _ (by omega) (by omega) hu3 (RInv_one (by omega) hI9)
        rw [eD] at e
        exact e
set_option maxHeartbeats 4000000 in
set_option maxRecDepth 100000 in
theorem c_Row_putPairsTogether (l : Launch) (g : JX) (w0 nr m0 ms mw mf n : Nat) (r0 u c : Nat → Nat) (d w : Nat → BW) (D : Bool) (hn : n ≤ 12) (hn1 : 1 < n) (hu : ∀ j, u j < 256) (hc : ∀ j, c j < 256) (hr : ∀ j, j < 32 * n → c j = r0 j) : j_Ct l y_Row_putPairsTogether b_Row_putPairsTogether 6 none rm_Row_putPairsTogether g ([(w0, .inr (0, [.ref nr, .int (b2 D)])), (nr, .inl (aB g, 384, .inl (bf c))), (m0, .inr (1, [.ref ms, .ref mw, .ref mf])), (ms, .inl (aI g, 8, .inl (wf d))), (mw, .inl (aI g, 64, .inl (wf w))), (mf, .inl (aB g, 32, .inl (bf u)))]) [.ref w0, .int (nI n), .ref m0] (fun r w1 => ∃ (d1 w2 : Nat → BW) (u1 c1 : Nat → Nat), r = none ∧ w1 = [(w0, .inr (0, [.ref nr, .int (b2 (D || dbq n r0 ((n + 1) / 2)))])), (nr, .inl (aB g, 384, .inl (bf c1))), (m0, .inr (1, [.ref ms, .ref mw, .ref mf])), (ms, .inl (aI g, 8, .inl (wf d1))), (mw, .inl (aI g, 64, .inl (wf w2))), (mf, .inl (aB g, 32, .inl (bf u1)))] ∧ (∀ j, u1 j < 256) ∧ RInv n r0 ((n + 1) / 2) c1) 0 0 := by
  refine j_ct (by decide) (Nat.le_of_ble_eq_true rfl) (fun κ hkl C hR hI => ?_)
  show j_V g κ 0 0 0 [(0, .ref w0), (1, .int (nI n)), (2, .ref m0)] [] ([(w0, .inr (0, [.ref nr, .int (b2 D)])), (nr, .inl (aB g, 384, .inl (bf c))), (m0, .inr (1, [.ref ms, .ref mw, .ref mf])), (ms, .inl (aI g, 8, .inl (wf d))), (mw, .inl (aI g, 64, .inl (wf w))), (mf, .inl (aB g, 32, .inl (bf u)))])
  refine j_iload_n (pc := 0) C d_Row_putPairsTogether_0 rfl 1 rfl ?_
  refine j_iconst (pc := 1) (v := nI 1) C d_Row_putPairsTogether_1 (by decide) ?_
  refine j_iaddN (pc := 2) C d_Row_putPairsTogether_2 ?_
  refine j_iconst (pc := 3) (v := nI 2) C d_Row_putPairsTogether_3 (by decide) ?_
  refine j_idivN (pc := 4) C (by omega) (by omega) (by omega) d_Row_putPairsTogether_4 ?_
  refine j_istore_n (pc := 5) (lv' := [(3, .int (nI ((n + 1) / 2))), (0, .ref w0), (1, .int (nI n)), (2, .ref m0)]) C d_Row_putPairsTogether_5 rfl (by decide) rfl ?_
  refine j_iconst (pc := 6) (v := nI 0) C d_Row_putPairsTogether_6 (by decide) ?_
  refine j_istore (pc := 7) (lv' := [(4, .int (nI 0)), (3, .int (nI ((n + 1) / 2))), (0, .ref w0), (1, .int (nI n)), (2, .ref m0)]) C d_Row_putPairsTogether_7 (by decide) rfl ?_
  refine j_lv (lv' := [(0, .ref w0), (1, .int (nI n)), (2, .ref m0), (3, .int (nI ((n + 1) / 2))), (4, .int (nI 0))]) [2, 3, 4, 1, 0] rfl ?_
  have e := lp_pp (w0 := w0) (nr := nr) (m0 := m0) (ms := ms) (mw := mw) (mf := mf) (n := n) (r0 := r0) (D := D) hn hn1 C hR ((n + 1) / 2 + 1) 0 d w u c (by omega) (by omega) hu ⟨fun j hj => absurd hj (by omega), fun _ j _ hj => hr j hj, hc⟩
  rw [show (D || dbq n r0 0) = D from Bool.or_false D] at e
  exact e
abbrev rm_Row_putTogether : Room := { frames := 5, cells := 0, slots := 0, locals := 132 }
set_option maxHeartbeats 4000000 in
set_option maxRecDepth 100000 in
theorem lp_pt {g : JX} {κ : JK} {w0 nr m0 ms mw mf fa n0 : Nat} {a RT : Nat → Nat} {DT : Bool}  (C : j_C g κ b_Row_putTogether R_Row rm_Row_putTogether 5) (hR : j_R g κ b_Row_putTogether none (fun r w1 => ∃ (d1 w2 : Nat → BW) (u1 c1 : Nat → Nat), r = none ∧ w1 = [(w0, .inr (0, [.ref nr, .int (b2 DT)])), (nr, .inl (aB g, 384, .inl (bf c1))), (m0, .inr (1, [.ref ms, .ref mw, .ref mf])), (ms, .inl (aI g, 8, .inl (wf d1))), (mw, .inl (aI g, 64, .inl (wf w2))), (mf, .inl (aB g, 32, .inl (bf u1))), (fa, .inl (aB g, 384, .inl (bf a)))] ∧ (∀ j, u1 j < 256) ∧ (∀ j, c1 j < 256) ∧ ∀ j, j < 32 → c1 j = RT j) 0 0) : ∀ (k : Nat) (n : Nat) (d w : Nat → BW) (u c r0 : Nat → Nat) (D : Bool), n ≤ 12 → n + 1 ≤ k → (∀ j, u j < 256) → (∀ j, c j < 256) → (∀ j, j < 32 * n → c j = r0 j) → (n = 0 → ∀ j, j < 32 → c j = RT j) → (0 < n → ∀ j, j < 32 → rwN n r0 j = RT j) → (D || dbT n r0) = DT → j_V g κ 0 0 78 [(0, .ref w0), (1, .ref fa), (2, .int (nI n0)), (3, .ref m0), (4, .int (nI n))] [] ([(w0, .inr (0, [.ref nr, .int (b2 D)])), (nr, .inl (aB g, 384, .inl (bf c))), (m0, .inr (1, [.ref ms, .ref mw, .ref mf])), (ms, .inl (aI g, 8, .inl (wf d))), (mw, .inl (aI g, 64, .inl (wf w))), (mf, .inl (aB g, 32, .inl (bf u))), (fa, .inl (aB g, 384, .inl (bf a)))]) := by
  intro k
  induction k with
  | zero =>
    intro n d w u c r0 D hn hk hu hc hr hz hR1 hDT
    exfalso; omega
  | succ k ih =>
    intro n d w u c r0 D hn hk hu hc hr hz hR1 hDT
    refine j_iload (pc := 78) C d_Row_putTogether_78 4 rfl ?_
    refine j_iconst (pc := 80) (v := nI 1) C d_Row_putTogether_80 (by decide) ?_
    refine j_icmp_leN (pc := 81) (tgt := 102) C (by omega) (by omega) d_Row_putTogether_81 rfl (fun c81 => ?_) (fun c81 => ?_)
    · skip
      exact hR.2.2 _ _ _ d_Row_putTogether_102 rfl (by rw [← hDT, dbT_1 c81, Bool.or_false]; exact ⟨d, w, u, c, rfl, rfl, hu, hc, fun j hj => if h0 : n = 0 then hz h0 j hj else by rw [hr j (by omega), ← hR1 (by omega) j hj, rwN_1 c81]⟩)
    · skip
      refine j_aload_n (pc := 84) C d_Row_putTogether_84 rfl 0 rfl ?_
      refine j_iload (pc := 85) C d_Row_putTogether_85 4 rfl ?_
      refine j_aload_n (pc := 87) C d_Row_putTogether_87 rfl 3 rfl ?_
      refine j_callV (pc := 88) (As := [.int (nI n), .ref m0]) (rest := []) (wc := [(w0, .inr (0, [.ref nr, .int (b2 D)])), (nr, .inl (aB g, 384, .inl (bf c))), (m0, .inr (1, [.ref ms, .ref mw, .ref mf])), (ms, .inl (aI g, 8, .inl (wf d))), (mw, .inl (aI g, 64, .inl (wf w))), (mf, .inl (aB g, 32, .inl (bf u)))]) (wr := [(fa, .inl (aB g, 384, .inl (bf a)))]) C (c_Row_putPairsTogether (kl κ) g w0 nr m0 ms mw mf n r0 u c d w D (by omega) (by omega) hu hc hr) Y_Row_putPairsTogether ml_Row_19 im_Row_putPairsTogether sl_Row_putPairsTogether rfl ⟨by decide, by decide⟩ rfl (ci := 0) (q0 := 0) rfl rfl rfl (Nat.le_of_ble_eq_true rfl) (j_sb [0, 1, 2, 3, 4, 5, 6] rfl rfl) rfl d_Row_putTogether_88 (fun r w1 hO => ?_)
      obtain ⟨d1, w2, u1, c1, rfl, rfl, hu1, hI1⟩ := hO
      show j_V g κ 0 0 91 [(0, .ref w0), (1, .ref fa), (2, .int (nI n0)), (3, .ref m0), (4, .int (nI n))] [] ([(w0, .inr (0, [.ref nr, .int (b2 (D || dbq n r0 ((n + 1) / 2)))])), (nr, .inl (aB g, 384, .inl (bf c1))), (m0, .inr (1, [.ref ms, .ref mw, .ref mf])), (ms, .inl (aI g, 8, .inl (wf d1))), (mw, .inl (aI g, 64, .inl (wf w2))), (mf, .inl (aB g, 32, .inl (bf u1))), (fa, .inl (aB g, 384, .inl (bf a)))])
      refine j_iload (pc := 91) C d_Row_putTogether_91 4 rfl ?_
      refine j_iconst (pc := 93) (v := nI 1) C d_Row_putTogether_93 (by decide) ?_
      refine j_iaddN (pc := 94) C d_Row_putTogether_94 ?_
      refine j_iconst (pc := 95) (v := nI 2) C d_Row_putTogether_95 (by decide) ?_
      refine j_idivN (pc := 96) C (by omega) (by omega) (by omega) d_Row_putTogether_96 ?_
      refine j_istore (pc := 97) (lv' := [(4, .int (nI ((n + 1) / 2))), (0, .ref w0), (1, .ref fa), (2, .int (nI n0)), (3, .ref m0)]) C d_Row_putTogether_97 (by decide) rfl ?_
      refine j_goto (pc := 99) (tgt := 78) C d_Row_putTogether_99 rfl ?_
      refine j_lv (lv' := [(0, .ref w0), (1, .ref fa), (2, .int (nI n0)), (3, .ref m0), (4, .int (nI ((n + 1) / 2)))]) [1, 2, 3, 4, 0] rfl ?_
      exact ih ((n + 1) / 2) d1 w2 u1 c1 (lvl n r0) _ (by omega) (by omega) hu1 hI1.2.2 (fun j hj => hI1.1 j hj) (fun h => absurd h (by omega)) (fun _ j hj => by rw [← rwN_s c81]; exact hR1 (by omega) j hj) (by rw [Bool.or_assoc, ← dbT_s c81]; exact hDT)
set_option maxHeartbeats 4000000 in
set_option maxRecDepth 100000 in
theorem lp_ptc {g : JX} {κ : JK} {w0 nr m0 ms mw mf fa n0 : Nat} {a RT z u : Nat → Nat} {d w : Nat → BW} {DT : Bool} (hn : n0 ≤ 12) (ha : ∀ j, a j < 256) (hz0 : ∀ j, z j < 256) (hu : ∀ j, u j < 256) (hzz : n0 = 0 → ∀ j, j < 32 → z j = RT j) (hRT : 0 < n0 → ∀ j, j < 32 → rwN n0 a j = RT j) (hDT : (false || dbT n0 a) = DT) (C : j_C g κ b_Row_putTogether R_Row rm_Row_putTogether 5) (hR : j_R g κ b_Row_putTogether none (fun r w1 => ∃ (d1 w2 : Nat → BW) (u1 c1 : Nat → Nat), r = none ∧ w1 = [(w0, .inr (0, [.ref nr, .int (b2 DT)])), (nr, .inl (aB g, 384, .inl (bf c1))), (m0, .inr (1, [.ref ms, .ref mw, .ref mf])), (ms, .inl (aI g, 8, .inl (wf d1))), (mw, .inl (aI g, 64, .inl (wf w2))), (mf, .inl (aB g, 32, .inl (bf u1))), (fa, .inl (aB g, 384, .inl (bf a)))] ∧ (∀ j, u1 j < 256) ∧ (∀ j, c1 j < 256) ∧ ∀ j, j < 32 → c1 j = RT j) 0 0) : ∀ (k : Nat) (i : Nat), i ≤ n0 * 32 → n0 * 32 + 1 ≤ i + k → j_V g κ 0 0 32 [(0, .ref w0), (1, .ref fa), (2, .int (nI n0)), (3, .ref m0), (4, .int (nI i))] [] ([(w0, .inr (0, [.ref nr, .int (b2 false)])), (nr, .inl (aB g, 384, .inl (bf (cpT a z i)))), (m0, .inr (1, [.ref ms, .ref mw, .ref mf])), (ms, .inl (aI g, 8, .inl (wf d))), (mw, .inl (aI g, 64, .inl (wf w))), (mf, .inl (aB g, 32, .inl (bf u))), (fa, .inl (aB g, 384, .inl (bf a)))]) := by
  intro k
  induction k with
  | zero =>
    intro i hi hk
    exfalso; omega
  | succ k ih =>
    intro i hi hk
    refine j_iload (pc := 32) C d_Row_putTogether_32 4 rfl ?_
    refine j_iload_n (pc := 34) C d_Row_putTogether_34 rfl 2 rfl ?_
    refine j_bipush (pc := 35) (v := nI 32) C d_Row_putTogether_35 (by decide) ?_
    refine j_imulN (pc := 37) C d_Row_putTogether_37 ?_
    refine j_icmp_geN (pc := 38) (tgt := 75) C (by omega) (by omega) d_Row_putTogether_38 rfl (fun c38 => ?_) (fun c38 => ?_)
    · skip
      refine j_iload_n (pc := 75) C d_Row_putTogether_75 rfl 2 rfl ?_
      refine j_istore (pc := 76) (lv' := [(4, .int (nI n0)), (0, .ref w0), (1, .ref fa), (2, .int (nI n0)), (3, .ref m0)]) C d_Row_putTogether_76 (by decide) rfl ?_
      refine j_lv (lv' := [(0, .ref w0), (1, .ref fa), (2, .int (nI n0)), (3, .ref m0), (4, .int (nI n0))]) [1, 2, 3, 4, 0] rfl ?_
      exact lp_pt (w0 := w0) (nr := nr) (m0 := m0) (ms := ms) (mw := mw) (mf := mf) (fa := fa) (n0 := n0) (a := a) (RT := RT) (DT := DT) C hR 13 n0 d w u (cpT a z i) a false hn (by omega) hu (cpT_lt ha hz0) (fun j hj => if_pos (by omega)) (fun h j hj => by rw [show i = 0 by omega, cpT_0]; exact hzz h j hj) hRT hDT
    · skip
      refine j_iload (pc := 41) C d_Row_putTogether_41 4 rfl ?_
      refine j_aload_n (pc := 43) C d_Row_putTogether_43 rfl 0 rfl ?_
      refine j_get (pc := 44) C F_Row_9 0 rfl rfl d_Row_putTogether_44 ?_
      refine j_alen (pc := 47) (v := nI 384) C 1 0 rfl rfl rfl d_Row_putTogether_47 ?_
      refine j_icmp_geN (pc := 48) (tgt := 75) C (by omega) (by omega) d_Row_putTogether_48 rfl (fun c48 => ?_) (fun c48 => ?_)
      · skip
        exfalso; omega
      · skip
        refine j_iload (pc := 51) C d_Row_putTogether_51 4 rfl ?_
        refine j_aload_n (pc := 53) C d_Row_putTogether_53 rfl 1 rfl ?_
        refine j_alen (pc := 54) (v := nI 384) C 6 0 rfl rfl rfl d_Row_putTogether_54 ?_
        refine j_icmp_geN (pc := 55) (tgt := 75) C (by omega) (by omega) d_Row_putTogether_55 rfl (fun c55 => ?_) (fun c55 => ?_)
        · skip
          exfalso; omega
        · skip
          refine j_aload_n (pc := 58) C d_Row_putTogether_58 rfl 0 rfl ?_
          refine j_get (pc := 59) C F_Row_9 0 rfl rfl d_Row_putTogether_59 ?_
          refine j_iload (pc := 62) C d_Row_putTogether_62 4 rfl ?_
          refine j_aload_n (pc := 64) C d_Row_putTogether_64 rfl 1 rfl ?_
          refine j_iload (pc := 65) C d_Row_putTogether_65 4 rfl ?_
          refine j_baldN (pc := 67) C 6 0 rfl rfl (by omega) (by omega) d_Row_putTogether_67 ?_
          refine j_bastB (pc := 68) (ws' := [(w0, .inr (0, [.ref nr, .int (b2 false)])), (nr, .inl (aB g, 384, .inl (bf (va_up (cpT a z i) i (a i))))), (m0, .inr (1, [.ref ms, .ref mw, .ref mf])), (ms, .inl (aI g, 8, .inl (wf d))), (mw, .inl (aI g, 64, .inl (wf w))), (mf, .inl (aB g, 32, .inl (bf u))), (fa, .inl (aB g, 384, .inl (bf a)))]) C 1 0 rfl rfl (by omega) (by omega) (sb_nar _) rfl d_Row_putTogether_68 ?_
          refine j_iinc (pc := 69) (k := 4) (v := nI (i + 1)) (lv' := [(4, .int (nI (i + 1))), (0, .ref w0), (1, .ref fa), (2, .int (nI n0)), (3, .ref m0)]) C d_Row_putTogether_69 rfl (j_inc _ _) (by decide) rfl ?_
          refine j_goto (pc := 72) (tgt := 32) C d_Row_putTogether_72 rfl ?_
          refine j_lv (lv' := [(0, .ref w0), (1, .ref fa), (2, .int (nI n0)), (3, .ref m0), (4, .int (nI (i + 1)))]) [1, 2, 3, 4, 0] rfl ?_
          have e := ih (i + 1) (by omega) (by omega)
          rw [← cpT_s] at e
          exact e
set_option maxHeartbeats 4000000 in
set_option maxRecDepth 100000 in
theorem lp_ptz {g : JX} {κ : JK} {w0 nr m0 ms mw mf fa n0 : Nat} {a RT c u : Nat → Nat} {d w : Nat → BW} {DT : Bool} (hn : n0 ≤ 12) (ha : ∀ j, a j < 256) (hc : ∀ j, c j < 256) (hu : ∀ j, u j < 256) (hz0 : n0 = 0 → ∀ j, j < 32 → 0 = RT j) (hRT : 0 < n0 → ∀ j, j < 32 → rwN n0 a j = RT j) (hDT : (false || dbT n0 a) = DT) (C : j_C g κ b_Row_putTogether R_Row rm_Row_putTogether 5) (hR : j_R g κ b_Row_putTogether none (fun r w1 => ∃ (d1 w2 : Nat → BW) (u1 c1 : Nat → Nat), r = none ∧ w1 = [(w0, .inr (0, [.ref nr, .int (b2 DT)])), (nr, .inl (aB g, 384, .inl (bf c1))), (m0, .inr (1, [.ref ms, .ref mw, .ref mf])), (ms, .inl (aI g, 8, .inl (wf d1))), (mw, .inl (aI g, 64, .inl (wf w2))), (mf, .inl (aB g, 32, .inl (bf u1))), (fa, .inl (aB g, 384, .inl (bf a)))] ∧ (∀ j, u1 j < 256) ∧ (∀ j, c1 j < 256) ∧ ∀ j, j < 32 → c1 j = RT j) 0 0) : ∀ (k : Nat) (i : Nat), i ≤ 32 → 33 ≤ i + k → j_V g κ 0 0 8 [(0, .ref w0), (1, .ref fa), (2, .int (nI n0)), (3, .ref m0), (4, .int (nI i))] [] ([(w0, .inr (0, [.ref nr, .int (b2 false)])), (nr, .inl (aB g, 384, .inl (bf (putF c 0 i (fun _ => 0))))), (m0, .inr (1, [.ref ms, .ref mw, .ref mf])), (ms, .inl (aI g, 8, .inl (wf d))), (mw, .inl (aI g, 64, .inl (wf w))), (mf, .inl (aB g, 32, .inl (bf u))), (fa, .inl (aB g, 384, .inl (bf a)))]) := by
  intro k
  induction k with
  | zero =>
    intro i hi hk
    exfalso; omega
  | succ k ih =>
    intro i hi hk
    refine j_iload (pc := 8) C d_Row_putTogether_8 4 rfl ?_
    refine j_bipush (pc := 10) (v := nI 32) C d_Row_putTogether_10 (by decide) ?_
    refine j_icmp_geN (pc := 12) (tgt := 29) C (by omega) (by omega) d_Row_putTogether_12 rfl (fun c12 => ?_) (fun c12 => ?_)
    · skip
      refine j_iconst (pc := 29) (v := nI 0) C d_Row_putTogether_29 (by decide) ?_
      refine j_istore (pc := 30) (lv' := [(4, .int (nI 0)), (0, .ref w0), (1, .ref fa), (2, .int (nI n0)), (3, .ref m0)]) C d_Row_putTogether_30 (by decide) rfl ?_
      refine j_lv (lv' := [(0, .ref w0), (1, .ref fa), (2, .int (nI n0)), (3, .ref m0), (4, .int (nI 0))]) [1, 2, 3, 4, 0] rfl ?_
      have e := lp_ptc (w0 := w0) (nr := nr) (m0 := m0) (ms := ms) (mw := mw) (mf := mf) (fa := fa) (n0 := n0) (a := a) (RT := RT) (z := putF c 0 i (fun _ => 0)) (u := u) (d := d) (w := w) (DT := DT) hn ha (putF_lt hc (fun _ => by decide)) hu (fun h j hj => by rw [← hz0 h j hj]; have := putF_at (t := c) (n := 0) (m := i) (s := fun _ => 0) (j := j) (by omega); rw [Nat.zero_add] at this; exact this) hRT hDT C hR (n0 * 32 + 1) 0 (by omega) (by omega)
      rw [cpT_0] at e
      exact e
    · skip
      refine j_aload_n (pc := 15) C d_Row_putTogether_15 rfl 0 rfl ?_
      refine j_get (pc := 16) C F_Row_9 0 rfl rfl d_Row_putTogether_16 ?_
      refine j_iload (pc := 19) C d_Row_putTogether_19 4 rfl ?_
      refine j_iconst (pc := 21) (v := nI 0) C d_Row_putTogether_21 (by decide) ?_
      refine j_rwi (y := sb_b 0) rfl ?_
      refine j_bastB (pc := 22) (ws' := [(w0, .inr (0, [.ref nr, .int (b2 false)])), (nr, .inl (aB g, 384, .inl (bf (va_up (putF c 0 i (fun _ => 0)) i 0)))), (m0, .inr (1, [.ref ms, .ref mw, .ref mf])), (ms, .inl (aI g, 8, .inl (wf d))), (mw, .inl (aI g, 64, .inl (wf w))), (mf, .inl (aB g, 32, .inl (bf u))), (fa, .inl (aB g, 384, .inl (bf a)))]) C 1 0 rfl rfl (by omega) (by omega) (sb_nar _) rfl d_Row_putTogether_22 ?_
      refine j_iinc (pc := 23) (k := 4) (v := nI (i + 1)) (lv' := [(4, .int (nI (i + 1))), (0, .ref w0), (1, .ref fa), (2, .int (nI n0)), (3, .ref m0)]) C d_Row_putTogether_23 rfl (j_inc _ _) (by decide) rfl ?_
      refine j_goto (pc := 26) (tgt := 8) C d_Row_putTogether_26 rfl ?_
      refine j_lv (lv' := [(0, .ref w0), (1, .ref fa), (2, .int (nI n0)), (3, .ref m0), (4, .int (nI (i + 1)))]) [1, 2, 3, 4, 0] rfl ?_
      have e := ih (i + 1) (by omega) (by omega)
      rw [← putF_s, Nat.zero_add] at e
      exact e
set_option maxHeartbeats 4000000 in
set_option maxRecDepth 100000 in
theorem c_Row_putTogether (l : Launch) (g : JX) (w0 nr m0 ms mw mf fa n0 : Nat) (a c u : Nat → Nat) (d w : Nat → BW) (x : Int32) (hn : n0 ≤ 12) (ha : ∀ j, a j < 256) (hc : ∀ j, c j < 256) (hu : ∀ j, u j < 256) : j_Ct l y_Row_putTogether b_Row_putTogether 5 none rm_Row_putTogether g ([(w0, .inr (0, [.ref nr, .int x])), (nr, .inl (aB g, 384, .inl (bf c))), (m0, .inr (1, [.ref ms, .ref mw, .ref mf])), (ms, .inl (aI g, 8, .inl (wf d))), (mw, .inl (aI g, 64, .inl (wf w))), (mf, .inl (aB g, 32, .inl (bf u))), (fa, .inl (aB g, 384, .inl (bf a)))]) [.ref w0, .ref fa, .int (nI n0), .ref m0] (fun r w1 => ∃ (d1 w2 : Nat → BW) (u1 c1 : Nat → Nat), r = none ∧ w1 = [(w0, .inr (0, [.ref nr, .int (b2 (dbT n0 a))])), (nr, .inl (aB g, 384, .inl (bf c1))), (m0, .inr (1, [.ref ms, .ref mw, .ref mf])), (ms, .inl (aI g, 8, .inl (wf d1))), (mw, .inl (aI g, 64, .inl (wf w2))), (mf, .inl (aB g, 32, .inl (bf u1))), (fa, .inl (aB g, 384, .inl (bf a)))] ∧ (∀ j, u1 j < 256) ∧ (∀ j, c1 j < 256) ∧ ∀ j, j < 32 → c1 j = (fun j => if n0 = 0 then 0 else rwN n0 a j) j) 0 0 := by
  refine j_ct (by decide) (Nat.le_of_ble_eq_true rfl) (fun κ hkl C hR hI => ?_)
  show j_V g κ 0 0 0 [(0, .ref w0), (1, .ref fa), (2, .int (nI n0)), (3, .ref m0)] [] ([(w0, .inr (0, [.ref nr, .int x])), (nr, .inl (aB g, 384, .inl (bf c))), (m0, .inr (1, [.ref ms, .ref mw, .ref mf])), (ms, .inl (aI g, 8, .inl (wf d))), (mw, .inl (aI g, 64, .inl (wf w))), (mf, .inl (aB g, 32, .inl (bf u))), (fa, .inl (aB g, 384, .inl (bf a)))])
  refine j_aload_n (pc := 0) C d_Row_putTogether_0 rfl 0 rfl ?_
  refine j_iconst (pc := 1) (v := nI 0) C d_Row_putTogether_1 (by decide) ?_
  refine j_put (pc := 2) (ws' := [(w0, .inr (0, [.ref nr, .int (nI 0)])), (nr, .inl (aB g, 384, .inl (bf c))), (m0, .inr (1, [.ref ms, .ref mw, .ref mf])), (ms, .inl (aI g, 8, .inl (wf d))), (mw, .inl (aI g, 64, .inl (wf w))), (mf, .inl (aB g, 32, .inl (bf u))), (fa, .inl (aB g, 384, .inl (bf a)))]) C Fp_Row_15 0 rfl (by first | rfl | decide) (by first | rfl | decide) (Nat.le_of_ble_eq_true rfl) rfl d_Row_putTogether_2 ?_
  refine j_iconst (pc := 5) (v := nI 0) C d_Row_putTogether_5 (by decide) ?_
  refine j_istore (pc := 6) (lv' := [(4, .int (nI 0)), (0, .ref w0), (1, .ref fa), (2, .int (nI n0)), (3, .ref m0)]) C d_Row_putTogether_6 (by decide) rfl ?_
  refine j_lv (lv' := [(0, .ref w0), (1, .ref fa), (2, .int (nI n0)), (3, .ref m0), (4, .int (nI 0))]) [1, 2, 3, 4, 0] rfl ?_
  have e := lp_ptz (w0 := w0) (nr := nr) (m0 := m0) (ms := ms) (mw := mw) (mf := mf) (fa := fa) (n0 := n0) (a := a) (RT := fun j => if n0 = 0 then 0 else rwN n0 a j) (c := c) (u := u) (d := d) (w := w) (DT := dbT n0 a) hn ha hc hu (fun h j _ => by rw [if_pos h]) (fun h j _ => by rw [if_neg (by omega)]) (Bool.false_or _) C hR 33 0 (by omega) (by omega)
  rw [putF_0] at e
  exact e
abbrev rm_Row_init : Room := { frames := 1, cells := 1, slots := 384, locals := 20 }
set_option maxHeartbeats 4000000 in
set_option maxRecDepth 100000 in
theorem c_Row_init (l : Launch) (g : JX) (w0 : Nat)  : j_Ct l y_Row_init b_Row_init 1 none rm_Row_init g ([(w0, .inr (0, [.null, .int (0 : Int32)]))]) [.ref w0] (fun r w1 => ∃ nr : Nat, r = none ∧ w1 = [(w0, .inr (0, [.ref nr, .int (b2 false)])), (nr, .inl (aB g, 384, .inl (bf (fun _ => 0))))]) 1 384 := by
  refine j_ct (by decide) (Nat.le_of_ble_eq_true rfl) (fun κ hkl C hR hI => ?_)
  show j_V g κ 0 0 0 [(0, .ref w0)] [] ([(w0, .inr (0, [.null, .int (0 : Int32)]))])
  refine j_aload_n (pc := 0) C d_Row_init_0 rfl 0 rfl ?_
  refine j_objInit (pc := 1) C oi_Row_3 oi_i oi_c (by decide) (Nat.le_of_ble_eq_true rfl) d_Row_init_1 ?_
  refine j_aload_n (pc := 4) C d_Row_init_4 rfl 0 rfl ?_
  refine j_sipush (pc := 5) (v := nI 384) C d_Row_init_5 (by decide) ?_
  refine j_newa (pc := 8) (atype := .byte) (a0 := (384, .inl (bf (fun _ => 0)))) C ac_byte rfl (by intro c h; cases h) 0 rfl (fun _ => rfl) (by decide) (by decide) (by decide) (by decide) (by decide) d_Row_init_8 (fun nr => ?_)
  show j_V g κ 1 384 10 [(0, .ref w0)] [.ref nr, .ref w0] ([(w0, .inr (0, [.null, .int (0 : Int32)])), (nr, .inl (aB g, 384, .inl (bf (fun _ => 0))))])
  refine j_putF (pc := 10) (ws' := [(w0, .inr (0, [.ref nr, .int (0 : Int32)])), (nr, .inl (aB g, 384, .inl (bf (fun _ => 0))))]) C hI Fp_Row_9 0 rfl rfl (by first | rfl | decide) (Nat.le_of_ble_eq_true rfl) rfl d_Row_init_10 ?_
  refine j_aload_n (pc := 13) C d_Row_init_13 rfl 0 rfl ?_
  refine j_iconst (pc := 14) (v := nI 0) C d_Row_init_14 (by decide) ?_
  refine j_put (pc := 15) (ws' := [(w0, .inr (0, [.ref nr, .int (nI 0)])), (nr, .inl (aB g, 384, .inl (bf (fun _ => 0))))]) C Fp_Row_15 0 rfl (by first | rfl | decide) (by first | rfl | decide) (Nat.le_of_ble_eq_true rfl) rfl d_Row_init_15 ?_
  exact hR.2.2 _ _ _ d_Row_init_18 rfl (⟨nr, rfl, rfl⟩)
end
