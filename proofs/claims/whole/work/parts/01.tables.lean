-- ===== PART A: goes FIRST, ahead of the names: the tables' words, and 'selects' of the private methods out of them =====
/-- a private method of a class that the tables say can be made, by its rows of tables_1 -/
def lw_okq (q : MethodName × Nat) : Prop := (q.1.cls ≠ "java/lang/invoke/MethodHandle" ∧ q.1.cls ≠ "java/lang/invoke/VarHandle") ∧ Cond.instantiable q.1.cls q.2 ∈ tables_1 ∧ Cond.privateMethod q.1 ∈ tables_1 ∧ Cond.instanceMethod q.1 ∈ tables_1
theorem lw_p0 : lw_okq (⟨"WireDesk$Text", "add", "(B)V"⟩, 2) := ⟨⟨by decide +kernel, by decide +kernel⟩, List.mem_of_getElem? (i := 17) (by decide +kernel), List.mem_of_getElem? (i := 193) (by decide +kernel), List.mem_of_getElem? (i := 194) (by decide +kernel)⟩
theorem lw_p1 : lw_okq (⟨"WireDesk$Reader", "skip", "(I)V"⟩, 4) := ⟨⟨by decide +kernel, by decide +kernel⟩, List.mem_of_getElem? (i := 33) (by decide +kernel), List.mem_of_getElem? (i := 236) (by decide +kernel), List.mem_of_getElem? (i := 237) (by decide +kernel)⟩
theorem lw_p2 : lw_okq (⟨"WireDesk$Reader", "fail", "(II)V"⟩, 4) := ⟨⟨by decide +kernel, by decide +kernel⟩, List.mem_of_getElem? (i := 33) (by decide +kernel), List.mem_of_getElem? (i := 240) (by decide +kernel), List.mem_of_getElem? (i := 241) (by decide +kernel)⟩
theorem lw_p3 : lw_okq (⟨"WireDesk$Reader", "takeSize", "(I)I"⟩, 4) := ⟨⟨by decide +kernel, by decide +kernel⟩, List.mem_of_getElem? (i := 33) (by decide +kernel), List.mem_of_getElem? (i := 244) (by decide +kernel), List.mem_of_getElem? (i := 245) (by decide +kernel)⟩
theorem lw_p4 : lw_okq (⟨"WireDesk$Reader", "takeInput", "(LWireDesk$Transaction;I)V"⟩, 4) := ⟨⟨by decide +kernel, by decide +kernel⟩, List.mem_of_getElem? (i := 33) (by decide +kernel), List.mem_of_getElem? (i := 265) (by decide +kernel), List.mem_of_getElem? (i := 266) (by decide +kernel)⟩
theorem lw_p5 : lw_okq (⟨"WireDesk$Reader", "takeOutput", "(LWireDesk$Transaction;I)V"⟩, 4) := ⟨⟨by decide +kernel, by decide +kernel⟩, List.mem_of_getElem? (i := 33) (by decide +kernel), List.mem_of_getElem? (i := 269) (by decide +kernel), List.mem_of_getElem? (i := 270) (by decide +kernel)⟩
theorem lw_p6 : lw_okq (⟨"WireDesk", "forget", "()V"⟩, 11) := ⟨⟨by decide +kernel, by decide +kernel⟩, List.mem_of_getElem? (i := 9) (by decide +kernel), List.mem_of_getElem? (i := 278) (by decide +kernel), List.mem_of_getElem? (i := 279) (by decide +kernel)⟩
theorem lw_p7 : lw_okq (⟨"WireDesk", "nameTransactions", "()V"⟩, 11) := ⟨⟨by decide +kernel, by decide +kernel⟩, List.mem_of_getElem? (i := 9) (by decide +kernel), List.mem_of_getElem? (i := 282) (by decide +kernel), List.mem_of_getElem? (i := 283) (by decide +kernel)⟩
theorem lw_p8 : lw_okq (⟨"WireDesk$Namer", "digest", "([BII)V"⟩, 3) := ⟨⟨by decide +kernel, by decide +kernel⟩, List.mem_of_getElem? (i := 57) (by decide +kernel), List.mem_of_getElem? (i := 290) (by decide +kernel), List.mem_of_getElem? (i := 291) (by decide +kernel)⟩
theorem lw_p9 : lw_okq (⟨"WireDesk$Namer", "stretchSchedule", "()V"⟩, 3) := ⟨⟨by decide +kernel, by decide +kernel⟩, List.mem_of_getElem? (i := 57) (by decide +kernel), List.mem_of_getElem? (i := 299) (by decide +kernel), List.mem_of_getElem? (i := 300) (by decide +kernel)⟩
theorem lw_p10 : lw_okq (⟨"WireDesk$Namer", "mixChunk", "()V"⟩, 3) := ⟨⟨by decide +kernel, by decide +kernel⟩, List.mem_of_getElem? (i := 57) (by decide +kernel), List.mem_of_getElem? (i := 306) (by decide +kernel), List.mem_of_getElem? (i := 307) (by decide +kernel)⟩
theorem lw_p11 : lw_okq (⟨"WireDesk$Namer", "writeState", "([BI)V"⟩, 3) := ⟨⟨by decide +kernel, by decide +kernel⟩, List.mem_of_getElem? (i := 57) (by decide +kernel), List.mem_of_getElem? (i := 312) (by decide +kernel), List.mem_of_getElem? (i := 313) (by decide +kernel)⟩
theorem lw_p12 : lw_okq (⟨"WireDesk$NameRow", "putPairsTogether", "(ILWireDesk$Namer;)V"⟩, 2) := ⟨⟨by decide +kernel, by decide +kernel⟩, List.mem_of_getElem? (i := 76) (by decide +kernel), List.mem_of_getElem? (i := 320) (by decide +kernel), List.mem_of_getElem? (i := 321) (by decide +kernel)⟩
theorem lw_p13 : lw_okq (⟨"WireDesk$NameRow", "repeat", "(I)V"⟩, 2) := ⟨⟨by decide +kernel, by decide +kernel⟩, List.mem_of_getElem? (i := 76) (by decide +kernel), List.mem_of_getElem? (i := 324) (by decide +kernel), List.mem_of_getElem? (i := 325) (by decide +kernel)⟩
theorem lw_p14 : lw_okq (⟨"WireDesk$NameRow", "alike", "(I)Z"⟩, 2) := ⟨⟨by decide +kernel, by decide +kernel⟩, List.mem_of_getElem? (i := 76) (by decide +kernel), List.mem_of_getElem? (i := 328) (by decide +kernel), List.mem_of_getElem? (i := 329) (by decide +kernel)⟩
theorem lw_p15 : lw_okq (⟨"WireDesk", "hasTransaction", "(I)Z"⟩, 11) := ⟨⟨by decide +kernel, by decide +kernel⟩, List.mem_of_getElem? (i := 9) (by decide +kernel), List.mem_of_getElem? (i := 352) (by decide +kernel), List.mem_of_getElem? (i := 353) (by decide +kernel)⟩
def lw_privs_1 : List (MethodName × Nat) := [(⟨"WireDesk$Text", "add", "(B)V"⟩, 2), (⟨"WireDesk$Reader", "skip", "(I)V"⟩, 4), (⟨"WireDesk$Reader", "fail", "(II)V"⟩, 4), (⟨"WireDesk$Reader", "takeSize", "(I)I"⟩, 4), (⟨"WireDesk$Reader", "takeInput", "(LWireDesk$Transaction;I)V"⟩, 4), (⟨"WireDesk$Reader", "takeOutput", "(LWireDesk$Transaction;I)V"⟩, 4), (⟨"WireDesk", "forget", "()V"⟩, 11), (⟨"WireDesk", "nameTransactions", "()V"⟩, 11), (⟨"WireDesk$Namer", "digest", "([BII)V"⟩, 3), (⟨"WireDesk$Namer", "stretchSchedule", "()V"⟩, 3), (⟨"WireDesk$Namer", "mixChunk", "()V"⟩, 3), (⟨"WireDesk$Namer", "writeState", "([BI)V"⟩, 3), (⟨"WireDesk$NameRow", "putPairsTogether", "(ILWireDesk$Namer;)V"⟩, 2), (⟨"WireDesk$NameRow", "repeat", "(I)V"⟩, 2), (⟨"WireDesk$NameRow", "alike", "(I)Z"⟩, 2), (⟨"WireDesk", "hasTransaction", "(I)Z"⟩, 11)]
theorem lw_r1 : ∀ q ∈ lw_privs_1, lw_okq q := List.forall_mem_cons.mpr ⟨lw_p0, List.forall_mem_cons.mpr ⟨lw_p1, List.forall_mem_cons.mpr ⟨lw_p2, List.forall_mem_cons.mpr ⟨lw_p3, List.forall_mem_cons.mpr ⟨lw_p4, List.forall_mem_cons.mpr ⟨lw_p5, List.forall_mem_cons.mpr ⟨lw_p6, List.forall_mem_cons.mpr ⟨lw_p7, List.forall_mem_cons.mpr ⟨lw_p8, List.forall_mem_cons.mpr ⟨lw_p9, List.forall_mem_cons.mpr ⟨lw_p10, List.forall_mem_cons.mpr ⟨lw_p11, List.forall_mem_cons.mpr ⟨lw_p12, List.forall_mem_cons.mpr ⟨lw_p13, List.forall_mem_cons.mpr ⟨lw_p14, List.forall_mem_cons.mpr ⟨lw_p15, fun _ h => absurd h List.not_mem_nil⟩⟩⟩⟩⟩⟩⟩⟩⟩⟩⟩⟩⟩⟩⟩⟩
theorem lw_p16 : lw_okq (⟨"WireDeskModel", "rootOf", "(II)J"⟩, 32) := ⟨⟨by decide +kernel, by decide +kernel⟩, List.mem_of_getElem? (i := 375) (by decide +kernel), List.mem_of_getElem? (i := 384) (by decide +kernel), List.mem_of_getElem? (i := 385) (by decide +kernel)⟩
theorem lw_p17 : lw_okq (⟨"WireDeskModel", "fits", "(JII)Z"⟩, 32) := ⟨⟨by decide +kernel, by decide +kernel⟩, List.mem_of_getElem? (i := 375) (by decide +kernel), List.mem_of_getElem? (i := 388) (by decide +kernel), List.mem_of_getElem? (i := 389) (by decide +kernel)⟩
theorem lw_p18 : lw_okq (⟨"WireDeskModel", "lay", "(JIZ)Z"⟩, 32) := ⟨⟨by decide +kernel, by decide +kernel⟩, List.mem_of_getElem? (i := 375) (by decide +kernel), List.mem_of_getElem? (i := 497) (by decide +kernel), List.mem_of_getElem? (i := 498) (by decide +kernel)⟩
theorem lw_p19 : lw_okq (⟨"WireDeskModel", "pass", "(I)V"⟩, 32) := ⟨⟨by decide +kernel, by decide +kernel⟩, List.mem_of_getElem? (i := 375) (by decide +kernel), List.mem_of_getElem? (i := 515) (by decide +kernel), List.mem_of_getElem? (i := 516) (by decide +kernel)⟩
theorem lw_p20 : lw_okq (⟨"WireDeskModel", "fails", "(II)V"⟩, 32) := ⟨⟨by decide +kernel, by decide +kernel⟩, List.mem_of_getElem? (i := 375) (by decide +kernel), List.mem_of_getElem? (i := 519) (by decide +kernel), List.mem_of_getElem? (i := 520) (by decide +kernel)⟩
theorem lw_p21 : lw_okq (⟨"WireDeskModel", "sizeOf", "(I)I"⟩, 32) := ⟨⟨by decide +kernel, by decide +kernel⟩, List.mem_of_getElem? (i := 375) (by decide +kernel), List.mem_of_getElem? (i := 523) (by decide +kernel), List.mem_of_getElem? (i := 524) (by decide +kernel)⟩
theorem lw_p22 : lw_okq (⟨"WireDeskModel", "lowAt", "(II)J"⟩, 32) := ⟨⟨by decide +kernel, by decide +kernel⟩, List.mem_of_getElem? (i := 375) (by decide +kernel), List.mem_of_getElem? (i := 527) (by decide +kernel), List.mem_of_getElem? (i := 528) (by decide +kernel)⟩
theorem lw_p23 : lw_okq (⟨"WireDeskModel", "transaction", "(I)V"⟩, 32) := ⟨⟨by decide +kernel, by decide +kernel⟩, List.mem_of_getElem? (i := 375) (by decide +kernel), List.mem_of_getElem? (i := 531) (by decide +kernel), List.mem_of_getElem? (i := 532) (by decide +kernel)⟩
theorem lw_p24 : lw_okq (⟨"WireDeskModel", "nameOf", "(III)V"⟩, 32) := ⟨⟨by decide +kernel, by decide +kernel⟩, List.mem_of_getElem? (i := 375) (by decide +kernel), List.mem_of_getElem? (i := 535) (by decide +kernel), List.mem_of_getElem? (i := 536) (by decide +kernel)⟩
theorem lw_p25 : lw_okq (⟨"WireDeskModel", "twice", "(I)V"⟩, 32) := ⟨⟨by decide +kernel, by decide +kernel⟩, List.mem_of_getElem? (i := 375) (by decide +kernel), List.mem_of_getElem? (i := 539) (by decide +kernel), List.mem_of_getElem? (i := 540) (by decide +kernel)⟩
theorem lw_p26 : lw_okq (⟨"WireDeskModel", "digestOf", "(I)V"⟩, 32) := ⟨⟨by decide +kernel, by decide +kernel⟩, List.mem_of_getElem? (i := 375) (by decide +kernel), List.mem_of_getElem? (i := 543) (by decide +kernel), List.mem_of_getElem? (i := 544) (by decide +kernel)⟩
theorem lw_p27 : lw_okq (⟨"WireDeskModel", "block", "(I)V"⟩, 32) := ⟨⟨by decide +kernel, by decide +kernel⟩, List.mem_of_getElem? (i := 375) (by decide +kernel), List.mem_of_getElem? (i := 548) (by decide +kernel), List.mem_of_getElem? (i := 549) (by decide +kernel)⟩
theorem lw_p28 : lw_okq (⟨"WireDeskModel", "join", "()V"⟩, 32) := ⟨⟨by decide +kernel, by decide +kernel⟩, List.mem_of_getElem? (i := 375) (by decide +kernel), List.mem_of_getElem? (i := 561) (by decide +kernel), List.mem_of_getElem? (i := 562) (by decide +kernel)⟩
theorem lw_p29 : lw_okq (⟨"WireDeskModel", "isTransaction", "(I)Z"⟩, 32) := ⟨⟨by decide +kernel, by decide +kernel⟩, List.mem_of_getElem? (i := 375) (by decide +kernel), List.mem_of_getElem? (i := 582) (by decide +kernel), List.mem_of_getElem? (i := 583) (by decide +kernel)⟩
def lw_privs_2 : List (MethodName × Nat) := [(⟨"WireDeskModel", "rootOf", "(II)J"⟩, 32), (⟨"WireDeskModel", "fits", "(JII)Z"⟩, 32), (⟨"WireDeskModel", "lay", "(JIZ)Z"⟩, 32), (⟨"WireDeskModel", "pass", "(I)V"⟩, 32), (⟨"WireDeskModel", "fails", "(II)V"⟩, 32), (⟨"WireDeskModel", "sizeOf", "(I)I"⟩, 32), (⟨"WireDeskModel", "lowAt", "(II)J"⟩, 32), (⟨"WireDeskModel", "transaction", "(I)V"⟩, 32), (⟨"WireDeskModel", "nameOf", "(III)V"⟩, 32), (⟨"WireDeskModel", "twice", "(I)V"⟩, 32), (⟨"WireDeskModel", "digestOf", "(I)V"⟩, 32), (⟨"WireDeskModel", "block", "(I)V"⟩, 32), (⟨"WireDeskModel", "join", "()V"⟩, 32), (⟨"WireDeskModel", "isTransaction", "(I)Z"⟩, 32)]
theorem lw_r2 : ∀ q ∈ lw_privs_2, lw_okq q := List.forall_mem_cons.mpr ⟨lw_p16, List.forall_mem_cons.mpr ⟨lw_p17, List.forall_mem_cons.mpr ⟨lw_p18, List.forall_mem_cons.mpr ⟨lw_p19, List.forall_mem_cons.mpr ⟨lw_p20, List.forall_mem_cons.mpr ⟨lw_p21, List.forall_mem_cons.mpr ⟨lw_p22, List.forall_mem_cons.mpr ⟨lw_p23, List.forall_mem_cons.mpr ⟨lw_p24, List.forall_mem_cons.mpr ⟨lw_p25, List.forall_mem_cons.mpr ⟨lw_p26, List.forall_mem_cons.mpr ⟨lw_p27, List.forall_mem_cons.mpr ⟨lw_p28, List.forall_mem_cons.mpr ⟨lw_p29, fun _ h => absurd h List.not_mem_nil⟩⟩⟩⟩⟩⟩⟩⟩⟩⟩⟩⟩⟩⟩
def lw_privs : List (MethodName × Nat) := lw_privs_1 ++ (lw_privs_2)
def lw_tbl : List Cond := k2_sels lw_privs ++ tables_1
theorem lw_privs_ok : ∀ q ∈ lw_privs, lw_okq q := by
  show ∀ q ∈ lw_privs_1 ++ (lw_privs_2), lw_okq q
  exact List.forall_mem_append.mpr ⟨lw_r1, lw_r2⟩
def R_Row : String := "WireDesk$NameRow"
def T_Row : u_T := fun k => match k with
  | 0 => ("WireDesk$NameRow", "names", "[B", true)
  | _ => ("WireDesk$NameRow", "doubtful", "Z", false)
def t_Row : Nat → FieldType := fun k => match k with
  | 0 => .array .byte
  | _ => .boolean
theorem n_Row : ∀ a, a < 2 → ∀ b, b < 2 → a ≠ b → (T_Row a).2.1 ≠ (T_Row b).2.1 := by decide +kernel
theorem t_Row_ok : ∀ k, k < 2 → parseFieldDescriptor (T_Row k).2.2.1 = some (t_Row k) := by decide +kernel
def R_Nam : String := "WireDesk$Namer"
def T_Nam : u_T := fun k => match k with
  | 0 => ("WireDesk$Namer", "state", "[I", true)
  | 1 => ("WireDesk$Namer", "schedule", "[I", true)
  | _ => ("WireDesk$Namer", "firstDigest", "[B", true)
def t_Nam : Nat → FieldType := fun k => match k with
  | 0 => .array .int
  | 1 => .array .int
  | _ => .array .byte
theorem n_Nam : ∀ a, a < 3 → ∀ b, b < 3 → a ≠ b → (T_Nam a).2.1 ≠ (T_Nam b).2.1 := by decide +kernel
theorem t_Nam_ok : ∀ k, k < 3 → parseFieldDescriptor (T_Nam k).2.2.1 = some (t_Nam k) := by decide +kernel
def R_Rea : String := "WireDesk$Reader"
def T_Rea : u_T := fun k => match k with
  | 0 => ("WireDesk$Reader", "text", "LWireDesk$Text;", true)
  | 1 => ("WireDesk$Reader", "next", "I", false)
  | 2 => ("WireDesk$Reader", "fault", "I", false)
  | _ => ("WireDesk$Reader", "faultPlace", "I", false)
def t_Rea : Nat → FieldType := fun k => match k with
  | 0 => .object "WireDesk$Text"
  | 1 => .int
  | 2 => .int
  | _ => .int
theorem n_Rea : ∀ a, a < 4 → ∀ b, b < 4 → a ≠ b → (T_Rea a).2.1 ≠ (T_Rea b).2.1 := by decide +kernel
theorem t_Rea_ok : ∀ k, k < 4 → parseFieldDescriptor (T_Rea k).2.2.1 = some (t_Rea k) := by decide +kernel
def R_Txt : String := "WireDesk$Text"
def T_Txt : u_T := fun k => match k with
  | 0 => ("WireDesk$Text", "bytes", "[B", true)
  | _ => ("WireDesk$Text", "length", "I", false)
def t_Txt : Nat → FieldType := fun k => match k with
  | 0 => .array .byte
  | _ => .int
theorem n_Txt : ∀ a, a < 2 → ∀ b, b < 2 → a ≠ b → (T_Txt a).2.1 ≠ (T_Txt b).2.1 := by decide +kernel
theorem t_Txt_ok : ∀ k, k < 2 → parseFieldDescriptor (T_Txt k).2.2.1 = some (t_Txt k) := by decide +kernel
def R_Tra : String := "WireDesk$Transaction"
def T_Tra : u_T := fun k => match k with
  | 0 => ("WireDesk$Transaction", "begin", "I", false)
  | 1 => ("WireDesk$Transaction", "end", "I", false)
  | 2 => ("WireDesk$Transaction", "inputCount", "I", false)
  | 3 => ("WireDesk$Transaction", "outputCount", "I", false)
  | 4 => ("WireDesk$Transaction", "inputBegin", "[I", true)
  | 5 => ("WireDesk$Transaction", "inputScript", "[I", true)
  | 6 => ("WireDesk$Transaction", "inputScriptBytes", "[I", true)
  | 7 => ("WireDesk$Transaction", "outputBegin", "[I", true)
  | 8 => ("WireDesk$Transaction", "outputScript", "[I", true)
  | _ => ("WireDesk$Transaction", "outputScriptBytes", "[I", true)
def t_Tra : Nat → FieldType := fun k => match k with
  | 0 => .int
  | 1 => .int
  | 2 => .int
  | 3 => .int
  | 4 => .array .int
  | 5 => .array .int
  | 6 => .array .int
  | 7 => .array .int
  | 8 => .array .int
  | _ => .array .int
theorem n_Tra : ∀ a, a < 10 → ∀ b, b < 10 → a ≠ b → (T_Tra a).2.1 ≠ (T_Tra b).2.1 := by decide +kernel
theorem t_Tra_ok : ∀ k, k < 10 → parseFieldDescriptor (T_Tra k).2.2.1 = some (t_Tra k) := by decide +kernel
def R_Dsk : String := "WireDesk"
def T_Dsk : u_T := fun k => match k with
  | 0 => ("WireDesk", "written", "LWireDesk$Text;", true)
  | 1 => ("WireDesk", "reader", "LWireDesk$Reader;", true)
  | 2 => ("WireDesk", "kept", "LWireDesk$Text;", true)
  | 3 => ("WireDesk", "namer", "LWireDesk$Namer;", true)
  | 4 => ("WireDesk", "transactions", "[LWireDesk$Transaction;", true)
  | 5 => ("WireDesk", "transactionCount", "I", false)
  | 6 => ("WireDesk", "blockKept", "Z", false)
  | 7 => ("WireDesk", "faultPlace", "I", false)
  | 8 => ("WireDesk", "transactionNames", "[B", true)
  | 9 => ("WireDesk", "blockName", "[B", true)
  | _ => ("WireDesk", "row", "LWireDesk$NameRow;", true)
def t_Dsk : Nat → FieldType := fun k => match k with
  | 0 => .object "WireDesk$Text"
  | 1 => .object "WireDesk$Reader"
  | 2 => .object "WireDesk$Text"
  | 3 => .object "WireDesk$Namer"
  | 4 => .array (.object "WireDesk$Transaction")
  | 5 => .int
  | 6 => .boolean
  | 7 => .int
  | 8 => .array .byte
  | 9 => .array .byte
  | _ => .object "WireDesk$NameRow"
theorem n_Dsk : ∀ a, a < 11 → ∀ b, b < 11 → a ≠ b → (T_Dsk a).2.1 ≠ (T_Dsk b).2.1 := by decide +kernel
theorem t_Dsk_ok : ∀ k, k < 11 → parseFieldDescriptor (T_Dsk k).2.2.1 = some (t_Dsk k) := by decide +kernel
def R_Mod : String := "WireDeskModel"
def T_Mod : u_T := fun k => match k with
  | 0 => ("WireDeskModel", "text", "[I", true)
  | 1 => ("WireDeskModel", "size", "I", false)
  | 2 => ("WireDeskModel", "bytes", "[I", true)
  | 3 => ("WireDeskModel", "length", "I", false)
  | 4 => ("WireDeskModel", "isBlock", "Z", false)
  | 5 => ("WireDeskModel", "many", "I", false)
  | 6 => ("WireDeskModel", "place", "I", false)
  | 7 => ("WireDeskModel", "at", "I", false)
  | 8 => ("WireDeskModel", "wrong", "I", false)
  | 9 => ("WireDeskModel", "where", "I", false)
  | 10 => ("WireDeskModel", "begins", "[I", true)
  | 11 => ("WireDeskModel", "ends", "[I", true)
  | 12 => ("WireDeskModel", "inputs", "[I", true)
  | 13 => ("WireDeskModel", "outputs", "[I", true)
  | 14 => ("WireDeskModel", "inputAt", "[I", true)
  | 15 => ("WireDeskModel", "inputScript", "[I", true)
  | 16 => ("WireDeskModel", "inputSize", "[I", true)
  | 17 => ("WireDeskModel", "outputAt", "[I", true)
  | 18 => ("WireDeskModel", "outputScript", "[I", true)
  | 19 => ("WireDeskModel", "outputSize", "[I", true)
  | 20 => ("WireDeskModel", "names", "[I", true)
  | 21 => ("WireDeskModel", "row", "[I", true)
  | 22 => ("WireDeskModel", "root", "[I", true)
  | 23 => ("WireDeskModel", "doubtful", "Z", false)
  | 24 => ("WireDeskModel", "padded", "[I", true)
  | 25 => ("WireDeskModel", "digest", "[I", true)
  | 26 => ("WireDeskModel", "cubes", "[J", true)
  | 27 => ("WireDeskModel", "squares", "[J", true)
  | 28 => ("WireDeskModel", "w", "[J", true)
  | 29 => ("WireDeskModel", "h", "[J", true)
  | 30 => ("WireDeskModel", "x", "[J", true)
  | _ => ("WireDeskModel", "y", "[J", true)
def t_Mod : Nat → FieldType := fun k => match k with
  | 0 => .array .int
  | 1 => .int
  | 2 => .array .int
  | 3 => .int
  | 4 => .boolean
  | 5 => .int
  | 6 => .int
  | 7 => .int
  | 8 => .int
  | 9 => .int
  | 10 => .array .int
  | 11 => .array .int
  | 12 => .array .int
  | 13 => .array .int
  | 14 => .array .int
  | 15 => .array .int
  | 16 => .array .int
  | 17 => .array .int
  | 18 => .array .int
  | 19 => .array .int
  | 20 => .array .int
  | 21 => .array .int
  | 22 => .array .int
  | 23 => .boolean
  | 24 => .array .int
  | 25 => .array .int
  | 26 => .array .long
  | 27 => .array .long
  | 28 => .array .long
  | 29 => .array .long
  | 30 => .array .long
  | _ => .array .long
theorem n_Mod : ∀ a, a < 32 → ∀ b, b < 32 → a ≠ b → (T_Mod a).2.1 ≠ (T_Mod b).2.1 := by decide +kernel
theorem t_Mod_ok : ∀ k, k < 32 → parseFieldDescriptor (T_Mod k).2.2.1 = some (t_Mod k) := by decide +kernel
/-- the classes whose objects the worlds hold -/
abbrev vwCl : List vw_C := [(R_Row, T_Row, 2), (R_Nam, T_Nam, 3), (R_Rea, T_Rea, 4), (R_Txt, T_Txt, 2), (R_Tra, T_Tra, 10), (R_Dsk, T_Dsk, 11), (R_Mod, T_Mod, 32)]
/-- the tables' words that are carried into every call -/
def TB : List Cond := lw_tbl.filter goodWord
theorem TB_good (w : Cond) (h : w ∈ TB) : w ∈ TB ∧ ((w.onTables && w.keeps) = true ∨ ∃ ty, w = .arrayClass ty) := ⟨h, good_of_word (List.mem_filter.mp h).2⟩
theorem TB_of {w : Cond} (i : Nat) (h : tables_1[i]? = some w) (hg : goodWord w = true) : w ∈ TB := List.mem_filter.mpr ⟨List.mem_append_right _ (List.mem_of_getElem? h), hg⟩
theorem TB_sel {q : MethodName × Nat} (i : Nat) (h : lw_privs[i]? = some q) : Cond.selects q.1.cls q.1 q.1 ∈ TB := List.mem_filter.mpr ⟨List.mem_append_left _ (List.mem_map.mpr ⟨q, List.mem_of_getElem? h, rfl⟩), rfl⟩
theorem TB_tbl {w : Cond} (h : w ∈ TB) : w ∈ lw_tbl := (List.mem_filter.mp h).1
theorem i_Row : ∀ w ∈ u_ws R_Row T_Row 2, w ∈ TB := by decide +kernel
theorem i_Nam : ∀ w ∈ u_ws R_Nam T_Nam 3, w ∈ TB := by decide +kernel
theorem i_Rea : ∀ w ∈ u_ws R_Rea T_Rea 4, w ∈ TB := by decide +kernel
theorem i_Txt : ∀ w ∈ u_ws R_Txt T_Txt 2, w ∈ TB := by decide +kernel
theorem i_Tra : ∀ w ∈ u_ws R_Tra T_Tra 10, w ∈ TB := by decide +kernel
theorem i_Dsk : ∀ w ∈ u_ws R_Dsk T_Dsk 11, w ∈ TB := by decide +kernel
theorem i_Mod : ∀ w ∈ u_ws R_Mod T_Mod 32, w ∈ TB := by decide +kernel
/-- links of nest mates -/
def jN : List Cond := [.methodLinkNest "WireDesk" 9 ⟨"WireDesk$Text", "<init>", "()V"⟩ "WireDesk", .methodLinkNest "WireDesk" 18 ⟨"WireDesk$Reader", "<init>", "()V"⟩ "WireDesk", .methodLinkNest "WireDesk" 31 ⟨"WireDesk$Namer", "<init>", "()V"⟩ "WireDesk", .methodLinkNest "WireDesk" 62 ⟨"WireDesk$NameRow", "<init>", "()V"⟩ "WireDesk", .methodLinkNest "WireDesk" 67 ⟨"WireDesk$Transaction", "<init>", "()V"⟩ "WireDesk", .methodLinkNest "WireDesk$Reader" 11 ⟨"WireDesk$Text", "<init>", "()V"⟩ "WireDesk", .methodLinkNest "WireDesk$Reader" 90 ⟨"WireDesk", "widthOfMark", "(I)I"⟩ "WireDesk", .methodLinkNest "WireDesk$Reader" 97 ⟨"WireDesk", "widthOfSize", "(J)I"⟩ "WireDesk"]
def j_isNest : Cond → Bool
  | .methodLinkNest .. => true
  | .fieldLinkNest .. => true
  | _ => false
theorem jN_ok : jN.all j_isNest = true := by decide +kernel
theorem jN_in : ∀ w ∈ jN, w ∈ lw_tbl := by decide +kernel
theorem j_nest_on {w : Cond} (h : w ∈ jN) : w.onTables = true := by
  have h2 : j_isNest w = true := List.all_eq_true.mp jN_ok w h
  cases w <;> first | rfl | (simp [j_isNest] at h2)
abbrev JX : Type := (Nat → ClassId) × (Nat → Nat → Nat) × (Nat → ClassId) × (Nat → Nat)
abbrev jD (g : JX) : va_G := (g.1, g.2.1)
abbrev aB (g : JX) : ClassId := g.2.2.1 0
abbrev aI (g : JX) : ClassId := g.2.2.1 1
abbrev aQ (g : JX) : ClassId := g.2.2.1 2
abbrev aJ (g : JX) : ClassId := g.2.2.1 3
abbrev tS (g : JX) : Nat := g.2.2.2 0
abbrev tR (g : JX) : Nat := g.2.2.2 1
abbrev jT (g : JX) : List (ClassId × FieldType) := [(aB g, .byte), (aI g, .int), (aQ g, .object "WireDesk$Transaction"), (aJ g, .long)]
def kSTART : List Int32 := [1779033703, -1150833019, 1013904242, -1521486534, 1359893119, -1694144372, 528734635, 1541459225]
def vSTART : Nat → Value := fun j => .int (kSTART.getD j 0)
def kROUND : List Int32 := [1116352408, 1899447441, -1245643825, -373957723, 961987163, 1508970993, -1841331548, -1424204075, -670586216, 310598401, 607225278, 1426881987, 1925078388, -2132889090, -1680079193, -1046744716, -459576895, -272742522, 264347078, 604807628, 770255983, 1249150122, 1555081692, 1996064986, -1740746414, -1473132947, -1341970488, -1084653625, -958395405, -710438585, 113926993, 338241895, 666307205, 773529912, 1294757372, 1396182291, 1695183700, 1986661051, -2117940946, -1838011259, -1564481375, -1474664885, -1035236496, -949202525, -778901479, -694614492, -200395387, 275423344, 430227734, 506948616, 659060556, 883997877, 958139571, 1322822218, 1537002063, 1747873779, 1955562222, 2024104815, -2067236844, -1933114872, -1866530822, -1538233109, -1090935817, -965641998]
def vROUND : Nat → Value := fun j => .int (kROUND.getD j 0)
/-- the static tables, and the array class of Transaction[] -/
def j_Z (g : JX) (A : Nat → Prop) (U : State) (H : Heap) : Prop := va_Z "WireDesk$Namer" "START" "[I" (.ref (tS g)) A U H ∧ va_T .int (tS g) 8 vSTART A U H ∧ va_Z "WireDesk$Namer" "ROUND" "[I" (.ref (tR g)) A U H ∧ va_T .int (tR g) 64 vROUND A U H ∧ va_AO "WireDesk$Transaction" U
theorem j_Z.go {g : JX} {A B : Nat → Prop} {s U : State} {H H1 : Heap} (h : j_Z g A s H) (hvm : s.vm.Alike U.vm) (hq : ∀ a : Nat, a < H.size → ¬ A a → H1[a]? = H[a]?) (hAB : ∀ q, B q → A q) : j_Z g B U H1 := by
  obtain ⟨h1, h2, h3, h4, h5⟩ := h
  exact ⟨((va_Z.moved hvm h1).kept hq).narrow hAB, ((va_T.moved hvm h2).kept hq).narrow hAB, ((va_Z.moved hvm h3).kept hq).narrow hAB, ((va_T.moved hvm h4).kept hq).narrow hAB, va_AO.moved hvm h5⟩
