-- ===== PART A: goes FIRST, ahead of the names: the tables' words, and 'selects' of the private methods out of them =====
/-- a method of its own that the tables say can be made, by its rows of tables_1 -/
def lw_okq (q : MethodName × Nat) : Prop := (q.1.cls ≠ "java/lang/invoke/MethodHandle" ∧ q.1.cls ≠ "java/lang/invoke/VarHandle") ∧ Cond.instantiable q.1.cls q.2 ∈ tables_1 ∧ Cond.privateMethod q.1 ∈ tables_1 ∧ Cond.instanceMethod q.1 ∈ tables_1
theorem lw_p0 : lw_okq (⟨"TextKeeper", "needPower", "()V"⟩, 9) := ⟨⟨by decide +kernel, by decide +kernel⟩, List.mem_of_getElem? (i := 20) (by decide +kernel), List.mem_of_getElem? (i := 146) (by decide +kernel), List.mem_of_getElem? (i := 147) (by decide +kernel)⟩
theorem lw_p1 : lw_okq (⟨"java/lang/Throwable", "fillInStackTrace", "(I)Ljava/lang/Throwable;"⟩, 6) := ⟨⟨by decide +kernel, by decide +kernel⟩, List.mem_of_getElem? (i := 188) (by decide +kernel), List.mem_of_getElem? (i := 186) (by decide +kernel), List.mem_of_getElem? (i := 187) (by decide +kernel)⟩
theorem lw_p2 : lw_okq (⟨"TextKeeper", "spendWrites", "(I)V"⟩, 9) := ⟨⟨by decide +kernel, by decide +kernel⟩, List.mem_of_getElem? (i := 20) (by decide +kernel), List.mem_of_getElem? (i := 243) (by decide +kernel), List.mem_of_getElem? (i := 244) (by decide +kernel)⟩
theorem lw_p3 : lw_okq (⟨"TextKeeper", "documentAt", "(I)LTextKeeper$Document;"⟩, 9) := ⟨⟨by decide +kernel, by decide +kernel⟩, List.mem_of_getElem? (i := 20) (by decide +kernel), List.mem_of_getElem? (i := 277) (by decide +kernel), List.mem_of_getElem? (i := 278) (by decide +kernel)⟩
theorem lw_p4 : lw_okq (⟨"TextKeeper$Maker", "makeNext", "(LTextKeeper$Document;I)Z"⟩, 4) := ⟨⟨by decide +kernel, by decide +kernel⟩, List.mem_of_getElem? (i := 47) (by decide +kernel), List.mem_of_getElem? (i := 297) (by decide +kernel), List.mem_of_getElem? (i := 298) (by decide +kernel)⟩
theorem lw_p5 : lw_okq (⟨"TextKeeper$Maker", "obeyCommand", "()Z"⟩, 4) := ⟨⟨by decide +kernel, by decide +kernel⟩, List.mem_of_getElem? (i := 47) (by decide +kernel), List.mem_of_getElem? (i := 305) (by decide +kernel), List.mem_of_getElem? (i := 306) (by decide +kernel)⟩
theorem lw_p6 : lw_okq (⟨"TextKeeper$Maker", "readNumber", "()I"⟩, 4) := ⟨⟨by decide +kernel, by decide +kernel⟩, List.mem_of_getElem? (i := 47) (by decide +kernel), List.mem_of_getElem? (i := 309) (by decide +kernel), List.mem_of_getElem? (i := 310) (by decide +kernel)⟩
theorem lw_p7 : lw_okq (⟨"TextKeeper$Maker", "insert", "(I)Z"⟩, 4) := ⟨⟨by decide +kernel, by decide +kernel⟩, List.mem_of_getElem? (i := 47) (by decide +kernel), List.mem_of_getElem? (i := 314) (by decide +kernel), List.mem_of_getElem? (i := 315) (by decide +kernel)⟩
theorem lw_p8 : lw_okq (⟨"TextKeeper$Maker", "copy", "(I)Z"⟩, 4) := ⟨⟨by decide +kernel, by decide +kernel⟩, List.mem_of_getElem? (i := 47) (by decide +kernel), List.mem_of_getElem? (i := 319) (by decide +kernel), List.mem_of_getElem? (i := 320) (by decide +kernel)⟩
theorem lw_p9 : lw_okq (⟨"TextKeeper$PieceWriter", "writeDifferences", "(LTextKeeper$Text;LTextKeeper$Text;)V"⟩, 2) := ⟨⟨by decide +kernel, by decide +kernel⟩, List.mem_of_getElem? (i := 68) (by decide +kernel), List.mem_of_getElem? (i := 331) (by decide +kernel), List.mem_of_getElem? (i := 332) (by decide +kernel)⟩
theorem lw_p10 : lw_okq (⟨"TextKeeper$PieceWriter", "writeInsert", "(LTextKeeper$Text;II)V"⟩, 2) := ⟨⟨by decide +kernel, by decide +kernel⟩, List.mem_of_getElem? (i := 68) (by decide +kernel), List.mem_of_getElem? (i := 345) (by decide +kernel), List.mem_of_getElem? (i := 346) (by decide +kernel)⟩
theorem lw_p11 : lw_okq (⟨"TextKeeper$PieceWriter", "writeNumber", "(I)V"⟩, 2) := ⟨⟨by decide +kernel, by decide +kernel⟩, List.mem_of_getElem? (i := 68) (by decide +kernel), List.mem_of_getElem? (i := 349) (by decide +kernel), List.mem_of_getElem? (i := 350) (by decide +kernel)⟩
theorem lw_p12 : lw_okq (⟨"TextKeeper$PieceWriter", "writeByte", "(I)V"⟩, 2) := ⟨⟨by decide +kernel, by decide +kernel⟩, List.mem_of_getElem? (i := 68) (by decide +kernel), List.mem_of_getElem? (i := 356) (by decide +kernel), List.mem_of_getElem? (i := 357) (by decide +kernel)⟩
theorem lw_p13 : lw_okq (⟨"TextKeeper", "countFree", "()I"⟩, 9) := ⟨⟨by decide +kernel, by decide +kernel⟩, List.mem_of_getElem? (i := 20) (by decide +kernel), List.mem_of_getElem? (i := 378) (by decide +kernel), List.mem_of_getElem? (i := 379) (by decide +kernel)⟩
theorem lw_p14 : lw_okq (⟨"TextKeeper", "keptRevision", "(II)LTextKeeper$Revision;"⟩, 9) := ⟨⟨by decide +kernel, by decide +kernel⟩, List.mem_of_getElem? (i := 20) (by decide +kernel), List.mem_of_getElem? (i := 523) (by decide +kernel), List.mem_of_getElem? (i := 524) (by decide +kernel)⟩
theorem lw_p15 : lw_okq (⟨"TextKeeper", "isSound", "(LTextKeeper$Document;I)Z"⟩, 9) := ⟨⟨by decide +kernel, by decide +kernel⟩, List.mem_of_getElem? (i := 20) (by decide +kernel), List.mem_of_getElem? (i := 553) (by decide +kernel), List.mem_of_getElem? (i := 554) (by decide +kernel)⟩
def lw_privs_1 : List (MethodName × Nat) := [(⟨"TextKeeper", "needPower", "()V"⟩, 9), (⟨"java/lang/Throwable", "fillInStackTrace", "(I)Ljava/lang/Throwable;"⟩, 6), (⟨"TextKeeper", "spendWrites", "(I)V"⟩, 9), (⟨"TextKeeper", "documentAt", "(I)LTextKeeper$Document;"⟩, 9), (⟨"TextKeeper$Maker", "makeNext", "(LTextKeeper$Document;I)Z"⟩, 4), (⟨"TextKeeper$Maker", "obeyCommand", "()Z"⟩, 4), (⟨"TextKeeper$Maker", "readNumber", "()I"⟩, 4), (⟨"TextKeeper$Maker", "insert", "(I)Z"⟩, 4), (⟨"TextKeeper$Maker", "copy", "(I)Z"⟩, 4), (⟨"TextKeeper$PieceWriter", "writeDifferences", "(LTextKeeper$Text;LTextKeeper$Text;)V"⟩, 2), (⟨"TextKeeper$PieceWriter", "writeInsert", "(LTextKeeper$Text;II)V"⟩, 2), (⟨"TextKeeper$PieceWriter", "writeNumber", "(I)V"⟩, 2), (⟨"TextKeeper$PieceWriter", "writeByte", "(I)V"⟩, 2), (⟨"TextKeeper", "countFree", "()I"⟩, 9), (⟨"TextKeeper", "keptRevision", "(II)LTextKeeper$Revision;"⟩, 9), (⟨"TextKeeper", "isSound", "(LTextKeeper$Document;I)Z"⟩, 9)]
theorem lw_r1 : ∀ q ∈ lw_privs_1, lw_okq q := List.forall_mem_cons.mpr ⟨lw_p0, List.forall_mem_cons.mpr ⟨lw_p1, List.forall_mem_cons.mpr ⟨lw_p2, List.forall_mem_cons.mpr ⟨lw_p3, List.forall_mem_cons.mpr ⟨lw_p4, List.forall_mem_cons.mpr ⟨lw_p5, List.forall_mem_cons.mpr ⟨lw_p6, List.forall_mem_cons.mpr ⟨lw_p7, List.forall_mem_cons.mpr ⟨lw_p8, List.forall_mem_cons.mpr ⟨lw_p9, List.forall_mem_cons.mpr ⟨lw_p10, List.forall_mem_cons.mpr ⟨lw_p11, List.forall_mem_cons.mpr ⟨lw_p12, List.forall_mem_cons.mpr ⟨lw_p13, List.forall_mem_cons.mpr ⟨lw_p14, List.forall_mem_cons.mpr ⟨lw_p15, fun _ h => absurd h List.not_mem_nil⟩⟩⟩⟩⟩⟩⟩⟩⟩⟩⟩⟩⟩⟩⟩⟩
theorem lw_p16 : lw_okq (⟨"TextKeeperModel", "runs", "(I)Z"⟩, 27) := ⟨⟨by decide +kernel, by decide +kernel⟩, List.mem_of_getElem? (i := 587) (by decide +kernel), List.mem_of_getElem? (i := 682) (by decide +kernel), List.mem_of_getElem? (i := 683) (by decide +kernel)⟩
theorem lw_p17 : lw_okq (⟨"TextKeeperModel", "writes", "(I)Z"⟩, 27) := ⟨⟨by decide +kernel, by decide +kernel⟩, List.mem_of_getElem? (i := 587) (by decide +kernel), List.mem_of_getElem? (i := 694) (by decide +kernel), List.mem_of_getElem? (i := 695) (by decide +kernel)⟩
theorem lw_p18 : lw_okq (⟨"TextKeeperModel", "isDocument", "(I)Z"⟩, 27) := ⟨⟨by decide +kernel, by decide +kernel⟩, List.mem_of_getElem? (i := 587) (by decide +kernel), List.mem_of_getElem? (i := 702) (by decide +kernel), List.mem_of_getElem? (i := 703) (by decide +kernel)⟩
theorem lw_p19 : lw_okq (⟨"TextKeeperModel", "again", "(II)Z"⟩, 27) := ⟨⟨by decide +kernel, by decide +kernel⟩, List.mem_of_getElem? (i := 587) (by decide +kernel), List.mem_of_getElem? (i := 706) (by decide +kernel), List.mem_of_getElem? (i := 707) (by decide +kernel)⟩
theorem lw_p20 : lw_okq (⟨"TextKeeperModel", "makes", "(I)Z"⟩, 27) := ⟨⟨by decide +kernel, by decide +kernel⟩, List.mem_of_getElem? (i := 587) (by decide +kernel), List.mem_of_getElem? (i := 710) (by decide +kernel), List.mem_of_getElem? (i := 711) (by decide +kernel)⟩
theorem lw_p21 : lw_okq (⟨"TextKeeperModel", "begins", "(I)I"⟩, 27) := ⟨⟨by decide +kernel, by decide +kernel⟩, List.mem_of_getElem? (i := 587) (by decide +kernel), List.mem_of_getElem? (i := 714) (by decide +kernel), List.mem_of_getElem? (i := 715) (by decide +kernel)⟩
theorem lw_p22 : lw_okq (⟨"TextKeeperModel", "command", "()Z"⟩, 27) := ⟨⟨by decide +kernel, by decide +kernel⟩, List.mem_of_getElem? (i := 587) (by decide +kernel), List.mem_of_getElem? (i := 718) (by decide +kernel), List.mem_of_getElem? (i := 719) (by decide +kernel)⟩
theorem lw_p23 : lw_okq (⟨"TextKeeperModel", "number", "()Z"⟩, 27) := ⟨⟨by decide +kernel, by decide +kernel⟩, List.mem_of_getElem? (i := 587) (by decide +kernel), List.mem_of_getElem? (i := 722) (by decide +kernel), List.mem_of_getElem? (i := 723) (by decide +kernel)⟩
theorem lw_p24 : lw_okq (⟨"TextKeeperModel", "pieces", "()V"⟩, 27) := ⟨⟨by decide +kernel, by decide +kernel⟩, List.mem_of_getElem? (i := 587) (by decide +kernel), List.mem_of_getElem? (i := 726) (by decide +kernel), List.mem_of_getElem? (i := 727) (by decide +kernel)⟩
theorem lw_p25 : lw_okq (⟨"TextKeeperModel", "run", "(II)I"⟩, 27) := ⟨⟨by decide +kernel, by decide +kernel⟩, List.mem_of_getElem? (i := 587) (by decide +kernel), List.mem_of_getElem? (i := 730) (by decide +kernel), List.mem_of_getElem? (i := 731) (by decide +kernel)⟩
theorem lw_p26 : lw_okq (⟨"TextKeeperModel", "inserts", "(II)V"⟩, 27) := ⟨⟨by decide +kernel, by decide +kernel⟩, List.mem_of_getElem? (i := 587) (by decide +kernel), List.mem_of_getElem? (i := 734) (by decide +kernel), List.mem_of_getElem? (i := 735) (by decide +kernel)⟩
theorem lw_p27 : lw_okq (⟨"TextKeeperModel", "putNumber", "(I)V"⟩, 27) := ⟨⟨by decide +kernel, by decide +kernel⟩, List.mem_of_getElem? (i := 587) (by decide +kernel), List.mem_of_getElem? (i := 738) (by decide +kernel), List.mem_of_getElem? (i := 739) (by decide +kernel)⟩
theorem lw_p28 : lw_okq (⟨"TextKeeperModel", "put", "(I)V"⟩, 27) := ⟨⟨by decide +kernel, by decide +kernel⟩, List.mem_of_getElem? (i := 587) (by decide +kernel), List.mem_of_getElem? (i := 742) (by decide +kernel), List.mem_of_getElem? (i := 743) (by decide +kernel)⟩
theorem lw_p29 : lw_okq (⟨"TextKeeperModel", "free", "()I"⟩, 27) := ⟨⟨by decide +kernel, by decide +kernel⟩, List.mem_of_getElem? (i := 587) (by decide +kernel), List.mem_of_getElem? (i := 749) (by decide +kernel), List.mem_of_getElem? (i := 750) (by decide +kernel)⟩
theorem lw_p30 : lw_okq (⟨"TextKeeperModel", "sum", "([BI)I"⟩, 27) := ⟨⟨by decide +kernel, by decide +kernel⟩, List.mem_of_getElem? (i := 587) (by decide +kernel), List.mem_of_getElem? (i := 753) (by decide +kernel), List.mem_of_getElem? (i := 754) (by decide +kernel)⟩
theorem lw_p31 : lw_okq (⟨"TextKeeperModel", "isAsked", "(II)Z"⟩, 27) := ⟨⟨by decide +kernel, by decide +kernel⟩, List.mem_of_getElem? (i := 587) (by decide +kernel), List.mem_of_getElem? (i := 761) (by decide +kernel), List.mem_of_getElem? (i := 762) (by decide +kernel)⟩
def lw_privs_2 : List (MethodName × Nat) := [(⟨"TextKeeperModel", "runs", "(I)Z"⟩, 27), (⟨"TextKeeperModel", "writes", "(I)Z"⟩, 27), (⟨"TextKeeperModel", "isDocument", "(I)Z"⟩, 27), (⟨"TextKeeperModel", "again", "(II)Z"⟩, 27), (⟨"TextKeeperModel", "makes", "(I)Z"⟩, 27), (⟨"TextKeeperModel", "begins", "(I)I"⟩, 27), (⟨"TextKeeperModel", "command", "()Z"⟩, 27), (⟨"TextKeeperModel", "number", "()Z"⟩, 27), (⟨"TextKeeperModel", "pieces", "()V"⟩, 27), (⟨"TextKeeperModel", "run", "(II)I"⟩, 27), (⟨"TextKeeperModel", "inserts", "(II)V"⟩, 27), (⟨"TextKeeperModel", "putNumber", "(I)V"⟩, 27), (⟨"TextKeeperModel", "put", "(I)V"⟩, 27), (⟨"TextKeeperModel", "free", "()I"⟩, 27), (⟨"TextKeeperModel", "sum", "([BI)I"⟩, 27), (⟨"TextKeeperModel", "isAsked", "(II)Z"⟩, 27)]
theorem lw_r2 : ∀ q ∈ lw_privs_2, lw_okq q := List.forall_mem_cons.mpr ⟨lw_p16, List.forall_mem_cons.mpr ⟨lw_p17, List.forall_mem_cons.mpr ⟨lw_p18, List.forall_mem_cons.mpr ⟨lw_p19, List.forall_mem_cons.mpr ⟨lw_p20, List.forall_mem_cons.mpr ⟨lw_p21, List.forall_mem_cons.mpr ⟨lw_p22, List.forall_mem_cons.mpr ⟨lw_p23, List.forall_mem_cons.mpr ⟨lw_p24, List.forall_mem_cons.mpr ⟨lw_p25, List.forall_mem_cons.mpr ⟨lw_p26, List.forall_mem_cons.mpr ⟨lw_p27, List.forall_mem_cons.mpr ⟨lw_p28, List.forall_mem_cons.mpr ⟨lw_p29, List.forall_mem_cons.mpr ⟨lw_p30, List.forall_mem_cons.mpr ⟨lw_p31, fun _ h => absurd h List.not_mem_nil⟩⟩⟩⟩⟩⟩⟩⟩⟩⟩⟩⟩⟩⟩⟩⟩
theorem lw_p32 : lw_okq (⟨"TextKeeperModel", "cleans", "(I)V"⟩, 27) := ⟨⟨by decide +kernel, by decide +kernel⟩, List.mem_of_getElem? (i := 587) (by decide +kernel), List.mem_of_getElem? (i := 777) (by decide +kernel), List.mem_of_getElem? (i := 778) (by decide +kernel)⟩
theorem lw_p33 : lw_okq (⟨"TextKeeperModel", "drop", "(I)V"⟩, 27) := ⟨⟨by decide +kernel, by decide +kernel⟩, List.mem_of_getElem? (i := 587) (by decide +kernel), List.mem_of_getElem? (i := 784) (by decide +kernel), List.mem_of_getElem? (i := 785) (by decide +kernel)⟩
theorem lw_p34 : lw_okq (⟨"TextKeeperModel", "kept", "(II)I"⟩, 27) := ⟨⟨by decide +kernel, by decide +kernel⟩, List.mem_of_getElem? (i := 587) (by decide +kernel), List.mem_of_getElem? (i := 800) (by decide +kernel), List.mem_of_getElem? (i := 801) (by decide +kernel)⟩
def lw_privs_3 : List (MethodName × Nat) := [(⟨"TextKeeperModel", "cleans", "(I)V"⟩, 27), (⟨"TextKeeperModel", "drop", "(I)V"⟩, 27), (⟨"TextKeeperModel", "kept", "(II)I"⟩, 27)]
theorem lw_r3 : ∀ q ∈ lw_privs_3, lw_okq q := List.forall_mem_cons.mpr ⟨lw_p32, List.forall_mem_cons.mpr ⟨lw_p33, List.forall_mem_cons.mpr ⟨lw_p34, fun _ h => absurd h List.not_mem_nil⟩⟩⟩
def lw_privs : List (MethodName × Nat) := lw_privs_1 ++ (lw_privs_2 ++ (lw_privs_3))
def lw_tbl : List Cond := k2_sels lw_privs ++ tables_1
theorem lw_privs_ok : ∀ q ∈ lw_privs, lw_okq q := by
  show ∀ q ∈ lw_privs_1 ++ (lw_privs_2 ++ (lw_privs_3)), lw_okq q
  exact List.forall_mem_append.mpr ⟨lw_r1, List.forall_mem_append.mpr ⟨lw_r2, lw_r3⟩⟩
/-! names: classes, fields in the order of the slots, methods; by program out of the listing -/
def R_K : String := "TextKeeper"
def F_K : u_T := fun k => match k with
  | 0 => ("TextKeeper", "documents", "[LTextKeeper$Document;", true)
  | 1 => ("TextKeeper", "buffer", "LTextKeeper$Text;", true)
  | 2 => ("TextKeeper", "fetched", "LTextKeeper$Text;", true)
  | 3 => ("TextKeeper", "compared", "LTextKeeper$Text;", true)
  | 4 => ("TextKeeper", "maker", "LTextKeeper$Maker;", true)
  | 5 => ("TextKeeper", "writer", "LTextKeeper$PieceWriter;", true)
  | 6 => ("TextKeeper", "power", "LTextKeeper$Power;", true)
  | 7 => ("TextKeeper", "madeDocuments", "I", false)
  | _ => ("TextKeeper", "fetchedSteps", "I", false)
def ft_K : Nat → FieldType := fun k => match k with
  | 0 => .array (.object "TextKeeper$Document")
  | 1 => .object "TextKeeper$Text"
  | 2 => .object "TextKeeper$Text"
  | 3 => .object "TextKeeper$Text"
  | 4 => .object "TextKeeper$Maker"
  | 5 => .object "TextKeeper$PieceWriter"
  | 6 => .object "TextKeeper$Power"
  | 7 => .int
  | _ => .int
def R_T : String := "TextKeeper$Text"
def F_T : u_T := fun k => match k with
  | 0 => ("TextKeeper$Text", "bytes", "[B", true)
  | _ => ("TextKeeper$Text", "length", "I", false)
def ft_T : Nat → FieldType := fun k => match k with
  | 0 => .array .byte
  | _ => .int
def R_M : String := "TextKeeper$Maker"
def F_M : u_T := fun k => match k with
  | 0 => ("TextKeeper$Maker", "base", "LTextKeeper$Text;", false)
  | 1 => ("TextKeeper$Maker", "text", "LTextKeeper$Text;", false)
  | 2 => ("TextKeeper$Maker", "piece", "[B", false)
  | _ => ("TextKeeper$Maker", "at", "I", false)
def ft_M : Nat → FieldType := fun k => match k with
  | 0 => .object "TextKeeper$Text"
  | 1 => .object "TextKeeper$Text"
  | 2 => .array .byte
  | _ => .int
def R_W : String := "TextKeeper$PieceWriter"
def F_W : u_T := fun k => match k with
  | 0 => ("TextKeeper$PieceWriter", "row", "[B", true)
  | _ => ("TextKeeper$PieceWriter", "length", "I", false)
def ft_W : Nat → FieldType := fun k => match k with
  | 0 => .array .byte
  | _ => .int
def R_P : String := "TextKeeper$Power"
def F_P : u_T := fun k => match k with
  | 0 => ("TextKeeper$Power", "down", "Z", false)
  | 1 => ("TextKeeper$Power", "going", "Z", false)
  | _ => ("TextKeeper$Power", "writesLeft", "I", false)
def ft_P : Nat → FieldType := fun k => match k with
  | 0 => .boolean
  | 1 => .boolean
  | _ => .int
def R_D : String := "TextKeeper$Document"
def F_D : u_T := fun k => match k with
  | 0 => ("TextKeeper$Document", "revisions", "[LTextKeeper$Revision;", true)
  | 1 => ("TextKeeper$Document", "first", "I", false)
  | _ => ("TextKeeper$Document", "count", "I", false)
def ft_D : Nat → FieldType := fun k => match k with
  | 0 => .array (.object "TextKeeper$Revision")
  | 1 => .int
  | _ => .int
def R_V : String := "TextKeeper$Revision"
def F_V : u_T := fun k => match k with
  | 0 => ("TextKeeper$Revision", "piece", "[B", true)
  | 1 => ("TextKeeper$Revision", "author", "I", true)
  | _ => ("TextKeeper$Revision", "sum", "I", true)
def ft_V : Nat → FieldType := fun k => match k with
  | 0 => .array .byte
  | 1 => .int
  | _ => .int
def R_O : String := "TextKeeperModel"
def F_O : u_T := fun k => match k with
  | 0 => ("TextKeeperModel", "thrown", "I", false)
  | 1 => ("TextKeeperModel", "down", "Z", false)
  | 2 => ("TextKeeperModel", "lasts", "I", false)
  | 3 => ("TextKeeperModel", "buffer", "[B", true)
  | 4 => ("TextKeeperModel", "size", "I", false)
  | 5 => ("TextKeeperModel", "documents", "I", false)
  | 6 => ("TextKeeperModel", "gone", "[Z", true)
  | 7 => ("TextKeeperModel", "first", "[I", true)
  | 8 => ("TextKeeperModel", "many", "[I", true)
  | 9 => ("TextKeeperModel", "lengths", "[S", true)
  | 10 => ("TextKeeperModel", "authors", "[I", true)
  | 11 => ("TextKeeperModel", "sums", "[I", true)
  | 12 => ("TextKeeperModel", "row", "[B", true)
  | 13 => ("TextKeeperModel", "made", "[B", false)
  | 14 => ("TextKeeperModel", "madeSize", "I", false)
  | 15 => ("TextKeeperModel", "base", "[B", false)
  | 16 => ("TextKeeperModel", "baseSize", "I", false)
  | 17 => ("TextKeeperModel", "text", "[B", true)
  | 18 => ("TextKeeperModel", "textSize", "I", false)
  | 19 => ("TextKeeperModel", "textSteps", "I", false)
  | 20 => ("TextKeeperModel", "other", "[B", true)
  | 21 => ("TextKeeperModel", "otherSize", "I", false)
  | 22 => ("TextKeeperModel", "piece", "[B", true)
  | 23 => ("TextKeeperModel", "pieceSize", "I", false)
  | 24 => ("TextKeeperModel", "at", "I", false)
  | 25 => ("TextKeeperModel", "end", "I", false)
  | _ => ("TextKeeperModel", "value", "I", false)
def ft_O : Nat → FieldType := fun k => match k with
  | 0 => .int
  | 1 => .boolean
  | 2 => .int
  | 3 => .array .byte
  | 4 => .int
  | 5 => .int
  | 6 => .array .boolean
  | 7 => .array .int
  | 8 => .array .int
  | 9 => .array .short
  | 10 => .array .int
  | 11 => .array .int
  | 12 => .array .byte
  | 13 => .array .byte
  | 14 => .int
  | 15 => .array .byte
  | 16 => .int
  | 17 => .array .byte
  | 18 => .int
  | 19 => .int
  | 20 => .array .byte
  | 21 => .int
  | 22 => .array .byte
  | 23 => .int
  | 24 => .int
  | 25 => .int
  | _ => .int
def R_L : String := "TextKeeperLaw"
def R_A : String := "java/util/Arrays"
def R_I : String := "java/lang/Integer"
abbrev vwCl : List vw_C := [(R_K, F_K, 9), (R_T, F_T, 2), (R_M, F_M, 4), (R_W, F_W, 2), (R_P, F_P, 3), (R_D, F_D, 3), (R_V, F_V, 3), (R_O, F_O, 27)]
def y_K_init : MethodName := ⟨R_K, "<init>", "()V"⟩
def y_K_about : MethodName := ⟨R_K, "about", "(II)I"⟩
def y_K_baseOf : MethodName := ⟨R_K, "baseOf", "(I)I"⟩
def y_K_blocksFor : MethodName := ⟨R_K, "blocksFor", "(I)I"⟩
def y_K_commit : MethodName := ⟨R_K, "commit", "(II)I"⟩
def y_K_common : MethodName := ⟨R_K, "common", "(IIII)I"⟩
def y_K_countFree : MethodName := ⟨R_K, "countFree", "()I"⟩
def y_K_cutAfter : MethodName := ⟨R_K, "cutAfter", "(I)Z"⟩
def y_K_damage : MethodName := ⟨R_K, "damage", "(IIII)Z"⟩
def y_K_documentAt : MethodName := ⟨R_K, "documentAt", "(I)LTextKeeper$Document;"⟩
def y_K_dropDocument : MethodName := ⟨R_K, "dropDocument", "(I)Z"⟩
def y_K_end : MethodName := ⟨R_K, "end", "(I)Z"⟩
def y_K_feed : MethodName := ⟨R_K, "feed", "(IIIII)Z"⟩
def y_K_fetch : MethodName := ⟨R_K, "fetch", "(II)I"⟩
def y_K_freeBlocks : MethodName := ⟨R_K, "freeBlocks", "()I"⟩
def y_K_isDown : MethodName := ⟨R_K, "isDown", "()Z"⟩
def y_K_isSound : MethodName := ⟨R_K, "isSound", "(LTextKeeper$Document;I)Z"⟩
def y_K_keptRevision : MethodName := ⟨R_K, "keptRevision", "(II)LTextKeeper$Revision;"⟩
def y_K_make : MethodName := ⟨R_K, "make", "()I"⟩
def y_K_needPower : MethodName := ⟨R_K, "needPower", "()V"⟩
def y_K_out : MethodName := ⟨R_K, "out", "(I)I"⟩
def y_K_pieceByte : MethodName := ⟨R_K, "pieceByte", "(III)I"⟩
def y_K_revision : MethodName := ⟨R_K, "revision", "(III)I"⟩
def y_K_spendWrites : MethodName := ⟨R_K, "spendWrites", "(I)V"⟩
def y_K_start : MethodName := ⟨R_K, "start", "()Z"⟩
def y_K_steps : MethodName := ⟨R_K, "steps", "()I"⟩
def y_K_trim : MethodName := ⟨R_K, "trim", "(II)Z"⟩
def y_K_verify : MethodName := ⟨R_K, "verify", "(I)I"⟩
def y_D_init : MethodName := ⟨R_D, "<init>", "()V"⟩
def y_D_add : MethodName := ⟨R_D, "add", "(LTextKeeper$Revision;)V"⟩
def y_D_canBeAsked : MethodName := ⟨R_D, "canBeAsked", "(I)Z"⟩
def y_D_countBlocks : MethodName := ⟨R_D, "countBlocks", "()I"⟩
def y_D_cutBefore : MethodName := ⟨R_D, "cutBefore", "(I)V"⟩
def y_D_isFull : MethodName := ⟨R_D, "isFull", "()Z"⟩
def y_D_keptAt : MethodName := ⟨R_D, "keptAt", "(I)LTextKeeper$Revision;"⟩
def y_D_newest : MethodName := ⟨R_D, "newest", "()I"⟩
def y_M_init : MethodName := ⟨R_M, "<init>", "()V"⟩
def y_M_copy : MethodName := ⟨R_M, "copy", "(I)Z"⟩
def y_M_insert : MethodName := ⟨R_M, "insert", "(I)Z"⟩
def y_M_makeAgain : MethodName := ⟨R_M, "makeAgain", "(LTextKeeper$Document;I)LTextKeeper$Text;"⟩
def y_M_makeBase : MethodName := ⟨R_M, "makeBase", "(LTextKeeper$Document;I)LTextKeeper$Text;"⟩
def y_M_makeNext : MethodName := ⟨R_M, "makeNext", "(LTextKeeper$Document;I)Z"⟩
def y_M_obeyCommand : MethodName := ⟨R_M, "obeyCommand", "()Z"⟩
def y_M_readNumber : MethodName := ⟨R_M, "readNumber", "()I"⟩
def y_W_init : MethodName := ⟨R_W, "<init>", "()V"⟩
def y_W_digitsOf : MethodName := ⟨R_W, "digitsOf", "(I)I"⟩
def y_W_pieceOf : MethodName := ⟨R_W, "pieceOf", "(LTextKeeper$Text;LTextKeeper$Text;)[B"⟩
def y_W_placeOfLongest : MethodName := ⟨R_W, "placeOfLongest", "(LTextKeeper$Text;ILTextKeeper$Text;)I"⟩
def y_W_writeByte : MethodName := ⟨R_W, "writeByte", "(I)V"⟩
def y_W_writeDifferences : MethodName := ⟨R_W, "writeDifferences", "(LTextKeeper$Text;LTextKeeper$Text;)V"⟩
def y_W_writeInsert : MethodName := ⟨R_W, "writeInsert", "(LTextKeeper$Text;II)V"⟩
def y_W_writeNumber : MethodName := ⟨R_W, "writeNumber", "(I)V"⟩
def y_P_init : MethodName := ⟨R_P, "<init>", "()V"⟩
def y_P_comeBack : MethodName := ⟨R_P, "comeBack", "()V"⟩
def y_P_goAfter : MethodName := ⟨R_P, "goAfter", "(I)V"⟩
def y_P_lastsFor : MethodName := ⟨R_P, "lastsFor", "(I)Z"⟩
def y_V_init : MethodName := ⟨R_V, "<init>", "([BII)V"⟩
def y_V_hasByte : MethodName := ⟨R_V, "hasByte", "(I)Z"⟩
def y_T_init : MethodName := ⟨R_T, "<init>", "()V"⟩
def y_T_addByte : MethodName := ⟨R_T, "addByte", "(I)V"⟩
def y_T_addInt : MethodName := ⟨R_T, "addInt", "(I)V"⟩
def y_T_become : MethodName := ⟨R_T, "become", "(LTextKeeper$Text;)V"⟩
def y_T_byteAt : MethodName := ⟨R_T, "byteAt", "(I)I"⟩
def y_T_hasRoom : MethodName := ⟨R_T, "hasRoom", "(I)Z"⟩
def y_T_runBackWith : MethodName := ⟨R_T, "runBackWith", "(LTextKeeper$Text;I)I"⟩
def y_T_runWith : MethodName := ⟨R_T, "runWith", "(ILTextKeeper$Text;I)I"⟩
def y_T_shorten : MethodName := ⟨R_T, "shorten", "(I)Z"⟩
def y_T_sum : MethodName := ⟨R_T, "sum", "()I"⟩
def y_L_about : MethodName := ⟨R_L, "about", "(LTextKeeper;II[J)I"⟩
def y_L_commit : MethodName := ⟨R_L, "commit", "(LTextKeeper;II[J)I"⟩
def y_L_common : MethodName := ⟨R_L, "common", "(LTextKeeper;IIII[J)I"⟩
def y_L_cutAfter : MethodName := ⟨R_L, "cutAfter", "(LTextKeeper;I[J)I"⟩
def y_L_damage : MethodName := ⟨R_L, "damage", "(LTextKeeper;IIII[J)I"⟩
def y_L_dropDocument : MethodName := ⟨R_L, "dropDocument", "(LTextKeeper;I[J)I"⟩
def y_L_end : MethodName := ⟨R_L, "end", "(LTextKeeper;I[J)I"⟩
def y_L_feed : MethodName := ⟨R_L, "feed", "(LTextKeeper;IIIII[J)I"⟩
def y_L_fetch : MethodName := ⟨R_L, "fetch", "(LTextKeeper;II[J)I"⟩
def y_L_freeBlocks : MethodName := ⟨R_L, "freeBlocks", "(LTextKeeper;[J)I"⟩
def y_L_make : MethodName := ⟨R_L, "make", "(LTextKeeper;[J)I"⟩
def y_L_out : MethodName := ⟨R_L, "out", "(LTextKeeper;I[J)I"⟩
def y_L_pieceByte : MethodName := ⟨R_L, "pieceByte", "(LTextKeeper;III[J)I"⟩
def y_L_revision : MethodName := ⟨R_L, "revision", "(LTextKeeper;III[J)I"⟩
def y_L_steps : MethodName := ⟨R_L, "steps", "(LTextKeeper;[J)I"⟩
def y_L_trim : MethodName := ⟨R_L, "trim", "(LTextKeeper;II[J)I"⟩
def y_L_verify : MethodName := ⟨R_L, "verify", "(LTextKeeper;I[J)I"⟩
def y_O_init : MethodName := ⟨R_O, "<init>", "()V"⟩
def y_O_about : MethodName := ⟨R_O, "about", "(II)I"⟩
def y_O_again : MethodName := ⟨R_O, "again", "(II)Z"⟩
def y_O_begins : MethodName := ⟨R_O, "begins", "(I)I"⟩
def y_O_blocks : MethodName := ⟨R_O, "blocks", "(I)I"⟩
def y_O_cleans : MethodName := ⟨R_O, "cleans", "(I)V"⟩
def y_O_command : MethodName := ⟨R_O, "command", "()Z"⟩
def y_O_commit : MethodName := ⟨R_O, "commit", "(II)I"⟩
def y_O_common : MethodName := ⟨R_O, "common", "(IIII)I"⟩
def y_O_cutAfter : MethodName := ⟨R_O, "cutAfter", "(I)Z"⟩
def y_O_damage : MethodName := ⟨R_O, "damage", "(IIII)Z"⟩
def y_O_drop : MethodName := ⟨R_O, "drop", "(I)V"⟩
def y_O_dropDocument : MethodName := ⟨R_O, "dropDocument", "(I)Z"⟩
def y_O_end : MethodName := ⟨R_O, "end", "(I)Z"⟩
def y_O_feed : MethodName := ⟨R_O, "feed", "(IIIII)Z"⟩
def y_O_fetch : MethodName := ⟨R_O, "fetch", "(II)I"⟩
def y_O_free : MethodName := ⟨R_O, "free", "()I"⟩
def y_O_freeBlocks : MethodName := ⟨R_O, "freeBlocks", "()I"⟩
def y_O_inserts : MethodName := ⟨R_O, "inserts", "(II)V"⟩
def y_O_isAsked : MethodName := ⟨R_O, "isAsked", "(II)Z"⟩
def y_O_isDocument : MethodName := ⟨R_O, "isDocument", "(I)Z"⟩
def y_O_isDown : MethodName := ⟨R_O, "isDown", "()Z"⟩
def y_O_isUnder : MethodName := ⟨R_O, "isUnder", "(II)Z"⟩
def y_O_kept : MethodName := ⟨R_O, "kept", "(II)I"⟩
def y_O_make : MethodName := ⟨R_O, "make", "()I"⟩
def y_O_makes : MethodName := ⟨R_O, "makes", "(I)Z"⟩
def y_O_number : MethodName := ⟨R_O, "number", "()Z"⟩
def y_O_out : MethodName := ⟨R_O, "out", "(I)I"⟩
def y_O_pieceByte : MethodName := ⟨R_O, "pieceByte", "(III)I"⟩
def y_O_pieces : MethodName := ⟨R_O, "pieces", "()V"⟩
def y_O_put : MethodName := ⟨R_O, "put", "(I)V"⟩
def y_O_putNumber : MethodName := ⟨R_O, "putNumber", "(I)V"⟩
def y_O_revision : MethodName := ⟨R_O, "revision", "(III)I"⟩
def y_O_run : MethodName := ⟨R_O, "run", "(II)I"⟩
def y_O_runs : MethodName := ⟨R_O, "runs", "(I)Z"⟩
def y_O_start : MethodName := ⟨R_O, "start", "()Z"⟩
def y_O_steps : MethodName := ⟨R_O, "steps", "()I"⟩
def y_O_sum : MethodName := ⟨R_O, "sum", "([BI)I"⟩
def y_O_trim : MethodName := ⟨R_O, "trim", "(II)Z"⟩
def y_O_verify : MethodName := ⟨R_O, "verify", "(I)I"⟩
def y_O_writes : MethodName := ⟨R_O, "writes", "(I)Z"⟩
def y_I_bitCount : MethodName := ⟨R_I, "bitCount", "(I)I"⟩
def y_A_copyOf : MethodName := ⟨R_A, "copyOf", "([BI)[B"⟩
